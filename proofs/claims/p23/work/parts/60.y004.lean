set_option maxHeartbeats 4000000 in
set_option maxRecDepth 100000 in
theorem sY_X11_don_1 (NF : Nat) (l : Launch) (dC : Nat → ClassId) (dI : Nat → Nat → Nat) (cy : Nat → ClassId) (y0 : Nat) (r : Nat → Nat) (p1 : Int32) (p2 : Int32) (v : Nat → Int32) (f : Nat → Nat → Int32) (w : Int64) (g : Nat → Int64) (hIv : YI v) (hCf : YC f) (hRf : progOK (f 4) (f 5) (v 9).toInt.toNat)  : ctI l (dC, dI) cy yX11_don cX11_don 4 .int 3 103 0 0 ((Nat → Int32) × (Nat → Nat → Int32) × (Int64) × (Nat → Int64)) [.ref y0, .int p1, .int p2] (YW cy y0 r v f w g) (fun r u => gsY_X11_don_1 NF p1 p2 v f w g = (r, u) ∧ KV [35, 36] u.1 v ∧ KF [23, 24, 25] u.2.1 f ∧ YI u.1 ∧ YC u.2.1 ∧ progOK (u.2.1 4) (u.2.1 5) (u.1 9).toInt.toNat ∧ u.1 0 = v 0 ∧ u.1 1 = v 1 ∧ u.1 2 = v 2 ∧ u.1 3 = v 3 ∧ u.1 4 = v 4 ∧ u.1 5 = v 5 ∧ u.1 8 = v 8 ∧ u.1 9 = v 9 ∧ u.1 10 = v 10 ∧ u.1 13 = v 13 ∧ u.1 14 = v 14 ∧ u.1 15 = v 15 ∧ u.1 17 = v 17 ∧ u.1 18 = v 18 ∧ u.1 24 = v 24 ∧ u.1 25 = v 25 ∧ u.1 38 = v 38 ∧ u.1 39 = v 39) (fun u => YW cy y0 r u.1 u.2.1 u.2.2.1 u.2.2.2) := by
  refine ctI_of (by decide) (Nat.le_of_ble_eq_true rfl) (fun p e s m below meth c A ls Q hx hb hml hts hown hE hP hD hA hl ret => ?_)
  have hM_v : KV [35, 36] v v := fun _ _ => rfl
  have hA_f : KF [23, 24, 25] f f := fun _ _ => rfl
  have hown : s.vm.findClass RX11 = some m.cls := hown
  have hS : va_S A s.heap s.heap [] := va_S.rf
  have hl : lv_has ls 4 [(0, .ref y0), (1, .int p1), (2, .int p2)] := hl
  refine lv_aload_n hx hb dX11_don_0 rfl (lv_at hl 0 rfl) ?_
  refine cbVv (n := 0) (rest := []) hx hb hml hown hts hE hP hD hS hA (sY_X11_fill_1 NF l dC dI cy y0 r  v f w g hIv hCf hRf ) k_1739 k_1741 k_71 k_114 k_1742 hd_yX11_fill ⟨Nat.le_of_ble_eq_true rfl, Nat.le_of_ble_eq_true rfl⟩ 0 11 rfl rfl (rfl) hl.1 rfl (Nat.le_of_ble_eq_true rfl) dX11_don_1 (fun u H locs hw hP hD hS => ?_)
  obtain ⟨hG1, hw⟩ := hw
  obtain ⟨v2, f3, w4, g5⟩ := u
  obtain ⟨kV_v2, kF_f3, hIv2, hCf3, hRf3, hk0_v2, hk1_v2, hk2_v2, hk3_v2, hk4_v2, hk5_v2, hk8_v2, hk9_v2, hk10_v2, hk13_v2, hk14_v2, hk15_v2, hk17_v2, hk18_v2, hk24_v2, hk25_v2, hk35_v2, hk36_v2, hk38_v2, hk39_v2⟩ := hw
  have hM_v2 : KV [35, 36] v2 v := KV.tr kV_v2 hM_v rfl
  have hA_f3 : KF [23, 24, 25] f3 f := KF.tr kF_f3 hA_f rfl
  have hP : va_P (dC, dI) vwCl (YW cy y0 r v2 f3 w4 g5) H := hP
  have hD : va_D A (YW cy y0 r v2 f3 w4 g5) := hD
  refine lv_aload_n hx hb dX11_don_4 rfl (lv_at hl 0 rfl) ?_
  refine lv_iload_n hx hb dX11_don_5 rfl (lv_at hl 1 rfl) ?_
  refine cbVi (n := 1) (rest := []) hx hb hml hown hts hE hP hD hS hA (sY_X11_isMan_1 NF l dC dI cy y0 r p1 v2 f3 w4 g5 hIv2 hCf3 hRf3 ) k_1732 k_1734 k_70 k_114 k_1735 hd_yX11_isMan ⟨Nat.le_of_ble_eq_true rfl, Nat.le_of_ble_eq_true rfl⟩ 0 11 rfl rfl (rfl) hl.1 rfl (Nat.le_of_ble_eq_true rfl) dX11_don_6 (fun r6 u H locs hw hP hD hS => ?_)
  obtain ⟨hG7, hw⟩ := hw
  rcases hw with ⟨g8, g8_0, g8_1, g8_2⟩ | ⟨g8⟩
  · skip
    subst g8
    refine lv_if_eq (tgt := 28) hx hb dX11_don_9 rfl (fun c0 => absurd c0 (by decide)) (fun _ => ?_)
    refine lv_aload_n hx hb dX11_don_12 rfl (lv_at hl 0 rfl) ?_
    refine lv_iload_n hx hb dX11_don_13 rfl (lv_at hl 2 rfl) ?_
    refine cbVi (n := 1) (rest := []) hx hb hml hown hts hE hP hD hS hA (sY_X11_isCoat_1 NF l dC dI cy y0 r p2 v2 f3 w4 g5 hIv2 hCf3 hRf3 ) k_1771 k_1773 k_75 k_114 k_1774 hd_yX11_isCoat ⟨Nat.le_of_ble_eq_true rfl, Nat.le_of_ble_eq_true rfl⟩ 0 11 rfl rfl (rfl) hl.1 rfl (Nat.le_of_ble_eq_true rfl) dX11_don_14 (fun r9 u H locs hw hP hD hS => ?_)
    obtain ⟨hG10, hw⟩ := hw
    rcases hw with ⟨g11, g11_0, g11_1, g11_2⟩ | ⟨g11⟩
    · skip
      subst g11
      refine lv_if_eq (tgt := 28) hx hb dX11_don_17 rfl (fun c0 => absurd c0 (by decide)) (fun _ => ?_)
      refine lv_aload_n hx hb dX11_don_20 rfl (lv_at hl 0 rfl) ?_
      refine lv_iload_n hx hb dX11_don_21 rfl (lv_at hl 2 rfl) ?_
      refine cbVi (n := 1) (rest := []) hx hb hml hown hts hE hP hD hS hA (sY_X11_wearer_1 NF l dC dI cy y0 r p2 v2 f3 w4 g5 hIv2 hCf3 hRf3 ) k_1775 k_1777 k_76 k_114 k_1778 hd_yX11_wearer ⟨Nat.le_of_ble_eq_true rfl, Nat.le_of_ble_eq_true rfl⟩ 0 11 rfl rfl (rfl) hl.1 rfl (Nat.le_of_ble_eq_true rfl) dX11_don_22 (fun r12 u H locs hw hP hD hS => ?_)
      have hG13 := hw
      refine lv_if_lt (tgt := 31) hx hb dX11_don_25 rfl (fun c14 => ?_) (fun c14 => ?_)
      · skip
        refine lv_aload_n hx hb dX11_don_31 rfl (lv_at hl 0 rfl) ?_
        refine cbVv (n := 0) (rest := []) hx hb hml hown hts hE hP hD hS hA (sY_X11_act_1 NF l dC dI cy y0 r  v2 f3 w4 g5 hIv2 hCf3 hRf3 ) k_1787 k_1789 k_77 k_114 k_1790 hd_yX11_act ⟨Nat.le_of_ble_eq_true rfl, Nat.le_of_ble_eq_true rfl⟩ 0 11 rfl rfl (rfl) hl.1 rfl (Nat.le_of_ble_eq_true rfl) dX11_don_32 (fun u H locs hw hP hD hS => ?_)
        obtain ⟨hG15, hw⟩ := hw
        obtain ⟨v16, f17, w18, g19⟩ := u
        obtain ⟨kV_v16, kF_f17, hIv16, hCf17, hRf17, hk0_v16, hk1_v16, hk2_v16, hk3_v16, hk4_v16, hk5_v16, hk8_v16, hk9_v16, hk10_v16, hk13_v16, hk14_v16, hk15_v16, hk17_v16, hk18_v16, hk24_v16, hk25_v16, hk38_v16, hk39_v16⟩ := hw
        have hM_v16 : KV [35, 36] v16 v := KV.tr kV_v16 hM_v2 rfl
        have hA_f17 : KF [23, 24, 25] f17 f := KF.tr kF_f17 hA_f3 rfl
        have hP : va_P (dC, dI) vwCl (YW cy y0 r v16 f17 w18 g19) H := hP
        have hD : va_D A (YW cy y0 r v16 f17 w18 g19) := hD
        refine lv_aload_n hx hb dX11_don_35 rfl (lv_at hl 0 rfl) ?_
        refine va_get (D := (dC, dI)) (ci := 11) (v := .ref (r 59)) (C := RX11) (T := TX11) (N := 79) hx hb hts inB_11 hown hE.1 hP 0 rfl rfl 59 (Nat.le_of_ble_eq_true rfl) (hts _ k_1379) (fun _ h9 => h9) rfl dX11_don_36 ?_
        refine lv_bipush (v := 6) hx hb dX11_don_39 rfl ?_
        refine lv_iload_n hx hb dX11_don_41 rfl (lv_at hl 1 rfl) ?_
        refine lv_iadd hx hb dX11_don_42 ?_
        refine lv_topi (fun t20 et20 => ?_)
        have zt20 : t20.toInt = 6 + p1.toInt := (congrArg Int32.toInt et20).trans (add_i tc_6 rfl (om_183 g8_0) (om_184 g8_2))
        refine ldI hx hb hE hP 24 rfl (vpI (k := 39) rfl (show 0 ≤ t20.toInt from om_185 g8_0 zt20) (show t20.toInt < 39 from om_606 g8_2 zt20)) rfl rfl dX11_don_43 ?_
        refine lv_topi (fun t22 et22 => ?_)
        refine lv_istore_n (lv' := [(3, .int t22), (0, .ref y0), (1, .int p1), (2, .int p2)]) hx hb dX11_don_44 rfl hl (Nat.le_of_ble_eq_true rfl) rfl (fun ls hl => ?_)
        refine lv_aload_n hx hb dX11_don_45 rfl (lv_at hl 1 rfl) ?_
        refine va_get (D := (dC, dI)) (ci := 11) (v := .ref (r 59)) (C := RX11) (T := TX11) (N := 79) hx hb hts inB_11 hown hE.1 hP 0 rfl rfl 59 (Nat.le_of_ble_eq_true rfl) (hts _ k_1379) (fun _ h9 => h9) rfl dX11_don_46 ?_
        refine lv_bipush (v := 6) hx hb dX11_don_49 rfl ?_
        refine lv_iload_n hx hb dX11_don_51 rfl (lv_at hl 2 rfl) ?_
        refine lv_iadd hx hb dX11_don_52 ?_
        refine tI (y := t20) et20.symm ?_
        refine lv_iload_n hx hb dX11_don_53 rfl (lv_at hl 3 rfl) ?_
        refine stI hx hb hE hP hD hS 24 rfl (vpI (k := 39) rfl (show 0 ≤ t20.toInt from om_185 g8_0 zt20) (show t20.toInt < 39 from om_606 g8_2 zt20)) rfl dX11_don_54 (fun H locs hP hD hS => ?_)
        obtain ⟨f23, ef23, hP, hD⟩ : ∃ fz9, fz9 = upd2 f17 23 (upd (f17 23) t20.toNatClampNeg p2) ∧ va_P (dC, dI) vwCl (YW cy y0 r v16 fz9 w18 g19) H ∧ va_D A (YW cy y0 r v16 fz9 w18 g19) := ⟨_, rfl, hP, hD⟩
        have hCf23 : YC f23 := by rw [ef23]; exact ⟨(wear_st hCf17.1 (show t20.toInt.toNat % 39 < 6 ∨ 12 ≤ t20.toInt.toNat % 39 ∨ (-1 ≤ p2.toInt ∧ p2.toInt ≤ 5) from om_608 g11_0 g11_2)), hCf17.2.1, hCf17.2.2.1, hCf17.2.2.2.1, hCf17.2.2.2.2.1, hCf17.2.2.2.2.2⟩
        have hRf23 : progOK (f23 4) (f23 5) (v16 9).toInt.toNat := by rw [ef23]; exact hRf17
        have hA_f23 : KF [23, 24, 25] f23 f := by rw [ef23]; exact KF.up hA_f17 rfl
        refine lv_iload_n hx hb dX11_don_55 rfl (lv_at hl 0 rfl) ?_
        exact ret t22 (v16, f23, w18, g19) _ _ _ _ _ _ rfl ⟨(gsY_X11_don_1_q0 hG1 hG7 hG10 hG13.symm c14 hG15 et20 et22 ef23), hM_v16, hA_f23, hIv16, hCf23, hRf23, (hk0_v16.trans hk0_v2), (hk1_v16.trans hk1_v2), (hk2_v16.trans hk2_v2), (hk3_v16.trans hk3_v2), (hk4_v16.trans hk4_v2), (hk5_v16.trans hk5_v2), (hk8_v16.trans hk8_v2), (hk9_v16.trans hk9_v2), (hk10_v16.trans hk10_v2), (hk13_v16.trans hk13_v2), (hk14_v16.trans hk14_v2), (hk15_v16.trans hk15_v2), (hk17_v16.trans hk17_v2), (hk18_v16.trans hk18_v2), (hk24_v16.trans hk24_v2), (hk25_v16.trans hk25_v2), (hk38_v16.trans hk38_v2), (hk39_v16.trans hk39_v2)⟩ hP hD hS dX11_don_56 (Nat.le_refl _) (Nat.le_refl _)
      · skip
        refine lv_bipush (v := (-2)) hx hb dX11_don_28 rfl ?_
        exact ret (-2) (v2, f3, w4, g5) _ _ _ _ _ _ rfl ⟨(gsY_X11_don_1_q1 hG1 hG7 hG10 hG13.symm c14), hM_v2, hA_f3, hIv2, hCf3, hRf3, hk0_v2, hk1_v2, hk2_v2, hk3_v2, hk4_v2, hk5_v2, hk8_v2, hk9_v2, hk10_v2, hk13_v2, hk14_v2, hk15_v2, hk17_v2, hk18_v2, hk24_v2, hk25_v2, hk38_v2, hk39_v2⟩ hP hD hS dX11_don_30 (Nat.le_refl _) (Nat.le_refl _)
    · skip
      subst g11
      refine lv_if_eq (tgt := 28) hx hb dX11_don_17 rfl (fun _ => ?_) (fun c0 => absurd (by decide) c0)
      refine lv_bipush (v := (-2)) hx hb dX11_don_28 rfl ?_
      exact ret (-2) (v2, f3, w4, g5) _ _ _ _ _ _ rfl ⟨(gsY_X11_don_1_q2 hG1 hG7 hG10), hM_v2, hA_f3, hIv2, hCf3, hRf3, hk0_v2, hk1_v2, hk2_v2, hk3_v2, hk4_v2, hk5_v2, hk8_v2, hk9_v2, hk10_v2, hk13_v2, hk14_v2, hk15_v2, hk17_v2, hk18_v2, hk24_v2, hk25_v2, hk38_v2, hk39_v2⟩ hP hD hS dX11_don_30 (Nat.le_refl _) (Nat.le_refl _)
  · skip
    subst g8
    refine lv_if_eq (tgt := 28) hx hb dX11_don_9 rfl (fun _ => ?_) (fun c0 => absurd (by decide) c0)
    refine lv_bipush (v := (-2)) hx hb dX11_don_28 rfl ?_
    exact ret (-2) (v2, f3, w4, g5) _ _ _ _ _ _ rfl ⟨(gsY_X11_don_1_q3 hG1 hG7), hM_v2, hA_f3, hIv2, hCf3, hRf3, hk0_v2, hk1_v2, hk2_v2, hk3_v2, hk4_v2, hk5_v2, hk8_v2, hk9_v2, hk10_v2, hk13_v2, hk14_v2, hk15_v2, hk17_v2, hk18_v2, hk24_v2, hk25_v2, hk38_v2, hk39_v2⟩ hP hD hS dX11_don_30 (Nat.le_refl _) (Nat.le_refl _)
set_option maxHeartbeats 4000000 in
set_option maxRecDepth 100000 in
theorem sY_X11_doff_1 (NF : Nat) (l : Launch) (dC : Nat → ClassId) (dI : Nat → Nat → Nat) (cy : Nat → ClassId) (y0 : Nat) (r : Nat → Nat) (p1 : Int32) (v : Nat → Int32) (f : Nat → Nat → Int32) (w : Int64) (g : Nat → Int64) (hIv : YI v) (hCf : YC f) (hRf : progOK (f 4) (f 5) (v 9).toInt.toNat)  : ctI l (dC, dI) cy yX11_doff cX11_doff 3 .int 3 103 0 0 ((Nat → Int32) × (Nat → Nat → Int32) × (Int64) × (Nat → Int64)) [.ref y0, .int p1] (YW cy y0 r v f w g) (fun r u => gsY_X11_doff_1 NF p1 v f w g = (r, u) ∧ KV [35, 36] u.1 v ∧ KF [23, 24, 25] u.2.1 f ∧ YI u.1 ∧ YC u.2.1 ∧ progOK (u.2.1 4) (u.2.1 5) (u.1 9).toInt.toNat ∧ u.1 0 = v 0 ∧ u.1 1 = v 1 ∧ u.1 2 = v 2 ∧ u.1 3 = v 3 ∧ u.1 4 = v 4 ∧ u.1 5 = v 5 ∧ u.1 8 = v 8 ∧ u.1 9 = v 9 ∧ u.1 10 = v 10 ∧ u.1 13 = v 13 ∧ u.1 14 = v 14 ∧ u.1 15 = v 15 ∧ u.1 17 = v 17 ∧ u.1 18 = v 18 ∧ u.1 24 = v 24 ∧ u.1 25 = v 25 ∧ u.1 38 = v 38 ∧ u.1 39 = v 39) (fun u => YW cy y0 r u.1 u.2.1 u.2.2.1 u.2.2.2) := by
  refine ctI_of (by decide) (Nat.le_of_ble_eq_true rfl) (fun p e s m below meth c A ls Q hx hb hml hts hown hE hP hD hA hl ret => ?_)
  have hM_v : KV [35, 36] v v := fun _ _ => rfl
  have hA_f : KF [23, 24, 25] f f := fun _ _ => rfl
  have hown : s.vm.findClass RX11 = some m.cls := hown
  have hS : va_S A s.heap s.heap [] := va_S.rf
  have hl : lv_has ls 3 [(0, .ref y0), (1, .int p1)] := hl
  refine lv_aload_n hx hb dX11_doff_0 rfl (lv_at hl 0 rfl) ?_
  refine lv_iload_n hx hb dX11_doff_1 rfl (lv_at hl 1 rfl) ?_
  refine cbVi (n := 1) (rest := []) hx hb hml hown hts hE hP hD hS hA (sY_X11_isMan_1 NF l dC dI cy y0 r p1 v f w g hIv hCf hRf ) k_1732 k_1734 k_70 k_114 k_1735 hd_yX11_isMan ⟨Nat.le_of_ble_eq_true rfl, Nat.le_of_ble_eq_true rfl⟩ 0 11 rfl rfl (rfl) hl.1 rfl (Nat.le_of_ble_eq_true rfl) dX11_doff_2 (fun r1 u H locs hw hP hD hS => ?_)
  obtain ⟨hG2, hw⟩ := hw
  rcases hw with ⟨g3, g3_0, g3_1, g3_2⟩ | ⟨g3⟩
  · skip
    subst g3
    refine lv_if_eq (tgt := 20) hx hb dX11_doff_5 rfl (fun c0 => absurd c0 (by decide)) (fun _ => ?_)
    refine lv_aload_n hx hb dX11_doff_8 rfl (lv_at hl 0 rfl) ?_
    refine va_get (D := (dC, dI)) (ci := 11) (v := .ref (r 59)) (C := RX11) (T := TX11) (N := 79) hx hb hts inB_11 hown hE.1 hP 0 rfl rfl 59 (Nat.le_of_ble_eq_true rfl) (hts _ k_1379) (fun _ h9 => h9) rfl dX11_doff_9 ?_
    refine lv_bipush (v := 6) hx hb dX11_doff_12 rfl ?_
    refine lv_iload_n hx hb dX11_doff_14 rfl (lv_at hl 1 rfl) ?_
    refine lv_iadd hx hb dX11_doff_15 ?_
    refine lv_topi (fun t4 et4 => ?_)
    have zt4 : t4.toInt = 6 + p1.toInt := (congrArg Int32.toInt et4).trans (add_i tc_6 rfl (om_183 g3_0) (om_184 g3_2))
    refine ldI hx hb hE hP 24 rfl (vpI (k := 39) rfl (show 0 ≤ t4.toInt from om_185 g3_0 zt4) (show t4.toInt < 39 from om_606 g3_2 zt4)) rfl rfl dX11_doff_16 ?_
    refine lv_topi (fun t6 et6 => ?_)
    refine lv_if_ge (tgt := 22) hx hb dX11_doff_17 rfl (fun c7 => ?_) (fun c7 => ?_)
    · skip
      refine lv_aload_n hx hb dX11_doff_22 rfl (lv_at hl 0 rfl) ?_
      refine cbVv (n := 0) (rest := []) hx hb hml hown hts hE hP hD hS hA (sY_X11_act_1 NF l dC dI cy y0 r  v f w g hIv hCf hRf ) k_1787 k_1789 k_77 k_114 k_1790 hd_yX11_act ⟨Nat.le_of_ble_eq_true rfl, Nat.le_of_ble_eq_true rfl⟩ 0 11 rfl rfl (rfl) hl.1 rfl (Nat.le_of_ble_eq_true rfl) dX11_doff_23 (fun u H locs hw hP hD hS => ?_)
      obtain ⟨hG8, hw⟩ := hw
      obtain ⟨v9, f10, w11, g12⟩ := u
      obtain ⟨kV_v9, kF_f10, hIv9, hCf10, hRf10, hk0_v9, hk1_v9, hk2_v9, hk3_v9, hk4_v9, hk5_v9, hk8_v9, hk9_v9, hk10_v9, hk13_v9, hk14_v9, hk15_v9, hk17_v9, hk18_v9, hk24_v9, hk25_v9, hk38_v9, hk39_v9⟩ := hw
      have hM_v9 : KV [35, 36] v9 v := KV.tr kV_v9 hM_v rfl
      have hA_f10 : KF [23, 24, 25] f10 f := KF.tr kF_f10 hA_f rfl
      have hP : va_P (dC, dI) vwCl (YW cy y0 r v9 f10 w11 g12) H := hP
      have hD : va_D A (YW cy y0 r v9 f10 w11 g12) := hD
      refine lv_aload_n hx hb dX11_doff_26 rfl (lv_at hl 0 rfl) ?_
      refine va_get (D := (dC, dI)) (ci := 11) (v := .ref (r 59)) (C := RX11) (T := TX11) (N := 79) hx hb hts inB_11 hown hE.1 hP 0 rfl rfl 59 (Nat.le_of_ble_eq_true rfl) (hts _ k_1379) (fun _ h9 => h9) rfl dX11_doff_27 ?_
      refine lv_bipush (v := 6) hx hb dX11_doff_30 rfl ?_
      refine lv_iload_n hx hb dX11_doff_32 rfl (lv_at hl 1 rfl) ?_
      refine lv_iadd hx hb dX11_doff_33 ?_
      refine tI (y := t4) et4.symm ?_
      refine ldI hx hb hE hP 24 rfl (vpI (k := 39) rfl (show 0 ≤ t4.toInt from om_185 g3_0 zt4) (show t4.toInt < 39 from om_606 g3_2 zt4)) rfl rfl dX11_doff_34 ?_
      refine lv_topi (fun t13 et13 => ?_)
      refine lv_istore_n (lv' := [(2, .int t13), (0, .ref y0), (1, .int p1)]) hx hb dX11_doff_35 rfl hl (Nat.le_of_ble_eq_true rfl) rfl (fun ls hl => ?_)
      refine lv_aload_n hx hb dX11_doff_36 rfl (lv_at hl 1 rfl) ?_
      refine va_get (D := (dC, dI)) (ci := 11) (v := .ref (r 59)) (C := RX11) (T := TX11) (N := 79) hx hb hts inB_11 hown hE.1 hP 0 rfl rfl 59 (Nat.le_of_ble_eq_true rfl) (hts _ k_1379) (fun _ h9 => h9) rfl dX11_doff_37 ?_
      refine lv_bipush (v := 6) hx hb dX11_doff_40 rfl ?_
      refine lv_iload_n hx hb dX11_doff_42 rfl (lv_at hl 2 rfl) ?_
      refine lv_iadd hx hb dX11_doff_43 ?_
      refine tI (y := t4) et4.symm ?_
      refine lv_iconst (v := (-1)) hx hb dX11_doff_44 rfl ?_
      refine stI hx hb hE hP hD hS 24 rfl (vpI (k := 39) rfl (show 0 ≤ t4.toInt from om_185 g3_0 zt4) (show t4.toInt < 39 from om_606 g3_2 zt4)) rfl dX11_doff_45 (fun H locs hP hD hS => ?_)
      obtain ⟨f14, ef14, hP, hD⟩ : ∃ fz9, fz9 = upd2 f10 23 (upd (f10 23) t4.toNatClampNeg (-1)) ∧ va_P (dC, dI) vwCl (YW cy y0 r v9 fz9 w11 g12) H ∧ va_D A (YW cy y0 r v9 fz9 w11 g12) := ⟨_, rfl, hP, hD⟩
      have hCf14 : YC f14 := by rw [ef14]; exact ⟨(wear_st hCf10.1 (show t4.toInt.toNat % 39 < 6 ∨ 12 ≤ t4.toInt.toNat % 39 ∨ (-1 ≤ ((-1) : Int32).toInt ∧ ((-1) : Int32).toInt ≤ 5) from om_478 tc_m1)), hCf10.2.1, hCf10.2.2.1, hCf10.2.2.2.1, hCf10.2.2.2.2.1, hCf10.2.2.2.2.2⟩
      have hRf14 : progOK (f14 4) (f14 5) (v9 9).toInt.toNat := by rw [ef14]; exact hRf10
      have hA_f14 : KF [23, 24, 25] f14 f := by rw [ef14]; exact KF.up hA_f10 rfl
      refine lv_iload_n hx hb dX11_doff_46 rfl (lv_at hl 0 rfl) ?_
      exact ret t13 (v9, f14, w11, g12) _ _ _ _ _ _ rfl ⟨(gsY_X11_doff_1_q0 hG2 et4 et6 c7 hG8 et13 ef14), hM_v9, hA_f14, hIv9, hCf14, hRf14, hk0_v9, hk1_v9, hk2_v9, hk3_v9, hk4_v9, hk5_v9, hk8_v9, hk9_v9, hk10_v9, hk13_v9, hk14_v9, hk15_v9, hk17_v9, hk18_v9, hk24_v9, hk25_v9, hk38_v9, hk39_v9⟩ hP hD hS dX11_doff_47 (Nat.le_refl _) (Nat.le_refl _)
    · skip
      refine lv_iconst (v := (-1)) hx hb dX11_doff_20 rfl ?_
      exact ret (-1) (v, f, w, g) _ _ _ _ _ _ rfl ⟨(gsY_X11_doff_1_q1 hG2 et4 et6 c7), hM_v, hA_f, hIv, hCf, hRf, rfl, rfl, rfl, rfl, rfl, rfl, rfl, rfl, rfl, rfl, rfl, rfl, rfl, rfl, rfl, rfl, rfl, rfl⟩ hP hD hS dX11_doff_21 (Nat.le_refl _) (Nat.le_refl _)
  · skip
    subst g3
    refine lv_if_eq (tgt := 20) hx hb dX11_doff_5 rfl (fun _ => ?_) (fun c0 => absurd (by decide) c0)
    refine lv_iconst (v := (-1)) hx hb dX11_doff_20 rfl ?_
    exact ret (-1) (v, f, w, g) _ _ _ _ _ _ rfl ⟨(gsY_X11_doff_1_q2 hG2), hM_v, hA_f, hIv, hCf, hRf, rfl, rfl, rfl, rfl, rfl, rfl, rfl, rfl, rfl, rfl, rfl, rfl, rfl, rfl, rfl, rfl, rfl, rfl⟩ hP hD hS dX11_doff_21 (Nat.le_refl _) (Nat.le_refl _)
set_option maxHeartbeats 4000000 in
set_option maxRecDepth 100000 in
theorem sY_X11_letout_1 (NF : Nat) (l : Launch) (dC : Nat → ClassId) (dI : Nat → Nat → Nat) (cy : Nat → ClassId) (y0 : Nat) (r : Nat → Nat) (p1 : Int32) (p2 : Int32) (v : Nat → Int32) (f : Nat → Nat → Int32) (w : Int64) (g : Nat → Int64) (hIv : YI v) (hCf : YC f) (hRf : progOK (f 4) (f 5) (v 9).toInt.toNat)  : ctI l (dC, dI) cy yX11_letout cX11_letout 3 .int 3 103 0 0 ((Nat → Int32) × (Nat → Nat → Int32) × (Int64) × (Nat → Int64)) [.ref y0, .int p1, .int p2] (YW cy y0 r v f w g) (fun r u => gsY_X11_letout_1 NF p1 p2 v f w g = (r, u) ∧ KV [35, 36] u.1 v ∧ KF [23, 24, 25] u.2.1 f ∧ YI u.1 ∧ YC u.2.1 ∧ progOK (u.2.1 4) (u.2.1 5) (u.1 9).toInt.toNat ∧ u.1 0 = v 0 ∧ u.1 1 = v 1 ∧ u.1 2 = v 2 ∧ u.1 3 = v 3 ∧ u.1 4 = v 4 ∧ u.1 5 = v 5 ∧ u.1 8 = v 8 ∧ u.1 9 = v 9 ∧ u.1 10 = v 10 ∧ u.1 13 = v 13 ∧ u.1 14 = v 14 ∧ u.1 15 = v 15 ∧ u.1 17 = v 17 ∧ u.1 18 = v 18 ∧ u.1 24 = v 24 ∧ u.1 25 = v 25 ∧ u.1 38 = v 38 ∧ u.1 39 = v 39) (fun u => YW cy y0 r u.1 u.2.1 u.2.2.1 u.2.2.2) := by
  refine ctI_of (by decide) (Nat.le_of_ble_eq_true rfl) (fun p e s m below meth c A ls Q hx hb hml hts hown hE hP hD hA hl ret => ?_)
  have hUv : (v 35).toInt + (v 36).toInt ≤ 40 := hIv.2
  have hM_v : KV [35, 36] v v := fun _ _ => rfl
  have hA_f : KF [23, 24, 25] f f := fun _ _ => rfl
  have hown : s.vm.findClass RX11 = some m.cls := hown
  have hS : va_S A s.heap s.heap [] := va_S.rf
  have hl : lv_has ls 3 [(0, .ref y0), (1, .int p1), (2, .int p2)] := hl
  refine lv_aload_n hx hb dX11_letout_0 rfl (lv_at hl 0 rfl) ?_
  refine lv_iload_n hx hb dX11_letout_1 rfl (lv_at hl 1 rfl) ?_
  refine cbVi (n := 1) (rest := []) hx hb hml hown hts hE hP hD hS hA (sY_X11_isCoat_1 NF l dC dI cy y0 r p1 v f w g hIv hCf hRf ) k_1771 k_1773 k_75 k_114 k_1774 hd_yX11_isCoat ⟨Nat.le_of_ble_eq_true rfl, Nat.le_of_ble_eq_true rfl⟩ 0 11 rfl rfl (rfl) hl.1 rfl (Nat.le_of_ble_eq_true rfl) dX11_letout_2 (fun r1 u H locs hw hP hD hS => ?_)
  obtain ⟨hG2, hw⟩ := hw
  rcases hw with ⟨g3, g3_0, g3_1, g3_2⟩ | ⟨g3⟩
  · skip
    subst g3
    refine lv_if_eq (tgt := 41) hx hb dX11_letout_5 rfl (fun c0 => absurd c0 (by decide)) (fun _ => ?_)
    refine lv_iload_n hx hb dX11_letout_8 rfl (lv_at hl 2 rfl) ?_
    refine lv_iconst (v := 1) hx hb dX11_letout_9 rfl ?_
    refine lv_aload_n hx hb dX11_letout_10 rfl (lv_at hl 0 rfl) ?_
    refine va_get (D := (dC, dI)) (ci := 11) (v := .ref (r 59)) (C := RX11) (T := TX11) (N := 79) hx hb hts inB_11 hown hE.1 hP 0 rfl rfl 59 (Nat.le_of_ble_eq_true rfl) (hts _ k_1379) (fun _ h9 => h9) rfl dX11_letout_11 ?_
    refine lv_bipush (v := 24) hx hb dX11_letout_14 rfl ?_
    refine lv_iload_n hx hb dX11_letout_16 rfl (lv_at hl 1 rfl) ?_
    refine lv_iadd hx hb dX11_letout_17 ?_
    refine lv_topi (fun t4 et4 => ?_)
    have rg5 := fb_rng p1
    have zt4 : t4.toInt = 24 + p1.toInt := (congrArg Int32.toInt et4).trans (add_i tc_24 rfl (om_609 g3_0) (om_610 g3_2))
    refine ldI hx hb hE hP 24 rfl (vpI (k := 39) rfl (show 0 ≤ t4.toInt from om_611 g3_0 zt4) (show t4.toInt < 39 from om_612 g3_2 zt4)) rfl rfl dX11_letout_18 ?_
    refine lv_topi (fun t6 et6 => ?_)
    have zt6 : t4.toInt.toNat % 39 < 6 ∨ 12 ≤ t4.toInt.toNat % 39 ∨ (-1 ≤ t6.toInt ∧ t6.toInt ≤ 5) := by rw [et6]; exact wear_ld hCf.1 (show t4.toInt.toNat < 39 from om_613 g3_2 zt4)
    have lt7 : (1 : Int32).toInt = 1 := by decide
    refine cbSi (n := 3) (rest := []) hx hb hml hown hts hE hP hD hS hA (sY_X11_isIn_1 NF l dC dI cy y0 r p2 1 t6 v f w g hIv hCf hRf ) k_1736 k_1737 k_114 k_1738 he_yX11_isIn ⟨Nat.le_of_ble_eq_true rfl, Nat.le_of_ble_eq_true rfl⟩ (rfl) hl.1 rfl (Nat.le_of_ble_eq_true rfl) dX11_letout_19 (fun r8 u H locs hw hP hD hS => ?_)
    obtain ⟨hG9, hw⟩ := hw
    rcases hw with ⟨g10, g10_0, g10_1⟩ | ⟨g10⟩
    · skip
      subst g10
      refine lv_if_eq (tgt := 41) hx hb dX11_letout_22 rfl (fun c0 => absurd c0 (by decide)) (fun _ => ?_)
      refine lv_aload_n hx hb dX11_letout_25 rfl (lv_at hl 0 rfl) ?_
      refine va_get (D := (dC, dI)) (ci := 11) (v := .ref (r 59)) (C := RX11) (T := TX11) (N := 79) hx hb hts inB_11 hown hE.1 hP 0 rfl rfl 59 (Nat.le_of_ble_eq_true rfl) (hts _ k_1379) (fun _ h9 => h9) rfl dX11_letout_26 ?_
      refine lv_bipush (v := 18) hx hb dX11_letout_29 rfl ?_
      refine lv_iload_n hx hb dX11_letout_31 rfl (lv_at hl 1 rfl) ?_
      refine lv_iadd hx hb dX11_letout_32 ?_
      refine lv_topi (fun t11 et11 => ?_)
      have zt11 : t11.toInt = 18 + p1.toInt := (congrArg Int32.toInt et11).trans (add_i tc_18 rfl (om_614 g3_0) (om_615 g3_2))
      refine ldI hx hb hE hP 24 rfl (vpI (k := 39) rfl (show 0 ≤ t11.toInt from om_616 g3_0 zt11) (show t11.toInt < 39 from om_617 g3_2 zt11)) rfl rfl dX11_letout_33 ?_
      refine lv_topi (fun t12 et12 => ?_)
      have zt12 : t11.toInt.toNat % 39 < 6 ∨ 12 ≤ t11.toInt.toNat % 39 ∨ (-1 ≤ t12.toInt ∧ t12.toInt ≤ 5) := by rw [et12]; exact wear_ld hCf.1 (show t11.toInt.toNat < 39 from om_618 g3_2 zt11)
      refine lv_iload_n hx hb dX11_letout_34 rfl (lv_at hl 2 rfl) ?_
      refine lv_iadd hx hb dX11_letout_35 ?_
      refine lv_topi (fun t13 et13 => ?_)
      refine lv_bipush (v := 99) hx hb dX11_letout_36 rfl ?_
      refine lv_icmp_le (tgt := 43) hx hb dX11_letout_38 rfl (fun c14 => ?_) (fun c14 => ?_)
      · skip
        have zc14 : t13.toInt ≤ 99 := zMp rfl tc_99 c14
        refine lv_aload_n hx hb dX11_letout_43 rfl (lv_at hl 0 rfl) ?_
        refine cbVv (n := 0) (rest := []) hx hb hml hown hts hE hP hD hS hA (sY_X11_act_1 NF l dC dI cy y0 r  v f w g hIv hCf hRf ) k_1787 k_1789 k_77 k_114 k_1790 hd_yX11_act ⟨Nat.le_of_ble_eq_true rfl, Nat.le_of_ble_eq_true rfl⟩ 0 11 rfl rfl (rfl) hl.1 rfl (Nat.le_of_ble_eq_true rfl) dX11_letout_44 (fun u H locs hw hP hD hS => ?_)
        obtain ⟨hG15, hw⟩ := hw
        obtain ⟨v16, f17, w18, g19⟩ := u
        obtain ⟨kV_v16, kF_f17, hIv16, hCf17, hRf17, hk0_v16, hk1_v16, hk2_v16, hk3_v16, hk4_v16, hk5_v16, hk8_v16, hk9_v16, hk10_v16, hk13_v16, hk14_v16, hk15_v16, hk17_v16, hk18_v16, hk24_v16, hk25_v16, hk38_v16, hk39_v16⟩ := hw
        have hM_v16 : KV [35, 36] v16 v := KV.tr kV_v16 hM_v rfl
        have hA_f17 : KF [23, 24, 25] f17 f := KF.tr kF_f17 hA_f rfl
        have hP : va_P (dC, dI) vwCl (YW cy y0 r v16 f17 w18 g19) H := hP
        have hD : va_D A (YW cy y0 r v16 f17 w18 g19) := hD
        have hUv16 : (v16 35).toInt + (v16 36).toInt ≤ 40 := hIv16.2
        have hq9_v16 : v16 9 = (v 9) := hk9_v16
        have zq9_v16 := congrArg Int32.toInt hq9_v16
        refine lv_aload_n hx hb dX11_letout_47 rfl (lv_at hl 0 rfl) ?_
        refine va_get (D := (dC, dI)) (ci := 11) (v := .ref (r 59)) (C := RX11) (T := TX11) (N := 79) hx hb hts inB_11 hown hE.1 hP 0 rfl rfl 59 (Nat.le_of_ble_eq_true rfl) (hts _ k_1379) (fun _ h9 => h9) rfl dX11_letout_48 ?_
        refine lv_bipush (v := 24) hx hb dX11_letout_51 rfl ?_
        refine lv_iload_n hx hb dX11_letout_53 rfl (lv_at hl 1 rfl) ?_
        refine lv_iadd hx hb dX11_letout_54 ?_
        refine tI (y := t4) et4.symm ?_
        refine lv_dup2_11 hx hb dX11_letout_55 rfl rfl ?_
        refine ldI hx hb hE hP 24 rfl (vpI (k := 39) rfl (show 0 ≤ t4.toInt from om_611 g3_0 zt4) (show t4.toInt < 39 from om_612 g3_2 zt4)) rfl rfl dX11_letout_56 ?_
        refine lv_topi (fun t20 et20 => ?_)
        have zt20 : t4.toInt.toNat % 39 < 6 ∨ 12 ≤ t4.toInt.toNat % 39 ∨ (-1 ≤ t20.toInt ∧ t20.toInt ≤ 5) := by rw [et20]; exact wear_ld hCf17.1 (show t4.toInt.toNat < 39 from om_613 g3_2 zt4)
        refine lv_iload_n hx hb dX11_letout_57 rfl (lv_at hl 2 rfl) ?_
        refine lv_isub hx hb dX11_letout_58 ?_
        refine lv_topi (fun t21 et21 => ?_)
        refine stI hx hb hE hP hD hS 24 rfl (vpI (k := 39) rfl (show 0 ≤ t4.toInt from om_611 g3_0 zt4) (show t4.toInt < 39 from om_612 g3_2 zt4)) rfl dX11_letout_59 (fun H locs hP hD hS => ?_)
        obtain ⟨f22, ef22, hP, hD⟩ : ∃ fz9, fz9 = upd2 f17 23 (upd (f17 23) t4.toNatClampNeg t21) ∧ va_P (dC, dI) vwCl (YW cy y0 r v16 fz9 w18 g19) H ∧ va_D A (YW cy y0 r v16 fz9 w18 g19) := ⟨_, rfl, hP, hD⟩
        have hCf22 : YC f22 := by rw [ef22]; exact ⟨(wear_st hCf17.1 (by show t4.toInt.toNat % 39 < 6 ∨ 12 ≤ t4.toInt.toNat % 39 ∨ (-1 ≤ t21.toInt ∧ t21.toInt ≤ 5); omega)), hCf17.2.1, hCf17.2.2.1, hCf17.2.2.2.1, hCf17.2.2.2.2.1, hCf17.2.2.2.2.2⟩
        have hRf22 : progOK (f22 4) (f22 5) (v16 9).toInt.toNat := by rw [ef22]; exact hRf17
        have hA_f22 : KF [23, 24, 25] f22 f := by rw [ef22]; exact KF.up hA_f17 rfl
        refine lv_aload_n hx hb dX11_letout_60 rfl (lv_at hl 0 rfl) ?_
        refine va_get (D := (dC, dI)) (ci := 11) (v := .ref (r 59)) (C := RX11) (T := TX11) (N := 79) hx hb hts inB_11 hown hE.1 hP 0 rfl rfl 59 (Nat.le_of_ble_eq_true rfl) (hts _ k_1379) (fun _ h9 => h9) rfl dX11_letout_61 ?_
        refine lv_bipush (v := 18) hx hb dX11_letout_64 rfl ?_
        refine lv_iload_n hx hb dX11_letout_66 rfl (lv_at hl 1 rfl) ?_
        refine lv_iadd hx hb dX11_letout_67 ?_
        refine tI (y := t11) et11.symm ?_
        refine lv_dup2_11 hx hb dX11_letout_68 rfl rfl ?_
        refine ldI hx hb hE hP 24 rfl (vpI (k := 39) rfl (show 0 ≤ t11.toInt from om_616 g3_0 zt11) (show t11.toInt < 39 from om_617 g3_2 zt11)) rfl rfl dX11_letout_69 ?_
        refine lv_topi (fun t23 et23 => ?_)
        have zt23 : t11.toInt.toNat % 39 < 6 ∨ 12 ≤ t11.toInt.toNat % 39 ∨ (-1 ≤ t23.toInt ∧ t23.toInt ≤ 5) := by rw [et23]; exact wear_ld hCf22.1 (show t11.toInt.toNat < 39 from om_618 g3_2 zt11)
        refine lv_iload_n hx hb dX11_letout_70 rfl (lv_at hl 2 rfl) ?_
        refine lv_iadd hx hb dX11_letout_71 ?_
        refine lv_topi (fun t24 et24 => ?_)
        refine stI hx hb hE hP hD hS 24 rfl (vpI (k := 39) rfl (show 0 ≤ t11.toInt from om_616 g3_0 zt11) (show t11.toInt < 39 from om_617 g3_2 zt11)) rfl dX11_letout_72 (fun H locs hP hD hS => ?_)
        obtain ⟨f25, ef25, hP, hD⟩ : ∃ fz9, fz9 = upd2 f22 23 (upd (f22 23) t11.toNatClampNeg t24) ∧ va_P (dC, dI) vwCl (YW cy y0 r v16 fz9 w18 g19) H ∧ va_D A (YW cy y0 r v16 fz9 w18 g19) := ⟨_, rfl, hP, hD⟩
        have hCf25 : YC f25 := by rw [ef25]; exact ⟨(wear_st hCf22.1 (by show t11.toInt.toNat % 39 < 6 ∨ 12 ≤ t11.toInt.toNat % 39 ∨ (-1 ≤ t24.toInt ∧ t24.toInt ≤ 5); omega)), hCf22.2.1, hCf22.2.2.1, hCf22.2.2.2.1, hCf22.2.2.2.2.1, hCf22.2.2.2.2.2⟩
        have hRf25 : progOK (f25 4) (f25 5) (v16 9).toInt.toNat := by rw [ef25]; exact hRf22
        have hA_f25 : KF [23, 24, 25] f25 f := by rw [ef25]; exact KF.up hA_f22 rfl
        refine lv_aload_n hx hb dX11_letout_73 rfl (lv_at hl 0 rfl) ?_
        refine va_get (D := (dC, dI)) (ci := 11) (v := .ref (r 59)) (C := RX11) (T := TX11) (N := 79) hx hb hts inB_11 hown hE.1 hP 0 rfl rfl 59 (Nat.le_of_ble_eq_true rfl) (hts _ k_1379) (fun _ h9 => h9) rfl dX11_letout_74 ?_
        refine lv_bipush (v := 18) hx hb dX11_letout_77 rfl ?_
        refine lv_iload_n hx hb dX11_letout_79 rfl (lv_at hl 1 rfl) ?_
        refine lv_iadd hx hb dX11_letout_80 ?_
        refine tI (y := t11) et11.symm ?_
        refine ldI hx hb hE hP 24 rfl (vpI (k := 39) rfl (show 0 ≤ t11.toInt from om_616 g3_0 zt11) (show t11.toInt < 39 from om_617 g3_2 zt11)) rfl rfl dX11_letout_81 ?_
        refine lv_topi (fun t26 et26 => ?_)
        exact ret t26 (v16, f25, w18, g19) _ _ _ _ _ _ rfl ⟨(gsY_X11_letout_1_q0 hG2 et4 et6 hG9 et11 et12 et13 c14 hG15 et20 et21 ef22 et23 et24 ef25 et26), hM_v16, hA_f25, hIv16, hCf25, hRf25, hk0_v16, hk1_v16, hk2_v16, hk3_v16, hk4_v16, hk5_v16, hk8_v16, hk9_v16, hk10_v16, hk13_v16, hk14_v16, hk15_v16, hk17_v16, hk18_v16, hk24_v16, hk25_v16, hk38_v16, hk39_v16⟩ hP hD hS dX11_letout_82 (Nat.le_refl _) (Nat.le_refl _)
      · skip
        refine lv_iconst (v := (-1)) hx hb dX11_letout_41 rfl ?_
        exact ret (-1) (v, f, w, g) _ _ _ _ _ _ rfl ⟨(gsY_X11_letout_1_q1 hG2 et4 et6 hG9 et11 et12 et13 c14), hM_v, hA_f, hIv, hCf, hRf, rfl, rfl, rfl, rfl, rfl, rfl, rfl, rfl, rfl, rfl, rfl, rfl, rfl, rfl, rfl, rfl, rfl, rfl⟩ hP hD hS dX11_letout_42 (Nat.le_refl _) (Nat.le_refl _)
    · skip
      subst g10
      refine lv_if_eq (tgt := 41) hx hb dX11_letout_22 rfl (fun _ => ?_) (fun c0 => absurd (by decide) c0)
      refine lv_iconst (v := (-1)) hx hb dX11_letout_41 rfl ?_
      exact ret (-1) (v, f, w, g) _ _ _ _ _ _ rfl ⟨(gsY_X11_letout_1_q2 hG2 et4 et6 hG9), hM_v, hA_f, hIv, hCf, hRf, rfl, rfl, rfl, rfl, rfl, rfl, rfl, rfl, rfl, rfl, rfl, rfl, rfl, rfl, rfl, rfl, rfl, rfl⟩ hP hD hS dX11_letout_42 (Nat.le_refl _) (Nat.le_refl _)
  · skip
    subst g3
    refine lv_if_eq (tgt := 41) hx hb dX11_letout_5 rfl (fun _ => ?_) (fun c0 => absurd (by decide) c0)
    refine lv_iconst (v := (-1)) hx hb dX11_letout_41 rfl ?_
    exact ret (-1) (v, f, w, g) _ _ _ _ _ _ rfl ⟨(gsY_X11_letout_1_q3 hG2), hM_v, hA_f, hIv, hCf, hRf, rfl, rfl, rfl, rfl, rfl, rfl, rfl, rfl, rfl, rfl, rfl, rfl, rfl, rfl, rfl, rfl, rfl, rfl⟩ hP hD hS dX11_letout_42 (Nat.le_refl _) (Nat.le_refl _)
set_option maxHeartbeats 4000000 in
set_option maxRecDepth 100000 in
theorem sY_X11_takein_1 (NF : Nat) (l : Launch) (dC : Nat → ClassId) (dI : Nat → Nat → Nat) (cy : Nat → ClassId) (y0 : Nat) (r : Nat → Nat) (p1 : Int32) (p2 : Int32) (v : Nat → Int32) (f : Nat → Nat → Int32) (w : Int64) (g : Nat → Int64) (hIv : YI v) (hCf : YC f) (hRf : progOK (f 4) (f 5) (v 9).toInt.toNat)  : ctI l (dC, dI) cy yX11_takein cX11_takein 3 .int 3 103 0 0 ((Nat → Int32) × (Nat → Nat → Int32) × (Int64) × (Nat → Int64)) [.ref y0, .int p1, .int p2] (YW cy y0 r v f w g) (fun r u => gsY_X11_takein_1 NF p1 p2 v f w g = (r, u) ∧ KV [35, 36] u.1 v ∧ KF [23, 24, 25] u.2.1 f ∧ YI u.1 ∧ YC u.2.1 ∧ progOK (u.2.1 4) (u.2.1 5) (u.1 9).toInt.toNat ∧ u.1 0 = v 0 ∧ u.1 1 = v 1 ∧ u.1 2 = v 2 ∧ u.1 3 = v 3 ∧ u.1 4 = v 4 ∧ u.1 5 = v 5 ∧ u.1 8 = v 8 ∧ u.1 9 = v 9 ∧ u.1 10 = v 10 ∧ u.1 13 = v 13 ∧ u.1 14 = v 14 ∧ u.1 15 = v 15 ∧ u.1 17 = v 17 ∧ u.1 18 = v 18 ∧ u.1 24 = v 24 ∧ u.1 25 = v 25 ∧ u.1 38 = v 38 ∧ u.1 39 = v 39) (fun u => YW cy y0 r u.1 u.2.1 u.2.2.1 u.2.2.2) := by
  refine ctI_of (by decide) (Nat.le_of_ble_eq_true rfl) (fun p e s m below meth c A ls Q hx hb hml hts hown hE hP hD hA hl ret => ?_)
  have hUv : (v 35).toInt + (v 36).toInt ≤ 40 := hIv.2
  have hM_v : KV [35, 36] v v := fun _ _ => rfl
  have hA_f : KF [23, 24, 25] f f := fun _ _ => rfl
  have hown : s.vm.findClass RX11 = some m.cls := hown
  have hS : va_S A s.heap s.heap [] := va_S.rf
  have hl : lv_has ls 3 [(0, .ref y0), (1, .int p1), (2, .int p2)] := hl
  refine lv_aload_n hx hb dX11_takein_0 rfl (lv_at hl 0 rfl) ?_
  refine lv_iload_n hx hb dX11_takein_1 rfl (lv_at hl 1 rfl) ?_
  refine cbVi (n := 1) (rest := []) hx hb hml hown hts hE hP hD hS hA (sY_X11_isCoat_1 NF l dC dI cy y0 r p1 v f w g hIv hCf hRf ) k_1771 k_1773 k_75 k_114 k_1774 hd_yX11_isCoat ⟨Nat.le_of_ble_eq_true rfl, Nat.le_of_ble_eq_true rfl⟩ 0 11 rfl rfl (rfl) hl.1 rfl (Nat.le_of_ble_eq_true rfl) dX11_takein_2 (fun r1 u H locs hw hP hD hS => ?_)
  obtain ⟨hG2, hw⟩ := hw
  rcases hw with ⟨g3, g3_0, g3_1, g3_2⟩ | ⟨g3⟩
  · skip
    subst g3
    refine lv_if_eq (tgt := 41) hx hb dX11_takein_5 rfl (fun c0 => absurd c0 (by decide)) (fun _ => ?_)
    refine lv_iload_n hx hb dX11_takein_8 rfl (lv_at hl 2 rfl) ?_
    refine lv_iconst (v := 1) hx hb dX11_takein_9 rfl ?_
    refine lv_aload_n hx hb dX11_takein_10 rfl (lv_at hl 0 rfl) ?_
    refine va_get (D := (dC, dI)) (ci := 11) (v := .ref (r 59)) (C := RX11) (T := TX11) (N := 79) hx hb hts inB_11 hown hE.1 hP 0 rfl rfl 59 (Nat.le_of_ble_eq_true rfl) (hts _ k_1379) (fun _ h9 => h9) rfl dX11_takein_11 ?_
    refine lv_bipush (v := 18) hx hb dX11_takein_14 rfl ?_
    refine lv_iload_n hx hb dX11_takein_16 rfl (lv_at hl 1 rfl) ?_
    refine lv_iadd hx hb dX11_takein_17 ?_
    refine lv_topi (fun t4 et4 => ?_)
    have rg5 := fb_rng p1
    have zt4 : t4.toInt = 18 + p1.toInt := (congrArg Int32.toInt et4).trans (add_i tc_18 rfl (om_614 g3_0) (om_615 g3_2))
    refine ldI hx hb hE hP 24 rfl (vpI (k := 39) rfl (show 0 ≤ t4.toInt from om_616 g3_0 zt4) (show t4.toInt < 39 from om_617 g3_2 zt4)) rfl rfl dX11_takein_18 ?_
    refine lv_topi (fun t6 et6 => ?_)
    have zt6 : t4.toInt.toNat % 39 < 6 ∨ 12 ≤ t4.toInt.toNat % 39 ∨ (-1 ≤ t6.toInt ∧ t6.toInt ≤ 5) := by rw [et6]; exact wear_ld hCf.1 (show t4.toInt.toNat < 39 from om_618 g3_2 zt4)
    have lt7 : (1 : Int32).toInt = 1 := by decide
    refine cbSi (n := 3) (rest := []) hx hb hml hown hts hE hP hD hS hA (sY_X11_isIn_1 NF l dC dI cy y0 r p2 1 t6 v f w g hIv hCf hRf ) k_1736 k_1737 k_114 k_1738 he_yX11_isIn ⟨Nat.le_of_ble_eq_true rfl, Nat.le_of_ble_eq_true rfl⟩ (rfl) hl.1 rfl (Nat.le_of_ble_eq_true rfl) dX11_takein_19 (fun r8 u H locs hw hP hD hS => ?_)
    obtain ⟨hG9, hw⟩ := hw
    rcases hw with ⟨g10, g10_0, g10_1⟩ | ⟨g10⟩
    · skip
      subst g10
      refine lv_if_eq (tgt := 41) hx hb dX11_takein_22 rfl (fun c0 => absurd c0 (by decide)) (fun _ => ?_)
      refine lv_aload_n hx hb dX11_takein_25 rfl (lv_at hl 0 rfl) ?_
      refine va_get (D := (dC, dI)) (ci := 11) (v := .ref (r 59)) (C := RX11) (T := TX11) (N := 79) hx hb hts inB_11 hown hE.1 hP 0 rfl rfl 59 (Nat.le_of_ble_eq_true rfl) (hts _ k_1379) (fun _ h9 => h9) rfl dX11_takein_26 ?_
      refine lv_bipush (v := 24) hx hb dX11_takein_29 rfl ?_
      refine lv_iload_n hx hb dX11_takein_31 rfl (lv_at hl 1 rfl) ?_
      refine lv_iadd hx hb dX11_takein_32 ?_
      refine lv_topi (fun t11 et11 => ?_)
      have zt11 : t11.toInt = 24 + p1.toInt := (congrArg Int32.toInt et11).trans (add_i tc_24 rfl (om_609 g3_0) (om_610 g3_2))
      refine ldI hx hb hE hP 24 rfl (vpI (k := 39) rfl (show 0 ≤ t11.toInt from om_611 g3_0 zt11) (show t11.toInt < 39 from om_612 g3_2 zt11)) rfl rfl dX11_takein_33 ?_
      refine lv_topi (fun t12 et12 => ?_)
      have zt12 : t11.toInt.toNat % 39 < 6 ∨ 12 ≤ t11.toInt.toNat % 39 ∨ (-1 ≤ t12.toInt ∧ t12.toInt ≤ 5) := by rw [et12]; exact wear_ld hCf.1 (show t11.toInt.toNat < 39 from om_613 g3_2 zt11)
      refine lv_iload_n hx hb dX11_takein_34 rfl (lv_at hl 2 rfl) ?_
      refine lv_iadd hx hb dX11_takein_35 ?_
      refine lv_topi (fun t13 et13 => ?_)
      refine lv_bipush (v := 99) hx hb dX11_takein_36 rfl ?_
      refine lv_icmp_le (tgt := 43) hx hb dX11_takein_38 rfl (fun c14 => ?_) (fun c14 => ?_)
      · skip
        have zc14 : t13.toInt ≤ 99 := zMp rfl tc_99 c14
        refine lv_aload_n hx hb dX11_takein_43 rfl (lv_at hl 0 rfl) ?_
        refine cbVv (n := 0) (rest := []) hx hb hml hown hts hE hP hD hS hA (sY_X11_act_1 NF l dC dI cy y0 r  v f w g hIv hCf hRf ) k_1787 k_1789 k_77 k_114 k_1790 hd_yX11_act ⟨Nat.le_of_ble_eq_true rfl, Nat.le_of_ble_eq_true rfl⟩ 0 11 rfl rfl (rfl) hl.1 rfl (Nat.le_of_ble_eq_true rfl) dX11_takein_44 (fun u H locs hw hP hD hS => ?_)
        obtain ⟨hG15, hw⟩ := hw
        obtain ⟨v16, f17, w18, g19⟩ := u
        obtain ⟨kV_v16, kF_f17, hIv16, hCf17, hRf17, hk0_v16, hk1_v16, hk2_v16, hk3_v16, hk4_v16, hk5_v16, hk8_v16, hk9_v16, hk10_v16, hk13_v16, hk14_v16, hk15_v16, hk17_v16, hk18_v16, hk24_v16, hk25_v16, hk38_v16, hk39_v16⟩ := hw
        have hM_v16 : KV [35, 36] v16 v := KV.tr kV_v16 hM_v rfl
        have hA_f17 : KF [23, 24, 25] f17 f := KF.tr kF_f17 hA_f rfl
        have hP : va_P (dC, dI) vwCl (YW cy y0 r v16 f17 w18 g19) H := hP
        have hD : va_D A (YW cy y0 r v16 f17 w18 g19) := hD
        have hUv16 : (v16 35).toInt + (v16 36).toInt ≤ 40 := hIv16.2
        have hq9_v16 : v16 9 = (v 9) := hk9_v16
        have zq9_v16 := congrArg Int32.toInt hq9_v16
        refine lv_aload_n hx hb dX11_takein_47 rfl (lv_at hl 0 rfl) ?_
        refine va_get (D := (dC, dI)) (ci := 11) (v := .ref (r 59)) (C := RX11) (T := TX11) (N := 79) hx hb hts inB_11 hown hE.1 hP 0 rfl rfl 59 (Nat.le_of_ble_eq_true rfl) (hts _ k_1379) (fun _ h9 => h9) rfl dX11_takein_48 ?_
        refine lv_bipush (v := 24) hx hb dX11_takein_51 rfl ?_
        refine lv_iload_n hx hb dX11_takein_53 rfl (lv_at hl 1 rfl) ?_
        refine lv_iadd hx hb dX11_takein_54 ?_
        refine tI (y := t11) et11.symm ?_
        refine lv_dup2_11 hx hb dX11_takein_55 rfl rfl ?_
        refine ldI hx hb hE hP 24 rfl (vpI (k := 39) rfl (show 0 ≤ t11.toInt from om_611 g3_0 zt11) (show t11.toInt < 39 from om_612 g3_2 zt11)) rfl rfl dX11_takein_56 ?_
        refine lv_topi (fun t20 et20 => ?_)
        have zt20 : t11.toInt.toNat % 39 < 6 ∨ 12 ≤ t11.toInt.toNat % 39 ∨ (-1 ≤ t20.toInt ∧ t20.toInt ≤ 5) := by rw [et20]; exact wear_ld hCf17.1 (show t11.toInt.toNat < 39 from om_613 g3_2 zt11)
        refine lv_iload_n hx hb dX11_takein_57 rfl (lv_at hl 2 rfl) ?_
        refine lv_iadd hx hb dX11_takein_58 ?_
        refine lv_topi (fun t21 et21 => ?_)
        refine stI hx hb hE hP hD hS 24 rfl (vpI (k := 39) rfl (show 0 ≤ t11.toInt from om_611 g3_0 zt11) (show t11.toInt < 39 from om_612 g3_2 zt11)) rfl dX11_takein_59 (fun H locs hP hD hS => ?_)
        obtain ⟨f22, ef22, hP, hD⟩ : ∃ fz9, fz9 = upd2 f17 23 (upd (f17 23) t11.toNatClampNeg t21) ∧ va_P (dC, dI) vwCl (YW cy y0 r v16 fz9 w18 g19) H ∧ va_D A (YW cy y0 r v16 fz9 w18 g19) := ⟨_, rfl, hP, hD⟩
        have hCf22 : YC f22 := by rw [ef22]; exact ⟨(wear_st hCf17.1 (by show t11.toInt.toNat % 39 < 6 ∨ 12 ≤ t11.toInt.toNat % 39 ∨ (-1 ≤ t21.toInt ∧ t21.toInt ≤ 5); omega)), hCf17.2.1, hCf17.2.2.1, hCf17.2.2.2.1, hCf17.2.2.2.2.1, hCf17.2.2.2.2.2⟩
        have hRf22 : progOK (f22 4) (f22 5) (v16 9).toInt.toNat := by rw [ef22]; exact hRf17
        have hA_f22 : KF [23, 24, 25] f22 f := by rw [ef22]; exact KF.up hA_f17 rfl
        refine lv_aload_n hx hb dX11_takein_60 rfl (lv_at hl 0 rfl) ?_
        refine va_get (D := (dC, dI)) (ci := 11) (v := .ref (r 59)) (C := RX11) (T := TX11) (N := 79) hx hb hts inB_11 hown hE.1 hP 0 rfl rfl 59 (Nat.le_of_ble_eq_true rfl) (hts _ k_1379) (fun _ h9 => h9) rfl dX11_takein_61 ?_
        refine lv_bipush (v := 18) hx hb dX11_takein_64 rfl ?_
        refine lv_iload_n hx hb dX11_takein_66 rfl (lv_at hl 1 rfl) ?_
        refine lv_iadd hx hb dX11_takein_67 ?_
        refine tI (y := t4) et4.symm ?_
        refine lv_dup2_11 hx hb dX11_takein_68 rfl rfl ?_
        refine ldI hx hb hE hP 24 rfl (vpI (k := 39) rfl (show 0 ≤ t4.toInt from om_616 g3_0 zt4) (show t4.toInt < 39 from om_617 g3_2 zt4)) rfl rfl dX11_takein_69 ?_
        refine lv_topi (fun t23 et23 => ?_)
        have zt23 : t4.toInt.toNat % 39 < 6 ∨ 12 ≤ t4.toInt.toNat % 39 ∨ (-1 ≤ t23.toInt ∧ t23.toInt ≤ 5) := by rw [et23]; exact wear_ld hCf22.1 (show t4.toInt.toNat < 39 from om_618 g3_2 zt4)
        refine lv_iload_n hx hb dX11_takein_70 rfl (lv_at hl 2 rfl) ?_
        refine lv_isub hx hb dX11_takein_71 ?_
        refine lv_topi (fun t24 et24 => ?_)
        refine stI hx hb hE hP hD hS 24 rfl (vpI (k := 39) rfl (show 0 ≤ t4.toInt from om_616 g3_0 zt4) (show t4.toInt < 39 from om_617 g3_2 zt4)) rfl dX11_takein_72 (fun H locs hP hD hS => ?_)
        obtain ⟨f25, ef25, hP, hD⟩ : ∃ fz9, fz9 = upd2 f22 23 (upd (f22 23) t4.toNatClampNeg t24) ∧ va_P (dC, dI) vwCl (YW cy y0 r v16 fz9 w18 g19) H ∧ va_D A (YW cy y0 r v16 fz9 w18 g19) := ⟨_, rfl, hP, hD⟩
        have hCf25 : YC f25 := by rw [ef25]; exact ⟨(wear_st hCf22.1 (by show t4.toInt.toNat % 39 < 6 ∨ 12 ≤ t4.toInt.toNat % 39 ∨ (-1 ≤ t24.toInt ∧ t24.toInt ≤ 5); omega)), hCf22.2.1, hCf22.2.2.1, hCf22.2.2.2.1, hCf22.2.2.2.2.1, hCf22.2.2.2.2.2⟩
        have hRf25 : progOK (f25 4) (f25 5) (v16 9).toInt.toNat := by rw [ef25]; exact hRf22
        have hA_f25 : KF [23, 24, 25] f25 f := by rw [ef25]; exact KF.up hA_f22 rfl
        refine lv_aload_n hx hb dX11_takein_73 rfl (lv_at hl 0 rfl) ?_
        refine va_get (D := (dC, dI)) (ci := 11) (v := .ref (r 59)) (C := RX11) (T := TX11) (N := 79) hx hb hts inB_11 hown hE.1 hP 0 rfl rfl 59 (Nat.le_of_ble_eq_true rfl) (hts _ k_1379) (fun _ h9 => h9) rfl dX11_takein_74 ?_
        refine lv_bipush (v := 18) hx hb dX11_takein_77 rfl ?_
        refine lv_iload_n hx hb dX11_takein_79 rfl (lv_at hl 1 rfl) ?_
        refine lv_iadd hx hb dX11_takein_80 ?_
        refine tI (y := t4) et4.symm ?_
        refine ldI hx hb hE hP 24 rfl (vpI (k := 39) rfl (show 0 ≤ t4.toInt from om_616 g3_0 zt4) (show t4.toInt < 39 from om_617 g3_2 zt4)) rfl rfl dX11_takein_81 ?_
        refine lv_topi (fun t26 et26 => ?_)
        exact ret t26 (v16, f25, w18, g19) _ _ _ _ _ _ rfl ⟨(gsY_X11_takein_1_q0 hG2 et4 et6 hG9 et11 et12 et13 c14 hG15 et20 et21 ef22 et23 et24 ef25 et26), hM_v16, hA_f25, hIv16, hCf25, hRf25, hk0_v16, hk1_v16, hk2_v16, hk3_v16, hk4_v16, hk5_v16, hk8_v16, hk9_v16, hk10_v16, hk13_v16, hk14_v16, hk15_v16, hk17_v16, hk18_v16, hk24_v16, hk25_v16, hk38_v16, hk39_v16⟩ hP hD hS dX11_takein_82 (Nat.le_refl _) (Nat.le_refl _)
      · skip
        refine lv_iconst (v := (-1)) hx hb dX11_takein_41 rfl ?_
        exact ret (-1) (v, f, w, g) _ _ _ _ _ _ rfl ⟨(gsY_X11_takein_1_q1 hG2 et4 et6 hG9 et11 et12 et13 c14), hM_v, hA_f, hIv, hCf, hRf, rfl, rfl, rfl, rfl, rfl, rfl, rfl, rfl, rfl, rfl, rfl, rfl, rfl, rfl, rfl, rfl, rfl, rfl⟩ hP hD hS dX11_takein_42 (Nat.le_refl _) (Nat.le_refl _)
    · skip
      subst g10
      refine lv_if_eq (tgt := 41) hx hb dX11_takein_22 rfl (fun _ => ?_) (fun c0 => absurd (by decide) c0)
      refine lv_iconst (v := (-1)) hx hb dX11_takein_41 rfl ?_
      exact ret (-1) (v, f, w, g) _ _ _ _ _ _ rfl ⟨(gsY_X11_takein_1_q2 hG2 et4 et6 hG9), hM_v, hA_f, hIv, hCf, hRf, rfl, rfl, rfl, rfl, rfl, rfl, rfl, rfl, rfl, rfl, rfl, rfl, rfl, rfl, rfl, rfl, rfl, rfl⟩ hP hD hS dX11_takein_42 (Nat.le_refl _) (Nat.le_refl _)
  · skip
    subst g3
    refine lv_if_eq (tgt := 41) hx hb dX11_takein_5 rfl (fun _ => ?_) (fun c0 => absurd (by decide) c0)
    refine lv_iconst (v := (-1)) hx hb dX11_takein_41 rfl ?_
    exact ret (-1) (v, f, w, g) _ _ _ _ _ _ rfl ⟨(gsY_X11_takein_1_q3 hG2), hM_v, hA_f, hIv, hCf, hRf, rfl, rfl, rfl, rfl, rfl, rfl, rfl, rfl, rfl, rfl, rfl, rfl, rfl, rfl, rfl, rfl, rfl, rfl⟩ hP hD hS dX11_takein_42 (Nat.le_refl _) (Nat.le_refl _)
set_option maxHeartbeats 4000000 in
set_option maxRecDepth 100000 in
theorem sY_X11_hem_1 (NF : Nat) (l : Launch) (dC : Nat → ClassId) (dI : Nat → Nat → Nat) (cy : Nat → ClassId) (y0 : Nat) (r : Nat → Nat) (p1 : Int32) (p2 : Int32) (v : Nat → Int32) (f : Nat → Nat → Int32) (w : Int64) (g : Nat → Int64) (hIv : YI v) (hCf : YC f) (hRf : progOK (f 4) (f 5) (v 9).toInt.toNat)  : ctI l (dC, dI) cy yX11_hem cX11_hem 3 .int 3 103 0 0 ((Nat → Int32) × (Nat → Nat → Int32) × (Int64) × (Nat → Int64)) [.ref y0, .int p1, .int p2] (YW cy y0 r v f w g) (fun r u => gsY_X11_hem_1 NF p1 p2 v f w g = (r, u) ∧ KV [35, 36] u.1 v ∧ KF [23, 24, 25] u.2.1 f ∧ YI u.1 ∧ YC u.2.1 ∧ progOK (u.2.1 4) (u.2.1 5) (u.1 9).toInt.toNat ∧ u.1 0 = v 0 ∧ u.1 1 = v 1 ∧ u.1 2 = v 2 ∧ u.1 3 = v 3 ∧ u.1 4 = v 4 ∧ u.1 5 = v 5 ∧ u.1 8 = v 8 ∧ u.1 9 = v 9 ∧ u.1 10 = v 10 ∧ u.1 13 = v 13 ∧ u.1 14 = v 14 ∧ u.1 15 = v 15 ∧ u.1 17 = v 17 ∧ u.1 18 = v 18 ∧ u.1 24 = v 24 ∧ u.1 25 = v 25 ∧ u.1 38 = v 38 ∧ u.1 39 = v 39) (fun u => YW cy y0 r u.1 u.2.1 u.2.2.1 u.2.2.2) := by
  refine ctI_of (by decide) (Nat.le_of_ble_eq_true rfl) (fun p e s m below meth c A ls Q hx hb hml hts hown hE hP hD hA hl ret => ?_)
  have hUv : (v 35).toInt + (v 36).toInt ≤ 40 := hIv.2
  have hM_v : KV [35, 36] v v := fun _ _ => rfl
  have hA_f : KF [23, 24, 25] f f := fun _ _ => rfl
  have hown : s.vm.findClass RX11 = some m.cls := hown
  have hS : va_S A s.heap s.heap [] := va_S.rf
  have hl : lv_has ls 3 [(0, .ref y0), (1, .int p1), (2, .int p2)] := hl
  refine lv_aload_n hx hb dX11_hem_0 rfl (lv_at hl 0 rfl) ?_
  refine lv_iload_n hx hb dX11_hem_1 rfl (lv_at hl 1 rfl) ?_
  refine cbVi (n := 1) (rest := []) hx hb hml hown hts hE hP hD hS hA (sY_X11_isCoat_1 NF l dC dI cy y0 r p1 v f w g hIv hCf hRf ) k_1771 k_1773 k_75 k_114 k_1774 hd_yX11_isCoat ⟨Nat.le_of_ble_eq_true rfl, Nat.le_of_ble_eq_true rfl⟩ 0 11 rfl rfl (rfl) hl.1 rfl (Nat.le_of_ble_eq_true rfl) dX11_hem_2 (fun r1 u H locs hw hP hD hS => ?_)
  obtain ⟨hG2, hw⟩ := hw
  rcases hw with ⟨g3, g3_0, g3_1, g3_2⟩ | ⟨g3⟩
  · skip
    subst g3
    refine lv_if_eq (tgt := 25) hx hb dX11_hem_5 rfl (fun c0 => absurd c0 (by decide)) (fun _ => ?_)
    refine lv_iload_n hx hb dX11_hem_8 rfl (lv_at hl 2 rfl) ?_
    refine lv_iconst (v := 1) hx hb dX11_hem_9 rfl ?_
    refine lv_aload_n hx hb dX11_hem_10 rfl (lv_at hl 0 rfl) ?_
    refine va_get (D := (dC, dI)) (ci := 11) (v := .ref (r 59)) (C := RX11) (T := TX11) (N := 79) hx hb hts inB_11 hown hE.1 hP 0 rfl rfl 59 (Nat.le_of_ble_eq_true rfl) (hts _ k_1379) (fun _ h9 => h9) rfl dX11_hem_11 ?_
    refine lv_bipush (v := 12) hx hb dX11_hem_14 rfl ?_
    refine lv_iload_n hx hb dX11_hem_16 rfl (lv_at hl 1 rfl) ?_
    refine lv_iadd hx hb dX11_hem_17 ?_
    refine lv_topi (fun t4 et4 => ?_)
    have rg5 := fb_rng p1
    have zt4 : t4.toInt = 12 + p1.toInt := (congrArg Int32.toInt et4).trans (add_i tc_12 rfl (om_619 g3_0) (om_620 g3_2))
    refine ldI hx hb hE hP 24 rfl (vpI (k := 39) rfl (show 0 ≤ t4.toInt from om_621 g3_0 zt4) (show t4.toInt < 39 from om_622 g3_2 zt4)) rfl rfl dX11_hem_18 ?_
    refine lv_topi (fun t6 et6 => ?_)
    have zt6 : t4.toInt.toNat % 39 < 6 ∨ 12 ≤ t4.toInt.toNat % 39 ∨ (-1 ≤ t6.toInt ∧ t6.toInt ≤ 5) := by rw [et6]; exact wear_ld hCf.1 (show t4.toInt.toNat < 39 from om_623 g3_2 zt4)
    have lt7 : (1 : Int32).toInt = 1 := by decide
    refine cbSi (n := 3) (rest := []) hx hb hml hown hts hE hP hD hS hA (sY_X11_isIn_1 NF l dC dI cy y0 r p2 1 t6 v f w g hIv hCf hRf ) k_1736 k_1737 k_114 k_1738 he_yX11_isIn ⟨Nat.le_of_ble_eq_true rfl, Nat.le_of_ble_eq_true rfl⟩ (rfl) hl.1 rfl (Nat.le_of_ble_eq_true rfl) dX11_hem_19 (fun r8 u H locs hw hP hD hS => ?_)
    obtain ⟨hG9, hw⟩ := hw
    rcases hw with ⟨g10, g10_0, g10_1⟩ | ⟨g10⟩
    · skip
      subst g10
      refine lv_if_ne (tgt := 27) hx hb dX11_hem_22 rfl (fun _ => ?_) (fun c0 => absurd c0 (by decide))
      refine lv_aload_n hx hb dX11_hem_27 rfl (lv_at hl 0 rfl) ?_
      refine cbVv (n := 0) (rest := []) hx hb hml hown hts hE hP hD hS hA (sY_X11_act_1 NF l dC dI cy y0 r  v f w g hIv hCf hRf ) k_1787 k_1789 k_77 k_114 k_1790 hd_yX11_act ⟨Nat.le_of_ble_eq_true rfl, Nat.le_of_ble_eq_true rfl⟩ 0 11 rfl rfl (rfl) hl.1 rfl (Nat.le_of_ble_eq_true rfl) dX11_hem_28 (fun u H locs hw hP hD hS => ?_)
      obtain ⟨hG11, hw⟩ := hw
      obtain ⟨v12, f13, w14, g15⟩ := u
      obtain ⟨kV_v12, kF_f13, hIv12, hCf13, hRf13, hk0_v12, hk1_v12, hk2_v12, hk3_v12, hk4_v12, hk5_v12, hk8_v12, hk9_v12, hk10_v12, hk13_v12, hk14_v12, hk15_v12, hk17_v12, hk18_v12, hk24_v12, hk25_v12, hk38_v12, hk39_v12⟩ := hw
      have hM_v12 : KV [35, 36] v12 v := KV.tr kV_v12 hM_v rfl
      have hA_f13 : KF [23, 24, 25] f13 f := KF.tr kF_f13 hA_f rfl
      have hP : va_P (dC, dI) vwCl (YW cy y0 r v12 f13 w14 g15) H := hP
      have hD : va_D A (YW cy y0 r v12 f13 w14 g15) := hD
      have hUv12 : (v12 35).toInt + (v12 36).toInt ≤ 40 := hIv12.2
      have hq9_v12 : v12 9 = (v 9) := hk9_v12
      have zq9_v12 := congrArg Int32.toInt hq9_v12
      refine lv_aload_n hx hb dX11_hem_31 rfl (lv_at hl 0 rfl) ?_
      refine va_get (D := (dC, dI)) (ci := 11) (v := .ref (r 59)) (C := RX11) (T := TX11) (N := 79) hx hb hts inB_11 hown hE.1 hP 0 rfl rfl 59 (Nat.le_of_ble_eq_true rfl) (hts _ k_1379) (fun _ h9 => h9) rfl dX11_hem_32 ?_
      refine lv_bipush (v := 12) hx hb dX11_hem_35 rfl ?_
      refine lv_iload_n hx hb dX11_hem_37 rfl (lv_at hl 1 rfl) ?_
      refine lv_iadd hx hb dX11_hem_38 ?_
      refine tI (y := t4) et4.symm ?_
      refine lv_dup2_11 hx hb dX11_hem_39 rfl rfl ?_
      refine ldI hx hb hE hP 24 rfl (vpI (k := 39) rfl (show 0 ≤ t4.toInt from om_621 g3_0 zt4) (show t4.toInt < 39 from om_622 g3_2 zt4)) rfl rfl dX11_hem_40 ?_
      refine lv_topi (fun t16 et16 => ?_)
      have zt16 : t4.toInt.toNat % 39 < 6 ∨ 12 ≤ t4.toInt.toNat % 39 ∨ (-1 ≤ t16.toInt ∧ t16.toInt ≤ 5) := by rw [et16]; exact wear_ld hCf13.1 (show t4.toInt.toNat < 39 from om_623 g3_2 zt4)
      refine lv_iload_n hx hb dX11_hem_41 rfl (lv_at hl 2 rfl) ?_
      refine lv_isub hx hb dX11_hem_42 ?_
      refine lv_topi (fun t17 et17 => ?_)
      refine stI hx hb hE hP hD hS 24 rfl (vpI (k := 39) rfl (show 0 ≤ t4.toInt from om_621 g3_0 zt4) (show t4.toInt < 39 from om_622 g3_2 zt4)) rfl dX11_hem_43 (fun H locs hP hD hS => ?_)
      obtain ⟨f18, ef18, hP, hD⟩ : ∃ fz9, fz9 = upd2 f13 23 (upd (f13 23) t4.toNatClampNeg t17) ∧ va_P (dC, dI) vwCl (YW cy y0 r v12 fz9 w14 g15) H ∧ va_D A (YW cy y0 r v12 fz9 w14 g15) := ⟨_, rfl, hP, hD⟩
      have hCf18 : YC f18 := by rw [ef18]; exact ⟨(wear_st hCf13.1 (by show t4.toInt.toNat % 39 < 6 ∨ 12 ≤ t4.toInt.toNat % 39 ∨ (-1 ≤ t17.toInt ∧ t17.toInt ≤ 5); omega)), hCf13.2.1, hCf13.2.2.1, hCf13.2.2.2.1, hCf13.2.2.2.2.1, hCf13.2.2.2.2.2⟩
      have hRf18 : progOK (f18 4) (f18 5) (v12 9).toInt.toNat := by rw [ef18]; exact hRf13
      have hA_f18 : KF [23, 24, 25] f18 f := by rw [ef18]; exact KF.up hA_f13 rfl
      refine lv_aload_n hx hb dX11_hem_44 rfl (lv_at hl 0 rfl) ?_
      refine va_get (D := (dC, dI)) (ci := 11) (v := .ref (r 59)) (C := RX11) (T := TX11) (N := 79) hx hb hts inB_11 hown hE.1 hP 0 rfl rfl 59 (Nat.le_of_ble_eq_true rfl) (hts _ k_1379) (fun _ h9 => h9) rfl dX11_hem_45 ?_
      refine lv_bipush (v := 12) hx hb dX11_hem_48 rfl ?_
      refine lv_iload_n hx hb dX11_hem_50 rfl (lv_at hl 1 rfl) ?_
      refine lv_iadd hx hb dX11_hem_51 ?_
      refine tI (y := t4) et4.symm ?_
      refine ldI hx hb hE hP 24 rfl (vpI (k := 39) rfl (show 0 ≤ t4.toInt from om_621 g3_0 zt4) (show t4.toInt < 39 from om_622 g3_2 zt4)) rfl rfl dX11_hem_52 ?_
      refine lv_topi (fun t19 et19 => ?_)
      exact ret t19 (v12, f18, w14, g15) _ _ _ _ _ _ rfl ⟨(gsY_X11_hem_1_q0 hG2 et4 et6 hG9 hG11 et16 et17 ef18 et19), hM_v12, hA_f18, hIv12, hCf18, hRf18, hk0_v12, hk1_v12, hk2_v12, hk3_v12, hk4_v12, hk5_v12, hk8_v12, hk9_v12, hk10_v12, hk13_v12, hk14_v12, hk15_v12, hk17_v12, hk18_v12, hk24_v12, hk25_v12, hk38_v12, hk39_v12⟩ hP hD hS dX11_hem_53 (Nat.le_refl _) (Nat.le_refl _)
    · skip
      subst g10
      refine lv_if_ne (tgt := 27) hx hb dX11_hem_22 rfl (fun c0 => absurd (by decide) c0) (fun _ => ?_)
      refine lv_iconst (v := (-1)) hx hb dX11_hem_25 rfl ?_
      exact ret (-1) (v, f, w, g) _ _ _ _ _ _ rfl ⟨(gsY_X11_hem_1_q1 hG2 et4 et6 hG9), hM_v, hA_f, hIv, hCf, hRf, rfl, rfl, rfl, rfl, rfl, rfl, rfl, rfl, rfl, rfl, rfl, rfl, rfl, rfl, rfl, rfl, rfl, rfl⟩ hP hD hS dX11_hem_26 (Nat.le_refl _) (Nat.le_refl _)
  · skip
    subst g3
    refine lv_if_eq (tgt := 25) hx hb dX11_hem_5 rfl (fun _ => ?_) (fun c0 => absurd (by decide) c0)
    refine lv_iconst (v := (-1)) hx hb dX11_hem_25 rfl ?_
    exact ret (-1) (v, f, w, g) _ _ _ _ _ _ rfl ⟨(gsY_X11_hem_1_q2 hG2), hM_v, hA_f, hIv, hCf, hRf, rfl, rfl, rfl, rfl, rfl, rfl, rfl, rfl, rfl, rfl, rfl, rfl, rfl, rfl, rfl, rfl, rfl, rfl⟩ hP hD hS dX11_hem_26 (Nat.le_refl _) (Nat.le_refl _)
set_option maxHeartbeats 4000000 in
set_option maxRecDepth 100000 in
theorem sY_X11_turn_1 (NF : Nat) (l : Launch) (dC : Nat → ClassId) (dI : Nat → Nat → Nat) (cy : Nat → ClassId) (y0 : Nat) (r : Nat → Nat) (p1 : Int32) (v : Nat → Int32) (f : Nat → Nat → Int32) (w : Int64) (g : Nat → Int64) (hIv : YI v) (hCf : YC f) (hRf : progOK (f 4) (f 5) (v 9).toInt.toNat)  : ctI l (dC, dI) cy yX11_turn cX11_turn 3 .int 3 103 0 0 ((Nat → Int32) × (Nat → Nat → Int32) × (Int64) × (Nat → Int64)) [.ref y0, .int p1] (YW cy y0 r v f w g) (fun r u => gsY_X11_turn_1 NF p1 v f w g = (r, u) ∧ KV [35, 36] u.1 v ∧ KF [23, 24, 25] u.2.1 f ∧ YI u.1 ∧ YC u.2.1 ∧ progOK (u.2.1 4) (u.2.1 5) (u.1 9).toInt.toNat ∧ u.1 0 = v 0 ∧ u.1 1 = v 1 ∧ u.1 2 = v 2 ∧ u.1 3 = v 3 ∧ u.1 4 = v 4 ∧ u.1 5 = v 5 ∧ u.1 8 = v 8 ∧ u.1 9 = v 9 ∧ u.1 10 = v 10 ∧ u.1 13 = v 13 ∧ u.1 14 = v 14 ∧ u.1 15 = v 15 ∧ u.1 17 = v 17 ∧ u.1 18 = v 18 ∧ u.1 24 = v 24 ∧ u.1 25 = v 25 ∧ u.1 38 = v 38 ∧ u.1 39 = v 39) (fun u => YW cy y0 r u.1 u.2.1 u.2.2.1 u.2.2.2) := by
  refine ctI_of (by decide) (Nat.le_of_ble_eq_true rfl) (fun p e s m below meth c A ls Q hx hb hml hts hown hE hP hD hA hl ret => ?_)
  have hUv : (v 35).toInt + (v 36).toInt ≤ 40 := hIv.2
  have hM_v : KV [35, 36] v v := fun _ _ => rfl
  have hA_f : KF [23, 24, 25] f f := fun _ _ => rfl
  have hown : s.vm.findClass RX11 = some m.cls := hown
  have hS : va_S A s.heap s.heap [] := va_S.rf
  have hl : lv_has ls 3 [(0, .ref y0), (1, .int p1)] := hl
  refine lv_aload_n hx hb dX11_turn_0 rfl (lv_at hl 0 rfl) ?_
  refine lv_iload_n hx hb dX11_turn_1 rfl (lv_at hl 1 rfl) ?_
  refine cbVi (n := 1) (rest := []) hx hb hml hown hts hE hP hD hS hA (sY_X11_isCoat_1 NF l dC dI cy y0 r p1 v f w g hIv hCf hRf ) k_1771 k_1773 k_75 k_114 k_1774 hd_yX11_isCoat ⟨Nat.le_of_ble_eq_true rfl, Nat.le_of_ble_eq_true rfl⟩ 0 11 rfl rfl (rfl) hl.1 rfl (Nat.le_of_ble_eq_true rfl) dX11_turn_2 (fun r1 u H locs hw hP hD hS => ?_)
  obtain ⟨hG2, hw⟩ := hw
  rcases hw with ⟨g3, g3_0, g3_1, g3_2⟩ | ⟨g3⟩
  · skip
    subst g3
    refine lv_if_eq (tgt := 23) hx hb dX11_turn_5 rfl (fun c0 => absurd c0 (by decide)) (fun _ => ?_)
    refine lv_aload_n hx hb dX11_turn_8 rfl (lv_at hl 0 rfl) ?_
    refine va_get (D := (dC, dI)) (ci := 11) (v := .ref (r 59)) (C := RX11) (T := TX11) (N := 79) hx hb hts inB_11 hown hE.1 hP 0 rfl rfl 59 (Nat.le_of_ble_eq_true rfl) (hts _ k_1379) (fun _ h9 => h9) rfl dX11_turn_9 ?_
    refine lv_bipush (v := 36) hx hb dX11_turn_12 rfl ?_
    refine ldI hx hb hE hP 24 rfl (vp_in_nI (n := 36) (by decide) (by decide)) rfl rfl dX11_turn_14 ?_
    refine lv_topi (fun t4 et4 => ?_)
    have zt4 : 36 % 39 < 6 ∨ 12 ≤ 36 % 39 ∨ (-1 ≤ t4.toInt ∧ t4.toInt ≤ 5) := by rw [et4]; exact wear_ld hCf.1 (show 36 < 39 from om_624)
    refine lv_iload_n hx hb dX11_turn_15 rfl (lv_at hl 1 rfl) ?_
    refine lv_ishr hx hb dX11_turn_16 ?_
    refine lv_topi (fun t5 et5 => ?_)
    refine lv_iconst (v := 1) hx hb dX11_turn_17 rfl ?_
    refine lv_iand hx hb dX11_turn_18 ?_
    refine lv_topi (fun t6 et6 => ?_)
    have zt6 : 0 ≤ t6.toInt ∧ t6.toInt < 2 := by rw [et6]; exact and_rng _ (k := 1) (by decide) (by decide)
    refine lv_iconst (v := 1) hx hb dX11_turn_19 rfl ?_
    refine lv_icmp_ne (tgt := 25) hx hb dX11_turn_20 rfl (fun c7 => ?_) (fun c7 => ?_)
    · skip
      have zc7 : ¬ (t6.toInt = 1) := zEn rfl tc_1 c7
      refine lv_aload_n hx hb dX11_turn_25 rfl (lv_at hl 0 rfl) ?_
      refine cbVv (n := 0) (rest := []) hx hb hml hown hts hE hP hD hS hA (sY_X11_act_1 NF l dC dI cy y0 r  v f w g hIv hCf hRf ) k_1787 k_1789 k_77 k_114 k_1790 hd_yX11_act ⟨Nat.le_of_ble_eq_true rfl, Nat.le_of_ble_eq_true rfl⟩ 0 11 rfl rfl (rfl) hl.1 rfl (Nat.le_of_ble_eq_true rfl) dX11_turn_26 (fun u H locs hw hP hD hS => ?_)
      obtain ⟨hG8, hw⟩ := hw
      obtain ⟨v9, f10, w11, g12⟩ := u
      obtain ⟨kV_v9, kF_f10, hIv9, hCf10, hRf10, hk0_v9, hk1_v9, hk2_v9, hk3_v9, hk4_v9, hk5_v9, hk8_v9, hk9_v9, hk10_v9, hk13_v9, hk14_v9, hk15_v9, hk17_v9, hk18_v9, hk24_v9, hk25_v9, hk38_v9, hk39_v9⟩ := hw
      have hM_v9 : KV [35, 36] v9 v := KV.tr kV_v9 hM_v rfl
      have hA_f10 : KF [23, 24, 25] f10 f := KF.tr kF_f10 hA_f rfl
      have hP : va_P (dC, dI) vwCl (YW cy y0 r v9 f10 w11 g12) H := hP
      have hD : va_D A (YW cy y0 r v9 f10 w11 g12) := hD
      have hUv9 : (v9 35).toInt + (v9 36).toInt ≤ 40 := hIv9.2
      have hq9_v9 : v9 9 = (v 9) := hk9_v9
      have zq9_v9 := congrArg Int32.toInt hq9_v9
      refine lv_aload_n hx hb dX11_turn_29 rfl (lv_at hl 0 rfl) ?_
      refine va_get (D := (dC, dI)) (ci := 11) (v := .ref (r 59)) (C := RX11) (T := TX11) (N := 79) hx hb hts inB_11 hown hE.1 hP 0 rfl rfl 59 (Nat.le_of_ble_eq_true rfl) (hts _ k_1379) (fun _ h9 => h9) rfl dX11_turn_30 ?_
      refine lv_bipush (v := 30) hx hb dX11_turn_33 rfl ?_
      refine lv_iload_n hx hb dX11_turn_35 rfl (lv_at hl 1 rfl) ?_
      refine lv_iadd hx hb dX11_turn_36 ?_
      refine lv_topi (fun t13 et13 => ?_)
      have rg14 := fb_rng p1
      have zt13 : t13.toInt = 30 + p1.toInt := (congrArg Int32.toInt et13).trans (add_i tc_30 rfl (om_625 g3_0) (om_626 g3_2))
      refine ldI hx hb hE hP 24 rfl (vpI (k := 39) rfl (show 0 ≤ t13.toInt from om_627 g3_0 zt13) (show t13.toInt < 39 from om_628 g3_2 zt13)) rfl rfl dX11_turn_37 ?_
      refine lv_topi (fun t15 et15 => ?_)
      have zt15 : t13.toInt.toNat % 39 < 6 ∨ 12 ≤ t13.toInt.toNat % 39 ∨ (-1 ≤ t15.toInt ∧ t15.toInt ≤ 5) := by rw [et15]; exact wear_ld hCf10.1 (show t13.toInt.toNat < 39 from om_629 g3_2 zt13)
      refine lv_istore_n (lv' := [(2, .int t15), (0, .ref y0), (1, .int p1)]) hx hb dX11_turn_38 rfl hl (Nat.le_of_ble_eq_true rfl) rfl (fun ls hl => ?_)
      refine lv_aload_n hx hb dX11_turn_39 rfl (lv_at hl 1 rfl) ?_
      refine va_get (D := (dC, dI)) (ci := 11) (v := .ref (r 59)) (C := RX11) (T := TX11) (N := 79) hx hb hts inB_11 hown hE.1 hP 0 rfl rfl 59 (Nat.le_of_ble_eq_true rfl) (hts _ k_1379) (fun _ h9 => h9) rfl dX11_turn_40 ?_
      refine lv_bipush (v := 30) hx hb dX11_turn_43 rfl ?_
      refine lv_iload_n hx hb dX11_turn_45 rfl (lv_at hl 2 rfl) ?_
      refine lv_iadd hx hb dX11_turn_46 ?_
      refine tI (y := t13) et13.symm ?_
      refine lv_iconst (v := 0) hx hb dX11_turn_47 rfl ?_
      refine stI hx hb hE hP hD hS 24 rfl (vpI (k := 39) rfl (show 0 ≤ t13.toInt from om_627 g3_0 zt13) (show t13.toInt < 39 from om_628 g3_2 zt13)) rfl dX11_turn_48 (fun H locs hP hD hS => ?_)
      obtain ⟨f16, ef16, hP, hD⟩ : ∃ fz9, fz9 = upd2 f10 23 (upd (f10 23) t13.toNatClampNeg 0) ∧ va_P (dC, dI) vwCl (YW cy y0 r v9 fz9 w11 g12) H ∧ va_D A (YW cy y0 r v9 fz9 w11 g12) := ⟨_, rfl, hP, hD⟩
      have hCf16 : YC f16 := by rw [ef16]; exact ⟨(wear_st hCf10.1 (show t13.toInt.toNat % 39 < 6 ∨ 12 ≤ t13.toInt.toNat % 39 ∨ (-1 ≤ (0 : Int32).toInt ∧ (0 : Int32).toInt ≤ 5) from om_480 tc_0)), hCf10.2.1, hCf10.2.2.1, hCf10.2.2.2.1, hCf10.2.2.2.2.1, hCf10.2.2.2.2.2⟩
      have hRf16 : progOK (f16 4) (f16 5) (v9 9).toInt.toNat := by rw [ef16]; exact hRf10
      have hA_f16 : KF [23, 24, 25] f16 f := by rw [ef16]; exact KF.up hA_f10 rfl
      refine lv_aload_n hx hb dX11_turn_49 rfl (lv_at hl 1 rfl) ?_
      refine va_get (D := (dC, dI)) (ci := 11) (v := .ref (r 59)) (C := RX11) (T := TX11) (N := 79) hx hb hts inB_11 hown hE.1 hP 0 rfl rfl 59 (Nat.le_of_ble_eq_true rfl) (hts _ k_1379) (fun _ h9 => h9) rfl dX11_turn_50 ?_
      refine lv_bipush (v := 36) hx hb dX11_turn_53 rfl ?_
      refine lv_dup2_11 hx hb dX11_turn_55 rfl rfl ?_
      refine ldI hx hb hE hP 24 rfl (vp_in_nI (n := 36) (by decide) (by decide)) rfl rfl dX11_turn_56 ?_
      refine lv_topi (fun t17 et17 => ?_)
      have zt17 : 36 % 39 < 6 ∨ 12 ≤ 36 % 39 ∨ (-1 ≤ t17.toInt ∧ t17.toInt ≤ 5) := by rw [et17]; exact wear_ld hCf16.1 (show 36 < 39 from om_624)
      refine lv_iconst (v := 1) hx hb dX11_turn_57 rfl ?_
      refine lv_iload_n hx hb dX11_turn_58 rfl (lv_at hl 2 rfl) ?_
      refine lv_ishl hx hb dX11_turn_59 ?_
      refine lv_topi (fun t18 et18 => ?_)
      have zt18 : 1 ≤ t18.toInt ∧ t18.toInt ≤ 32 := by rw [et18]; exact shl1_rng (show 0 ≤ p1.toInt from om_62 g3_0) (show p1.toInt ≤ 5 from om_451 g3_2)
      refine lv_ior hx hb dX11_turn_60 ?_
      refine lv_topi (fun t19 et19 => ?_)
      refine stI hx hb hE hP hD hS 24 rfl (vp_in_nI (n := 36) (by decide) (by decide)) rfl dX11_turn_61 (fun H locs hP hD hS => ?_)
      obtain ⟨f20, ef20, hP, hD⟩ : ∃ fz9, fz9 = upd2 f16 23 (upd (f16 23) (36 : Int32).toNatClampNeg t19) ∧ va_P (dC, dI) vwCl (YW cy y0 r v9 fz9 w11 g12) H ∧ va_D A (YW cy y0 r v9 fz9 w11 g12) := ⟨_, rfl, hP, hD⟩
      have hCf20 : YC f20 := by rw [ef20]; exact ⟨(wear_st hCf16.1 (by show 36 % 39 < 6 ∨ 12 ≤ 36 % 39 ∨ (-1 ≤ t19.toInt ∧ t19.toInt ≤ 5); omega)), hCf16.2.1, hCf16.2.2.1, hCf16.2.2.2.1, hCf16.2.2.2.2.1, hCf16.2.2.2.2.2⟩
      have hRf20 : progOK (f20 4) (f20 5) (v9 9).toInt.toNat := by rw [ef20]; exact hRf16
      have hA_f20 : KF [23, 24, 25] f20 f := by rw [ef20]; exact KF.up hA_f16 rfl
      refine lv_iload_n hx hb dX11_turn_62 rfl (lv_at hl 0 rfl) ?_
      exact ret t15 (v9, f20, w11, g12) _ _ _ _ _ _ rfl ⟨(gsY_X11_turn_1_q0 hG2 et4 et5 et6 c7 hG8 et13 et15 ef16 et17 et18 et19 ef20), hM_v9, hA_f20, hIv9, hCf20, hRf20, hk0_v9, hk1_v9, hk2_v9, hk3_v9, hk4_v9, hk5_v9, hk8_v9, hk9_v9, hk10_v9, hk13_v9, hk14_v9, hk15_v9, hk17_v9, hk18_v9, hk24_v9, hk25_v9, hk38_v9, hk39_v9⟩ hP hD hS dX11_turn_63 (Nat.le_refl _) (Nat.le_refl _)
    · skip
      refine lv_iconst (v := (-1)) hx hb dX11_turn_23 rfl ?_
      exact ret (-1) (v, f, w, g) _ _ _ _ _ _ rfl ⟨(gsY_X11_turn_1_q1 hG2 et4 et5 et6 c7), hM_v, hA_f, hIv, hCf, hRf, rfl, rfl, rfl, rfl, rfl, rfl, rfl, rfl, rfl, rfl, rfl, rfl, rfl, rfl, rfl, rfl, rfl, rfl⟩ hP hD hS dX11_turn_24 (Nat.le_refl _) (Nat.le_refl _)
  · skip
    subst g3
    refine lv_if_eq (tgt := 23) hx hb dX11_turn_5 rfl (fun _ => ?_) (fun c0 => absurd (by decide) c0)
    refine lv_iconst (v := (-1)) hx hb dX11_turn_23 rfl ?_
    exact ret (-1) (v, f, w, g) _ _ _ _ _ _ rfl ⟨(gsY_X11_turn_1_q2 hG2), hM_v, hA_f, hIv, hCf, hRf, rfl, rfl, rfl, rfl, rfl, rfl, rfl, rfl, rfl, rfl, rfl, rfl, rfl, rfl, rfl, rfl, rfl, rfl⟩ hP hD hS dX11_turn_24 (Nat.le_refl _) (Nat.le_refl _)
set_option maxHeartbeats 4000000 in
set_option maxRecDepth 100000 in
theorem sY_X11_exchange_1 (NF : Nat) (l : Launch) (dC : Nat → ClassId) (dI : Nat → Nat → Nat) (cy : Nat → ClassId) (y0 : Nat) (r : Nat → Nat) (p1 : Int32) (v : Nat → Int32) (f : Nat → Nat → Int32) (w : Int64) (g : Nat → Int64) (hIv : YI v) (hCf : YC f) (hRf : progOK (f 4) (f 5) (v 9).toInt.toNat) (hp1 : (0 : Int) ≤ p1.toInt ∧ p1.toInt ≤ 1521) (hf0 : p1.toInt % 39 = 0) : ctV l (dC, dI) cy yX11_exchange cX11_exchange 4 1 60 0 0 ((Nat → Int32) × (Nat → Nat → Int32) × (Int64) × (Nat → Int64)) [.ref y0, .int p1] (YW cy y0 r v f w g) (fun u => gsY_X11_exchange_1 NF p1 v f w g = u ∧ KV [] u.1 v ∧ KF [23, 25] u.2.1 f ∧ YI u.1 ∧ YC u.2.1 ∧ progOK (u.2.1 4) (u.2.1 5) (u.1 9).toInt.toNat ∧ u.1 0 = v 0 ∧ u.1 1 = v 1 ∧ u.1 2 = v 2 ∧ u.1 3 = v 3 ∧ u.1 4 = v 4 ∧ u.1 5 = v 5 ∧ u.1 8 = v 8 ∧ u.1 9 = v 9 ∧ u.1 10 = v 10 ∧ u.1 13 = v 13 ∧ u.1 14 = v 14 ∧ u.1 15 = v 15 ∧ u.1 17 = v 17 ∧ u.1 18 = v 18 ∧ u.1 24 = v 24 ∧ u.1 25 = v 25 ∧ u.1 35 = v 35 ∧ u.1 36 = v 36 ∧ u.1 38 = v 38 ∧ u.1 39 = v 39) (fun u => YW cy y0 r u.1 u.2.1 u.2.2.1 u.2.2.2) := by
  refine ctV_of (by decide) (Nat.le_of_ble_eq_true rfl) (fun p e s m below meth c A ls Q hx hb hml hts hown hnm hE hP hD hA hl ret => ?_)
  have hUv : (v 35).toInt + (v 36).toInt ≤ 40 := hIv.2
  have hM_v : KV [] v v := fun _ _ => rfl
  have hA_f : KF [23, 25] f f := fun _ _ => rfl
  have hown : s.vm.findClass RX11 = some m.cls := hown
  have hS : va_S A s.heap s.heap [] := va_S.rf
  have hl : lv_has ls 4 [(0, .ref y0), (1, .int p1)] := hl
  refine lv_iconst (v := 0) hx hb dX11_exchange_0 rfl ?_
  refine lv_istore_n (lv' := [(2, .int 0), (0, .ref y0), (1, .int p1)]) hx hb dX11_exchange_1 rfl hl (Nat.le_of_ble_eq_true rfl) rfl (fun ls hl => ?_)
  have lp1 : ∀ (n1 : Nat) (l2_1 : Int32) (v1 : Nat → Int32) (f1 : Nat → Nat → Int32) (w1 : Int64) (g1 : Nat → Int64), YI v1 → YC f1 → progOK (f1 4) (f1 5) (v1 9).toInt.toNat → v1 0 = (v 0) → v1 1 = (v 1) → v1 2 = (v 2) → v1 3 = (v 3) → v1 4 = (v 4) → v1 5 = (v 5) → v1 8 = (v 8) → v1 9 = (v 9) → v1 10 = (v 10) → v1 13 = (v 13) → v1 14 = (v 14) → v1 15 = (v 15) → v1 17 = (v 17) → v1 18 = (v 18) → v1 24 = (v 24) → v1 25 = (v 25) → v1 35 = (v 35) → v1 36 = (v 36) → v1 38 = (v 38) → v1 39 = (v 39) → gsY_X11_exchange_1_L1 NF p1 n1 l2_1 v1 f1 w1 g1 = (gsY_X11_exchange_1 NF p1 v f w g) → ((0 : Int) ≤ l2_1.toInt ∧ l2_1.toInt ≤ 2147483647) → KV [] v1 v → KF [23, 25] f1 f → (2147483647 - l2_1.toInt).toNat < n1 → ∀ (H : Heap) (locs : List Loc) (ls : Array Slot), va_P (dC, dI) vwCl (YW cy y0 r v1 f1 w1 g1) H → va_D A (YW cy y0 r v1 f1 w1 g1) → va_S A s.heap H locs → lv_has ls 4 [(2, .int l2_1), (0, .ref y0), (1, .int p1)] → W p l e { frames := 1, cells := 0, slots := 0, locals := 60 } s m ([.ref y0, .int p1] : List Value).toArray below meth c H locs 0 0 Q (F0 m 2 ls []) := by
    intro n1
    induction n1 with
    | zero => intro l2_1 v1 f1 w1 g1 hIv1 hCf1 hRf1 hq0_v1 hq1_v1 hq2_v1 hq3_v1 hq4_v1 hq5_v1 hq8_v1 hq9_v1 hq10_v1 hq13_v1 hq14_v1 hq15_v1 hq17_v1 hq18_v1 hq24_v1 hq25_v1 hq35_v1 hq36_v1 hq38_v1 hq39_v1 hT1 hr2_1 hM_v1 hA_f1 hm; exact absurd hm (Nat.not_lt_zero _)
    | succ n1 ih1 =>
      intro l2_1 v1 f1 w1 g1 hIv1 hCf1 hRf1 hq0_v1 hq1_v1 hq2_v1 hq3_v1 hq4_v1 hq5_v1 hq8_v1 hq9_v1 hq10_v1 hq13_v1 hq14_v1 hq15_v1 hq17_v1 hq18_v1 hq24_v1 hq25_v1 hq35_v1 hq36_v1 hq38_v1 hq39_v1 hT1 hr2_1 hM_v1 hA_f1 hm1 H locs ls hP hD hS hl
      have hUv1 : (v1 35).toInt + (v1 36).toInt ≤ 40 := hIv1.2
      have zq9_v1 := congrArg Int32.toInt hq9_v1
      refine lv_iload_n hx hb dX11_exchange_2 rfl (lv_at hl 0 rfl) ?_
      refine lv_bipush (v := 39) hx hb dX11_exchange_3 rfl ?_
      refine lv_icmp_ge (tgt := 44) hx hb dX11_exchange_5 rfl (fun c2 => ?_) (fun c2 => ?_)
      · skip
        exact ret (v1, f1, w1, g1) _ _ _ _ _ _ ⟨(hT1.symm.trans (gsY_X11_exchange_1_q0 c2)), hM_v1, hA_f1, hIv1, hCf1, hRf1, (show v1 0 = v 0 from hq0_v1), (show v1 1 = v 1 from hq1_v1), (show v1 2 = v 2 from hq2_v1), (show v1 3 = v 3 from hq3_v1), (show v1 4 = v 4 from hq4_v1), (show v1 5 = v 5 from hq5_v1), (show v1 8 = v 8 from hq8_v1), (show v1 9 = v 9 from hq9_v1), (show v1 10 = v 10 from hq10_v1), (show v1 13 = v 13 from hq13_v1), (show v1 14 = v 14 from hq14_v1), (show v1 15 = v 15 from hq15_v1), (show v1 17 = v 17 from hq17_v1), (show v1 18 = v 18 from hq18_v1), (show v1 24 = v 24 from hq24_v1), (show v1 25 = v 25 from hq25_v1), (show v1 35 = v 35 from hq35_v1), (show v1 36 = v 36 from hq36_v1), (show v1 38 = v 38 from hq38_v1), (show v1 39 = v 39 from hq39_v1)⟩ hP hD hS dX11_exchange_44 (Nat.le_refl _) (Nat.le_refl _)
      · skip
        have zc2 : ¬ (39 ≤ l2_1.toInt) := zMn tc_39 rfl c2
        refine lv_aload_n hx hb dX11_exchange_8 rfl (lv_at hl 1 rfl) ?_
        refine va_get (D := (dC, dI)) (ci := 11) (v := .ref (r 61)) (C := RX11) (T := TX11) (N := 79) hx hb hts inB_11 hown hE.1 hP 0 rfl rfl 61 (Nat.le_of_ble_eq_true rfl) (hts _ k_1381) (fun _ h9 => h9) rfl dX11_exchange_9 ?_
        refine lv_iload_n hx hb dX11_exchange_12 rfl (lv_at hl 2 rfl) ?_
        refine lv_iload_n hx hb dX11_exchange_13 rfl (lv_at hl 0 rfl) ?_
        refine lv_iadd hx hb dX11_exchange_14 ?_
        refine lv_topi (fun t3 et3 => ?_)
        have rg4 := fb_rng p1
        have rg5 := fb_rng l2_1
        have zt3 : t3.toInt = p1.toInt + l2_1.toInt := (congrArg Int32.toInt et3).trans (add_i rfl rfl (om_630 hp1 hr2_1) (om_631 hp1 zc2))
        refine ldI hx hb hE hP 26 rfl (vpI (k := 1560) rfl (show 0 ≤ t3.toInt from om_632 hp1 hr2_1 zt3) (show t3.toInt < 1560 from om_633 hp1 zc2 zt3)) rfl rfl dX11_exchange_15 ?_
        refine lv_topi (fun t6 et6 => ?_)
        have zt6 : t3.toInt.toNat % 39 < 6 ∨ 12 ≤ t3.toInt.toNat % 39 ∨ (-1 ≤ t6.toInt ∧ t6.toInt ≤ 5) := by rw [et6]; exact wear_ld hCf1.2.2.1 (show t3.toInt.toNat < 1560 from om_634 hp1 zc2 zt3)
        refine lv_istore_n (lv' := [(3, .int t6), (2, .int l2_1), (0, .ref y0), (1, .int p1)]) hx hb dX11_exchange_16 rfl hl (Nat.le_of_ble_eq_true rfl) rfl (fun ls hl => ?_)
        refine lv_aload_n hx hb dX11_exchange_17 rfl (lv_at hl 2 rfl) ?_
        refine va_get (D := (dC, dI)) (ci := 11) (v := .ref (r 61)) (C := RX11) (T := TX11) (N := 79) hx hb hts inB_11 hown hE.1 hP 0 rfl rfl 61 (Nat.le_of_ble_eq_true rfl) (hts _ k_1381) (fun _ h9 => h9) rfl dX11_exchange_18 ?_
        refine lv_iload_n hx hb dX11_exchange_21 rfl (lv_at hl 3 rfl) ?_
        refine lv_iload_n hx hb dX11_exchange_22 rfl (lv_at hl 1 rfl) ?_
        refine lv_iadd hx hb dX11_exchange_23 ?_
        refine tI (y := t3) et3.symm ?_
        refine lv_aload_n hx hb dX11_exchange_24 rfl (lv_at hl 2 rfl) ?_
        refine va_get (D := (dC, dI)) (ci := 11) (v := .ref (r 59)) (C := RX11) (T := TX11) (N := 79) hx hb hts inB_11 hown hE.1 hP 0 rfl rfl 59 (Nat.le_of_ble_eq_true rfl) (hts _ k_1379) (fun _ h9 => h9) rfl dX11_exchange_25 ?_
        refine lv_iload_n hx hb dX11_exchange_28 rfl (lv_at hl 1 rfl) ?_
        refine ldI hx hb hE hP 24 rfl (vpI (k := 39) rfl (show 0 ≤ l2_1.toInt from om_39 hr2_1) (show l2_1.toInt < 39 from om_479 zc2)) rfl rfl dX11_exchange_29 ?_
        refine lv_topi (fun t7 et7 => ?_)
        have zt7 : l2_1.toInt.toNat % 39 < 6 ∨ 12 ≤ l2_1.toInt.toNat % 39 ∨ (-1 ≤ t7.toInt ∧ t7.toInt ≤ 5) := by rw [et7]; exact wear_ld hCf1.1 (show l2_1.toInt.toNat < 39 from om_482 zc2)
        refine stI hx hb hE hP hD hS 26 rfl (vpI (k := 1560) rfl (show 0 ≤ t3.toInt from om_632 hp1 hr2_1 zt3) (show t3.toInt < 1560 from om_633 hp1 zc2 zt3)) rfl dX11_exchange_30 (fun H locs hP hD hS => ?_)
        obtain ⟨f8, ef8, hP, hD⟩ : ∃ fz9, fz9 = upd2 f1 25 (upd (f1 25) t3.toNatClampNeg t7) ∧ va_P (dC, dI) vwCl (YW cy y0 r v1 fz9 w1 g1) H ∧ va_D A (YW cy y0 r v1 fz9 w1 g1) := ⟨_, rfl, hP, hD⟩
        have hCf8 : YC f8 := by rw [ef8]; exact ⟨hCf1.1, hCf1.2.1, (wear_st hCf1.2.2.1 (by show t3.toInt.toNat % 39 < 6 ∨ 12 ≤ t3.toInt.toNat % 39 ∨ (-1 ≤ t7.toInt ∧ t7.toInt ≤ 5); omega)), hCf1.2.2.2.1, hCf1.2.2.2.2.1, hCf1.2.2.2.2.2⟩
        have hRf8 : progOK (f8 4) (f8 5) (v1 9).toInt.toNat := by rw [ef8]; exact hRf1
        have hA_f8 : KF [23, 25] f8 f := by rw [ef8]; exact KF.up hA_f1 rfl
        refine lv_aload_n hx hb dX11_exchange_31 rfl (lv_at hl 2 rfl) ?_
        refine va_get (D := (dC, dI)) (ci := 11) (v := .ref (r 59)) (C := RX11) (T := TX11) (N := 79) hx hb hts inB_11 hown hE.1 hP 0 rfl rfl 59 (Nat.le_of_ble_eq_true rfl) (hts _ k_1379) (fun _ h9 => h9) rfl dX11_exchange_32 ?_
        refine lv_iload_n hx hb dX11_exchange_35 rfl (lv_at hl 1 rfl) ?_
        refine lv_iload_n hx hb dX11_exchange_36 rfl (lv_at hl 0 rfl) ?_
        refine stI hx hb hE hP hD hS 24 rfl (vpI (k := 39) rfl (show 0 ≤ l2_1.toInt from om_39 hr2_1) (show l2_1.toInt < 39 from om_479 zc2)) rfl dX11_exchange_37 (fun H locs hP hD hS => ?_)
        obtain ⟨f9, ef9, hP, hD⟩ : ∃ fz9, fz9 = upd2 f8 23 (upd (f8 23) l2_1.toNatClampNeg t6) ∧ va_P (dC, dI) vwCl (YW cy y0 r v1 fz9 w1 g1) H ∧ va_D A (YW cy y0 r v1 fz9 w1 g1) := ⟨_, rfl, hP, hD⟩
        have hCf9 : YC f9 := by rw [ef9]; exact ⟨(wear_st hCf8.1 (by show l2_1.toInt.toNat % 39 < 6 ∨ 12 ≤ l2_1.toInt.toNat % 39 ∨ (-1 ≤ t6.toInt ∧ t6.toInt ≤ 5); omega)), hCf8.2.1, hCf8.2.2.1, hCf8.2.2.2.1, hCf8.2.2.2.2.1, hCf8.2.2.2.2.2⟩
        have hRf9 : progOK (f9 4) (f9 5) (v1 9).toInt.toNat := by rw [ef9]; exact hRf8
        have hA_f9 : KF [23, 25] f9 f := by rw [ef9]; exact KF.up hA_f8 rfl
        obtain ⟨t10, et10⟩ : ∃ y : Int32, y = l2_1 + 1 := ⟨_, rfl⟩
        have zt10 : t10.toInt = l2_1.toInt + 1 := (congrArg Int32.toInt et10).trans (add_i rfl tc_1 (om_41 hr2_1) (om_481 zc2))
        refine lv_iinc (v := t10) (lv' := [(2, .int t10), (3, .int t6), (0, .ref y0), (1, .int p1)]) hx hb dX11_exchange_38 hl (k := 1) rfl et10.symm (Nat.le_of_ble_eq_true rfl) rfl (fun ls hl => ?_)
        refine lv_goto (tgt := 2) hx hb dX11_exchange_41 rfl ?_
        have rg11 := fb_rng t10
        exact ih1 t10 v1 f9 w1 g1 hIv1 hCf9 hRf9 hq0_v1 hq1_v1 hq2_v1 hq3_v1 hq4_v1 hq5_v1 hq8_v1 hq9_v1 hq10_v1 hq13_v1 hq14_v1 hq15_v1 hq17_v1 hq18_v1 hq24_v1 hq25_v1 hq35_v1 hq36_v1 hq38_v1 hq39_v1 ((gsY_X11_exchange_1_q1 c2 et3 et6 et7 ef8 ef9 et10).symm.trans hT1) ⟨show (0 : Int) ≤ t10.toInt from om_43 hr2_1 zt10, show t10.toInt ≤ (2147483647 : Int) from om_44 rg11⟩ hM_v1 hA_f9 (show (2147483647 - t10.toInt).toNat < n1 from om_33 hm1 zt10 rg11) _ _ _ hP hD hS (lv_sub hl [0, 2, 3] rfl)
  exact lp1 (4294967296 + NF) 0 v f w g hIv hCf hRf rfl rfl rfl rfl rfl rfl rfl rfl rfl rfl rfl rfl rfl rfl rfl rfl rfl rfl rfl rfl gsY_X11_exchange_1_q2.symm ⟨by decide, by decide⟩ hM_v hA_f (show (2147483647 - (0 : Int32).toInt).toNat < 4294967296 + NF from om_38 tc_0) _ _ _ hP hD hS (lv_sub hl [0, 1, 2] rfl)
set_option maxHeartbeats 4000000 in
set_option maxRecDepth 100000 in
theorem sY_X11_undo_1 (NF : Nat) (l : Launch) (dC : Nat → ClassId) (dI : Nat → Nat → Nat) (cy : Nat → ClassId) (y0 : Nat) (r : Nat → Nat)  (v : Nat → Int32) (f : Nat → Nat → Int32) (w : Int64) (g : Nat → Int64) (hIv : YI v) (hCf : YC f) (hRf : progOK (f 4) (f 5) (v 9).toInt.toNat)  : ctI l (dC, dI) cy yX11_undo cX11_undo 1 .boolean 2 83 0 0 ((Nat → Int32) × (Nat → Nat → Int32) × (Int64) × (Nat → Int64)) [.ref y0] (YW cy y0 r v f w g) (fun r u => gsY_X11_undo_1 NF v f w g = (r, u) ∧ KV [35, 36] u.1 v ∧ KF [23, 25] u.2.1 f ∧ YI u.1 ∧ YC u.2.1 ∧ progOK (u.2.1 4) (u.2.1 5) (u.1 9).toInt.toNat ∧ u.1 0 = v 0 ∧ u.1 1 = v 1 ∧ u.1 2 = v 2 ∧ u.1 3 = v 3 ∧ u.1 4 = v 4 ∧ u.1 5 = v 5 ∧ u.1 8 = v 8 ∧ u.1 9 = v 9 ∧ u.1 10 = v 10 ∧ u.1 13 = v 13 ∧ u.1 14 = v 14 ∧ u.1 15 = v 15 ∧ u.1 17 = v 17 ∧ u.1 18 = v 18 ∧ u.1 24 = v 24 ∧ u.1 25 = v 25 ∧ u.1 38 = v 38 ∧ u.1 39 = v 39 ∧ ((r = 1) ∨ (r = 0))) (fun u => YW cy y0 r u.1 u.2.1 u.2.2.1 u.2.2.2) := by
  refine ctI_of (by decide) (Nat.le_of_ble_eq_true rfl) (fun p e s m below meth c A ls Q hx hb hml hts hown hE hP hD hA hl ret => ?_)
  have hUv : (v 35).toInt + (v 36).toInt ≤ 40 := hIv.2
  have hM_v : KV [35, 36] v v := fun _ _ => rfl
  have hA_f : KF [23, 25] f f := fun _ _ => rfl
  have hown : s.vm.findClass RX11 = some m.cls := hown
  have hS : va_S A s.heap s.heap [] := va_S.rf
  have hl : lv_has ls 1 [(0, .ref y0)] := hl
  refine lv_aload_n hx hb dX11_undo_0 rfl (lv_at hl 0 rfl) ?_
  refine va_get (D := (dC, dI)) (ci := 11) (v := .int (v 35)) (C := RX11) (T := TX11) (N := 79) hx hb hts inB_11 hown hE.1 hP 0 rfl rfl 62 (Nat.le_of_ble_eq_true rfl) (hts _ k_1382) (fun _ h9 => h9) rfl dX11_undo_1 ?_
  have b35_v : 0 ≤ (v 35).toInt ∧ (v 35).toInt ≤ 40 := Yb_35 hIv.1
  refine lv_if_ne (tgt := 9) hx hb dX11_undo_4 rfl (fun c1 => ?_) (fun c1 => ?_)
  · skip
    have zc1 : ¬ ((v 35).toInt = 0) := zEn rfl tc_0 c1
    refine lv_aload_n hx hb dX11_undo_9 rfl (lv_at hl 0 rfl) ?_
    refine lv_dup hx hb dX11_undo_10 rfl ?_
    refine va_get (D := (dC, dI)) (ci := 11) (v := .int (v 35)) (C := RX11) (T := TX11) (N := 79) hx hb hts inB_11 hown hE.1 hP 0 rfl rfl 62 (Nat.le_of_ble_eq_true rfl) (hts _ k_1382) (fun _ h9 => h9) rfl dX11_undo_11 ?_
    refine lv_iconst (v := 1) hx hb dX11_undo_14 rfl ?_
    refine lv_isub hx hb dX11_undo_15 ?_
    refine lv_topi (fun t2 et2 => ?_)
    have rg3 := fb_rng (v 35)
    have zt2 : t2.toInt = (v 35).toInt - 1 := (congrArg Int32.toInt et2).trans (sub_i rfl tc_1 (om_635 b35_v) (om_636 b35_v))
    refine va_put (D := (dC, dI)) (ci := 11) (v := .int t2) (ty := tyX11 62) (C := RX11) (T := TX11) (N := 79) hx hb hts inB_11 tyX11 tyX11_ok nmX11 hown hE.1 hP hD hS 0 rfl rfl 62 (Nat.le_of_ble_eq_true rfl) (hts _ k_1382) (fun _ h9 => h9) rfl (tyX11_ok 62 (Nat.le_of_ble_eq_true rfl)) rfl rfl (Nat.le_of_ble_eq_true rfl) dX11_undo_16 (fun H locs hP hD hS => ?_)
    have hP : va_P (dC, dI) vwCl (YW cy y0 r (upd v 35 t2) f w g) H := hP
    have hD : va_D A (YW cy y0 r (upd v 35 t2) f w g) := hD
    refine lv_aload_n hx hb dX11_undo_19 rfl (lv_at hl 0 rfl) ?_
    refine lv_dup hx hb dX11_undo_20 rfl ?_
    refine va_get (D := (dC, dI)) (ci := 11) (v := .int (v 36)) (C := RX11) (T := TX11) (N := 79) hx hb hts inB_11 hown hE.1 hP 0 rfl rfl 63 (Nat.le_of_ble_eq_true rfl) (hts _ k_1383) (fun _ h9 => h9) rfl dX11_undo_21 ?_
    have b36_v : 0 ≤ (v 36).toInt ∧ (v 36).toInt ≤ 40 := Yb_36 hIv.1
    refine lv_iconst (v := 1) hx hb dX11_undo_24 rfl ?_
    refine lv_iadd hx hb dX11_undo_25 ?_
    refine lv_topi (fun t4 et4 => ?_)
    have rg5 := fb_rng (v 36)
    have zt4 : t4.toInt = (v 36).toInt + 1 := (congrArg Int32.toInt et4).trans (add_i rfl tc_1 (om_561 b36_v) (om_562 b36_v))
    refine va_put (D := (dC, dI)) (ci := 11) (v := .int t4) (ty := tyX11 63) (C := RX11) (T := TX11) (N := 79) hx hb hts inB_11 tyX11 tyX11_ok nmX11 hown hE.1 hP hD hS 0 rfl rfl 63 (Nat.le_of_ble_eq_true rfl) (hts _ k_1383) (fun _ h9 => h9) rfl (tyX11_ok 63 (Nat.le_of_ble_eq_true rfl)) rfl rfl (Nat.le_of_ble_eq_true rfl) dX11_undo_26 (fun H locs hP hD hS => ?_)
    have hP : va_P (dC, dI) vwCl (YW cy y0 r (upd (upd v 35 t2) 36 t4) f w g) H := hP
    have hD : va_D A (YW cy y0 r (upd (upd v 35 t2) 36 t4) f w g) := hD
    refine lv_aload_n hx hb dX11_undo_29 rfl (lv_at hl 0 rfl) ?_
    refine lv_bipush (v := 39) hx hb dX11_undo_30 rfl ?_
    refine lv_aload_n hx hb dX11_undo_32 rfl (lv_at hl 0 rfl) ?_
    refine va_get (D := (dC, dI)) (ci := 11) (v := .int t2) (C := RX11) (T := TX11) (N := 79) hx hb hts inB_11 hown hE.1 hP 0 rfl rfl 62 (Nat.le_of_ble_eq_true rfl) (hts _ k_1382) (fun _ h9 => h9) rfl dX11_undo_33 ?_
    refine lv_imul hx hb dX11_undo_36 ?_
    refine lv_topi (fun t6 et6 => ?_)
    have rg7 := fb_rng t2
    have zt6 : t6.toInt = 39 * t2.toInt := (congrArg Int32.toInt et6).trans (mul_i tc_39 rfl (om_637 b35_v zt2) (om_638 b35_v zt2))
    refine cbVv (n := 1) (rest := []) hx hb hml hown hts hE hP hD hS hA (sY_X11_exchange_1 NF l dC dI cy y0 r t6 (upd (upd v 35 t2) 36 t4) f w g ⟨(Yu_36 (x := t4) (Yu_35 (x := t2) hIv.1 (show (0 : Int) ≤ t2.toInt from om_639 b35_v zc1 zt2) (show t2.toInt ≤ (40 : Int) from om_640 b35_v zt2)) (show (0 : Int) ≤ t4.toInt from om_563 b36_v zt4) (show t4.toInt ≤ (40 : Int) from om_641 hUv b35_v zc1 zt4)), (show t2.toInt + t4.toInt ≤ 40 from om_644 hUv zt2 zt4)⟩ hCf hRf ⟨show (0 : Int) ≤ t6.toInt from om_642 b35_v zc1 zt2 zt6, show t6.toInt ≤ (1521 : Int) from om_643 b35_v zt2 zt6⟩ (by show t6.toInt % 39 = 0; omega)) k_1845 k_1847 k_83 k_114 k_1848 hd_yX11_exchange ⟨Nat.le_of_ble_eq_true rfl, Nat.le_of_ble_eq_true rfl⟩ 0 11 rfl rfl (rfl) hl.1 rfl (Nat.le_of_ble_eq_true rfl) dX11_undo_37 (fun u H locs hw hP hD hS => ?_)
    obtain ⟨hG8, hw⟩ := hw
    obtain ⟨v9, f10, w11, g12⟩ := u
    obtain ⟨kV_v9, kF_f10, hIv9, hCf10, hRf10, hk0_v9, hk1_v9, hk2_v9, hk3_v9, hk4_v9, hk5_v9, hk8_v9, hk9_v9, hk10_v9, hk13_v9, hk14_v9, hk15_v9, hk17_v9, hk18_v9, hk24_v9, hk25_v9, hk35_v9, hk36_v9, hk38_v9, hk39_v9⟩ := hw
    have hM_v9 : KV [35, 36] v9 v := KV.tr kV_v9 (KV.up (j := 36) (x := t4) (KV.up (j := 35) (x := t2) hM_v rfl) rfl) rfl
    have hA_f10 : KF [23, 25] f10 f := KF.tr kF_f10 hA_f rfl
    have hP : va_P (dC, dI) vwCl (YW cy y0 r v9 f10 w11 g12) H := hP
    have hD : va_D A (YW cy y0 r v9 f10 w11 g12) := hD
    refine lv_iconst (v := 1) hx hb dX11_undo_40 rfl ?_
    exact ret 1 (v9, f10, w11, g12) _ _ _ _ _ _ rfl ⟨(gsY_X11_undo_1_q0 c1 et2 et4 et6 hG8), hM_v9, hA_f10, hIv9, hCf10, hRf10, hk0_v9, hk1_v9, hk2_v9, hk3_v9, hk4_v9, hk5_v9, hk8_v9, hk9_v9, hk10_v9, hk13_v9, hk14_v9, hk15_v9, hk17_v9, hk18_v9, hk24_v9, hk25_v9, hk38_v9, hk39_v9, (Or.inl rfl)⟩ hP hD hS dX11_undo_41 (Nat.le_refl _) (Nat.le_refl _)
  · skip
    refine lv_iconst (v := 0) hx hb dX11_undo_7 rfl ?_
    exact ret 0 (v, f, w, g) _ _ _ _ _ _ rfl ⟨(gsY_X11_undo_1_q1 c1), hM_v, hA_f, hIv, hCf, hRf, rfl, rfl, rfl, rfl, rfl, rfl, rfl, rfl, rfl, rfl, rfl, rfl, rfl, rfl, rfl, rfl, rfl, rfl, (Or.inr rfl)⟩ hP hD hS dX11_undo_8 (Nat.le_refl _) (Nat.le_refl _)
set_option maxHeartbeats 4000000 in
set_option maxRecDepth 100000 in
theorem sY_X11_redo_1 (NF : Nat) (l : Launch) (dC : Nat → ClassId) (dI : Nat → Nat → Nat) (cy : Nat → ClassId) (y0 : Nat) (r : Nat → Nat)  (v : Nat → Int32) (f : Nat → Nat → Int32) (w : Int64) (g : Nat → Int64) (hIv : YI v) (hCf : YC f) (hRf : progOK (f 4) (f 5) (v 9).toInt.toNat)  : ctI l (dC, dI) cy yX11_redo cX11_redo 1 .boolean 2 83 0 0 ((Nat → Int32) × (Nat → Nat → Int32) × (Int64) × (Nat → Int64)) [.ref y0] (YW cy y0 r v f w g) (fun r u => gsY_X11_redo_1 NF v f w g = (r, u) ∧ KV [35, 36] u.1 v ∧ KF [23, 25] u.2.1 f ∧ YI u.1 ∧ YC u.2.1 ∧ progOK (u.2.1 4) (u.2.1 5) (u.1 9).toInt.toNat ∧ u.1 0 = v 0 ∧ u.1 1 = v 1 ∧ u.1 2 = v 2 ∧ u.1 3 = v 3 ∧ u.1 4 = v 4 ∧ u.1 5 = v 5 ∧ u.1 8 = v 8 ∧ u.1 9 = v 9 ∧ u.1 10 = v 10 ∧ u.1 13 = v 13 ∧ u.1 14 = v 14 ∧ u.1 15 = v 15 ∧ u.1 17 = v 17 ∧ u.1 18 = v 18 ∧ u.1 24 = v 24 ∧ u.1 25 = v 25 ∧ u.1 38 = v 38 ∧ u.1 39 = v 39 ∧ ((r = 1) ∨ (r = 0))) (fun u => YW cy y0 r u.1 u.2.1 u.2.2.1 u.2.2.2) := by
  refine ctI_of (by decide) (Nat.le_of_ble_eq_true rfl) (fun p e s m below meth c A ls Q hx hb hml hts hown hE hP hD hA hl ret => ?_)
  have hUv : (v 35).toInt + (v 36).toInt ≤ 40 := hIv.2
  have hM_v : KV [35, 36] v v := fun _ _ => rfl
  have hA_f : KF [23, 25] f f := fun _ _ => rfl
  have hown : s.vm.findClass RX11 = some m.cls := hown
  have hS : va_S A s.heap s.heap [] := va_S.rf
  have hl : lv_has ls 1 [(0, .ref y0)] := hl
  refine lv_aload_n hx hb dX11_redo_0 rfl (lv_at hl 0 rfl) ?_
  refine va_get (D := (dC, dI)) (ci := 11) (v := .int (v 36)) (C := RX11) (T := TX11) (N := 79) hx hb hts inB_11 hown hE.1 hP 0 rfl rfl 63 (Nat.le_of_ble_eq_true rfl) (hts _ k_1383) (fun _ h9 => h9) rfl dX11_redo_1 ?_
  have b36_v : 0 ≤ (v 36).toInt ∧ (v 36).toInt ≤ 40 := Yb_36 hIv.1
  refine lv_if_ne (tgt := 9) hx hb dX11_redo_4 rfl (fun c1 => ?_) (fun c1 => ?_)
  · skip
    have zc1 : ¬ ((v 36).toInt = 0) := zEn rfl tc_0 c1
    refine lv_aload_n hx hb dX11_redo_9 rfl (lv_at hl 0 rfl) ?_
    refine lv_bipush (v := 39) hx hb dX11_redo_10 rfl ?_
    refine lv_aload_n hx hb dX11_redo_12 rfl (lv_at hl 0 rfl) ?_
    refine va_get (D := (dC, dI)) (ci := 11) (v := .int (v 35)) (C := RX11) (T := TX11) (N := 79) hx hb hts inB_11 hown hE.1 hP 0 rfl rfl 62 (Nat.le_of_ble_eq_true rfl) (hts _ k_1382) (fun _ h9 => h9) rfl dX11_redo_13 ?_
    have b35_v : 0 ≤ (v 35).toInt ∧ (v 35).toInt ≤ 40 := Yb_35 hIv.1
    refine lv_imul hx hb dX11_redo_16 ?_
    refine lv_topi (fun t2 et2 => ?_)
    have rg3 := fb_rng (v 35)
    have zt2 : t2.toInt = 39 * (v 35).toInt := (congrArg Int32.toInt et2).trans (mul_i tc_39 rfl (om_566 b35_v) (om_567 b35_v))
    refine cbVv (n := 1) (rest := []) hx hb hml hown hts hE hP hD hS hA (sY_X11_exchange_1 NF l dC dI cy y0 r t2 v f w g hIv hCf hRf ⟨show (0 : Int) ≤ t2.toInt from om_645 b35_v zt2, show t2.toInt ≤ (1521 : Int) from om_646 hUv b36_v zc1 zt2⟩ (by show t2.toInt % 39 = 0; omega)) k_1845 k_1847 k_83 k_114 k_1848 hd_yX11_exchange ⟨Nat.le_of_ble_eq_true rfl, Nat.le_of_ble_eq_true rfl⟩ 0 11 rfl rfl (rfl) hl.1 rfl (Nat.le_of_ble_eq_true rfl) dX11_redo_17 (fun u H locs hw hP hD hS => ?_)
    obtain ⟨hG4, hw⟩ := hw
    obtain ⟨v5, f6, w7, g8⟩ := u
    obtain ⟨kV_v5, kF_f6, hIv5, hCf6, hRf6, hk0_v5, hk1_v5, hk2_v5, hk3_v5, hk4_v5, hk5_v5, hk8_v5, hk9_v5, hk10_v5, hk13_v5, hk14_v5, hk15_v5, hk17_v5, hk18_v5, hk24_v5, hk25_v5, hk35_v5, hk36_v5, hk38_v5, hk39_v5⟩ := hw
    have hM_v5 : KV [35, 36] v5 v := KV.tr kV_v5 hM_v rfl
    have hA_f6 : KF [23, 25] f6 f := KF.tr kF_f6 hA_f rfl
    have hP : va_P (dC, dI) vwCl (YW cy y0 r v5 f6 w7 g8) H := hP
    have hD : va_D A (YW cy y0 r v5 f6 w7 g8) := hD
    have hq35_v5 : v5 35 = (v 35) := hk35_v5
    have hq36_v5 : v5 36 = (v 36) := hk36_v5
    refine lv_aload_n hx hb dX11_redo_20 rfl (lv_at hl 0 rfl) ?_
    refine lv_dup hx hb dX11_redo_21 rfl ?_
    refine va_get (D := (dC, dI)) (ci := 11) (v := .int (v5 35)) (C := RX11) (T := TX11) (N := 79) hx hb hts inB_11 hown hE.1 hP 0 rfl rfl 62 (Nat.le_of_ble_eq_true rfl) (hts _ k_1382) (fun _ h9 => h9) rfl dX11_redo_22 ?_
    refine tI (y := (v 35)) hq35_v5 ?_
    have b35_v : 0 ≤ (v 35).toInt ∧ (v 35).toInt ≤ 40 := Yb_35 hIv.1
    refine lv_iconst (v := 1) hx hb dX11_redo_25 rfl ?_
    refine lv_iadd hx hb dX11_redo_26 ?_
    refine lv_topi (fun t9 et9 => ?_)
    have zt9 : t9.toInt = (v 35).toInt + 1 := (congrArg Int32.toInt et9).trans (add_i rfl tc_1 (om_561 b35_v) (om_562 b35_v))
    refine va_put (D := (dC, dI)) (ci := 11) (v := .int t9) (ty := tyX11 62) (C := RX11) (T := TX11) (N := 79) hx hb hts inB_11 tyX11 tyX11_ok nmX11 hown hE.1 hP hD hS 0 rfl rfl 62 (Nat.le_of_ble_eq_true rfl) (hts _ k_1382) (fun _ h9 => h9) rfl (tyX11_ok 62 (Nat.le_of_ble_eq_true rfl)) rfl rfl (Nat.le_of_ble_eq_true rfl) dX11_redo_27 (fun H locs hP hD hS => ?_)
    have hP : va_P (dC, dI) vwCl (YW cy y0 r (upd v5 35 t9) f6 w7 g8) H := hP
    have hD : va_D A (YW cy y0 r (upd v5 35 t9) f6 w7 g8) := hD
    refine lv_aload_n hx hb dX11_redo_30 rfl (lv_at hl 0 rfl) ?_
    refine lv_dup hx hb dX11_redo_31 rfl ?_
    refine va_get (D := (dC, dI)) (ci := 11) (v := .int (v5 36)) (C := RX11) (T := TX11) (N := 79) hx hb hts inB_11 hown hE.1 hP 0 rfl rfl 63 (Nat.le_of_ble_eq_true rfl) (hts _ k_1383) (fun _ h9 => h9) rfl dX11_redo_32 ?_
    refine tI (y := (v 36)) hq36_v5 ?_
    have b36_v : 0 ≤ (v 36).toInt ∧ (v 36).toInt ≤ 40 := Yb_36 hIv.1
    refine lv_iconst (v := 1) hx hb dX11_redo_35 rfl ?_
    refine lv_isub hx hb dX11_redo_36 ?_
    refine lv_topi (fun t10 et10 => ?_)
    have zt10 : t10.toInt = (v 36).toInt - 1 := (congrArg Int32.toInt et10).trans (sub_i rfl tc_1 (om_635 b36_v) (om_636 b36_v))
    refine va_put (D := (dC, dI)) (ci := 11) (v := .int t10) (ty := tyX11 63) (C := RX11) (T := TX11) (N := 79) hx hb hts inB_11 tyX11 tyX11_ok nmX11 hown hE.1 hP hD hS 0 rfl rfl 63 (Nat.le_of_ble_eq_true rfl) (hts _ k_1383) (fun _ h9 => h9) rfl (tyX11_ok 63 (Nat.le_of_ble_eq_true rfl)) rfl rfl (Nat.le_of_ble_eq_true rfl) dX11_redo_37 (fun H locs hP hD hS => ?_)
    have hP : va_P (dC, dI) vwCl (YW cy y0 r (upd (upd v5 35 t9) 36 t10) f6 w7 g8) H := hP
    have hD : va_D A (YW cy y0 r (upd (upd v5 35 t9) 36 t10) f6 w7 g8) := hD
    refine lv_iconst (v := 1) hx hb dX11_redo_40 rfl ?_
    exact ret 1 ((upd (upd v5 35 t9) 36 t10), f6, w7, g8) _ _ _ _ _ _ rfl ⟨(gsY_X11_redo_1_q0 c1 et2 hG4 et9 et10), (KV.up (j := 36) (x := t10) (KV.up (j := 35) (x := t9) hM_v5 rfl) rfl), hA_f6, ⟨(Yu_36 (x := t10) (Yu_35 (x := t9) hIv5.1 (show (0 : Int) ≤ t9.toInt from om_563 b35_v zt9) (show t9.toInt ≤ (40 : Int) from om_647 hUv zc1 zt9 b36_v)) (show (0 : Int) ≤ t10.toInt from om_648 zc1 b36_v zt10) (show t10.toInt ≤ (40 : Int) from om_640 b36_v zt10)), (show t9.toInt + t10.toInt ≤ 40 from om_649 hUv zt9 zt10)⟩, hCf6, hRf6, hk0_v5, hk1_v5, hk2_v5, hk3_v5, hk4_v5, hk5_v5, hk8_v5, hk9_v5, hk10_v5, hk13_v5, hk14_v5, hk15_v5, hk17_v5, hk18_v5, hk24_v5, hk25_v5, hk38_v5, hk39_v5, (Or.inl rfl)⟩ hP hD hS dX11_redo_41 (Nat.le_refl _) (Nat.le_refl _)
  · skip
    refine lv_iconst (v := 0) hx hb dX11_redo_7 rfl ?_
    exact ret 0 (v, f, w, g) _ _ _ _ _ _ rfl ⟨(gsY_X11_redo_1_q1 c1), hM_v, hA_f, hIv, hCf, hRf, rfl, rfl, rfl, rfl, rfl, rfl, rfl, rfl, rfl, rfl, rfl, rfl, rfl, rfl, rfl, rfl, rfl, rfl, (Or.inr rfl)⟩ hP hD hS dX11_redo_8 (Nat.le_refl _) (Nat.le_refl _)
set_option maxHeartbeats 4000000 in
set_option maxRecDepth 100000 in
theorem sY_X11_isBox_1 (NF : Nat) (l : Launch) (dC : Nat → ClassId) (dI : Nat → Nat → Nat) (cy : Nat → ClassId) (y0 : Nat) (r : Nat → Nat) (p0 : Int32) (v : Nat → Int32) (f : Nat → Nat → Int32) (w : Int64) (g : Nat → Int64) (hIv : YI v) (hCf : YC f) (hRf : progOK (f 4) (f 5) (v 9).toInt.toNat)  : ctI l (dC, dI) cy yX11_isBox cX11_isBox 1 .boolean 1 60 0 0 Unit [.int p0] (YW cy y0 r v f w g) (fun r u => gsY_X11_isBox_1 NF p0 v f w g = r ∧ ((r = 1 ∧ 0 ≤ p0.toInt ∧ p0.toInt ≤ 2) ∨ (r = 0))) (fun u => YW cy y0 r v f w g) := by
  refine ctI_of (by decide) (Nat.le_of_ble_eq_true rfl) (fun p e s m below meth c A ls Q hx hb hml hts hown hE hP hD hA hl ret => ?_)
  have hown : s.vm.findClass RX11 = some m.cls := hown
  have hS : va_S A s.heap s.heap [] := va_S.rf
  have hl : lv_has ls 1 [(0, .int p0)] := hl
  refine lv_iload_n hx hb dX11_isBox_0 rfl (lv_at hl 0 rfl) ?_
  refine lv_if_lt (tgt := 13) hx hb dX11_isBox_1 rfl (fun c1 => ?_) (fun c1 => ?_)
  · skip
    refine lv_iconst (v := 0) hx hb dX11_isBox_13 rfl ?_
    exact ret 0 () _ _ _ _ _ _ rfl ⟨(gsY_X11_isBox_1_q0 c1), (Or.inr rfl)⟩ hP hD hS dX11_isBox_14 (Nat.le_refl _) (Nat.le_refl _)
  · skip
    have zc1 : ¬ (p0.toInt < 0) := zLn rfl tc_0 c1
    refine lv_iload_n hx hb dX11_isBox_4 rfl (lv_at hl 0 rfl) ?_
    refine lv_iconst (v := 3) hx hb dX11_isBox_5 rfl ?_
    refine lv_icmp_ge (tgt := 13) hx hb dX11_isBox_6 rfl (fun c2 => ?_) (fun c2 => ?_)
    · skip
      refine lv_iconst (v := 0) hx hb dX11_isBox_13 rfl ?_
      exact ret 0 () _ _ _ _ _ _ rfl ⟨(gsY_X11_isBox_1_q1 c1 c2), (Or.inr rfl)⟩ hP hD hS dX11_isBox_14 (Nat.le_refl _) (Nat.le_refl _)
    · skip
      have zc2 : ¬ (3 ≤ p0.toInt) := zMn tc_3 rfl c2
      refine lv_iconst (v := 1) hx hb dX11_isBox_9 rfl ?_
      refine lv_goto (tgt := 14) hx hb dX11_isBox_10 rfl ?_
      exact ret 1 () _ _ _ _ _ _ rfl ⟨(gsY_X11_isBox_1_q2 c1 c2), (Or.inl ⟨rfl, show 0 ≤ p0.toInt from om_14 zc1, show p0.toInt ≤ 2 from om_650 zc2⟩)⟩ hP hD hS dX11_isBox_14 (Nat.le_refl _) (Nat.le_refl _)
set_option maxHeartbeats 4000000 in
set_option maxRecDepth 100000 in
theorem sY_X11_image_1 (NF : Nat) (l : Launch) (dC : Nat → ClassId) (dI : Nat → Nat → Nat) (cy : Nat → ClassId) (y0 : Nat) (r : Nat → Nat) (p1 : Int32) (v : Nat → Int32) (f : Nat → Nat → Int32) (w : Int64) (g : Nat → Int64) (hIv : YI v) (hCf : YC f) (hRf : progOK (f 4) (f 5) (v 9).toInt.toNat)  : ctI l (dC, dI) cy yX11_image cX11_image 3 .int 2 80 0 0 ((Nat → Int32) × (Nat → Nat → Int32) × (Int64) × (Nat → Int64)) [.ref y0, .int p1] (YW cy y0 r v f w g) (fun r u => gsY_X11_image_1 NF p1 v f w g = (r, u) ∧ KV [] u.1 v ∧ KF [36, 37] u.2.1 f ∧ YI u.1 ∧ YC u.2.1 ∧ progOK (u.2.1 4) (u.2.1 5) (u.1 9).toInt.toNat ∧ u.1 0 = v 0 ∧ u.1 1 = v 1 ∧ u.1 2 = v 2 ∧ u.1 3 = v 3 ∧ u.1 4 = v 4 ∧ u.1 5 = v 5 ∧ u.1 8 = v 8 ∧ u.1 9 = v 9 ∧ u.1 10 = v 10 ∧ u.1 13 = v 13 ∧ u.1 14 = v 14 ∧ u.1 15 = v 15 ∧ u.1 17 = v 17 ∧ u.1 18 = v 18 ∧ u.1 24 = v 24 ∧ u.1 25 = v 25 ∧ u.1 35 = v 35 ∧ u.1 36 = v 36 ∧ u.1 38 = v 38 ∧ u.1 39 = v 39) (fun u => YW cy y0 r u.1 u.2.1 u.2.2.1 u.2.2.2) := by
  refine ctI_of (by decide) (Nat.le_of_ble_eq_true rfl) (fun p e s m below meth c A ls Q hx hb hml hts hown hE hP hD hA hl ret => ?_)
  have hUv : (v 35).toInt + (v 36).toInt ≤ 40 := hIv.2
  have hM_v : KV [] v v := fun _ _ => rfl
  have hA_f : KF [36, 37] f f := fun _ _ => rfl
  have hown : s.vm.findClass RX11 = some m.cls := hown
  have hS : va_S A s.heap s.heap [] := va_S.rf
  have hl : lv_has ls 3 [(0, .ref y0), (1, .int p1)] := hl
  refine lv_iload_n hx hb dX11_image_0 rfl (lv_at hl 1 rfl) ?_
  refine cbSi (n := 1) (rest := []) hx hb hml hown hts hE hP hD hS hA (sY_X11_isBox_1 NF l dC dI cy y0 r p1 v f w g hIv hCf hRf ) k_2048 k_2049 k_114 k_2050 he_yX11_isBox ⟨Nat.le_of_ble_eq_true rfl, Nat.le_of_ble_eq_true rfl⟩ (rfl) hl.1 rfl (Nat.le_of_ble_eq_true rfl) dX11_image_1 (fun r1 u H locs hw hP hD hS => ?_)
  obtain ⟨hG2, hw⟩ := hw
  rcases hw with ⟨g3, g3_0, g3_1⟩ | ⟨g3⟩
  · skip
    subst g3
    refine lv_if_ne (tgt := 9) hx hb dX11_image_4 rfl (fun _ => ?_) (fun c0 => absurd c0 (by decide))
    refine lv_aload_n hx hb dX11_image_9 rfl (lv_at hl 0 rfl) ?_
    refine va_get (D := (dC, dI)) (ci := 11) (v := .ref (r 77)) (C := RX11) (T := TX11) (N := 79) hx hb hts inB_11 hown hE.1 hP 0 rfl rfl 77 (Nat.le_of_ble_eq_true rfl) (hts _ k_1397) (fun _ h9 => h9) rfl dX11_image_10 ?_
    refine lv_iload_n hx hb dX11_image_13 rfl (lv_at hl 1 rfl) ?_
    refine lv_iconst (v := 1) hx hb dX11_image_14 rfl ?_
    refine stZ hx hb hE hP hD hS 37 rfl (vpI (k := 3) rfl (show 0 ≤ p1.toInt from om_62 g3_0) (show p1.toInt < 3 from om_651 g3_1)) rfl dX11_image_15 (fun H locs hP hD hS => ?_)
    obtain ⟨f4, ef4, hP, hD⟩ : ∃ fz9, fz9 = upd2 f 36 (upd (f 36) p1.toNatClampNeg (vp_nar .boolean 1)) ∧ va_P (dC, dI) vwCl (YW cy y0 r v fz9 w g) H ∧ va_D A (YW cy y0 r v fz9 w g) := ⟨_, rfl, hP, hD⟩
    have hCf4 : YC f4 := by rw [ef4]; exact hCf
    have hRf4 : progOK (f4 4) (f4 5) (v 9).toInt.toNat := by rw [ef4]; exact hRf
    have hA_f4 : KF [36, 37] f4 f := by rw [ef4]; exact KF.up hA_f rfl
    refine lv_iconst (v := 0) hx hb dX11_image_16 rfl ?_
    refine lv_istore_n (lv' := [(2, .int 0), (0, .ref y0), (1, .int p1)]) hx hb dX11_image_17 rfl hl (Nat.le_of_ble_eq_true rfl) rfl (fun ls hl => ?_)
    have lp5 : ∀ (n5 : Nat) (l2_5 : Int32) (v5 : Nat → Int32) (f5 : Nat → Nat → Int32) (w5 : Int64) (g5 : Nat → Int64), YI v5 → YC f5 → progOK (f5 4) (f5 5) (v5 9).toInt.toNat → v5 0 = (v 0) → v5 1 = (v 1) → v5 2 = (v 2) → v5 3 = (v 3) → v5 4 = (v 4) → v5 5 = (v 5) → v5 8 = (v 8) → v5 9 = (v 9) → v5 10 = (v 10) → v5 13 = (v 13) → v5 14 = (v 14) → v5 15 = (v 15) → v5 17 = (v 17) → v5 18 = (v 18) → v5 24 = (v 24) → v5 25 = (v 25) → v5 35 = (v 35) → v5 36 = (v 36) → v5 38 = (v 38) → v5 39 = (v 39) → gsY_X11_image_1_L5 NF p1 n5 l2_5 v5 f5 w5 g5 = (gsY_X11_image_1 NF p1 v f w g) → ((0 : Int) ≤ l2_5.toInt ∧ l2_5.toInt ≤ 2147483647) → KV [] v5 v → KF [36, 37] f5 f → (2147483647 - l2_5.toInt).toNat < n5 → ∀ (H : Heap) (locs : List Loc) (ls : Array Slot), va_P (dC, dI) vwCl (YW cy y0 r v5 f5 w5 g5) H → va_D A (YW cy y0 r v5 f5 w5 g5) → va_S A s.heap H locs → lv_has ls 3 [(2, .int l2_5), (0, .ref y0), (1, .int p1)] → W p l e { frames := 2, cells := 0, slots := 0, locals := 80 } s m ([.ref y0, .int p1] : List Value).toArray below meth c H locs 0 0 Q (F0 m 18 ls []) := by
      intro n5
      induction n5 with
      | zero => intro l2_5 v5 f5 w5 g5 hIv5 hCf5 hRf5 hq0_v5 hq1_v5 hq2_v5 hq3_v5 hq4_v5 hq5_v5 hq8_v5 hq9_v5 hq10_v5 hq13_v5 hq14_v5 hq15_v5 hq17_v5 hq18_v5 hq24_v5 hq25_v5 hq35_v5 hq36_v5 hq38_v5 hq39_v5 hT5 hr2_5 hM_v5 hA_f5 hm; exact absurd hm (Nat.not_lt_zero _)
      | succ n5 ih5 =>
        intro l2_5 v5 f5 w5 g5 hIv5 hCf5 hRf5 hq0_v5 hq1_v5 hq2_v5 hq3_v5 hq4_v5 hq5_v5 hq8_v5 hq9_v5 hq10_v5 hq13_v5 hq14_v5 hq15_v5 hq17_v5 hq18_v5 hq24_v5 hq25_v5 hq35_v5 hq36_v5 hq38_v5 hq39_v5 hT5 hr2_5 hM_v5 hA_f5 hm5 H locs ls hP hD hS hl
        have hUv5 : (v5 35).toInt + (v5 36).toInt ≤ 40 := hIv5.2
        have zq9_v5 := congrArg Int32.toInt hq9_v5
        refine lv_iload_n hx hb dX11_image_18 rfl (lv_at hl 0 rfl) ?_
        refine lv_bipush (v := 39) hx hb dX11_image_19 rfl ?_
        refine lv_icmp_ge (tgt := 47) hx hb dX11_image_21 rfl (fun c6 => ?_) (fun c6 => ?_)
        · skip
          refine lv_aload_n hx hb dX11_image_47 rfl (lv_at hl 1 rfl) ?_
          refine va_get (D := (dC, dI)) (ci := 11) (v := .ref (r 59)) (C := RX11) (T := TX11) (N := 79) hx hb hts inB_11 hown hE.1 hP 0 rfl rfl 59 (Nat.le_of_ble_eq_true rfl) (hts _ k_1379) (fun _ h9 => h9) rfl dX11_image_48 ?_
          refine lv_bipush (v := 37) hx hb dX11_image_51 rfl ?_
          refine ldI hx hb hE hP 24 rfl (vp_in_nI (n := 37) (by decide) (by decide)) rfl rfl dX11_image_53 ?_
          refine lv_topi (fun t7 et7 => ?_)
          exact ret t7 (v5, f5, w5, g5) _ _ _ _ _ _ rfl ⟨(hT5.symm.trans (gsY_X11_image_1_q0 c6 et7)), hM_v5, hA_f5, hIv5, hCf5, hRf5, (show v5 0 = v 0 from hq0_v5), (show v5 1 = v 1 from hq1_v5), (show v5 2 = v 2 from hq2_v5), (show v5 3 = v 3 from hq3_v5), (show v5 4 = v 4 from hq4_v5), (show v5 5 = v 5 from hq5_v5), (show v5 8 = v 8 from hq8_v5), (show v5 9 = v 9 from hq9_v5), (show v5 10 = v 10 from hq10_v5), (show v5 13 = v 13 from hq13_v5), (show v5 14 = v 14 from hq14_v5), (show v5 15 = v 15 from hq15_v5), (show v5 17 = v 17 from hq17_v5), (show v5 18 = v 18 from hq18_v5), (show v5 24 = v 24 from hq24_v5), (show v5 25 = v 25 from hq25_v5), (show v5 35 = v 35 from hq35_v5), (show v5 36 = v 36 from hq36_v5), (show v5 38 = v 38 from hq38_v5), (show v5 39 = v 39 from hq39_v5)⟩ hP hD hS dX11_image_54 (Nat.le_refl _) (Nat.le_refl _)
        · skip
          have zc6 : ¬ (39 ≤ l2_5.toInt) := zMn tc_39 rfl c6
          refine lv_aload_n hx hb dX11_image_24 rfl (lv_at hl 1 rfl) ?_
          refine va_get (D := (dC, dI)) (ci := 11) (v := .ref (r 78)) (C := RX11) (T := TX11) (N := 79) hx hb hts inB_11 hown hE.1 hP 0 rfl rfl 78 (Nat.le_of_ble_eq_true rfl) (hts _ k_1398) (fun _ h9 => h9) rfl dX11_image_25 ?_
          refine lv_bipush (v := 39) hx hb dX11_image_28 rfl ?_
          refine lv_iload_n hx hb dX11_image_30 rfl (lv_at hl 2 rfl) ?_
          refine lv_imul hx hb dX11_image_31 ?_
          refine lv_topi (fun t8 et8 => ?_)
          have rg9 := fb_rng p1
          have zt8 : t8.toInt = 39 * p1.toInt := (congrArg Int32.toInt et8).trans (mul_i tc_39 rfl (om_652 g3_0) (om_653 g3_1))
          refine lv_iload_n hx hb dX11_image_32 rfl (lv_at hl 0 rfl) ?_
          refine lv_iadd hx hb dX11_image_33 ?_
          refine lv_topi (fun t10 et10 => ?_)
          have rg11 := fb_rng t8
          have rg12 := fb_rng l2_5
          have zt10 : t10.toInt = t8.toInt + l2_5.toInt := (congrArg Int32.toInt et10).trans (add_i rfl rfl (om_114 hr2_5 rg11) (om_654 g3_1 zc6 zt8))
          refine lv_aload_n hx hb dX11_image_34 rfl (lv_at hl 1 rfl) ?_
          refine va_get (D := (dC, dI)) (ci := 11) (v := .ref (r 59)) (C := RX11) (T := TX11) (N := 79) hx hb hts inB_11 hown hE.1 hP 0 rfl rfl 59 (Nat.le_of_ble_eq_true rfl) (hts _ k_1379) (fun _ h9 => h9) rfl dX11_image_35 ?_
          refine lv_iload_n hx hb dX11_image_38 rfl (lv_at hl 0 rfl) ?_
          refine ldI hx hb hE hP 24 rfl (vpI (k := 39) rfl (show 0 ≤ l2_5.toInt from om_39 hr2_5) (show l2_5.toInt < 39 from om_479 zc6)) rfl rfl dX11_image_39 ?_
          refine lv_topi (fun t13 et13 => ?_)
          have zt13 : l2_5.toInt.toNat % 39 < 6 ∨ 12 ≤ l2_5.toInt.toNat % 39 ∨ (-1 ≤ t13.toInt ∧ t13.toInt ≤ 5) := by rw [et13]; exact wear_ld hCf5.1 (show l2_5.toInt.toNat < 39 from om_482 zc6)
          refine stI hx hb hE hP hD hS 38 rfl (vpI (k := 117) rfl (show 0 ≤ t10.toInt from om_655 g3_0 hr2_5 zt8 zt10) (show t10.toInt < 117 from om_656 g3_1 zc6 zt8 zt10)) rfl dX11_image_40 (fun H locs hP hD hS => ?_)
          obtain ⟨f14, ef14, hP, hD⟩ : ∃ fz9, fz9 = upd2 f5 37 (upd (f5 37) t10.toNatClampNeg t13) ∧ va_P (dC, dI) vwCl (YW cy y0 r v5 fz9 w5 g5) H ∧ va_D A (YW cy y0 r v5 fz9 w5 g5) := ⟨_, rfl, hP, hD⟩
          have hCf14 : YC f14 := by rw [ef14]; exact ⟨hCf5.1, hCf5.2.1, hCf5.2.2.1, hCf5.2.2.2.1, hCf5.2.2.2.2.1, (wear_st hCf5.2.2.2.2.2 (by show t10.toInt.toNat % 39 < 6 ∨ 12 ≤ t10.toInt.toNat % 39 ∨ (-1 ≤ t13.toInt ∧ t13.toInt ≤ 5); omega))⟩
          have hRf14 : progOK (f14 4) (f14 5) (v5 9).toInt.toNat := by rw [ef14]; exact hRf5
          have hA_f14 : KF [36, 37] f14 f := by rw [ef14]; exact KF.up hA_f5 rfl
          obtain ⟨t15, et15⟩ : ∃ y : Int32, y = l2_5 + 1 := ⟨_, rfl⟩
          have zt15 : t15.toInt = l2_5.toInt + 1 := (congrArg Int32.toInt et15).trans (add_i rfl tc_1 (om_41 hr2_5) (om_481 zc6))
          refine lv_iinc (v := t15) (lv' := [(2, .int t15), (0, .ref y0), (1, .int p1)]) hx hb dX11_image_41 hl (k := 0) rfl et15.symm (Nat.le_of_ble_eq_true rfl) rfl (fun ls hl => ?_)
          refine lv_goto (tgt := 18) hx hb dX11_image_44 rfl ?_
          have rg16 := fb_rng t15
          exact ih5 t15 v5 f14 w5 g5 hIv5 hCf14 hRf14 hq0_v5 hq1_v5 hq2_v5 hq3_v5 hq4_v5 hq5_v5 hq8_v5 hq9_v5 hq10_v5 hq13_v5 hq14_v5 hq15_v5 hq17_v5 hq18_v5 hq24_v5 hq25_v5 hq35_v5 hq36_v5 hq38_v5 hq39_v5 ((gsY_X11_image_1_q1 c6 et8 et10 et13 ef14 et15).symm.trans hT5) ⟨show (0 : Int) ≤ t15.toInt from om_43 hr2_5 zt15, show t15.toInt ≤ (2147483647 : Int) from om_44 rg16⟩ hM_v5 hA_f14 (show (2147483647 - t15.toInt).toNat < n5 from om_33 hm5 zt15 rg16) _ _ _ hP hD hS (lv_sub hl [0, 1, 2] rfl)
    exact lp5 (4294967296 + NF) 0 v f4 w g hIv hCf4 hRf4 rfl rfl rfl rfl rfl rfl rfl rfl rfl rfl rfl rfl rfl rfl rfl rfl rfl rfl rfl rfl (gsY_X11_image_1_q2 hG2 ef4).symm ⟨by decide, by decide⟩ hM_v hA_f4 (show (2147483647 - (0 : Int32).toInt).toNat < 4294967296 + NF from om_38 tc_0) _ _ _ hP hD hS (lv_sub hl [0, 1, 2] rfl)
  · skip
    subst g3
    refine lv_if_ne (tgt := 9) hx hb dX11_image_4 rfl (fun c0 => absurd (by decide) c0) (fun _ => ?_)
    refine lv_iconst (v := (-1)) hx hb dX11_image_7 rfl ?_
    exact ret (-1) (v, f, w, g) _ _ _ _ _ _ rfl ⟨(gsY_X11_image_1_q3 hG2), hM_v, hA_f, hIv, hCf, hRf, rfl, rfl, rfl, rfl, rfl, rfl, rfl, rfl, rfl, rfl, rfl, rfl, rfl, rfl, rfl, rfl, rfl, rfl, rfl, rfl⟩ hP hD hS dX11_image_8 (Nat.le_refl _) (Nat.le_refl _)
set_option maxHeartbeats 4000000 in
set_option maxRecDepth 100000 in
theorem sY_X11_back_1 (NF : Nat) (l : Launch) (dC : Nat → ClassId) (dI : Nat → Nat → Nat) (cy : Nat → ClassId) (y0 : Nat) (r : Nat → Nat) (p1 : Int32) (v : Nat → Int32) (f : Nat → Nat → Int32) (w : Int64) (g : Nat → Int64) (hIv : YI v) (hCf : YC f) (hRf : progOK (f 4) (f 5) (v 9).toInt.toNat)  : ctI l (dC, dI) cy yX11_back cX11_back 3 .int 2 80 0 0 ((Nat → Int32) × (Nat → Nat → Int32) × (Int64) × (Nat → Int64)) [.ref y0, .int p1] (YW cy y0 r v f w g) (fun r u => gsY_X11_back_1 NF p1 v f w g = (r, u) ∧ KV [35, 36] u.1 v ∧ KF [23] u.2.1 f ∧ YI u.1 ∧ YC u.2.1 ∧ progOK (u.2.1 4) (u.2.1 5) (u.1 9).toInt.toNat ∧ u.1 0 = v 0 ∧ u.1 1 = v 1 ∧ u.1 2 = v 2 ∧ u.1 3 = v 3 ∧ u.1 4 = v 4 ∧ u.1 5 = v 5 ∧ u.1 8 = v 8 ∧ u.1 9 = v 9 ∧ u.1 10 = v 10 ∧ u.1 13 = v 13 ∧ u.1 14 = v 14 ∧ u.1 15 = v 15 ∧ u.1 17 = v 17 ∧ u.1 18 = v 18 ∧ u.1 24 = v 24 ∧ u.1 25 = v 25 ∧ u.1 38 = v 38 ∧ u.1 39 = v 39) (fun u => YW cy y0 r u.1 u.2.1 u.2.2.1 u.2.2.2) := by
  refine ctI_of (by decide) (Nat.le_of_ble_eq_true rfl) (fun p e s m below meth c A ls Q hx hb hml hts hown hE hP hD hA hl ret => ?_)
  have hUv : (v 35).toInt + (v 36).toInt ≤ 40 := hIv.2
  have hM_v : KV [35, 36] v v := fun _ _ => rfl
  have hA_f : KF [23] f f := fun _ _ => rfl
  have hown : s.vm.findClass RX11 = some m.cls := hown
  have hS : va_S A s.heap s.heap [] := va_S.rf
  have hl : lv_has ls 3 [(0, .ref y0), (1, .int p1)] := hl
  refine lv_iload_n hx hb dX11_back_0 rfl (lv_at hl 1 rfl) ?_
  refine cbSi (n := 1) (rest := []) hx hb hml hown hts hE hP hD hS hA (sY_X11_isBox_1 NF l dC dI cy y0 r p1 v f w g hIv hCf hRf ) k_2048 k_2049 k_114 k_2050 he_yX11_isBox ⟨Nat.le_of_ble_eq_true rfl, Nat.le_of_ble_eq_true rfl⟩ (rfl) hl.1 rfl (Nat.le_of_ble_eq_true rfl) dX11_back_1 (fun r1 u H locs hw hP hD hS => ?_)
  obtain ⟨hG2, hw⟩ := hw
  rcases hw with ⟨g3, g3_0, g3_1⟩ | ⟨g3⟩
  · skip
    subst g3
    refine lv_if_eq (tgt := 16) hx hb dX11_back_4 rfl (fun c0 => absurd c0 (by decide)) (fun _ => ?_)
    refine lv_aload_n hx hb dX11_back_7 rfl (lv_at hl 0 rfl) ?_
    refine va_get (D := (dC, dI)) (ci := 11) (v := .ref (r 77)) (C := RX11) (T := TX11) (N := 79) hx hb hts inB_11 hown hE.1 hP 0 rfl rfl 77 (Nat.le_of_ble_eq_true rfl) (hts _ k_1397) (fun _ h9 => h9) rfl dX11_back_8 ?_
    refine lv_iload_n hx hb dX11_back_11 rfl (lv_at hl 1 rfl) ?_
    refine ldZ hx hb hE hP 37 rfl (vpI (k := 3) rfl (show 0 ≤ p1.toInt from om_62 g3_0) (show p1.toInt < 3 from om_651 g3_1)) rfl rfl dX11_back_12 ?_
    refine lv_topi (fun t4 et4 => ?_)
    refine lv_if_ne (tgt := 18) hx hb dX11_back_13 rfl (fun c5 => ?_) (fun c5 => ?_)
    · skip
      have zc5 : ¬ (t4.toInt = 0) := zEn rfl tc_0 c5
      refine lv_iconst (v := 0) hx hb dX11_back_18 rfl ?_
      refine lv_istore_n (lv' := [(2, .int 0), (0, .ref y0), (1, .int p1)]) hx hb dX11_back_19 rfl hl (Nat.le_of_ble_eq_true rfl) rfl (fun ls hl => ?_)
      have lp6 : ∀ (n6 : Nat) (l2_6 : Int32) (v6 : Nat → Int32) (f6 : Nat → Nat → Int32) (w6 : Int64) (g6 : Nat → Int64), YI v6 → YC f6 → progOK (f6 4) (f6 5) (v6 9).toInt.toNat → v6 0 = (v 0) → v6 1 = (v 1) → v6 2 = (v 2) → v6 3 = (v 3) → v6 4 = (v 4) → v6 5 = (v 5) → v6 8 = (v 8) → v6 9 = (v 9) → v6 10 = (v 10) → v6 13 = (v 13) → v6 14 = (v 14) → v6 15 = (v 15) → v6 17 = (v 17) → v6 18 = (v 18) → v6 24 = (v 24) → v6 25 = (v 25) → v6 35 = (v 35) → v6 36 = (v 36) → v6 38 = (v 38) → v6 39 = (v 39) → gsY_X11_back_1_L6 NF p1 n6 l2_6 v6 f6 w6 g6 = (gsY_X11_back_1 NF p1 v f w g) → ((0 : Int) ≤ l2_6.toInt ∧ l2_6.toInt ≤ 2147483647) → KV [35, 36] v6 v → KF [23] f6 f → (2147483647 - l2_6.toInt).toNat < n6 → ∀ (H : Heap) (locs : List Loc) (ls : Array Slot), va_P (dC, dI) vwCl (YW cy y0 r v6 f6 w6 g6) H → va_D A (YW cy y0 r v6 f6 w6 g6) → va_S A s.heap H locs → lv_has ls 3 [(2, .int l2_6), (0, .ref y0), (1, .int p1)] → W p l e { frames := 2, cells := 0, slots := 0, locals := 80 } s m ([.ref y0, .int p1] : List Value).toArray below meth c H locs 0 0 Q (F0 m 20 ls []) := by
        intro n6
        induction n6 with
        | zero => intro l2_6 v6 f6 w6 g6 hIv6 hCf6 hRf6 hq0_v6 hq1_v6 hq2_v6 hq3_v6 hq4_v6 hq5_v6 hq8_v6 hq9_v6 hq10_v6 hq13_v6 hq14_v6 hq15_v6 hq17_v6 hq18_v6 hq24_v6 hq25_v6 hq35_v6 hq36_v6 hq38_v6 hq39_v6 hT6 hr2_6 hM_v6 hA_f6 hm; exact absurd hm (Nat.not_lt_zero _)
        | succ n6 ih6 =>
          intro l2_6 v6 f6 w6 g6 hIv6 hCf6 hRf6 hq0_v6 hq1_v6 hq2_v6 hq3_v6 hq4_v6 hq5_v6 hq8_v6 hq9_v6 hq10_v6 hq13_v6 hq14_v6 hq15_v6 hq17_v6 hq18_v6 hq24_v6 hq25_v6 hq35_v6 hq36_v6 hq38_v6 hq39_v6 hT6 hr2_6 hM_v6 hA_f6 hm6 H locs ls hP hD hS hl
          have hUv6 : (v6 35).toInt + (v6 36).toInt ≤ 40 := hIv6.2
          have zq9_v6 := congrArg Int32.toInt hq9_v6
          refine lv_iload_n hx hb dX11_back_20 rfl (lv_at hl 0 rfl) ?_
          refine lv_bipush (v := 39) hx hb dX11_back_21 rfl ?_
          refine lv_icmp_ge (tgt := 49) hx hb dX11_back_23 rfl (fun c7 => ?_) (fun c7 => ?_)
          · skip
            refine lv_aload_n hx hb dX11_back_49 rfl (lv_at hl 1 rfl) ?_
            refine lv_iconst (v := 0) hx hb dX11_back_50 rfl ?_
            refine va_put (D := (dC, dI)) (ci := 11) (v := .int 0) (ty := tyX11 62) (C := RX11) (T := TX11) (N := 79) hx hb hts inB_11 tyX11 tyX11_ok nmX11 hown hE.1 hP hD hS 0 rfl rfl 62 (Nat.le_of_ble_eq_true rfl) (hts _ k_1382) (fun _ h9 => h9) rfl (tyX11_ok 62 (Nat.le_of_ble_eq_true rfl)) rfl rfl (Nat.le_of_ble_eq_true rfl) dX11_back_51 (fun H locs hP hD hS => ?_)
            have hP : va_P (dC, dI) vwCl (YW cy y0 r (upd v6 35 0) f6 w6 g6) H := hP
            have hD : va_D A (YW cy y0 r (upd v6 35 0) f6 w6 g6) := hD
            refine lv_aload_n hx hb dX11_back_54 rfl (lv_at hl 1 rfl) ?_
            refine lv_iconst (v := 0) hx hb dX11_back_55 rfl ?_
            refine va_put (D := (dC, dI)) (ci := 11) (v := .int 0) (ty := tyX11 63) (C := RX11) (T := TX11) (N := 79) hx hb hts inB_11 tyX11 tyX11_ok nmX11 hown hE.1 hP hD hS 0 rfl rfl 63 (Nat.le_of_ble_eq_true rfl) (hts _ k_1383) (fun _ h9 => h9) rfl (tyX11_ok 63 (Nat.le_of_ble_eq_true rfl)) rfl rfl (Nat.le_of_ble_eq_true rfl) dX11_back_56 (fun H locs hP hD hS => ?_)
            have hP : va_P (dC, dI) vwCl (YW cy y0 r (upd (upd v6 35 0) 36 0) f6 w6 g6) H := hP
            have hD : va_D A (YW cy y0 r (upd (upd v6 35 0) 36 0) f6 w6 g6) := hD
            refine lv_aload_n hx hb dX11_back_59 rfl (lv_at hl 1 rfl) ?_
            refine va_get (D := (dC, dI)) (ci := 11) (v := .ref (r 59)) (C := RX11) (T := TX11) (N := 79) hx hb hts inB_11 hown hE.1 hP 0 rfl rfl 59 (Nat.le_of_ble_eq_true rfl) (hts _ k_1379) (fun _ h9 => h9) rfl dX11_back_60 ?_
            refine lv_bipush (v := 37) hx hb dX11_back_63 rfl ?_
            refine ldI hx hb hE hP 24 rfl (vp_in_nI (n := 37) (by decide) (by decide)) rfl rfl dX11_back_65 ?_
            refine lv_topi (fun t8 et8 => ?_)
            exact ret t8 ((upd (upd v6 35 0) 36 0), f6, w6, g6) _ _ _ _ _ _ rfl ⟨(hT6.symm.trans (gsY_X11_back_1_q0 c7 et8)), (KV.up (j := 36) (x := 0) (KV.up (j := 35) (x := 0) hM_v6 rfl) rfl), hA_f6, ⟨(Yu_36 (x := 0) (Yu_35 (x := 0) hIv6.1 (by decide) (by decide)) (by decide) (by decide)), (show (0 : Int32).toInt + (0 : Int32).toInt ≤ 40 from om_487 tc_0)⟩, hCf6, hRf6, (show v6 0 = v 0 from hq0_v6), (show v6 1 = v 1 from hq1_v6), (show v6 2 = v 2 from hq2_v6), (show v6 3 = v 3 from hq3_v6), (show v6 4 = v 4 from hq4_v6), (show v6 5 = v 5 from hq5_v6), (show v6 8 = v 8 from hq8_v6), (show v6 9 = v 9 from hq9_v6), (show v6 10 = v 10 from hq10_v6), (show v6 13 = v 13 from hq13_v6), (show v6 14 = v 14 from hq14_v6), (show v6 15 = v 15 from hq15_v6), (show v6 17 = v 17 from hq17_v6), (show v6 18 = v 18 from hq18_v6), (show v6 24 = v 24 from hq24_v6), (show v6 25 = v 25 from hq25_v6), (show v6 38 = v 38 from hq38_v6), (show v6 39 = v 39 from hq39_v6)⟩ hP hD hS dX11_back_66 (Nat.le_refl _) (Nat.le_refl _)
          · skip
            have zc7 : ¬ (39 ≤ l2_6.toInt) := zMn tc_39 rfl c7
            refine lv_aload_n hx hb dX11_back_26 rfl (lv_at hl 1 rfl) ?_
            refine va_get (D := (dC, dI)) (ci := 11) (v := .ref (r 59)) (C := RX11) (T := TX11) (N := 79) hx hb hts inB_11 hown hE.1 hP 0 rfl rfl 59 (Nat.le_of_ble_eq_true rfl) (hts _ k_1379) (fun _ h9 => h9) rfl dX11_back_27 ?_
            refine lv_iload_n hx hb dX11_back_30 rfl (lv_at hl 0 rfl) ?_
            refine lv_aload_n hx hb dX11_back_31 rfl (lv_at hl 1 rfl) ?_
            refine va_get (D := (dC, dI)) (ci := 11) (v := .ref (r 78)) (C := RX11) (T := TX11) (N := 79) hx hb hts inB_11 hown hE.1 hP 0 rfl rfl 78 (Nat.le_of_ble_eq_true rfl) (hts _ k_1398) (fun _ h9 => h9) rfl dX11_back_32 ?_
            refine lv_bipush (v := 39) hx hb dX11_back_35 rfl ?_
            refine lv_iload_n hx hb dX11_back_37 rfl (lv_at hl 2 rfl) ?_
            refine lv_imul hx hb dX11_back_38 ?_
            refine lv_topi (fun t9 et9 => ?_)
            have rg10 := fb_rng p1
            have zt9 : t9.toInt = 39 * p1.toInt := (congrArg Int32.toInt et9).trans (mul_i tc_39 rfl (om_652 g3_0) (om_653 g3_1))
            refine lv_iload_n hx hb dX11_back_39 rfl (lv_at hl 0 rfl) ?_
            refine lv_iadd hx hb dX11_back_40 ?_
            refine lv_topi (fun t11 et11 => ?_)
            have rg12 := fb_rng t9
            have rg13 := fb_rng l2_6
            have zt11 : t11.toInt = t9.toInt + l2_6.toInt := (congrArg Int32.toInt et11).trans (add_i rfl rfl (om_114 hr2_6 rg12) (om_654 g3_1 zc7 zt9))
            refine ldI hx hb hE hP 38 rfl (vpI (k := 117) rfl (show 0 ≤ t11.toInt from om_655 g3_0 hr2_6 zt9 zt11) (show t11.toInt < 117 from om_656 g3_1 zc7 zt9 zt11)) rfl rfl dX11_back_41 ?_
            refine lv_topi (fun t14 et14 => ?_)
            have zt14 : t11.toInt.toNat % 39 < 6 ∨ 12 ≤ t11.toInt.toNat % 39 ∨ (-1 ≤ t14.toInt ∧ t14.toInt ≤ 5) := by rw [et14]; exact wear_ld hCf6.2.2.2.2.2 (show t11.toInt.toNat < 117 from om_657 g3_1 zc7 zt9 zt11)
            refine stI hx hb hE hP hD hS 24 rfl (vpI (k := 39) rfl (show 0 ≤ l2_6.toInt from om_39 hr2_6) (show l2_6.toInt < 39 from om_479 zc7)) rfl dX11_back_42 (fun H locs hP hD hS => ?_)
            obtain ⟨f15, ef15, hP, hD⟩ : ∃ fz9, fz9 = upd2 f6 23 (upd (f6 23) l2_6.toNatClampNeg t14) ∧ va_P (dC, dI) vwCl (YW cy y0 r v6 fz9 w6 g6) H ∧ va_D A (YW cy y0 r v6 fz9 w6 g6) := ⟨_, rfl, hP, hD⟩
            have hCf15 : YC f15 := by rw [ef15]; exact ⟨(wear_st hCf6.1 (by show l2_6.toInt.toNat % 39 < 6 ∨ 12 ≤ l2_6.toInt.toNat % 39 ∨ (-1 ≤ t14.toInt ∧ t14.toInt ≤ 5); omega)), hCf6.2.1, hCf6.2.2.1, hCf6.2.2.2.1, hCf6.2.2.2.2.1, hCf6.2.2.2.2.2⟩
            have hRf15 : progOK (f15 4) (f15 5) (v6 9).toInt.toNat := by rw [ef15]; exact hRf6
            have hA_f15 : KF [23] f15 f := by rw [ef15]; exact KF.up hA_f6 rfl
            obtain ⟨t16, et16⟩ : ∃ y : Int32, y = l2_6 + 1 := ⟨_, rfl⟩
            have zt16 : t16.toInt = l2_6.toInt + 1 := (congrArg Int32.toInt et16).trans (add_i rfl tc_1 (om_41 hr2_6) (om_481 zc7))
            refine lv_iinc (v := t16) (lv' := [(2, .int t16), (0, .ref y0), (1, .int p1)]) hx hb dX11_back_43 hl (k := 0) rfl et16.symm (Nat.le_of_ble_eq_true rfl) rfl (fun ls hl => ?_)
            refine lv_goto (tgt := 20) hx hb dX11_back_46 rfl ?_
            have rg17 := fb_rng t16
            exact ih6 t16 v6 f15 w6 g6 hIv6 hCf15 hRf15 hq0_v6 hq1_v6 hq2_v6 hq3_v6 hq4_v6 hq5_v6 hq8_v6 hq9_v6 hq10_v6 hq13_v6 hq14_v6 hq15_v6 hq17_v6 hq18_v6 hq24_v6 hq25_v6 hq35_v6 hq36_v6 hq38_v6 hq39_v6 ((gsY_X11_back_1_q1 c7 et9 et11 et14 ef15 et16).symm.trans hT6) ⟨show (0 : Int) ≤ t16.toInt from om_43 hr2_6 zt16, show t16.toInt ≤ (2147483647 : Int) from om_44 rg17⟩ hM_v6 hA_f15 (show (2147483647 - t16.toInt).toNat < n6 from om_33 hm6 zt16 rg17) _ _ _ hP hD hS (lv_sub hl [0, 1, 2] rfl)
      exact lp6 (4294967296 + NF) 0 v f w g hIv hCf hRf rfl rfl rfl rfl rfl rfl rfl rfl rfl rfl rfl rfl rfl rfl rfl rfl rfl rfl rfl rfl (gsY_X11_back_1_q2 hG2 et4 c5).symm ⟨by decide, by decide⟩ hM_v hA_f (show (2147483647 - (0 : Int32).toInt).toNat < 4294967296 + NF from om_38 tc_0) _ _ _ hP hD hS (lv_sub hl [0, 1, 2] rfl)
    · skip
      refine lv_iconst (v := (-1)) hx hb dX11_back_16 rfl ?_
      exact ret (-1) (v, f, w, g) _ _ _ _ _ _ rfl ⟨(gsY_X11_back_1_q3 hG2 et4 c5), hM_v, hA_f, hIv, hCf, hRf, rfl, rfl, rfl, rfl, rfl, rfl, rfl, rfl, rfl, rfl, rfl, rfl, rfl, rfl, rfl, rfl, rfl, rfl⟩ hP hD hS dX11_back_17 (Nat.le_refl _) (Nat.le_refl _)
  · skip
    subst g3
    refine lv_if_eq (tgt := 16) hx hb dX11_back_4 rfl (fun _ => ?_) (fun c0 => absurd (by decide) c0)
    refine lv_iconst (v := (-1)) hx hb dX11_back_16 rfl ?_
    exact ret (-1) (v, f, w, g) _ _ _ _ _ _ rfl ⟨(gsY_X11_back_1_q4 hG2), hM_v, hA_f, hIv, hCf, hRf, rfl, rfl, rfl, rfl, rfl, rfl, rfl, rfl, rfl, rfl, rfl, rfl, rfl, rfl, rfl, rfl, rfl, rfl⟩ hP hD hS dX11_back_17 (Nat.le_refl _) (Nat.le_refl _)
set_option maxHeartbeats 4000000 in
set_option maxRecDepth 100000 in
theorem sY_X11_fitted_1 (NF : Nat) (l : Launch) (dC : Nat → ClassId) (dI : Nat → Nat → Nat) (cy : Nat → ClassId) (y0 : Nat) (r : Nat → Nat)  (v : Nat → Int32) (f : Nat → Nat → Int32) (w : Int64) (g : Nat → Int64) (hIv : YI v) (hCf : YC f) (hRf : progOK (f 4) (f 5) (v 9).toInt.toNat)  : ctI l (dC, dI) cy yX11_fitted cX11_fitted 1 .int 7 191 0 0 ((Nat → Int32) × (Nat → Nat → Int32) × (Int64) × (Nat → Int64)) [.ref y0] (YW cy y0 r v f w g) (fun r u => gsY_X11_fitted_1 NF v f w g = (r, u) ∧ KV [] u.1 v ∧ KF [7, 8, 24] u.2.1 f ∧ YI u.1 ∧ YC u.2.1 ∧ progOK (u.2.1 4) (u.2.1 5) (u.1 9).toInt.toNat ∧ u.1 0 = v 0 ∧ u.1 1 = v 1 ∧ u.1 2 = v 2 ∧ u.1 3 = v 3 ∧ u.1 4 = v 4 ∧ u.1 5 = v 5 ∧ u.1 8 = v 8 ∧ u.1 9 = v 9 ∧ u.1 10 = v 10 ∧ u.1 13 = v 13 ∧ u.1 14 = v 14 ∧ u.1 15 = v 15 ∧ u.1 17 = v 17 ∧ u.1 18 = v 18 ∧ u.1 24 = v 24 ∧ u.1 25 = v 25 ∧ u.1 35 = v 35 ∧ u.1 36 = v 36 ∧ u.1 38 = v 38 ∧ u.1 39 = v 39) (fun u => YW cy y0 r u.1 u.2.1 u.2.2.1 u.2.2.2) := by
  refine ctI_of (by decide) (Nat.le_of_ble_eq_true rfl) (fun p e s m below meth c A ls Q hx hb hml hts hown hE hP hD hA hl ret => ?_)
  have hM_v : KV [] v v := fun _ _ => rfl
  have hA_f : KF [7, 8, 24] f f := fun _ _ => rfl
  have hown : s.vm.findClass RX11 = some m.cls := hown
  have hS : va_S A s.heap s.heap [] := va_S.rf
  have hl : lv_has ls 1 [(0, .ref y0)] := hl
  refine lv_aload_n hx hb dX11_fitted_0 rfl (lv_at hl 0 rfl) ?_
  refine cbVv (n := 0) (rest := []) hx hb hml hown hts hE hP hD hS hA (sY_X11_fill_1 NF l dC dI cy y0 r  v f w g hIv hCf hRf ) k_1739 k_1741 k_71 k_114 k_1742 hd_yX11_fill ⟨Nat.le_of_ble_eq_true rfl, Nat.le_of_ble_eq_true rfl⟩ 0 11 rfl rfl (rfl) hl.1 rfl (Nat.le_of_ble_eq_true rfl) dX11_fitted_1 (fun u H locs hw hP hD hS => ?_)
  obtain ⟨hG1, hw⟩ := hw
  obtain ⟨v2, f3, w4, g5⟩ := u
  obtain ⟨kV_v2, kF_f3, hIv2, hCf3, hRf3, hk0_v2, hk1_v2, hk2_v2, hk3_v2, hk4_v2, hk5_v2, hk8_v2, hk9_v2, hk10_v2, hk13_v2, hk14_v2, hk15_v2, hk17_v2, hk18_v2, hk24_v2, hk25_v2, hk35_v2, hk36_v2, hk38_v2, hk39_v2⟩ := hw
  have hM_v2 : KV [] v2 v := KV.tr kV_v2 hM_v rfl
  have hA_f3 : KF [7, 8, 24] f3 f := KF.tr kF_f3 hA_f rfl
  have hP : va_P (dC, dI) vwCl (YW cy y0 r v2 f3 w4 g5) H := hP
  have hD : va_D A (YW cy y0 r v2 f3 w4 g5) := hD
  refine lv_aload_n hx hb dX11_fitted_4 rfl (lv_at hl 0 rfl) ?_
  refine cbVi (n := 0) (rest := []) hx hb hml hown hts hE hP hD hS hA (sY_X11_fittedOnes_1 NF l dC dI cy y0 r  v2 f3 w4 g5 hIv2 hCf3 hRf3 ) k_1809 k_1811 k_81 k_114 k_1812 hd_yX11_fittedOnes ⟨Nat.le_of_ble_eq_true rfl, Nat.le_of_ble_eq_true rfl⟩ 0 11 rfl rfl (rfl) hl.1 rfl (Nat.le_of_ble_eq_true rfl) dX11_fitted_5 (fun r6 u H locs hw hP hD hS => ?_)
  obtain ⟨hG7, hw⟩ := hw
  obtain ⟨v8, f9, w10, g11⟩ := u
  obtain ⟨kV_v8, kF_f9, hIv8, hCf9, hRf9, hk0_v8, hk1_v8, hk2_v8, hk3_v8, hk4_v8, hk5_v8, hk8_v8, hk9_v8, hk10_v8, hk13_v8, hk14_v8, hk15_v8, hk17_v8, hk18_v8, hk24_v8, hk25_v8, hk35_v8, hk36_v8, hk38_v8, hk39_v8⟩ := hw
  have hM_v8 : KV [] v8 v := KV.tr kV_v8 hM_v2 rfl
  have hA_f9 : KF [7, 8, 24] f9 f := KF.tr kF_f9 hA_f3 rfl
  have hP : va_P (dC, dI) vwCl (YW cy y0 r v8 f9 w10 g11) H := hP
  have hD : va_D A (YW cy y0 r v8 f9 w10 g11) := hD
  exact ret r6 (v8, f9, w10, g11) _ _ _ _ _ _ rfl ⟨(gsY_X11_fitted_1_q0 hG1 hG7), hM_v8, hA_f9, hIv8, hCf9, hRf9, (hk0_v8.trans hk0_v2), (hk1_v8.trans hk1_v2), (hk2_v8.trans hk2_v2), (hk3_v8.trans hk3_v2), (hk4_v8.trans hk4_v2), (hk5_v8.trans hk5_v2), (hk8_v8.trans hk8_v2), (hk9_v8.trans hk9_v2), (hk10_v8.trans hk10_v2), (hk13_v8.trans hk13_v2), (hk14_v8.trans hk14_v2), (hk15_v8.trans hk15_v2), (hk17_v8.trans hk17_v2), (hk18_v8.trans hk18_v2), (hk24_v8.trans hk24_v2), (hk25_v8.trans hk25_v2), (hk35_v8.trans hk35_v2), (hk36_v8.trans hk36_v2), (hk38_v8.trans hk38_v2), (hk39_v8.trans hk39_v2)⟩ hP hD hS dX11_fitted_8 (Nat.le_refl _) (Nat.le_refl _)
set_option maxHeartbeats 4000000 in
set_option maxRecDepth 100000 in
theorem sY_X11_wideOf_1 (NF : Nat) (l : Launch) (dC : Nat → ClassId) (dI : Nat → Nat → Nat) (cy : Nat → ClassId) (y0 : Nat) (r : Nat → Nat) (p1 : Int32) (v : Nat → Int32) (f : Nat → Nat → Int32) (w : Int64) (g : Nat → Int64) (hIv : YI v) (hCf : YC f) (hRf : progOK (f 4) (f 5) (v 9).toInt.toNat)  : ctI l (dC, dI) cy yX11_wideOf cX11_wideOf 4 .int 1 60 0 0 Unit [.ref y0, .int p1] (YW cy y0 r v f w g) (fun r u => gsY_X11_wideOf_1 NF p1 v f w g = r) (fun u => YW cy y0 r v f w g) := by
  refine ctI_of (by decide) (Nat.le_of_ble_eq_true rfl) (fun p e s m below meth c A ls Q hx hb hml hts hown hE hP hD hA hl ret => ?_)
  have hUv : (v 35).toInt + (v 36).toInt ≤ 40 := hIv.2
  have hown : s.vm.findClass RX11 = some m.cls := hown
  have hS : va_S A s.heap s.heap [] := va_S.rf
  have hl : lv_has ls 4 [(0, .ref y0), (1, .int p1)] := hl
  refine lv_iconst (v := 0) hx hb dX11_wideOf_0 rfl ?_
  refine lv_istore_n (lv' := [(2, .int 0), (0, .ref y0), (1, .int p1)]) hx hb dX11_wideOf_1 rfl hl (Nat.le_of_ble_eq_true rfl) rfl (fun ls hl => ?_)
  refine lv_iconst (v := 0) hx hb dX11_wideOf_2 rfl ?_
  refine lv_istore_n (lv' := [(3, .int 0), (2, .int 0), (0, .ref y0), (1, .int p1)]) hx hb dX11_wideOf_3 rfl hl (Nat.le_of_ble_eq_true rfl) rfl (fun ls hl => ?_)
  have lp1 : ∀ (n1 : Nat) (l2_1 : Int32) (l3_1 : Int32), gsY_X11_wideOf_1_L1 NF p1 v f n1 l2_1 l3_1 = (gsY_X11_wideOf_1 NF p1 v f w g) → ((0 : Int) ≤ l3_1.toInt ∧ l3_1.toInt ≤ 2147483647) → (2147483647 - l3_1.toInt).toNat < n1 → ∀ (H : Heap) (locs : List Loc) (ls : Array Slot), va_P (dC, dI) vwCl (YW cy y0 r v f w g) H → va_D A (YW cy y0 r v f w g) → va_S A s.heap H locs → lv_has ls 4 [(3, .int l3_1), (2, .int l2_1), (0, .ref y0), (1, .int p1)] → W p l e { frames := 1, cells := 0, slots := 0, locals := 60 } s m ([.ref y0, .int p1] : List Value).toArray below meth c H locs 0 0 Q (F0 m 4 ls []) := by
    intro n1
    induction n1 with
    | zero => intro l2_1 l3_1 hT1 hr3_1 hm; exact absurd hm (Nat.not_lt_zero _)
    | succ n1 ih1 =>
      intro l2_1 l3_1 hT1 hr3_1 hm1 H locs ls hP hD hS hl
      refine lv_iload_n hx hb dX11_wideOf_4 rfl (lv_at hl 0 rfl) ?_
      refine lv_aload_n hx hb dX11_wideOf_5 rfl (lv_at hl 2 rfl) ?_
      refine va_get (D := (dC, dI)) (ci := 11) (v := .int (v 24)) (C := RX11) (T := TX11) (N := 79) hx hb hts inB_11 hown hE.1 hP 0 rfl rfl 48 (Nat.le_of_ble_eq_true rfl) (hts _ k_1368) (fun _ h9 => h9) rfl dX11_wideOf_6 ?_
      have b24_v : 0 ≤ (v 24).toInt ∧ (v 24).toInt ≤ 6 := Yb_24 hIv.1
      refine lv_icmp_ge (tgt := 51) hx hb dX11_wideOf_9 rfl (fun c2 => ?_) (fun c2 => ?_)
      · skip
        refine lv_iload_n hx hb dX11_wideOf_51 rfl (lv_at hl 1 rfl) ?_
        exact ret l2_1 () _ _ _ _ _ _ rfl (hT1.symm.trans (gsY_X11_wideOf_1_q0 c2)) hP hD hS dX11_wideOf_52 (Nat.le_refl _) (Nat.le_refl _)
      · skip
        have zc2 : ¬ ((v 24).toInt ≤ l3_1.toInt) := zMn rfl rfl c2
        have rg5 := fb_rng l3_1
        have rg6 := fb_rng (v 24)
        refine lv_iload_n hx hb dX11_wideOf_12 rfl (lv_at hl 1 rfl) ?_
        refine lv_iload_n hx hb dX11_wideOf_13 rfl (lv_at hl 3 rfl) ?_
        refine lv_iload_n hx hb dX11_wideOf_14 rfl (lv_at hl 0 rfl) ?_
        refine lv_ishr hx hb dX11_wideOf_15 ?_
        refine lv_topi (fun t7 et7 => ?_)
        refine lv_iconst (v := 1) hx hb dX11_wideOf_16 rfl ?_
        refine lv_iand hx hb dX11_wideOf_17 ?_
        refine lv_topi (fun t8 et8 => ?_)
        have zt8 : 0 ≤ t8.toInt ∧ t8.toInt < 2 := by rw [et8]; exact and_rng _ (k := 1) (by decide) (by decide)
        refine lv_iconst (v := 1) hx hb dX11_wideOf_18 rfl ?_
        refine lv_icmp_ne (tgt := 42) hx hb dX11_wideOf_19 rfl (fun c9 => ?_) (fun c9 => ?_)
        · skip
          refine lv_iconst (v := 0) hx hb dX11_wideOf_42 rfl ?_
          refine lv_iadd hx hb dX11_wideOf_43 ?_
          refine lv_topi (fun t10 et10 => ?_)
          refine lv_istore_n (lv' := [(2, .int t10), (3, .int l3_1), (0, .ref y0), (1, .int p1)]) hx hb dX11_wideOf_44 rfl hl (Nat.le_of_ble_eq_true rfl) rfl (fun ls hl => ?_)
          obtain ⟨t12, et12⟩ : ∃ y : Int32, y = l3_1 + 1 := ⟨_, rfl⟩
          have zt12 : t12.toInt = l3_1.toInt + 1 := (congrArg Int32.toInt et12).trans (add_i rfl tc_1 (om_41 hr3_1) (om_187 b24_v zc2))
          refine lv_iinc (v := t12) (lv' := [(3, .int t12), (2, .int t10), (0, .ref y0), (1, .int p1)]) hx hb dX11_wideOf_45 hl (k := 1) rfl et12.symm (Nat.le_of_ble_eq_true rfl) rfl (fun ls hl => ?_)
          refine lv_goto (tgt := 4) hx hb dX11_wideOf_48 rfl ?_
          have rg13 := fb_rng t12
          exact ih1 t10 t12 ((gsY_X11_wideOf_1_q1 c2 et7 et8 c9 et10 et12).symm.trans hT1) ⟨show (0 : Int) ≤ t12.toInt from om_43 hr3_1 zt12, show t12.toInt ≤ (2147483647 : Int) from om_44 rg13⟩ (show (2147483647 - t12.toInt).toNat < n1 from om_33 hm1 zt12 rg13) _ _ _ hP hD hS (lv_sub hl [0, 1, 2, 3] rfl)
        · skip
          have zc9 : t8.toInt = 1 := zEp rfl tc_1 c9
          refine lv_aload_n hx hb dX11_wideOf_22 rfl (lv_at hl 2 rfl) ?_
          refine va_get (D := (dC, dI)) (ci := 11) (v := .ref (r 60)) (C := RX11) (T := TX11) (N := 79) hx hb hts inB_11 hown hE.1 hP 0 rfl rfl 60 (Nat.le_of_ble_eq_true rfl) (hts _ k_1380) (fun _ h9 => h9) rfl dX11_wideOf_23 ?_
          refine lv_bipush (v := 18) hx hb dX11_wideOf_26 rfl ?_
          refine lv_aload_n hx hb dX11_wideOf_28 rfl (lv_at hl 2 rfl) ?_
          refine va_get (D := (dC, dI)) (ci := 11) (v := .ref (r 60)) (C := RX11) (T := TX11) (N := 79) hx hb hts inB_11 hown hE.1 hP 0 rfl rfl 60 (Nat.le_of_ble_eq_true rfl) (hts _ k_1380) (fun _ h9 => h9) rfl dX11_wideOf_29 ?_
          refine lv_bipush (v := 6) hx hb dX11_wideOf_32 rfl ?_
          refine lv_iload_n hx hb dX11_wideOf_34 rfl (lv_at hl 0 rfl) ?_
          refine lv_iadd hx hb dX11_wideOf_35 ?_
          refine lv_topi (fun t14 et14 => ?_)
          have zt14 : t14.toInt = 6 + l3_1.toInt := (congrArg Int32.toInt et14).trans (add_i tc_6 rfl (om_120 hr3_1) (om_476 b24_v zc2))
          refine ldI hx hb hE hP 25 rfl (vpI (k := 39) rfl (show 0 ≤ t14.toInt from om_121 hr3_1 zt14) (show t14.toInt < 39 from om_477 b24_v zc2 zt14)) rfl rfl dX11_wideOf_36 ?_
          refine lv_topi (fun t15 et15 => ?_)
          have zt15 : t14.toInt.toNat % 39 < 6 ∨ 12 ≤ t14.toInt.toNat % 39 ∨ (-1 ≤ t15.toInt ∧ t15.toInt ≤ 5) := by rw [et15]; exact wear_ld hCf.2.1 (show t14.toInt.toNat < 39 from om_593 b24_v zc2 zt14)
          refine lv_iadd hx hb dX11_wideOf_37 ?_
          refine lv_topi (fun t16 et16 => ?_)
          have rg17 := fb_rng t15
          have zt16 : t16.toInt = 18 + t15.toInt := by rw [et16]; exact add_i (by decide) rfl (by omega) (by omega)
          refine ldI hx hb hE hP 25 rfl (vpI (k := 39) rfl (show 0 ≤ t16.toInt by omega) (show t16.toInt < 39 by omega)) rfl rfl dX11_wideOf_38 ?_
          refine lv_topi (fun t18 et18 => ?_)
          refine lv_goto (tgt := 43) hx hb dX11_wideOf_39 rfl ?_
          refine lv_iadd hx hb dX11_wideOf_43 ?_
          refine lv_topi (fun t19 et19 => ?_)
          refine lv_istore_n (lv' := [(2, .int t19), (3, .int l3_1), (0, .ref y0), (1, .int p1)]) hx hb dX11_wideOf_44 rfl hl (Nat.le_of_ble_eq_true rfl) rfl (fun ls hl => ?_)
          obtain ⟨t20, et20⟩ : ∃ y : Int32, y = l3_1 + 1 := ⟨_, rfl⟩
          have zt20 : t20.toInt = l3_1.toInt + 1 := (congrArg Int32.toInt et20).trans (add_i rfl tc_1 (om_41 hr3_1) (om_187 b24_v zc2))
          refine lv_iinc (v := t20) (lv' := [(3, .int t20), (2, .int t19), (0, .ref y0), (1, .int p1)]) hx hb dX11_wideOf_45 hl (k := 1) rfl et20.symm (Nat.le_of_ble_eq_true rfl) rfl (fun ls hl => ?_)
          refine lv_goto (tgt := 4) hx hb dX11_wideOf_48 rfl ?_
          have rg21 := fb_rng t20
          exact ih1 t19 t20 ((gsY_X11_wideOf_1_q2 c2 et7 et8 c9 et14 et15 et16 et18 et19 et20).symm.trans hT1) ⟨show (0 : Int) ≤ t20.toInt from om_43 hr3_1 zt20, show t20.toInt ≤ (2147483647 : Int) from om_44 rg21⟩ (show (2147483647 - t20.toInt).toNat < n1 from om_33 hm1 zt20 rg21) _ _ _ hP hD hS (lv_sub hl [0, 1, 2, 3] rfl)
  exact lp1 (4294967296 + NF) 0 0 gsY_X11_wideOf_1_q3.symm ⟨by decide, by decide⟩ (show (2147483647 - (0 : Int32).toInt).toNat < 4294967296 + NF from om_38 tc_0) _ _ _ hP hD hS (lv_sub hl [0, 1, 2, 3] rfl)
set_option maxHeartbeats 4000000 in
set_option maxRecDepth 100000 in
theorem sY_X11_breadth_1 (NF : Nat) (l : Launch) (dC : Nat → ClassId) (dI : Nat → Nat → Nat) (cy : Nat → ClassId) (y0 : Nat) (r : Nat → Nat)  (v : Nat → Int32) (f : Nat → Nat → Int32) (w : Int64) (g : Nat → Int64) (hIv : YI v) (hCf : YC f) (hRf : progOK (f 4) (f 5) (v 9).toInt.toNat)  : ctI l (dC, dI) cy yX11_breadth cX11_breadth 1 .int 3 102 0 0 ((Nat → Int32) × (Nat → Nat → Int32) × (Int64) × (Nat → Int64)) [.ref y0] (YW cy y0 r v f w g) (fun r u => gsY_X11_breadth_1 NF v f w g = (r, u) ∧ KV [] u.1 v ∧ KF [24] u.2.1 f ∧ YI u.1 ∧ YC u.2.1 ∧ progOK (u.2.1 4) (u.2.1 5) (u.1 9).toInt.toNat ∧ u.1 0 = v 0 ∧ u.1 1 = v 1 ∧ u.1 2 = v 2 ∧ u.1 3 = v 3 ∧ u.1 4 = v 4 ∧ u.1 5 = v 5 ∧ u.1 8 = v 8 ∧ u.1 9 = v 9 ∧ u.1 10 = v 10 ∧ u.1 13 = v 13 ∧ u.1 14 = v 14 ∧ u.1 15 = v 15 ∧ u.1 17 = v 17 ∧ u.1 18 = v 18 ∧ u.1 24 = v 24 ∧ u.1 25 = v 25 ∧ u.1 35 = v 35 ∧ u.1 36 = v 36 ∧ u.1 38 = v 38 ∧ u.1 39 = v 39) (fun u => YW cy y0 r u.1 u.2.1 u.2.2.1 u.2.2.2) := by
  refine ctI_of (by decide) (Nat.le_of_ble_eq_true rfl) (fun p e s m below meth c A ls Q hx hb hml hts hown hE hP hD hA hl ret => ?_)
  have hM_v : KV [] v v := fun _ _ => rfl
  have hA_f : KF [24] f f := fun _ _ => rfl
  have hown : s.vm.findClass RX11 = some m.cls := hown
  have hS : va_S A s.heap s.heap [] := va_S.rf
  have hl : lv_has ls 1 [(0, .ref y0)] := hl
  refine lv_aload_n hx hb dX11_breadth_0 rfl (lv_at hl 0 rfl) ?_
  refine cbVv (n := 0) (rest := []) hx hb hml hown hts hE hP hD hS hA (sY_X11_fill_1 NF l dC dI cy y0 r  v f w g hIv hCf hRf ) k_1739 k_1741 k_71 k_114 k_1742 hd_yX11_fill ⟨Nat.le_of_ble_eq_true rfl, Nat.le_of_ble_eq_true rfl⟩ 0 11 rfl rfl (rfl) hl.1 rfl (Nat.le_of_ble_eq_true rfl) dX11_breadth_1 (fun u H locs hw hP hD hS => ?_)
  obtain ⟨hG1, hw⟩ := hw
  obtain ⟨v2, f3, w4, g5⟩ := u
  obtain ⟨kV_v2, kF_f3, hIv2, hCf3, hRf3, hk0_v2, hk1_v2, hk2_v2, hk3_v2, hk4_v2, hk5_v2, hk8_v2, hk9_v2, hk10_v2, hk13_v2, hk14_v2, hk15_v2, hk17_v2, hk18_v2, hk24_v2, hk25_v2, hk35_v2, hk36_v2, hk38_v2, hk39_v2⟩ := hw
  have hM_v2 : KV [] v2 v := KV.tr kV_v2 hM_v rfl
  have hA_f3 : KF [24] f3 f := KF.tr kF_f3 hA_f rfl
  have hP : va_P (dC, dI) vwCl (YW cy y0 r v2 f3 w4 g5) H := hP
  have hD : va_D A (YW cy y0 r v2 f3 w4 g5) := hD
  refine lv_aload_n hx hb dX11_breadth_4 rfl (lv_at hl 0 rfl) ?_
  refine lv_aload_n hx hb dX11_breadth_5 rfl (lv_at hl 0 rfl) ?_
  refine cbVi (n := 0) (rest := [.ref y0]) hx hb hml hown hts hE hP hD hS hA (sY_X11_wearers_1 NF l dC dI cy y0 r  v2 f3 w4 g5 hIv2 hCf3 hRf3 ) k_1805 k_1807 k_80 k_114 k_1808 hd_yX11_wearers ⟨Nat.le_of_ble_eq_true rfl, Nat.le_of_ble_eq_true rfl⟩ 0 11 rfl rfl (rfl) hl.1 rfl (Nat.le_of_ble_eq_true rfl) dX11_breadth_6 (fun r6 u H locs hw hP hD hS => ?_)
  obtain ⟨hG7, hw⟩ := hw
  refine cbVi (n := 1) (rest := []) hx hb hml hown hts hE hP hD hS hA (sY_X11_wideOf_1 NF l dC dI cy y0 r r6 v2 f3 w4 g5 hIv2 hCf3 hRf3 ) k_1912 k_1914 k_88 k_114 k_1915 hd_yX11_wideOf ⟨Nat.le_of_ble_eq_true rfl, Nat.le_of_ble_eq_true rfl⟩ 0 11 rfl rfl (rfl) hl.1 rfl (Nat.le_of_ble_eq_true rfl) dX11_breadth_9 (fun r8 u H locs hw hP hD hS => ?_)
  have hG9 := hw
  exact ret r8 (v2, f3, w4, g5) _ _ _ _ _ _ rfl ⟨(gsY_X11_breadth_1_q0 hG1 hG7.symm hG9.symm), hM_v2, hA_f3, hIv2, hCf3, hRf3, hk0_v2, hk1_v2, hk2_v2, hk3_v2, hk4_v2, hk5_v2, hk8_v2, hk9_v2, hk10_v2, hk13_v2, hk14_v2, hk15_v2, hk17_v2, hk18_v2, hk24_v2, hk25_v2, hk35_v2, hk36_v2, hk38_v2, hk39_v2⟩ hP hD hS dX11_breadth_12 (Nat.le_refl _) (Nat.le_refl _)
set_option maxHeartbeats 4000000 in
set_option maxRecDepth 100000 in
theorem sY_X11_members_1 (NF : Nat) (l : Launch) (dC : Nat → ClassId) (dI : Nat → Nat → Nat) (cy : Nat → ClassId) (y0 : Nat) (r : Nat → Nat) (p0 : Int32) (v : Nat → Int32) (f : Nat → Nat → Int32) (w : Int64) (g : Nat → Int64) (hIv : YI v) (hCf : YC f) (hRf : progOK (f 4) (f 5) (v 9).toInt.toNat)  : ctI l (dC, dI) cy yX11_members cX11_members 3 .int 1 60 0 0 Unit [.int p0] (YW cy y0 r v f w g) (fun r u => gsY_X11_members_1 NF p0 v f w g = r) (fun u => YW cy y0 r v f w g) := by
  refine ctI_of (by decide) (Nat.le_of_ble_eq_true rfl) (fun p e s m below meth c A ls Q hx hb hml hts hown hE hP hD hA hl ret => ?_)
  have hown : s.vm.findClass RX11 = some m.cls := hown
  have hS : va_S A s.heap s.heap [] := va_S.rf
  have hl : lv_has ls 3 [(0, .int p0)] := hl
  refine lv_iconst (v := 0) hx hb dX11_members_0 rfl ?_
  refine lv_istore_n (lv' := [(1, .int 0), (0, .int p0)]) hx hb dX11_members_1 rfl hl (Nat.le_of_ble_eq_true rfl) rfl (fun ls hl => ?_)
  refine lv_iconst (v := 0) hx hb dX11_members_2 rfl ?_
  refine lv_istore_n (lv' := [(2, .int 0), (1, .int 0), (0, .int p0)]) hx hb dX11_members_3 rfl hl (Nat.le_of_ble_eq_true rfl) rfl (fun ls hl => ?_)
  have lp1 : ∀ (n1 : Nat) (l1_1 : Int32) (l2_1 : Int32), gsY_X11_members_1_L1 NF p0 n1 l1_1 l2_1 = (gsY_X11_members_1 NF p0 v f w g) → ((0 : Int) ≤ l2_1.toInt ∧ l2_1.toInt ≤ 2147483647) → (2147483647 - l2_1.toInt).toNat < n1 → ∀ (H : Heap) (locs : List Loc) (ls : Array Slot), va_P (dC, dI) vwCl (YW cy y0 r v f w g) H → va_D A (YW cy y0 r v f w g) → va_S A s.heap H locs → lv_has ls 3 [(2, .int l2_1), (1, .int l1_1), (0, .int p0)] → W p l e { frames := 1, cells := 0, slots := 0, locals := 60 } s m ([.int p0] : List Value).toArray below meth c H locs 0 0 Q (F0 m 4 ls []) := by
    intro n1
    induction n1 with
    | zero => intro l1_1 l2_1 hT1 hr2_1 hm; exact absurd hm (Nat.not_lt_zero _)
    | succ n1 ih1 =>
      intro l1_1 l2_1 hT1 hr2_1 hm1 H locs ls hP hD hS hl
      refine lv_iload_n hx hb dX11_members_4 rfl (lv_at hl 0 rfl) ?_
      refine lv_bipush (v := 6) hx hb dX11_members_5 rfl ?_
      refine lv_icmp_ge (tgt := 24) hx hb dX11_members_7 rfl (fun c2 => ?_) (fun c2 => ?_)
      · skip
        refine lv_iload_n hx hb dX11_members_24 rfl (lv_at hl 1 rfl) ?_
        exact ret l1_1 () _ _ _ _ _ _ rfl (hT1.symm.trans (gsY_X11_members_1_q0 c2)) hP hD hS dX11_members_25 (Nat.le_refl _) (Nat.le_refl _)
      · skip
        have zc2 : ¬ (6 ≤ l2_1.toInt) := zMn tc_6 rfl c2
        refine lv_iload_n hx hb dX11_members_10 rfl (lv_at hl 1 rfl) ?_
        refine lv_iload_n hx hb dX11_members_11 rfl (lv_at hl 2 rfl) ?_
        refine lv_iload_n hx hb dX11_members_12 rfl (lv_at hl 0 rfl) ?_
        refine lv_ishr hx hb dX11_members_13 ?_
        refine lv_topi (fun t3 et3 => ?_)
        refine lv_iconst (v := 1) hx hb dX11_members_14 rfl ?_
        refine lv_iand hx hb dX11_members_15 ?_
        refine lv_topi (fun t4 et4 => ?_)
        refine lv_iadd hx hb dX11_members_16 ?_
        refine lv_topi (fun t5 et5 => ?_)
        refine lv_istore_n (lv' := [(1, .int t5), (2, .int l2_1), (0, .int p0)]) hx hb dX11_members_17 rfl hl (Nat.le_of_ble_eq_true rfl) rfl (fun ls hl => ?_)
        obtain ⟨t6, et6⟩ : ∃ y : Int32, y = l2_1 + 1 := ⟨_, rfl⟩
        have zt6 : t6.toInt = l2_1.toInt + 1 := (congrArg Int32.toInt et6).trans (add_i rfl tc_1 (om_41 hr2_1) (om_65 zc2))
        refine lv_iinc (v := t6) (lv' := [(2, .int t6), (1, .int t5), (0, .int p0)]) hx hb dX11_members_18 hl (k := 1) rfl et6.symm (Nat.le_of_ble_eq_true rfl) rfl (fun ls hl => ?_)
        refine lv_goto (tgt := 4) hx hb dX11_members_21 rfl ?_
        have rg8 := fb_rng t6
        exact ih1 t5 t6 ((gsY_X11_members_1_q1 c2 et3 et4 et5 et6).symm.trans hT1) ⟨show (0 : Int) ≤ t6.toInt from om_43 hr2_1 zt6, show t6.toInt ≤ (2147483647 : Int) from om_44 rg8⟩ (show (2147483647 - t6.toInt).toNat < n1 from om_33 hm1 zt6 rg8) _ _ _ hP hD hS (lv_sub hl [0, 1, 2] rfl)
  exact lp1 (4294967296 + NF) 0 0 gsY_X11_members_1_q2.symm ⟨by decide, by decide⟩ (show (2147483647 - (0 : Int32).toInt).toNat < 4294967296 + NF from om_38 tc_0) _ _ _ hP hD hS (lv_sub hl [0, 1, 2] rfl)
set_option maxHeartbeats 4000000 in
set_option maxRecDepth 100000 in
theorem sY_X11_front_1 (NF : Nat) (l : Launch) (dC : Nat → ClassId) (dI : Nat → Nat → Nat) (cy : Nat → ClassId) (y0 : Nat) (r : Nat → Nat) (p1 : Int32) (p2 : Int32) (v : Nat → Int32) (f : Nat → Nat → Int32) (w : Int64) (g : Nat → Int64) (hIv : YI v) (hCf : YC f) (hRf : progOK (f 4) (f 5) (v 9).toInt.toNat)  : ctI l (dC, dI) cy yX11_front cX11_front 6 .int 3 102 0 0 ((Nat → Int32) × (Nat → Nat → Int32) × (Int64) × (Nat → Int64)) [.ref y0, .int p1, .int p2] (YW cy y0 r v f w g) (fun r u => gsY_X11_front_1 NF p1 p2 v f w g = (r, u) ∧ KV [] u.1 v ∧ KF [24] u.2.1 f ∧ YI u.1 ∧ YC u.2.1 ∧ progOK (u.2.1 4) (u.2.1 5) (u.1 9).toInt.toNat ∧ u.1 0 = v 0 ∧ u.1 1 = v 1 ∧ u.1 2 = v 2 ∧ u.1 3 = v 3 ∧ u.1 4 = v 4 ∧ u.1 5 = v 5 ∧ u.1 8 = v 8 ∧ u.1 9 = v 9 ∧ u.1 10 = v 10 ∧ u.1 13 = v 13 ∧ u.1 14 = v 14 ∧ u.1 15 = v 15 ∧ u.1 17 = v 17 ∧ u.1 18 = v 18 ∧ u.1 24 = v 24 ∧ u.1 25 = v 25 ∧ u.1 35 = v 35 ∧ u.1 36 = v 36 ∧ u.1 38 = v 38 ∧ u.1 39 = v 39) (fun u => YW cy y0 r u.1 u.2.1 u.2.2.1 u.2.2.2) := by
  refine ctI_of (by decide) (Nat.le_of_ble_eq_true rfl) (fun p e s m below meth c A ls Q hx hb hml hts hown hE hP hD hA hl ret => ?_)
  have hM_v : KV [] v v := fun _ _ => rfl
  have hA_f : KF [24] f f := fun _ _ => rfl
  have hown : s.vm.findClass RX11 = some m.cls := hown
  have hS : va_S A s.heap s.heap [] := va_S.rf
  have hl : lv_has ls 6 [(0, .ref y0), (1, .int p1), (2, .int p2)] := hl
  refine lv_iload_n hx hb dX11_front_0 rfl (lv_at hl 1 rfl) ?_
  refine lv_iconst (v := 0) hx hb dX11_front_1 rfl ?_
  refine lv_sipush (v := 999) hx hb dX11_front_2 rfl ?_
  refine cbSi (n := 3) (rest := []) hx hb hml hown hts hE hP hD hS hA (sY_X11_isIn_1 NF l dC dI cy y0 r p1 0 999 v f w g hIv hCf hRf ) k_1736 k_1737 k_114 k_1738 he_yX11_isIn ⟨Nat.le_of_ble_eq_true rfl, Nat.le_of_ble_eq_true rfl⟩ (rfl) hl.1 rfl (Nat.le_of_ble_eq_true rfl) dX11_front_5 (fun r3 u H locs hw hP hD hS => ?_)
  obtain ⟨hG4, hw⟩ := hw
  rcases hw with ⟨g5, g5_0, g5_1⟩ | ⟨g5⟩
  · skip
    subst g5
    refine lv_if_eq (tgt := 20) hx hb dX11_front_8 rfl (fun c0 => absurd c0 (by decide)) (fun _ => ?_)
    refine lv_iload_n hx hb dX11_front_11 rfl (lv_at hl 2 rfl) ?_
    refine lv_iconst (v := 0) hx hb dX11_front_12 rfl ?_
    refine lv_iconst (v := 1) hx hb dX11_front_13 rfl ?_
    refine cbSi (n := 3) (rest := []) hx hb hml hown hts hE hP hD hS hA (sY_X11_isIn_1 NF l dC dI cy y0 r p2 0 1 v f w g hIv hCf hRf ) k_1736 k_1737 k_114 k_1738 he_yX11_isIn ⟨Nat.le_of_ble_eq_true rfl, Nat.le_of_ble_eq_true rfl⟩ (rfl) hl.1 rfl (Nat.le_of_ble_eq_true rfl) dX11_front_14 (fun r7 u H locs hw hP hD hS => ?_)
    obtain ⟨hG8, hw⟩ := hw
    rcases hw with ⟨g9, g9_0, g9_1⟩ | ⟨g9⟩
    · skip
      subst g9
      refine lv_if_ne (tgt := 22) hx hb dX11_front_17 rfl (fun _ => ?_) (fun c0 => absurd c0 (by decide))
      refine lv_aload_n hx hb dX11_front_22 rfl (lv_at hl 0 rfl) ?_
      refine cbVv (n := 0) (rest := []) hx hb hml hown hts hE hP hD hS hA (sY_X11_fill_1 NF l dC dI cy y0 r  v f w g hIv hCf hRf ) k_1739 k_1741 k_71 k_114 k_1742 hd_yX11_fill ⟨Nat.le_of_ble_eq_true rfl, Nat.le_of_ble_eq_true rfl⟩ 0 11 rfl rfl (rfl) hl.1 rfl (Nat.le_of_ble_eq_true rfl) dX11_front_23 (fun u H locs hw hP hD hS => ?_)
      obtain ⟨hG10, hw⟩ := hw
      obtain ⟨v11, f12, w13, g14⟩ := u
      obtain ⟨kV_v11, kF_f12, hIv11, hCf12, hRf12, hk0_v11, hk1_v11, hk2_v11, hk3_v11, hk4_v11, hk5_v11, hk8_v11, hk9_v11, hk10_v11, hk13_v11, hk14_v11, hk15_v11, hk17_v11, hk18_v11, hk24_v11, hk25_v11, hk35_v11, hk36_v11, hk38_v11, hk39_v11⟩ := hw
      have hM_v11 : KV [] v11 v := KV.tr kV_v11 hM_v rfl
      have hA_f12 : KF [24] f12 f := KF.tr kF_f12 hA_f rfl
      have hP : va_P (dC, dI) vwCl (YW cy y0 r v11 f12 w13 g14) H := hP
      have hD : va_D A (YW cy y0 r v11 f12 w13 g14) := hD
      refine lv_aload_n hx hb dX11_front_26 rfl (lv_at hl 0 rfl) ?_
      refine cbVi (n := 0) (rest := []) hx hb hml hown hts hE hP hD hS hA (sY_X11_wearers_1 NF l dC dI cy y0 r  v11 f12 w13 g14 hIv11 hCf12 hRf12 ) k_1805 k_1807 k_80 k_114 k_1808 hd_yX11_wearers ⟨Nat.le_of_ble_eq_true rfl, Nat.le_of_ble_eq_true rfl⟩ 0 11 rfl rfl (rfl) hl.1 rfl (Nat.le_of_ble_eq_true rfl) dX11_front_27 (fun r15 u H locs hw hP hD hS => ?_)
      obtain ⟨hG16, hw⟩ := hw
      have pw_r15 : (0 : Int) ≤ r15.toInt ∧ r15.toInt ≤ 63 := hw
      refine lv_istore_n (lv' := [(3, .int r15), (0, .ref y0), (1, .int p1), (2, .int p2)]) hx hb dX11_front_30 rfl hl (Nat.le_of_ble_eq_true rfl) rfl (fun ls hl => ?_)
      refine lv_iconst (v := (-1)) hx hb dX11_front_31 rfl ?_
      refine lv_istore (lv' := [(4, .int (-1)), (3, .int r15), (0, .ref y0), (1, .int p1), (2, .int p2)]) hx hb dX11_front_32 hl (Nat.le_of_ble_eq_true rfl) rfl (fun ls hl => ?_)
      refine lv_iconst (v := 0) hx hb dX11_front_34 rfl ?_
      refine lv_istore (lv' := [(5, .int 0), (4, .int (-1)), (3, .int r15), (0, .ref y0), (1, .int p1), (2, .int p2)]) hx hb dX11_front_35 hl (Nat.le_of_ble_eq_true rfl) rfl (fun ls hl => ?_)
      have lp17 : ∀ (n17 : Nat) (l4_17 : Int32) (l5_17 : Int32), gsY_X11_front_1_L17 NF p1 p2 v11 f12 w13 g14 r15 n17 l4_17 l5_17 = (gsY_X11_front_1 NF p1 p2 v f w g) → ((0 : Int) ≤ l5_17.toInt ∧ l5_17.toInt ≤ 2147483647) → (2147483647 - l5_17.toInt).toNat < n17 → ∀ (H : Heap) (locs : List Loc) (ls : Array Slot), va_P (dC, dI) vwCl (YW cy y0 r v11 f12 w13 g14) H → va_D A (YW cy y0 r v11 f12 w13 g14) → va_S A s.heap H locs → lv_has ls 6 [(5, .int l5_17), (4, .int l4_17), (3, .int r15), (0, .ref y0), (1, .int p1), (2, .int p2)] → W p l e { frames := 3, cells := 0, slots := 0, locals := 102 } s m ([.ref y0, .int p1, .int p2] : List Value).toArray below meth c H locs 0 0 Q (F0 m 37 ls []) := by
        intro n17
        induction n17 with
        | zero => intro l4_17 l5_17 hT17 hr5_17 hm; exact absurd hm (Nat.not_lt_zero _)
        | succ n17 ih17 =>
          intro l4_17 l5_17 hT17 hr5_17 hm17 H locs ls hP hD hS hl
          refine lv_iload hx hb dX11_front_37 (lv_at hl 0 rfl) ?_
          refine lv_iload_n hx hb dX11_front_39 rfl (lv_at hl 2 rfl) ?_
          refine lv_icmp_gt (tgt := 90) hx hb dX11_front_40 rfl (fun c18 => ?_) (fun c18 => ?_)
          · skip
            refine lv_iload hx hb dX11_front_90 (lv_at hl 1 rfl) ?_
            refine lv_if_ge (tgt := 99) hx hb dX11_front_92 rfl (fun c21 => ?_) (fun c21 => ?_)
            · skip
              refine lv_iload_n hx hb dX11_front_99 rfl (lv_at hl 5 rfl) ?_
              refine lv_if_ne (tgt := 111) hx hb dX11_front_100 rfl (fun c22 => ?_) (fun c22 => ?_)
              · skip
                refine lv_iload hx hb dX11_front_111 (lv_at hl 1 rfl) ?_
                exact ret l4_17 (v11, f12, w13, g14) _ _ _ _ _ _ rfl ⟨(hT17.symm.trans (gsY_X11_front_1_q0 c18 c21 c22)), hM_v11, hA_f12, hIv11, hCf12, hRf12, hk0_v11, hk1_v11, hk2_v11, hk3_v11, hk4_v11, hk5_v11, hk8_v11, hk9_v11, hk10_v11, hk13_v11, hk14_v11, hk15_v11, hk17_v11, hk18_v11, hk24_v11, hk25_v11, hk35_v11, hk36_v11, hk38_v11, hk39_v11⟩ hP hD hS dX11_front_113 (Nat.le_refl _) (Nat.le_refl _)
              · skip
                refine lv_iload hx hb dX11_front_103 (lv_at hl 1 rfl) ?_
                refine cbSi (n := 1) (rest := []) hx hb hml hown hts hE hP hD hS hA (sY_X11_members_1 NF l dC dI cy y0 r l4_17 v11 f12 w13 g14 hIv11 hCf12 hRf12 ) k_1900 k_1901 k_114 k_1902 he_yX11_members ⟨Nat.le_of_ble_eq_true rfl, Nat.le_of_ble_eq_true rfl⟩ (rfl) hl.1 rfl (Nat.le_of_ble_eq_true rfl) dX11_front_105 (fun r23 u H locs hw hP hD hS => ?_)
                have hG24 := hw
                refine lv_goto (tgt := 113) hx hb dX11_front_108 rfl ?_
                exact ret r23 (v11, f12, w13, g14) _ _ _ _ _ _ rfl ⟨(hT17.symm.trans (gsY_X11_front_1_q1 c18 c21 c22 hG24.symm)), hM_v11, hA_f12, hIv11, hCf12, hRf12, hk0_v11, hk1_v11, hk2_v11, hk3_v11, hk4_v11, hk5_v11, hk8_v11, hk9_v11, hk10_v11, hk13_v11, hk14_v11, hk15_v11, hk17_v11, hk18_v11, hk24_v11, hk25_v11, hk35_v11, hk36_v11, hk38_v11, hk39_v11⟩ hP hD hS dX11_front_113 (Nat.le_refl _) (Nat.le_refl _)
            · skip
              refine lv_iconst (v := (-1)) hx hb dX11_front_95 rfl ?_
              refine lv_goto (tgt := 113) hx hb dX11_front_96 rfl ?_
              exact ret (-1) (v11, f12, w13, g14) _ _ _ _ _ _ rfl ⟨(hT17.symm.trans (gsY_X11_front_1_q2 c18 c21)), hM_v11, hA_f12, hIv11, hCf12, hRf12, hk0_v11, hk1_v11, hk2_v11, hk3_v11, hk4_v11, hk5_v11, hk8_v11, hk9_v11, hk10_v11, hk13_v11, hk14_v11, hk15_v11, hk17_v11, hk18_v11, hk24_v11, hk25_v11, hk35_v11, hk36_v11, hk38_v11, hk39_v11⟩ hP hD hS dX11_front_113 (Nat.le_refl _) (Nat.le_refl _)
          · skip
            have zc18 : ¬ (r15.toInt < l5_17.toInt) := zLn rfl rfl c18
            refine lv_iload hx hb dX11_front_43 (lv_at hl 0 rfl) ?_
            refine lv_iload_n hx hb dX11_front_45 rfl (lv_at hl 2 rfl) ?_
            refine lv_iconst (v := (-1)) hx hb dX11_front_46 rfl ?_
            refine lv_ixor hx hb dX11_front_47 ?_
            refine lv_topi (fun t27 et27 => ?_)
            refine lv_iand hx hb dX11_front_48 ?_
            refine lv_topi (fun t28 et28 => ?_)
            refine lv_if_ne (tgt := 84) hx hb dX11_front_49 rfl (fun c29 => ?_) (fun c29 => ?_)
            · skip
              obtain ⟨t30, et30⟩ : ∃ y : Int32, y = l5_17 + 1 := ⟨_, rfl⟩
              have zt30 : t30.toInt = l5_17.toInt + 1 := (congrArg Int32.toInt et30).trans (add_i rfl tc_1 (om_41 hr5_17) (om_262 pw_r15 zc18))
              refine lv_iinc (v := t30) (lv' := [(5, .int t30), (4, .int l4_17), (3, .int r15), (0, .ref y0), (1, .int p1), (2, .int p2)]) hx hb dX11_front_84 hl (k := 0) rfl et30.symm (Nat.le_of_ble_eq_true rfl) rfl (fun ls hl => ?_)
              refine lv_goto (tgt := 37) hx hb dX11_front_87 rfl ?_
              have rg31 := fb_rng t30
              exact ih17 l4_17 t30 ((gsY_X11_front_1_q3 c18 et27 et28 c29 et30).symm.trans hT17) ⟨show (0 : Int) ≤ t30.toInt from om_43 hr5_17 zt30, show t30.toInt ≤ (2147483647 : Int) from om_44 rg31⟩ (show (2147483647 - t30.toInt).toNat < n17 from om_33 hm17 zt30 rg31) _ _ _ hP hD hS (lv_sub hl [0, 1, 2, 3, 4, 5] rfl)
            · skip
              refine lv_aload_n hx hb dX11_front_52 rfl (lv_at hl 3 rfl) ?_
              refine lv_iload hx hb dX11_front_53 (lv_at hl 0 rfl) ?_
              refine cbVi (n := 1) (rest := []) hx hb hml hown hts hE hP hD hS hA (sY_X11_wideOf_1 NF l dC dI cy y0 r l5_17 v11 f12 w13 g14 hIv11 hCf12 hRf12 ) k_1912 k_1914 k_88 k_114 k_1915 hd_yX11_wideOf ⟨Nat.le_of_ble_eq_true rfl, Nat.le_of_ble_eq_true rfl⟩ 0 11 rfl rfl (rfl) hl.1 rfl (Nat.le_of_ble_eq_true rfl) dX11_front_55 (fun r32 u H locs hw hP hD hS => ?_)
              have hG33 := hw
              refine lv_iload_n hx hb dX11_front_58 rfl (lv_at hl 4 rfl) ?_
              refine lv_icmp_lt (tgt := 84) hx hb dX11_front_59 rfl (fun c34 => ?_) (fun c34 => ?_)
              · skip
                obtain ⟨t37, et37⟩ : ∃ y : Int32, y = l5_17 + 1 := ⟨_, rfl⟩
                have zt37 : t37.toInt = l5_17.toInt + 1 := (congrArg Int32.toInt et37).trans (add_i rfl tc_1 (om_41 hr5_17) (om_262 pw_r15 zc18))
                refine lv_iinc (v := t37) (lv' := [(5, .int t37), (4, .int l4_17), (3, .int r15), (0, .ref y0), (1, .int p1), (2, .int p2)]) hx hb dX11_front_84 hl (k := 0) rfl et37.symm (Nat.le_of_ble_eq_true rfl) rfl (fun ls hl => ?_)
                refine lv_goto (tgt := 37) hx hb dX11_front_87 rfl ?_
                have rg38 := fb_rng t37
                exact ih17 l4_17 t37 ((gsY_X11_front_1_q4 c18 et27 et28 c29 hG33.symm c34 et37).symm.trans hT17) ⟨show (0 : Int) ≤ t37.toInt from om_43 hr5_17 zt37, show t37.toInt ≤ (2147483647 : Int) from om_44 rg38⟩ (show (2147483647 - t37.toInt).toNat < n17 from om_33 hm17 zt37 rg38) _ _ _ hP hD hS (lv_sub hl [0, 1, 2, 3, 4, 5] rfl)
              · skip
                refine lv_iload hx hb dX11_front_62 (lv_at hl 1 rfl) ?_
                refine lv_if_lt (tgt := 80) hx hb dX11_front_64 rfl (fun c41 => ?_) (fun c41 => ?_)
                · skip
                  refine lv_iload hx hb dX11_front_80 (lv_at hl 0 rfl) ?_
                  refine lv_istore (lv' := [(4, .int l5_17), (5, .int l5_17), (3, .int r15), (0, .ref y0), (1, .int p1), (2, .int p2)]) hx hb dX11_front_82 hl (Nat.le_of_ble_eq_true rfl) rfl (fun ls hl => ?_)
                  obtain ⟨t42, et42⟩ : ∃ y : Int32, y = l5_17 + 1 := ⟨_, rfl⟩
                  have zt42 : t42.toInt = l5_17.toInt + 1 := (congrArg Int32.toInt et42).trans (add_i rfl tc_1 (om_41 hr5_17) (om_262 pw_r15 zc18))
                  refine lv_iinc (v := t42) (lv' := [(5, .int t42), (4, .int l5_17), (3, .int r15), (0, .ref y0), (1, .int p1), (2, .int p2)]) hx hb dX11_front_84 hl (k := 1) rfl et42.symm (Nat.le_of_ble_eq_true rfl) rfl (fun ls hl => ?_)
                  refine lv_goto (tgt := 37) hx hb dX11_front_87 rfl ?_
                  have rg43 := fb_rng t42
                  exact ih17 l5_17 t42 ((gsY_X11_front_1_q5 c18 et27 et28 c29 hG33.symm c34 c41 et42).symm.trans hT17) ⟨show (0 : Int) ≤ t42.toInt from om_43 hr5_17 zt42, show t42.toInt ≤ (2147483647 : Int) from om_44 rg43⟩ (show (2147483647 - t42.toInt).toNat < n17 from om_33 hm17 zt42 rg43) _ _ _ hP hD hS (lv_sub hl [0, 1, 2, 3, 4, 5] rfl)
                · skip
                  refine lv_iload hx hb dX11_front_67 (lv_at hl 0 rfl) ?_
                  refine cbSi (n := 1) (rest := []) hx hb hml hown hts hE hP hD hS hA (sY_X11_members_1 NF l dC dI cy y0 r l5_17 v11 f12 w13 g14 hIv11 hCf12 hRf12 ) k_1900 k_1901 k_114 k_1902 he_yX11_members ⟨Nat.le_of_ble_eq_true rfl, Nat.le_of_ble_eq_true rfl⟩ (rfl) hl.1 rfl (Nat.le_of_ble_eq_true rfl) dX11_front_69 (fun r44 u H locs hw hP hD hS => ?_)
                  have hG45 := hw
                  refine lv_iload hx hb dX11_front_72 (lv_at hl 1 rfl) ?_
                  refine cbSi (n := 1) (rest := [.int r44]) hx hb hml hown hts hE hP hD hS hA (sY_X11_members_1 NF l dC dI cy y0 r l4_17 v11 f12 w13 g14 hIv11 hCf12 hRf12 ) k_1900 k_1901 k_114 k_1902 he_yX11_members ⟨Nat.le_of_ble_eq_true rfl, Nat.le_of_ble_eq_true rfl⟩ (rfl) hl.1 rfl (Nat.le_of_ble_eq_true rfl) dX11_front_74 (fun r46 u H locs hw hP hD hS => ?_)
                  have hG47 := hw
                  refine lv_icmp_ge (tgt := 84) hx hb dX11_front_77 rfl (fun c48 => ?_) (fun c48 => ?_)
                  · skip
                    obtain ⟨t51, et51⟩ : ∃ y : Int32, y = l5_17 + 1 := ⟨_, rfl⟩
                    have zt51 : t51.toInt = l5_17.toInt + 1 := (congrArg Int32.toInt et51).trans (add_i rfl tc_1 (om_41 hr5_17) (om_262 pw_r15 zc18))
                    refine lv_iinc (v := t51) (lv' := [(5, .int t51), (4, .int l4_17), (3, .int r15), (0, .ref y0), (1, .int p1), (2, .int p2)]) hx hb dX11_front_84 hl (k := 0) rfl et51.symm (Nat.le_of_ble_eq_true rfl) rfl (fun ls hl => ?_)
                    refine lv_goto (tgt := 37) hx hb dX11_front_87 rfl ?_
                    have rg52 := fb_rng t51
                    exact ih17 l4_17 t51 ((gsY_X11_front_1_q6 c18 et27 et28 c29 hG33.symm c34 c41 hG45.symm hG47.symm c48 et51).symm.trans hT17) ⟨show (0 : Int) ≤ t51.toInt from om_43 hr5_17 zt51, show t51.toInt ≤ (2147483647 : Int) from om_44 rg52⟩ (show (2147483647 - t51.toInt).toNat < n17 from om_33 hm17 zt51 rg52) _ _ _ hP hD hS (lv_sub hl [0, 1, 2, 3, 4, 5] rfl)
                  · skip
                    refine lv_iload hx hb dX11_front_80 (lv_at hl 0 rfl) ?_
                    refine lv_istore (lv' := [(4, .int l5_17), (5, .int l5_17), (3, .int r15), (0, .ref y0), (1, .int p1), (2, .int p2)]) hx hb dX11_front_82 hl (Nat.le_of_ble_eq_true rfl) rfl (fun ls hl => ?_)
                    obtain ⟨t55, et55⟩ : ∃ y : Int32, y = l5_17 + 1 := ⟨_, rfl⟩
                    have zt55 : t55.toInt = l5_17.toInt + 1 := (congrArg Int32.toInt et55).trans (add_i rfl tc_1 (om_41 hr5_17) (om_262 pw_r15 zc18))
                    refine lv_iinc (v := t55) (lv' := [(5, .int t55), (4, .int l5_17), (3, .int r15), (0, .ref y0), (1, .int p1), (2, .int p2)]) hx hb dX11_front_84 hl (k := 1) rfl et55.symm (Nat.le_of_ble_eq_true rfl) rfl (fun ls hl => ?_)
                    refine lv_goto (tgt := 37) hx hb dX11_front_87 rfl ?_
                    have rg56 := fb_rng t55
                    exact ih17 l5_17 t55 ((gsY_X11_front_1_q7 c18 et27 et28 c29 hG33.symm c34 c41 hG45.symm hG47.symm c48 et55).symm.trans hT17) ⟨show (0 : Int) ≤ t55.toInt from om_43 hr5_17 zt55, show t55.toInt ≤ (2147483647 : Int) from om_44 rg56⟩ (show (2147483647 - t55.toInt).toNat < n17 from om_33 hm17 zt55 rg56) _ _ _ hP hD hS (lv_sub hl [0, 1, 2, 3, 4, 5] rfl)
      exact lp17 (4294967296 + NF) (-1) 0 (gsY_X11_front_1_q8 hG4 hG8 hG10 hG16.symm).symm ⟨by decide, by decide⟩ (show (2147483647 - (0 : Int32).toInt).toNat < 4294967296 + NF from om_38 tc_0) _ _ _ hP hD hS (lv_sub hl [0, 1, 2, 3, 4, 5] rfl)
    · skip
      subst g9
      refine lv_if_ne (tgt := 22) hx hb dX11_front_17 rfl (fun c0 => absurd (by decide) c0) (fun _ => ?_)
      refine lv_iconst (v := (-1)) hx hb dX11_front_20 rfl ?_
      exact ret (-1) (v, f, w, g) _ _ _ _ _ _ rfl ⟨(gsY_X11_front_1_q9 hG4 hG8), hM_v, hA_f, hIv, hCf, hRf, rfl, rfl, rfl, rfl, rfl, rfl, rfl, rfl, rfl, rfl, rfl, rfl, rfl, rfl, rfl, rfl, rfl, rfl, rfl, rfl⟩ hP hD hS dX11_front_21 (Nat.le_refl _) (Nat.le_refl _)
  · skip
    subst g5
    refine lv_if_eq (tgt := 20) hx hb dX11_front_8 rfl (fun _ => ?_) (fun c0 => absurd (by decide) c0)
    refine lv_iconst (v := (-1)) hx hb dX11_front_20 rfl ?_
    exact ret (-1) (v, f, w, g) _ _ _ _ _ _ rfl ⟨(gsY_X11_front_1_q10 hG4), hM_v, hA_f, hIv, hCf, hRf, rfl, rfl, rfl, rfl, rfl, rfl, rfl, rfl, rfl, rfl, rfl, rfl, rfl, rfl, rfl, rfl, rfl, rfl, rfl, rfl⟩ hP hD hS dX11_front_21 (Nat.le_refl _) (Nat.le_refl _)
set_option maxHeartbeats 4000000 in
set_option maxRecDepth 100000 in
theorem sY_X11_rota_1 (NF : Nat) (l : Launch) (dC : Nat → ClassId) (dI : Nat → Nat → Nat) (cy : Nat → ClassId) (y0 : Nat) (r : Nat → Nat) (p1 : Int32) (v : Nat → Int32) (f : Nat → Nat → Int32) (w : Int64) (g : Nat → Int64) (hIv : YI v) (hCf : YC f) (hRf : progOK (f 4) (f 5) (v 9).toInt.toNat)  : ctI l (dC, dI) cy yX11_rota cX11_rota 6 .int 7 191 0 0 ((Nat → Int32) × (Nat → Nat → Int32) × (Int64) × (Nat → Int64)) [.ref y0, .int p1] (YW cy y0 r v f w g) (fun r u => gsY_X11_rota_1 NF p1 v f w g = (r, u) ∧ KV [] u.1 v ∧ KF [7, 8, 24] u.2.1 f ∧ YI u.1 ∧ YC u.2.1 ∧ progOK (u.2.1 4) (u.2.1 5) (u.1 9).toInt.toNat ∧ u.1 0 = v 0 ∧ u.1 1 = v 1 ∧ u.1 2 = v 2 ∧ u.1 3 = v 3 ∧ u.1 4 = v 4 ∧ u.1 5 = v 5 ∧ u.1 8 = v 8 ∧ u.1 9 = v 9 ∧ u.1 10 = v 10 ∧ u.1 13 = v 13 ∧ u.1 14 = v 14 ∧ u.1 15 = v 15 ∧ u.1 17 = v 17 ∧ u.1 18 = v 18 ∧ u.1 24 = v 24 ∧ u.1 25 = v 25 ∧ u.1 35 = v 35 ∧ u.1 36 = v 36 ∧ u.1 38 = v 38 ∧ u.1 39 = v 39) (fun u => YW cy y0 r u.1 u.2.1 u.2.2.1 u.2.2.2) := by
  refine ctI_of (by decide) (Nat.le_of_ble_eq_true rfl) (fun p e s m below meth c A ls Q hx hb hml hts hown hE hP hD hA hl ret => ?_)
  have hUv : (v 35).toInt + (v 36).toInt ≤ 40 := hIv.2
  have hM_v : KV [] v v := fun _ _ => rfl
  have hA_f : KF [7, 8, 24] f f := fun _ _ => rfl
  have hown : s.vm.findClass RX11 = some m.cls := hown
  have hS : va_S A s.heap s.heap [] := va_S.rf
  have hl : lv_has ls 6 [(0, .ref y0), (1, .int p1)] := hl
  refine lv_iload_n hx hb dX11_rota_0 rfl (lv_at hl 1 rfl) ?_
  refine lv_iconst (v := 0) hx hb dX11_rota_1 rfl ?_
  refine lv_iconst (v := 1) hx hb dX11_rota_2 rfl ?_
  have lt1 : (0 : Int32).toInt = 0 := by decide
  have lt2 : (1 : Int32).toInt = 1 := by decide
  refine cbSi (n := 3) (rest := []) hx hb hml hown hts hE hP hD hS hA (sY_X11_isIn_1 NF l dC dI cy y0 r p1 0 1 v f w g hIv hCf hRf ) k_1736 k_1737 k_114 k_1738 he_yX11_isIn ⟨Nat.le_of_ble_eq_true rfl, Nat.le_of_ble_eq_true rfl⟩ (rfl) hl.1 rfl (Nat.le_of_ble_eq_true rfl) dX11_rota_3 (fun r3 u H locs hw hP hD hS => ?_)
  obtain ⟨hG4, hw⟩ := hw
  rcases hw with ⟨g5, g5_0, g5_1⟩ | ⟨g5⟩
  · skip
    subst g5
    refine lv_if_eq (tgt := 16) hx hb dX11_rota_6 rfl (fun c0 => absurd c0 (by decide)) (fun _ => ?_)
    refine lv_aload_n hx hb dX11_rota_9 rfl (lv_at hl 0 rfl) ?_
    refine va_get (D := (dC, dI)) (ci := 11) (v := .int (v 24)) (C := RX11) (T := TX11) (N := 79) hx hb hts inB_11 hown hE.1 hP 0 rfl rfl 48 (Nat.le_of_ble_eq_true rfl) (hts _ k_1368) (fun _ h9 => h9) rfl dX11_rota_10 ?_
    have b24_v : 0 ≤ (v 24).toInt ∧ (v 24).toInt ≤ 6 := Yb_24 hIv.1
    refine lv_if_ne (tgt := 18) hx hb dX11_rota_13 rfl (fun c6 => ?_) (fun c6 => ?_)
    · skip
      have zc6 : ¬ ((v 24).toInt = 0) := zEn rfl tc_0 c6
      refine lv_iconst (v := 0) hx hb dX11_rota_18 rfl ?_
      refine lv_istore_n (lv' := [(2, .int 0), (0, .ref y0), (1, .int p1)]) hx hb dX11_rota_19 rfl hl (Nat.le_of_ble_eq_true rfl) rfl (fun ls hl => ?_)
      refine lv_iconst (v := (-1)) hx hb dX11_rota_20 rfl ?_
      refine lv_istore_n (lv' := [(3, .int (-1)), (2, .int 0), (0, .ref y0), (1, .int p1)]) hx hb dX11_rota_21 rfl hl (Nat.le_of_ble_eq_true rfl) rfl (fun ls hl => ?_)
      refine lv_iconst (v := 0) hx hb dX11_rota_22 rfl ?_
      refine lv_istore (lv' := [(4, .int 0), (3, .int (-1)), (2, .int 0), (0, .ref y0), (1, .int p1)]) hx hb dX11_rota_23 hl (Nat.le_of_ble_eq_true rfl) rfl (fun ls hl => ?_)
      have lp7 : ∀ (n7 : Nat) (l2_7 : Int32) (l3_7 : Int32) (l4_7 : Int32) (v7 : Nat → Int32) (f7 : Nat → Nat → Int32) (w7 : Int64) (g7 : Nat → Int64), YI v7 → YC f7 → progOK (f7 4) (f7 5) (v7 9).toInt.toNat → v7 0 = (v 0) → v7 1 = (v 1) → v7 2 = (v 2) → v7 3 = (v 3) → v7 4 = (v 4) → v7 5 = (v 5) → v7 8 = (v 8) → v7 9 = (v 9) → v7 10 = (v 10) → v7 13 = (v 13) → v7 14 = (v 14) → v7 15 = (v 15) → v7 17 = (v 17) → v7 18 = (v 18) → v7 24 = (v 24) → v7 25 = (v 25) → v7 35 = (v 35) → v7 36 = (v 36) → v7 38 = (v 38) → v7 39 = (v 39) → gsY_X11_rota_1_L7 NF p1 v n7 l2_7 l3_7 l4_7 v7 f7 w7 g7 = (gsY_X11_rota_1 NF p1 v f w g) → ((0 : Int) ≤ l4_7.toInt ∧ l4_7.toInt ≤ 2147483647) → KV [] v7 v → KF [7, 8, 24] f7 f → (2147483647 - l4_7.toInt).toNat < n7 → ∀ (H : Heap) (locs : List Loc) (ls : Array Slot), va_P (dC, dI) vwCl (YW cy y0 r v7 f7 w7 g7) H → va_D A (YW cy y0 r v7 f7 w7 g7) → va_S A s.heap H locs → lv_has ls 6 [(4, .int l4_7), (3, .int l3_7), (2, .int l2_7), (0, .ref y0), (1, .int p1)] → W p l e { frames := 7, cells := 0, slots := 0, locals := 191 } s m ([.ref y0, .int p1] : List Value).toArray below meth c H locs 0 0 Q (F0 m 25 ls []) := by
        intro n7
        induction n7 with
        | zero => intro l2_7 l3_7 l4_7 v7 f7 w7 g7 hIv7 hCf7 hRf7 hq0_v7 hq1_v7 hq2_v7 hq3_v7 hq4_v7 hq5_v7 hq8_v7 hq9_v7 hq10_v7 hq13_v7 hq14_v7 hq15_v7 hq17_v7 hq18_v7 hq24_v7 hq25_v7 hq35_v7 hq36_v7 hq38_v7 hq39_v7 hT7 hr4_7 hM_v7 hA_f7 hm; exact absurd hm (Nat.not_lt_zero _)
        | succ n7 ih7 =>
          intro l2_7 l3_7 l4_7 v7 f7 w7 g7 hIv7 hCf7 hRf7 hq0_v7 hq1_v7 hq2_v7 hq3_v7 hq4_v7 hq5_v7 hq8_v7 hq9_v7 hq10_v7 hq13_v7 hq14_v7 hq15_v7 hq17_v7 hq18_v7 hq24_v7 hq25_v7 hq35_v7 hq36_v7 hq38_v7 hq39_v7 hT7 hr4_7 hM_v7 hA_f7 hm7 H locs ls hP hD hS hl
          have hUv7 : (v7 35).toInt + (v7 36).toInt ≤ 40 := hIv7.2
          have zq9_v7 := congrArg Int32.toInt hq9_v7
          refine lv_iload hx hb dX11_rota_25 (lv_at hl 0 rfl) ?_
          refine lv_aload_n hx hb dX11_rota_27 rfl (lv_at hl 3 rfl) ?_
          refine va_get (D := (dC, dI)) (ci := 11) (v := .int (v7 24)) (C := RX11) (T := TX11) (N := 79) hx hb hts inB_11 hown hE.1 hP 0 rfl rfl 48 (Nat.le_of_ble_eq_true rfl) (hts _ k_1368) (fun _ h9 => h9) rfl dX11_rota_28 ?_
          refine tI (y := (v 24)) hq24_v7 ?_
          have b24_v : 0 ≤ (v 24).toInt ∧ (v 24).toInt ≤ 6 := Yb_24 hIv.1
          refine lv_icmp_ge (tgt := 114) hx hb dX11_rota_31 rfl (fun c8 => ?_) (fun c8 => ?_)
          · skip
            refine lv_iload_n hx hb dX11_rota_114 rfl (lv_at hl 4 rfl) ?_
            refine lv_if_ne (tgt := 122) hx hb dX11_rota_115 rfl (fun c11 => ?_) (fun c11 => ?_)
            · skip
              refine lv_iload_n hx hb dX11_rota_122 rfl (lv_at hl 1 rfl) ?_
              exact ret l3_7 (v7, f7, w7, g7) _ _ _ _ _ _ rfl ⟨(hT7.symm.trans (gsY_X11_rota_1_q0 c8 c11)), hM_v7, hA_f7, hIv7, hCf7, hRf7, (show v7 0 = v 0 from hq0_v7), (show v7 1 = v 1 from hq1_v7), (show v7 2 = v 2 from hq2_v7), (show v7 3 = v 3 from hq3_v7), (show v7 4 = v 4 from hq4_v7), (show v7 5 = v 5 from hq5_v7), (show v7 8 = v 8 from hq8_v7), (show v7 9 = v 9 from hq9_v7), (show v7 10 = v 10 from hq10_v7), (show v7 13 = v 13 from hq13_v7), (show v7 14 = v 14 from hq14_v7), (show v7 15 = v 15 from hq15_v7), (show v7 17 = v 17 from hq17_v7), (show v7 18 = v 18 from hq18_v7), (show v7 24 = v 24 from hq24_v7), (show v7 25 = v 25 from hq25_v7), (show v7 35 = v 35 from hq35_v7), (show v7 36 = v 36 from hq36_v7), (show v7 38 = v 38 from hq38_v7), (show v7 39 = v 39 from hq39_v7)⟩ hP hD hS dX11_rota_123 (Nat.le_refl _) (Nat.le_refl _)
            · skip
              refine lv_iload_n hx hb dX11_rota_118 rfl (lv_at hl 2 rfl) ?_
              refine lv_goto (tgt := 123) hx hb dX11_rota_119 rfl ?_
              exact ret l2_7 (v7, f7, w7, g7) _ _ _ _ _ _ rfl ⟨(hT7.symm.trans (gsY_X11_rota_1_q1 c8 c11)), hM_v7, hA_f7, hIv7, hCf7, hRf7, (show v7 0 = v 0 from hq0_v7), (show v7 1 = v 1 from hq1_v7), (show v7 2 = v 2 from hq2_v7), (show v7 3 = v 3 from hq3_v7), (show v7 4 = v 4 from hq4_v7), (show v7 5 = v 5 from hq5_v7), (show v7 8 = v 8 from hq8_v7), (show v7 9 = v 9 from hq9_v7), (show v7 10 = v 10 from hq10_v7), (show v7 13 = v 13 from hq13_v7), (show v7 14 = v 14 from hq14_v7), (show v7 15 = v 15 from hq15_v7), (show v7 17 = v 17 from hq17_v7), (show v7 18 = v 18 from hq18_v7), (show v7 24 = v 24 from hq24_v7), (show v7 25 = v 25 from hq25_v7), (show v7 35 = v 35 from hq35_v7), (show v7 36 = v 36 from hq36_v7), (show v7 38 = v 38 from hq38_v7), (show v7 39 = v 39 from hq39_v7)⟩ hP hD hS dX11_rota_123 (Nat.le_refl _) (Nat.le_refl _)
          · skip
            have zc8 : ¬ ((v 24).toInt ≤ l4_7.toInt) := zMn rfl rfl c8
            have rg12 := fb_rng l4_7
            have rg13 := fb_rng (v 24)
            refine lv_aload_n hx hb dX11_rota_34 rfl (lv_at hl 3 rfl) ?_
            refine cbVv (n := 0) (rest := []) hx hb hml hown hts hE hP hD hS hA (sY_X11_fill_1 NF l dC dI cy y0 r  v7 f7 w7 g7 hIv7 hCf7 hRf7 ) k_1739 k_1741 k_71 k_114 k_1742 hd_yX11_fill ⟨Nat.le_of_ble_eq_true rfl, Nat.le_of_ble_eq_true rfl⟩ 0 11 rfl rfl (rfl) hl.1 rfl (Nat.le_of_ble_eq_true rfl) dX11_rota_35 (fun u H locs hw hP hD hS => ?_)
            obtain ⟨hG14, hw⟩ := hw
            obtain ⟨v15, f16, w17, g18⟩ := u
            obtain ⟨kV_v15, kF_f16, hIv15, hCf16, hRf16, hk0_v15, hk1_v15, hk2_v15, hk3_v15, hk4_v15, hk5_v15, hk8_v15, hk9_v15, hk10_v15, hk13_v15, hk14_v15, hk15_v15, hk17_v15, hk18_v15, hk24_v15, hk25_v15, hk35_v15, hk36_v15, hk38_v15, hk39_v15⟩ := hw
            have hM_v15 : KV [] v15 v := KV.tr kV_v15 hM_v7 rfl
            have hA_f16 : KF [7, 8, 24] f16 f := KF.tr kF_f16 hA_f7 rfl
            have hP : va_P (dC, dI) vwCl (YW cy y0 r v15 f16 w17 g18) H := hP
            have hD : va_D A (YW cy y0 r v15 f16 w17 g18) := hD
            have hUv15 : (v15 35).toInt + (v15 36).toInt ≤ 40 := hIv15.2
            have hq0_v15 : v15 0 = (v 0) := hk0_v15.trans hq0_v7
            have hq1_v15 : v15 1 = (v 1) := hk1_v15.trans hq1_v7
            have hq2_v15 : v15 2 = (v 2) := hk2_v15.trans hq2_v7
            have hq3_v15 : v15 3 = (v 3) := hk3_v15.trans hq3_v7
            have hq4_v15 : v15 4 = (v 4) := hk4_v15.trans hq4_v7
            have hq5_v15 : v15 5 = (v 5) := hk5_v15.trans hq5_v7
            have hq8_v15 : v15 8 = (v 8) := hk8_v15.trans hq8_v7
            have hq9_v15 : v15 9 = (v 9) := hk9_v15.trans hq9_v7
            have zq9_v15 := congrArg Int32.toInt hq9_v15
            have hq10_v15 : v15 10 = (v 10) := hk10_v15.trans hq10_v7
            have hq13_v15 : v15 13 = (v 13) := hk13_v15.trans hq13_v7
            have hq14_v15 : v15 14 = (v 14) := hk14_v15.trans hq14_v7
            have hq15_v15 : v15 15 = (v 15) := hk15_v15.trans hq15_v7
            have hq17_v15 : v15 17 = (v 17) := hk17_v15.trans hq17_v7
            have hq18_v15 : v15 18 = (v 18) := hk18_v15.trans hq18_v7
            have hq24_v15 : v15 24 = (v 24) := hk24_v15.trans hq24_v7
            have hq25_v15 : v15 25 = (v 25) := hk25_v15.trans hq25_v7
            have hq35_v15 : v15 35 = (v 35) := hk35_v15.trans hq35_v7
            have hq36_v15 : v15 36 = (v 36) := hk36_v15.trans hq36_v7
            have hq38_v15 : v15 38 = (v 38) := hk38_v15.trans hq38_v7
            have hq39_v15 : v15 39 = (v 39) := hk39_v15.trans hq39_v7
            refine lv_iconst (v := 0) hx hb dX11_rota_38 rfl ?_
            refine lv_istore (lv' := [(5, .int 0), (4, .int l4_7), (3, .int l3_7), (2, .int l2_7), (0, .ref y0), (1, .int p1)]) hx hb dX11_rota_39 hl (Nat.le_of_ble_eq_true rfl) rfl (fun ls hl => ?_)
            have lp19 : ∀ (n19 : Nat) (l5_19 : Int32) (v19 : Nat → Int32) (f19 : Nat → Nat → Int32) (w19 : Int64) (g19 : Nat → Int64), YI v19 → YC f19 → progOK (f19 4) (f19 5) (v19 9).toInt.toNat → v19 0 = (v 0) → v19 1 = (v 1) → v19 2 = (v 2) → v19 3 = (v 3) → v19 4 = (v 4) → v19 5 = (v 5) → v19 8 = (v 8) → v19 9 = (v 9) → v19 10 = (v 10) → v19 13 = (v 13) → v19 14 = (v 14) → v19 15 = (v 15) → v19 17 = (v 17) → v19 18 = (v 18) → v19 24 = (v 24) → v19 25 = (v 25) → v19 35 = (v 35) → v19 36 = (v 36) → v19 38 = (v 38) → v19 39 = (v 39) → gsY_X11_rota_1_L19 NF v l2_7 l3_7 l4_7 (fun z0 z1 z2 z3 z4 z5 z6 => gsY_X11_rota_1_L7 NF p1 v n7 z0 z1 z2 z3 z4 z5 z6) n19 l5_19 v19 f19 w19 g19 = (gsY_X11_rota_1 NF p1 v f w g) → ((0 : Int) ≤ l5_19.toInt ∧ l5_19.toInt ≤ 2147483647) → KV [] v19 v → KF [7, 8, 24] f19 f → (2147483647 - l5_19.toInt).toNat < n19 → ∀ (H : Heap) (locs : List Loc) (ls : Array Slot), va_P (dC, dI) vwCl (YW cy y0 r v19 f19 w19 g19) H → va_D A (YW cy y0 r v19 f19 w19 g19) → va_S A s.heap H locs → lv_has ls 6 [(5, .int l5_19), (4, .int l4_7), (3, .int l3_7), (2, .int l2_7), (0, .ref y0), (1, .int p1)] → W p l e { frames := 7, cells := 0, slots := 0, locals := 191 } s m ([.ref y0, .int p1] : List Value).toArray below meth c H locs 0 0 Q (F0 m 41 ls []) := by
              intro n19
              induction n19 with
              | zero => intro l5_19 v19 f19 w19 g19 hIv19 hCf19 hRf19 hq0_v19 hq1_v19 hq2_v19 hq3_v19 hq4_v19 hq5_v19 hq8_v19 hq9_v19 hq10_v19 hq13_v19 hq14_v19 hq15_v19 hq17_v19 hq18_v19 hq24_v19 hq25_v19 hq35_v19 hq36_v19 hq38_v19 hq39_v19 hT19 hr5_19 hM_v19 hA_f19 hm; exact absurd hm (Nat.not_lt_zero _)
              | succ n19 ih19 =>
                intro l5_19 v19 f19 w19 g19 hIv19 hCf19 hRf19 hq0_v19 hq1_v19 hq2_v19 hq3_v19 hq4_v19 hq5_v19 hq8_v19 hq9_v19 hq10_v19 hq13_v19 hq14_v19 hq15_v19 hq17_v19 hq18_v19 hq24_v19 hq25_v19 hq35_v19 hq36_v19 hq38_v19 hq39_v19 hT19 hr5_19 hM_v19 hA_f19 hm19 H locs ls hP hD hS hl
                have hUv19 : (v19 35).toInt + (v19 36).toInt ≤ 40 := hIv19.2
                have zq9_v19 := congrArg Int32.toInt hq9_v19
                refine lv_iload hx hb dX11_rota_41 (lv_at hl 0 rfl) ?_
                refine lv_aload_n hx hb dX11_rota_43 rfl (lv_at hl 4 rfl) ?_
                refine va_get (D := (dC, dI)) (ci := 11) (v := .int (v19 24)) (C := RX11) (T := TX11) (N := 79) hx hb hts inB_11 hown hE.1 hP 0 rfl rfl 48 (Nat.le_of_ble_eq_true rfl) (hts _ k_1368) (fun _ h9 => h9) rfl dX11_rota_44 ?_
                refine tI (y := (v 24)) hq24_v19 ?_
                have b24_v : 0 ≤ (v 24).toInt ∧ (v 24).toInt ≤ 6 := Yb_24 hIv.1
                refine lv_icmp_ge (tgt := 84) hx hb dX11_rota_47 rfl (fun c20 => ?_) (fun c20 => ?_)
                · skip
                  refine lv_aload_n hx hb dX11_rota_84 rfl (lv_at hl 4 rfl) ?_
                  refine cbVi (n := 0) (rest := []) hx hb hml hown hts hE hP hD hS hA (sY_X11_fittedOnes_1 NF l dC dI cy y0 r  v19 f19 w19 g19 hIv19 hCf19 hRf19 ) k_1809 k_1811 k_81 k_114 k_1812 hd_yX11_fittedOnes ⟨Nat.le_of_ble_eq_true rfl, Nat.le_of_ble_eq_true rfl⟩ 0 11 rfl rfl (rfl) hl.1 rfl (Nat.le_of_ble_eq_true rfl) dX11_rota_85 (fun r22 u H locs hw hP hD hS => ?_)
                  obtain ⟨hG23, hw⟩ := hw
                  obtain ⟨v24, f25, w26, g27⟩ := u
                  obtain ⟨kV_v24, kF_f25, hIv24, hCf25, hRf25, hk0_v24, hk1_v24, hk2_v24, hk3_v24, hk4_v24, hk5_v24, hk8_v24, hk9_v24, hk10_v24, hk13_v24, hk14_v24, hk15_v24, hk17_v24, hk18_v24, hk24_v24, hk25_v24, hk35_v24, hk36_v24, hk38_v24, hk39_v24⟩ := hw
                  have hM_v24 : KV [] v24 v := KV.tr kV_v24 hM_v19 rfl
                  have hA_f25 : KF [7, 8, 24] f25 f := KF.tr kF_f25 hA_f19 rfl
                  have hP : va_P (dC, dI) vwCl (YW cy y0 r v24 f25 w26 g27) H := hP
                  have hD : va_D A (YW cy y0 r v24 f25 w26 g27) := hD
                  have hq0_v24 : v24 0 = (v 0) := hk0_v24.trans hq0_v19
                  have hq1_v24 : v24 1 = (v 1) := hk1_v24.trans hq1_v19
                  have hq2_v24 : v24 2 = (v 2) := hk2_v24.trans hq2_v19
                  have hq3_v24 : v24 3 = (v 3) := hk3_v24.trans hq3_v19
                  have hq4_v24 : v24 4 = (v 4) := hk4_v24.trans hq4_v19
                  have hq5_v24 : v24 5 = (v 5) := hk5_v24.trans hq5_v19
                  have hq8_v24 : v24 8 = (v 8) := hk8_v24.trans hq8_v19
                  have hq9_v24 : v24 9 = (v 9) := hk9_v24.trans hq9_v19
                  have hq10_v24 : v24 10 = (v 10) := hk10_v24.trans hq10_v19
                  have hq13_v24 : v24 13 = (v 13) := hk13_v24.trans hq13_v19
                  have hq14_v24 : v24 14 = (v 14) := hk14_v24.trans hq14_v19
                  have hq15_v24 : v24 15 = (v 15) := hk15_v24.trans hq15_v19
                  have hq17_v24 : v24 17 = (v 17) := hk17_v24.trans hq17_v19
                  have hq18_v24 : v24 18 = (v 18) := hk18_v24.trans hq18_v19
                  have hq24_v24 : v24 24 = (v 24) := hk24_v24.trans hq24_v19
                  have hq25_v24 : v24 25 = (v 25) := hk25_v24.trans hq25_v19
                  have hq35_v24 : v24 35 = (v 35) := hk35_v24.trans hq35_v19
                  have hq36_v24 : v24 36 = (v 36) := hk36_v24.trans hq36_v19
                  have hq38_v24 : v24 38 = (v 38) := hk38_v24.trans hq38_v19
                  have hq39_v24 : v24 39 = (v 39) := hk39_v24.trans hq39_v19
                  refine cbSi (n := 1) (rest := []) hx hb hml hown hts hE hP hD hS hA (sY_X11_members_1 NF l dC dI cy y0 r r22 v24 f25 w26 g27 hIv24 hCf25 hRf25 ) k_1900 k_1901 k_114 k_1902 he_yX11_members ⟨Nat.le_of_ble_eq_true rfl, Nat.le_of_ble_eq_true rfl⟩ (rfl) hl.1 rfl (Nat.le_of_ble_eq_true rfl) dX11_rota_88 (fun r28 u H locs hw hP hD hS => ?_)
                  have hG29 := hw
                  refine lv_istore (lv' := [(5, .int r28), (4, .int l4_7), (3, .int l3_7), (2, .int l2_7), (0, .ref y0), (1, .int p1)]) hx hb dX11_rota_91 hl (Nat.le_of_ble_eq_true rfl) rfl (fun ls hl => ?_)
                  refine lv_iload hx hb dX11_rota_93 (lv_at hl 0 rfl) ?_
                  refine lv_iload_n hx hb dX11_rota_95 rfl (lv_at hl 2 rfl) ?_
                  refine lv_icmp_gt (tgt := 102) hx hb dX11_rota_96 rfl (fun c30 => ?_) (fun c30 => ?_)
                  · skip
                    refine lv_iload hx hb dX11_rota_102 (lv_at hl 1 rfl) ?_
                    refine lv_istore_n (lv' := [(2, .int l4_7), (5, .int r28), (4, .int l4_7), (3, .int l3_7), (0, .ref y0), (1, .int p1)]) hx hb dX11_rota_104 rfl hl (Nat.le_of_ble_eq_true rfl) rfl (fun ls hl => ?_)
                    refine lv_iload hx hb dX11_rota_105 (lv_at hl 1 rfl) ?_
                    refine lv_istore_n (lv' := [(3, .int r28), (2, .int l4_7), (5, .int r28), (4, .int l4_7), (0, .ref y0), (1, .int p1)]) hx hb dX11_rota_107 rfl hl (Nat.le_of_ble_eq_true rfl) rfl (fun ls hl => ?_)
                    obtain ⟨t33, et33⟩ : ∃ y : Int32, y = l4_7 + 1 := ⟨_, rfl⟩
                    have zt33 : t33.toInt = l4_7.toInt + 1 := (congrArg Int32.toInt et33).trans (add_i rfl tc_1 (om_41 hr4_7) (om_258 zc8 b24_v))
                    refine lv_iinc (v := t33) (lv' := [(4, .int t33), (3, .int r28), (2, .int l4_7), (5, .int r28), (0, .ref y0), (1, .int p1)]) hx hb dX11_rota_108 hl (k := 3) rfl et33.symm (Nat.le_of_ble_eq_true rfl) rfl (fun ls hl => ?_)
                    refine lv_goto (tgt := 25) hx hb dX11_rota_111 rfl ?_
                    have rg34 := fb_rng t33
                    exact ih7 l4_7 r28 t33 v24 f25 w26 g27 hIv24 hCf25 hRf25 hq0_v24 hq1_v24 hq2_v24 hq3_v24 hq4_v24 hq5_v24 hq8_v24 hq9_v24 hq10_v24 hq13_v24 hq14_v24 hq15_v24 hq17_v24 hq18_v24 hq24_v24 hq25_v24 hq35_v24 hq36_v24 hq38_v24 hq39_v24 ((gsY_X11_rota_1_q2 c20 hG23 hG29.symm c30 et33).symm.trans hT19) ⟨show (0 : Int) ≤ t33.toInt from om_43 hr4_7 zt33, show t33.toInt ≤ (2147483647 : Int) from om_44 rg34⟩ hM_v24 hA_f25 (show (2147483647 - t33.toInt).toNat < n7 from om_33 hm7 zt33 rg34) _ _ _ hP hD hS (lv_sub hl [0, 1, 2, 4, 5] rfl)
                  · skip
                    refine lv_goto (tgt := 108) hx hb dX11_rota_99 rfl ?_
                    obtain ⟨t37, et37⟩ : ∃ y : Int32, y = l4_7 + 1 := ⟨_, rfl⟩
                    have zt37 : t37.toInt = l4_7.toInt + 1 := (congrArg Int32.toInt et37).trans (add_i rfl tc_1 (om_41 hr4_7) (om_258 zc8 b24_v))
                    refine lv_iinc (v := t37) (lv' := [(4, .int t37), (5, .int r28), (3, .int l3_7), (2, .int l2_7), (0, .ref y0), (1, .int p1)]) hx hb dX11_rota_108 hl (k := 1) rfl et37.symm (Nat.le_of_ble_eq_true rfl) rfl (fun ls hl => ?_)
                    refine lv_goto (tgt := 25) hx hb dX11_rota_111 rfl ?_
                    have rg38 := fb_rng t37
                    exact ih7 l2_7 l3_7 t37 v24 f25 w26 g27 hIv24 hCf25 hRf25 hq0_v24 hq1_v24 hq2_v24 hq3_v24 hq4_v24 hq5_v24 hq8_v24 hq9_v24 hq10_v24 hq13_v24 hq14_v24 hq15_v24 hq17_v24 hq18_v24 hq24_v24 hq25_v24 hq35_v24 hq36_v24 hq38_v24 hq39_v24 ((gsY_X11_rota_1_q3 c20 hG23 hG29.symm c30 et37).symm.trans hT19) ⟨show (0 : Int) ≤ t37.toInt from om_43 hr4_7 zt37, show t37.toInt ≤ (2147483647 : Int) from om_44 rg38⟩ hM_v24 hA_f25 (show (2147483647 - t37.toInt).toNat < n7 from om_33 hm7 zt37 rg38) _ _ _ hP hD hS (lv_sub hl [0, 2, 3, 4, 5] rfl)
                · skip
                  have zc20 : ¬ ((v 24).toInt ≤ l5_19.toInt) := zMn rfl rfl c20
                  have rg39 := fb_rng l5_19
                  refine lv_aload_n hx hb dX11_rota_50 rfl (lv_at hl 4 rfl) ?_
                  refine va_get (D := (dC, dI)) (ci := 11) (v := .ref (r 60)) (C := RX11) (T := TX11) (N := 79) hx hb hts inB_11 hown hE.1 hP 0 rfl rfl 60 (Nat.le_of_ble_eq_true rfl) (hts _ k_1380) (fun _ h9 => h9) rfl dX11_rota_51 ?_
                  refine lv_bipush (v := 6) hx hb dX11_rota_54 rfl ?_
                  refine lv_iload hx hb dX11_rota_56 (lv_at hl 0 rfl) ?_
                  refine lv_iadd hx hb dX11_rota_58 ?_
                  refine lv_topi (fun t40 et40 => ?_)
                  have zt40 : t40.toInt = 6 + l5_19.toInt := (congrArg Int32.toInt et40).trans (add_i tc_6 rfl (om_120 hr5_19) (om_476 b24_v zc20))
                  refine lv_aload_n hx hb dX11_rota_59 rfl (lv_at hl 4 rfl) ?_
                  refine va_get (D := (dC, dI)) (ci := 11) (v := .ref (r 59)) (C := RX11) (T := TX11) (N := 79) hx hb hts inB_11 hown hE.1 hP 0 rfl rfl 59 (Nat.le_of_ble_eq_true rfl) (hts _ k_1379) (fun _ h9 => h9) rfl dX11_rota_60 ?_
                  refine lv_bipush (v := 6) hx hb dX11_rota_63 rfl ?_
                  refine lv_iload hx hb dX11_rota_65 (lv_at hl 0 rfl) ?_
                  refine lv_iload hx hb dX11_rota_67 (lv_at hl 1 rfl) ?_
                  refine lv_iadd hx hb dX11_rota_69 ?_
                  refine lv_topi (fun t41 et41 => ?_)
                  have zt41 : t41.toInt = l5_19.toInt + l4_7.toInt := (congrArg Int32.toInt et41).trans (add_i rfl rfl (om_662 hr4_7 hr5_19) (om_663 zc8 b24_v zc20))
                  refine lv_aload_n hx hb dX11_rota_70 rfl (lv_at hl 4 rfl) ?_
                  refine va_get (D := (dC, dI)) (ci := 11) (v := .int (v19 24)) (C := RX11) (T := TX11) (N := 79) hx hb hts inB_11 hown hE.1 hP 0 rfl rfl 48 (Nat.le_of_ble_eq_true rfl) (hts _ k_1368) (fun _ h9 => h9) rfl dX11_rota_71 ?_
                  refine tI (y := (v 24)) hq24_v19 ?_
                  refine lv_irem hx hb dX11_rota_74 (ne0 (show ¬ (v 24).toInt = 0 from om_139 zc6)) ?_
                  refine lv_topi (fun t42 et42 => ?_)
                  have zt42 : 0 ≤ t42.toInt ∧ t42.toInt < (v 24).toInt := by rw [et42]; exact rem_rng (zx := t41.toInt) (zy := (v 24).toInt) rfl rfl (show (0 : Int) ≤ t41.toInt from om_664 hr4_7 hr5_19 zt41) (show (0 : Int) < (v 24).toInt from om_665 zc6 b24_v)
                  refine lv_iadd hx hb dX11_rota_75 ?_
                  refine lv_topi (fun t43 et43 => ?_)
                  have rg44 := fb_rng t42
                  have zt43 : t43.toInt = 6 + t42.toInt := (congrArg Int32.toInt et43).trans (add_i tc_6 rfl (om_666 zt42) (om_667 b24_v zt42))
                  refine ldI hx hb hE hP 24 rfl (vpI (k := 39) rfl (show 0 ≤ t43.toInt from om_668 zt42 zt43) (show t43.toInt < 39 from om_669 b24_v zt42 zt43)) rfl rfl dX11_rota_76 ?_
                  refine lv_topi (fun t45 et45 => ?_)
                  have zt45 : t43.toInt.toNat % 39 < 6 ∨ 12 ≤ t43.toInt.toNat % 39 ∨ (-1 ≤ t45.toInt ∧ t45.toInt ≤ 5) := by rw [et45]; exact wear_ld hCf19.1 (show t43.toInt.toNat < 39 from om_670 b24_v zt42 zt43)
                  refine stI hx hb hE hP hD hS 25 rfl (vpI (k := 39) rfl (show 0 ≤ t40.toInt from om_121 hr5_19 zt40) (show t40.toInt < 39 from om_477 b24_v zc20 zt40)) rfl dX11_rota_77 (fun H locs hP hD hS => ?_)
                  obtain ⟨f46, ef46, hP, hD⟩ : ∃ fz9, fz9 = upd2 f19 24 (upd (f19 24) t40.toNatClampNeg t45) ∧ va_P (dC, dI) vwCl (YW cy y0 r v19 fz9 w19 g19) H ∧ va_D A (YW cy y0 r v19 fz9 w19 g19) := ⟨_, rfl, hP, hD⟩
                  have hCf46 : YC f46 := by rw [ef46]; exact ⟨hCf19.1, (wear_st hCf19.2.1 (by show t40.toInt.toNat % 39 < 6 ∨ 12 ≤ t40.toInt.toNat % 39 ∨ (-1 ≤ t45.toInt ∧ t45.toInt ≤ 5); omega)), hCf19.2.2.1, hCf19.2.2.2.1, hCf19.2.2.2.2.1, hCf19.2.2.2.2.2⟩
                  have hRf46 : progOK (f46 4) (f46 5) (v19 9).toInt.toNat := by rw [ef46]; exact hRf19
                  have hA_f46 : KF [7, 8, 24] f46 f := by rw [ef46]; exact KF.up hA_f19 rfl
                  obtain ⟨t47, et47⟩ : ∃ y : Int32, y = l5_19 + 1 := ⟨_, rfl⟩
                  have zt47 : t47.toInt = l5_19.toInt + 1 := (congrArg Int32.toInt et47).trans (add_i rfl tc_1 (om_41 hr5_19) (om_187 b24_v zc20))
                  refine lv_iinc (v := t47) (lv' := [(5, .int t47), (4, .int l4_7), (3, .int l3_7), (2, .int l2_7), (0, .ref y0), (1, .int p1)]) hx hb dX11_rota_78 hl (k := 0) rfl et47.symm (Nat.le_of_ble_eq_true rfl) rfl (fun ls hl => ?_)
                  refine lv_goto (tgt := 41) hx hb dX11_rota_81 rfl ?_
                  have rg48 := fb_rng t47
                  exact ih19 t47 v19 f46 w19 g19 hIv19 hCf46 hRf46 hq0_v19 hq1_v19 hq2_v19 hq3_v19 hq4_v19 hq5_v19 hq8_v19 hq9_v19 hq10_v19 hq13_v19 hq14_v19 hq15_v19 hq17_v19 hq18_v19 hq24_v19 hq25_v19 hq35_v19 hq36_v19 hq38_v19 hq39_v19 ((gsY_X11_rota_1_q4 c20 et40 et41 et42 et43 et45 ef46 et47).symm.trans hT19) ⟨show (0 : Int) ≤ t47.toInt from om_43 hr5_19 zt47, show t47.toInt ≤ (2147483647 : Int) from om_44 rg48⟩ hM_v19 hA_f46 (show (2147483647 - t47.toInt).toNat < n19 from om_33 hm19 zt47 rg48) _ _ _ hP hD hS (lv_sub hl [0, 1, 2, 3, 4, 5] rfl)
            exact lp19 (4294967296 + NF) 0 v15 f16 w17 g18 hIv15 hCf16 hRf16 hq0_v15 hq1_v15 hq2_v15 hq3_v15 hq4_v15 hq5_v15 hq8_v15 hq9_v15 hq10_v15 hq13_v15 hq14_v15 hq15_v15 hq17_v15 hq18_v15 hq24_v15 hq25_v15 hq35_v15 hq36_v15 hq38_v15 hq39_v15 ((gsY_X11_rota_1_q5 c8 hG14).symm.trans hT7) ⟨by decide, by decide⟩ hM_v15 hA_f16 (show (2147483647 - (0 : Int32).toInt).toNat < 4294967296 + NF from om_38 tc_0) _ _ _ hP hD hS (lv_sub hl [0, 1, 2, 3, 4, 5] rfl)
      exact lp7 (4294967296 + NF) 0 (-1) 0 v f w g hIv hCf hRf rfl rfl rfl rfl rfl rfl rfl rfl rfl rfl rfl rfl rfl rfl rfl rfl rfl rfl rfl rfl (gsY_X11_rota_1_q6 hG4 c6).symm ⟨by decide, by decide⟩ hM_v hA_f (show (2147483647 - (0 : Int32).toInt).toNat < 4294967296 + NF from om_38 tc_0) _ _ _ hP hD hS (lv_sub hl [0, 1, 2, 3, 4] rfl)
    · skip
      refine lv_iconst (v := (-1)) hx hb dX11_rota_16 rfl ?_
      exact ret (-1) (v, f, w, g) _ _ _ _ _ _ rfl ⟨(gsY_X11_rota_1_q7 hG4 c6), hM_v, hA_f, hIv, hCf, hRf, rfl, rfl, rfl, rfl, rfl, rfl, rfl, rfl, rfl, rfl, rfl, rfl, rfl, rfl, rfl, rfl, rfl, rfl, rfl, rfl⟩ hP hD hS dX11_rota_17 (Nat.le_refl _) (Nat.le_refl _)
  · skip
    subst g5
    refine lv_if_eq (tgt := 16) hx hb dX11_rota_6 rfl (fun _ => ?_) (fun c0 => absurd (by decide) c0)
    refine lv_iconst (v := (-1)) hx hb dX11_rota_16 rfl ?_
    exact ret (-1) (v, f, w, g) _ _ _ _ _ _ rfl ⟨(gsY_X11_rota_1_q8 hG4), hM_v, hA_f, hIv, hCf, hRf, rfl, rfl, rfl, rfl, rfl, rfl, rfl, rfl, rfl, rfl, rfl, rfl, rfl, rfl, rfl, rfl, rfl, rfl, rfl, rfl⟩ hP hD hS dX11_rota_17 (Nat.le_refl _) (Nat.le_refl _)
set_option maxHeartbeats 4000000 in
set_option maxRecDepth 100000 in
theorem sY_X11_coatsFor_1 (l : Launch) (dC : Nat → ClassId) (dI : Nat → Nat → Nat) (cy : Nat → ClassId) (y0 : Nat) (r : Nat → Nat) (p1 : Int32) (v : Nat → Int32) (f : Nat → Nat → Int32) (w : Int64) (g : Nat → Int64) (hIv : YI v) (hCf : YC f) (hRf : progOK (f 4) (f 5) (v 9).toInt.toNat) (hp1 : (0 : Int) ≤ p1.toInt ∧ p1.toInt ≤ 5) : ctI l (dC, dI) cy yX11_coatsFor cX11_coatsFor 4 .int 5 148 0 0 ((Nat → Int32) × (Nat → Nat → Int32) × (Int64) × (Nat → Int64)) [.ref y0, .int p1] (YW cy y0 r v f w g) (fun r u => KV [] u.1 v ∧ KF [7, 8] u.2.1 f ∧ YI u.1 ∧ YC u.2.1 ∧ progOK (u.2.1 4) (u.2.1 5) (u.1 9).toInt.toNat ∧ u.1 0 = v 0 ∧ u.1 1 = v 1 ∧ u.1 2 = v 2 ∧ u.1 3 = v 3 ∧ u.1 4 = v 4 ∧ u.1 5 = v 5 ∧ u.1 8 = v 8 ∧ u.1 9 = v 9 ∧ u.1 10 = v 10 ∧ u.1 13 = v 13 ∧ u.1 14 = v 14 ∧ u.1 15 = v 15 ∧ u.1 17 = v 17 ∧ u.1 18 = v 18 ∧ u.1 24 = v 24 ∧ u.1 25 = v 25 ∧ u.1 35 = v 35 ∧ u.1 36 = v 36 ∧ u.1 38 = v 38 ∧ u.1 39 = v 39) (fun u => YW cy y0 r u.1 u.2.1 u.2.2.1 u.2.2.2) := by
  refine ctI_of (by decide) (Nat.le_of_ble_eq_true rfl) (fun p e s m below meth c A ls Q hx hb hml hts hown hE hP hD hA hl ret => ?_)
  have hUv : (v 35).toInt + (v 36).toInt ≤ 40 := hIv.2
  have hM_v : KV [] v v := fun _ _ => rfl
  have hA_f : KF [7, 8] f f := fun _ _ => rfl
  have hown : s.vm.findClass RX11 = some m.cls := hown
  have hS : va_S A s.heap s.heap [] := va_S.rf
  have hl : lv_has ls 4 [(0, .ref y0), (1, .int p1)] := hl
  refine lv_iconst (v := 0) hx hb dX11_coatsFor_0 rfl ?_
  refine lv_istore_n (lv' := [(2, .int 0), (0, .ref y0), (1, .int p1)]) hx hb dX11_coatsFor_1 rfl hl (Nat.le_of_ble_eq_true rfl) rfl (fun ls hl => ?_)
  refine lv_iconst (v := 0) hx hb dX11_coatsFor_2 rfl ?_
  refine lv_istore_n (lv' := [(3, .int 0), (2, .int 0), (0, .ref y0), (1, .int p1)]) hx hb dX11_coatsFor_3 rfl hl (Nat.le_of_ble_eq_true rfl) rfl (fun ls hl => ?_)
  have lp1 : ∀ (n1 : Nat) (l2_1 : Int32) (l3_1 : Int32) (v1 : Nat → Int32) (f1 : Nat → Nat → Int32) (w1 : Int64) (g1 : Nat → Int64), YI v1 → YC f1 → progOK (f1 4) (f1 5) (v1 9).toInt.toNat → v1 0 = (v 0) → v1 1 = (v 1) → v1 2 = (v 2) → v1 3 = (v 3) → v1 4 = (v 4) → v1 5 = (v 5) → v1 8 = (v 8) → v1 9 = (v 9) → v1 10 = (v 10) → v1 13 = (v 13) → v1 14 = (v 14) → v1 15 = (v 15) → v1 17 = (v 17) → v1 18 = (v 18) → v1 24 = (v 24) → v1 25 = (v 25) → v1 35 = (v 35) → v1 36 = (v 36) → v1 38 = (v 38) → v1 39 = (v 39) → ((0 : Int) ≤ l3_1.toInt ∧ l3_1.toInt ≤ 2147483647) → KV [] v1 v → KF [7, 8] f1 f → (2147483647 - l3_1.toInt).toNat < n1 → ∀ (H : Heap) (locs : List Loc) (ls : Array Slot), va_P (dC, dI) vwCl (YW cy y0 r v1 f1 w1 g1) H → va_D A (YW cy y0 r v1 f1 w1 g1) → va_S A s.heap H locs → lv_has ls 4 [(3, .int l3_1), (2, .int l2_1), (0, .ref y0), (1, .int p1)] → W p l e { frames := 5, cells := 0, slots := 0, locals := 148 } s m ([.ref y0, .int p1] : List Value).toArray below meth c H locs 0 0 Q (F0 m 4 ls []) := by
    intro n1
    induction n1 with
    | zero => intro l2_1 l3_1 v1 f1 w1 g1 hIv1 hCf1 hRf1 hq0_v1 hq1_v1 hq2_v1 hq3_v1 hq4_v1 hq5_v1 hq8_v1 hq9_v1 hq10_v1 hq13_v1 hq14_v1 hq15_v1 hq17_v1 hq18_v1 hq24_v1 hq25_v1 hq35_v1 hq36_v1 hq38_v1 hq39_v1 hr3_1 hM_v1 hA_f1 hm; exact absurd hm (Nat.not_lt_zero _)
    | succ n1 ih1 =>
      intro l2_1 l3_1 v1 f1 w1 g1 hIv1 hCf1 hRf1 hq0_v1 hq1_v1 hq2_v1 hq3_v1 hq4_v1 hq5_v1 hq8_v1 hq9_v1 hq10_v1 hq13_v1 hq14_v1 hq15_v1 hq17_v1 hq18_v1 hq24_v1 hq25_v1 hq35_v1 hq36_v1 hq38_v1 hq39_v1 hr3_1 hM_v1 hA_f1 hm1 H locs ls hP hD hS hl
      have hUv1 : (v1 35).toInt + (v1 36).toInt ≤ 40 := hIv1.2
      have zq9_v1 := congrArg Int32.toInt hq9_v1
      refine lv_iload_n hx hb dX11_coatsFor_4 rfl (lv_at hl 0 rfl) ?_
      refine lv_aload_n hx hb dX11_coatsFor_5 rfl (lv_at hl 2 rfl) ?_
      refine va_get (D := (dC, dI)) (ci := 11) (v := .int (v1 25)) (C := RX11) (T := TX11) (N := 79) hx hb hts inB_11 hown hE.1 hP 0 rfl rfl 49 (Nat.le_of_ble_eq_true rfl) (hts _ k_1369) (fun _ h9 => h9) rfl dX11_coatsFor_6 ?_
      refine tI (y := (v 25)) hq25_v1 ?_
      have b25_v : 0 ≤ (v 25).toInt ∧ (v 25).toInt ≤ 6 := Yb_25 hIv.1
      refine lv_icmp_ge (tgt := 32) hx hb dX11_coatsFor_9 rfl (fun c2 => ?_) (fun c2 => ?_)
      · skip
        refine lv_iload_n hx hb dX11_coatsFor_32 rfl (lv_at hl 1 rfl) ?_
        exact ret l2_1 (v1, f1, w1, g1) _ _ _ _ _ _ rfl ⟨hM_v1, hA_f1, hIv1, hCf1, hRf1, (show v1 0 = v 0 from hq0_v1), (show v1 1 = v 1 from hq1_v1), (show v1 2 = v 2 from hq2_v1), (show v1 3 = v 3 from hq3_v1), (show v1 4 = v 4 from hq4_v1), (show v1 5 = v 5 from hq5_v1), (show v1 8 = v 8 from hq8_v1), (show v1 9 = v 9 from hq9_v1), (show v1 10 = v 10 from hq10_v1), (show v1 13 = v 13 from hq13_v1), (show v1 14 = v 14 from hq14_v1), (show v1 15 = v 15 from hq15_v1), (show v1 17 = v 17 from hq17_v1), (show v1 18 = v 18 from hq18_v1), (show v1 24 = v 24 from hq24_v1), (show v1 25 = v 25 from hq25_v1), (show v1 35 = v 35 from hq35_v1), (show v1 36 = v 36 from hq36_v1), (show v1 38 = v 38 from hq38_v1), (show v1 39 = v 39 from hq39_v1)⟩ hP hD hS dX11_coatsFor_33 (Nat.le_refl _) (Nat.le_refl _)
      · skip
        have zc2 : ¬ ((v 25).toInt ≤ l3_1.toInt) := zMn rfl rfl c2
        have rg5 := fb_rng l3_1
        have rg6 := fb_rng (v 25)
        refine lv_iload_n hx hb dX11_coatsFor_12 rfl (lv_at hl 1 rfl) ?_
        refine lv_aload_n hx hb dX11_coatsFor_13 rfl (lv_at hl 2 rfl) ?_
        refine lv_iload_n hx hb dX11_coatsFor_14 rfl (lv_at hl 3 rfl) ?_
        refine lv_iload_n hx hb dX11_coatsFor_15 rfl (lv_at hl 0 rfl) ?_
        refine cbVi (n := 2) (rest := [.int l2_1]) hx hb hml hown hts hE hP hD hS hA (sY_X11_fits_1 0 l dC dI cy y0 r p1 l3_1 v1 f1 w1 g1 hIv1 hCf1 hRf1 ⟨show (0 : Int) ≤ p1.toInt from om_214 hp1, show p1.toInt ≤ (5 : Int) from om_215 hp1⟩ ⟨show (-1 : Int) ≤ l3_1.toInt from om_249 hr3_1, show l3_1.toInt ≤ (5 : Int) from om_100 b25_v zc2⟩) k_1747 k_1749 k_73 k_114 k_1750 hd_yX11_fits ⟨Nat.le_of_ble_eq_true rfl, Nat.le_of_ble_eq_true rfl⟩ 0 11 rfl rfl (rfl) hl.1 rfl (Nat.le_of_ble_eq_true rfl) dX11_coatsFor_16 (fun r7 u H locs hw hP hD hS => ?_)
        obtain ⟨hG8, hw⟩ := hw
        obtain ⟨v9, f10, w11, g12⟩ := u
        obtain ⟨kV_v9, kF_f10, hIv9, hCf10, hRf10, hk0_v9, hk1_v9, hk2_v9, hk3_v9, hk4_v9, hk5_v9, hk8_v9, hk9_v9, hk10_v9, hk13_v9, hk14_v9, hk15_v9, hk17_v9, hk18_v9, hk24_v9, hk25_v9, hk35_v9, hk36_v9, hk38_v9, hk39_v9, hw⟩ := hw
        have hM_v9 : KV [] v9 v := KV.tr kV_v9 hM_v1 rfl
        have hA_f10 : KF [7, 8] f10 f := KF.tr kF_f10 hA_f1 rfl
        have hP : va_P (dC, dI) vwCl (YW cy y0 r v9 f10 w11 g12) H := hP
        have hD : va_D A (YW cy y0 r v9 f10 w11 g12) := hD
        have hUv9 : (v9 35).toInt + (v9 36).toInt ≤ 40 := hIv9.2
        have hq0_v9 : v9 0 = (v 0) := hk0_v9.trans hq0_v1
        have hq1_v9 : v9 1 = (v 1) := hk1_v9.trans hq1_v1
        have hq2_v9 : v9 2 = (v 2) := hk2_v9.trans hq2_v1
        have hq3_v9 : v9 3 = (v 3) := hk3_v9.trans hq3_v1
        have hq4_v9 : v9 4 = (v 4) := hk4_v9.trans hq4_v1
        have hq5_v9 : v9 5 = (v 5) := hk5_v9.trans hq5_v1
        have hq8_v9 : v9 8 = (v 8) := hk8_v9.trans hq8_v1
        have hq9_v9 : v9 9 = (v 9) := hk9_v9.trans hq9_v1
        have zq9_v9 := congrArg Int32.toInt hq9_v9
        have hq10_v9 : v9 10 = (v 10) := hk10_v9.trans hq10_v1
        have hq13_v9 : v9 13 = (v 13) := hk13_v9.trans hq13_v1
        have hq14_v9 : v9 14 = (v 14) := hk14_v9.trans hq14_v1
        have hq15_v9 : v9 15 = (v 15) := hk15_v9.trans hq15_v1
        have hq17_v9 : v9 17 = (v 17) := hk17_v9.trans hq17_v1
        have hq18_v9 : v9 18 = (v 18) := hk18_v9.trans hq18_v1
        have hq24_v9 : v9 24 = (v 24) := hk24_v9.trans hq24_v1
        have hq25_v9 : v9 25 = (v 25) := hk25_v9.trans hq25_v1
        have hq35_v9 : v9 35 = (v 35) := hk35_v9.trans hq35_v1
        have hq36_v9 : v9 36 = (v 36) := hk36_v9.trans hq36_v1
        have hq38_v9 : v9 38 = (v 38) := hk38_v9.trans hq38_v1
        have hq39_v9 : v9 39 = (v 39) := hk39_v9.trans hq39_v1
        rcases hw with ⟨g13⟩ | ⟨g13⟩
        · skip
          subst g13
          have lt14 : (1 : Int32).toInt = 1 := by decide
          refine cbSi (n := 1) (rest := [.int l2_1]) hx hb hml hown hts hE hP hD hS hA (sY_X11_truth_1 0 l dC dI cy y0 r 1 v9 f10 w11 g12 hIv9 hCf10 hRf10 ) k_1761 k_1762 k_114 k_1763 he_yX11_truth ⟨Nat.le_of_ble_eq_true rfl, Nat.le_of_ble_eq_true rfl⟩ (rfl) hl.1 rfl (Nat.le_of_ble_eq_true rfl) dX11_coatsFor_19 (fun r15 u H locs hw hP hD hS => ?_)
          obtain ⟨hG16, hw⟩ := hw
          have pw_r15 : (0 : Int) ≤ r15.toInt ∧ r15.toInt ≤ 1 := hw
          refine lv_iload_n hx hb dX11_coatsFor_22 rfl (lv_at hl 0 rfl) ?_
          refine lv_ishl hx hb dX11_coatsFor_23 ?_
          refine lv_topi (fun t17 et17 => ?_)
          refine lv_ior hx hb dX11_coatsFor_24 ?_
          refine lv_topi (fun t18 et18 => ?_)
          refine lv_istore_n (lv' := [(2, .int t18), (3, .int l3_1), (0, .ref y0), (1, .int p1)]) hx hb dX11_coatsFor_25 rfl hl (Nat.le_of_ble_eq_true rfl) rfl (fun ls hl => ?_)
          obtain ⟨t19, et19⟩ : ∃ y : Int32, y = l3_1 + 1 := ⟨_, rfl⟩
          have zt19 : t19.toInt = l3_1.toInt + 1 := (congrArg Int32.toInt et19).trans (add_i rfl tc_1 (om_41 hr3_1) (om_187 b25_v zc2))
          refine lv_iinc (v := t19) (lv' := [(3, .int t19), (2, .int t18), (0, .ref y0), (1, .int p1)]) hx hb dX11_coatsFor_26 hl (k := 1) rfl et19.symm (Nat.le_of_ble_eq_true rfl) rfl (fun ls hl => ?_)
          refine lv_goto (tgt := 4) hx hb dX11_coatsFor_29 rfl ?_
          have rg20 := fb_rng t19
          exact ih1 t18 t19 v9 f10 w11 g12 hIv9 hCf10 hRf10 hq0_v9 hq1_v9 hq2_v9 hq3_v9 hq4_v9 hq5_v9 hq8_v9 hq9_v9 hq10_v9 hq13_v9 hq14_v9 hq15_v9 hq17_v9 hq18_v9 hq24_v9 hq25_v9 hq35_v9 hq36_v9 hq38_v9 hq39_v9 ⟨show (0 : Int) ≤ t19.toInt from om_43 hr3_1 zt19, show t19.toInt ≤ (2147483647 : Int) from om_44 rg20⟩ hM_v9 hA_f10 (show (2147483647 - t19.toInt).toNat < n1 from om_33 hm1 zt19 rg20) _ _ _ hP hD hS (lv_sub hl [0, 1, 2, 3] rfl)
        · skip
          subst g13
          have lt21 : (0 : Int32).toInt = 0 := by decide
          refine cbSi (n := 1) (rest := [.int l2_1]) hx hb hml hown hts hE hP hD hS hA (sY_X11_truth_1 0 l dC dI cy y0 r 0 v9 f10 w11 g12 hIv9 hCf10 hRf10 ) k_1761 k_1762 k_114 k_1763 he_yX11_truth ⟨Nat.le_of_ble_eq_true rfl, Nat.le_of_ble_eq_true rfl⟩ (rfl) hl.1 rfl (Nat.le_of_ble_eq_true rfl) dX11_coatsFor_19 (fun r22 u H locs hw hP hD hS => ?_)
          obtain ⟨hG23, hw⟩ := hw
          have pw_r22 : (0 : Int) ≤ r22.toInt ∧ r22.toInt ≤ 1 := hw
          refine lv_iload_n hx hb dX11_coatsFor_22 rfl (lv_at hl 0 rfl) ?_
          refine lv_ishl hx hb dX11_coatsFor_23 ?_
          refine lv_topi (fun t24 et24 => ?_)
          refine lv_ior hx hb dX11_coatsFor_24 ?_
          refine lv_topi (fun t25 et25 => ?_)
          refine lv_istore_n (lv' := [(2, .int t25), (3, .int l3_1), (0, .ref y0), (1, .int p1)]) hx hb dX11_coatsFor_25 rfl hl (Nat.le_of_ble_eq_true rfl) rfl (fun ls hl => ?_)
          obtain ⟨t26, et26⟩ : ∃ y : Int32, y = l3_1 + 1 := ⟨_, rfl⟩
          have zt26 : t26.toInt = l3_1.toInt + 1 := (congrArg Int32.toInt et26).trans (add_i rfl tc_1 (om_41 hr3_1) (om_187 b25_v zc2))
          refine lv_iinc (v := t26) (lv' := [(3, .int t26), (2, .int t25), (0, .ref y0), (1, .int p1)]) hx hb dX11_coatsFor_26 hl (k := 1) rfl et26.symm (Nat.le_of_ble_eq_true rfl) rfl (fun ls hl => ?_)
          refine lv_goto (tgt := 4) hx hb dX11_coatsFor_29 rfl ?_
          have rg27 := fb_rng t26
          exact ih1 t25 t26 v9 f10 w11 g12 hIv9 hCf10 hRf10 hq0_v9 hq1_v9 hq2_v9 hq3_v9 hq4_v9 hq5_v9 hq8_v9 hq9_v9 hq10_v9 hq13_v9 hq14_v9 hq15_v9 hq17_v9 hq18_v9 hq24_v9 hq25_v9 hq35_v9 hq36_v9 hq38_v9 hq39_v9 ⟨show (0 : Int) ≤ t26.toInt from om_43 hr3_1 zt26, show t26.toInt ≤ (2147483647 : Int) from om_44 rg27⟩ hM_v9 hA_f10 (show (2147483647 - t26.toInt).toNat < n1 from om_33 hm1 zt26 rg27) _ _ _ hP hD hS (lv_sub hl [0, 1, 2, 3] rfl)
  exact lp1 _ 0 0 v f w g hIv hCf hRf rfl rfl rfl rfl rfl rfl rfl rfl rfl rfl rfl rfl rfl rfl rfl rfl rfl rfl rfl rfl ⟨by decide, by decide⟩ hM_v hA_f (Nat.lt_succ_self _) _ _ _ hP hD hS (lv_sub hl [0, 1, 2, 3] rfl)
set_option maxHeartbeats 4000000 in
set_option maxRecDepth 100000 in
theorem sY_X11_man_1 (l : Launch) (dC : Nat → ClassId) (dI : Nat → Nat → Nat) (cy : Nat → ClassId) (y0 : Nat) (r : Nat → Nat) (p1 : Int32) (p2 : Int32) (v : Nat → Int32) (f : Nat → Nat → Int32) (w : Int64) (g : Nat → Int64) (hIv : YI v) (hCf : YC f) (hRf : progOK (f 4) (f 5) (v 9).toInt.toNat)  : ctI l (dC, dI) cy yX11_man cX11_man 3 .int 6 171 0 0 ((Nat → Int32) × (Nat → Nat → Int32) × (Int64) × (Nat → Int64)) [.ref y0, .int p1, .int p2] (YW cy y0 r v f w g) (fun r u => KV [] u.1 v ∧ KF [7, 8, 24] u.2.1 f ∧ YI u.1 ∧ YC u.2.1 ∧ progOK (u.2.1 4) (u.2.1 5) (u.1 9).toInt.toNat ∧ u.1 0 = v 0 ∧ u.1 1 = v 1 ∧ u.1 2 = v 2 ∧ u.1 3 = v 3 ∧ u.1 4 = v 4 ∧ u.1 5 = v 5 ∧ u.1 8 = v 8 ∧ u.1 9 = v 9 ∧ u.1 10 = v 10 ∧ u.1 13 = v 13 ∧ u.1 14 = v 14 ∧ u.1 15 = v 15 ∧ u.1 17 = v 17 ∧ u.1 18 = v 18 ∧ u.1 24 = v 24 ∧ u.1 25 = v 25 ∧ u.1 35 = v 35 ∧ u.1 36 = v 36 ∧ u.1 38 = v 38 ∧ u.1 39 = v 39) (fun u => YW cy y0 r u.1 u.2.1 u.2.2.1 u.2.2.2) := by
  refine ctI_of (by decide) (Nat.le_of_ble_eq_true rfl) (fun p e s m below meth c A ls Q hx hb hml hts hown hE hP hD hA hl ret => ?_)
  have hUv : (v 35).toInt + (v 36).toInt ≤ 40 := hIv.2
  have hM_v : KV [] v v := fun _ _ => rfl
  have hA_f : KF [7, 8, 24] f f := fun _ _ => rfl
  have hown : s.vm.findClass RX11 = some m.cls := hown
  have hS : va_S A s.heap s.heap [] := va_S.rf
  have hl : lv_has ls 3 [(0, .ref y0), (1, .int p1), (2, .int p2)] := hl
  refine lv_aload_n hx hb dX11_man_0 rfl (lv_at hl 0 rfl) ?_
  refine lv_iload_n hx hb dX11_man_1 rfl (lv_at hl 1 rfl) ?_
  refine cbVi (n := 1) (rest := []) hx hb hml hown hts hE hP hD hS hA (sY_X11_isMan_1 0 l dC dI cy y0 r p1 v f w g hIv hCf hRf ) k_1732 k_1734 k_70 k_114 k_1735 hd_yX11_isMan ⟨Nat.le_of_ble_eq_true rfl, Nat.le_of_ble_eq_true rfl⟩ 0 11 rfl rfl (rfl) hl.1 rfl (Nat.le_of_ble_eq_true rfl) dX11_man_2 (fun r1 u H locs hw hP hD hS => ?_)
  obtain ⟨hG2, hw⟩ := hw
  rcases hw with ⟨g3, g3_0, g3_1, g3_2⟩ | ⟨g3⟩
  · skip
    subst g3
    refine lv_if_ne (tgt := 11) hx hb dX11_man_5 rfl (fun _ => ?_) (fun c0 => absurd c0 (by decide))
    refine lv_aload_n hx hb dX11_man_11 rfl (lv_at hl 0 rfl) ?_
    refine cbVv (n := 0) (rest := []) hx hb hml hown hts hE hP hD hS hA (sY_X11_fill_1 0 l dC dI cy y0 r  v f w g hIv hCf hRf ) k_1739 k_1741 k_71 k_114 k_1742 hd_yX11_fill ⟨Nat.le_of_ble_eq_true rfl, Nat.le_of_ble_eq_true rfl⟩ 0 11 rfl rfl (rfl) hl.1 rfl (Nat.le_of_ble_eq_true rfl) dX11_man_12 (fun u H locs hw hP hD hS => ?_)
    obtain ⟨hG4, hw⟩ := hw
    obtain ⟨v5, f6, w7, g8⟩ := u
    obtain ⟨kV_v5, kF_f6, hIv5, hCf6, hRf6, hk0_v5, hk1_v5, hk2_v5, hk3_v5, hk4_v5, hk5_v5, hk8_v5, hk9_v5, hk10_v5, hk13_v5, hk14_v5, hk15_v5, hk17_v5, hk18_v5, hk24_v5, hk25_v5, hk35_v5, hk36_v5, hk38_v5, hk39_v5⟩ := hw
    have hM_v5 : KV [] v5 v := KV.tr kV_v5 hM_v rfl
    have hA_f6 : KF [7, 8, 24] f6 f := KF.tr kF_f6 hA_f rfl
    have hP : va_P (dC, dI) vwCl (YW cy y0 r v5 f6 w7 g8) H := hP
    have hD : va_D A (YW cy y0 r v5 f6 w7 g8) := hD
    have hUv5 : (v5 35).toInt + (v5 36).toInt ≤ 40 := hIv5.2
    have hq9_v5 : v5 9 = (v 9) := hk9_v5
    have zq9_v5 := congrArg Int32.toInt hq9_v5
    refine lv_iload_n hx hb dX11_man_15 rfl (lv_at hl 2 rfl) ?_
    by_cases c9 : p2 = 0
    · skip
      refine lv_tableIn (off := 36) (tgt := 52) hx hb dX11_man_16 (by rw [c9]; decide) (by rw [c9]; decide) (by rw [c9]; decide) (by decide) ?_
      refine lv_aload_n hx hb dX11_man_52 rfl (lv_at hl 0 rfl) ?_
      refine va_get (D := (dC, dI)) (ci := 11) (v := .ref (r 34)) (C := RX11) (T := TX11) (N := 79) hx hb hts inB_11 hown hE.1 hP 0 rfl rfl 34 (Nat.le_of_ble_eq_true rfl) (hts _ k_1354) (fun _ h9 => h9) rfl dX11_man_53 ?_
      refine lv_iload_n hx hb dX11_man_56 rfl (lv_at hl 1 rfl) ?_
      refine ldI hx hb hE hP 17 rfl (vpI (k := 6) rfl (show 0 ≤ p1.toInt from om_62 g3_0) (show p1.toInt < 6 from om_452 g3_2)) rfl rfl dX11_man_57 ?_
      refine lv_topi (fun t10 et10 => ?_)
      exact ret t10 (v5, f6, w7, g8) _ _ _ _ _ _ rfl ⟨hM_v5, hA_f6, hIv5, hCf6, hRf6, hk0_v5, hk1_v5, hk2_v5, hk3_v5, hk4_v5, hk5_v5, hk8_v5, hk9_v5, hk10_v5, hk13_v5, hk14_v5, hk15_v5, hk17_v5, hk18_v5, hk24_v5, hk25_v5, hk35_v5, hk36_v5, hk38_v5, hk39_v5⟩ hP hD hS dX11_man_58 (Nat.le_refl _) (Nat.le_refl _)
    · skip
      have zc9 : ¬ (p2.toInt = 0) := zEn rfl tc_0 c9
      by_cases c11 : p2 = 1
      · skip
        refine lv_tableIn (off := 43) (tgt := 59) hx hb dX11_man_16 (by rw [c11]; decide) (by rw [c11]; decide) (by rw [c11]; decide) (by decide) ?_
        refine lv_aload_n hx hb dX11_man_59 rfl (lv_at hl 0 rfl) ?_
        refine va_get (D := (dC, dI)) (ci := 11) (v := .ref (r 60)) (C := RX11) (T := TX11) (N := 79) hx hb hts inB_11 hown hE.1 hP 0 rfl rfl 60 (Nat.le_of_ble_eq_true rfl) (hts _ k_1380) (fun _ h9 => h9) rfl dX11_man_60 ?_
        refine lv_iload_n hx hb dX11_man_63 rfl (lv_at hl 1 rfl) ?_
        refine ldI hx hb hE hP 25 rfl (vpI (k := 39) rfl (show 0 ≤ p1.toInt from om_62 g3_0) (show p1.toInt < 39 from om_671 g3_2)) rfl rfl dX11_man_64 ?_
        refine lv_topi (fun t12 et12 => ?_)
        exact ret t12 (v5, f6, w7, g8) _ _ _ _ _ _ rfl ⟨hM_v5, hA_f6, hIv5, hCf6, hRf6, hk0_v5, hk1_v5, hk2_v5, hk3_v5, hk4_v5, hk5_v5, hk8_v5, hk9_v5, hk10_v5, hk13_v5, hk14_v5, hk15_v5, hk17_v5, hk18_v5, hk24_v5, hk25_v5, hk35_v5, hk36_v5, hk38_v5, hk39_v5⟩ hP hD hS dX11_man_65 (Nat.le_refl _) (Nat.le_refl _)
      · skip
        have zc11 : ¬ (p2.toInt = 1) := zEn rfl tc_1 c11
        by_cases c13 : p2 = 2
        · skip
          refine lv_tableIn (off := 50) (tgt := 66) hx hb dX11_man_16 (by rw [c13]; decide) (by rw [c13]; decide) (by rw [c13]; decide) (by decide) ?_
          refine lv_aload_n hx hb dX11_man_66 rfl (lv_at hl 0 rfl) ?_
          refine va_get (D := (dC, dI)) (ci := 11) (v := .ref (r 36)) (C := RX11) (T := TX11) (N := 79) hx hb hts inB_11 hown hE.1 hP 0 rfl rfl 36 (Nat.le_of_ble_eq_true rfl) (hts _ k_1356) (fun _ h9 => h9) rfl dX11_man_67 ?_
          refine lv_iload_n hx hb dX11_man_70 rfl (lv_at hl 1 rfl) ?_
          refine ldI hx hb hE hP 19 rfl (vpI (k := 6) rfl (show 0 ≤ p1.toInt from om_62 g3_0) (show p1.toInt < 6 from om_452 g3_2)) rfl rfl dX11_man_71 ?_
          refine lv_topi (fun t14 et14 => ?_)
          exact ret t14 (v5, f6, w7, g8) _ _ _ _ _ _ rfl ⟨hM_v5, hA_f6, hIv5, hCf6, hRf6, hk0_v5, hk1_v5, hk2_v5, hk3_v5, hk4_v5, hk5_v5, hk8_v5, hk9_v5, hk10_v5, hk13_v5, hk14_v5, hk15_v5, hk17_v5, hk18_v5, hk24_v5, hk25_v5, hk35_v5, hk36_v5, hk38_v5, hk39_v5⟩ hP hD hS dX11_man_72 (Nat.le_refl _) (Nat.le_refl _)
        · skip
          have zc13 : ¬ (p2.toInt = 2) := zEn rfl tc_2 c13
          by_cases c15 : p2 = 3
          · skip
            refine lv_tableIn (off := 57) (tgt := 73) hx hb dX11_man_16 (by rw [c15]; decide) (by rw [c15]; decide) (by rw [c15]; decide) (by decide) ?_
            refine lv_aload_n hx hb dX11_man_73 rfl (lv_at hl 0 rfl) ?_
            refine va_get (D := (dC, dI)) (ci := 11) (v := .ref (r 60)) (C := RX11) (T := TX11) (N := 79) hx hb hts inB_11 hown hE.1 hP 0 rfl rfl 60 (Nat.le_of_ble_eq_true rfl) (hts _ k_1380) (fun _ h9 => h9) rfl dX11_man_74 ?_
            refine lv_bipush (v := 6) hx hb dX11_man_77 rfl ?_
            refine lv_iload_n hx hb dX11_man_79 rfl (lv_at hl 1 rfl) ?_
            refine lv_iadd hx hb dX11_man_80 ?_
            refine lv_topi (fun t16 et16 => ?_)
            have zt16 : t16.toInt = 6 + p1.toInt := (congrArg Int32.toInt et16).trans (add_i tc_6 rfl (om_183 g3_0) (om_184 g3_2))
            refine ldI hx hb hE hP 25 rfl (vpI (k := 39) rfl (show 0 ≤ t16.toInt from om_185 g3_0 zt16) (show t16.toInt < 39 from om_606 g3_2 zt16)) rfl rfl dX11_man_81 ?_
            refine lv_topi (fun t18 et18 => ?_)
            exact ret t18 (v5, f6, w7, g8) _ _ _ _ _ _ rfl ⟨hM_v5, hA_f6, hIv5, hCf6, hRf6, hk0_v5, hk1_v5, hk2_v5, hk3_v5, hk4_v5, hk5_v5, hk8_v5, hk9_v5, hk10_v5, hk13_v5, hk14_v5, hk15_v5, hk17_v5, hk18_v5, hk24_v5, hk25_v5, hk35_v5, hk36_v5, hk38_v5, hk39_v5⟩ hP hD hS dX11_man_82 (Nat.le_refl _) (Nat.le_refl _)
          · skip
            have zc15 : ¬ (p2.toInt = 3) := zEn rfl tc_3 c15
            by_cases c19 : p2 = 4
            · skip
              refine lv_tableIn (off := 67) (tgt := 83) hx hb dX11_man_16 (by rw [c19]; decide) (by rw [c19]; decide) (by rw [c19]; decide) (by decide) ?_
              refine lv_aload_n hx hb dX11_man_83 rfl (lv_at hl 0 rfl) ?_
              refine lv_iload_n hx hb dX11_man_84 rfl (lv_at hl 1 rfl) ?_
              refine cbVi (n := 1) (rest := []) hx hb hml hown hts hE hP hD hS hA (sY_X11_coatsFor_1 l dC dI cy y0 r p1 v5 f6 w7 g8 hIv5 hCf6 hRf6 ⟨show (0 : Int) ≤ p1.toInt from om_62 g3_0, show p1.toInt ≤ (5 : Int) from om_451 g3_2⟩) k_1743 k_1745 k_72 k_114 k_1746 hd_yX11_coatsFor ⟨Nat.le_of_ble_eq_true rfl, Nat.le_of_ble_eq_true rfl⟩ 0 11 rfl rfl (rfl) hl.1 rfl (Nat.le_of_ble_eq_true rfl) dX11_man_85 (fun r20 u H locs hw hP hD hS => ?_)
              obtain ⟨v21, f22, w23, g24⟩ := u
              obtain ⟨kV_v21, kF_f22, hIv21, hCf22, hRf22, hk0_v21, hk1_v21, hk2_v21, hk3_v21, hk4_v21, hk5_v21, hk8_v21, hk9_v21, hk10_v21, hk13_v21, hk14_v21, hk15_v21, hk17_v21, hk18_v21, hk24_v21, hk25_v21, hk35_v21, hk36_v21, hk38_v21, hk39_v21⟩ := hw
              have hM_v21 : KV [] v21 v := KV.tr kV_v21 hM_v5 rfl
              have hA_f22 : KF [7, 8, 24] f22 f := KF.tr kF_f22 hA_f6 rfl
              have hP : va_P (dC, dI) vwCl (YW cy y0 r v21 f22 w23 g24) H := hP
              have hD : va_D A (YW cy y0 r v21 f22 w23 g24) := hD
              exact ret r20 (v21, f22, w23, g24) _ _ _ _ _ _ rfl ⟨hM_v21, hA_f22, hIv21, hCf22, hRf22, (hk0_v21.trans hk0_v5), (hk1_v21.trans hk1_v5), (hk2_v21.trans hk2_v5), (hk3_v21.trans hk3_v5), (hk4_v21.trans hk4_v5), (hk5_v21.trans hk5_v5), (hk8_v21.trans hk8_v5), (hk9_v21.trans hk9_v5), (hk10_v21.trans hk10_v5), (hk13_v21.trans hk13_v5), (hk14_v21.trans hk14_v5), (hk15_v21.trans hk15_v5), (hk17_v21.trans hk17_v5), (hk18_v21.trans hk18_v5), (hk24_v21.trans hk24_v5), (hk25_v21.trans hk25_v5), (hk35_v21.trans hk35_v5), (hk36_v21.trans hk36_v5), (hk38_v21.trans hk38_v5), (hk39_v21.trans hk39_v5)⟩ hP hD hS dX11_man_88 (Nat.le_refl _) (Nat.le_refl _)
            · skip
              have zc19 : ¬ (p2.toInt = 4) := zEn rfl tc_4 c19
              refine lv_tableOut (tgt := 89) hx hb dX11_man_16 (by omega) (by decide) ?_
              refine lv_bipush (v := (-2)) hx hb dX11_man_89 rfl ?_
              exact ret (-2) (v5, f6, w7, g8) _ _ _ _ _ _ rfl ⟨hM_v5, hA_f6, hIv5, hCf6, hRf6, hk0_v5, hk1_v5, hk2_v5, hk3_v5, hk4_v5, hk5_v5, hk8_v5, hk9_v5, hk10_v5, hk13_v5, hk14_v5, hk15_v5, hk17_v5, hk18_v5, hk24_v5, hk25_v5, hk35_v5, hk36_v5, hk38_v5, hk39_v5⟩ hP hD hS dX11_man_91 (Nat.le_refl _) (Nat.le_refl _)
  · skip
    subst g3
    refine lv_if_ne (tgt := 11) hx hb dX11_man_5 rfl (fun c0 => absurd (by decide) c0) (fun _ => ?_)
    refine lv_bipush (v := (-2)) hx hb dX11_man_8 rfl ?_
    exact ret (-2) (v, f, w, g) _ _ _ _ _ _ rfl ⟨hM_v, hA_f, hIv, hCf, hRf, rfl, rfl, rfl, rfl, rfl, rfl, rfl, rfl, rfl, rfl, rfl, rfl, rfl, rfl, rfl, rfl, rfl, rfl, rfl, rfl⟩ hP hD hS dX11_man_10 (Nat.le_refl _) (Nat.le_refl _)
set_option maxHeartbeats 4000000 in
set_option maxRecDepth 100000 in
theorem sY_X11_coat_1 (l : Launch) (dC : Nat → ClassId) (dI : Nat → Nat → Nat) (cy : Nat → ClassId) (y0 : Nat) (r : Nat → Nat) (p1 : Int32) (p2 : Int32) (v : Nat → Int32) (f : Nat → Nat → Int32) (w : Int64) (g : Nat → Int64) (hIv : YI v) (hCf : YC f) (hRf : progOK (f 4) (f 5) (v 9).toInt.toNat)  : ctI l (dC, dI) cy yX11_coat cX11_coat 3 .int 3 103 0 0 ((Nat → Int32) × (Nat → Nat → Int32) × (Int64) × (Nat → Int64)) [.ref y0, .int p1, .int p2] (YW cy y0 r v f w g) (fun r u => KV [] u.1 v ∧ KF [24] u.2.1 f ∧ YI u.1 ∧ YC u.2.1 ∧ progOK (u.2.1 4) (u.2.1 5) (u.1 9).toInt.toNat ∧ u.1 0 = v 0 ∧ u.1 1 = v 1 ∧ u.1 2 = v 2 ∧ u.1 3 = v 3 ∧ u.1 4 = v 4 ∧ u.1 5 = v 5 ∧ u.1 8 = v 8 ∧ u.1 9 = v 9 ∧ u.1 10 = v 10 ∧ u.1 13 = v 13 ∧ u.1 14 = v 14 ∧ u.1 15 = v 15 ∧ u.1 17 = v 17 ∧ u.1 18 = v 18 ∧ u.1 24 = v 24 ∧ u.1 25 = v 25 ∧ u.1 35 = v 35 ∧ u.1 36 = v 36 ∧ u.1 38 = v 38 ∧ u.1 39 = v 39) (fun u => YW cy y0 r u.1 u.2.1 u.2.2.1 u.2.2.2) := by
  refine ctI_of (by decide) (Nat.le_of_ble_eq_true rfl) (fun p e s m below meth c A ls Q hx hb hml hts hown hE hP hD hA hl ret => ?_)
  have hUv : (v 35).toInt + (v 36).toInt ≤ 40 := hIv.2
  have hM_v : KV [] v v := fun _ _ => rfl
  have hA_f : KF [24] f f := fun _ _ => rfl
  have hown : s.vm.findClass RX11 = some m.cls := hown
  have hS : va_S A s.heap s.heap [] := va_S.rf
  have hl : lv_has ls 3 [(0, .ref y0), (1, .int p1), (2, .int p2)] := hl
  refine lv_aload_n hx hb dX11_coat_0 rfl (lv_at hl 0 rfl) ?_
  refine lv_iload_n hx hb dX11_coat_1 rfl (lv_at hl 1 rfl) ?_
  refine cbVi (n := 1) (rest := []) hx hb hml hown hts hE hP hD hS hA (sY_X11_isCoat_1 0 l dC dI cy y0 r p1 v f w g hIv hCf hRf ) k_1771 k_1773 k_75 k_114 k_1774 hd_yX11_isCoat ⟨Nat.le_of_ble_eq_true rfl, Nat.le_of_ble_eq_true rfl⟩ 0 11 rfl rfl (rfl) hl.1 rfl (Nat.le_of_ble_eq_true rfl) dX11_coat_2 (fun r1 u H locs hw hP hD hS => ?_)
  obtain ⟨hG2, hw⟩ := hw
  rcases hw with ⟨g3, g3_0, g3_1, g3_2⟩ | ⟨g3⟩
  · skip
    subst g3
    refine lv_if_ne (tgt := 11) hx hb dX11_coat_5 rfl (fun _ => ?_) (fun c0 => absurd c0 (by decide))
    refine lv_aload_n hx hb dX11_coat_11 rfl (lv_at hl 0 rfl) ?_
    refine cbVv (n := 0) (rest := []) hx hb hml hown hts hE hP hD hS hA (sY_X11_fill_1 0 l dC dI cy y0 r  v f w g hIv hCf hRf ) k_1739 k_1741 k_71 k_114 k_1742 hd_yX11_fill ⟨Nat.le_of_ble_eq_true rfl, Nat.le_of_ble_eq_true rfl⟩ 0 11 rfl rfl (rfl) hl.1 rfl (Nat.le_of_ble_eq_true rfl) dX11_coat_12 (fun u H locs hw hP hD hS => ?_)
    obtain ⟨hG4, hw⟩ := hw
    obtain ⟨v5, f6, w7, g8⟩ := u
    obtain ⟨kV_v5, kF_f6, hIv5, hCf6, hRf6, hk0_v5, hk1_v5, hk2_v5, hk3_v5, hk4_v5, hk5_v5, hk8_v5, hk9_v5, hk10_v5, hk13_v5, hk14_v5, hk15_v5, hk17_v5, hk18_v5, hk24_v5, hk25_v5, hk35_v5, hk36_v5, hk38_v5, hk39_v5⟩ := hw
    have hM_v5 : KV [] v5 v := KV.tr kV_v5 hM_v rfl
    have hA_f6 : KF [24] f6 f := KF.tr kF_f6 hA_f rfl
    have hP : va_P (dC, dI) vwCl (YW cy y0 r v5 f6 w7 g8) H := hP
    have hD : va_D A (YW cy y0 r v5 f6 w7 g8) := hD
    have hUv5 : (v5 35).toInt + (v5 36).toInt ≤ 40 := hIv5.2
    have hq9_v5 : v5 9 = (v 9) := hk9_v5
    have zq9_v5 := congrArg Int32.toInt hq9_v5
    refine lv_iload_n hx hb dX11_coat_15 rfl (lv_at hl 2 rfl) ?_
    by_cases c9 : p2 = 0
    · skip
      refine lv_tableIn (off := 40) (tgt := 56) hx hb dX11_coat_16 (by rw [c9]; decide) (by rw [c9]; decide) (by rw [c9]; decide) (by decide) ?_
      refine lv_aload_n hx hb dX11_coat_56 rfl (lv_at hl 0 rfl) ?_
      refine va_get (D := (dC, dI)) (ci := 11) (v := .ref (r 60)) (C := RX11) (T := TX11) (N := 79) hx hb hts inB_11 hown hE.1 hP 0 rfl rfl 60 (Nat.le_of_ble_eq_true rfl) (hts _ k_1380) (fun _ h9 => h9) rfl dX11_coat_57 ?_
      refine lv_bipush (v := 12) hx hb dX11_coat_60 rfl ?_
      refine lv_iload_n hx hb dX11_coat_62 rfl (lv_at hl 1 rfl) ?_
      refine lv_iadd hx hb dX11_coat_63 ?_
      refine lv_topi (fun t10 et10 => ?_)
      have zt10 : t10.toInt = 12 + p1.toInt := (congrArg Int32.toInt et10).trans (add_i tc_12 rfl (om_619 g3_0) (om_620 g3_2))
      refine ldI hx hb hE hP 25 rfl (vpI (k := 39) rfl (show 0 ≤ t10.toInt from om_621 g3_0 zt10) (show t10.toInt < 39 from om_622 g3_2 zt10)) rfl rfl dX11_coat_64 ?_
      refine lv_topi (fun t12 et12 => ?_)
      exact ret t12 (v5, f6, w7, g8) _ _ _ _ _ _ rfl ⟨hM_v5, hA_f6, hIv5, hCf6, hRf6, hk0_v5, hk1_v5, hk2_v5, hk3_v5, hk4_v5, hk5_v5, hk8_v5, hk9_v5, hk10_v5, hk13_v5, hk14_v5, hk15_v5, hk17_v5, hk18_v5, hk24_v5, hk25_v5, hk35_v5, hk36_v5, hk38_v5, hk39_v5⟩ hP hD hS dX11_coat_65 (Nat.le_refl _) (Nat.le_refl _)
    · skip
      have zc9 : ¬ (p2.toInt = 0) := zEn rfl tc_0 c9
      by_cases c13 : p2 = 1
      · skip
        refine lv_tableIn (off := 50) (tgt := 66) hx hb dX11_coat_16 (by rw [c13]; decide) (by rw [c13]; decide) (by rw [c13]; decide) (by decide) ?_
        refine lv_aload_n hx hb dX11_coat_66 rfl (lv_at hl 0 rfl) ?_
        refine va_get (D := (dC, dI)) (ci := 11) (v := .ref (r 60)) (C := RX11) (T := TX11) (N := 79) hx hb hts inB_11 hown hE.1 hP 0 rfl rfl 60 (Nat.le_of_ble_eq_true rfl) (hts _ k_1380) (fun _ h9 => h9) rfl dX11_coat_67 ?_
        refine lv_bipush (v := 18) hx hb dX11_coat_70 rfl ?_
        refine lv_iload_n hx hb dX11_coat_72 rfl (lv_at hl 1 rfl) ?_
        refine lv_iadd hx hb dX11_coat_73 ?_
        refine lv_topi (fun t14 et14 => ?_)
        have zt14 : t14.toInt = 18 + p1.toInt := (congrArg Int32.toInt et14).trans (add_i tc_18 rfl (om_614 g3_0) (om_615 g3_2))
        refine ldI hx hb hE hP 25 rfl (vpI (k := 39) rfl (show 0 ≤ t14.toInt from om_616 g3_0 zt14) (show t14.toInt < 39 from om_617 g3_2 zt14)) rfl rfl dX11_coat_74 ?_
        refine lv_topi (fun t16 et16 => ?_)
        exact ret t16 (v5, f6, w7, g8) _ _ _ _ _ _ rfl ⟨hM_v5, hA_f6, hIv5, hCf6, hRf6, hk0_v5, hk1_v5, hk2_v5, hk3_v5, hk4_v5, hk5_v5, hk8_v5, hk9_v5, hk10_v5, hk13_v5, hk14_v5, hk15_v5, hk17_v5, hk18_v5, hk24_v5, hk25_v5, hk35_v5, hk36_v5, hk38_v5, hk39_v5⟩ hP hD hS dX11_coat_75 (Nat.le_refl _) (Nat.le_refl _)
      · skip
        have zc13 : ¬ (p2.toInt = 1) := zEn rfl tc_1 c13
        by_cases c17 : p2 = 2
        · skip
          refine lv_tableIn (off := 60) (tgt := 76) hx hb dX11_coat_16 (by rw [c17]; decide) (by rw [c17]; decide) (by rw [c17]; decide) (by decide) ?_
          refine lv_aload_n hx hb dX11_coat_76 rfl (lv_at hl 0 rfl) ?_
          refine va_get (D := (dC, dI)) (ci := 11) (v := .ref (r 60)) (C := RX11) (T := TX11) (N := 79) hx hb hts inB_11 hown hE.1 hP 0 rfl rfl 60 (Nat.le_of_ble_eq_true rfl) (hts _ k_1380) (fun _ h9 => h9) rfl dX11_coat_77 ?_
          refine lv_bipush (v := 24) hx hb dX11_coat_80 rfl ?_
          refine lv_iload_n hx hb dX11_coat_82 rfl (lv_at hl 1 rfl) ?_
          refine lv_iadd hx hb dX11_coat_83 ?_
          refine lv_topi (fun t18 et18 => ?_)
          have zt18 : t18.toInt = 24 + p1.toInt := (congrArg Int32.toInt et18).trans (add_i tc_24 rfl (om_609 g3_0) (om_610 g3_2))
          refine ldI hx hb hE hP 25 rfl (vpI (k := 39) rfl (show 0 ≤ t18.toInt from om_611 g3_0 zt18) (show t18.toInt < 39 from om_612 g3_2 zt18)) rfl rfl dX11_coat_84 ?_
          refine lv_topi (fun t20 et20 => ?_)
          exact ret t20 (v5, f6, w7, g8) _ _ _ _ _ _ rfl ⟨hM_v5, hA_f6, hIv5, hCf6, hRf6, hk0_v5, hk1_v5, hk2_v5, hk3_v5, hk4_v5, hk5_v5, hk8_v5, hk9_v5, hk10_v5, hk13_v5, hk14_v5, hk15_v5, hk17_v5, hk18_v5, hk24_v5, hk25_v5, hk35_v5, hk36_v5, hk38_v5, hk39_v5⟩ hP hD hS dX11_coat_85 (Nat.le_refl _) (Nat.le_refl _)
        · skip
          have zc17 : ¬ (p2.toInt = 2) := zEn rfl tc_2 c17
          by_cases c21 : p2 = 3
          · skip
            refine lv_tableIn (off := 70) (tgt := 86) hx hb dX11_coat_16 (by rw [c21]; decide) (by rw [c21]; decide) (by rw [c21]; decide) (by decide) ?_
            refine lv_aload_n hx hb dX11_coat_86 rfl (lv_at hl 0 rfl) ?_
            refine va_get (D := (dC, dI)) (ci := 11) (v := .ref (r 60)) (C := RX11) (T := TX11) (N := 79) hx hb hts inB_11 hown hE.1 hP 0 rfl rfl 60 (Nat.le_of_ble_eq_true rfl) (hts _ k_1380) (fun _ h9 => h9) rfl dX11_coat_87 ?_
            refine lv_bipush (v := 30) hx hb dX11_coat_90 rfl ?_
            refine lv_iload_n hx hb dX11_coat_92 rfl (lv_at hl 1 rfl) ?_
            refine lv_iadd hx hb dX11_coat_93 ?_
            refine lv_topi (fun t22 et22 => ?_)
            have zt22 : t22.toInt = 30 + p1.toInt := (congrArg Int32.toInt et22).trans (add_i tc_30 rfl (om_625 g3_0) (om_626 g3_2))
            refine ldI hx hb hE hP 25 rfl (vpI (k := 39) rfl (show 0 ≤ t22.toInt from om_627 g3_0 zt22) (show t22.toInt < 39 from om_628 g3_2 zt22)) rfl rfl dX11_coat_94 ?_
            refine lv_topi (fun t24 et24 => ?_)
            exact ret t24 (v5, f6, w7, g8) _ _ _ _ _ _ rfl ⟨hM_v5, hA_f6, hIv5, hCf6, hRf6, hk0_v5, hk1_v5, hk2_v5, hk3_v5, hk4_v5, hk5_v5, hk8_v5, hk9_v5, hk10_v5, hk13_v5, hk14_v5, hk15_v5, hk17_v5, hk18_v5, hk24_v5, hk25_v5, hk35_v5, hk36_v5, hk38_v5, hk39_v5⟩ hP hD hS dX11_coat_95 (Nat.le_refl _) (Nat.le_refl _)
          · skip
            have zc21 : ¬ (p2.toInt = 3) := zEn rfl tc_3 c21
            by_cases c25 : p2 = 4
            · skip
              refine lv_tableIn (off := 80) (tgt := 96) hx hb dX11_coat_16 (by rw [c25]; decide) (by rw [c25]; decide) (by rw [c25]; decide) (by decide) ?_
              refine lv_aload_n hx hb dX11_coat_96 rfl (lv_at hl 0 rfl) ?_
              refine va_get (D := (dC, dI)) (ci := 11) (v := .ref (r 60)) (C := RX11) (T := TX11) (N := 79) hx hb hts inB_11 hown hE.1 hP 0 rfl rfl 60 (Nat.le_of_ble_eq_true rfl) (hts _ k_1380) (fun _ h9 => h9) rfl dX11_coat_97 ?_
              refine lv_bipush (v := 36) hx hb dX11_coat_100 rfl ?_
              refine ldI hx hb hE hP 25 rfl (vp_in_nI (n := 36) (by decide) (by decide)) rfl rfl dX11_coat_102 ?_
              refine lv_topi (fun t26 et26 => ?_)
              refine lv_iload_n hx hb dX11_coat_103 rfl (lv_at hl 1 rfl) ?_
              refine lv_ishr hx hb dX11_coat_104 ?_
              refine lv_topi (fun t27 et27 => ?_)
              refine lv_iconst (v := 1) hx hb dX11_coat_105 rfl ?_
              refine lv_iand hx hb dX11_coat_106 ?_
              refine lv_topi (fun t28 et28 => ?_)
              exact ret t28 (v5, f6, w7, g8) _ _ _ _ _ _ rfl ⟨hM_v5, hA_f6, hIv5, hCf6, hRf6, hk0_v5, hk1_v5, hk2_v5, hk3_v5, hk4_v5, hk5_v5, hk8_v5, hk9_v5, hk10_v5, hk13_v5, hk14_v5, hk15_v5, hk17_v5, hk18_v5, hk24_v5, hk25_v5, hk35_v5, hk36_v5, hk38_v5, hk39_v5⟩ hP hD hS dX11_coat_107 (Nat.le_refl _) (Nat.le_refl _)
            · skip
              have zc25 : ¬ (p2.toInt = 4) := zEn rfl tc_4 c25
              by_cases c29 : p2 = 5
              · skip
                refine lv_tableIn (off := 92) (tgt := 108) hx hb dX11_coat_16 (by rw [c29]; decide) (by rw [c29]; decide) (by rw [c29]; decide) (by decide) ?_
                refine lv_aload_n hx hb dX11_coat_108 rfl (lv_at hl 0 rfl) ?_
                refine lv_iload_n hx hb dX11_coat_109 rfl (lv_at hl 1 rfl) ?_
                refine cbVi (n := 1) (rest := []) hx hb hml hown hts hE hP hD hS hA (sY_X11_wearer_1 0 l dC dI cy y0 r p1 v5 f6 w7 g8 hIv5 hCf6 hRf6 ) k_1775 k_1777 k_76 k_114 k_1778 hd_yX11_wearer ⟨Nat.le_of_ble_eq_true rfl, Nat.le_of_ble_eq_true rfl⟩ 0 11 rfl rfl (rfl) hl.1 rfl (Nat.le_of_ble_eq_true rfl) dX11_coat_110 (fun r30 u H locs hw hP hD hS => ?_)
                have hG31 := hw
                exact ret r30 (v5, f6, w7, g8) _ _ _ _ _ _ rfl ⟨hM_v5, hA_f6, hIv5, hCf6, hRf6, hk0_v5, hk1_v5, hk2_v5, hk3_v5, hk4_v5, hk5_v5, hk8_v5, hk9_v5, hk10_v5, hk13_v5, hk14_v5, hk15_v5, hk17_v5, hk18_v5, hk24_v5, hk25_v5, hk35_v5, hk36_v5, hk38_v5, hk39_v5⟩ hP hD hS dX11_coat_113 (Nat.le_refl _) (Nat.le_refl _)
              · skip
                have zc29 : ¬ (p2.toInt = 5) := zEn rfl tc_5 c29
                refine lv_tableOut (tgt := 114) hx hb dX11_coat_16 (by omega) (by decide) ?_
                refine lv_bipush (v := (-2)) hx hb dX11_coat_114 rfl ?_
                exact ret (-2) (v5, f6, w7, g8) _ _ _ _ _ _ rfl ⟨hM_v5, hA_f6, hIv5, hCf6, hRf6, hk0_v5, hk1_v5, hk2_v5, hk3_v5, hk4_v5, hk5_v5, hk8_v5, hk9_v5, hk10_v5, hk13_v5, hk14_v5, hk15_v5, hk17_v5, hk18_v5, hk24_v5, hk25_v5, hk35_v5, hk36_v5, hk38_v5, hk39_v5⟩ hP hD hS dX11_coat_116 (Nat.le_refl _) (Nat.le_refl _)
  · skip
    subst g3
    refine lv_if_ne (tgt := 11) hx hb dX11_coat_5 rfl (fun c0 => absurd (by decide) c0) (fun _ => ?_)
    refine lv_bipush (v := (-2)) hx hb dX11_coat_8 rfl ?_
    exact ret (-2) (v, f, w, g) _ _ _ _ _ _ rfl ⟨hM_v, hA_f, hIv, hCf, hRf, rfl, rfl, rfl, rfl, rfl, rfl, rfl, rfl, rfl, rfl, rfl, rfl, rfl, rfl, rfl, rfl, rfl, rfl, rfl, rfl⟩ hP hD hS dX11_coat_10 (Nat.le_refl _) (Nat.le_refl _)
set_option maxHeartbeats 4000000 in
set_option maxRecDepth 100000 in
theorem sY_X11_will_1 (l : Launch) (dC : Nat → ClassId) (dI : Nat → Nat → Nat) (cy : Nat → ClassId) (y0 : Nat) (r : Nat → Nat) (p1 : Int32) (p2 : Int32) (p3 : Int32) (v : Nat → Int32) (f : Nat → Nat → Int32) (w : Int64) (g : Nat → Int64) (hIv : YI v) (hCf : YC f) (hRf : progOK (f 4) (f 5) (v 9).toInt.toNat)  : ctI l (dC, dI) cy yX11_will cX11_will 5 .int 8 214 0 0 ((Nat → Int32) × (Nat → Nat → Int32) × (Int64) × (Nat → Int64)) [.ref y0, .int p1, .int p2, .int p3] (YW cy y0 r v f w g) (fun r u => KV [] u.1 v ∧ KF [7, 8, 24] u.2.1 f ∧ YI u.1 ∧ YC u.2.1 ∧ progOK (u.2.1 4) (u.2.1 5) (u.1 9).toInt.toNat ∧ u.1 0 = v 0 ∧ u.1 1 = v 1 ∧ u.1 2 = v 2 ∧ u.1 3 = v 3 ∧ u.1 4 = v 4 ∧ u.1 5 = v 5 ∧ u.1 8 = v 8 ∧ u.1 9 = v 9 ∧ u.1 10 = v 10 ∧ u.1 13 = v 13 ∧ u.1 14 = v 14 ∧ u.1 15 = v 15 ∧ u.1 17 = v 17 ∧ u.1 18 = v 18 ∧ u.1 24 = v 24 ∧ u.1 25 = v 25 ∧ u.1 35 = v 35 ∧ u.1 36 = v 36 ∧ u.1 38 = v 38 ∧ u.1 39 = v 39) (fun u => YW cy y0 r u.1 u.2.1 u.2.2.1 u.2.2.2) := by
  refine ctI_of (by decide) (Nat.le_of_ble_eq_true rfl) (fun p e s m below meth c A ls Q hx hb hml hts hown hE hP hD hA hl ret => ?_)
  have hM_v : KV [] v v := fun _ _ => rfl
  have hA_f : KF [7, 8, 24] f f := fun _ _ => rfl
  have hown : s.vm.findClass RX11 = some m.cls := hown
  have hS : va_S A s.heap s.heap [] := va_S.rf
  have hl : lv_has ls 5 [(0, .ref y0), (1, .int p1), (2, .int p2), (3, .int p3)] := hl
  refine lv_aload_n hx hb dX11_will_0 rfl (lv_at hl 0 rfl) ?_
  refine lv_iload_n hx hb dX11_will_1 rfl (lv_at hl 1 rfl) ?_
  refine cbVi (n := 1) (rest := []) hx hb hml hown hts hE hP hD hS hA (sY_X11_isMan_1 0 l dC dI cy y0 r p1 v f w g hIv hCf hRf ) k_1732 k_1734 k_70 k_114 k_1735 hd_yX11_isMan ⟨Nat.le_of_ble_eq_true rfl, Nat.le_of_ble_eq_true rfl⟩ 0 11 rfl rfl (rfl) hl.1 rfl (Nat.le_of_ble_eq_true rfl) dX11_will_2 (fun r1 u H locs hw hP hD hS => ?_)
  obtain ⟨hG2, hw⟩ := hw
  rcases hw with ⟨g3, g3_0, g3_1, g3_2⟩ | ⟨g3⟩
  · skip
    subst g3
    refine lv_if_eq (tgt := 27) hx hb dX11_will_5 rfl (fun c0 => absurd c0 (by decide)) (fun _ => ?_)
    refine lv_iload_n hx hb dX11_will_8 rfl (lv_at hl 2 rfl) ?_
    refine lv_iconst (v := 0) hx hb dX11_will_9 rfl ?_
    refine lv_bipush (v := 60) hx hb dX11_will_10 rfl ?_
    refine cbSi (n := 3) (rest := []) hx hb hml hown hts hE hP hD hS hA (sY_X11_isIn_1 0 l dC dI cy y0 r p2 0 60 v f w g hIv hCf hRf ) k_1736 k_1737 k_114 k_1738 he_yX11_isIn ⟨Nat.le_of_ble_eq_true rfl, Nat.le_of_ble_eq_true rfl⟩ (rfl) hl.1 rfl (Nat.le_of_ble_eq_true rfl) dX11_will_12 (fun r6 u H locs hw hP hD hS => ?_)
    obtain ⟨hG7, hw⟩ := hw
    rcases hw with ⟨g8, g8_0, g8_1⟩ | ⟨g8⟩
    · skip
      subst g8
      refine lv_if_eq (tgt := 27) hx hb dX11_will_15 rfl (fun c0 => absurd c0 (by decide)) (fun _ => ?_)
      refine lv_iload_n hx hb dX11_will_18 rfl (lv_at hl 3 rfl) ?_
      refine lv_iconst (v := 0) hx hb dX11_will_19 rfl ?_
      refine lv_iconst (v := 1) hx hb dX11_will_20 rfl ?_
      refine cbSi (n := 3) (rest := []) hx hb hml hown hts hE hP hD hS hA (sY_X11_isIn_1 0 l dC dI cy y0 r p3 0 1 v f w g hIv hCf hRf ) k_1736 k_1737 k_114 k_1738 he_yX11_isIn ⟨Nat.le_of_ble_eq_true rfl, Nat.le_of_ble_eq_true rfl⟩ (rfl) hl.1 rfl (Nat.le_of_ble_eq_true rfl) dX11_will_21 (fun r10 u H locs hw hP hD hS => ?_)
      obtain ⟨hG11, hw⟩ := hw
      rcases hw with ⟨g12, g12_0, g12_1⟩ | ⟨g12⟩
      · skip
        subst g12
        refine lv_if_ne (tgt := 30) hx hb dX11_will_24 rfl (fun _ => ?_) (fun c0 => absurd c0 (by decide))
        refine lv_aload_n hx hb dX11_will_30 rfl (lv_at hl 0 rfl) ?_
        refine cbVv (n := 0) (rest := []) hx hb hml hown hts hE hP hD hS hA (sY_X11_fill_1 0 l dC dI cy y0 r  v f w g hIv hCf hRf ) k_1739 k_1741 k_71 k_114 k_1742 hd_yX11_fill ⟨Nat.le_of_ble_eq_true rfl, Nat.le_of_ble_eq_true rfl⟩ 0 11 rfl rfl (rfl) hl.1 rfl (Nat.le_of_ble_eq_true rfl) dX11_will_31 (fun u H locs hw hP hD hS => ?_)
        obtain ⟨hG13, hw⟩ := hw
        obtain ⟨v14, f15, w16, g17⟩ := u
        obtain ⟨kV_v14, kF_f15, hIv14, hCf15, hRf15, hk0_v14, hk1_v14, hk2_v14, hk3_v14, hk4_v14, hk5_v14, hk8_v14, hk9_v14, hk10_v14, hk13_v14, hk14_v14, hk15_v14, hk17_v14, hk18_v14, hk24_v14, hk25_v14, hk35_v14, hk36_v14, hk38_v14, hk39_v14⟩ := hw
        have hM_v14 : KV [] v14 v := KV.tr kV_v14 hM_v rfl
        have hA_f15 : KF [7, 8, 24] f15 f := KF.tr kF_f15 hA_f rfl
        have hP : va_P (dC, dI) vwCl (YW cy y0 r v14 f15 w16 g17) H := hP
        have hD : va_D A (YW cy y0 r v14 f15 w16 g17) := hD
        have hq0_v14 : v14 0 = (v 0) := hk0_v14
        have hq1_v14 : v14 1 = (v 1) := hk1_v14
        have hq2_v14 : v14 2 = (v 2) := hk2_v14
        have hq3_v14 : v14 3 = (v 3) := hk3_v14
        have hq4_v14 : v14 4 = (v 4) := hk4_v14
        have hq5_v14 : v14 5 = (v 5) := hk5_v14
        have hq8_v14 : v14 8 = (v 8) := hk8_v14
        have hq9_v14 : v14 9 = (v 9) := hk9_v14
        have hq10_v14 : v14 10 = (v 10) := hk10_v14
        have hq13_v14 : v14 13 = (v 13) := hk13_v14
        have hq14_v14 : v14 14 = (v 14) := hk14_v14
        have hq15_v14 : v14 15 = (v 15) := hk15_v14
        have hq17_v14 : v14 17 = (v 17) := hk17_v14
        have hq18_v14 : v14 18 = (v 18) := hk18_v14
        have hq24_v14 : v14 24 = (v 24) := hk24_v14
        have hq25_v14 : v14 25 = (v 25) := hk25_v14
        have hq35_v14 : v14 35 = (v 35) := hk35_v14
        have hq36_v14 : v14 36 = (v 36) := hk36_v14
        have hq38_v14 : v14 38 = (v 38) := hk38_v14
        have hq39_v14 : v14 39 = (v 39) := hk39_v14
        refine lv_iconst (v := 0) hx hb dX11_will_34 rfl ?_
        refine lv_istore (lv' := [(4, .int 0), (0, .ref y0), (1, .int p1), (2, .int p2), (3, .int p3)]) hx hb dX11_will_35 hl (Nat.le_of_ble_eq_true rfl) rfl (fun ls hl => ?_)
        have lp18 : ∀ (n18 : Nat) (l4_18 : Int32) (v18 : Nat → Int32) (f18 : Nat → Nat → Int32) (w18 : Int64) (g18 : Nat → Int64), YI v18 → YC f18 → progOK (f18 4) (f18 5) (v18 9).toInt.toNat → v18 0 = (v 0) → v18 1 = (v 1) → v18 2 = (v 2) → v18 3 = (v 3) → v18 4 = (v 4) → v18 5 = (v 5) → v18 8 = (v 8) → v18 9 = (v 9) → v18 10 = (v 10) → v18 13 = (v 13) → v18 14 = (v 14) → v18 15 = (v 15) → v18 17 = (v 17) → v18 18 = (v 18) → v18 24 = (v 24) → v18 25 = (v 25) → v18 35 = (v 35) → v18 36 = (v 36) → v18 38 = (v 38) → v18 39 = (v 39) → ((0 : Int) ≤ l4_18.toInt ∧ l4_18.toInt ≤ 2147483647) → KV [] v18 v → KF [7, 8, 24] f18 f → (2147483647 - l4_18.toInt).toNat < n18 → ∀ (H : Heap) (locs : List Loc) (ls : Array Slot), va_P (dC, dI) vwCl (YW cy y0 r v18 f18 w18 g18) H → va_D A (YW cy y0 r v18 f18 w18 g18) → va_S A s.heap H locs → lv_has ls 5 [(4, .int l4_18), (0, .ref y0), (1, .int p1), (2, .int p2), (3, .int p3)] → W p l e { frames := 8, cells := 0, slots := 0, locals := 214 } s m ([.ref y0, .int p1, .int p2, .int p3] : List Value).toArray below meth c H locs 0 0 Q (F0 m 37 ls []) := by
          intro n18
          induction n18 with
          | zero => intro l4_18 v18 f18 w18 g18 hIv18 hCf18 hRf18 hq0_v18 hq1_v18 hq2_v18 hq3_v18 hq4_v18 hq5_v18 hq8_v18 hq9_v18 hq10_v18 hq13_v18 hq14_v18 hq15_v18 hq17_v18 hq18_v18 hq24_v18 hq25_v18 hq35_v18 hq36_v18 hq38_v18 hq39_v18 hr4_18 hM_v18 hA_f18 hm; exact absurd hm (Nat.not_lt_zero _)
          | succ n18 ih18 =>
            intro l4_18 v18 f18 w18 g18 hIv18 hCf18 hRf18 hq0_v18 hq1_v18 hq2_v18 hq3_v18 hq4_v18 hq5_v18 hq8_v18 hq9_v18 hq10_v18 hq13_v18 hq14_v18 hq15_v18 hq17_v18 hq18_v18 hq24_v18 hq25_v18 hq35_v18 hq36_v18 hq38_v18 hq39_v18 hr4_18 hM_v18 hA_f18 hm18 H locs ls hP hD hS hl
            refine lv_iload hx hb dX11_will_37 (lv_at hl 0 rfl) ?_
            refine lv_iload_n hx hb dX11_will_39 rfl (lv_at hl 3 rfl) ?_
            refine lv_icmp_ge (tgt := 71) hx hb dX11_will_40 rfl (fun c19 => ?_) (fun c19 => ?_)
            · skip
              refine lv_aload_n hx hb dX11_will_71 rfl (lv_at hl 1 rfl) ?_
              refine va_get (D := (dC, dI)) (ci := 11) (v := .ref (r 60)) (C := RX11) (T := TX11) (N := 79) hx hb hts inB_11 hown hE.1 hP 0 rfl rfl 60 (Nat.le_of_ble_eq_true rfl) (hts _ k_1380) (fun _ h9 => h9) rfl dX11_will_72 ?_
              refine lv_bipush (v := 6) hx hb dX11_will_75 rfl ?_
              refine lv_iload_n hx hb dX11_will_77 rfl (lv_at hl 2 rfl) ?_
              refine lv_iadd hx hb dX11_will_78 ?_
              refine lv_topi (fun t22 et22 => ?_)
              have zt22 : t22.toInt = 6 + p1.toInt := (congrArg Int32.toInt et22).trans (add_i tc_6 rfl (om_183 g3_0) (om_184 g3_2))
              refine ldI hx hb hE hP 25 rfl (vpI (k := 39) rfl (show 0 ≤ t22.toInt from om_185 g3_0 zt22) (show t22.toInt < 39 from om_606 g3_2 zt22)) rfl rfl dX11_will_79 ?_
              refine lv_topi (fun t24 et24 => ?_)
              exact ret t24 (v18, f18, w18, g18) _ _ _ _ _ _ rfl ⟨hM_v18, hA_f18, hIv18, hCf18, hRf18, hq0_v18, hq1_v18, hq2_v18, hq3_v18, hq4_v18, hq5_v18, hq8_v18, hq9_v18, hq10_v18, hq13_v18, hq14_v18, hq15_v18, hq17_v18, hq18_v18, hq24_v18, hq25_v18, hq35_v18, hq36_v18, hq38_v18, hq39_v18⟩ hP hD hS dX11_will_80 (Nat.le_refl _) (Nat.le_refl _)
            · skip
              have zc19 : ¬ (p2.toInt ≤ l4_18.toInt) := zMn rfl rfl c19
              refine lv_aload_n hx hb dX11_will_43 rfl (lv_at hl 1 rfl) ?_
              refine lv_iload_n hx hb dX11_will_44 rfl (lv_at hl 4 rfl) ?_
              refine lv_iconst (v := 1) hx hb dX11_will_45 rfl ?_
              refine lv_icmp_ne (tgt := 60) hx hb dX11_will_46 rfl (fun c27 => ?_) (fun c27 => ?_)
              · skip
                refine lv_iconst (v := 0) hx hb dX11_will_60 rfl ?_
                refine cbVi (n := 1) (rest := []) hx hb hml hown hts hE hP hD hS hA (sY_X11_goDay_1 0 l dC dI cy y0 r 0 v18 f18 w18 g18 hIv18 hCf18 hRf18 ) k_1795 k_1797 k_79 k_114 k_1798 hd_yX11_goDay ⟨Nat.le_of_ble_eq_true rfl, Nat.le_of_ble_eq_true rfl⟩ 0 11 rfl rfl (rfl) hl.1 rfl (Nat.le_of_ble_eq_true rfl) dX11_will_61 (fun r28 u H locs hw hP hD hS => ?_)
                obtain ⟨hG29, hw⟩ := hw
                obtain ⟨v30, f31, w32, g33⟩ := u
                obtain ⟨kV_v30, kF_f31, hIv30, hCf31, hRf31, hk0_v30, hk1_v30, hk2_v30, hk3_v30, hk4_v30, hk5_v30, hk8_v30, hk9_v30, hk10_v30, hk13_v30, hk14_v30, hk15_v30, hk17_v30, hk18_v30, hk24_v30, hk25_v30, hk35_v30, hk36_v30, hk38_v30, hk39_v30⟩ := hw
                have hM_v30 : KV [] v30 v := KV.tr kV_v30 hM_v18 rfl
                have hA_f31 : KF [7, 8, 24] f31 f := KF.tr kF_f31 hA_f18 rfl
                have hP : va_P (dC, dI) vwCl (YW cy y0 r v30 f31 w32 g33) H := hP
                have hD : va_D A (YW cy y0 r v30 f31 w32 g33) := hD
                have hq0_v30 : v30 0 = (v 0) := hk0_v30.trans hq0_v18
                have hq1_v30 : v30 1 = (v 1) := hk1_v30.trans hq1_v18
                have hq2_v30 : v30 2 = (v 2) := hk2_v30.trans hq2_v18
                have hq3_v30 : v30 3 = (v 3) := hk3_v30.trans hq3_v18
                have hq4_v30 : v30 4 = (v 4) := hk4_v30.trans hq4_v18
                have hq5_v30 : v30 5 = (v 5) := hk5_v30.trans hq5_v18
                have hq8_v30 : v30 8 = (v 8) := hk8_v30.trans hq8_v18
                have hq9_v30 : v30 9 = (v 9) := hk9_v30.trans hq9_v18
                have hq10_v30 : v30 10 = (v 10) := hk10_v30.trans hq10_v18
                have hq13_v30 : v30 13 = (v 13) := hk13_v30.trans hq13_v18
                have hq14_v30 : v30 14 = (v 14) := hk14_v30.trans hq14_v18
                have hq15_v30 : v30 15 = (v 15) := hk15_v30.trans hq15_v18
                have hq17_v30 : v30 17 = (v 17) := hk17_v30.trans hq17_v18
                have hq18_v30 : v30 18 = (v 18) := hk18_v30.trans hq18_v18
                have hq24_v30 : v30 24 = (v 24) := hk24_v30.trans hq24_v18
                have hq25_v30 : v30 25 = (v 25) := hk25_v30.trans hq25_v18
                have hq35_v30 : v30 35 = (v 35) := hk35_v30.trans hq35_v18
                have hq36_v30 : v30 36 = (v 36) := hk36_v30.trans hq36_v18
                have hq38_v30 : v30 38 = (v 38) := hk38_v30.trans hq38_v18
                have hq39_v30 : v30 39 = (v 39) := hk39_v30.trans hq39_v18
                refine lv_pop hx hb dX11_will_64 rfl ?_
                obtain ⟨t34, et34⟩ : ∃ y : Int32, y = l4_18 + 1 := ⟨_, rfl⟩
                have zt34 : t34.toInt = l4_18.toInt + 1 := (congrArg Int32.toInt et34).trans (add_i rfl tc_1 (om_41 hr4_18) (om_673 g8_1 zc19 tc_60))
                refine lv_iinc (v := t34) (lv' := [(4, .int t34), (0, .ref y0), (1, .int p1), (2, .int p2), (3, .int p3)]) hx hb dX11_will_65 hl (k := 0) rfl et34.symm (Nat.le_of_ble_eq_true rfl) rfl (fun ls hl => ?_)
                refine lv_goto (tgt := 37) hx hb dX11_will_68 rfl ?_
                have rg35 := fb_rng t34
                exact ih18 t34 v30 f31 w32 g33 hIv30 hCf31 hRf31 hq0_v30 hq1_v30 hq2_v30 hq3_v30 hq4_v30 hq5_v30 hq8_v30 hq9_v30 hq10_v30 hq13_v30 hq14_v30 hq15_v30 hq17_v30 hq18_v30 hq24_v30 hq25_v30 hq35_v30 hq36_v30 hq38_v30 hq39_v30 ⟨show (0 : Int) ≤ t34.toInt from om_43 hr4_18 zt34, show t34.toInt ≤ (2147483647 : Int) from om_44 rg35⟩ hM_v30 hA_f31 (show (2147483647 - t34.toInt).toNat < n18 from om_33 hm18 zt34 rg35) _ _ _ hP hD hS (lv_sub hl [0, 1, 2, 3, 4] rfl)
              · skip
                refine lv_aload_n hx hb dX11_will_49 rfl (lv_at hl 1 rfl) ?_
                refine cbVi (n := 0) (rest := [.ref y0]) hx hb hml hown hts hE hP hD hS hA (sY_X11_drawRain_1 0 l dC dI cy y0 r  v18 f18 w18 g18 hIv18 hCf18 hRf18 ) k_1791 k_1793 k_78 k_114 k_1794 hd_yX11_drawRain ⟨Nat.le_of_ble_eq_true rfl, Nat.le_of_ble_eq_true rfl⟩ 0 11 rfl rfl (rfl) hl.1 rfl (Nat.le_of_ble_eq_true rfl) dX11_will_50 (fun r36 u H locs hw hP hD hS => ?_)
                obtain ⟨hG37, hw⟩ := hw
                obtain ⟨v38, f39, w40, g41⟩ := u
                obtain ⟨kV_v38, kF_f39, hIv38, hCf39, hRf39, hk0_v38, hk1_v38, hk2_v38, hk3_v38, hk4_v38, hk5_v38, hk8_v38, hk9_v38, hk10_v38, hk13_v38, hk14_v38, hk15_v38, hk17_v38, hk18_v38, hk24_v38, hk25_v38, hk35_v38, hk36_v38, hk38_v38, hk39_v38, hw⟩ := hw
                have hM_v38 : KV [] v38 v := KV.tr kV_v38 hM_v18 rfl
                have hA_f39 : KF [7, 8, 24] f39 f := KF.tr kF_f39 hA_f18 rfl
                have hP : va_P (dC, dI) vwCl (YW cy y0 r v38 f39 w40 g41) H := hP
                have hD : va_D A (YW cy y0 r v38 f39 w40 g41) := hD
                have hq0_v38 : v38 0 = (v 0) := hk0_v38.trans hq0_v18
                have hq1_v38 : v38 1 = (v 1) := hk1_v38.trans hq1_v18
                have hq2_v38 : v38 2 = (v 2) := hk2_v38.trans hq2_v18
                have hq3_v38 : v38 3 = (v 3) := hk3_v38.trans hq3_v18
                have hq4_v38 : v38 4 = (v 4) := hk4_v38.trans hq4_v18
                have hq5_v38 : v38 5 = (v 5) := hk5_v38.trans hq5_v18
                have hq8_v38 : v38 8 = (v 8) := hk8_v38.trans hq8_v18
                have hq9_v38 : v38 9 = (v 9) := hk9_v38.trans hq9_v18
                have hq10_v38 : v38 10 = (v 10) := hk10_v38.trans hq10_v18
                have hq13_v38 : v38 13 = (v 13) := hk13_v38.trans hq13_v18
                have hq14_v38 : v38 14 = (v 14) := hk14_v38.trans hq14_v18
                have hq15_v38 : v38 15 = (v 15) := hk15_v38.trans hq15_v18
                have hq17_v38 : v38 17 = (v 17) := hk17_v38.trans hq17_v18
                have hq18_v38 : v38 18 = (v 18) := hk18_v38.trans hq18_v18
                have hq24_v38 : v38 24 = (v 24) := hk24_v38.trans hq24_v18
                have hq25_v38 : v38 25 = (v 25) := hk25_v38.trans hq25_v18
                have hq35_v38 : v38 35 = (v 35) := hk35_v38.trans hq35_v18
                have hq36_v38 : v38 36 = (v 36) := hk36_v38.trans hq36_v18
                have hq38_v38 : v38 38 = (v 38) := hk38_v38.trans hq38_v18
                have hq39_v38 : v38 39 = (v 39) := hk39_v38.trans hq39_v18
                rcases hw with ⟨g42⟩ | ⟨g42⟩
                · skip
                  subst g42
                  refine lv_if_eq (tgt := 60) hx hb dX11_will_53 rfl (fun c0 => absurd c0 (by decide)) (fun _ => ?_)
                  refine lv_iconst (v := 1) hx hb dX11_will_56 rfl ?_
                  refine lv_goto (tgt := 61) hx hb dX11_will_57 rfl ?_
                  refine cbVi (n := 1) (rest := []) hx hb hml hown hts hE hP hD hS hA (sY_X11_goDay_1 0 l dC dI cy y0 r 1 v38 f39 w40 g41 hIv38 hCf39 hRf39 ) k_1795 k_1797 k_79 k_114 k_1798 hd_yX11_goDay ⟨Nat.le_of_ble_eq_true rfl, Nat.le_of_ble_eq_true rfl⟩ 0 11 rfl rfl (rfl) hl.1 rfl (Nat.le_of_ble_eq_true rfl) dX11_will_61 (fun r43 u H locs hw hP hD hS => ?_)
                  obtain ⟨hG44, hw⟩ := hw
                  obtain ⟨v45, f46, w47, g48⟩ := u
                  obtain ⟨kV_v45, kF_f46, hIv45, hCf46, hRf46, hk0_v45, hk1_v45, hk2_v45, hk3_v45, hk4_v45, hk5_v45, hk8_v45, hk9_v45, hk10_v45, hk13_v45, hk14_v45, hk15_v45, hk17_v45, hk18_v45, hk24_v45, hk25_v45, hk35_v45, hk36_v45, hk38_v45, hk39_v45⟩ := hw
                  have hM_v45 : KV [] v45 v := KV.tr kV_v45 hM_v38 rfl
                  have hA_f46 : KF [7, 8, 24] f46 f := KF.tr kF_f46 hA_f39 rfl
                  have hP : va_P (dC, dI) vwCl (YW cy y0 r v45 f46 w47 g48) H := hP
                  have hD : va_D A (YW cy y0 r v45 f46 w47 g48) := hD
                  have hq0_v45 : v45 0 = (v 0) := hk0_v45.trans hq0_v38
                  have hq1_v45 : v45 1 = (v 1) := hk1_v45.trans hq1_v38
                  have hq2_v45 : v45 2 = (v 2) := hk2_v45.trans hq2_v38
                  have hq3_v45 : v45 3 = (v 3) := hk3_v45.trans hq3_v38
                  have hq4_v45 : v45 4 = (v 4) := hk4_v45.trans hq4_v38
                  have hq5_v45 : v45 5 = (v 5) := hk5_v45.trans hq5_v38
                  have hq8_v45 : v45 8 = (v 8) := hk8_v45.trans hq8_v38
                  have hq9_v45 : v45 9 = (v 9) := hk9_v45.trans hq9_v38
                  have hq10_v45 : v45 10 = (v 10) := hk10_v45.trans hq10_v38
                  have hq13_v45 : v45 13 = (v 13) := hk13_v45.trans hq13_v38
                  have hq14_v45 : v45 14 = (v 14) := hk14_v45.trans hq14_v38
                  have hq15_v45 : v45 15 = (v 15) := hk15_v45.trans hq15_v38
                  have hq17_v45 : v45 17 = (v 17) := hk17_v45.trans hq17_v38
                  have hq18_v45 : v45 18 = (v 18) := hk18_v45.trans hq18_v38
                  have hq24_v45 : v45 24 = (v 24) := hk24_v45.trans hq24_v38
                  have hq25_v45 : v45 25 = (v 25) := hk25_v45.trans hq25_v38
                  have hq35_v45 : v45 35 = (v 35) := hk35_v45.trans hq35_v38
                  have hq36_v45 : v45 36 = (v 36) := hk36_v45.trans hq36_v38
                  have hq38_v45 : v45 38 = (v 38) := hk38_v45.trans hq38_v38
                  have hq39_v45 : v45 39 = (v 39) := hk39_v45.trans hq39_v38
                  refine lv_pop hx hb dX11_will_64 rfl ?_
                  obtain ⟨t49, et49⟩ : ∃ y : Int32, y = l4_18 + 1 := ⟨_, rfl⟩
                  have zt49 : t49.toInt = l4_18.toInt + 1 := (congrArg Int32.toInt et49).trans (add_i rfl tc_1 (om_41 hr4_18) (om_673 g8_1 zc19 tc_60))
                  refine lv_iinc (v := t49) (lv' := [(4, .int t49), (0, .ref y0), (1, .int p1), (2, .int p2), (3, .int p3)]) hx hb dX11_will_65 hl (k := 0) rfl et49.symm (Nat.le_of_ble_eq_true rfl) rfl (fun ls hl => ?_)
                  refine lv_goto (tgt := 37) hx hb dX11_will_68 rfl ?_
                  have rg50 := fb_rng t49
                  exact ih18 t49 v45 f46 w47 g48 hIv45 hCf46 hRf46 hq0_v45 hq1_v45 hq2_v45 hq3_v45 hq4_v45 hq5_v45 hq8_v45 hq9_v45 hq10_v45 hq13_v45 hq14_v45 hq15_v45 hq17_v45 hq18_v45 hq24_v45 hq25_v45 hq35_v45 hq36_v45 hq38_v45 hq39_v45 ⟨show (0 : Int) ≤ t49.toInt from om_43 hr4_18 zt49, show t49.toInt ≤ (2147483647 : Int) from om_44 rg50⟩ hM_v45 hA_f46 (show (2147483647 - t49.toInt).toNat < n18 from om_33 hm18 zt49 rg50) _ _ _ hP hD hS (lv_sub hl [0, 1, 2, 3, 4] rfl)
                · skip
                  subst g42
                  refine lv_if_eq (tgt := 60) hx hb dX11_will_53 rfl (fun _ => ?_) (fun c0 => absurd (by decide) c0)
                  refine lv_iconst (v := 0) hx hb dX11_will_60 rfl ?_
                  refine cbVi (n := 1) (rest := []) hx hb hml hown hts hE hP hD hS hA (sY_X11_goDay_1 0 l dC dI cy y0 r 0 v38 f39 w40 g41 hIv38 hCf39 hRf39 ) k_1795 k_1797 k_79 k_114 k_1798 hd_yX11_goDay ⟨Nat.le_of_ble_eq_true rfl, Nat.le_of_ble_eq_true rfl⟩ 0 11 rfl rfl (rfl) hl.1 rfl (Nat.le_of_ble_eq_true rfl) dX11_will_61 (fun r51 u H locs hw hP hD hS => ?_)
                  obtain ⟨hG52, hw⟩ := hw
                  obtain ⟨v53, f54, w55, g56⟩ := u
                  obtain ⟨kV_v53, kF_f54, hIv53, hCf54, hRf54, hk0_v53, hk1_v53, hk2_v53, hk3_v53, hk4_v53, hk5_v53, hk8_v53, hk9_v53, hk10_v53, hk13_v53, hk14_v53, hk15_v53, hk17_v53, hk18_v53, hk24_v53, hk25_v53, hk35_v53, hk36_v53, hk38_v53, hk39_v53⟩ := hw
                  have hM_v53 : KV [] v53 v := KV.tr kV_v53 hM_v38 rfl
                  have hA_f54 : KF [7, 8, 24] f54 f := KF.tr kF_f54 hA_f39 rfl
                  have hP : va_P (dC, dI) vwCl (YW cy y0 r v53 f54 w55 g56) H := hP
                  have hD : va_D A (YW cy y0 r v53 f54 w55 g56) := hD
                  have hq0_v53 : v53 0 = (v 0) := hk0_v53.trans hq0_v38
                  have hq1_v53 : v53 1 = (v 1) := hk1_v53.trans hq1_v38
                  have hq2_v53 : v53 2 = (v 2) := hk2_v53.trans hq2_v38
                  have hq3_v53 : v53 3 = (v 3) := hk3_v53.trans hq3_v38
                  have hq4_v53 : v53 4 = (v 4) := hk4_v53.trans hq4_v38
                  have hq5_v53 : v53 5 = (v 5) := hk5_v53.trans hq5_v38
                  have hq8_v53 : v53 8 = (v 8) := hk8_v53.trans hq8_v38
                  have hq9_v53 : v53 9 = (v 9) := hk9_v53.trans hq9_v38
                  have hq10_v53 : v53 10 = (v 10) := hk10_v53.trans hq10_v38
                  have hq13_v53 : v53 13 = (v 13) := hk13_v53.trans hq13_v38
                  have hq14_v53 : v53 14 = (v 14) := hk14_v53.trans hq14_v38
                  have hq15_v53 : v53 15 = (v 15) := hk15_v53.trans hq15_v38
                  have hq17_v53 : v53 17 = (v 17) := hk17_v53.trans hq17_v38
                  have hq18_v53 : v53 18 = (v 18) := hk18_v53.trans hq18_v38
                  have hq24_v53 : v53 24 = (v 24) := hk24_v53.trans hq24_v38
                  have hq25_v53 : v53 25 = (v 25) := hk25_v53.trans hq25_v38
                  have hq35_v53 : v53 35 = (v 35) := hk35_v53.trans hq35_v38
                  have hq36_v53 : v53 36 = (v 36) := hk36_v53.trans hq36_v38
                  have hq38_v53 : v53 38 = (v 38) := hk38_v53.trans hq38_v38
                  have hq39_v53 : v53 39 = (v 39) := hk39_v53.trans hq39_v38
                  refine lv_pop hx hb dX11_will_64 rfl ?_
                  obtain ⟨t57, et57⟩ : ∃ y : Int32, y = l4_18 + 1 := ⟨_, rfl⟩
                  have zt57 : t57.toInt = l4_18.toInt + 1 := (congrArg Int32.toInt et57).trans (add_i rfl tc_1 (om_41 hr4_18) (om_673 g8_1 zc19 tc_60))
                  refine lv_iinc (v := t57) (lv' := [(4, .int t57), (0, .ref y0), (1, .int p1), (2, .int p2), (3, .int p3)]) hx hb dX11_will_65 hl (k := 0) rfl et57.symm (Nat.le_of_ble_eq_true rfl) rfl (fun ls hl => ?_)
                  refine lv_goto (tgt := 37) hx hb dX11_will_68 rfl ?_
                  have rg58 := fb_rng t57
                  exact ih18 t57 v53 f54 w55 g56 hIv53 hCf54 hRf54 hq0_v53 hq1_v53 hq2_v53 hq3_v53 hq4_v53 hq5_v53 hq8_v53 hq9_v53 hq10_v53 hq13_v53 hq14_v53 hq15_v53 hq17_v53 hq18_v53 hq24_v53 hq25_v53 hq35_v53 hq36_v53 hq38_v53 hq39_v53 ⟨show (0 : Int) ≤ t57.toInt from om_43 hr4_18 zt57, show t57.toInt ≤ (2147483647 : Int) from om_44 rg58⟩ hM_v53 hA_f54 (show (2147483647 - t57.toInt).toNat < n18 from om_33 hm18 zt57 rg58) _ _ _ hP hD hS (lv_sub hl [0, 1, 2, 3, 4] rfl)
        exact lp18 _ 0 v14 f15 w16 g17 hIv14 hCf15 hRf15 hq0_v14 hq1_v14 hq2_v14 hq3_v14 hq4_v14 hq5_v14 hq8_v14 hq9_v14 hq10_v14 hq13_v14 hq14_v14 hq15_v14 hq17_v14 hq18_v14 hq24_v14 hq25_v14 hq35_v14 hq36_v14 hq38_v14 hq39_v14 ⟨by decide, by decide⟩ hM_v14 hA_f15 (Nat.lt_succ_self _) _ _ _ hP hD hS (lv_sub hl [0, 1, 2, 3, 4] rfl)
      · skip
        subst g12
        refine lv_if_ne (tgt := 30) hx hb dX11_will_24 rfl (fun c0 => absurd (by decide) c0) (fun _ => ?_)
        refine lv_bipush (v := (-2)) hx hb dX11_will_27 rfl ?_
        exact ret (-2) (v, f, w, g) _ _ _ _ _ _ rfl ⟨hM_v, hA_f, hIv, hCf, hRf, rfl, rfl, rfl, rfl, rfl, rfl, rfl, rfl, rfl, rfl, rfl, rfl, rfl, rfl, rfl, rfl, rfl, rfl, rfl, rfl⟩ hP hD hS dX11_will_29 (Nat.le_refl _) (Nat.le_refl _)
    · skip
      subst g8
      refine lv_if_eq (tgt := 27) hx hb dX11_will_15 rfl (fun _ => ?_) (fun c0 => absurd (by decide) c0)
      refine lv_bipush (v := (-2)) hx hb dX11_will_27 rfl ?_
      exact ret (-2) (v, f, w, g) _ _ _ _ _ _ rfl ⟨hM_v, hA_f, hIv, hCf, hRf, rfl, rfl, rfl, rfl, rfl, rfl, rfl, rfl, rfl, rfl, rfl, rfl, rfl, rfl, rfl, rfl, rfl, rfl, rfl, rfl⟩ hP hD hS dX11_will_29 (Nat.le_refl _) (Nat.le_refl _)
  · skip
    subst g3
    refine lv_if_eq (tgt := 27) hx hb dX11_will_5 rfl (fun _ => ?_) (fun c0 => absurd (by decide) c0)
    refine lv_bipush (v := (-2)) hx hb dX11_will_27 rfl ?_
    exact ret (-2) (v, f, w, g) _ _ _ _ _ _ rfl ⟨hM_v, hA_f, hIv, hCf, hRf, rfl, rfl, rfl, rfl, rfl, rfl, rfl, rfl, rfl, rfl, rfl, rfl, rfl, rfl, rfl, rfl, rfl, rfl, rfl, rfl⟩ hP hD hS dX11_will_29 (Nat.le_refl _) (Nat.le_refl _)
set_option maxHeartbeats 4000000 in
set_option maxRecDepth 100000 in
theorem sY_X11_out_1 (l : Launch) (dC : Nat → ClassId) (dI : Nat → Nat → Nat) (cy : Nat → ClassId) (y0 : Nat) (r : Nat → Nat) (p1 : Int32) (v : Nat → Int32) (f : Nat → Nat → Int32) (w : Int64) (g : Nat → Int64) (hIv : YI v) (hCf : YC f) (hRf : progOK (f 4) (f 5) (v 9).toInt.toNat)  : ctI l (dC, dI) cy yX11_out cX11_out 3 .int 8 214 0 0 ((Nat → Int32) × (Nat → Nat → Int32) × (Int64) × (Nat → Int64)) [.ref y0, .int p1] (YW cy y0 r v f w g) (fun r u => KV [] u.1 v ∧ KF [7, 8, 24] u.2.1 f ∧ YI u.1 ∧ YC u.2.1 ∧ progOK (u.2.1 4) (u.2.1 5) (u.1 9).toInt.toNat ∧ u.1 0 = v 0 ∧ u.1 1 = v 1 ∧ u.1 2 = v 2 ∧ u.1 3 = v 3 ∧ u.1 4 = v 4 ∧ u.1 5 = v 5 ∧ u.1 8 = v 8 ∧ u.1 9 = v 9 ∧ u.1 10 = v 10 ∧ u.1 13 = v 13 ∧ u.1 14 = v 14 ∧ u.1 15 = v 15 ∧ u.1 17 = v 17 ∧ u.1 18 = v 18 ∧ u.1 24 = v 24 ∧ u.1 25 = v 25 ∧ u.1 35 = v 35 ∧ u.1 36 = v 36 ∧ u.1 38 = v 38 ∧ u.1 39 = v 39) (fun u => YW cy y0 r u.1 u.2.1 u.2.2.1 u.2.2.2) := by
  refine ctI_of (by decide) (Nat.le_of_ble_eq_true rfl) (fun p e s m below meth c A ls Q hx hb hml hts hown hE hP hD hA hl ret => ?_)
  have hM_v : KV [] v v := fun _ _ => rfl
  have hA_f : KF [7, 8, 24] f f := fun _ _ => rfl
  have hown : s.vm.findClass RX11 = some m.cls := hown
  have hS : va_S A s.heap s.heap [] := va_S.rf
  have hl : lv_has ls 3 [(0, .ref y0), (1, .int p1)] := hl
  refine lv_aload_n hx hb dX11_out_0 rfl (lv_at hl 0 rfl) ?_
  refine lv_iload_n hx hb dX11_out_1 rfl (lv_at hl 1 rfl) ?_
  refine cbVi (n := 1) (rest := []) hx hb hml hown hts hE hP hD hS hA (sY_X11_isMan_1 0 l dC dI cy y0 r p1 v f w g hIv hCf hRf ) k_1732 k_1734 k_70 k_114 k_1735 hd_yX11_isMan ⟨Nat.le_of_ble_eq_true rfl, Nat.le_of_ble_eq_true rfl⟩ 0 11 rfl rfl (rfl) hl.1 rfl (Nat.le_of_ble_eq_true rfl) dX11_out_2 (fun r1 u H locs hw hP hD hS => ?_)
  obtain ⟨hG2, hw⟩ := hw
  rcases hw with ⟨g3, g3_0, g3_1, g3_2⟩ | ⟨g3⟩
  · skip
    subst g3
    refine lv_if_ne (tgt := 10) hx hb dX11_out_5 rfl (fun _ => ?_) (fun c0 => absurd c0 (by decide))
    refine lv_aload_n hx hb dX11_out_10 rfl (lv_at hl 0 rfl) ?_
    refine cbVv (n := 0) (rest := []) hx hb hml hown hts hE hP hD hS hA (sY_X11_fill_1 0 l dC dI cy y0 r  v f w g hIv hCf hRf ) k_1739 k_1741 k_71 k_114 k_1742 hd_yX11_fill ⟨Nat.le_of_ble_eq_true rfl, Nat.le_of_ble_eq_true rfl⟩ 0 11 rfl rfl (rfl) hl.1 rfl (Nat.le_of_ble_eq_true rfl) dX11_out_11 (fun u H locs hw hP hD hS => ?_)
    obtain ⟨hG4, hw⟩ := hw
    obtain ⟨v5, f6, w7, g8⟩ := u
    obtain ⟨kV_v5, kF_f6, hIv5, hCf6, hRf6, hk0_v5, hk1_v5, hk2_v5, hk3_v5, hk4_v5, hk5_v5, hk8_v5, hk9_v5, hk10_v5, hk13_v5, hk14_v5, hk15_v5, hk17_v5, hk18_v5, hk24_v5, hk25_v5, hk35_v5, hk36_v5, hk38_v5, hk39_v5⟩ := hw
    have hM_v5 : KV [] v5 v := KV.tr kV_v5 hM_v rfl
    have hA_f6 : KF [7, 8, 24] f6 f := KF.tr kF_f6 hA_f rfl
    have hP : va_P (dC, dI) vwCl (YW cy y0 r v5 f6 w7 g8) H := hP
    have hD : va_D A (YW cy y0 r v5 f6 w7 g8) := hD
    have hq0_v5 : v5 0 = (v 0) := hk0_v5
    have hq1_v5 : v5 1 = (v 1) := hk1_v5
    have hq2_v5 : v5 2 = (v 2) := hk2_v5
    have hq3_v5 : v5 3 = (v 3) := hk3_v5
    have hq4_v5 : v5 4 = (v 4) := hk4_v5
    have hq5_v5 : v5 5 = (v 5) := hk5_v5
    have hq8_v5 : v5 8 = (v 8) := hk8_v5
    have hq9_v5 : v5 9 = (v 9) := hk9_v5
    have hq10_v5 : v5 10 = (v 10) := hk10_v5
    have hq13_v5 : v5 13 = (v 13) := hk13_v5
    have hq14_v5 : v5 14 = (v 14) := hk14_v5
    have hq15_v5 : v5 15 = (v 15) := hk15_v5
    have hq17_v5 : v5 17 = (v 17) := hk17_v5
    have hq18_v5 : v5 18 = (v 18) := hk18_v5
    have hq24_v5 : v5 24 = (v 24) := hk24_v5
    have hq25_v5 : v5 25 = (v 25) := hk25_v5
    have hq35_v5 : v5 35 = (v 35) := hk35_v5
    have hq36_v5 : v5 36 = (v 36) := hk36_v5
    have hq38_v5 : v5 38 = (v 38) := hk38_v5
    have hq39_v5 : v5 39 = (v 39) := hk39_v5
    refine lv_iconst (v := 0) hx hb dX11_out_14 rfl ?_
    refine lv_istore_n (lv' := [(2, .int 0), (0, .ref y0), (1, .int p1)]) hx hb dX11_out_15 rfl hl (Nat.le_of_ble_eq_true rfl) rfl (fun ls hl => ?_)
    have lp9 : ∀ (n9 : Nat) (l2_9 : Int32) (v9 : Nat → Int32) (f9 : Nat → Nat → Int32) (w9 : Int64) (g9 : Nat → Int64), YI v9 → YC f9 → progOK (f9 4) (f9 5) (v9 9).toInt.toNat → v9 0 = (v 0) → v9 1 = (v 1) → v9 2 = (v 2) → v9 3 = (v 3) → v9 4 = (v 4) → v9 5 = (v 5) → v9 8 = (v 8) → v9 9 = (v 9) → v9 10 = (v 10) → v9 13 = (v 13) → v9 14 = (v 14) → v9 15 = (v 15) → v9 17 = (v 17) → v9 18 = (v 18) → v9 24 = (v 24) → v9 25 = (v 25) → v9 35 = (v 35) → v9 36 = (v 36) → v9 38 = (v 38) → v9 39 = (v 39) → ((0 : Int) ≤ l2_9.toInt ∧ l2_9.toInt ≤ 2147483647) → KV [] v9 v → KF [7, 8, 24] f9 f → (2147483647 - l2_9.toInt).toNat < n9 → ∀ (H : Heap) (locs : List Loc) (ls : Array Slot), va_P (dC, dI) vwCl (YW cy y0 r v9 f9 w9 g9) H → va_D A (YW cy y0 r v9 f9 w9 g9) → va_S A s.heap H locs → lv_has ls 3 [(2, .int l2_9), (0, .ref y0), (1, .int p1)] → W p l e { frames := 8, cells := 0, slots := 0, locals := 214 } s m ([.ref y0, .int p1] : List Value).toArray below meth c H locs 0 0 Q (F0 m 16 ls []) := by
      intro n9
      induction n9 with
      | zero => intro l2_9 v9 f9 w9 g9 hIv9 hCf9 hRf9 hq0_v9 hq1_v9 hq2_v9 hq3_v9 hq4_v9 hq5_v9 hq8_v9 hq9_v9 hq10_v9 hq13_v9 hq14_v9 hq15_v9 hq17_v9 hq18_v9 hq24_v9 hq25_v9 hq35_v9 hq36_v9 hq38_v9 hq39_v9 hr2_9 hM_v9 hA_f9 hm; exact absurd hm (Nat.not_lt_zero _)
      | succ n9 ih9 =>
        intro l2_9 v9 f9 w9 g9 hIv9 hCf9 hRf9 hq0_v9 hq1_v9 hq2_v9 hq3_v9 hq4_v9 hq5_v9 hq8_v9 hq9_v9 hq10_v9 hq13_v9 hq14_v9 hq15_v9 hq17_v9 hq18_v9 hq24_v9 hq25_v9 hq35_v9 hq36_v9 hq38_v9 hq39_v9 hr2_9 hM_v9 hA_f9 hm9 H locs ls hP hD hS hl
        refine lv_iload_n hx hb dX11_out_16 rfl (lv_at hl 0 rfl) ?_
        refine lv_bipush (v := 60) hx hb dX11_out_17 rfl ?_
        refine lv_icmp_gt (tgt := 48) hx hb dX11_out_19 rfl (fun c10 => ?_) (fun c10 => ?_)
        · skip
          refine lv_iconst (v := (-1)) hx hb dX11_out_48 rfl ?_
          exact ret (-1) (v9, f9, w9, g9) _ _ _ _ _ _ rfl ⟨hM_v9, hA_f9, hIv9, hCf9, hRf9, hq0_v9, hq1_v9, hq2_v9, hq3_v9, hq4_v9, hq5_v9, hq8_v9, hq9_v9, hq10_v9, hq13_v9, hq14_v9, hq15_v9, hq17_v9, hq18_v9, hq24_v9, hq25_v9, hq35_v9, hq36_v9, hq38_v9, hq39_v9⟩ hP hD hS dX11_out_49 (Nat.le_refl _) (Nat.le_refl _)
        · skip
          have zc10 : ¬ (60 < l2_9.toInt) := zLn tc_60 rfl c10
          refine lv_aload_n hx hb dX11_out_22 rfl (lv_at hl 1 rfl) ?_
          refine va_get (D := (dC, dI)) (ci := 11) (v := .ref (r 60)) (C := RX11) (T := TX11) (N := 79) hx hb hts inB_11 hown hE.1 hP 0 rfl rfl 60 (Nat.le_of_ble_eq_true rfl) (hts _ k_1380) (fun _ h9 => h9) rfl dX11_out_23 ?_
          refine lv_bipush (v := 6) hx hb dX11_out_26 rfl ?_
          refine lv_iload_n hx hb dX11_out_28 rfl (lv_at hl 2 rfl) ?_
          refine lv_iadd hx hb dX11_out_29 ?_
          refine lv_topi (fun t11 et11 => ?_)
          have zt11 : t11.toInt = 6 + p1.toInt := (congrArg Int32.toInt et11).trans (add_i tc_6 rfl (om_183 g3_0) (om_184 g3_2))
          refine ldI hx hb hE hP 25 rfl (vpI (k := 39) rfl (show 0 ≤ t11.toInt from om_185 g3_0 zt11) (show t11.toInt < 39 from om_606 g3_2 zt11)) rfl rfl dX11_out_30 ?_
          refine lv_topi (fun t13 et13 => ?_)
          refine lv_if_ge (tgt := 36) hx hb dX11_out_31 rfl (fun c14 => ?_) (fun c14 => ?_)
          · skip
            refine lv_aload_n hx hb dX11_out_36 rfl (lv_at hl 1 rfl) ?_
            refine lv_iconst (v := 0) hx hb dX11_out_37 rfl ?_
            refine cbVi (n := 1) (rest := []) hx hb hml hown hts hE hP hD hS hA (sY_X11_goDay_1 0 l dC dI cy y0 r 0 v9 f9 w9 g9 hIv9 hCf9 hRf9 ) k_1795 k_1797 k_79 k_114 k_1798 hd_yX11_goDay ⟨Nat.le_of_ble_eq_true rfl, Nat.le_of_ble_eq_true rfl⟩ 0 11 rfl rfl (rfl) hl.1 rfl (Nat.le_of_ble_eq_true rfl) dX11_out_38 (fun r15 u H locs hw hP hD hS => ?_)
            obtain ⟨hG16, hw⟩ := hw
            obtain ⟨v17, f18, w19, g20⟩ := u
            obtain ⟨kV_v17, kF_f18, hIv17, hCf18, hRf18, hk0_v17, hk1_v17, hk2_v17, hk3_v17, hk4_v17, hk5_v17, hk8_v17, hk9_v17, hk10_v17, hk13_v17, hk14_v17, hk15_v17, hk17_v17, hk18_v17, hk24_v17, hk25_v17, hk35_v17, hk36_v17, hk38_v17, hk39_v17⟩ := hw
            have hM_v17 : KV [] v17 v := KV.tr kV_v17 hM_v9 rfl
            have hA_f18 : KF [7, 8, 24] f18 f := KF.tr kF_f18 hA_f9 rfl
            have hP : va_P (dC, dI) vwCl (YW cy y0 r v17 f18 w19 g20) H := hP
            have hD : va_D A (YW cy y0 r v17 f18 w19 g20) := hD
            have hq0_v17 : v17 0 = (v 0) := hk0_v17.trans hq0_v9
            have hq1_v17 : v17 1 = (v 1) := hk1_v17.trans hq1_v9
            have hq2_v17 : v17 2 = (v 2) := hk2_v17.trans hq2_v9
            have hq3_v17 : v17 3 = (v 3) := hk3_v17.trans hq3_v9
            have hq4_v17 : v17 4 = (v 4) := hk4_v17.trans hq4_v9
            have hq5_v17 : v17 5 = (v 5) := hk5_v17.trans hq5_v9
            have hq8_v17 : v17 8 = (v 8) := hk8_v17.trans hq8_v9
            have hq9_v17 : v17 9 = (v 9) := hk9_v17.trans hq9_v9
            have hq10_v17 : v17 10 = (v 10) := hk10_v17.trans hq10_v9
            have hq13_v17 : v17 13 = (v 13) := hk13_v17.trans hq13_v9
            have hq14_v17 : v17 14 = (v 14) := hk14_v17.trans hq14_v9
            have hq15_v17 : v17 15 = (v 15) := hk15_v17.trans hq15_v9
            have hq17_v17 : v17 17 = (v 17) := hk17_v17.trans hq17_v9
            have hq18_v17 : v17 18 = (v 18) := hk18_v17.trans hq18_v9
            have hq24_v17 : v17 24 = (v 24) := hk24_v17.trans hq24_v9
            have hq25_v17 : v17 25 = (v 25) := hk25_v17.trans hq25_v9
            have hq35_v17 : v17 35 = (v 35) := hk35_v17.trans hq35_v9
            have hq36_v17 : v17 36 = (v 36) := hk36_v17.trans hq36_v9
            have hq38_v17 : v17 38 = (v 38) := hk38_v17.trans hq38_v9
            have hq39_v17 : v17 39 = (v 39) := hk39_v17.trans hq39_v9
            refine lv_pop hx hb dX11_out_41 rfl ?_
            obtain ⟨t21, et21⟩ : ∃ y : Int32, y = l2_9 + 1 := ⟨_, rfl⟩
            have zt21 : t21.toInt = l2_9.toInt + 1 := (congrArg Int32.toInt et21).trans (add_i rfl tc_1 (om_41 hr2_9) (om_197 zc10))
            refine lv_iinc (v := t21) (lv' := [(2, .int t21), (0, .ref y0), (1, .int p1)]) hx hb dX11_out_42 hl (k := 0) rfl et21.symm (Nat.le_of_ble_eq_true rfl) rfl (fun ls hl => ?_)
            refine lv_goto (tgt := 16) hx hb dX11_out_45 rfl ?_
            have rg23 := fb_rng t21
            exact ih9 t21 v17 f18 w19 g20 hIv17 hCf18 hRf18 hq0_v17 hq1_v17 hq2_v17 hq3_v17 hq4_v17 hq5_v17 hq8_v17 hq9_v17 hq10_v17 hq13_v17 hq14_v17 hq15_v17 hq17_v17 hq18_v17 hq24_v17 hq25_v17 hq35_v17 hq36_v17 hq38_v17 hq39_v17 ⟨show (0 : Int) ≤ t21.toInt from om_43 hr2_9 zt21, show t21.toInt ≤ (2147483647 : Int) from om_44 rg23⟩ hM_v17 hA_f18 (show (2147483647 - t21.toInt).toNat < n9 from om_33 hm9 zt21 rg23) _ _ _ hP hD hS (lv_sub hl [0, 1, 2] rfl)
          · skip
            refine lv_iload_n hx hb dX11_out_34 rfl (lv_at hl 0 rfl) ?_
            exact ret l2_9 (v9, f9, w9, g9) _ _ _ _ _ _ rfl ⟨hM_v9, hA_f9, hIv9, hCf9, hRf9, hq0_v9, hq1_v9, hq2_v9, hq3_v9, hq4_v9, hq5_v9, hq8_v9, hq9_v9, hq10_v9, hq13_v9, hq14_v9, hq15_v9, hq17_v9, hq18_v9, hq24_v9, hq25_v9, hq35_v9, hq36_v9, hq38_v9, hq39_v9⟩ hP hD hS dX11_out_35 (Nat.le_refl _) (Nat.le_refl _)
    exact lp9 _ 0 v5 f6 w7 g8 hIv5 hCf6 hRf6 hq0_v5 hq1_v5 hq2_v5 hq3_v5 hq4_v5 hq5_v5 hq8_v5 hq9_v5 hq10_v5 hq13_v5 hq14_v5 hq15_v5 hq17_v5 hq18_v5 hq24_v5 hq25_v5 hq35_v5 hq36_v5 hq38_v5 hq39_v5 ⟨by decide, by decide⟩ hM_v5 hA_f6 (Nat.lt_succ_self _) _ _ _ hP hD hS (lv_sub hl [0, 1, 2] rfl)
  · skip
    subst g3
    refine lv_if_ne (tgt := 10) hx hb dX11_out_5 rfl (fun c0 => absurd (by decide) c0) (fun _ => ?_)
    refine lv_iconst (v := (-1)) hx hb dX11_out_8 rfl ?_
    exact ret (-1) (v, f, w, g) _ _ _ _ _ _ rfl ⟨hM_v, hA_f, hIv, hCf, hRf, rfl, rfl, rfl, rfl, rfl, rfl, rfl, rfl, rfl, rfl, rfl, rfl, rfl, rfl, rfl, rfl, rfl, rfl, rfl, rfl⟩ hP hD hS dX11_out_9 (Nat.le_refl _) (Nat.le_refl _)
set_option maxHeartbeats 4000000 in
set_option maxRecDepth 100000 in
theorem sY_X11_layIlls_1 (l : Launch) (dC : Nat → ClassId) (dI : Nat → Nat → Nat) (cy : Nat → ClassId) (y0 : Nat) (r : Nat → Nat)  (v : Nat → Int32) (f : Nat → Nat → Int32) (w : Int64) (g : Nat → Int64) (hIv : YI v) (hCf : YC f) (hRf : progOK (f 4) (f 5) (v 9).toInt.toNat)  : ctV l (dC, dI) cy yX11_layIlls cX11_layIlls 3 4 126 0 0 ((Nat → Int32) × (Nat → Nat → Int32) × (Int64) × (Nat → Int64)) [.ref y0] (YW cy y0 r v f w g) (fun u => KV [] u.1 v ∧ KF [7, 8, 24, 28] u.2.1 f ∧ YI u.1 ∧ YC u.2.1 ∧ progOK (u.2.1 4) (u.2.1 5) (u.1 9).toInt.toNat ∧ u.1 0 = v 0 ∧ u.1 1 = v 1 ∧ u.1 2 = v 2 ∧ u.1 3 = v 3 ∧ u.1 4 = v 4 ∧ u.1 5 = v 5 ∧ u.1 8 = v 8 ∧ u.1 9 = v 9 ∧ u.1 10 = v 10 ∧ u.1 13 = v 13 ∧ u.1 14 = v 14 ∧ u.1 15 = v 15 ∧ u.1 17 = v 17 ∧ u.1 18 = v 18 ∧ u.1 24 = v 24 ∧ u.1 25 = v 25 ∧ u.1 35 = v 35 ∧ u.1 36 = v 36 ∧ u.1 38 = v 38 ∧ u.1 39 = v 39) (fun u => YW cy y0 r u.1 u.2.1 u.2.2.1 u.2.2.2) := by
  refine ctV_of (by decide) (Nat.le_of_ble_eq_true rfl) (fun p e s m below meth c A ls Q hx hb hml hts hown hnm hE hP hD hA hl ret => ?_)
  have hM_v : KV [] v v := fun _ _ => rfl
  have hA_f : KF [7, 8, 24, 28] f f := fun _ _ => rfl
  have hown : s.vm.findClass RX11 = some m.cls := hown
  have hS : va_S A s.heap s.heap [] := va_S.rf
  have hl : lv_has ls 3 [(0, .ref y0)] := hl
  refine lv_aload_n hx hb dX11_layIlls_0 rfl (lv_at hl 0 rfl) ?_
  refine cbVv (n := 0) (rest := []) hx hb hml hown hts hE hP hD hS hA (sY_X11_fill_1 0 l dC dI cy y0 r  v f w g hIv hCf hRf ) k_1739 k_1741 k_71 k_114 k_1742 hd_yX11_fill ⟨Nat.le_of_ble_eq_true rfl, Nat.le_of_ble_eq_true rfl⟩ 0 11 rfl rfl (rfl) hl.1 rfl (Nat.le_of_ble_eq_true rfl) dX11_layIlls_1 (fun u H locs hw hP hD hS => ?_)
  obtain ⟨hG1, hw⟩ := hw
  obtain ⟨v2, f3, w4, g5⟩ := u
  obtain ⟨kV_v2, kF_f3, hIv2, hCf3, hRf3, hk0_v2, hk1_v2, hk2_v2, hk3_v2, hk4_v2, hk5_v2, hk8_v2, hk9_v2, hk10_v2, hk13_v2, hk14_v2, hk15_v2, hk17_v2, hk18_v2, hk24_v2, hk25_v2, hk35_v2, hk36_v2, hk38_v2, hk39_v2⟩ := hw
  have hM_v2 : KV [] v2 v := KV.tr kV_v2 hM_v rfl
  have hA_f3 : KF [7, 8, 24, 28] f3 f := KF.tr kF_f3 hA_f rfl
  have hP : va_P (dC, dI) vwCl (YW cy y0 r v2 f3 w4 g5) H := hP
  have hD : va_D A (YW cy y0 r v2 f3 w4 g5) := hD
  have hq0_v2 : v2 0 = (v 0) := hk0_v2
  have hq1_v2 : v2 1 = (v 1) := hk1_v2
  have hq2_v2 : v2 2 = (v 2) := hk2_v2
  have hq3_v2 : v2 3 = (v 3) := hk3_v2
  have hq4_v2 : v2 4 = (v 4) := hk4_v2
  have hq5_v2 : v2 5 = (v 5) := hk5_v2
  have hq8_v2 : v2 8 = (v 8) := hk8_v2
  have hq9_v2 : v2 9 = (v 9) := hk9_v2
  have hq10_v2 : v2 10 = (v 10) := hk10_v2
  have hq13_v2 : v2 13 = (v 13) := hk13_v2
  have hq14_v2 : v2 14 = (v 14) := hk14_v2
  have hq15_v2 : v2 15 = (v 15) := hk15_v2
  have hq17_v2 : v2 17 = (v 17) := hk17_v2
  have hq18_v2 : v2 18 = (v 18) := hk18_v2
  have hq24_v2 : v2 24 = (v 24) := hk24_v2
  have hq25_v2 : v2 25 = (v 25) := hk25_v2
  have hq35_v2 : v2 35 = (v 35) := hk35_v2
  have hq36_v2 : v2 36 = (v 36) := hk36_v2
  have hq38_v2 : v2 38 = (v 38) := hk38_v2
  have hq39_v2 : v2 39 = (v 39) := hk39_v2
  refine lv_iconst (v := 0) hx hb dX11_layIlls_4 rfl ?_
  refine lv_istore_n (lv' := [(1, .int 0), (0, .ref y0)]) hx hb dX11_layIlls_5 rfl hl (Nat.le_of_ble_eq_true rfl) rfl (fun ls hl => ?_)
  have lp6 : ∀ (n6 : Nat) (l1_6 : Int32) (v6 : Nat → Int32) (f6 : Nat → Nat → Int32) (w6 : Int64) (g6 : Nat → Int64), YI v6 → YC f6 → progOK (f6 4) (f6 5) (v6 9).toInt.toNat → v6 0 = (v 0) → v6 1 = (v 1) → v6 2 = (v 2) → v6 3 = (v 3) → v6 4 = (v 4) → v6 5 = (v 5) → v6 8 = (v 8) → v6 9 = (v 9) → v6 10 = (v 10) → v6 13 = (v 13) → v6 14 = (v 14) → v6 15 = (v 15) → v6 17 = (v 17) → v6 18 = (v 18) → v6 24 = (v 24) → v6 25 = (v 25) → v6 35 = (v 35) → v6 36 = (v 36) → v6 38 = (v 38) → v6 39 = (v 39) → ((0 : Int) ≤ l1_6.toInt ∧ l1_6.toInt ≤ 2147483647) → KV [] v6 v → KF [7, 8, 24, 28] f6 f → (2147483647 - l1_6.toInt).toNat < n6 → ∀ (H : Heap) (locs : List Loc) (ls : Array Slot), va_P (dC, dI) vwCl (YW cy y0 r v6 f6 w6 g6) H → va_D A (YW cy y0 r v6 f6 w6 g6) → va_S A s.heap H locs → lv_has ls 3 [(1, .int l1_6), (0, .ref y0)] → W p l e { frames := 4, cells := 0, slots := 0, locals := 126 } s m ([.ref y0] : List Value).toArray below meth c H locs 0 0 Q (F0 m 6 ls []) := by
    intro n6
    induction n6 with
    | zero => intro l1_6 v6 f6 w6 g6 hIv6 hCf6 hRf6 hq0_v6 hq1_v6 hq2_v6 hq3_v6 hq4_v6 hq5_v6 hq8_v6 hq9_v6 hq10_v6 hq13_v6 hq14_v6 hq15_v6 hq17_v6 hq18_v6 hq24_v6 hq25_v6 hq35_v6 hq36_v6 hq38_v6 hq39_v6 hr1_6 hM_v6 hA_f6 hm; exact absurd hm (Nat.not_lt_zero _)
    | succ n6 ih6 =>
      intro l1_6 v6 f6 w6 g6 hIv6 hCf6 hRf6 hq0_v6 hq1_v6 hq2_v6 hq3_v6 hq4_v6 hq5_v6 hq8_v6 hq9_v6 hq10_v6 hq13_v6 hq14_v6 hq15_v6 hq17_v6 hq18_v6 hq24_v6 hq25_v6 hq35_v6 hq36_v6 hq38_v6 hq39_v6 hr1_6 hM_v6 hA_f6 hm6 H locs ls hP hD hS hl
      refine lv_iload_n hx hb dX11_layIlls_6 rfl (lv_at hl 0 rfl) ?_
      refine lv_aload_n hx hb dX11_layIlls_7 rfl (lv_at hl 1 rfl) ?_
      refine va_get (D := (dC, dI)) (ci := 11) (v := .int (v6 24)) (C := RX11) (T := TX11) (N := 79) hx hb hts inB_11 hown hE.1 hP 0 rfl rfl 48 (Nat.le_of_ble_eq_true rfl) (hts _ k_1368) (fun _ h9 => h9) rfl dX11_layIlls_8 ?_
      refine tI (y := (v 24)) hq24_v6 ?_
      have b24_v : 0 ≤ (v 24).toInt ∧ (v 24).toInt ≤ 6 := Yb_24 hIv.1
      refine lv_icmp_ge (tgt := 53) hx hb dX11_layIlls_11 rfl (fun c7 => ?_) (fun c7 => ?_)
      · skip
        exact ret (v6, f6, w6, g6) _ _ _ _ _ _ ⟨hM_v6, hA_f6, hIv6, hCf6, hRf6, hq0_v6, hq1_v6, hq2_v6, hq3_v6, hq4_v6, hq5_v6, hq8_v6, hq9_v6, hq10_v6, hq13_v6, hq14_v6, hq15_v6, hq17_v6, hq18_v6, hq24_v6, hq25_v6, hq35_v6, hq36_v6, hq38_v6, hq39_v6⟩ hP hD hS dX11_layIlls_53 (Nat.le_refl _) (Nat.le_refl _)
      · skip
        have zc7 : ¬ ((v 24).toInt ≤ l1_6.toInt) := zMn rfl rfl c7
        refine lv_iconst (v := 0) hx hb dX11_layIlls_14 rfl ?_
        refine lv_istore_n (lv' := [(2, .int 0), (1, .int l1_6), (0, .ref y0)]) hx hb dX11_layIlls_15 rfl hl (Nat.le_of_ble_eq_true rfl) rfl (fun ls hl => ?_)
        have lp12 : ∀ (n12 : Nat) (l2_12 : Int32) (v12 : Nat → Int32) (f12 : Nat → Nat → Int32) (w12 : Int64) (g12 : Nat → Int64), YI v12 → YC f12 → progOK (f12 4) (f12 5) (v12 9).toInt.toNat → v12 0 = (v 0) → v12 1 = (v 1) → v12 2 = (v 2) → v12 3 = (v 3) → v12 4 = (v 4) → v12 5 = (v 5) → v12 8 = (v 8) → v12 9 = (v 9) → v12 10 = (v 10) → v12 13 = (v 13) → v12 14 = (v 14) → v12 15 = (v 15) → v12 17 = (v 17) → v12 18 = (v 18) → v12 24 = (v 24) → v12 25 = (v 25) → v12 35 = (v 35) → v12 36 = (v 36) → v12 38 = (v 38) → v12 39 = (v 39) → ((0 : Int) ≤ l2_12.toInt ∧ l2_12.toInt ≤ 2147483647) → KV [] v12 v → KF [7, 8, 24, 28] f12 f → (2147483647 - l2_12.toInt).toNat < n12 → ∀ (H : Heap) (locs : List Loc) (ls : Array Slot), va_P (dC, dI) vwCl (YW cy y0 r v12 f12 w12 g12) H → va_D A (YW cy y0 r v12 f12 w12 g12) → va_S A s.heap H locs → lv_has ls 3 [(2, .int l2_12), (1, .int l1_6), (0, .ref y0)] → W p l e { frames := 4, cells := 0, slots := 0, locals := 126 } s m ([.ref y0] : List Value).toArray below meth c H locs 0 0 Q (F0 m 16 ls []) := by
          intro n12
          induction n12 with
          | zero => intro l2_12 v12 f12 w12 g12 hIv12 hCf12 hRf12 hq0_v12 hq1_v12 hq2_v12 hq3_v12 hq4_v12 hq5_v12 hq8_v12 hq9_v12 hq10_v12 hq13_v12 hq14_v12 hq15_v12 hq17_v12 hq18_v12 hq24_v12 hq25_v12 hq35_v12 hq36_v12 hq38_v12 hq39_v12 hr2_12 hM_v12 hA_f12 hm; exact absurd hm (Nat.not_lt_zero _)
          | succ n12 ih12 =>
            intro l2_12 v12 f12 w12 g12 hIv12 hCf12 hRf12 hq0_v12 hq1_v12 hq2_v12 hq3_v12 hq4_v12 hq5_v12 hq8_v12 hq9_v12 hq10_v12 hq13_v12 hq14_v12 hq15_v12 hq17_v12 hq18_v12 hq24_v12 hq25_v12 hq35_v12 hq36_v12 hq38_v12 hq39_v12 hr2_12 hM_v12 hA_f12 hm12 H locs ls hP hD hS hl
            refine lv_iload_n hx hb dX11_layIlls_16 rfl (lv_at hl 0 rfl) ?_
            refine lv_aload_n hx hb dX11_layIlls_17 rfl (lv_at hl 2 rfl) ?_
            refine va_get (D := (dC, dI)) (ci := 11) (v := .int (v12 25)) (C := RX11) (T := TX11) (N := 79) hx hb hts inB_11 hown hE.1 hP 0 rfl rfl 49 (Nat.le_of_ble_eq_true rfl) (hts _ k_1369) (fun _ h9 => h9) rfl dX11_layIlls_18 ?_
            refine tI (y := (v 25)) hq25_v12 ?_
            have b25_v : 0 ≤ (v 25).toInt ∧ (v 25).toInt ≤ 6 := Yb_25 hIv.1
            refine lv_icmp_ge (tgt := 47) hx hb dX11_layIlls_21 rfl (fun c13 => ?_) (fun c13 => ?_)
            · skip
              obtain ⟨t16, et16⟩ : ∃ y : Int32, y = l1_6 + 1 := ⟨_, rfl⟩
              have zt16 : t16.toInt = l1_6.toInt + 1 := (congrArg Int32.toInt et16).trans (add_i rfl tc_1 (om_41 hr1_6) (om_187 b24_v zc7))
              refine lv_iinc (v := t16) (lv' := [(1, .int t16), (2, .int l2_12), (0, .ref y0)]) hx hb dX11_layIlls_47 hl (k := 1) rfl et16.symm (Nat.le_of_ble_eq_true rfl) rfl (fun ls hl => ?_)
              refine lv_goto (tgt := 6) hx hb dX11_layIlls_50 rfl ?_
              have rg17 := fb_rng t16
              exact ih6 t16 v12 f12 w12 g12 hIv12 hCf12 hRf12 hq0_v12 hq1_v12 hq2_v12 hq3_v12 hq4_v12 hq5_v12 hq8_v12 hq9_v12 hq10_v12 hq13_v12 hq14_v12 hq15_v12 hq17_v12 hq18_v12 hq24_v12 hq25_v12 hq35_v12 hq36_v12 hq38_v12 hq39_v12 ⟨show (0 : Int) ≤ t16.toInt from om_43 hr1_6 zt16, show t16.toInt ≤ (2147483647 : Int) from om_44 rg17⟩ hM_v12 hA_f12 (show (2147483647 - t16.toInt).toNat < n6 from om_33 hm6 zt16 rg17) _ _ _ hP hD hS (lv_sub hl [0, 2] rfl)
            · skip
              have zc13 : ¬ ((v 25).toInt ≤ l2_12.toInt) := zMn rfl rfl c13
              refine lv_aload_n hx hb dX11_layIlls_24 rfl (lv_at hl 2 rfl) ?_
              refine va_get (D := (dC, dI)) (ci := 11) (v := .ref (r 66)) (C := RX11) (T := TX11) (N := 79) hx hb hts inB_11 hown hE.1 hP 0 rfl rfl 66 (Nat.le_of_ble_eq_true rfl) (hts _ k_1386) (fun _ h9 => h9) rfl dX11_layIlls_25 ?_
              refine lv_bipush (v := 6) hx hb dX11_layIlls_28 rfl ?_
              refine lv_iload_n hx hb dX11_layIlls_30 rfl (lv_at hl 1 rfl) ?_
              refine lv_imul hx hb dX11_layIlls_31 ?_
              refine lv_topi (fun t20 et20 => ?_)
              have zt20 : t20.toInt = 6 * l1_6.toInt := (congrArg Int32.toInt et20).trans (mul_i tc_6 rfl (om_674 hr1_6) (om_675 b24_v zc7))
              refine lv_iload_n hx hb dX11_layIlls_32 rfl (lv_at hl 0 rfl) ?_
              refine lv_iadd hx hb dX11_layIlls_33 ?_
              refine lv_topi (fun t21 et21 => ?_)
              have rg22 := fb_rng t20
              have zt21 : t21.toInt = t20.toInt + l2_12.toInt := (congrArg Int32.toInt et21).trans (add_i rfl rfl (om_114 hr2_12 rg22) (om_676 b24_v zc7 b25_v zc13 zt20))
              refine lv_aload_n hx hb dX11_layIlls_34 rfl (lv_at hl 2 rfl) ?_
              refine lv_iload_n hx hb dX11_layIlls_35 rfl (lv_at hl 1 rfl) ?_
              refine lv_iload_n hx hb dX11_layIlls_36 rfl (lv_at hl 0 rfl) ?_
              refine cbVi (n := 2) (rest := [.int t21, .ref (r 66)]) hx hb hml hown hts hE hP hD hS hA (sY_X11_misfitOf_1 0 l dC dI cy y0 r l1_6 l2_12 v12 f12 w12 g12 hIv12 hCf12 hRf12 ⟨show (0 : Int) ≤ l1_6.toInt from om_39 hr1_6, show l1_6.toInt ≤ (5 : Int) from om_100 b24_v zc7⟩ ⟨show (0 : Int) ≤ l2_12.toInt from om_39 hr2_12, show l2_12.toInt ≤ (5 : Int) from om_100 b25_v zc13⟩) k_1751 k_1753 k_74 k_114 k_1754 hd_yX11_misfitOf ⟨Nat.le_of_ble_eq_true rfl, Nat.le_of_ble_eq_true rfl⟩ 0 11 rfl rfl (rfl) hl.1 rfl (Nat.le_of_ble_eq_true rfl) dX11_layIlls_37 (fun r23 u H locs hw hP hD hS => ?_)
              obtain ⟨hG24, hw⟩ := hw
              obtain ⟨v25, f26, w27, g28⟩ := u
              obtain ⟨kV_v25, kF_f26, hIv25, hCf26, hRf26, hk0_v25, hk1_v25, hk2_v25, hk3_v25, hk4_v25, hk5_v25, hk8_v25, hk9_v25, hk10_v25, hk13_v25, hk14_v25, hk15_v25, hk17_v25, hk18_v25, hk24_v25, hk25_v25, hk35_v25, hk36_v25, hk38_v25, hk39_v25⟩ := hw
              have hM_v25 : KV [] v25 v := KV.tr kV_v25 hM_v12 rfl
              have hA_f26 : KF [7, 8, 24, 28] f26 f := KF.tr kF_f26 hA_f12 rfl
              have hP : va_P (dC, dI) vwCl (YW cy y0 r v25 f26 w27 g28) H := hP
              have hD : va_D A (YW cy y0 r v25 f26 w27 g28) := hD
              have hq0_v25 : v25 0 = (v 0) := hk0_v25.trans hq0_v12
              have hq1_v25 : v25 1 = (v 1) := hk1_v25.trans hq1_v12
              have hq2_v25 : v25 2 = (v 2) := hk2_v25.trans hq2_v12
              have hq3_v25 : v25 3 = (v 3) := hk3_v25.trans hq3_v12
              have hq4_v25 : v25 4 = (v 4) := hk4_v25.trans hq4_v12
              have hq5_v25 : v25 5 = (v 5) := hk5_v25.trans hq5_v12
              have hq8_v25 : v25 8 = (v 8) := hk8_v25.trans hq8_v12
              have hq9_v25 : v25 9 = (v 9) := hk9_v25.trans hq9_v12
              have hq10_v25 : v25 10 = (v 10) := hk10_v25.trans hq10_v12
              have hq13_v25 : v25 13 = (v 13) := hk13_v25.trans hq13_v12
              have hq14_v25 : v25 14 = (v 14) := hk14_v25.trans hq14_v12
              have hq15_v25 : v25 15 = (v 15) := hk15_v25.trans hq15_v12
              have hq17_v25 : v25 17 = (v 17) := hk17_v25.trans hq17_v12
              have hq18_v25 : v25 18 = (v 18) := hk18_v25.trans hq18_v12
              have hq24_v25 : v25 24 = (v 24) := hk24_v25.trans hq24_v12
              have hq25_v25 : v25 25 = (v 25) := hk25_v25.trans hq25_v12
              have hq35_v25 : v25 35 = (v 35) := hk35_v25.trans hq35_v12
              have hq36_v25 : v25 36 = (v 36) := hk36_v25.trans hq36_v12
              have hq38_v25 : v25 38 = (v 38) := hk38_v25.trans hq38_v12
              have hq39_v25 : v25 39 = (v 39) := hk39_v25.trans hq39_v12
              refine stI hx hb hE hP hD hS 29 rfl (vpI (k := 36) rfl (show 0 ≤ t21.toInt from om_677 hr1_6 hr2_12 zt20 zt21) (show t21.toInt < 36 from om_678 b24_v zc7 b25_v zc13 zt20 zt21)) rfl dX11_layIlls_40 (fun H locs hP hD hS => ?_)
              obtain ⟨f29, ef29, hP, hD⟩ : ∃ fz9, fz9 = upd2 f26 28 (upd (f26 28) t21.toNatClampNeg r23) ∧ va_P (dC, dI) vwCl (YW cy y0 r v25 fz9 w27 g28) H ∧ va_D A (YW cy y0 r v25 fz9 w27 g28) := ⟨_, rfl, hP, hD⟩
              have hCf29 : YC f29 := by rw [ef29]; exact hCf26
              have hRf29 : progOK (f29 4) (f29 5) (v25 9).toInt.toNat := by rw [ef29]; exact hRf26
              have hA_f29 : KF [7, 8, 24, 28] f29 f := by rw [ef29]; exact KF.up hA_f26 rfl
              obtain ⟨t30, et30⟩ : ∃ y : Int32, y = l2_12 + 1 := ⟨_, rfl⟩
              have zt30 : t30.toInt = l2_12.toInt + 1 := (congrArg Int32.toInt et30).trans (add_i rfl tc_1 (om_41 hr2_12) (om_187 b25_v zc13))
              refine lv_iinc (v := t30) (lv' := [(2, .int t30), (1, .int l1_6), (0, .ref y0)]) hx hb dX11_layIlls_41 hl (k := 0) rfl et30.symm (Nat.le_of_ble_eq_true rfl) rfl (fun ls hl => ?_)
              refine lv_goto (tgt := 16) hx hb dX11_layIlls_44 rfl ?_
              have rg31 := fb_rng t30
              exact ih12 t30 v25 f29 w27 g28 hIv25 hCf29 hRf29 hq0_v25 hq1_v25 hq2_v25 hq3_v25 hq4_v25 hq5_v25 hq8_v25 hq9_v25 hq10_v25 hq13_v25 hq14_v25 hq15_v25 hq17_v25 hq18_v25 hq24_v25 hq25_v25 hq35_v25 hq36_v25 hq38_v25 hq39_v25 ⟨show (0 : Int) ≤ t30.toInt from om_43 hr2_12 zt30, show t30.toInt ≤ (2147483647 : Int) from om_44 rg31⟩ hM_v25 hA_f29 (show (2147483647 - t30.toInt).toNat < n12 from om_33 hm12 zt30 rg31) _ _ _ hP hD hS (lv_sub hl [0, 1, 2] rfl)
        exact lp12 _ 0 v6 f6 w6 g6 hIv6 hCf6 hRf6 hq0_v6 hq1_v6 hq2_v6 hq3_v6 hq4_v6 hq5_v6 hq8_v6 hq9_v6 hq10_v6 hq13_v6 hq14_v6 hq15_v6 hq17_v6 hq18_v6 hq24_v6 hq25_v6 hq35_v6 hq36_v6 hq38_v6 hq39_v6 ⟨by decide, by decide⟩ hM_v6 hA_f6 (Nat.lt_succ_self _) _ _ _ hP hD hS (lv_sub hl [0, 1, 2] rfl)
  exact lp6 _ 0 v2 f3 w4 g5 hIv2 hCf3 hRf3 hq0_v2 hq1_v2 hq2_v2 hq3_v2 hq4_v2 hq5_v2 hq8_v2 hq9_v2 hq10_v2 hq13_v2 hq14_v2 hq15_v2 hq17_v2 hq18_v2 hq24_v2 hq25_v2 hq35_v2 hq36_v2 hq38_v2 hq39_v2 ⟨by decide, by decide⟩ hM_v2 hA_f3 (Nat.lt_succ_self _) _ _ _ hP hD hS (lv_sub hl [0, 1] rfl)
set_option maxHeartbeats 4000000 in
set_option maxRecDepth 100000 in
theorem sY_X11_layDress_1 (l : Launch) (dC : Nat → ClassId) (dI : Nat → Nat → Nat) (cy : Nat → ClassId) (y0 : Nat) (r : Nat → Nat) (p1 : Int32) (v : Nat → Int32) (f : Nat → Nat → Int32) (w : Int64) (g : Nat → Int64) (hIv : YI v) (hCf : YC f) (hRf : progOK (f 4) (f 5) (v 9).toInt.toNat) (hp1 : (0 : Int) ≤ p1.toInt ∧ p1.toInt ≤ 2147483647) : ctI l (dC, dI) cy yX11_layDress cX11_layDress 7 .int 1 60 0 0 ((Nat → Int32) × (Nat → Nat → Int32) × (Int64) × (Nat → Int64)) [.ref y0, .int p1] (YW cy y0 r v f w g) (fun r u => KV [] u.1 v ∧ KF [27] u.2.1 f ∧ YI u.1 ∧ YC u.2.1 ∧ progOK (u.2.1 4) (u.2.1 5) (u.1 9).toInt.toNat ∧ u.1 0 = v 0 ∧ u.1 1 = v 1 ∧ u.1 2 = v 2 ∧ u.1 3 = v 3 ∧ u.1 4 = v 4 ∧ u.1 5 = v 5 ∧ u.1 8 = v 8 ∧ u.1 9 = v 9 ∧ u.1 10 = v 10 ∧ u.1 13 = v 13 ∧ u.1 14 = v 14 ∧ u.1 15 = v 15 ∧ u.1 17 = v 17 ∧ u.1 18 = v 18 ∧ u.1 24 = v 24 ∧ u.1 25 = v 25 ∧ u.1 35 = v 35 ∧ u.1 36 = v 36 ∧ u.1 38 = v 38 ∧ u.1 39 = v 39) (fun u => YW cy y0 r u.1 u.2.1 u.2.2.1 u.2.2.2) := by
  refine ctI_of (by decide) (Nat.le_of_ble_eq_true rfl) (fun p e s m below meth c A ls Q hx hb hml hts hown hE hP hD hA hl ret => ?_)
  have hUv : (v 35).toInt + (v 36).toInt ≤ 40 := hIv.2
  have hM_v : KV [] v v := fun _ _ => rfl
  have hA_f : KF [27] f f := fun _ _ => rfl
  have hown : s.vm.findClass RX11 = some m.cls := hown
  have hS : va_S A s.heap s.heap [] := va_S.rf
  have hl : lv_has ls 7 [(0, .ref y0), (1, .int p1)] := hl
  refine lv_iload_n hx hb dX11_layDress_0 rfl (lv_at hl 1 rfl) ?_
  refine lv_istore_n (lv' := [(2, .int p1), (0, .ref y0), (1, .int p1)]) hx hb dX11_layDress_1 rfl hl (Nat.le_of_ble_eq_true rfl) rfl (fun ls hl => ?_)
  refine lv_iconst (v := 0) hx hb dX11_layDress_2 rfl ?_
  refine lv_istore_n (lv' := [(3, .int 0), (2, .int p1), (0, .ref y0), (1, .int p1)]) hx hb dX11_layDress_3 rfl hl (Nat.le_of_ble_eq_true rfl) rfl (fun ls hl => ?_)
  refine lv_iconst (v := 0) hx hb dX11_layDress_4 rfl ?_
  refine lv_istore (lv' := [(4, .int 0), (3, .int 0), (2, .int p1), (0, .ref y0), (1, .int p1)]) hx hb dX11_layDress_5 hl (Nat.le_of_ble_eq_true rfl) rfl (fun ls hl => ?_)
  refine lv_aload_n hx hb dX11_layDress_7 rfl (lv_at hl 3 rfl) ?_
  refine va_get (D := (dC, dI)) (ci := 11) (v := .int (v 24)) (C := RX11) (T := TX11) (N := 79) hx hb hts inB_11 hown hE.1 hP 0 rfl rfl 48 (Nat.le_of_ble_eq_true rfl) (hts _ k_1368) (fun _ h9 => h9) rfl dX11_layDress_8 ?_
  have b24_v : 0 ≤ (v 24).toInt ∧ (v 24).toInt ≤ 6 := Yb_24 hIv.1
  refine lv_iconst (v := 1) hx hb dX11_layDress_11 rfl ?_
  refine lv_isub hx hb dX11_layDress_12 ?_
  refine lv_topi (fun t1 et1 => ?_)
  have rg2 := fb_rng (v 24)
  have zt1 : t1.toInt = (v 24).toInt - 1 := (congrArg Int32.toInt et1).trans (sub_i rfl tc_1 (om_224 b24_v) (om_225 b24_v))
  refine lv_istore (lv' := [(5, .int t1), (4, .int 0), (3, .int 0), (2, .int p1), (0, .ref y0), (1, .int p1)]) hx hb dX11_layDress_13 hl (Nat.le_of_ble_eq_true rfl) rfl (fun ls hl => ?_)
  have lp3 : ∀ (n3 : Nat) (l2_3 : Int32) (l3_3 : Int32) (l4_3 : Int32) (l5_3 : Int32) (v3 : Nat → Int32) (f3 : Nat → Nat → Int32) (w3 : Int64) (g3 : Nat → Int64), YI v3 → YC f3 → progOK (f3 4) (f3 5) (v3 9).toInt.toNat → v3 0 = (v 0) → v3 1 = (v 1) → v3 2 = (v 2) → v3 3 = (v 3) → v3 4 = (v 4) → v3 5 = (v 5) → v3 8 = (v 8) → v3 9 = (v 9) → v3 10 = (v 10) → v3 13 = (v 13) → v3 14 = (v 14) → v3 15 = (v 15) → v3 17 = (v 17) → v3 18 = (v 18) → v3 24 = (v 24) → v3 25 = (v 25) → v3 35 = (v 35) → v3 36 = (v 36) → v3 38 = (v 38) → v3 39 = (v 39) → ((0 : Int) ≤ l2_3.toInt ∧ l2_3.toInt ≤ 2147483647) → ((-2147483648 : Int) ≤ l5_3.toInt ∧ l5_3.toInt ≤ 5) → KV [] v3 v → KF [27] f3 f → (l5_3.toInt + 2147483648).toNat < n3 → ∀ (H : Heap) (locs : List Loc) (ls : Array Slot), va_P (dC, dI) vwCl (YW cy y0 r v3 f3 w3 g3) H → va_D A (YW cy y0 r v3 f3 w3 g3) → va_S A s.heap H locs → lv_has ls 7 [(5, .int l5_3), (4, .int l4_3), (3, .int l3_3), (2, .int l2_3), (0, .ref y0), (1, .int p1)] → W p l e { frames := 1, cells := 0, slots := 0, locals := 60 } s m ([.ref y0, .int p1] : List Value).toArray below meth c H locs 0 0 Q (F0 m 15 ls []) := by
    intro n3
    induction n3 with
    | zero => intro l2_3 l3_3 l4_3 l5_3 v3 f3 w3 g3 hIv3 hCf3 hRf3 hq0_v3 hq1_v3 hq2_v3 hq3_v3 hq4_v3 hq5_v3 hq8_v3 hq9_v3 hq10_v3 hq13_v3 hq14_v3 hq15_v3 hq17_v3 hq18_v3 hq24_v3 hq25_v3 hq35_v3 hq36_v3 hq38_v3 hq39_v3 hr2_3 hr5_3 hM_v3 hA_f3 hm; exact absurd hm (Nat.not_lt_zero _)
    | succ n3 ih3 =>
      intro l2_3 l3_3 l4_3 l5_3 v3 f3 w3 g3 hIv3 hCf3 hRf3 hq0_v3 hq1_v3 hq2_v3 hq3_v3 hq4_v3 hq5_v3 hq8_v3 hq9_v3 hq10_v3 hq13_v3 hq14_v3 hq15_v3 hq17_v3 hq18_v3 hq24_v3 hq25_v3 hq35_v3 hq36_v3 hq38_v3 hq39_v3 hr2_3 hr5_3 hM_v3 hA_f3 hm3 H locs ls hP hD hS hl
      have hUv3 : (v3 35).toInt + (v3 36).toInt ≤ 40 := hIv3.2
      have zq9_v3 := congrArg Int32.toInt hq9_v3
      refine lv_iload hx hb dX11_layDress_15 (lv_at hl 0 rfl) ?_
      refine lv_if_lt (tgt := 121) hx hb dX11_layDress_17 rfl (fun c4 => ?_) (fun c4 => ?_)
      · skip
        refine lv_iload hx hb dX11_layDress_121 (lv_at hl 1 rfl) ?_
        exact ret l4_3 (v3, f3, w3, g3) _ _ _ _ _ _ rfl ⟨hM_v3, hA_f3, hIv3, hCf3, hRf3, (show v3 0 = v 0 from hq0_v3), (show v3 1 = v 1 from hq1_v3), (show v3 2 = v 2 from hq2_v3), (show v3 3 = v 3 from hq3_v3), (show v3 4 = v 4 from hq4_v3), (show v3 5 = v 5 from hq5_v3), (show v3 8 = v 8 from hq8_v3), (show v3 9 = v 9 from hq9_v3), (show v3 10 = v 10 from hq10_v3), (show v3 13 = v 13 from hq13_v3), (show v3 14 = v 14 from hq14_v3), (show v3 15 = v 15 from hq15_v3), (show v3 17 = v 17 from hq17_v3), (show v3 18 = v 18 from hq18_v3), (show v3 24 = v 24 from hq24_v3), (show v3 25 = v 25 from hq25_v3), (show v3 35 = v 35 from hq35_v3), (show v3 36 = v 36 from hq36_v3), (show v3 38 = v 38 from hq38_v3), (show v3 39 = v 39 from hq39_v3)⟩ hP hD hS dX11_layDress_123 (Nat.le_refl _) (Nat.le_refl _)
      · skip
        have zc4 : ¬ (l5_3.toInt < 0) := zLn rfl tc_0 c4
        refine lv_iload_n hx hb dX11_layDress_20 rfl (lv_at hl 3 rfl) ?_
        refine lv_aload_n hx hb dX11_layDress_21 rfl (lv_at hl 4 rfl) ?_
        refine va_get (D := (dC, dI)) (ci := 11) (v := .int (v3 25)) (C := RX11) (T := TX11) (N := 79) hx hb hts inB_11 hown hE.1 hP 0 rfl rfl 49 (Nat.le_of_ble_eq_true rfl) (hts _ k_1369) (fun _ h9 => h9) rfl dX11_layDress_22 ?_
        refine tI (y := (v 25)) hq25_v3 ?_
        have b25_v : 0 ≤ (v 25).toInt ∧ (v 25).toInt ≤ 6 := Yb_25 hIv.1
        refine lv_iconst (v := 1) hx hb dX11_layDress_25 rfl ?_
        refine lv_iadd hx hb dX11_layDress_26 ?_
        refine lv_topi (fun t5 et5 => ?_)
        have rg6 := fb_rng (v 25)
        have zt5 : t5.toInt = (v 25).toInt + 1 := (congrArg Int32.toInt et5).trans (add_i rfl tc_1 (om_78 b25_v) (om_679 b25_v))
        refine lv_irem hx hb dX11_layDress_27 (ne0 (show ¬ t5.toInt = 0 from om_680 b25_v zt5)) ?_
        refine lv_topi (fun t7 et7 => ?_)
        have zt7 : 0 ≤ t7.toInt ∧ t7.toInt < t5.toInt := by rw [et7]; exact rem_rng (zx := l2_3.toInt) (zy := t5.toInt) rfl rfl (show (0 : Int) ≤ l2_3.toInt from om_39 hr2_3) (show (0 : Int) < t5.toInt from om_681 b25_v zt5)
        refine lv_istore (lv' := [(6, .int t7), (5, .int l5_3), (4, .int l4_3), (3, .int l3_3), (2, .int l2_3), (0, .ref y0), (1, .int p1)]) hx hb dX11_layDress_28 hl (Nat.le_of_ble_eq_true rfl) rfl (fun ls hl => ?_)
        refine lv_iload_n hx hb dX11_layDress_30 rfl (lv_at hl 4 rfl) ?_
        refine lv_aload_n hx hb dX11_layDress_31 rfl (lv_at hl 5 rfl) ?_
        refine va_get (D := (dC, dI)) (ci := 11) (v := .int (v3 25)) (C := RX11) (T := TX11) (N := 79) hx hb hts inB_11 hown hE.1 hP 0 rfl rfl 49 (Nat.le_of_ble_eq_true rfl) (hts _ k_1369) (fun _ h9 => h9) rfl dX11_layDress_32 ?_
        refine tI (y := (v 25)) hq25_v3 ?_
        refine lv_iconst (v := 1) hx hb dX11_layDress_35 rfl ?_
        refine lv_iadd hx hb dX11_layDress_36 ?_
        refine tI (y := t5) et5.symm ?_
        refine lv_idiv hx hb dX11_layDress_37 (ne0 (show ¬ t5.toInt = 0 from om_682 zt7)) ?_
        refine lv_topi (fun t8 et8 => ?_)
        have zt8 : 0 ≤ t8.toInt ∧ t8.toInt ≤ l2_3.toInt := by rw [et8]; exact div_rng (zx := l2_3.toInt) (zy := t5.toInt) rfl rfl (show (0 : Int) ≤ l2_3.toInt from om_39 hr2_3) (show (0 : Int) < t5.toInt from om_683 zt7)
        refine lv_istore_n (lv' := [(2, .int t8), (6, .int t7), (5, .int l5_3), (4, .int l4_3), (3, .int l3_3), (0, .ref y0), (1, .int p1)]) hx hb dX11_layDress_38 rfl hl (Nat.le_of_ble_eq_true rfl) rfl (fun ls hl => ?_)
        refine lv_aload_n hx hb dX11_layDress_39 rfl (lv_at hl 5 rfl) ?_
        refine va_get (D := (dC, dI)) (ci := 11) (v := .ref (r 65)) (C := RX11) (T := TX11) (N := 79) hx hb hts inB_11 hown hE.1 hP 0 rfl rfl 65 (Nat.le_of_ble_eq_true rfl) (hts _ k_1385) (fun _ h9 => h9) rfl dX11_layDress_40 ?_
        refine lv_iload hx hb dX11_layDress_43 (lv_at hl 2 rfl) ?_
        refine lv_iload hx hb dX11_layDress_45 (lv_at hl 1 rfl) ?_
        refine lv_aload_n hx hb dX11_layDress_47 rfl (lv_at hl 5 rfl) ?_
        refine va_get (D := (dC, dI)) (ci := 11) (v := .int (v3 25)) (C := RX11) (T := TX11) (N := 79) hx hb hts inB_11 hown hE.1 hP 0 rfl rfl 49 (Nat.le_of_ble_eq_true rfl) (hts _ k_1369) (fun _ h9 => h9) rfl dX11_layDress_48 ?_
        refine tI (y := (v 25)) hq25_v3 ?_
        refine lv_icmp_ne (tgt := 58) hx hb dX11_layDress_51 rfl (fun c9 => ?_) (fun c9 => ?_)
        · skip
          have zc9 : ¬ (t7.toInt = (v 25).toInt) := zEn rfl rfl c9
          have rg10 := fb_rng t7
          refine lv_iload hx hb dX11_layDress_58 (lv_at hl 1 rfl) ?_
          refine stI hx hb hE hP hD hS 28 rfl (vpI (k := 6) rfl (show 0 ≤ l5_3.toInt from om_14 zc4) (show l5_3.toInt < 6 from om_684 hr5_3)) rfl dX11_layDress_60 (fun H locs hP hD hS => ?_)
          obtain ⟨f11, ef11, hP, hD⟩ : ∃ fz9, fz9 = upd2 f3 27 (upd (f3 27) l5_3.toNatClampNeg t7) ∧ va_P (dC, dI) vwCl (YW cy y0 r v3 fz9 w3 g3) H ∧ va_D A (YW cy y0 r v3 fz9 w3 g3) := ⟨_, rfl, hP, hD⟩
          have hCf11 : YC f11 := by rw [ef11]; exact ⟨hCf3.1, hCf3.2.1, hCf3.2.2.1, (rng_st hCf3.2.2.2.1 (show -1 ≤ t7.toInt ∧ t7.toInt ≤ 5 from om_685 b25_v zt5 zt7 zc9)), hCf3.2.2.2.2.1, hCf3.2.2.2.2.2⟩
          have hRf11 : progOK (f11 4) (f11 5) (v3 9).toInt.toNat := by rw [ef11]; exact hRf3
          have hA_f11 : KF [27] f11 f := by rw [ef11]; exact KF.up hA_f3 rfl
          refine lv_iload hx hb dX11_layDress_61 (lv_at hl 1 rfl) ?_
          refine lv_aload_n hx hb dX11_layDress_63 rfl (lv_at hl 5 rfl) ?_
          refine va_get (D := (dC, dI)) (ci := 11) (v := .int (v3 25)) (C := RX11) (T := TX11) (N := 79) hx hb hts inB_11 hown hE.1 hP 0 rfl rfl 49 (Nat.le_of_ble_eq_true rfl) (hts _ k_1369) (fun _ h9 => h9) rfl dX11_layDress_64 ?_
          refine tI (y := (v 25)) hq25_v3 ?_
          refine lv_icmp_ne (tgt := 73) hx hb dX11_layDress_67 rfl (fun c12 => ?_) (fun c12 => ?_)
          · skip
            have zc12 : ¬ (t7.toInt = (v 25).toInt) := zEn rfl rfl c12
            refine lv_iload_n hx hb dX11_layDress_73 rfl (lv_at hl 4 rfl) ?_
            refine lv_iload hx hb dX11_layDress_74 (lv_at hl 1 rfl) ?_
            refine lv_ishr hx hb dX11_layDress_76 ?_
            refine lv_topi (fun t13 et13 => ?_)
            refine lv_iconst (v := 1) hx hb dX11_layDress_77 rfl ?_
            refine lv_iand hx hb dX11_layDress_78 ?_
            refine lv_topi (fun t14 et14 => ?_)
            have zt14 : 0 ≤ t14.toInt ∧ t14.toInt < 2 := by rw [et14]; exact and_rng _ (k := 1) (by decide) (by decide)
            refine lv_iconst (v := 1) hx hb dX11_layDress_79 rfl ?_
            refine lv_icmp_eq (tgt := 103) hx hb dX11_layDress_80 rfl (fun c15 => ?_) (fun c15 => ?_)
            · skip
              refine lv_iconst (v := (-1)) hx hb dX11_layDress_103 rfl ?_
              exact ret (-1) (v3, f11, w3, g3) _ _ _ _ _ _ rfl ⟨hM_v3, hA_f11, hIv3, hCf11, hRf11, (show v3 0 = v 0 from hq0_v3), (show v3 1 = v 1 from hq1_v3), (show v3 2 = v 2 from hq2_v3), (show v3 3 = v 3 from hq3_v3), (show v3 4 = v 4 from hq4_v3), (show v3 5 = v 5 from hq5_v3), (show v3 8 = v 8 from hq8_v3), (show v3 9 = v 9 from hq9_v3), (show v3 10 = v 10 from hq10_v3), (show v3 13 = v 13 from hq13_v3), (show v3 14 = v 14 from hq14_v3), (show v3 15 = v 15 from hq15_v3), (show v3 17 = v 17 from hq17_v3), (show v3 18 = v 18 from hq18_v3), (show v3 24 = v 24 from hq24_v3), (show v3 25 = v 25 from hq25_v3), (show v3 35 = v 35 from hq35_v3), (show v3 36 = v 36 from hq36_v3), (show v3 38 = v 38 from hq38_v3), (show v3 39 = v 39 from hq39_v3)⟩ hP hD hS dX11_layDress_104 (Nat.le_refl _) (Nat.le_refl _)
            · skip
              have zc15 : ¬ (t14.toInt = 1) := zEn rfl tc_1 c15
              refine lv_aload_n hx hb dX11_layDress_83 rfl (lv_at hl 5 rfl) ?_
              refine va_get (D := (dC, dI)) (ci := 11) (v := .ref (r 66)) (C := RX11) (T := TX11) (N := 79) hx hb hts inB_11 hown hE.1 hP 0 rfl rfl 66 (Nat.le_of_ble_eq_true rfl) (hts _ k_1386) (fun _ h9 => h9) rfl dX11_layDress_84 ?_
              refine lv_bipush (v := 6) hx hb dX11_layDress_87 rfl ?_
              refine lv_iload hx hb dX11_layDress_89 (lv_at hl 2 rfl) ?_
              refine lv_imul hx hb dX11_layDress_91 ?_
              refine lv_topi (fun t16 et16 => ?_)
              have rg17 := fb_rng l5_3
              have zt16 : t16.toInt = 6 * l5_3.toInt := (congrArg Int32.toInt et16).trans (mul_i tc_6 rfl (om_686 zc4) (om_687 hr5_3))
              refine lv_iload hx hb dX11_layDress_92 (lv_at hl 1 rfl) ?_
              refine lv_iadd hx hb dX11_layDress_94 ?_
              refine lv_topi (fun t18 et18 => ?_)
              have rg19 := fb_rng t16
              have zt18 : t18.toInt = t16.toInt + t7.toInt := (congrArg Int32.toInt et18).trans (add_i rfl rfl (om_688 zt7 rg19) (om_689 hr5_3 b25_v zt5 zt7 zt16))
              refine ldI hx hb hE hP 29 rfl (vpI (k := 36) rfl (show 0 ≤ t18.toInt from om_690 zc4 zt7 zt16 zt18) (show t18.toInt < 36 from om_691 hr5_3 b25_v zt5 zt7 zc9 zt16 zt18)) rfl rfl dX11_layDress_95 ?_
              refine lv_topi (fun t20 et20 => ?_)
              refine lv_aload_n hx hb dX11_layDress_96 rfl (lv_at hl 5 rfl) ?_
              refine va_get (D := (dC, dI)) (ci := 11) (v := .int (v3 26)) (C := RX11) (T := TX11) (N := 79) hx hb hts inB_11 hown hE.1 hP 0 rfl rfl 50 (Nat.le_of_ble_eq_true rfl) (hts _ k_1370) (fun _ h9 => h9) rfl dX11_layDress_97 ?_
              refine lv_icmp_le (tgt := 105) hx hb dX11_layDress_100 rfl (fun c21 => ?_) (fun c21 => ?_)
              · skip
                have zc21 : t20.toInt ≤ (v3 26).toInt := zMp rfl rfl c21
                have rg22 := fb_rng t20
                have rg23 := fb_rng (v3 26)
                refine lv_iload_n hx hb dX11_layDress_105 rfl (lv_at hl 4 rfl) ?_
                refine lv_iconst (v := 1) hx hb dX11_layDress_106 rfl ?_
                refine lv_iload hx hb dX11_layDress_107 (lv_at hl 1 rfl) ?_
                refine lv_ishl hx hb dX11_layDress_109 ?_
                refine lv_topi (fun t24 et24 => ?_)
                refine lv_ior hx hb dX11_layDress_110 ?_
                refine lv_topi (fun t25 et25 => ?_)
                refine lv_istore_n (lv' := [(3, .int t25), (2, .int t8), (6, .int t7), (5, .int l5_3), (4, .int l4_3), (0, .ref y0), (1, .int p1)]) hx hb dX11_layDress_111 rfl hl (Nat.le_of_ble_eq_true rfl) rfl (fun ls hl => ?_)
                obtain ⟨t26, et26⟩ : ∃ y : Int32, y = l4_3 + 1 := ⟨_, rfl⟩
                refine lv_iinc (v := t26) (lv' := [(4, .int t26), (3, .int t25), (2, .int t8), (6, .int t7), (5, .int l5_3), (0, .ref y0), (1, .int p1)]) hx hb dX11_layDress_112 hl (k := 4) rfl et26.symm (Nat.le_of_ble_eq_true rfl) rfl (fun ls hl => ?_)
                obtain ⟨t27, et27⟩ : ∃ y : Int32, y = l5_3 + (-1) := ⟨_, rfl⟩
                have zt27 : t27.toInt = l5_3.toInt + (-1) := (congrArg Int32.toInt et27).trans (add_i rfl tc_m1 (om_226 zc4) (om_227 hr5_3))
                refine lv_iinc (v := t27) (lv' := [(5, .int t27), (4, .int t26), (3, .int t25), (2, .int t8), (6, .int t7), (0, .ref y0), (1, .int p1)]) hx hb dX11_layDress_115 hl (k := 4) rfl et27.symm (Nat.le_of_ble_eq_true rfl) rfl (fun ls hl => ?_)
                refine lv_goto (tgt := 15) hx hb dX11_layDress_118 rfl ?_
                have rg28 := fb_rng t8
                have rg29 := fb_rng t27
                exact ih3 t8 t25 t26 t27 v3 f11 w3 g3 hIv3 hCf11 hRf11 hq0_v3 hq1_v3 hq2_v3 hq3_v3 hq4_v3 hq5_v3 hq8_v3 hq9_v3 hq10_v3 hq13_v3 hq14_v3 hq15_v3 hq17_v3 hq18_v3 hq24_v3 hq25_v3 hq35_v3 hq36_v3 hq38_v3 hq39_v3 ⟨show (0 : Int) ≤ t8.toInt from om_692 zt8, show t8.toInt ≤ (2147483647 : Int) from om_44 rg28⟩ ⟨show (-2147483648 : Int) ≤ t27.toInt from om_10 rg29, show t27.toInt ≤ (5 : Int) from om_228 hr5_3 zt27⟩ hM_v3 hA_f11 (show (t27.toInt + 2147483648).toNat < n3 from om_229 hm3 zt27 rg29) _ _ _ hP hD hS (lv_sub hl [0, 1, 2, 3, 5, 6] rfl)
              · skip
                refine lv_iconst (v := (-1)) hx hb dX11_layDress_103 rfl ?_
                exact ret (-1) (v3, f11, w3, g3) _ _ _ _ _ _ rfl ⟨hM_v3, hA_f11, hIv3, hCf11, hRf11, (show v3 0 = v 0 from hq0_v3), (show v3 1 = v 1 from hq1_v3), (show v3 2 = v 2 from hq2_v3), (show v3 3 = v 3 from hq3_v3), (show v3 4 = v 4 from hq4_v3), (show v3 5 = v 5 from hq5_v3), (show v3 8 = v 8 from hq8_v3), (show v3 9 = v 9 from hq9_v3), (show v3 10 = v 10 from hq10_v3), (show v3 13 = v 13 from hq13_v3), (show v3 14 = v 14 from hq14_v3), (show v3 15 = v 15 from hq15_v3), (show v3 17 = v 17 from hq17_v3), (show v3 18 = v 18 from hq18_v3), (show v3 24 = v 24 from hq24_v3), (show v3 25 = v 25 from hq25_v3), (show v3 35 = v 35 from hq35_v3), (show v3 36 = v 36 from hq36_v3), (show v3 38 = v 38 from hq38_v3), (show v3 39 = v 39 from hq39_v3)⟩ hP hD hS dX11_layDress_104 (Nat.le_refl _) (Nat.le_refl _)
          · skip
            refine lv_goto (tgt := 115) hx hb dX11_layDress_70 rfl ?_
            obtain ⟨t32, et32⟩ : ∃ y : Int32, y = l5_3 + (-1) := ⟨_, rfl⟩
            have zt32 : t32.toInt = l5_3.toInt + (-1) := (congrArg Int32.toInt et32).trans (add_i rfl tc_m1 (om_226 zc4) (om_227 hr5_3))
            refine lv_iinc (v := t32) (lv' := [(5, .int t32), (2, .int t8), (6, .int t7), (4, .int l4_3), (3, .int l3_3), (0, .ref y0), (1, .int p1)]) hx hb dX11_layDress_115 hl (k := 2) rfl et32.symm (Nat.le_of_ble_eq_true rfl) rfl (fun ls hl => ?_)
            refine lv_goto (tgt := 15) hx hb dX11_layDress_118 rfl ?_
            have rg34 := fb_rng t8
            have rg35 := fb_rng t32
            exact ih3 t8 l3_3 l4_3 t32 v3 f11 w3 g3 hIv3 hCf11 hRf11 hq0_v3 hq1_v3 hq2_v3 hq3_v3 hq4_v3 hq5_v3 hq8_v3 hq9_v3 hq10_v3 hq13_v3 hq14_v3 hq15_v3 hq17_v3 hq18_v3 hq24_v3 hq25_v3 hq35_v3 hq36_v3 hq38_v3 hq39_v3 ⟨show (0 : Int) ≤ t8.toInt from om_692 zt8, show t8.toInt ≤ (2147483647 : Int) from om_44 rg34⟩ ⟨show (-2147483648 : Int) ≤ t32.toInt from om_10 rg35, show t32.toInt ≤ (5 : Int) from om_228 hr5_3 zt32⟩ hM_v3 hA_f11 (show (t32.toInt + 2147483648).toNat < n3 from om_229 hm3 zt32 rg35) _ _ _ hP hD hS (lv_sub hl [0, 3, 4, 1, 5, 6] rfl)
        · skip
          have zc9 : t7.toInt = (v 25).toInt := zEp rfl rfl c9
          have rg36 := fb_rng t7
          refine lv_iconst (v := (-1)) hx hb dX11_layDress_54 rfl ?_
          refine lv_goto (tgt := 60) hx hb dX11_layDress_55 rfl ?_
          refine stI hx hb hE hP hD hS 28 rfl (vpI (k := 6) rfl (show 0 ≤ l5_3.toInt from om_14 zc4) (show l5_3.toInt < 6 from om_684 hr5_3)) rfl dX11_layDress_60 (fun H locs hP hD hS => ?_)
          obtain ⟨f37, ef37, hP, hD⟩ : ∃ fz9, fz9 = upd2 f3 27 (upd (f3 27) l5_3.toNatClampNeg (-1)) ∧ va_P (dC, dI) vwCl (YW cy y0 r v3 fz9 w3 g3) H ∧ va_D A (YW cy y0 r v3 fz9 w3 g3) := ⟨_, rfl, hP, hD⟩
          have hCf37 : YC f37 := by rw [ef37]; exact ⟨hCf3.1, hCf3.2.1, hCf3.2.2.1, (rng_st hCf3.2.2.2.1 (show -1 ≤ ((-1) : Int32).toInt ∧ ((-1) : Int32).toInt ≤ 5 from om_693 tc_m1)), hCf3.2.2.2.2.1, hCf3.2.2.2.2.2⟩
          have hRf37 : progOK (f37 4) (f37 5) (v3 9).toInt.toNat := by rw [ef37]; exact hRf3
          have hA_f37 : KF [27] f37 f := by rw [ef37]; exact KF.up hA_f3 rfl
          refine lv_iload hx hb dX11_layDress_61 (lv_at hl 1 rfl) ?_
          refine lv_aload_n hx hb dX11_layDress_63 rfl (lv_at hl 5 rfl) ?_
          refine va_get (D := (dC, dI)) (ci := 11) (v := .int (v3 25)) (C := RX11) (T := TX11) (N := 79) hx hb hts inB_11 hown hE.1 hP 0 rfl rfl 49 (Nat.le_of_ble_eq_true rfl) (hts _ k_1369) (fun _ h9 => h9) rfl dX11_layDress_64 ?_
          refine tI (y := (v 25)) hq25_v3 ?_
          refine lv_icmp_ne (tgt := 73) hx hb dX11_layDress_67 rfl (fun c38 => ?_) (fun c38 => ?_)
          · skip
            have zc38 : ¬ (t7.toInt = (v 25).toInt) := zEn rfl rfl c38
            refine lv_iload_n hx hb dX11_layDress_73 rfl (lv_at hl 4 rfl) ?_
            refine lv_iload hx hb dX11_layDress_74 (lv_at hl 1 rfl) ?_
            refine lv_ishr hx hb dX11_layDress_76 ?_
            refine lv_topi (fun t39 et39 => ?_)
            refine lv_iconst (v := 1) hx hb dX11_layDress_77 rfl ?_
            refine lv_iand hx hb dX11_layDress_78 ?_
            refine lv_topi (fun t40 et40 => ?_)
            have zt40 : 0 ≤ t40.toInt ∧ t40.toInt < 2 := by rw [et40]; exact and_rng _ (k := 1) (by decide) (by decide)
            refine lv_iconst (v := 1) hx hb dX11_layDress_79 rfl ?_
            refine lv_icmp_eq (tgt := 103) hx hb dX11_layDress_80 rfl (fun c41 => ?_) (fun c41 => ?_)
            · skip
              refine lv_iconst (v := (-1)) hx hb dX11_layDress_103 rfl ?_
              exact ret (-1) (v3, f37, w3, g3) _ _ _ _ _ _ rfl ⟨hM_v3, hA_f37, hIv3, hCf37, hRf37, (show v3 0 = v 0 from hq0_v3), (show v3 1 = v 1 from hq1_v3), (show v3 2 = v 2 from hq2_v3), (show v3 3 = v 3 from hq3_v3), (show v3 4 = v 4 from hq4_v3), (show v3 5 = v 5 from hq5_v3), (show v3 8 = v 8 from hq8_v3), (show v3 9 = v 9 from hq9_v3), (show v3 10 = v 10 from hq10_v3), (show v3 13 = v 13 from hq13_v3), (show v3 14 = v 14 from hq14_v3), (show v3 15 = v 15 from hq15_v3), (show v3 17 = v 17 from hq17_v3), (show v3 18 = v 18 from hq18_v3), (show v3 24 = v 24 from hq24_v3), (show v3 25 = v 25 from hq25_v3), (show v3 35 = v 35 from hq35_v3), (show v3 36 = v 36 from hq36_v3), (show v3 38 = v 38 from hq38_v3), (show v3 39 = v 39 from hq39_v3)⟩ hP hD hS dX11_layDress_104 (Nat.le_refl _) (Nat.le_refl _)
            · skip
              have zc41 : ¬ (t40.toInt = 1) := zEn rfl tc_1 c41
              refine lv_aload_n hx hb dX11_layDress_83 rfl (lv_at hl 5 rfl) ?_
              refine va_get (D := (dC, dI)) (ci := 11) (v := .ref (r 66)) (C := RX11) (T := TX11) (N := 79) hx hb hts inB_11 hown hE.1 hP 0 rfl rfl 66 (Nat.le_of_ble_eq_true rfl) (hts _ k_1386) (fun _ h9 => h9) rfl dX11_layDress_84 ?_
              refine lv_bipush (v := 6) hx hb dX11_layDress_87 rfl ?_
              refine lv_iload hx hb dX11_layDress_89 (lv_at hl 2 rfl) ?_
              refine lv_imul hx hb dX11_layDress_91 ?_
              refine lv_topi (fun t42 et42 => ?_)
              have rg43 := fb_rng l5_3
              have zt42 : t42.toInt = 6 * l5_3.toInt := (congrArg Int32.toInt et42).trans (mul_i tc_6 rfl (om_686 zc4) (om_687 hr5_3))
              refine lv_iload hx hb dX11_layDress_92 (lv_at hl 1 rfl) ?_
              refine lv_iadd hx hb dX11_layDress_94 ?_
              refine lv_topi (fun t44 et44 => ?_)
              have rg45 := fb_rng t42
              have zt44 : t44.toInt = t42.toInt + t7.toInt := (congrArg Int32.toInt et44).trans (add_i rfl rfl (om_688 zt7 rg45) (om_694 zc9 zc38))
              refine ldI hx hb hE hP 29 rfl (vpI (k := 36) rfl (show 0 ≤ t44.toInt from om_695 zc9 zc38) (show t44.toInt < 36 from om_696 zc9 zc38)) rfl rfl dX11_layDress_95 ?_
              refine lv_topi (fun t46 et46 => ?_)
              refine lv_aload_n hx hb dX11_layDress_96 rfl (lv_at hl 5 rfl) ?_
              refine va_get (D := (dC, dI)) (ci := 11) (v := .int (v3 26)) (C := RX11) (T := TX11) (N := 79) hx hb hts inB_11 hown hE.1 hP 0 rfl rfl 50 (Nat.le_of_ble_eq_true rfl) (hts _ k_1370) (fun _ h9 => h9) rfl dX11_layDress_97 ?_
              refine lv_icmp_le (tgt := 105) hx hb dX11_layDress_100 rfl (fun c47 => ?_) (fun c47 => ?_)
              · skip
                have zc47 : t46.toInt ≤ (v3 26).toInt := zMp rfl rfl c47
                have rg48 := fb_rng t46
                have rg49 := fb_rng (v3 26)
                refine lv_iload_n hx hb dX11_layDress_105 rfl (lv_at hl 4 rfl) ?_
                refine lv_iconst (v := 1) hx hb dX11_layDress_106 rfl ?_
                refine lv_iload hx hb dX11_layDress_107 (lv_at hl 1 rfl) ?_
                refine lv_ishl hx hb dX11_layDress_109 ?_
                refine lv_topi (fun t50 et50 => ?_)
                refine lv_ior hx hb dX11_layDress_110 ?_
                refine lv_topi (fun t51 et51 => ?_)
                refine lv_istore_n (lv' := [(3, .int t51), (2, .int t8), (6, .int t7), (5, .int l5_3), (4, .int l4_3), (0, .ref y0), (1, .int p1)]) hx hb dX11_layDress_111 rfl hl (Nat.le_of_ble_eq_true rfl) rfl (fun ls hl => ?_)
                obtain ⟨t52, et52⟩ : ∃ y : Int32, y = l4_3 + 1 := ⟨_, rfl⟩
                refine lv_iinc (v := t52) (lv' := [(4, .int t52), (3, .int t51), (2, .int t8), (6, .int t7), (5, .int l5_3), (0, .ref y0), (1, .int p1)]) hx hb dX11_layDress_112 hl (k := 4) rfl et52.symm (Nat.le_of_ble_eq_true rfl) rfl (fun ls hl => ?_)
                obtain ⟨t53, et53⟩ : ∃ y : Int32, y = l5_3 + (-1) := ⟨_, rfl⟩
                have zt53 : t53.toInt = l5_3.toInt + (-1) := (congrArg Int32.toInt et53).trans (add_i rfl tc_m1 (om_226 zc4) (om_227 hr5_3))
                refine lv_iinc (v := t53) (lv' := [(5, .int t53), (4, .int t52), (3, .int t51), (2, .int t8), (6, .int t7), (0, .ref y0), (1, .int p1)]) hx hb dX11_layDress_115 hl (k := 4) rfl et53.symm (Nat.le_of_ble_eq_true rfl) rfl (fun ls hl => ?_)
                refine lv_goto (tgt := 15) hx hb dX11_layDress_118 rfl ?_
                have rg54 := fb_rng t8
                have rg55 := fb_rng t53
                exact ih3 t8 t51 t52 t53 v3 f37 w3 g3 hIv3 hCf37 hRf37 hq0_v3 hq1_v3 hq2_v3 hq3_v3 hq4_v3 hq5_v3 hq8_v3 hq9_v3 hq10_v3 hq13_v3 hq14_v3 hq15_v3 hq17_v3 hq18_v3 hq24_v3 hq25_v3 hq35_v3 hq36_v3 hq38_v3 hq39_v3 ⟨show (0 : Int) ≤ t8.toInt from om_692 zt8, show t8.toInt ≤ (2147483647 : Int) from om_44 rg54⟩ ⟨show (-2147483648 : Int) ≤ t53.toInt from om_10 rg55, show t53.toInt ≤ (5 : Int) from om_228 hr5_3 zt53⟩ hM_v3 hA_f37 (show (t53.toInt + 2147483648).toNat < n3 from om_229 hm3 zt53 rg55) _ _ _ hP hD hS (lv_sub hl [0, 1, 2, 3, 5, 6] rfl)
              · skip
                refine lv_iconst (v := (-1)) hx hb dX11_layDress_103 rfl ?_
                exact ret (-1) (v3, f37, w3, g3) _ _ _ _ _ _ rfl ⟨hM_v3, hA_f37, hIv3, hCf37, hRf37, (show v3 0 = v 0 from hq0_v3), (show v3 1 = v 1 from hq1_v3), (show v3 2 = v 2 from hq2_v3), (show v3 3 = v 3 from hq3_v3), (show v3 4 = v 4 from hq4_v3), (show v3 5 = v 5 from hq5_v3), (show v3 8 = v 8 from hq8_v3), (show v3 9 = v 9 from hq9_v3), (show v3 10 = v 10 from hq10_v3), (show v3 13 = v 13 from hq13_v3), (show v3 14 = v 14 from hq14_v3), (show v3 15 = v 15 from hq15_v3), (show v3 17 = v 17 from hq17_v3), (show v3 18 = v 18 from hq18_v3), (show v3 24 = v 24 from hq24_v3), (show v3 25 = v 25 from hq25_v3), (show v3 35 = v 35 from hq35_v3), (show v3 36 = v 36 from hq36_v3), (show v3 38 = v 38 from hq38_v3), (show v3 39 = v 39 from hq39_v3)⟩ hP hD hS dX11_layDress_104 (Nat.le_refl _) (Nat.le_refl _)
          · skip
            refine lv_goto (tgt := 115) hx hb dX11_layDress_70 rfl ?_
            obtain ⟨t58, et58⟩ : ∃ y : Int32, y = l5_3 + (-1) := ⟨_, rfl⟩
            have zt58 : t58.toInt = l5_3.toInt + (-1) := (congrArg Int32.toInt et58).trans (add_i rfl tc_m1 (om_226 zc4) (om_227 hr5_3))
            refine lv_iinc (v := t58) (lv' := [(5, .int t58), (2, .int t8), (6, .int t7), (4, .int l4_3), (3, .int l3_3), (0, .ref y0), (1, .int p1)]) hx hb dX11_layDress_115 hl (k := 2) rfl et58.symm (Nat.le_of_ble_eq_true rfl) rfl (fun ls hl => ?_)
            refine lv_goto (tgt := 15) hx hb dX11_layDress_118 rfl ?_
            have rg60 := fb_rng t8
            have rg61 := fb_rng t58
            exact ih3 t8 l3_3 l4_3 t58 v3 f37 w3 g3 hIv3 hCf37 hRf37 hq0_v3 hq1_v3 hq2_v3 hq3_v3 hq4_v3 hq5_v3 hq8_v3 hq9_v3 hq10_v3 hq13_v3 hq14_v3 hq15_v3 hq17_v3 hq18_v3 hq24_v3 hq25_v3 hq35_v3 hq36_v3 hq38_v3 hq39_v3 ⟨show (0 : Int) ≤ t8.toInt from om_692 zt8, show t8.toInt ≤ (2147483647 : Int) from om_44 rg60⟩ ⟨show (-2147483648 : Int) ≤ t58.toInt from om_10 rg61, show t58.toInt ≤ (5 : Int) from om_228 hr5_3 zt58⟩ hM_v3 hA_f37 (show (t58.toInt + 2147483648).toNat < n3 from om_229 hm3 zt58 rg61) _ _ _ hP hD hS (lv_sub hl [0, 3, 4, 1, 5, 6] rfl)
  have rg63 := fb_rng t1
  exact lp3 _ p1 0 0 t1 v f w g hIv hCf hRf rfl rfl rfl rfl rfl rfl rfl rfl rfl rfl rfl rfl rfl rfl rfl rfl rfl rfl rfl rfl ⟨show (0 : Int) ≤ p1.toInt from om_39 hp1, show p1.toInt ≤ (2147483647 : Int) from om_697 hp1⟩ ⟨show (-2147483648 : Int) ≤ t1.toInt from om_10 rg63, show t1.toInt ≤ (5 : Int) from om_243 b24_v zt1⟩ hM_v hA_f (Nat.lt_succ_self _) _ _ _ hP hD hS (lv_sub hl [0, 1, 2, 3, 4, 5] rfl)
set_option maxHeartbeats 4000000 in
set_option maxRecDepth 100000 in
theorem sY_X11_illOfRow_1 (l : Launch) (dC : Nat → ClassId) (dI : Nat → Nat → Nat) (cy : Nat → ClassId) (y0 : Nat) (r : Nat → Nat)  (v : Nat → Int32) (f : Nat → Nat → Int32) (w : Int64) (g : Nat → Int64) (hIv : YI v) (hCf : YC f) (hRf : progOK (f 4) (f 5) (v 9).toInt.toNat)  : ctI l (dC, dI) cy yX11_illOfRow cX11_illOfRow 3 .int 1 60 0 0 Unit [.ref y0] (YW cy y0 r v f w g) (fun r u => True) (fun u => YW cy y0 r v f w g) := by
  refine ctI_of (by decide) (Nat.le_of_ble_eq_true rfl) (fun p e s m below meth c A ls Q hx hb hml hts hown hE hP hD hA hl ret => ?_)
  have hown : s.vm.findClass RX11 = some m.cls := hown
  have hS : va_S A s.heap s.heap [] := va_S.rf
  have hl : lv_has ls 3 [(0, .ref y0)] := hl
  refine lv_iconst (v := 0) hx hb dX11_illOfRow_0 rfl ?_
  refine lv_istore_n (lv' := [(1, .int 0), (0, .ref y0)]) hx hb dX11_illOfRow_1 rfl hl (Nat.le_of_ble_eq_true rfl) rfl (fun ls hl => ?_)
  refine lv_iconst (v := 0) hx hb dX11_illOfRow_2 rfl ?_
  refine lv_istore_n (lv' := [(2, .int 0), (1, .int 0), (0, .ref y0)]) hx hb dX11_illOfRow_3 rfl hl (Nat.le_of_ble_eq_true rfl) rfl (fun ls hl => ?_)
  have lp1 : ∀ (n1 : Nat) (l1_1 : Int32) (l2_1 : Int32), ((0 : Int) ≤ l2_1.toInt ∧ l2_1.toInt ≤ 2147483647) → (2147483647 - l2_1.toInt).toNat < n1 → ∀ (H : Heap) (locs : List Loc) (ls : Array Slot), va_P (dC, dI) vwCl (YW cy y0 r v f w g) H → va_D A (YW cy y0 r v f w g) → va_S A s.heap H locs → lv_has ls 3 [(2, .int l2_1), (1, .int l1_1), (0, .ref y0)] → W p l e { frames := 1, cells := 0, slots := 0, locals := 60 } s m ([.ref y0] : List Value).toArray below meth c H locs 0 0 Q (F0 m 4 ls []) := by
    intro n1
    induction n1 with
    | zero => intro l1_1 l2_1 hr2_1 hm; exact absurd hm (Nat.not_lt_zero _)
    | succ n1 ih1 =>
      intro l1_1 l2_1 hr2_1 hm1 H locs ls hP hD hS hl
      refine lv_iload_n hx hb dX11_illOfRow_4 rfl (lv_at hl 0 rfl) ?_
      refine lv_aload_n hx hb dX11_illOfRow_5 rfl (lv_at hl 2 rfl) ?_
      refine va_get (D := (dC, dI)) (ci := 11) (v := .int (v 24)) (C := RX11) (T := TX11) (N := 79) hx hb hts inB_11 hown hE.1 hP 0 rfl rfl 48 (Nat.le_of_ble_eq_true rfl) (hts _ k_1368) (fun _ h9 => h9) rfl dX11_illOfRow_6 ?_
      have b24_v : 0 ≤ (v 24).toInt ∧ (v 24).toInt ≤ 6 := Yb_24 hIv.1
      refine lv_icmp_ge (tgt := 50) hx hb dX11_illOfRow_9 rfl (fun c2 => ?_) (fun c2 => ?_)
      · skip
        refine lv_iload_n hx hb dX11_illOfRow_50 rfl (lv_at hl 1 rfl) ?_
        exact ret l1_1 () _ _ _ _ _ _ rfl trivial hP hD hS dX11_illOfRow_51 (Nat.le_refl _) (Nat.le_refl _)
      · skip
        have zc2 : ¬ ((v 24).toInt ≤ l2_1.toInt) := zMn rfl rfl c2
        refine lv_iload_n hx hb dX11_illOfRow_12 rfl (lv_at hl 1 rfl) ?_
        refine lv_aload_n hx hb dX11_illOfRow_13 rfl (lv_at hl 2 rfl) ?_
        refine va_get (D := (dC, dI)) (ci := 11) (v := .ref (r 65)) (C := RX11) (T := TX11) (N := 79) hx hb hts inB_11 hown hE.1 hP 0 rfl rfl 65 (Nat.le_of_ble_eq_true rfl) (hts _ k_1385) (fun _ h9 => h9) rfl dX11_illOfRow_14 ?_
        refine lv_iload_n hx hb dX11_illOfRow_17 rfl (lv_at hl 0 rfl) ?_
        refine ldI hx hb hE hP 28 rfl (vpI (k := 6) rfl (show 0 ≤ l2_1.toInt from om_39 hr2_1) (show l2_1.toInt < 6 from om_460 b24_v zc2)) rfl rfl dX11_illOfRow_18 ?_
        refine lv_topi (fun t7 et7 => ?_)
        have zt7 : -1 ≤ t7.toInt ∧ t7.toInt ≤ 5 := by rw [et7]; exact hCf.2.2.2.1 l2_1.toInt.toNat (show l2_1.toInt.toNat < 6 from om_698 b24_v zc2)
        refine lv_if_ge (tgt := 26) hx hb dX11_illOfRow_19 rfl (fun c8 => ?_) (fun c8 => ?_)
        · skip
          have zc8 : 0 ≤ t7.toInt := zMp tc_0 rfl c8
          refine lv_aload_n hx hb dX11_illOfRow_26 rfl (lv_at hl 2 rfl) ?_
          refine va_get (D := (dC, dI)) (ci := 11) (v := .ref (r 66)) (C := RX11) (T := TX11) (N := 79) hx hb hts inB_11 hown hE.1 hP 0 rfl rfl 66 (Nat.le_of_ble_eq_true rfl) (hts _ k_1386) (fun _ h9 => h9) rfl dX11_illOfRow_27 ?_
          refine lv_bipush (v := 6) hx hb dX11_illOfRow_30 rfl ?_
          refine lv_iload_n hx hb dX11_illOfRow_32 rfl (lv_at hl 0 rfl) ?_
          refine lv_imul hx hb dX11_illOfRow_33 ?_
          refine lv_topi (fun t9 et9 => ?_)
          have zt9 : t9.toInt = 6 * l2_1.toInt := (congrArg Int32.toInt et9).trans (mul_i tc_6 rfl (om_674 hr2_1) (om_675 b24_v zc2))
          refine lv_aload_n hx hb dX11_illOfRow_34 rfl (lv_at hl 2 rfl) ?_
          refine va_get (D := (dC, dI)) (ci := 11) (v := .ref (r 65)) (C := RX11) (T := TX11) (N := 79) hx hb hts inB_11 hown hE.1 hP 0 rfl rfl 65 (Nat.le_of_ble_eq_true rfl) (hts _ k_1385) (fun _ h9 => h9) rfl dX11_illOfRow_35 ?_
          refine lv_iload_n hx hb dX11_illOfRow_38 rfl (lv_at hl 0 rfl) ?_
          refine ldI hx hb hE hP 28 rfl (vpI (k := 6) rfl (show 0 ≤ l2_1.toInt from om_39 hr2_1) (show l2_1.toInt < 6 from om_460 b24_v zc2)) rfl rfl dX11_illOfRow_39 ?_
          refine tI (y := t7) et7.symm ?_
          refine lv_iadd hx hb dX11_illOfRow_40 ?_
          refine lv_topi (fun t10 et10 => ?_)
          have rg11 := fb_rng t9
          have zt10 : t10.toInt = t9.toInt + t7.toInt := (congrArg Int32.toInt et10).trans (add_i rfl rfl (om_103 zc8 rg11) (om_699 b24_v zc2 zt7 zt9))
          refine ldI hx hb hE hP 29 rfl (vpI (k := 36) rfl (show 0 ≤ t10.toInt from om_700 hr2_1 zc8 zt9 zt10) (show t10.toInt < 36 from om_701 b24_v zc2 zt7 zt9 zt10)) rfl rfl dX11_illOfRow_41 ?_
          refine lv_topi (fun t13 et13 => ?_)
          refine lv_iadd hx hb dX11_illOfRow_42 ?_
          refine lv_topi (fun t14 et14 => ?_)
          refine lv_istore_n (lv' := [(1, .int t14), (2, .int l2_1), (0, .ref y0)]) hx hb dX11_illOfRow_43 rfl hl (Nat.le_of_ble_eq_true rfl) rfl (fun ls hl => ?_)
          obtain ⟨t15, et15⟩ : ∃ y : Int32, y = l2_1 + 1 := ⟨_, rfl⟩
          have zt15 : t15.toInt = l2_1.toInt + 1 := (congrArg Int32.toInt et15).trans (add_i rfl tc_1 (om_41 hr2_1) (om_187 b24_v zc2))
          refine lv_iinc (v := t15) (lv' := [(2, .int t15), (1, .int t14), (0, .ref y0)]) hx hb dX11_illOfRow_44 hl (k := 1) rfl et15.symm (Nat.le_of_ble_eq_true rfl) rfl (fun ls hl => ?_)
          refine lv_goto (tgt := 4) hx hb dX11_illOfRow_47 rfl ?_
          have rg16 := fb_rng t15
          exact ih1 t14 t15 ⟨show (0 : Int) ≤ t15.toInt from om_43 hr2_1 zt15, show t15.toInt ≤ (2147483647 : Int) from om_44 rg16⟩ (show (2147483647 - t15.toInt).toNat < n1 from om_33 hm1 zt15 rg16) _ _ _ hP hD hS (lv_sub hl [0, 1, 2] rfl)
        · skip
          refine lv_iconst (v := 0) hx hb dX11_illOfRow_22 rfl ?_
          refine lv_goto (tgt := 42) hx hb dX11_illOfRow_23 rfl ?_
          refine lv_iadd hx hb dX11_illOfRow_42 ?_
          refine lv_topi (fun t17 et17 => ?_)
          refine lv_istore_n (lv' := [(1, .int t17), (2, .int l2_1), (0, .ref y0)]) hx hb dX11_illOfRow_43 rfl hl (Nat.le_of_ble_eq_true rfl) rfl (fun ls hl => ?_)
          obtain ⟨t19, et19⟩ : ∃ y : Int32, y = l2_1 + 1 := ⟨_, rfl⟩
          have zt19 : t19.toInt = l2_1.toInt + 1 := (congrArg Int32.toInt et19).trans (add_i rfl tc_1 (om_41 hr2_1) (om_187 b24_v zc2))
          refine lv_iinc (v := t19) (lv' := [(2, .int t19), (1, .int t17), (0, .ref y0)]) hx hb dX11_illOfRow_44 hl (k := 1) rfl et19.symm (Nat.le_of_ble_eq_true rfl) rfl (fun ls hl => ?_)
          refine lv_goto (tgt := 4) hx hb dX11_illOfRow_47 rfl ?_
          have rg20 := fb_rng t19
          exact ih1 t17 t19 ⟨show (0 : Int) ≤ t19.toInt from om_43 hr2_1 zt19, show t19.toInt ≤ (2147483647 : Int) from om_44 rg20⟩ (show (2147483647 - t19.toInt).toNat < n1 from om_33 hm1 zt19 rg20) _ _ _ hP hD hS (lv_sub hl [0, 1, 2] rfl)
  exact lp1 _ 0 0 ⟨by decide, by decide⟩ (Nat.lt_succ_self _) _ _ _ hP hD hS (lv_sub hl [0, 1, 2] rfl)
set_option maxHeartbeats 4000000 in
set_option maxRecDepth 100000 in
theorem sY_X11_dress_1 (l : Launch) (dC : Nat → ClassId) (dI : Nat → Nat → Nat) (cy : Nat → ClassId) (y0 : Nat) (r : Nat → Nat) (p1 : Int32) (v : Nat → Int32) (f : Nat → Nat → Int32) (w : Int64) (g : Nat → Int64) (hIv : YI v) (hCf : YC f) (hRf : progOK (f 4) (f 5) (v 9).toInt.toNat)  : ctI l (dC, dI) cy yX11_dress cX11_dress 7 .int 5 148 0 0 ((Nat → Int32) × (Nat → Nat → Int32) × (Int64) × (Nat → Int64)) [.ref y0, .int p1] (YW cy y0 r v f w g) (fun r u => KV [37] u.1 v ∧ KF [7, 8, 24, 26, 27, 28] u.2.1 f ∧ YI u.1 ∧ YC u.2.1 ∧ progOK (u.2.1 4) (u.2.1 5) (u.1 9).toInt.toNat ∧ u.1 0 = v 0 ∧ u.1 1 = v 1 ∧ u.1 2 = v 2 ∧ u.1 3 = v 3 ∧ u.1 4 = v 4 ∧ u.1 5 = v 5 ∧ u.1 8 = v 8 ∧ u.1 9 = v 9 ∧ u.1 10 = v 10 ∧ u.1 13 = v 13 ∧ u.1 14 = v 14 ∧ u.1 15 = v 15 ∧ u.1 17 = v 17 ∧ u.1 18 = v 18 ∧ u.1 24 = v 24 ∧ u.1 25 = v 25 ∧ u.1 35 = v 35 ∧ u.1 36 = v 36 ∧ u.1 38 = v 38 ∧ u.1 39 = v 39) (fun u => YW cy y0 r u.1 u.2.1 u.2.2.1 u.2.2.2) := by
  refine ctI_of (by decide) (Nat.le_of_ble_eq_true rfl) (fun p e s m below meth c A ls Q hx hb hml hts hown hE hP hD hA hl ret => ?_)
  have hM_v : KV [37] v v := fun _ _ => rfl
  have hA_f : KF [7, 8, 24, 26, 27, 28] f f := fun _ _ => rfl
  have hown : s.vm.findClass RX11 = some m.cls := hown
  have hS : va_S A s.heap s.heap [] := va_S.rf
  have hl : lv_has ls 7 [(0, .ref y0), (1, .int p1)] := hl
  refine lv_iload_n hx hb dX11_dress_0 rfl (lv_at hl 1 rfl) ?_
  refine lv_iconst (v := 0) hx hb dX11_dress_1 rfl ?_
  refine lv_iconst (v := 1) hx hb dX11_dress_2 rfl ?_
  refine cbSi (n := 3) (rest := []) hx hb hml hown hts hE hP hD hS hA (sY_X11_isIn_1 0 l dC dI cy y0 r p1 0 1 v f w g hIv hCf hRf ) k_1736 k_1737 k_114 k_1738 he_yX11_isIn ⟨Nat.le_of_ble_eq_true rfl, Nat.le_of_ble_eq_true rfl⟩ (rfl) hl.1 rfl (Nat.le_of_ble_eq_true rfl) dX11_dress_3 (fun r3 u H locs hw hP hD hS => ?_)
  obtain ⟨hG4, hw⟩ := hw
  rcases hw with ⟨g5, g5_0, g5_1⟩ | ⟨g5⟩
  · skip
    subst g5
    refine lv_if_ne (tgt := 11) hx hb dX11_dress_6 rfl (fun _ => ?_) (fun c0 => absurd c0 (by decide))
    refine lv_aload_n hx hb dX11_dress_11 rfl (lv_at hl 0 rfl) ?_
    refine cbVv (n := 0) (rest := []) hx hb hml hown hts hE hP hD hS hA (sY_X11_layIlls_1 l dC dI cy y0 r  v f w g hIv hCf hRf ) k_1873 k_1875 k_84 k_114 k_1876 hd_yX11_layIlls ⟨Nat.le_of_ble_eq_true rfl, Nat.le_of_ble_eq_true rfl⟩ 0 11 rfl rfl (rfl) hl.1 rfl (Nat.le_of_ble_eq_true rfl) dX11_dress_12 (fun u H locs hw hP hD hS => ?_)
    obtain ⟨v6, f7, w8, g9⟩ := u
    obtain ⟨kV_v6, kF_f7, hIv6, hCf7, hRf7, hk0_v6, hk1_v6, hk2_v6, hk3_v6, hk4_v6, hk5_v6, hk8_v6, hk9_v6, hk10_v6, hk13_v6, hk14_v6, hk15_v6, hk17_v6, hk18_v6, hk24_v6, hk25_v6, hk35_v6, hk36_v6, hk38_v6, hk39_v6⟩ := hw
    have hM_v6 : KV [37] v6 v := KV.tr kV_v6 hM_v rfl
    have hA_f7 : KF [7, 8, 24, 26, 27, 28] f7 f := KF.tr kF_f7 hA_f rfl
    have hP : va_P (dC, dI) vwCl (YW cy y0 r v6 f7 w8 g9) H := hP
    have hD : va_D A (YW cy y0 r v6 f7 w8 g9) := hD
    have hq0_v6 : v6 0 = (v 0) := hk0_v6
    have hq1_v6 : v6 1 = (v 1) := hk1_v6
    have hq2_v6 : v6 2 = (v 2) := hk2_v6
    have hq3_v6 : v6 3 = (v 3) := hk3_v6
    have hq4_v6 : v6 4 = (v 4) := hk4_v6
    have hq5_v6 : v6 5 = (v 5) := hk5_v6
    have hq8_v6 : v6 8 = (v 8) := hk8_v6
    have hq9_v6 : v6 9 = (v 9) := hk9_v6
    have hq10_v6 : v6 10 = (v 10) := hk10_v6
    have hq13_v6 : v6 13 = (v 13) := hk13_v6
    have hq14_v6 : v6 14 = (v 14) := hk14_v6
    have hq15_v6 : v6 15 = (v 15) := hk15_v6
    have hq17_v6 : v6 17 = (v 17) := hk17_v6
    have hq18_v6 : v6 18 = (v 18) := hk18_v6
    have hq24_v6 : v6 24 = (v 24) := hk24_v6
    have hq25_v6 : v6 25 = (v 25) := hk25_v6
    have hq35_v6 : v6 35 = (v 35) := hk35_v6
    have hq36_v6 : v6 36 = (v 36) := hk36_v6
    have hq38_v6 : v6 38 = (v 38) := hk38_v6
    have hq39_v6 : v6 39 = (v 39) := hk39_v6
    refine lv_iconst (v := (-1)) hx hb dX11_dress_15 rfl ?_
    refine lv_istore_n (lv' := [(2, .int (-1)), (0, .ref y0), (1, .int p1)]) hx hb dX11_dress_16 rfl hl (Nat.le_of_ble_eq_true rfl) rfl (fun ls hl => ?_)
    refine lv_iconst (v := 0) hx hb dX11_dress_17 rfl ?_
    refine lv_istore_n (lv' := [(3, .int 0), (2, .int (-1)), (0, .ref y0), (1, .int p1)]) hx hb dX11_dress_18 rfl hl (Nat.le_of_ble_eq_true rfl) rfl (fun ls hl => ?_)
    refine lv_iconst (v := 0) hx hb dX11_dress_19 rfl ?_
    refine lv_istore (lv' := [(4, .int 0), (3, .int 0), (2, .int (-1)), (0, .ref y0), (1, .int p1)]) hx hb dX11_dress_20 hl (Nat.le_of_ble_eq_true rfl) rfl (fun ls hl => ?_)
    have lp10 : ∀ (n10 : Nat) (l2_10 : Int32) (l3_10 : Int32) (l4_10 : Int32) (v10 : Nat → Int32) (f10 : Nat → Nat → Int32) (w10 : Int64) (g10 : Nat → Int64), YI v10 → YC f10 → progOK (f10 4) (f10 5) (v10 9).toInt.toNat → v10 0 = (v 0) → v10 1 = (v 1) → v10 2 = (v 2) → v10 3 = (v 3) → v10 4 = (v 4) → v10 5 = (v 5) → v10 8 = (v 8) → v10 9 = (v 9) → v10 10 = (v 10) → v10 13 = (v 13) → v10 14 = (v 14) → v10 15 = (v 15) → v10 17 = (v 17) → v10 18 = (v 18) → v10 24 = (v 24) → v10 25 = (v 25) → v10 35 = (v 35) → v10 36 = (v 36) → v10 38 = (v 38) → v10 39 = (v 39) → ((0 : Int) ≤ l4_10.toInt ∧ l4_10.toInt ≤ 2147483647) → KV [37] v10 v → KF [7, 8, 24, 26, 27, 28] f10 f → (2147483647 - l4_10.toInt).toNat < n10 → ∀ (H : Heap) (locs : List Loc) (ls : Array Slot), va_P (dC, dI) vwCl (YW cy y0 r v10 f10 w10 g10) H → va_D A (YW cy y0 r v10 f10 w10 g10) → va_S A s.heap H locs → lv_has ls 7 [(4, .int l4_10), (3, .int l3_10), (2, .int l2_10), (0, .ref y0), (1, .int p1)] → W p l e { frames := 5, cells := 0, slots := 0, locals := 148 } s m ([.ref y0, .int p1] : List Value).toArray below meth c H locs 0 0 Q (F0 m 22 ls []) := by
      intro n10
      induction n10 with
      | zero => intro l2_10 l3_10 l4_10 v10 f10 w10 g10 hIv10 hCf10 hRf10 hq0_v10 hq1_v10 hq2_v10 hq3_v10 hq4_v10 hq5_v10 hq8_v10 hq9_v10 hq10_v10 hq13_v10 hq14_v10 hq15_v10 hq17_v10 hq18_v10 hq24_v10 hq25_v10 hq35_v10 hq36_v10 hq38_v10 hq39_v10 hr4_10 hM_v10 hA_f10 hm; exact absurd hm (Nat.not_lt_zero _)
      | succ n10 ih10 =>
        intro l2_10 l3_10 l4_10 v10 f10 w10 g10 hIv10 hCf10 hRf10 hq0_v10 hq1_v10 hq2_v10 hq3_v10 hq4_v10 hq5_v10 hq8_v10 hq9_v10 hq10_v10 hq13_v10 hq14_v10 hq15_v10 hq17_v10 hq18_v10 hq24_v10 hq25_v10 hq35_v10 hq36_v10 hq38_v10 hq39_v10 hr4_10 hM_v10 hA_f10 hm10 H locs ls hP hD hS hl
        refine lv_iload hx hb dX11_dress_22 (lv_at hl 0 rfl) ?_
        refine lv_aload_n hx hb dX11_dress_24 rfl (lv_at hl 3 rfl) ?_
        refine va_get (D := (dC, dI)) (ci := 11) (v := .int (v10 25)) (C := RX11) (T := TX11) (N := 79) hx hb hts inB_11 hown hE.1 hP 0 rfl rfl 49 (Nat.le_of_ble_eq_true rfl) (hts _ k_1369) (fun _ h9 => h9) rfl dX11_dress_25 ?_
        refine tI (y := (v 25)) hq25_v10 ?_
        refine lv_iconst (v := 1) hx hb dX11_dress_28 rfl ?_
        refine lv_iadd hx hb dX11_dress_29 ?_
        refine lv_topi (fun t11 et11 => ?_)
        refine lv_aload_n hx hb dX11_dress_30 rfl (lv_at hl 3 rfl) ?_
        refine va_get (D := (dC, dI)) (ci := 11) (v := .int (v10 24)) (C := RX11) (T := TX11) (N := 79) hx hb hts inB_11 hown hE.1 hP 0 rfl rfl 48 (Nat.le_of_ble_eq_true rfl) (hts _ k_1368) (fun _ h9 => h9) rfl dX11_dress_31 ?_
        refine tI (y := (v 24)) hq24_v10 ?_
        have b24_v : 0 ≤ (v 24).toInt ∧ (v 24).toInt ≤ 6 := Yb_24 hIv.1
        refine cbSi (n := 2) (rest := [.int l4_10]) hx hb hml hown hts hE hP hD hS hA (sY_X11_power_1 0 l dC dI cy y0 r t11 (v 24) v10 f10 w10 g10 hIv10 hCf10 hRf10 ) k_1877 k_1878 k_114 k_1879 he_yX11_power ⟨Nat.le_of_ble_eq_true rfl, Nat.le_of_ble_eq_true rfl⟩ (rfl) hl.1 rfl (Nat.le_of_ble_eq_true rfl) dX11_dress_34 (fun r13 u H locs hw hP hD hS => ?_)
        have hG14 := hw
        refine lv_icmp_ge (tgt := 122) hx hb dX11_dress_37 rfl (fun c15 => ?_) (fun c15 => ?_)
        · skip
          refine lv_aload_n hx hb dX11_dress_122 rfl (lv_at hl 3 rfl) ?_
          refine lv_aload_n hx hb dX11_dress_123 rfl (lv_at hl 3 rfl) ?_
          refine va_get (D := (dC, dI)) (ci := 11) (v := .int (v10 24)) (C := RX11) (T := TX11) (N := 79) hx hb hts inB_11 hown hE.1 hP 0 rfl rfl 48 (Nat.le_of_ble_eq_true rfl) (hts _ k_1368) (fun _ h9 => h9) rfl dX11_dress_124 ?_
          refine tI (y := (v 24)) hq24_v10 ?_
          refine va_put (D := (dC, dI)) (ci := 11) (v := .int (v 24)) (ty := tyX11 67) (C := RX11) (T := TX11) (N := 79) hx hb hts inB_11 tyX11 tyX11_ok nmX11 hown hE.1 hP hD hS 0 rfl rfl 67 (Nat.le_of_ble_eq_true rfl) (hts _ k_1387) (fun _ h9 => h9) rfl (tyX11_ok 67 (Nat.le_of_ble_eq_true rfl)) rfl rfl (Nat.le_of_ble_eq_true rfl) dX11_dress_127 (fun H locs hP hD hS => ?_)
          have hP : va_P (dC, dI) vwCl (YW cy y0 r (upd v10 37 (v 24)) f10 w10 g10) H := hP
          have hD : va_D A (YW cy y0 r (upd v10 37 (v 24)) f10 w10 g10) := hD
          refine lv_iload_n hx hb dX11_dress_130 rfl (lv_at hl 4 rfl) ?_
          refine lv_if_ne (tgt := 138) hx hb dX11_dress_131 rfl (fun c18 => ?_) (fun c18 => ?_)
          · skip
            refine lv_iload_n hx hb dX11_dress_138 rfl (lv_at hl 1 rfl) ?_
            exact ret l3_10 ((upd v10 37 (v 24)), f10, w10, g10) _ _ _ _ _ _ rfl ⟨(KV.up (j := 37) (x := (v 24)) hM_v10 rfl), hA_f10, ⟨(Yu_37 (x := (v 24)) hIv10.1 (show (0 : Int) ≤ (v 24).toInt from om_98 b24_v) (show (v 24).toInt ≤ (6 : Int) from om_99 b24_v)), hIv10.2⟩, hCf10, hRf10, hq0_v10, hq1_v10, hq2_v10, hq3_v10, hq4_v10, hq5_v10, hq8_v10, hq9_v10, hq10_v10, hq13_v10, hq14_v10, hq15_v10, hq17_v10, hq18_v10, hq24_v10, hq25_v10, hq35_v10, hq36_v10, hq38_v10, hq39_v10⟩ hP hD hS dX11_dress_139 (Nat.le_refl _) (Nat.le_refl _)
          · skip
            refine lv_iload_n hx hb dX11_dress_134 rfl (lv_at hl 2 rfl) ?_
            refine lv_goto (tgt := 139) hx hb dX11_dress_135 rfl ?_
            exact ret l2_10 ((upd v10 37 (v 24)), f10, w10, g10) _ _ _ _ _ _ rfl ⟨(KV.up (j := 37) (x := (v 24)) hM_v10 rfl), hA_f10, ⟨(Yu_37 (x := (v 24)) hIv10.1 (show (0 : Int) ≤ (v 24).toInt from om_98 b24_v) (show (v 24).toInt ≤ (6 : Int) from om_99 b24_v)), hIv10.2⟩, hCf10, hRf10, hq0_v10, hq1_v10, hq2_v10, hq3_v10, hq4_v10, hq5_v10, hq8_v10, hq9_v10, hq10_v10, hq13_v10, hq14_v10, hq15_v10, hq17_v10, hq18_v10, hq24_v10, hq25_v10, hq35_v10, hq36_v10, hq38_v10, hq39_v10⟩ hP hD hS dX11_dress_139 (Nat.le_refl _) (Nat.le_refl _)
        · skip
          have zc15 : ¬ (r13.toInt ≤ l4_10.toInt) := zMn rfl rfl c15
          have rg20 := fb_rng r13
          refine lv_aload_n hx hb dX11_dress_40 rfl (lv_at hl 3 rfl) ?_
          refine lv_iload hx hb dX11_dress_41 (lv_at hl 0 rfl) ?_
          refine cbVi (n := 1) (rest := []) hx hb hml hown hts hE hP hD hS hA (sY_X11_layDress_1 l dC dI cy y0 r l4_10 v10 f10 w10 g10 hIv10 hCf10 hRf10 ⟨show (0 : Int) ≤ l4_10.toInt from om_39 hr4_10, show l4_10.toInt ≤ (2147483647 : Int) from om_697 hr4_10⟩) k_1880 k_1882 k_85 k_114 k_1883 hd_yX11_layDress ⟨Nat.le_of_ble_eq_true rfl, Nat.le_of_ble_eq_true rfl⟩ 0 11 rfl rfl (rfl) hl.1 rfl (Nat.le_of_ble_eq_true rfl) dX11_dress_43 (fun r21 u H locs hw hP hD hS => ?_)
          obtain ⟨v22, f23, w24, g25⟩ := u
          obtain ⟨kV_v22, kF_f23, hIv22, hCf23, hRf23, hk0_v22, hk1_v22, hk2_v22, hk3_v22, hk4_v22, hk5_v22, hk8_v22, hk9_v22, hk10_v22, hk13_v22, hk14_v22, hk15_v22, hk17_v22, hk18_v22, hk24_v22, hk25_v22, hk35_v22, hk36_v22, hk38_v22, hk39_v22⟩ := hw
          have hM_v22 : KV [37] v22 v := KV.tr kV_v22 hM_v10 rfl
          have hA_f23 : KF [7, 8, 24, 26, 27, 28] f23 f := KF.tr kF_f23 hA_f10 rfl
          have hP : va_P (dC, dI) vwCl (YW cy y0 r v22 f23 w24 g25) H := hP
          have hD : va_D A (YW cy y0 r v22 f23 w24 g25) := hD
          have hq0_v22 : v22 0 = (v 0) := hk0_v22.trans hq0_v10
          have hq1_v22 : v22 1 = (v 1) := hk1_v22.trans hq1_v10
          have hq2_v22 : v22 2 = (v 2) := hk2_v22.trans hq2_v10
          have hq3_v22 : v22 3 = (v 3) := hk3_v22.trans hq3_v10
          have hq4_v22 : v22 4 = (v 4) := hk4_v22.trans hq4_v10
          have hq5_v22 : v22 5 = (v 5) := hk5_v22.trans hq5_v10
          have hq8_v22 : v22 8 = (v 8) := hk8_v22.trans hq8_v10
          have hq9_v22 : v22 9 = (v 9) := hk9_v22.trans hq9_v10
          have hq10_v22 : v22 10 = (v 10) := hk10_v22.trans hq10_v10
          have hq13_v22 : v22 13 = (v 13) := hk13_v22.trans hq13_v10
          have hq14_v22 : v22 14 = (v 14) := hk14_v22.trans hq14_v10
          have hq15_v22 : v22 15 = (v 15) := hk15_v22.trans hq15_v10
          have hq17_v22 : v22 17 = (v 17) := hk17_v22.trans hq17_v10
          have hq18_v22 : v22 18 = (v 18) := hk18_v22.trans hq18_v10
          have hq24_v22 : v22 24 = (v 24) := hk24_v22.trans hq24_v10
          have hq25_v22 : v22 25 = (v 25) := hk25_v22.trans hq25_v10
          have hq35_v22 : v22 35 = (v 35) := hk35_v22.trans hq35_v10
          have hq36_v22 : v22 36 = (v 36) := hk36_v22.trans hq36_v10
          have hq38_v22 : v22 38 = (v 38) := hk38_v22.trans hq38_v10
          have hq39_v22 : v22 39 = (v 39) := hk39_v22.trans hq39_v10
          refine lv_istore (lv' := [(5, .int r21), (4, .int l4_10), (3, .int l3_10), (2, .int l2_10), (0, .ref y0), (1, .int p1)]) hx hb dX11_dress_46 hl (Nat.le_of_ble_eq_true rfl) rfl (fun ls hl => ?_)
          refine lv_iload hx hb dX11_dress_48 (lv_at hl 0 rfl) ?_
          refine lv_if_lt (tgt := 116) hx hb dX11_dress_50 rfl (fun c26 => ?_) (fun c26 => ?_)
          · skip
            obtain ⟨t27, et27⟩ : ∃ y : Int32, y = l4_10 + 1 := ⟨_, rfl⟩
            have zt27 : t27.toInt = l4_10.toInt + 1 := (congrArg Int32.toInt et27).trans (add_i rfl tc_1 (om_41 hr4_10) (om_196 zc15 rg20))
            refine lv_iinc (v := t27) (lv' := [(4, .int t27), (5, .int r21), (3, .int l3_10), (2, .int l2_10), (0, .ref y0), (1, .int p1)]) hx hb dX11_dress_116 hl (k := 1) rfl et27.symm (Nat.le_of_ble_eq_true rfl) rfl (fun ls hl => ?_)
            refine lv_goto (tgt := 22) hx hb dX11_dress_119 rfl ?_
            have rg28 := fb_rng t27
            exact ih10 l2_10 l3_10 t27 v22 f23 w24 g25 hIv22 hCf23 hRf23 hq0_v22 hq1_v22 hq2_v22 hq3_v22 hq4_v22 hq5_v22 hq8_v22 hq9_v22 hq10_v22 hq13_v22 hq14_v22 hq15_v22 hq17_v22 hq18_v22 hq24_v22 hq25_v22 hq35_v22 hq36_v22 hq38_v22 hq39_v22 ⟨show (0 : Int) ≤ t27.toInt from om_43 hr4_10 zt27, show t27.toInt ≤ (2147483647 : Int) from om_44 rg28⟩ hM_v22 hA_f23 (show (2147483647 - t27.toInt).toNat < n10 from om_33 hm10 zt27 rg28) _ _ _ hP hD hS (lv_sub hl [0, 2, 3, 4, 5] rfl)
          · skip
            refine lv_iload hx hb dX11_dress_53 (lv_at hl 0 rfl) ?_
            refine lv_iload_n hx hb dX11_dress_55 rfl (lv_at hl 3 rfl) ?_
            refine lv_icmp_lt (tgt := 116) hx hb dX11_dress_56 rfl (fun c29 => ?_) (fun c29 => ?_)
            · skip
              obtain ⟨t32, et32⟩ : ∃ y : Int32, y = l4_10 + 1 := ⟨_, rfl⟩
              have zt32 : t32.toInt = l4_10.toInt + 1 := (congrArg Int32.toInt et32).trans (add_i rfl tc_1 (om_41 hr4_10) (om_196 zc15 rg20))
              refine lv_iinc (v := t32) (lv' := [(4, .int t32), (5, .int r21), (3, .int l3_10), (2, .int l2_10), (0, .ref y0), (1, .int p1)]) hx hb dX11_dress_116 hl (k := 1) rfl et32.symm (Nat.le_of_ble_eq_true rfl) rfl (fun ls hl => ?_)
              refine lv_goto (tgt := 22) hx hb dX11_dress_119 rfl ?_
              have rg33 := fb_rng t32
              exact ih10 l2_10 l3_10 t32 v22 f23 w24 g25 hIv22 hCf23 hRf23 hq0_v22 hq1_v22 hq2_v22 hq3_v22 hq4_v22 hq5_v22 hq8_v22 hq9_v22 hq10_v22 hq13_v22 hq14_v22 hq15_v22 hq17_v22 hq18_v22 hq24_v22 hq25_v22 hq35_v22 hq36_v22 hq38_v22 hq39_v22 ⟨show (0 : Int) ≤ t32.toInt from om_43 hr4_10 zt32, show t32.toInt ≤ (2147483647 : Int) from om_44 rg33⟩ hM_v22 hA_f23 (show (2147483647 - t32.toInt).toNat < n10 from om_33 hm10 zt32 rg33) _ _ _ hP hD hS (lv_sub hl [0, 2, 3, 4, 5] rfl)
            · skip
              refine lv_iload hx hb dX11_dress_59 (lv_at hl 0 rfl) ?_
              refine lv_iload_n hx hb dX11_dress_61 rfl (lv_at hl 3 rfl) ?_
              refine lv_icmp_ne (tgt := 76) hx hb dX11_dress_62 rfl (fun c36 => ?_) (fun c36 => ?_)
              · skip
                refine lv_iload hx hb dX11_dress_76 (lv_at hl 0 rfl) ?_
                refine lv_istore_n (lv' := [(2, .int r21), (5, .int r21), (4, .int l4_10), (3, .int l3_10), (0, .ref y0), (1, .int p1)]) hx hb dX11_dress_78 rfl hl (Nat.le_of_ble_eq_true rfl) rfl (fun ls hl => ?_)
                refine lv_aload_n hx hb dX11_dress_79 rfl (lv_at hl 4 rfl) ?_
                refine cbVi (n := 0) (rest := []) hx hb hml hown hts hE hP hD hS hA (sY_X11_illOfRow_1 l dC dI cy y0 r  v22 f23 w24 g25 hIv22 hCf23 hRf23 ) k_1884 k_1886 k_86 k_114 k_1887 hd_yX11_illOfRow ⟨Nat.le_of_ble_eq_true rfl, Nat.le_of_ble_eq_true rfl⟩ 0 11 rfl rfl (rfl) hl.1 rfl (Nat.le_of_ble_eq_true rfl) dX11_dress_80 (fun r37 u H locs hw hP hD hS => ?_)
                refine lv_istore_n (lv' := [(3, .int r37), (2, .int r21), (5, .int r21), (4, .int l4_10), (0, .ref y0), (1, .int p1)]) hx hb dX11_dress_83 rfl hl (Nat.le_of_ble_eq_true rfl) rfl (fun ls hl => ?_)
                refine lv_iconst (v := 0) hx hb dX11_dress_84 rfl ?_
                refine lv_istore (lv' := [(6, .int 0), (3, .int r37), (2, .int r21), (5, .int r21), (4, .int l4_10), (0, .ref y0), (1, .int p1)]) hx hb dX11_dress_85 hl (Nat.le_of_ble_eq_true rfl) rfl (fun ls hl => ?_)
                have lp38 : ∀ (n38 : Nat) (l6_38 : Int32) (v38 : Nat → Int32) (f38 : Nat → Nat → Int32) (w38 : Int64) (g38 : Nat → Int64), YI v38 → YC f38 → progOK (f38 4) (f38 5) (v38 9).toInt.toNat → v38 0 = (v 0) → v38 1 = (v 1) → v38 2 = (v 2) → v38 3 = (v 3) → v38 4 = (v 4) → v38 5 = (v 5) → v38 8 = (v 8) → v38 9 = (v 9) → v38 10 = (v 10) → v38 13 = (v 13) → v38 14 = (v 14) → v38 15 = (v 15) → v38 17 = (v 17) → v38 18 = (v 18) → v38 24 = (v 24) → v38 25 = (v 25) → v38 35 = (v 35) → v38 36 = (v 36) → v38 38 = (v 38) → v38 39 = (v 39) → ((0 : Int) ≤ l6_38.toInt ∧ l6_38.toInt ≤ 2147483647) → KV [37] v38 v → KF [7, 8, 24, 26, 27, 28] f38 f → (2147483647 - l6_38.toInt).toNat < n38 → ∀ (H : Heap) (locs : List Loc) (ls : Array Slot), va_P (dC, dI) vwCl (YW cy y0 r v38 f38 w38 g38) H → va_D A (YW cy y0 r v38 f38 w38 g38) → va_S A s.heap H locs → lv_has ls 7 [(6, .int l6_38), (3, .int r37), (2, .int r21), (5, .int r21), (4, .int l4_10), (0, .ref y0), (1, .int p1)] → W p l e { frames := 5, cells := 0, slots := 0, locals := 148 } s m ([.ref y0, .int p1] : List Value).toArray below meth c H locs 0 0 Q (F0 m 87 ls []) := by
                  intro n38
                  induction n38 with
                  | zero => intro l6_38 v38 f38 w38 g38 hIv38 hCf38 hRf38 hq0_v38 hq1_v38 hq2_v38 hq3_v38 hq4_v38 hq5_v38 hq8_v38 hq9_v38 hq10_v38 hq13_v38 hq14_v38 hq15_v38 hq17_v38 hq18_v38 hq24_v38 hq25_v38 hq35_v38 hq36_v38 hq38_v38 hq39_v38 hr6_38 hM_v38 hA_f38 hm; exact absurd hm (Nat.not_lt_zero _)
                  | succ n38 ih38 =>
                    intro l6_38 v38 f38 w38 g38 hIv38 hCf38 hRf38 hq0_v38 hq1_v38 hq2_v38 hq3_v38 hq4_v38 hq5_v38 hq8_v38 hq9_v38 hq10_v38 hq13_v38 hq14_v38 hq15_v38 hq17_v38 hq18_v38 hq24_v38 hq25_v38 hq35_v38 hq36_v38 hq38_v38 hq39_v38 hr6_38 hM_v38 hA_f38 hm38 H locs ls hP hD hS hl
                    refine lv_iload hx hb dX11_dress_87 (lv_at hl 0 rfl) ?_
                    refine lv_aload_n hx hb dX11_dress_89 rfl (lv_at hl 5 rfl) ?_
                    refine va_get (D := (dC, dI)) (ci := 11) (v := .int (v38 24)) (C := RX11) (T := TX11) (N := 79) hx hb hts inB_11 hown hE.1 hP 0 rfl rfl 48 (Nat.le_of_ble_eq_true rfl) (hts _ k_1368) (fun _ h9 => h9) rfl dX11_dress_90 ?_
                    refine tI (y := (v 24)) hq24_v38 ?_
                    have b24_v : 0 ≤ (v 24).toInt ∧ (v 24).toInt ≤ 6 := Yb_24 hIv.1
                    refine lv_icmp_ge (tgt := 116) hx hb dX11_dress_93 rfl (fun c39 => ?_) (fun c39 => ?_)
                    · skip
                      obtain ⟨t42, et42⟩ : ∃ y : Int32, y = l4_10 + 1 := ⟨_, rfl⟩
                      have zt42 : t42.toInt = l4_10.toInt + 1 := (congrArg Int32.toInt et42).trans (add_i rfl tc_1 (om_41 hr4_10) (om_196 zc15 rg20))
                      refine lv_iinc (v := t42) (lv' := [(4, .int t42), (6, .int l6_38), (3, .int r37), (2, .int r21), (5, .int r21), (0, .ref y0), (1, .int p1)]) hx hb dX11_dress_116 hl (k := 4) rfl et42.symm (Nat.le_of_ble_eq_true rfl) rfl (fun ls hl => ?_)
                      refine lv_goto (tgt := 22) hx hb dX11_dress_119 rfl ?_
                      have rg43 := fb_rng t42
                      exact ih10 r21 r37 t42 v38 f38 w38 g38 hIv38 hCf38 hRf38 hq0_v38 hq1_v38 hq2_v38 hq3_v38 hq4_v38 hq5_v38 hq8_v38 hq9_v38 hq10_v38 hq13_v38 hq14_v38 hq15_v38 hq17_v38 hq18_v38 hq24_v38 hq25_v38 hq35_v38 hq36_v38 hq38_v38 hq39_v38 ⟨show (0 : Int) ≤ t42.toInt from om_43 hr4_10 zt42, show t42.toInt ≤ (2147483647 : Int) from om_44 rg43⟩ hM_v38 hA_f38 (show (2147483647 - t42.toInt).toNat < n10 from om_33 hm10 zt42 rg43) _ _ _ hP hD hS (lv_sub hl [0, 2, 3, 5, 6] rfl)
                    · skip
                      have zc39 : ¬ ((v 24).toInt ≤ l6_38.toInt) := zMn rfl rfl c39
                      refine lv_aload_n hx hb dX11_dress_96 rfl (lv_at hl 5 rfl) ?_
                      refine va_get (D := (dC, dI)) (ci := 11) (v := .ref (r 64)) (C := RX11) (T := TX11) (N := 79) hx hb hts inB_11 hown hE.1 hP 0 rfl rfl 64 (Nat.le_of_ble_eq_true rfl) (hts _ k_1384) (fun _ h9 => h9) rfl dX11_dress_97 ?_
                      refine lv_iload hx hb dX11_dress_100 (lv_at hl 0 rfl) ?_
                      refine lv_aload_n hx hb dX11_dress_102 rfl (lv_at hl 5 rfl) ?_
                      refine va_get (D := (dC, dI)) (ci := 11) (v := .ref (r 65)) (C := RX11) (T := TX11) (N := 79) hx hb hts inB_11 hown hE.1 hP 0 rfl rfl 65 (Nat.le_of_ble_eq_true rfl) (hts _ k_1385) (fun _ h9 => h9) rfl dX11_dress_103 ?_
                      refine lv_iload hx hb dX11_dress_106 (lv_at hl 0 rfl) ?_
                      refine ldI hx hb hE hP 28 rfl (vpI (k := 6) rfl (show 0 ≤ l6_38.toInt from om_39 hr6_38) (show l6_38.toInt < 6 from om_460 b24_v zc39)) rfl rfl dX11_dress_108 ?_
                      refine lv_topi (fun t46 et46 => ?_)
                      refine stI hx hb hE hP hD hS 27 rfl (vpI (k := 6) rfl (show 0 ≤ l6_38.toInt from om_39 hr6_38) (show l6_38.toInt < 6 from om_460 b24_v zc39)) rfl dX11_dress_109 (fun H locs hP hD hS => ?_)
                      obtain ⟨f47, ef47, hP, hD⟩ : ∃ fz9, fz9 = upd2 f38 26 (upd (f38 26) l6_38.toNatClampNeg t46) ∧ va_P (dC, dI) vwCl (YW cy y0 r v38 fz9 w38 g38) H ∧ va_D A (YW cy y0 r v38 fz9 w38 g38) := ⟨_, rfl, hP, hD⟩
                      have hCf47 : YC f47 := by rw [ef47]; exact hCf38
                      have hRf47 : progOK (f47 4) (f47 5) (v38 9).toInt.toNat := by rw [ef47]; exact hRf38
                      have hA_f47 : KF [7, 8, 24, 26, 27, 28] f47 f := by rw [ef47]; exact KF.up hA_f38 rfl
                      obtain ⟨t48, et48⟩ : ∃ y : Int32, y = l6_38 + 1 := ⟨_, rfl⟩
                      have zt48 : t48.toInt = l6_38.toInt + 1 := (congrArg Int32.toInt et48).trans (add_i rfl tc_1 (om_41 hr6_38) (om_187 b24_v zc39))
                      refine lv_iinc (v := t48) (lv' := [(6, .int t48), (3, .int r37), (2, .int r21), (5, .int r21), (4, .int l4_10), (0, .ref y0), (1, .int p1)]) hx hb dX11_dress_110 hl (k := 0) rfl et48.symm (Nat.le_of_ble_eq_true rfl) rfl (fun ls hl => ?_)
                      refine lv_goto (tgt := 87) hx hb dX11_dress_113 rfl ?_
                      have rg49 := fb_rng t48
                      exact ih38 t48 v38 f47 w38 g38 hIv38 hCf47 hRf47 hq0_v38 hq1_v38 hq2_v38 hq3_v38 hq4_v38 hq5_v38 hq8_v38 hq9_v38 hq10_v38 hq13_v38 hq14_v38 hq15_v38 hq17_v38 hq18_v38 hq24_v38 hq25_v38 hq35_v38 hq36_v38 hq38_v38 hq39_v38 ⟨show (0 : Int) ≤ t48.toInt from om_43 hr6_38 zt48, show t48.toInt ≤ (2147483647 : Int) from om_44 rg49⟩ hM_v38 hA_f47 (show (2147483647 - t48.toInt).toNat < n38 from om_33 hm38 zt48 rg49) _ _ _ hP hD hS (lv_sub hl [0, 1, 2, 3, 4, 5, 6] rfl)
                exact lp38 _ 0 v22 f23 w24 g25 hIv22 hCf23 hRf23 hq0_v22 hq1_v22 hq2_v22 hq3_v22 hq4_v22 hq5_v22 hq8_v22 hq9_v22 hq10_v22 hq13_v22 hq14_v22 hq15_v22 hq17_v22 hq18_v22 hq24_v22 hq25_v22 hq35_v22 hq36_v22 hq38_v22 hq39_v22 ⟨by decide, by decide⟩ hM_v22 hA_f23 (Nat.lt_succ_self _) _ _ _ hP hD hS (lv_sub hl [0, 1, 2, 3, 4, 5, 6] rfl)
              · skip
                refine lv_aload_n hx hb dX11_dress_65 rfl (lv_at hl 4 rfl) ?_
                refine cbVi (n := 0) (rest := []) hx hb hml hown hts hE hP hD hS hA (sY_X11_illOfRow_1 l dC dI cy y0 r  v22 f23 w24 g25 hIv22 hCf23 hRf23 ) k_1884 k_1886 k_86 k_114 k_1887 hd_yX11_illOfRow ⟨Nat.le_of_ble_eq_true rfl, Nat.le_of_ble_eq_true rfl⟩ 0 11 rfl rfl (rfl) hl.1 rfl (Nat.le_of_ble_eq_true rfl) dX11_dress_66 (fun r50 u H locs hw hP hD hS => ?_)
                refine lv_iload_n hx hb dX11_dress_69 rfl (lv_at hl 2 rfl) ?_
                refine lv_icmp_lt (tgt := 76) hx hb dX11_dress_70 rfl (fun c51 => ?_) (fun c51 => ?_)
                · skip
                  refine lv_iload hx hb dX11_dress_76 (lv_at hl 0 rfl) ?_
                  refine lv_istore_n (lv' := [(2, .int r21), (5, .int r21), (4, .int l4_10), (3, .int l3_10), (0, .ref y0), (1, .int p1)]) hx hb dX11_dress_78 rfl hl (Nat.le_of_ble_eq_true rfl) rfl (fun ls hl => ?_)
                  refine lv_aload_n hx hb dX11_dress_79 rfl (lv_at hl 4 rfl) ?_
                  refine cbVi (n := 0) (rest := []) hx hb hml hown hts hE hP hD hS hA (sY_X11_illOfRow_1 l dC dI cy y0 r  v22 f23 w24 g25 hIv22 hCf23 hRf23 ) k_1884 k_1886 k_86 k_114 k_1887 hd_yX11_illOfRow ⟨Nat.le_of_ble_eq_true rfl, Nat.le_of_ble_eq_true rfl⟩ 0 11 rfl rfl (rfl) hl.1 rfl (Nat.le_of_ble_eq_true rfl) dX11_dress_80 (fun r54 u H locs hw hP hD hS => ?_)
                  refine lv_istore_n (lv' := [(3, .int r54), (2, .int r21), (5, .int r21), (4, .int l4_10), (0, .ref y0), (1, .int p1)]) hx hb dX11_dress_83 rfl hl (Nat.le_of_ble_eq_true rfl) rfl (fun ls hl => ?_)
                  refine lv_iconst (v := 0) hx hb dX11_dress_84 rfl ?_
                  refine lv_istore (lv' := [(6, .int 0), (3, .int r54), (2, .int r21), (5, .int r21), (4, .int l4_10), (0, .ref y0), (1, .int p1)]) hx hb dX11_dress_85 hl (Nat.le_of_ble_eq_true rfl) rfl (fun ls hl => ?_)
                  have lp55 : ∀ (n55 : Nat) (l6_55 : Int32) (v55 : Nat → Int32) (f55 : Nat → Nat → Int32) (w55 : Int64) (g55 : Nat → Int64), YI v55 → YC f55 → progOK (f55 4) (f55 5) (v55 9).toInt.toNat → v55 0 = (v 0) → v55 1 = (v 1) → v55 2 = (v 2) → v55 3 = (v 3) → v55 4 = (v 4) → v55 5 = (v 5) → v55 8 = (v 8) → v55 9 = (v 9) → v55 10 = (v 10) → v55 13 = (v 13) → v55 14 = (v 14) → v55 15 = (v 15) → v55 17 = (v 17) → v55 18 = (v 18) → v55 24 = (v 24) → v55 25 = (v 25) → v55 35 = (v 35) → v55 36 = (v 36) → v55 38 = (v 38) → v55 39 = (v 39) → ((0 : Int) ≤ l6_55.toInt ∧ l6_55.toInt ≤ 2147483647) → KV [37] v55 v → KF [7, 8, 24, 26, 27, 28] f55 f → (2147483647 - l6_55.toInt).toNat < n55 → ∀ (H : Heap) (locs : List Loc) (ls : Array Slot), va_P (dC, dI) vwCl (YW cy y0 r v55 f55 w55 g55) H → va_D A (YW cy y0 r v55 f55 w55 g55) → va_S A s.heap H locs → lv_has ls 7 [(6, .int l6_55), (3, .int r54), (2, .int r21), (5, .int r21), (4, .int l4_10), (0, .ref y0), (1, .int p1)] → W p l e { frames := 5, cells := 0, slots := 0, locals := 148 } s m ([.ref y0, .int p1] : List Value).toArray below meth c H locs 0 0 Q (F0 m 87 ls []) := by
                    intro n55
                    induction n55 with
                    | zero => intro l6_55 v55 f55 w55 g55 hIv55 hCf55 hRf55 hq0_v55 hq1_v55 hq2_v55 hq3_v55 hq4_v55 hq5_v55 hq8_v55 hq9_v55 hq10_v55 hq13_v55 hq14_v55 hq15_v55 hq17_v55 hq18_v55 hq24_v55 hq25_v55 hq35_v55 hq36_v55 hq38_v55 hq39_v55 hr6_55 hM_v55 hA_f55 hm; exact absurd hm (Nat.not_lt_zero _)
                    | succ n55 ih55 =>
                      intro l6_55 v55 f55 w55 g55 hIv55 hCf55 hRf55 hq0_v55 hq1_v55 hq2_v55 hq3_v55 hq4_v55 hq5_v55 hq8_v55 hq9_v55 hq10_v55 hq13_v55 hq14_v55 hq15_v55 hq17_v55 hq18_v55 hq24_v55 hq25_v55 hq35_v55 hq36_v55 hq38_v55 hq39_v55 hr6_55 hM_v55 hA_f55 hm55 H locs ls hP hD hS hl
                      refine lv_iload hx hb dX11_dress_87 (lv_at hl 0 rfl) ?_
                      refine lv_aload_n hx hb dX11_dress_89 rfl (lv_at hl 5 rfl) ?_
                      refine va_get (D := (dC, dI)) (ci := 11) (v := .int (v55 24)) (C := RX11) (T := TX11) (N := 79) hx hb hts inB_11 hown hE.1 hP 0 rfl rfl 48 (Nat.le_of_ble_eq_true rfl) (hts _ k_1368) (fun _ h9 => h9) rfl dX11_dress_90 ?_
                      refine tI (y := (v 24)) hq24_v55 ?_
                      have b24_v : 0 ≤ (v 24).toInt ∧ (v 24).toInt ≤ 6 := Yb_24 hIv.1
                      refine lv_icmp_ge (tgt := 116) hx hb dX11_dress_93 rfl (fun c56 => ?_) (fun c56 => ?_)
                      · skip
                        obtain ⟨t59, et59⟩ : ∃ y : Int32, y = l4_10 + 1 := ⟨_, rfl⟩
                        have zt59 : t59.toInt = l4_10.toInt + 1 := (congrArg Int32.toInt et59).trans (add_i rfl tc_1 (om_41 hr4_10) (om_196 zc15 rg20))
                        refine lv_iinc (v := t59) (lv' := [(4, .int t59), (6, .int l6_55), (3, .int r54), (2, .int r21), (5, .int r21), (0, .ref y0), (1, .int p1)]) hx hb dX11_dress_116 hl (k := 4) rfl et59.symm (Nat.le_of_ble_eq_true rfl) rfl (fun ls hl => ?_)
                        refine lv_goto (tgt := 22) hx hb dX11_dress_119 rfl ?_
                        have rg60 := fb_rng t59
                        exact ih10 r21 r54 t59 v55 f55 w55 g55 hIv55 hCf55 hRf55 hq0_v55 hq1_v55 hq2_v55 hq3_v55 hq4_v55 hq5_v55 hq8_v55 hq9_v55 hq10_v55 hq13_v55 hq14_v55 hq15_v55 hq17_v55 hq18_v55 hq24_v55 hq25_v55 hq35_v55 hq36_v55 hq38_v55 hq39_v55 ⟨show (0 : Int) ≤ t59.toInt from om_43 hr4_10 zt59, show t59.toInt ≤ (2147483647 : Int) from om_44 rg60⟩ hM_v55 hA_f55 (show (2147483647 - t59.toInt).toNat < n10 from om_33 hm10 zt59 rg60) _ _ _ hP hD hS (lv_sub hl [0, 2, 3, 5, 6] rfl)
                      · skip
                        have zc56 : ¬ ((v 24).toInt ≤ l6_55.toInt) := zMn rfl rfl c56
                        refine lv_aload_n hx hb dX11_dress_96 rfl (lv_at hl 5 rfl) ?_
                        refine va_get (D := (dC, dI)) (ci := 11) (v := .ref (r 64)) (C := RX11) (T := TX11) (N := 79) hx hb hts inB_11 hown hE.1 hP 0 rfl rfl 64 (Nat.le_of_ble_eq_true rfl) (hts _ k_1384) (fun _ h9 => h9) rfl dX11_dress_97 ?_
                        refine lv_iload hx hb dX11_dress_100 (lv_at hl 0 rfl) ?_
                        refine lv_aload_n hx hb dX11_dress_102 rfl (lv_at hl 5 rfl) ?_
                        refine va_get (D := (dC, dI)) (ci := 11) (v := .ref (r 65)) (C := RX11) (T := TX11) (N := 79) hx hb hts inB_11 hown hE.1 hP 0 rfl rfl 65 (Nat.le_of_ble_eq_true rfl) (hts _ k_1385) (fun _ h9 => h9) rfl dX11_dress_103 ?_
                        refine lv_iload hx hb dX11_dress_106 (lv_at hl 0 rfl) ?_
                        refine ldI hx hb hE hP 28 rfl (vpI (k := 6) rfl (show 0 ≤ l6_55.toInt from om_39 hr6_55) (show l6_55.toInt < 6 from om_460 b24_v zc56)) rfl rfl dX11_dress_108 ?_
                        refine lv_topi (fun t63 et63 => ?_)
                        refine stI hx hb hE hP hD hS 27 rfl (vpI (k := 6) rfl (show 0 ≤ l6_55.toInt from om_39 hr6_55) (show l6_55.toInt < 6 from om_460 b24_v zc56)) rfl dX11_dress_109 (fun H locs hP hD hS => ?_)
                        obtain ⟨f64, ef64, hP, hD⟩ : ∃ fz9, fz9 = upd2 f55 26 (upd (f55 26) l6_55.toNatClampNeg t63) ∧ va_P (dC, dI) vwCl (YW cy y0 r v55 fz9 w55 g55) H ∧ va_D A (YW cy y0 r v55 fz9 w55 g55) := ⟨_, rfl, hP, hD⟩
                        have hCf64 : YC f64 := by rw [ef64]; exact hCf55
                        have hRf64 : progOK (f64 4) (f64 5) (v55 9).toInt.toNat := by rw [ef64]; exact hRf55
                        have hA_f64 : KF [7, 8, 24, 26, 27, 28] f64 f := by rw [ef64]; exact KF.up hA_f55 rfl
                        obtain ⟨t65, et65⟩ : ∃ y : Int32, y = l6_55 + 1 := ⟨_, rfl⟩
                        have zt65 : t65.toInt = l6_55.toInt + 1 := (congrArg Int32.toInt et65).trans (add_i rfl tc_1 (om_41 hr6_55) (om_187 b24_v zc56))
                        refine lv_iinc (v := t65) (lv' := [(6, .int t65), (3, .int r54), (2, .int r21), (5, .int r21), (4, .int l4_10), (0, .ref y0), (1, .int p1)]) hx hb dX11_dress_110 hl (k := 0) rfl et65.symm (Nat.le_of_ble_eq_true rfl) rfl (fun ls hl => ?_)
                        refine lv_goto (tgt := 87) hx hb dX11_dress_113 rfl ?_
                        have rg66 := fb_rng t65
                        exact ih55 t65 v55 f64 w55 g55 hIv55 hCf64 hRf64 hq0_v55 hq1_v55 hq2_v55 hq3_v55 hq4_v55 hq5_v55 hq8_v55 hq9_v55 hq10_v55 hq13_v55 hq14_v55 hq15_v55 hq17_v55 hq18_v55 hq24_v55 hq25_v55 hq35_v55 hq36_v55 hq38_v55 hq39_v55 ⟨show (0 : Int) ≤ t65.toInt from om_43 hr6_55 zt65, show t65.toInt ≤ (2147483647 : Int) from om_44 rg66⟩ hM_v55 hA_f64 (show (2147483647 - t65.toInt).toNat < n55 from om_33 hm55 zt65 rg66) _ _ _ hP hD hS (lv_sub hl [0, 1, 2, 3, 4, 5, 6] rfl)
                  exact lp55 _ 0 v22 f23 w24 g25 hIv22 hCf23 hRf23 hq0_v22 hq1_v22 hq2_v22 hq3_v22 hq4_v22 hq5_v22 hq8_v22 hq9_v22 hq10_v22 hq13_v22 hq14_v22 hq15_v22 hq17_v22 hq18_v22 hq24_v22 hq25_v22 hq35_v22 hq36_v22 hq38_v22 hq39_v22 ⟨by decide, by decide⟩ hM_v22 hA_f23 (Nat.lt_succ_self _) _ _ _ hP hD hS (lv_sub hl [0, 1, 2, 3, 4, 5, 6] rfl)
                · skip
                  refine lv_goto (tgt := 116) hx hb dX11_dress_73 rfl ?_
                  obtain ⟨t69, et69⟩ : ∃ y : Int32, y = l4_10 + 1 := ⟨_, rfl⟩
                  have zt69 : t69.toInt = l4_10.toInt + 1 := (congrArg Int32.toInt et69).trans (add_i rfl tc_1 (om_41 hr4_10) (om_196 zc15 rg20))
                  refine lv_iinc (v := t69) (lv' := [(4, .int t69), (5, .int r21), (3, .int l3_10), (2, .int l2_10), (0, .ref y0), (1, .int p1)]) hx hb dX11_dress_116 hl (k := 1) rfl et69.symm (Nat.le_of_ble_eq_true rfl) rfl (fun ls hl => ?_)
                  refine lv_goto (tgt := 22) hx hb dX11_dress_119 rfl ?_
                  have rg70 := fb_rng t69
                  exact ih10 l2_10 l3_10 t69 v22 f23 w24 g25 hIv22 hCf23 hRf23 hq0_v22 hq1_v22 hq2_v22 hq3_v22 hq4_v22 hq5_v22 hq8_v22 hq9_v22 hq10_v22 hq13_v22 hq14_v22 hq15_v22 hq17_v22 hq18_v22 hq24_v22 hq25_v22 hq35_v22 hq36_v22 hq38_v22 hq39_v22 ⟨show (0 : Int) ≤ t69.toInt from om_43 hr4_10 zt69, show t69.toInt ≤ (2147483647 : Int) from om_44 rg70⟩ hM_v22 hA_f23 (show (2147483647 - t69.toInt).toNat < n10 from om_33 hm10 zt69 rg70) _ _ _ hP hD hS (lv_sub hl [0, 2, 3, 4, 5] rfl)
    exact lp10 _ (-1) 0 0 v6 f7 w8 g9 hIv6 hCf7 hRf7 hq0_v6 hq1_v6 hq2_v6 hq3_v6 hq4_v6 hq5_v6 hq8_v6 hq9_v6 hq10_v6 hq13_v6 hq14_v6 hq15_v6 hq17_v6 hq18_v6 hq24_v6 hq25_v6 hq35_v6 hq36_v6 hq38_v6 hq39_v6 ⟨by decide, by decide⟩ hM_v6 hA_f7 (Nat.lt_succ_self _) _ _ _ hP hD hS (lv_sub hl [0, 1, 2, 3, 4] rfl)
  · skip
    subst g5
    refine lv_if_ne (tgt := 11) hx hb dX11_dress_6 rfl (fun c0 => absurd (by decide) c0) (fun _ => ?_)
    refine lv_iconst (v := (-1)) hx hb dX11_dress_9 rfl ?_
    exact ret (-1) (v, f, w, g) _ _ _ _ _ _ rfl ⟨hM_v, hA_f, hIv, hCf, hRf, rfl, rfl, rfl, rfl, rfl, rfl, rfl, rfl, rfl, rfl, rfl, rfl, rfl, rfl, rfl, rfl, rfl, rfl, rfl, rfl⟩ hP hD hS dX11_dress_10 (Nat.le_refl _) (Nat.le_refl _)
set_option maxHeartbeats 4000000 in
set_option maxRecDepth 100000 in
theorem sY_X11_isSewn_1 (l : Launch) (dC : Nat → ClassId) (dI : Nat → Nat → Nat) (cy : Nat → ClassId) (y0 : Nat) (r : Nat → Nat) (p1 : Int32) (p2 : Int32) (p3 : Int32) (p4 : Int32) (v : Nat → Int32) (f : Nat → Nat → Int32) (w : Int64) (g : Nat → Int64) (hIv : YI v) (hCf : YC f) (hRf : progOK (f 4) (f 5) (v 9).toInt.toNat) (hp1 : (0 : Int) ≤ p1.toInt ∧ p1.toInt ≤ 5) (hp2 : (0 : Int) ≤ p2.toInt ∧ p2.toInt ≤ 5) : ctI l (dC, dI) cy yX11_isSewn cX11_isSewn 5 .boolean 4 126 0 0 ((Nat → Int32) × (Nat → Nat → Int32) × (Int64) × (Nat → Int64)) [.ref y0, .int p1, .int p2, .int p3, .int p4] (YW cy y0 r v f w g) (fun r u => KV [] u.1 v ∧ KF [7, 8, 24] u.2.1 f ∧ YI u.1 ∧ YC u.2.1 ∧ progOK (u.2.1 4) (u.2.1 5) (u.1 9).toInt.toNat ∧ u.1 0 = v 0 ∧ u.1 1 = v 1 ∧ u.1 2 = v 2 ∧ u.1 3 = v 3 ∧ u.1 4 = v 4 ∧ u.1 5 = v 5 ∧ u.1 8 = v 8 ∧ u.1 9 = v 9 ∧ u.1 10 = v 10 ∧ u.1 13 = v 13 ∧ u.1 14 = v 14 ∧ u.1 15 = v 15 ∧ u.1 17 = v 17 ∧ u.1 18 = v 18 ∧ u.1 24 = v 24 ∧ u.1 25 = v 25 ∧ u.1 35 = v 35 ∧ u.1 36 = v 36 ∧ u.1 38 = v 38 ∧ u.1 39 = v 39 ∧ ((r = 1) ∨ (r = 0))) (fun u => YW cy y0 r u.1 u.2.1 u.2.2.1 u.2.2.2) := by
  refine ctI_of (by decide) (Nat.le_of_ble_eq_true rfl) (fun p e s m below meth c A ls Q hx hb hml hts hown hE hP hD hA hl ret => ?_)
  have hUv : (v 35).toInt + (v 36).toInt ≤ 40 := hIv.2
  have hM_v : KV [] v v := fun _ _ => rfl
  have hA_f : KF [7, 8, 24] f f := fun _ _ => rfl
  have hown : s.vm.findClass RX11 = some m.cls := hown
  have hS : va_S A s.heap s.heap [] := va_S.rf
  have hl : lv_has ls 5 [(0, .ref y0), (1, .int p1), (2, .int p2), (3, .int p3), (4, .int p4)] := hl
  refine lv_aload_n hx hb dX11_isSewn_0 rfl (lv_at hl 0 rfl) ?_
  refine cbVv (n := 0) (rest := []) hx hb hml hown hts hE hP hD hS hA (sY_X11_fill_1 0 l dC dI cy y0 r  v f w g hIv hCf hRf ) k_1739 k_1741 k_71 k_114 k_1742 hd_yX11_fill ⟨Nat.le_of_ble_eq_true rfl, Nat.le_of_ble_eq_true rfl⟩ 0 11 rfl rfl (rfl) hl.1 rfl (Nat.le_of_ble_eq_true rfl) dX11_isSewn_1 (fun u H locs hw hP hD hS => ?_)
  obtain ⟨hG1, hw⟩ := hw
  obtain ⟨v2, f3, w4, g5⟩ := u
  obtain ⟨kV_v2, kF_f3, hIv2, hCf3, hRf3, hk0_v2, hk1_v2, hk2_v2, hk3_v2, hk4_v2, hk5_v2, hk8_v2, hk9_v2, hk10_v2, hk13_v2, hk14_v2, hk15_v2, hk17_v2, hk18_v2, hk24_v2, hk25_v2, hk35_v2, hk36_v2, hk38_v2, hk39_v2⟩ := hw
  have hM_v2 : KV [] v2 v := KV.tr kV_v2 hM_v rfl
  have hA_f3 : KF [7, 8, 24] f3 f := KF.tr kF_f3 hA_f rfl
  have hP : va_P (dC, dI) vwCl (YW cy y0 r v2 f3 w4 g5) H := hP
  have hD : va_D A (YW cy y0 r v2 f3 w4 g5) := hD
  have hUv2 : (v2 35).toInt + (v2 36).toInt ≤ 40 := hIv2.2
  have hq9_v2 : v2 9 = (v 9) := hk9_v2
  have zq9_v2 := congrArg Int32.toInt hq9_v2
  refine lv_aload_n hx hb dX11_isSewn_4 rfl (lv_at hl 0 rfl) ?_
  refine va_get (D := (dC, dI)) (ci := 11) (v := .ref (r 60)) (C := RX11) (T := TX11) (N := 79) hx hb hts inB_11 hown hE.1 hP 0 rfl rfl 60 (Nat.le_of_ble_eq_true rfl) (hts _ k_1380) (fun _ h9 => h9) rfl dX11_isSewn_5 ?_
  refine lv_bipush (v := 12) hx hb dX11_isSewn_8 rfl ?_
  refine lv_iload_n hx hb dX11_isSewn_10 rfl (lv_at hl 1 rfl) ?_
  refine lv_iadd hx hb dX11_isSewn_11 ?_
  refine lv_topi (fun t6 et6 => ?_)
  have rg7 := fb_rng p1
  have zt6 : t6.toInt = 12 + p1.toInt := (congrArg Int32.toInt et6).trans (add_i tc_12 rfl (om_535 hp1) (om_536 hp1))
  refine lv_dup2_11 hx hb dX11_isSewn_12 rfl rfl ?_
  refine ldI hx hb hE hP 25 rfl (vpI (k := 39) rfl (show 0 ≤ t6.toInt from om_537 hp1 zt6) (show t6.toInt < 39 from om_538 hp1 zt6)) rfl rfl dX11_isSewn_13 ?_
  refine lv_topi (fun t8 et8 => ?_)
  have zt8 : t6.toInt.toNat % 39 < 6 ∨ 12 ≤ t6.toInt.toNat % 39 ∨ (-1 ≤ t8.toInt ∧ t8.toInt ≤ 5) := by rw [et8]; exact wear_ld hCf3.2.1 (show t6.toInt.toNat < 39 from om_539 hp1 zt6)
  refine lv_iload_n hx hb dX11_isSewn_14 rfl (lv_at hl 3 rfl) ?_
  refine lv_isub hx hb dX11_isSewn_15 ?_
  refine lv_topi (fun t9 et9 => ?_)
  refine stI hx hb hE hP hD hS 25 rfl (vpI (k := 39) rfl (show 0 ≤ t6.toInt from om_537 hp1 zt6) (show t6.toInt < 39 from om_538 hp1 zt6)) rfl dX11_isSewn_16 (fun H locs hP hD hS => ?_)
  obtain ⟨f10, ef10, hP, hD⟩ : ∃ fz9, fz9 = upd2 f3 24 (upd (f3 24) t6.toNatClampNeg t9) ∧ va_P (dC, dI) vwCl (YW cy y0 r v2 fz9 w4 g5) H ∧ va_D A (YW cy y0 r v2 fz9 w4 g5) := ⟨_, rfl, hP, hD⟩
  have hCf10 : YC f10 := by rw [ef10]; exact ⟨hCf3.1, (wear_st hCf3.2.1 (by show t6.toInt.toNat % 39 < 6 ∨ 12 ≤ t6.toInt.toNat % 39 ∨ (-1 ≤ t9.toInt ∧ t9.toInt ≤ 5); omega)), hCf3.2.2.1, hCf3.2.2.2.1, hCf3.2.2.2.2.1, hCf3.2.2.2.2.2⟩
  have hRf10 : progOK (f10 4) (f10 5) (v2 9).toInt.toNat := by rw [ef10]; exact hRf3
  have hA_f10 : KF [7, 8, 24] f10 f := by rw [ef10]; exact KF.up hA_f3 rfl
  refine lv_aload_n hx hb dX11_isSewn_17 rfl (lv_at hl 0 rfl) ?_
  refine va_get (D := (dC, dI)) (ci := 11) (v := .ref (r 60)) (C := RX11) (T := TX11) (N := 79) hx hb hts inB_11 hown hE.1 hP 0 rfl rfl 60 (Nat.le_of_ble_eq_true rfl) (hts _ k_1380) (fun _ h9 => h9) rfl dX11_isSewn_18 ?_
  refine lv_bipush (v := 18) hx hb dX11_isSewn_21 rfl ?_
  refine lv_iload_n hx hb dX11_isSewn_23 rfl (lv_at hl 1 rfl) ?_
  refine lv_iadd hx hb dX11_isSewn_24 ?_
  refine lv_topi (fun t11 et11 => ?_)
  have zt11 : t11.toInt = 18 + p1.toInt := (congrArg Int32.toInt et11).trans (add_i tc_18 rfl (om_529 hp1) (om_530 hp1))
  refine lv_dup2_11 hx hb dX11_isSewn_25 rfl rfl ?_
  refine ldI hx hb hE hP 25 rfl (vpI (k := 39) rfl (show 0 ≤ t11.toInt from om_531 hp1 zt11) (show t11.toInt < 39 from om_532 hp1 zt11)) rfl rfl dX11_isSewn_26 ?_
  refine lv_topi (fun t12 et12 => ?_)
  have zt12 : t11.toInt.toNat % 39 < 6 ∨ 12 ≤ t11.toInt.toNat % 39 ∨ (-1 ≤ t12.toInt ∧ t12.toInt ≤ 5) := by rw [et12]; exact wear_ld hCf10.2.1 (show t11.toInt.toNat < 39 from om_533 hp1 zt11)
  refine lv_iload hx hb dX11_isSewn_27 (lv_at hl 4 rfl) ?_
  refine lv_isub hx hb dX11_isSewn_29 ?_
  refine lv_topi (fun t13 et13 => ?_)
  refine stI hx hb hE hP hD hS 25 rfl (vpI (k := 39) rfl (show 0 ≤ t11.toInt from om_531 hp1 zt11) (show t11.toInt < 39 from om_532 hp1 zt11)) rfl dX11_isSewn_30 (fun H locs hP hD hS => ?_)
  obtain ⟨f14, ef14, hP, hD⟩ : ∃ fz9, fz9 = upd2 f10 24 (upd (f10 24) t11.toNatClampNeg t13) ∧ va_P (dC, dI) vwCl (YW cy y0 r v2 fz9 w4 g5) H ∧ va_D A (YW cy y0 r v2 fz9 w4 g5) := ⟨_, rfl, hP, hD⟩
  have hCf14 : YC f14 := by rw [ef14]; exact ⟨hCf10.1, (wear_st hCf10.2.1 (by show t11.toInt.toNat % 39 < 6 ∨ 12 ≤ t11.toInt.toNat % 39 ∨ (-1 ≤ t13.toInt ∧ t13.toInt ≤ 5); omega)), hCf10.2.2.1, hCf10.2.2.2.1, hCf10.2.2.2.2.1, hCf10.2.2.2.2.2⟩
  have hRf14 : progOK (f14 4) (f14 5) (v2 9).toInt.toNat := by rw [ef14]; exact hRf10
  have hA_f14 : KF [7, 8, 24] f14 f := by rw [ef14]; exact KF.up hA_f10 rfl
  refine lv_aload_n hx hb dX11_isSewn_31 rfl (lv_at hl 0 rfl) ?_
  refine lv_iload_n hx hb dX11_isSewn_32 rfl (lv_at hl 2 rfl) ?_
  refine lv_iload_n hx hb dX11_isSewn_33 rfl (lv_at hl 1 rfl) ?_
  refine cbVi (n := 2) (rest := []) hx hb hml hown hts hE hP hD hS hA (sY_X11_misfitOf_1 0 l dC dI cy y0 r p2 p1 v2 f14 w4 g5 hIv2 hCf14 hRf14 ⟨show (0 : Int) ≤ p2.toInt from om_214 hp2, show p2.toInt ≤ (5 : Int) from om_215 hp2⟩ ⟨show (0 : Int) ≤ p1.toInt from om_214 hp1, show p1.toInt ≤ (5 : Int) from om_215 hp1⟩) k_1751 k_1753 k_74 k_114 k_1754 hd_yX11_misfitOf ⟨Nat.le_of_ble_eq_true rfl, Nat.le_of_ble_eq_true rfl⟩ 0 11 rfl rfl (rfl) hl.1 rfl (Nat.le_of_ble_eq_true rfl) dX11_isSewn_34 (fun r15 u H locs hw hP hD hS => ?_)
  obtain ⟨hG16, hw⟩ := hw
  obtain ⟨v17, f18, w19, g20⟩ := u
  obtain ⟨kV_v17, kF_f18, hIv17, hCf18, hRf18, hk0_v17, hk1_v17, hk2_v17, hk3_v17, hk4_v17, hk5_v17, hk8_v17, hk9_v17, hk10_v17, hk13_v17, hk14_v17, hk15_v17, hk17_v17, hk18_v17, hk24_v17, hk25_v17, hk35_v17, hk36_v17, hk38_v17, hk39_v17⟩ := hw
  have hM_v17 : KV [] v17 v := KV.tr kV_v17 hM_v2 rfl
  have hA_f18 : KF [7, 8, 24] f18 f := KF.tr kF_f18 hA_f14 rfl
  have hP : va_P (dC, dI) vwCl (YW cy y0 r v17 f18 w19 g20) H := hP
  have hD : va_D A (YW cy y0 r v17 f18 w19 g20) := hD
  refine lv_aload_n hx hb dX11_isSewn_37 rfl (lv_at hl 0 rfl) ?_
  refine va_get (D := (dC, dI)) (ci := 11) (v := .int (v17 26)) (C := RX11) (T := TX11) (N := 79) hx hb hts inB_11 hown hE.1 hP 0 rfl rfl 50 (Nat.le_of_ble_eq_true rfl) (hts _ k_1370) (fun _ h9 => h9) rfl dX11_isSewn_38 ?_
  refine lv_icmp_gt (tgt := 48) hx hb dX11_isSewn_41 rfl (fun c21 => ?_) (fun c21 => ?_)
  · skip
    refine lv_iconst (v := 0) hx hb dX11_isSewn_48 rfl ?_
    exact ret 0 (v17, f18, w19, g20) _ _ _ _ _ _ rfl ⟨hM_v17, hA_f18, hIv17, hCf18, hRf18, (hk0_v17.trans hk0_v2), (hk1_v17.trans hk1_v2), (hk2_v17.trans hk2_v2), (hk3_v17.trans hk3_v2), (hk4_v17.trans hk4_v2), (hk5_v17.trans hk5_v2), (hk8_v17.trans hk8_v2), (hk9_v17.trans hk9_v2), (hk10_v17.trans hk10_v2), (hk13_v17.trans hk13_v2), (hk14_v17.trans hk14_v2), (hk15_v17.trans hk15_v2), (hk17_v17.trans hk17_v2), (hk18_v17.trans hk18_v2), (hk24_v17.trans hk24_v2), (hk25_v17.trans hk25_v2), (hk35_v17.trans hk35_v2), (hk36_v17.trans hk36_v2), (hk38_v17.trans hk38_v2), (hk39_v17.trans hk39_v2), (Or.inr rfl)⟩ hP hD hS dX11_isSewn_49 (Nat.le_refl _) (Nat.le_refl _)
  · skip
    refine lv_iconst (v := 1) hx hb dX11_isSewn_44 rfl ?_
    refine lv_goto (tgt := 49) hx hb dX11_isSewn_45 rfl ?_
    exact ret 1 (v17, f18, w19, g20) _ _ _ _ _ _ rfl ⟨hM_v17, hA_f18, hIv17, hCf18, hRf18, (hk0_v17.trans hk0_v2), (hk1_v17.trans hk1_v2), (hk2_v17.trans hk2_v2), (hk3_v17.trans hk3_v2), (hk4_v17.trans hk4_v2), (hk5_v17.trans hk5_v2), (hk8_v17.trans hk8_v2), (hk9_v17.trans hk9_v2), (hk10_v17.trans hk10_v2), (hk13_v17.trans hk13_v2), (hk14_v17.trans hk14_v2), (hk15_v17.trans hk15_v2), (hk17_v17.trans hk17_v2), (hk18_v17.trans hk18_v2), (hk24_v17.trans hk24_v2), (hk25_v17.trans hk25_v2), (hk35_v17.trans hk35_v2), (hk36_v17.trans hk36_v2), (hk38_v17.trans hk38_v2), (hk39_v17.trans hk39_v2), (Or.inl rfl)⟩ hP hD hS dX11_isSewn_49 (Nat.le_refl _) (Nat.le_refl _)
set_option maxHeartbeats 4000000 in
set_option maxRecDepth 100000 in
theorem sY_X11_sewing_1 (l : Launch) (dC : Nat → ClassId) (dI : Nat → Nat → Nat) (cy : Nat → ClassId) (y0 : Nat) (r : Nat → Nat) (p1 : Int32) (p2 : Int32) (p3 : Int32) (v : Nat → Int32) (f : Nat → Nat → Int32) (w : Int64) (g : Nat → Int64) (hIv : YI v) (hCf : YC f) (hRf : progOK (f 4) (f 5) (v 9).toInt.toNat)  : ctI l (dC, dI) cy yX11_sewing cX11_sewing 10 .int 5 150 0 0 ((Nat → Int32) × (Nat → Nat → Int32) × (Int64) × (Nat → Int64)) [.ref y0, .int p1, .int p2, .int p3] (YW cy y0 r v f w g) (fun r u => KV [] u.1 v ∧ KF [7, 8, 24] u.2.1 f ∧ YI u.1 ∧ YC u.2.1 ∧ progOK (u.2.1 4) (u.2.1 5) (u.1 9).toInt.toNat ∧ u.1 0 = v 0 ∧ u.1 1 = v 1 ∧ u.1 2 = v 2 ∧ u.1 3 = v 3 ∧ u.1 4 = v 4 ∧ u.1 5 = v 5 ∧ u.1 8 = v 8 ∧ u.1 9 = v 9 ∧ u.1 10 = v 10 ∧ u.1 13 = v 13 ∧ u.1 14 = v 14 ∧ u.1 15 = v 15 ∧ u.1 17 = v 17 ∧ u.1 18 = v 18 ∧ u.1 24 = v 24 ∧ u.1 25 = v 25 ∧ u.1 35 = v 35 ∧ u.1 36 = v 36 ∧ u.1 38 = v 38 ∧ u.1 39 = v 39) (fun u => YW cy y0 r u.1 u.2.1 u.2.2.1 u.2.2.2) := by
  refine ctI_of (by decide) (Nat.le_of_ble_eq_true rfl) (fun p e s m below meth c A ls Q hx hb hml hts hown hE hP hD hA hl ret => ?_)
  have hM_v : KV [] v v := fun _ _ => rfl
  have hA_f : KF [7, 8, 24] f f := fun _ _ => rfl
  have hown : s.vm.findClass RX11 = some m.cls := hown
  have hS : va_S A s.heap s.heap [] := va_S.rf
  have hl : lv_has ls 10 [(0, .ref y0), (1, .int p1), (2, .int p2), (3, .int p3)] := hl
  refine lv_aload_n hx hb dX11_sewing_0 rfl (lv_at hl 0 rfl) ?_
  refine lv_iload_n hx hb dX11_sewing_1 rfl (lv_at hl 1 rfl) ?_
  refine cbVi (n := 1) (rest := []) hx hb hml hown hts hE hP hD hS hA (sY_X11_isCoat_1 0 l dC dI cy y0 r p1 v f w g hIv hCf hRf ) k_1771 k_1773 k_75 k_114 k_1774 hd_yX11_isCoat ⟨Nat.le_of_ble_eq_true rfl, Nat.le_of_ble_eq_true rfl⟩ 0 11 rfl rfl (rfl) hl.1 rfl (Nat.le_of_ble_eq_true rfl) dX11_sewing_2 (fun r1 u H locs hw hP hD hS => ?_)
  obtain ⟨hG2, hw⟩ := hw
  rcases hw with ⟨g3, g3_0, g3_1, g3_2⟩ | ⟨g3⟩
  · skip
    subst g3
    refine lv_if_eq (tgt := 25) hx hb dX11_sewing_5 rfl (fun c0 => absurd c0 (by decide)) (fun _ => ?_)
    refine lv_aload_n hx hb dX11_sewing_8 rfl (lv_at hl 0 rfl) ?_
    refine lv_iload_n hx hb dX11_sewing_9 rfl (lv_at hl 2 rfl) ?_
    refine cbVi (n := 1) (rest := []) hx hb hml hown hts hE hP hD hS hA (sY_X11_isMan_1 0 l dC dI cy y0 r p2 v f w g hIv hCf hRf ) k_1732 k_1734 k_70 k_114 k_1735 hd_yX11_isMan ⟨Nat.le_of_ble_eq_true rfl, Nat.le_of_ble_eq_true rfl⟩ 0 11 rfl rfl (rfl) hl.1 rfl (Nat.le_of_ble_eq_true rfl) dX11_sewing_10 (fun r4 u H locs hw hP hD hS => ?_)
    obtain ⟨hG5, hw⟩ := hw
    rcases hw with ⟨g6, g6_0, g6_1, g6_2⟩ | ⟨g6⟩
    · skip
      subst g6
      refine lv_if_eq (tgt := 25) hx hb dX11_sewing_13 rfl (fun c0 => absurd c0 (by decide)) (fun _ => ?_)
      refine lv_iload_n hx hb dX11_sewing_16 rfl (lv_at hl 3 rfl) ?_
      refine lv_iconst (v := 0) hx hb dX11_sewing_17 rfl ?_
      refine lv_iconst (v := 2) hx hb dX11_sewing_18 rfl ?_
      refine cbSi (n := 3) (rest := []) hx hb hml hown hts hE hP hD hS hA (sY_X11_isIn_1 0 l dC dI cy y0 r p3 0 2 v f w g hIv hCf hRf ) k_1736 k_1737 k_114 k_1738 he_yX11_isIn ⟨Nat.le_of_ble_eq_true rfl, Nat.le_of_ble_eq_true rfl⟩ (rfl) hl.1 rfl (Nat.le_of_ble_eq_true rfl) dX11_sewing_19 (fun r9 u H locs hw hP hD hS => ?_)
      obtain ⟨hG10, hw⟩ := hw
      rcases hw with ⟨g11, g11_0, g11_1⟩ | ⟨g11⟩
      · skip
        subst g11
        refine lv_if_ne (tgt := 28) hx hb dX11_sewing_22 rfl (fun _ => ?_) (fun c0 => absurd c0 (by decide))
        refine lv_bipush (v := 20) hx hb dX11_sewing_28 rfl ?_
        refine lv_aload_n hx hb dX11_sewing_30 rfl (lv_at hl 0 rfl) ?_
        refine va_get (D := (dC, dI)) (ci := 11) (v := .ref (r 59)) (C := RX11) (T := TX11) (N := 79) hx hb hts inB_11 hown hE.1 hP 0 rfl rfl 59 (Nat.le_of_ble_eq_true rfl) (hts _ k_1379) (fun _ h9 => h9) rfl dX11_sewing_31 ?_
        refine lv_bipush (v := 12) hx hb dX11_sewing_34 rfl ?_
        refine lv_iload_n hx hb dX11_sewing_36 rfl (lv_at hl 1 rfl) ?_
        refine lv_iadd hx hb dX11_sewing_37 ?_
        refine lv_topi (fun t12 et12 => ?_)
        have zt12 : t12.toInt = 12 + p1.toInt := (congrArg Int32.toInt et12).trans (add_i tc_12 rfl (om_619 g3_0) (om_620 g3_2))
        refine ldI hx hb hE hP 24 rfl (vpI (k := 39) rfl (show 0 ≤ t12.toInt from om_621 g3_0 zt12) (show t12.toInt < 39 from om_622 g3_2 zt12)) rfl rfl dX11_sewing_38 ?_
        refine lv_topi (fun t14 et14 => ?_)
        refine cbSi (n := 2) (rest := []) hx hb hml hown hts hE hP hD hS hA (sY_X11_lesser_1 0 l dC dI cy y0 r 20 t14 v f w g hIv hCf hRf ) k_1799 k_1800 k_114 k_1801 he_yX11_lesser ⟨Nat.le_of_ble_eq_true rfl, Nat.le_of_ble_eq_true rfl⟩ (rfl) hl.1 rfl (Nat.le_of_ble_eq_true rfl) dX11_sewing_39 (fun r16 u H locs hw hP hD hS => ?_)
        obtain ⟨hG17, hw⟩ := hw
        obtain ⟨pp18, pp19⟩ := hw
        have pp18 : r16.toInt ≤ (20 : Int32).toInt := pp18
        have pp19 : r16.toInt ≤ t14.toInt := pp19
        refine lv_istore (lv' := [(4, .int r16), (0, .ref y0), (1, .int p1), (2, .int p2), (3, .int p3)]) hx hb dX11_sewing_42 hl (Nat.le_of_ble_eq_true rfl) rfl (fun ls hl => ?_)
        refine lv_bipush (v := 20) hx hb dX11_sewing_44 rfl ?_
        refine lv_aload_n hx hb dX11_sewing_46 rfl (lv_at hl 1 rfl) ?_
        refine va_get (D := (dC, dI)) (ci := 11) (v := .ref (r 59)) (C := RX11) (T := TX11) (N := 79) hx hb hts inB_11 hown hE.1 hP 0 rfl rfl 59 (Nat.le_of_ble_eq_true rfl) (hts _ k_1379) (fun _ h9 => h9) rfl dX11_sewing_47 ?_
        refine lv_bipush (v := 18) hx hb dX11_sewing_50 rfl ?_
        refine lv_iload_n hx hb dX11_sewing_52 rfl (lv_at hl 2 rfl) ?_
        refine lv_iadd hx hb dX11_sewing_53 ?_
        refine lv_topi (fun t20 et20 => ?_)
        have zt20 : t20.toInt = 18 + p1.toInt := (congrArg Int32.toInt et20).trans (add_i tc_18 rfl (om_614 g3_0) (om_615 g3_2))
        refine ldI hx hb hE hP 24 rfl (vpI (k := 39) rfl (show 0 ≤ t20.toInt from om_616 g3_0 zt20) (show t20.toInt < 39 from om_617 g3_2 zt20)) rfl rfl dX11_sewing_54 ?_
        refine lv_topi (fun t21 et21 => ?_)
        refine cbSi (n := 2) (rest := []) hx hb hml hown hts hE hP hD hS hA (sY_X11_lesser_1 0 l dC dI cy y0 r 20 t21 v f w g hIv hCf hRf ) k_1799 k_1800 k_114 k_1801 he_yX11_lesser ⟨Nat.le_of_ble_eq_true rfl, Nat.le_of_ble_eq_true rfl⟩ (rfl) hl.1 rfl (Nat.le_of_ble_eq_true rfl) dX11_sewing_55 (fun r22 u H locs hw hP hD hS => ?_)
        obtain ⟨hG23, hw⟩ := hw
        obtain ⟨pp24, pp25⟩ := hw
        have pp24 : r22.toInt ≤ (20 : Int32).toInt := pp24
        have pp25 : r22.toInt ≤ t21.toInt := pp25
        refine lv_istore (lv' := [(5, .int r22), (4, .int r16), (0, .ref y0), (1, .int p1), (2, .int p2), (3, .int p3)]) hx hb dX11_sewing_58 hl (Nat.le_of_ble_eq_true rfl) rfl (fun ls hl => ?_)
        refine lv_bipush (v := 20) hx hb dX11_sewing_60 rfl ?_
        refine lv_aload_n hx hb dX11_sewing_62 rfl (lv_at hl 2 rfl) ?_
        refine va_get (D := (dC, dI)) (ci := 11) (v := .ref (r 59)) (C := RX11) (T := TX11) (N := 79) hx hb hts inB_11 hown hE.1 hP 0 rfl rfl 59 (Nat.le_of_ble_eq_true rfl) (hts _ k_1379) (fun _ h9 => h9) rfl dX11_sewing_63 ?_
        refine lv_bipush (v := 24) hx hb dX11_sewing_66 rfl ?_
        refine lv_iload_n hx hb dX11_sewing_68 rfl (lv_at hl 3 rfl) ?_
        refine lv_iadd hx hb dX11_sewing_69 ?_
        refine lv_topi (fun t26 et26 => ?_)
        have zt26 : t26.toInt = 24 + p1.toInt := (congrArg Int32.toInt et26).trans (add_i tc_24 rfl (om_609 g3_0) (om_610 g3_2))
        refine ldI hx hb hE hP 24 rfl (vpI (k := 39) rfl (show 0 ≤ t26.toInt from om_611 g3_0 zt26) (show t26.toInt < 39 from om_612 g3_2 zt26)) rfl rfl dX11_sewing_70 ?_
        refine lv_topi (fun t27 et27 => ?_)
        refine cbSi (n := 2) (rest := []) hx hb hml hown hts hE hP hD hS hA (sY_X11_lesser_1 0 l dC dI cy y0 r 20 t27 v f w g hIv hCf hRf ) k_1799 k_1800 k_114 k_1801 he_yX11_lesser ⟨Nat.le_of_ble_eq_true rfl, Nat.le_of_ble_eq_true rfl⟩ (rfl) hl.1 rfl (Nat.le_of_ble_eq_true rfl) dX11_sewing_71 (fun r28 u H locs hw hP hD hS => ?_)
        obtain ⟨hG29, hw⟩ := hw
        obtain ⟨pp30, pp31⟩ := hw
        have pp30 : r28.toInt ≤ (20 : Int32).toInt := pp30
        have pp31 : r28.toInt ≤ t27.toInt := pp31
        refine lv_bipush (v := 99) hx hb dX11_sewing_74 rfl ?_
        refine lv_aload_n hx hb dX11_sewing_76 rfl (lv_at hl 2 rfl) ?_
        refine va_get (D := (dC, dI)) (ci := 11) (v := .ref (r 59)) (C := RX11) (T := TX11) (N := 79) hx hb hts inB_11 hown hE.1 hP 0 rfl rfl 59 (Nat.le_of_ble_eq_true rfl) (hts _ k_1379) (fun _ h9 => h9) rfl dX11_sewing_77 ?_
        refine lv_bipush (v := 18) hx hb dX11_sewing_80 rfl ?_
        refine lv_iload_n hx hb dX11_sewing_82 rfl (lv_at hl 3 rfl) ?_
        refine lv_iadd hx hb dX11_sewing_83 ?_
        refine tI (y := t20) et20.symm ?_
        refine ldI hx hb hE hP 24 rfl (vpI (k := 39) rfl (show 0 ≤ t20.toInt from om_616 g3_0 zt20) (show t20.toInt < 39 from om_617 g3_2 zt20)) rfl rfl dX11_sewing_84 ?_
        refine tI (y := t21) et21.symm ?_
        refine lv_isub hx hb dX11_sewing_85 ?_
        refine lv_topi (fun t32 et32 => ?_)
        refine cbSi (n := 2) (rest := []) hx hb hml hown hts hE hP hD hS hA (sY_X11_lesser_1 0 l dC dI cy y0 r r28 t32 v f w g hIv hCf hRf ) k_1799 k_1800 k_114 k_1801 he_yX11_lesser ⟨Nat.le_of_ble_eq_true rfl, Nat.le_of_ble_eq_true rfl⟩ (rfl) hl.1 rfl (Nat.le_of_ble_eq_true rfl) dX11_sewing_86 (fun r33 u H locs hw hP hD hS => ?_)
        obtain ⟨hG34, hw⟩ := hw
        obtain ⟨pp35, pp36⟩ := hw
        have pp35 : r33.toInt ≤ r28.toInt := pp35
        have pp36 : r33.toInt ≤ t32.toInt := pp36
        refine lv_istore (lv' := [(6, .int r33), (5, .int r22), (4, .int r16), (0, .ref y0), (1, .int p1), (2, .int p2), (3, .int p3)]) hx hb dX11_sewing_89 hl (Nat.le_of_ble_eq_true rfl) rfl (fun ls hl => ?_)
        refine lv_iconst (v := 0) hx hb dX11_sewing_91 rfl ?_
        refine lv_istore (lv' := [(7, .int 0), (6, .int r33), (5, .int r22), (4, .int r16), (0, .ref y0), (1, .int p1), (2, .int p2), (3, .int p3)]) hx hb dX11_sewing_92 hl (Nat.le_of_ble_eq_true rfl) rfl (fun ls hl => ?_)
        have lp37 : ∀ (n37 : Nat) (l7_37 : Int32) (v37 : Nat → Int32) (f37 : Nat → Nat → Int32) (w37 : Int64) (g37 : Nat → Int64), YI v37 → YC f37 → progOK (f37 4) (f37 5) (v37 9).toInt.toNat → v37 0 = (v 0) → v37 1 = (v 1) → v37 2 = (v 2) → v37 3 = (v 3) → v37 4 = (v 4) → v37 5 = (v 5) → v37 8 = (v 8) → v37 9 = (v 9) → v37 10 = (v 10) → v37 13 = (v 13) → v37 14 = (v 14) → v37 15 = (v 15) → v37 17 = (v 17) → v37 18 = (v 18) → v37 24 = (v 24) → v37 25 = (v 25) → v37 35 = (v 35) → v37 36 = (v 36) → v37 38 = (v 38) → v37 39 = (v 39) → ((0 : Int) ≤ l7_37.toInt ∧ l7_37.toInt ≤ 2147483647) → KV [] v37 v → KF [7, 8, 24] f37 f → (2147483647 - l7_37.toInt).toNat < n37 → ∀ (H : Heap) (locs : List Loc) (ls : Array Slot), va_P (dC, dI) vwCl (YW cy y0 r v37 f37 w37 g37) H → va_D A (YW cy y0 r v37 f37 w37 g37) → va_S A s.heap H locs → lv_has ls 10 [(7, .int l7_37), (6, .int r33), (5, .int r22), (4, .int r16), (0, .ref y0), (1, .int p1), (2, .int p2), (3, .int p3)] → W p l e { frames := 5, cells := 0, slots := 0, locals := 150 } s m ([.ref y0, .int p1, .int p2, .int p3] : List Value).toArray below meth c H locs 0 0 Q (F0 m 94 ls []) := by
          intro n37
          induction n37 with
          | zero => intro l7_37 v37 f37 w37 g37 hIv37 hCf37 hRf37 hq0_v37 hq1_v37 hq2_v37 hq3_v37 hq4_v37 hq5_v37 hq8_v37 hq9_v37 hq10_v37 hq13_v37 hq14_v37 hq15_v37 hq17_v37 hq18_v37 hq24_v37 hq25_v37 hq35_v37 hq36_v37 hq38_v37 hq39_v37 hr7_37 hM_v37 hA_f37 hm; exact absurd hm (Nat.not_lt_zero _)
          | succ n37 ih37 =>
            intro l7_37 v37 f37 w37 g37 hIv37 hCf37 hRf37 hq0_v37 hq1_v37 hq2_v37 hq3_v37 hq4_v37 hq5_v37 hq8_v37 hq9_v37 hq10_v37 hq13_v37 hq14_v37 hq15_v37 hq17_v37 hq18_v37 hq24_v37 hq25_v37 hq35_v37 hq36_v37 hq38_v37 hq39_v37 hr7_37 hM_v37 hA_f37 hm37 H locs ls hP hD hS hl
            refine lv_iload hx hb dX11_sewing_94 (lv_at hl 0 rfl) ?_
            refine lv_bipush (v := 40) hx hb dX11_sewing_96 rfl ?_
            refine lv_icmp_gt (tgt := 226) hx hb dX11_sewing_98 rfl (fun c38 => ?_) (fun c38 => ?_)
            · skip
              refine lv_bipush (v := (-100)) hx hb dX11_sewing_226 rfl ?_
              exact ret (-100) (v37, f37, w37, g37) _ _ _ _ _ _ rfl ⟨hM_v37, hA_f37, hIv37, hCf37, hRf37, (show v37 0 = v 0 from hq0_v37), (show v37 1 = v 1 from hq1_v37), (show v37 2 = v 2 from hq2_v37), (show v37 3 = v 3 from hq3_v37), (show v37 4 = v 4 from hq4_v37), (show v37 5 = v 5 from hq5_v37), (show v37 8 = v 8 from hq8_v37), (show v37 9 = v 9 from hq9_v37), (show v37 10 = v 10 from hq10_v37), (show v37 13 = v 13 from hq13_v37), (show v37 14 = v 14 from hq14_v37), (show v37 15 = v 15 from hq15_v37), (show v37 17 = v 17 from hq17_v37), (show v37 18 = v 18 from hq18_v37), (show v37 24 = v 24 from hq24_v37), (show v37 25 = v 25 from hq25_v37), (show v37 35 = v 35 from hq35_v37), (show v37 36 = v 36 from hq36_v37), (show v37 38 = v 38 from hq38_v37), (show v37 39 = v 39 from hq39_v37)⟩ hP hD hS dX11_sewing_228 (Nat.le_refl _) (Nat.le_refl _)
            · skip
              have zc38 : ¬ (40 < l7_37.toInt) := zLn tc_40 rfl c38
              refine lv_iconst (v := 0) hx hb dX11_sewing_101 rfl ?_
              refine lv_istore (lv' := [(8, .int 0), (7, .int l7_37), (6, .int r33), (5, .int r22), (4, .int r16), (0, .ref y0), (1, .int p1), (2, .int p2), (3, .int p3)]) hx hb dX11_sewing_102 hl (Nat.le_of_ble_eq_true rfl) rfl (fun ls hl => ?_)
              have lp39 : ∀ (n39 : Nat) (l8_39 : Int32) (v39 : Nat → Int32) (f39 : Nat → Nat → Int32) (w39 : Int64) (g39 : Nat → Int64), YI v39 → YC f39 → progOK (f39 4) (f39 5) (v39 9).toInt.toNat → v39 0 = (v 0) → v39 1 = (v 1) → v39 2 = (v 2) → v39 3 = (v 3) → v39 4 = (v 4) → v39 5 = (v 5) → v39 8 = (v 8) → v39 9 = (v 9) → v39 10 = (v 10) → v39 13 = (v 13) → v39 14 = (v 14) → v39 15 = (v 15) → v39 17 = (v 17) → v39 18 = (v 18) → v39 24 = (v 24) → v39 25 = (v 25) → v39 35 = (v 35) → v39 36 = (v 36) → v39 38 = (v 38) → v39 39 = (v 39) → ((0 : Int) ≤ l8_39.toInt ∧ l8_39.toInt ≤ 2147483647) → KV [] v39 v → KF [7, 8, 24] f39 f → (2147483647 - l8_39.toInt).toNat < n39 → ∀ (H : Heap) (locs : List Loc) (ls : Array Slot), va_P (dC, dI) vwCl (YW cy y0 r v39 f39 w39 g39) H → va_D A (YW cy y0 r v39 f39 w39 g39) → va_S A s.heap H locs → lv_has ls 10 [(8, .int l8_39), (7, .int l7_37), (6, .int r33), (5, .int r22), (4, .int r16), (0, .ref y0), (1, .int p1), (2, .int p2), (3, .int p3)] → W p l e { frames := 5, cells := 0, slots := 0, locals := 150 } s m ([.ref y0, .int p1, .int p2, .int p3] : List Value).toArray below meth c H locs 0 0 Q (F0 m 104 ls []) := by
                intro n39
                induction n39 with
                | zero => intro l8_39 v39 f39 w39 g39 hIv39 hCf39 hRf39 hq0_v39 hq1_v39 hq2_v39 hq3_v39 hq4_v39 hq5_v39 hq8_v39 hq9_v39 hq10_v39 hq13_v39 hq14_v39 hq15_v39 hq17_v39 hq18_v39 hq24_v39 hq25_v39 hq35_v39 hq36_v39 hq38_v39 hq39_v39 hr8_39 hM_v39 hA_f39 hm; exact absurd hm (Nat.not_lt_zero _)
                | succ n39 ih39 =>
                  intro l8_39 v39 f39 w39 g39 hIv39 hCf39 hRf39 hq0_v39 hq1_v39 hq2_v39 hq3_v39 hq4_v39 hq5_v39 hq8_v39 hq9_v39 hq10_v39 hq13_v39 hq14_v39 hq15_v39 hq17_v39 hq18_v39 hq24_v39 hq25_v39 hq35_v39 hq36_v39 hq38_v39 hq39_v39 hr8_39 hM_v39 hA_f39 hm39 H locs ls hP hD hS hl
                  refine lv_iload hx hb dX11_sewing_104 (lv_at hl 0 rfl) ?_
                  refine lv_iload hx hb dX11_sewing_106 (lv_at hl 1 rfl) ?_
                  refine lv_iload hx hb dX11_sewing_108 (lv_at hl 4 rfl) ?_
                  refine cbSi (n := 2) (rest := [.int l8_39]) hx hb hml hown hts hE hP hD hS hA (sY_X11_lesser_1 0 l dC dI cy y0 r l7_37 r16 v39 f39 w39 g39 hIv39 hCf39 hRf39 ) k_1799 k_1800 k_114 k_1801 he_yX11_lesser ⟨Nat.le_of_ble_eq_true rfl, Nat.le_of_ble_eq_true rfl⟩ (rfl) hl.1 rfl (Nat.le_of_ble_eq_true rfl) dX11_sewing_110 (fun r40 u H locs hw hP hD hS => ?_)
                  obtain ⟨hG41, hw⟩ := hw
                  obtain ⟨pp42, pp43⟩ := hw
                  have pp42 : r40.toInt ≤ l7_37.toInt := pp42
                  have pp43 : r40.toInt ≤ r16.toInt := pp43
                  refine lv_icmp_gt (tgt := 220) hx hb dX11_sewing_113 rfl (fun c44 => ?_) (fun c44 => ?_)
                  · skip
                    obtain ⟨t47, et47⟩ : ∃ y : Int32, y = l7_37 + 1 := ⟨_, rfl⟩
                    have zt47 : t47.toInt = l7_37.toInt + 1 := (congrArg Int32.toInt et47).trans (add_i rfl tc_1 (om_41 hr7_37) (om_254 zc38))
                    refine lv_iinc (v := t47) (lv' := [(7, .int t47), (8, .int l8_39), (6, .int r33), (5, .int r22), (4, .int r16), (0, .ref y0), (1, .int p1), (2, .int p2), (3, .int p3)]) hx hb dX11_sewing_220 hl (k := 1) rfl et47.symm (Nat.le_of_ble_eq_true rfl) rfl (fun ls hl => ?_)
                    refine lv_goto (tgt := 94) hx hb dX11_sewing_223 rfl ?_
                    have rg49 := fb_rng t47
                    exact ih37 t47 v39 f39 w39 g39 hIv39 hCf39 hRf39 hq0_v39 hq1_v39 hq2_v39 hq3_v39 hq4_v39 hq5_v39 hq8_v39 hq9_v39 hq10_v39 hq13_v39 hq14_v39 hq15_v39 hq17_v39 hq18_v39 hq24_v39 hq25_v39 hq35_v39 hq36_v39 hq38_v39 hq39_v39 ⟨show (0 : Int) ≤ t47.toInt from om_43 hr7_37 zt47, show t47.toInt ≤ (2147483647 : Int) from om_44 rg49⟩ hM_v39 hA_f39 (show (2147483647 - t47.toInt).toNat < n37 from om_33 hm37 zt47 rg49) _ _ _ hP hD hS (lv_sub hl [0, 2, 3, 4, 5, 6, 7, 8] rfl)
                  · skip
                    have zc44 : ¬ (r40.toInt < l8_39.toInt) := zLn rfl rfl c44
                    refine lv_iload hx hb dX11_sewing_116 (lv_at hl 1 rfl) ?_
                    refine lv_iload hx hb dX11_sewing_118 (lv_at hl 0 rfl) ?_
                    refine lv_isub hx hb dX11_sewing_120 ?_
                    refine lv_topi (fun t52 et52 => ?_)
                    have zt52 : t52.toInt = l7_37.toInt - l8_39.toInt := (congrArg Int32.toInt et52).trans (sub_i rfl rfl (om_702 pp42 zc44) (om_256 zc38 hr8_39))
                    refine lv_istore (lv' := [(9, .int t52), (8, .int l8_39), (7, .int l7_37), (6, .int r33), (5, .int r22), (4, .int r16), (0, .ref y0), (1, .int p1), (2, .int p2), (3, .int p3)]) hx hb dX11_sewing_121 hl (Nat.le_of_ble_eq_true rfl) rfl (fun ls hl => ?_)
                    refine lv_iload hx hb dX11_sewing_123 (lv_at hl 0 rfl) ?_
                    refine lv_iload hx hb dX11_sewing_125 (lv_at hl 4 rfl) ?_
                    refine lv_icmp_gt (tgt := 165) hx hb dX11_sewing_127 rfl (fun c54 => ?_) (fun c54 => ?_)
                    · skip
                      refine lv_iload hx hb dX11_sewing_165 (lv_at hl 0 rfl) ?_
                      refine lv_if_le (tgt := 214) hx hb dX11_sewing_167 rfl (fun c57 => ?_) (fun c57 => ?_)
                      · skip
                        obtain ⟨t58, et58⟩ : ∃ y : Int32, y = l8_39 + 1 := ⟨_, rfl⟩
                        have zt58 : t58.toInt = l8_39.toInt + 1 := (congrArg Int32.toInt et58).trans (add_i rfl tc_1 (om_41 hr8_39) (om_703 zc38 pp42 zc44))
                        refine lv_iinc (v := t58) (lv' := [(8, .int t58), (9, .int t52), (7, .int l7_37), (6, .int r33), (5, .int r22), (4, .int r16), (0, .ref y0), (1, .int p1), (2, .int p2), (3, .int p3)]) hx hb dX11_sewing_214 hl (k := 1) rfl et58.symm (Nat.le_of_ble_eq_true rfl) rfl (fun ls hl => ?_)
                        refine lv_goto (tgt := 104) hx hb dX11_sewing_217 rfl ?_
                        have rg59 := fb_rng t58
                        exact ih39 t58 v39 f39 w39 g39 hIv39 hCf39 hRf39 hq0_v39 hq1_v39 hq2_v39 hq3_v39 hq4_v39 hq5_v39 hq8_v39 hq9_v39 hq10_v39 hq13_v39 hq14_v39 hq15_v39 hq17_v39 hq18_v39 hq24_v39 hq25_v39 hq35_v39 hq36_v39 hq38_v39 hq39_v39 ⟨show (0 : Int) ≤ t58.toInt from om_43 hr8_39 zt58, show t58.toInt ≤ (2147483647 : Int) from om_44 rg59⟩ hM_v39 hA_f39 (show (2147483647 - t58.toInt).toNat < n39 from om_33 hm39 zt58 rg59) _ _ _ hP hD hS (lv_sub hl [0, 2, 3, 4, 5, 6, 7, 8, 9] rfl)
                      · skip
                        have zc57 : ¬ (t52.toInt ≤ 0) := zMn rfl tc_0 c57
                        refine lv_iload hx hb dX11_sewing_170 (lv_at hl 0 rfl) ?_
                        refine lv_iload hx hb dX11_sewing_172 (lv_at hl 3 rfl) ?_
                        refine lv_icmp_gt (tgt := 214) hx hb dX11_sewing_174 rfl (fun c60 => ?_) (fun c60 => ?_)
                        · skip
                          obtain ⟨t62, et62⟩ : ∃ y : Int32, y = l8_39 + 1 := ⟨_, rfl⟩
                          have zt62 : t62.toInt = l8_39.toInt + 1 := (congrArg Int32.toInt et62).trans (add_i rfl tc_1 (om_41 hr8_39) (om_704 zc38 zt52 zc57))
                          refine lv_iinc (v := t62) (lv' := [(8, .int t62), (9, .int t52), (7, .int l7_37), (6, .int r33), (5, .int r22), (4, .int r16), (0, .ref y0), (1, .int p1), (2, .int p2), (3, .int p3)]) hx hb dX11_sewing_214 hl (k := 1) rfl et62.symm (Nat.le_of_ble_eq_true rfl) rfl (fun ls hl => ?_)
                          refine lv_goto (tgt := 104) hx hb dX11_sewing_217 rfl ?_
                          have rg63 := fb_rng t62
                          exact ih39 t62 v39 f39 w39 g39 hIv39 hCf39 hRf39 hq0_v39 hq1_v39 hq2_v39 hq3_v39 hq4_v39 hq5_v39 hq8_v39 hq9_v39 hq10_v39 hq13_v39 hq14_v39 hq15_v39 hq17_v39 hq18_v39 hq24_v39 hq25_v39 hq35_v39 hq36_v39 hq38_v39 hq39_v39 ⟨show (0 : Int) ≤ t62.toInt from om_43 hr8_39 zt62, show t62.toInt ≤ (2147483647 : Int) from om_44 rg63⟩ hM_v39 hA_f39 (show (2147483647 - t62.toInt).toNat < n39 from om_33 hm39 zt62 rg63) _ _ _ hP hD hS (lv_sub hl [0, 2, 3, 4, 5, 6, 7, 8, 9] rfl)
                        · skip
                          refine lv_aload_n hx hb dX11_sewing_177 rfl (lv_at hl 6 rfl) ?_
                          refine lv_iload_n hx hb dX11_sewing_178 rfl (lv_at hl 7 rfl) ?_
                          refine lv_iload_n hx hb dX11_sewing_179 rfl (lv_at hl 8 rfl) ?_
                          refine lv_iload hx hb dX11_sewing_180 (lv_at hl 1 rfl) ?_
                          refine lv_iload hx hb dX11_sewing_182 (lv_at hl 0 rfl) ?_
                          refine lv_ineg hx hb dX11_sewing_184 ?_
                          refine lv_topi (fun t65 et65 => ?_)
                          refine cbVi (n := 4) (rest := []) hx hb hml hown hts hE hP hD hS hA (sY_X11_isSewn_1 l dC dI cy y0 r p1 p2 l8_39 t65 v39 f39 w39 g39 hIv39 hCf39 hRf39 ⟨show (0 : Int) ≤ p1.toInt from om_62 g3_0, show p1.toInt ≤ (5 : Int) from om_451 g3_2⟩ ⟨show (0 : Int) ≤ p2.toInt from om_62 g6_0, show p2.toInt ≤ (5 : Int) from om_451 g6_2⟩) k_1892 k_1894 k_87 k_114 k_1895 hd_yX11_isSewn ⟨Nat.le_of_ble_eq_true rfl, Nat.le_of_ble_eq_true rfl⟩ 0 11 rfl rfl (rfl) hl.1 rfl (Nat.le_of_ble_eq_true rfl) dX11_sewing_185 (fun r66 u H locs hw hP hD hS => ?_)
                          obtain ⟨v67, f68, w69, g70⟩ := u
                          obtain ⟨kV_v67, kF_f68, hIv67, hCf68, hRf68, hk0_v67, hk1_v67, hk2_v67, hk3_v67, hk4_v67, hk5_v67, hk8_v67, hk9_v67, hk10_v67, hk13_v67, hk14_v67, hk15_v67, hk17_v67, hk18_v67, hk24_v67, hk25_v67, hk35_v67, hk36_v67, hk38_v67, hk39_v67, hw⟩ := hw
                          have hM_v67 : KV [] v67 v := KV.tr kV_v67 hM_v39 rfl
                          have hA_f68 : KF [7, 8, 24] f68 f := KF.tr kF_f68 hA_f39 rfl
                          have hP : va_P (dC, dI) vwCl (YW cy y0 r v67 f68 w69 g70) H := hP
                          have hD : va_D A (YW cy y0 r v67 f68 w69 g70) := hD
                          have hq0_v67 : v67 0 = (v 0) := hk0_v67.trans hq0_v39
                          have hq1_v67 : v67 1 = (v 1) := hk1_v67.trans hq1_v39
                          have hq2_v67 : v67 2 = (v 2) := hk2_v67.trans hq2_v39
                          have hq3_v67 : v67 3 = (v 3) := hk3_v67.trans hq3_v39
                          have hq4_v67 : v67 4 = (v 4) := hk4_v67.trans hq4_v39
                          have hq5_v67 : v67 5 = (v 5) := hk5_v67.trans hq5_v39
                          have hq8_v67 : v67 8 = (v 8) := hk8_v67.trans hq8_v39
                          have hq9_v67 : v67 9 = (v 9) := hk9_v67.trans hq9_v39
                          have hq10_v67 : v67 10 = (v 10) := hk10_v67.trans hq10_v39
                          have hq13_v67 : v67 13 = (v 13) := hk13_v67.trans hq13_v39
                          have hq14_v67 : v67 14 = (v 14) := hk14_v67.trans hq14_v39
                          have hq15_v67 : v67 15 = (v 15) := hk15_v67.trans hq15_v39
                          have hq17_v67 : v67 17 = (v 17) := hk17_v67.trans hq17_v39
                          have hq18_v67 : v67 18 = (v 18) := hk18_v67.trans hq18_v39
                          have hq24_v67 : v67 24 = (v 24) := hk24_v67.trans hq24_v39
                          have hq25_v67 : v67 25 = (v 25) := hk25_v67.trans hq25_v39
                          have hq35_v67 : v67 35 = (v 35) := hk35_v67.trans hq35_v39
                          have hq36_v67 : v67 36 = (v 36) := hk36_v67.trans hq36_v39
                          have hq38_v67 : v67 38 = (v 38) := hk38_v67.trans hq38_v39
                          have hq39_v67 : v67 39 = (v 39) := hk39_v67.trans hq39_v39
                          rcases hw with ⟨g71⟩ | ⟨g71⟩
                          · skip
                            subst g71
                            refine lv_if_eq (tgt := 214) hx hb dX11_sewing_188 rfl (fun c0 => absurd c0 (by decide)) (fun _ => ?_)
                            refine lv_iload_n hx hb dX11_sewing_191 rfl (lv_at hl 9 rfl) ?_
                            refine lv_if_ne (tgt := 200) hx hb dX11_sewing_192 rfl (fun c72 => ?_) (fun c72 => ?_)
                            · skip
                              refine lv_iload_n hx hb dX11_sewing_200 rfl (lv_at hl 9 rfl) ?_
                              refine lv_iconst (v := 1) hx hb dX11_sewing_201 rfl ?_
                              refine lv_icmp_ne (tgt := 210) hx hb dX11_sewing_202 rfl (fun c73 => ?_) (fun c73 => ?_)
                              · skip
                                refine lv_iload hx hb dX11_sewing_210 (lv_at hl 0 rfl) ?_
                                refine lv_ineg hx hb dX11_sewing_212 ?_
                                refine lv_topi (fun t74 et74 => ?_)
                                exact ret t74 (v67, f68, w69, g70) _ _ _ _ _ _ rfl ⟨hM_v67, hA_f68, hIv67, hCf68, hRf68, (hk0_v67.trans hq0_v39), (hk1_v67.trans hq1_v39), (hk2_v67.trans hq2_v39), (hk3_v67.trans hq3_v39), (hk4_v67.trans hq4_v39), (hk5_v67.trans hq5_v39), (hk8_v67.trans hq8_v39), (hk9_v67.trans hq9_v39), (hk10_v67.trans hq10_v39), (hk13_v67.trans hq13_v39), (hk14_v67.trans hq14_v39), (hk15_v67.trans hq15_v39), (hk17_v67.trans hq17_v39), (hk18_v67.trans hq18_v39), (hk24_v67.trans hq24_v39), (hk25_v67.trans hq25_v39), (hk35_v67.trans hq35_v39), (hk36_v67.trans hq36_v39), (hk38_v67.trans hq38_v39), (hk39_v67.trans hq39_v39)⟩ hP hD hS dX11_sewing_213 (Nat.le_refl _) (Nat.le_refl _)
                              · skip
                                refine lv_iload hx hb dX11_sewing_205 (lv_at hl 1 rfl) ?_
                                refine lv_goto (tgt := 213) hx hb dX11_sewing_207 rfl ?_
                                exact ret l8_39 (v67, f68, w69, g70) _ _ _ _ _ _ rfl ⟨hM_v67, hA_f68, hIv67, hCf68, hRf68, (hk0_v67.trans hq0_v39), (hk1_v67.trans hq1_v39), (hk2_v67.trans hq2_v39), (hk3_v67.trans hq3_v39), (hk4_v67.trans hq4_v39), (hk5_v67.trans hq5_v39), (hk8_v67.trans hq8_v39), (hk9_v67.trans hq9_v39), (hk10_v67.trans hq10_v39), (hk13_v67.trans hq13_v39), (hk14_v67.trans hq14_v39), (hk15_v67.trans hq15_v39), (hk17_v67.trans hq17_v39), (hk18_v67.trans hq18_v39), (hk24_v67.trans hq24_v39), (hk25_v67.trans hq25_v39), (hk35_v67.trans hq35_v39), (hk36_v67.trans hq36_v39), (hk38_v67.trans hq38_v39), (hk39_v67.trans hq39_v39)⟩ hP hD hS dX11_sewing_213 (Nat.le_refl _) (Nat.le_refl _)
                            · skip
                              refine lv_iload hx hb dX11_sewing_195 (lv_at hl 2 rfl) ?_
                              refine lv_goto (tgt := 213) hx hb dX11_sewing_197 rfl ?_
                              exact ret l7_37 (v67, f68, w69, g70) _ _ _ _ _ _ rfl ⟨hM_v67, hA_f68, hIv67, hCf68, hRf68, (hk0_v67.trans hq0_v39), (hk1_v67.trans hq1_v39), (hk2_v67.trans hq2_v39), (hk3_v67.trans hq3_v39), (hk4_v67.trans hq4_v39), (hk5_v67.trans hq5_v39), (hk8_v67.trans hq8_v39), (hk9_v67.trans hq9_v39), (hk10_v67.trans hq10_v39), (hk13_v67.trans hq13_v39), (hk14_v67.trans hq14_v39), (hk15_v67.trans hq15_v39), (hk17_v67.trans hq17_v39), (hk18_v67.trans hq18_v39), (hk24_v67.trans hq24_v39), (hk25_v67.trans hq25_v39), (hk35_v67.trans hq35_v39), (hk36_v67.trans hq36_v39), (hk38_v67.trans hq38_v39), (hk39_v67.trans hq39_v39)⟩ hP hD hS dX11_sewing_213 (Nat.le_refl _) (Nat.le_refl _)
                          · skip
                            subst g71
                            refine lv_if_eq (tgt := 214) hx hb dX11_sewing_188 rfl (fun _ => ?_) (fun c0 => absurd (by decide) c0)
                            obtain ⟨t75, et75⟩ : ∃ y : Int32, y = l8_39 + 1 := ⟨_, rfl⟩
                            have zt75 : t75.toInt = l8_39.toInt + 1 := (congrArg Int32.toInt et75).trans (add_i rfl tc_1 (om_41 hr8_39) (om_704 zc38 zt52 zc57))
                            refine lv_iinc (v := t75) (lv' := [(8, .int t75), (9, .int t52), (7, .int l7_37), (6, .int r33), (5, .int r22), (4, .int r16), (0, .ref y0), (1, .int p1), (2, .int p2), (3, .int p3)]) hx hb dX11_sewing_214 hl (k := 1) rfl et75.symm (Nat.le_of_ble_eq_true rfl) rfl (fun ls hl => ?_)
                            refine lv_goto (tgt := 104) hx hb dX11_sewing_217 rfl ?_
                            have rg76 := fb_rng t75
                            exact ih39 t75 v67 f68 w69 g70 hIv67 hCf68 hRf68 hq0_v67 hq1_v67 hq2_v67 hq3_v67 hq4_v67 hq5_v67 hq8_v67 hq9_v67 hq10_v67 hq13_v67 hq14_v67 hq15_v67 hq17_v67 hq18_v67 hq24_v67 hq25_v67 hq35_v67 hq36_v67 hq38_v67 hq39_v67 ⟨show (0 : Int) ≤ t75.toInt from om_43 hr8_39 zt75, show t75.toInt ≤ (2147483647 : Int) from om_44 rg76⟩ hM_v67 hA_f68 (show (2147483647 - t75.toInt).toNat < n39 from om_33 hm39 zt75 rg76) _ _ _ hP hD hS (lv_sub hl [0, 2, 3, 4, 5, 6, 7, 8, 9] rfl)
                    · skip
                      refine lv_aload_n hx hb dX11_sewing_130 rfl (lv_at hl 6 rfl) ?_
                      refine lv_iload_n hx hb dX11_sewing_131 rfl (lv_at hl 7 rfl) ?_
                      refine lv_iload_n hx hb dX11_sewing_132 rfl (lv_at hl 8 rfl) ?_
                      refine lv_iload hx hb dX11_sewing_133 (lv_at hl 1 rfl) ?_
                      refine lv_iload hx hb dX11_sewing_135 (lv_at hl 0 rfl) ?_
                      refine cbVi (n := 4) (rest := []) hx hb hml hown hts hE hP hD hS hA (sY_X11_isSewn_1 l dC dI cy y0 r p1 p2 l8_39 t52 v39 f39 w39 g39 hIv39 hCf39 hRf39 ⟨show (0 : Int) ≤ p1.toInt from om_62 g3_0, show p1.toInt ≤ (5 : Int) from om_451 g3_2⟩ ⟨show (0 : Int) ≤ p2.toInt from om_62 g6_0, show p2.toInt ≤ (5 : Int) from om_451 g6_2⟩) k_1892 k_1894 k_87 k_114 k_1895 hd_yX11_isSewn ⟨Nat.le_of_ble_eq_true rfl, Nat.le_of_ble_eq_true rfl⟩ 0 11 rfl rfl (rfl) hl.1 rfl (Nat.le_of_ble_eq_true rfl) dX11_sewing_137 (fun r79 u H locs hw hP hD hS => ?_)
                      obtain ⟨v80, f81, w82, g83⟩ := u
                      obtain ⟨kV_v80, kF_f81, hIv80, hCf81, hRf81, hk0_v80, hk1_v80, hk2_v80, hk3_v80, hk4_v80, hk5_v80, hk8_v80, hk9_v80, hk10_v80, hk13_v80, hk14_v80, hk15_v80, hk17_v80, hk18_v80, hk24_v80, hk25_v80, hk35_v80, hk36_v80, hk38_v80, hk39_v80, hw⟩ := hw
                      have hM_v80 : KV [] v80 v := KV.tr kV_v80 hM_v39 rfl
                      have hA_f81 : KF [7, 8, 24] f81 f := KF.tr kF_f81 hA_f39 rfl
                      have hP : va_P (dC, dI) vwCl (YW cy y0 r v80 f81 w82 g83) H := hP
                      have hD : va_D A (YW cy y0 r v80 f81 w82 g83) := hD
                      have hq0_v80 : v80 0 = (v 0) := hk0_v80.trans hq0_v39
                      have hq1_v80 : v80 1 = (v 1) := hk1_v80.trans hq1_v39
                      have hq2_v80 : v80 2 = (v 2) := hk2_v80.trans hq2_v39
                      have hq3_v80 : v80 3 = (v 3) := hk3_v80.trans hq3_v39
                      have hq4_v80 : v80 4 = (v 4) := hk4_v80.trans hq4_v39
                      have hq5_v80 : v80 5 = (v 5) := hk5_v80.trans hq5_v39
                      have hq8_v80 : v80 8 = (v 8) := hk8_v80.trans hq8_v39
                      have hq9_v80 : v80 9 = (v 9) := hk9_v80.trans hq9_v39
                      have hq10_v80 : v80 10 = (v 10) := hk10_v80.trans hq10_v39
                      have hq13_v80 : v80 13 = (v 13) := hk13_v80.trans hq13_v39
                      have hq14_v80 : v80 14 = (v 14) := hk14_v80.trans hq14_v39
                      have hq15_v80 : v80 15 = (v 15) := hk15_v80.trans hq15_v39
                      have hq17_v80 : v80 17 = (v 17) := hk17_v80.trans hq17_v39
                      have hq18_v80 : v80 18 = (v 18) := hk18_v80.trans hq18_v39
                      have hq24_v80 : v80 24 = (v 24) := hk24_v80.trans hq24_v39
                      have hq25_v80 : v80 25 = (v 25) := hk25_v80.trans hq25_v39
                      have hq35_v80 : v80 35 = (v 35) := hk35_v80.trans hq35_v39
                      have hq36_v80 : v80 36 = (v 36) := hk36_v80.trans hq36_v39
                      have hq38_v80 : v80 38 = (v 38) := hk38_v80.trans hq38_v39
                      have hq39_v80 : v80 39 = (v 39) := hk39_v80.trans hq39_v39
                      rcases hw with ⟨g84⟩ | ⟨g84⟩
                      · skip
                        subst g84
                        refine lv_if_eq (tgt := 165) hx hb dX11_sewing_140 rfl (fun c0 => absurd c0 (by decide)) (fun _ => ?_)
                        refine lv_iload_n hx hb dX11_sewing_143 rfl (lv_at hl 9 rfl) ?_
                        refine lv_if_ne (tgt := 152) hx hb dX11_sewing_144 rfl (fun c85 => ?_) (fun c85 => ?_)
                        · skip
                          refine lv_iload_n hx hb dX11_sewing_152 rfl (lv_at hl 9 rfl) ?_
                          refine lv_iconst (v := 1) hx hb dX11_sewing_153 rfl ?_
                          refine lv_icmp_ne (tgt := 162) hx hb dX11_sewing_154 rfl (fun c86 => ?_) (fun c86 => ?_)
                          · skip
                            refine lv_iload hx hb dX11_sewing_162 (lv_at hl 0 rfl) ?_
                            exact ret t52 (v80, f81, w82, g83) _ _ _ _ _ _ rfl ⟨hM_v80, hA_f81, hIv80, hCf81, hRf81, (hk0_v80.trans hq0_v39), (hk1_v80.trans hq1_v39), (hk2_v80.trans hq2_v39), (hk3_v80.trans hq3_v39), (hk4_v80.trans hq4_v39), (hk5_v80.trans hq5_v39), (hk8_v80.trans hq8_v39), (hk9_v80.trans hq9_v39), (hk10_v80.trans hq10_v39), (hk13_v80.trans hq13_v39), (hk14_v80.trans hq14_v39), (hk15_v80.trans hq15_v39), (hk17_v80.trans hq17_v39), (hk18_v80.trans hq18_v39), (hk24_v80.trans hq24_v39), (hk25_v80.trans hq25_v39), (hk35_v80.trans hq35_v39), (hk36_v80.trans hq36_v39), (hk38_v80.trans hq38_v39), (hk39_v80.trans hq39_v39)⟩ hP hD hS dX11_sewing_164 (Nat.le_refl _) (Nat.le_refl _)
                          · skip
                            refine lv_iload hx hb dX11_sewing_157 (lv_at hl 1 rfl) ?_
                            refine lv_goto (tgt := 164) hx hb dX11_sewing_159 rfl ?_
                            exact ret l8_39 (v80, f81, w82, g83) _ _ _ _ _ _ rfl ⟨hM_v80, hA_f81, hIv80, hCf81, hRf81, (hk0_v80.trans hq0_v39), (hk1_v80.trans hq1_v39), (hk2_v80.trans hq2_v39), (hk3_v80.trans hq3_v39), (hk4_v80.trans hq4_v39), (hk5_v80.trans hq5_v39), (hk8_v80.trans hq8_v39), (hk9_v80.trans hq9_v39), (hk10_v80.trans hq10_v39), (hk13_v80.trans hq13_v39), (hk14_v80.trans hq14_v39), (hk15_v80.trans hq15_v39), (hk17_v80.trans hq17_v39), (hk18_v80.trans hq18_v39), (hk24_v80.trans hq24_v39), (hk25_v80.trans hq25_v39), (hk35_v80.trans hq35_v39), (hk36_v80.trans hq36_v39), (hk38_v80.trans hq38_v39), (hk39_v80.trans hq39_v39)⟩ hP hD hS dX11_sewing_164 (Nat.le_refl _) (Nat.le_refl _)
                        · skip
                          refine lv_iload hx hb dX11_sewing_147 (lv_at hl 2 rfl) ?_
                          refine lv_goto (tgt := 164) hx hb dX11_sewing_149 rfl ?_
                          exact ret l7_37 (v80, f81, w82, g83) _ _ _ _ _ _ rfl ⟨hM_v80, hA_f81, hIv80, hCf81, hRf81, (hk0_v80.trans hq0_v39), (hk1_v80.trans hq1_v39), (hk2_v80.trans hq2_v39), (hk3_v80.trans hq3_v39), (hk4_v80.trans hq4_v39), (hk5_v80.trans hq5_v39), (hk8_v80.trans hq8_v39), (hk9_v80.trans hq9_v39), (hk10_v80.trans hq10_v39), (hk13_v80.trans hq13_v39), (hk14_v80.trans hq14_v39), (hk15_v80.trans hq15_v39), (hk17_v80.trans hq17_v39), (hk18_v80.trans hq18_v39), (hk24_v80.trans hq24_v39), (hk25_v80.trans hq25_v39), (hk35_v80.trans hq35_v39), (hk36_v80.trans hq36_v39), (hk38_v80.trans hq38_v39), (hk39_v80.trans hq39_v39)⟩ hP hD hS dX11_sewing_164 (Nat.le_refl _) (Nat.le_refl _)
                      · skip
                        subst g84
                        refine lv_if_eq (tgt := 165) hx hb dX11_sewing_140 rfl (fun _ => ?_) (fun c0 => absurd (by decide) c0)
                        refine lv_iload hx hb dX11_sewing_165 (lv_at hl 0 rfl) ?_
                        refine lv_if_le (tgt := 214) hx hb dX11_sewing_167 rfl (fun c87 => ?_) (fun c87 => ?_)
                        · skip
                          obtain ⟨t88, et88⟩ : ∃ y : Int32, y = l8_39 + 1 := ⟨_, rfl⟩
                          have zt88 : t88.toInt = l8_39.toInt + 1 := (congrArg Int32.toInt et88).trans (add_i rfl tc_1 (om_41 hr8_39) (om_703 zc38 pp42 zc44))
                          refine lv_iinc (v := t88) (lv' := [(8, .int t88), (9, .int t52), (7, .int l7_37), (6, .int r33), (5, .int r22), (4, .int r16), (0, .ref y0), (1, .int p1), (2, .int p2), (3, .int p3)]) hx hb dX11_sewing_214 hl (k := 1) rfl et88.symm (Nat.le_of_ble_eq_true rfl) rfl (fun ls hl => ?_)
                          refine lv_goto (tgt := 104) hx hb dX11_sewing_217 rfl ?_
                          have rg89 := fb_rng t88
                          exact ih39 t88 v80 f81 w82 g83 hIv80 hCf81 hRf81 hq0_v80 hq1_v80 hq2_v80 hq3_v80 hq4_v80 hq5_v80 hq8_v80 hq9_v80 hq10_v80 hq13_v80 hq14_v80 hq15_v80 hq17_v80 hq18_v80 hq24_v80 hq25_v80 hq35_v80 hq36_v80 hq38_v80 hq39_v80 ⟨show (0 : Int) ≤ t88.toInt from om_43 hr8_39 zt88, show t88.toInt ≤ (2147483647 : Int) from om_44 rg89⟩ hM_v80 hA_f81 (show (2147483647 - t88.toInt).toNat < n39 from om_33 hm39 zt88 rg89) _ _ _ hP hD hS (lv_sub hl [0, 2, 3, 4, 5, 6, 7, 8, 9] rfl)
                        · skip
                          have zc87 : ¬ (t52.toInt ≤ 0) := zMn rfl tc_0 c87
                          refine lv_iload hx hb dX11_sewing_170 (lv_at hl 0 rfl) ?_
                          refine lv_iload hx hb dX11_sewing_172 (lv_at hl 3 rfl) ?_
                          refine lv_icmp_gt (tgt := 214) hx hb dX11_sewing_174 rfl (fun c90 => ?_) (fun c90 => ?_)
                          · skip
                            obtain ⟨t92, et92⟩ : ∃ y : Int32, y = l8_39 + 1 := ⟨_, rfl⟩
                            have zt92 : t92.toInt = l8_39.toInt + 1 := (congrArg Int32.toInt et92).trans (add_i rfl tc_1 (om_41 hr8_39) (om_704 zc38 zt52 zc87))
                            refine lv_iinc (v := t92) (lv' := [(8, .int t92), (9, .int t52), (7, .int l7_37), (6, .int r33), (5, .int r22), (4, .int r16), (0, .ref y0), (1, .int p1), (2, .int p2), (3, .int p3)]) hx hb dX11_sewing_214 hl (k := 1) rfl et92.symm (Nat.le_of_ble_eq_true rfl) rfl (fun ls hl => ?_)
                            refine lv_goto (tgt := 104) hx hb dX11_sewing_217 rfl ?_
                            have rg93 := fb_rng t92
                            exact ih39 t92 v80 f81 w82 g83 hIv80 hCf81 hRf81 hq0_v80 hq1_v80 hq2_v80 hq3_v80 hq4_v80 hq5_v80 hq8_v80 hq9_v80 hq10_v80 hq13_v80 hq14_v80 hq15_v80 hq17_v80 hq18_v80 hq24_v80 hq25_v80 hq35_v80 hq36_v80 hq38_v80 hq39_v80 ⟨show (0 : Int) ≤ t92.toInt from om_43 hr8_39 zt92, show t92.toInt ≤ (2147483647 : Int) from om_44 rg93⟩ hM_v80 hA_f81 (show (2147483647 - t92.toInt).toNat < n39 from om_33 hm39 zt92 rg93) _ _ _ hP hD hS (lv_sub hl [0, 2, 3, 4, 5, 6, 7, 8, 9] rfl)
                          · skip
                            refine lv_aload_n hx hb dX11_sewing_177 rfl (lv_at hl 6 rfl) ?_
                            refine lv_iload_n hx hb dX11_sewing_178 rfl (lv_at hl 7 rfl) ?_
                            refine lv_iload_n hx hb dX11_sewing_179 rfl (lv_at hl 8 rfl) ?_
                            refine lv_iload hx hb dX11_sewing_180 (lv_at hl 1 rfl) ?_
                            refine lv_iload hx hb dX11_sewing_182 (lv_at hl 0 rfl) ?_
                            refine lv_ineg hx hb dX11_sewing_184 ?_
                            refine lv_topi (fun t95 et95 => ?_)
                            refine cbVi (n := 4) (rest := []) hx hb hml hown hts hE hP hD hS hA (sY_X11_isSewn_1 l dC dI cy y0 r p1 p2 l8_39 t95 v80 f81 w82 g83 hIv80 hCf81 hRf81 ⟨show (0 : Int) ≤ p1.toInt from om_62 g3_0, show p1.toInt ≤ (5 : Int) from om_451 g3_2⟩ ⟨show (0 : Int) ≤ p2.toInt from om_62 g6_0, show p2.toInt ≤ (5 : Int) from om_451 g6_2⟩) k_1892 k_1894 k_87 k_114 k_1895 hd_yX11_isSewn ⟨Nat.le_of_ble_eq_true rfl, Nat.le_of_ble_eq_true rfl⟩ 0 11 rfl rfl (rfl) hl.1 rfl (Nat.le_of_ble_eq_true rfl) dX11_sewing_185 (fun r96 u H locs hw hP hD hS => ?_)
                            obtain ⟨v97, f98, w99, g100⟩ := u
                            obtain ⟨kV_v97, kF_f98, hIv97, hCf98, hRf98, hk0_v97, hk1_v97, hk2_v97, hk3_v97, hk4_v97, hk5_v97, hk8_v97, hk9_v97, hk10_v97, hk13_v97, hk14_v97, hk15_v97, hk17_v97, hk18_v97, hk24_v97, hk25_v97, hk35_v97, hk36_v97, hk38_v97, hk39_v97, hw⟩ := hw
                            have hM_v97 : KV [] v97 v := KV.tr kV_v97 hM_v80 rfl
                            have hA_f98 : KF [7, 8, 24] f98 f := KF.tr kF_f98 hA_f81 rfl
                            have hP : va_P (dC, dI) vwCl (YW cy y0 r v97 f98 w99 g100) H := hP
                            have hD : va_D A (YW cy y0 r v97 f98 w99 g100) := hD
                            have hq0_v97 : v97 0 = (v 0) := hk0_v97.trans hq0_v80
                            have hq1_v97 : v97 1 = (v 1) := hk1_v97.trans hq1_v80
                            have hq2_v97 : v97 2 = (v 2) := hk2_v97.trans hq2_v80
                            have hq3_v97 : v97 3 = (v 3) := hk3_v97.trans hq3_v80
                            have hq4_v97 : v97 4 = (v 4) := hk4_v97.trans hq4_v80
                            have hq5_v97 : v97 5 = (v 5) := hk5_v97.trans hq5_v80
                            have hq8_v97 : v97 8 = (v 8) := hk8_v97.trans hq8_v80
                            have hq9_v97 : v97 9 = (v 9) := hk9_v97.trans hq9_v80
                            have hq10_v97 : v97 10 = (v 10) := hk10_v97.trans hq10_v80
                            have hq13_v97 : v97 13 = (v 13) := hk13_v97.trans hq13_v80
                            have hq14_v97 : v97 14 = (v 14) := hk14_v97.trans hq14_v80
                            have hq15_v97 : v97 15 = (v 15) := hk15_v97.trans hq15_v80
                            have hq17_v97 : v97 17 = (v 17) := hk17_v97.trans hq17_v80
                            have hq18_v97 : v97 18 = (v 18) := hk18_v97.trans hq18_v80
                            have hq24_v97 : v97 24 = (v 24) := hk24_v97.trans hq24_v80
                            have hq25_v97 : v97 25 = (v 25) := hk25_v97.trans hq25_v80
                            have hq35_v97 : v97 35 = (v 35) := hk35_v97.trans hq35_v80
                            have hq36_v97 : v97 36 = (v 36) := hk36_v97.trans hq36_v80
                            have hq38_v97 : v97 38 = (v 38) := hk38_v97.trans hq38_v80
                            have hq39_v97 : v97 39 = (v 39) := hk39_v97.trans hq39_v80
                            rcases hw with ⟨g101⟩ | ⟨g101⟩
                            · skip
                              subst g101
                              refine lv_if_eq (tgt := 214) hx hb dX11_sewing_188 rfl (fun c0 => absurd c0 (by decide)) (fun _ => ?_)
                              refine lv_iload_n hx hb dX11_sewing_191 rfl (lv_at hl 9 rfl) ?_
                              refine lv_if_ne (tgt := 200) hx hb dX11_sewing_192 rfl (fun c102 => ?_) (fun c102 => ?_)
                              · skip
                                refine lv_iload_n hx hb dX11_sewing_200 rfl (lv_at hl 9 rfl) ?_
                                refine lv_iconst (v := 1) hx hb dX11_sewing_201 rfl ?_
                                refine lv_icmp_ne (tgt := 210) hx hb dX11_sewing_202 rfl (fun c103 => ?_) (fun c103 => ?_)
                                · skip
                                  refine lv_iload hx hb dX11_sewing_210 (lv_at hl 0 rfl) ?_
                                  refine lv_ineg hx hb dX11_sewing_212 ?_
                                  refine lv_topi (fun t104 et104 => ?_)
                                  exact ret t104 (v97, f98, w99, g100) _ _ _ _ _ _ rfl ⟨hM_v97, hA_f98, hIv97, hCf98, hRf98, (hk0_v97.trans (hk0_v80.trans hq0_v39)), (hk1_v97.trans (hk1_v80.trans hq1_v39)), (hk2_v97.trans (hk2_v80.trans hq2_v39)), (hk3_v97.trans (hk3_v80.trans hq3_v39)), (hk4_v97.trans (hk4_v80.trans hq4_v39)), (hk5_v97.trans (hk5_v80.trans hq5_v39)), (hk8_v97.trans (hk8_v80.trans hq8_v39)), (hk9_v97.trans (hk9_v80.trans hq9_v39)), (hk10_v97.trans (hk10_v80.trans hq10_v39)), (hk13_v97.trans (hk13_v80.trans hq13_v39)), (hk14_v97.trans (hk14_v80.trans hq14_v39)), (hk15_v97.trans (hk15_v80.trans hq15_v39)), (hk17_v97.trans (hk17_v80.trans hq17_v39)), (hk18_v97.trans (hk18_v80.trans hq18_v39)), (hk24_v97.trans (hk24_v80.trans hq24_v39)), (hk25_v97.trans (hk25_v80.trans hq25_v39)), (hk35_v97.trans (hk35_v80.trans hq35_v39)), (hk36_v97.trans (hk36_v80.trans hq36_v39)), (hk38_v97.trans (hk38_v80.trans hq38_v39)), (hk39_v97.trans (hk39_v80.trans hq39_v39))⟩ hP hD hS dX11_sewing_213 (Nat.le_refl _) (Nat.le_refl _)
                                · skip
                                  refine lv_iload hx hb dX11_sewing_205 (lv_at hl 1 rfl) ?_
                                  refine lv_goto (tgt := 213) hx hb dX11_sewing_207 rfl ?_
                                  exact ret l8_39 (v97, f98, w99, g100) _ _ _ _ _ _ rfl ⟨hM_v97, hA_f98, hIv97, hCf98, hRf98, (hk0_v97.trans (hk0_v80.trans hq0_v39)), (hk1_v97.trans (hk1_v80.trans hq1_v39)), (hk2_v97.trans (hk2_v80.trans hq2_v39)), (hk3_v97.trans (hk3_v80.trans hq3_v39)), (hk4_v97.trans (hk4_v80.trans hq4_v39)), (hk5_v97.trans (hk5_v80.trans hq5_v39)), (hk8_v97.trans (hk8_v80.trans hq8_v39)), (hk9_v97.trans (hk9_v80.trans hq9_v39)), (hk10_v97.trans (hk10_v80.trans hq10_v39)), (hk13_v97.trans (hk13_v80.trans hq13_v39)), (hk14_v97.trans (hk14_v80.trans hq14_v39)), (hk15_v97.trans (hk15_v80.trans hq15_v39)), (hk17_v97.trans (hk17_v80.trans hq17_v39)), (hk18_v97.trans (hk18_v80.trans hq18_v39)), (hk24_v97.trans (hk24_v80.trans hq24_v39)), (hk25_v97.trans (hk25_v80.trans hq25_v39)), (hk35_v97.trans (hk35_v80.trans hq35_v39)), (hk36_v97.trans (hk36_v80.trans hq36_v39)), (hk38_v97.trans (hk38_v80.trans hq38_v39)), (hk39_v97.trans (hk39_v80.trans hq39_v39))⟩ hP hD hS dX11_sewing_213 (Nat.le_refl _) (Nat.le_refl _)
                              · skip
                                refine lv_iload hx hb dX11_sewing_195 (lv_at hl 2 rfl) ?_
                                refine lv_goto (tgt := 213) hx hb dX11_sewing_197 rfl ?_
                                exact ret l7_37 (v97, f98, w99, g100) _ _ _ _ _ _ rfl ⟨hM_v97, hA_f98, hIv97, hCf98, hRf98, (hk0_v97.trans (hk0_v80.trans hq0_v39)), (hk1_v97.trans (hk1_v80.trans hq1_v39)), (hk2_v97.trans (hk2_v80.trans hq2_v39)), (hk3_v97.trans (hk3_v80.trans hq3_v39)), (hk4_v97.trans (hk4_v80.trans hq4_v39)), (hk5_v97.trans (hk5_v80.trans hq5_v39)), (hk8_v97.trans (hk8_v80.trans hq8_v39)), (hk9_v97.trans (hk9_v80.trans hq9_v39)), (hk10_v97.trans (hk10_v80.trans hq10_v39)), (hk13_v97.trans (hk13_v80.trans hq13_v39)), (hk14_v97.trans (hk14_v80.trans hq14_v39)), (hk15_v97.trans (hk15_v80.trans hq15_v39)), (hk17_v97.trans (hk17_v80.trans hq17_v39)), (hk18_v97.trans (hk18_v80.trans hq18_v39)), (hk24_v97.trans (hk24_v80.trans hq24_v39)), (hk25_v97.trans (hk25_v80.trans hq25_v39)), (hk35_v97.trans (hk35_v80.trans hq35_v39)), (hk36_v97.trans (hk36_v80.trans hq36_v39)), (hk38_v97.trans (hk38_v80.trans hq38_v39)), (hk39_v97.trans (hk39_v80.trans hq39_v39))⟩ hP hD hS dX11_sewing_213 (Nat.le_refl _) (Nat.le_refl _)
                            · skip
                              subst g101
                              refine lv_if_eq (tgt := 214) hx hb dX11_sewing_188 rfl (fun _ => ?_) (fun c0 => absurd (by decide) c0)
                              obtain ⟨t105, et105⟩ : ∃ y : Int32, y = l8_39 + 1 := ⟨_, rfl⟩
                              have zt105 : t105.toInt = l8_39.toInt + 1 := (congrArg Int32.toInt et105).trans (add_i rfl tc_1 (om_41 hr8_39) (om_704 zc38 zt52 zc87))
                              refine lv_iinc (v := t105) (lv' := [(8, .int t105), (9, .int t52), (7, .int l7_37), (6, .int r33), (5, .int r22), (4, .int r16), (0, .ref y0), (1, .int p1), (2, .int p2), (3, .int p3)]) hx hb dX11_sewing_214 hl (k := 1) rfl et105.symm (Nat.le_of_ble_eq_true rfl) rfl (fun ls hl => ?_)
                              refine lv_goto (tgt := 104) hx hb dX11_sewing_217 rfl ?_
                              have rg106 := fb_rng t105
                              exact ih39 t105 v97 f98 w99 g100 hIv97 hCf98 hRf98 hq0_v97 hq1_v97 hq2_v97 hq3_v97 hq4_v97 hq5_v97 hq8_v97 hq9_v97 hq10_v97 hq13_v97 hq14_v97 hq15_v97 hq17_v97 hq18_v97 hq24_v97 hq25_v97 hq35_v97 hq36_v97 hq38_v97 hq39_v97 ⟨show (0 : Int) ≤ t105.toInt from om_43 hr8_39 zt105, show t105.toInt ≤ (2147483647 : Int) from om_44 rg106⟩ hM_v97 hA_f98 (show (2147483647 - t105.toInt).toNat < n39 from om_33 hm39 zt105 rg106) _ _ _ hP hD hS (lv_sub hl [0, 2, 3, 4, 5, 6, 7, 8, 9] rfl)
              exact lp39 _ 0 v37 f37 w37 g37 hIv37 hCf37 hRf37 hq0_v37 hq1_v37 hq2_v37 hq3_v37 hq4_v37 hq5_v37 hq8_v37 hq9_v37 hq10_v37 hq13_v37 hq14_v37 hq15_v37 hq17_v37 hq18_v37 hq24_v37 hq25_v37 hq35_v37 hq36_v37 hq38_v37 hq39_v37 ⟨by decide, by decide⟩ hM_v37 hA_f37 (Nat.lt_succ_self _) _ _ _ hP hD hS (lv_sub hl [0, 1, 2, 3, 4, 5, 6, 7, 8] rfl)
        exact lp37 _ 0 v f w g hIv hCf hRf rfl rfl rfl rfl rfl rfl rfl rfl rfl rfl rfl rfl rfl rfl rfl rfl rfl rfl rfl rfl ⟨by decide, by decide⟩ hM_v hA_f (Nat.lt_succ_self _) _ _ _ hP hD hS (lv_sub hl [0, 1, 2, 3, 4, 5, 6, 7] rfl)
      · skip
        subst g11
        refine lv_if_ne (tgt := 28) hx hb dX11_sewing_22 rfl (fun c0 => absurd (by decide) c0) (fun _ => ?_)
        refine lv_bipush (v := (-100)) hx hb dX11_sewing_25 rfl ?_
        exact ret (-100) (v, f, w, g) _ _ _ _ _ _ rfl ⟨hM_v, hA_f, hIv, hCf, hRf, rfl, rfl, rfl, rfl, rfl, rfl, rfl, rfl, rfl, rfl, rfl, rfl, rfl, rfl, rfl, rfl, rfl, rfl, rfl, rfl⟩ hP hD hS dX11_sewing_27 (Nat.le_refl _) (Nat.le_refl _)
    · skip
      subst g6
      refine lv_if_eq (tgt := 25) hx hb dX11_sewing_13 rfl (fun _ => ?_) (fun c0 => absurd (by decide) c0)
      refine lv_bipush (v := (-100)) hx hb dX11_sewing_25 rfl ?_
      exact ret (-100) (v, f, w, g) _ _ _ _ _ _ rfl ⟨hM_v, hA_f, hIv, hCf, hRf, rfl, rfl, rfl, rfl, rfl, rfl, rfl, rfl, rfl, rfl, rfl, rfl, rfl, rfl, rfl, rfl, rfl, rfl, rfl, rfl⟩ hP hD hS dX11_sewing_27 (Nat.le_refl _) (Nat.le_refl _)
  · skip
    subst g3
    refine lv_if_eq (tgt := 25) hx hb dX11_sewing_5 rfl (fun _ => ?_) (fun c0 => absurd (by decide) c0)
    refine lv_bipush (v := (-100)) hx hb dX11_sewing_25 rfl ?_
    exact ret (-100) (v, f, w, g) _ _ _ _ _ _ rfl ⟨hM_v, hA_f, hIv, hCf, hRf, rfl, rfl, rfl, rfl, rfl, rfl, rfl, rfl, rfl, rfl, rfl, rfl, rfl, rfl, rfl, rfl, rfl, rfl, rfl, rfl⟩ hP hD hS dX11_sewing_27 (Nat.le_refl _) (Nat.le_refl _)
