set_option maxHeartbeats 4000000 in
set_option maxRecDepth 100000 in
theorem sX_X1_illness_1 (NF : Nat) (l : Launch) (dC : Nat → ClassId) (dI : Nat → Nat → Nat) (cy : Nat → ClassId) (x0 : Nat) (x : Nat → Nat) (p1 : Int32) (p2 : Int32) (v : Nat → Int32) (f : Nat → Nat → Int32) (hIv : XI v)  : ctI l (dC, dI) cy yX1_illness cX1_illness 3 .int 3 111 0 0 ((Nat → Int32) × (Nat → Nat → Int32)) [.ref (x 21), .int p1, .int p2] (XW cy x0 x v f) (fun r u => gsX_X1_illness_1 NF p1 p2 v f = (r, u) ∧ KV [] u.1 v ∧ KF [13, 14] u.2 f ∧ XI u.1 ∧ u.1 0 = v 0 ∧ u.1 1 = v 1 ∧ u.1 7 = v 7 ∧ u.1 8 = v 8 ∧ u.1 9 = v 9 ∧ u.1 10 = v 10 ∧ u.1 31 = v 31 ∧ u.1 32 = v 32) (fun u => XW cy x0 x u.1 u.2) := by
  refine ctI_of (by decide) (Nat.le_of_ble_eq_true rfl) (fun p e s m below meth c A ls Q hx hb hml hts hown hE hP hD hA hl ret => ?_)
  have hM_v : KV [] v v := fun _ _ => rfl
  have hA_f : KF [13, 14] f f := fun _ _ => rfl
  have hown : s.vm.findClass RX1 = some m.cls := hown
  have hS : va_S A s.heap s.heap [] := va_S.rf
  have hl : lv_has ls 3 [(0, .ref (x 21)), (1, .int p1), (2, .int p2)] := hl
  refine lv_aload_n hx hb dX1_illness_0 rfl (lv_at hl 0 rfl) ?_
  refine va_get (D := (dC, dI)) (ci := 1) (v := .ref (x 26)) (C := RX1) (T := TX1) (N := 2) hx hb hts inB_1 hown hE.1 hP 22 rfl rfl 0 (by decide) (hts _ k_318) (fun _ h9 => h9) rfl dX1_illness_1 ?_
  refine va_getN (D := (dC, dI)) (ci := 7) (v := .ref (x 15)) (C := RX7) (T := TX7) (N := 10) hx hb hts inB_7 hown hE.1 hP 27 rfl rfl 2 (by decide) (va_Nw.use rfl (hE.2 _ k_209)) (fun _ h9 => h9) rfl dX1_illness_4 ?_
  refine lv_aload_n hx hb dX1_illness_7 rfl (lv_at hl 0 rfl) ?_
  refine va_get (D := (dC, dI)) (ci := 1) (v := .ref (x 26)) (C := RX1) (T := TX1) (N := 2) hx hb hts inB_1 hown hE.1 hP 22 rfl rfl 0 (by decide) (hts _ k_318) (fun _ h9 => h9) rfl dX1_illness_8 ?_
  refine lv_iconst (v := 0) hx hb dX1_illness_11 (by decide) ?_
  refine lv_iload_n hx hb dX1_illness_12 rfl (lv_at hl 1 rfl) ?_
  refine cbVi (n := 2) (rest := [.ref (x 15)]) hx hb hml hown hts hE hP hD hS hA (sX_X7_manPart_1 NF l dC dI cy x0 x 0 p1 v f hIv ) k_302 k_303 k_304 k_104 k_305 (by decide +kernel) ⟨Nat.le_of_ble_eq_true rfl, Nat.le_of_ble_eq_true rfl⟩ 27 7 rfl rfl (rfl) hl.1 rfl (Nat.le_of_ble_eq_true rfl) dX1_illness_13 (fun r1 u H locs hw hP hD hS => ?_)
  have hG2 := hw
  refine lv_aload_n hx hb dX1_illness_16 rfl (lv_at hl 0 rfl) ?_
  refine lv_iload_n hx hb dX1_illness_17 rfl (lv_at hl 1 rfl) ?_
  refine cbVi (n := 1) (rest := [.int r1, .ref (x 15)]) hx hb hml hown hts hE hP hD hS hA (sX_X1_manWide_1 NF l dC dI cy x0 x p1 v f hIv ) k_826 k_805 k_806 k_106 k_807 (by decide +kernel) ⟨Nat.le_of_ble_eq_true rfl, Nat.le_of_ble_eq_true rfl⟩ 22 1 rfl rfl (rfl) hl.1 rfl (Nat.le_of_ble_eq_true rfl) dX1_illness_18 (fun r3 u H locs hw hP hD hS => ?_)
  have hG4 := hw
  refine lv_aload_n hx hb dX1_illness_21 rfl (lv_at hl 0 rfl) ?_
  refine lv_iconst (v := 0) hx hb dX1_illness_22 (by decide) ?_
  refine lv_iload_n hx hb dX1_illness_23 rfl (lv_at hl 2 rfl) ?_
  refine cbVi (n := 2) (rest := [.int r3, .int r1, .ref (x 15)]) hx hb hml hown hts hE hP hD hS hA (sX_X1_part_1 NF l dC dI cy x0 x 0 p2 v f hIv ) k_827 k_828 k_829 k_106 k_830 (by decide +kernel) ⟨Nat.le_of_ble_eq_true rfl, Nat.le_of_ble_eq_true rfl⟩ 22 1 rfl rfl (rfl) hl.1 rfl (Nat.le_of_ble_eq_true rfl) dX1_illness_24 (fun r5 u H locs hw hP hD hS => ?_)
  have hG6 := hw
  refine lv_aload_n hx hb dX1_illness_27 rfl (lv_at hl 0 rfl) ?_
  refine lv_iconst (v := 1) hx hb dX1_illness_28 (by decide) ?_
  refine lv_iload_n hx hb dX1_illness_29 rfl (lv_at hl 2 rfl) ?_
  refine cbVi (n := 2) (rest := [.int r5, .int r3, .int r1, .ref (x 15)]) hx hb hml hown hts hE hP hD hS hA (sX_X1_part_1 NF l dC dI cy x0 x 1 p2 v f hIv ) k_827 k_828 k_829 k_106 k_830 (by decide +kernel) ⟨Nat.le_of_ble_eq_true rfl, Nat.le_of_ble_eq_true rfl⟩ 22 1 rfl rfl (rfl) hl.1 rfl (Nat.le_of_ble_eq_true rfl) dX1_illness_30 (fun r7 u H locs hw hP hD hS => ?_)
  have hG8 := hw
  refine lv_aload_n hx hb dX1_illness_33 rfl (lv_at hl 0 rfl) ?_
  refine lv_iconst (v := 3) hx hb dX1_illness_34 (by decide) ?_
  refine lv_iload_n hx hb dX1_illness_35 rfl (lv_at hl 2 rfl) ?_
  refine cbVi (n := 2) (rest := [.int r7, .int r5, .int r3, .int r1, .ref (x 15)]) hx hb hml hown hts hE hP hD hS hA (sX_X1_part_1 NF l dC dI cy x0 x 3 p2 v f hIv ) k_827 k_828 k_829 k_106 k_830 (by decide +kernel) ⟨Nat.le_of_ble_eq_true rfl, Nat.le_of_ble_eq_true rfl⟩ 22 1 rfl rfl (rfl) hl.1 rfl (Nat.le_of_ble_eq_true rfl) dX1_illness_36 (fun r9 u H locs hw hP hD hS => ?_)
  have hG10 := hw
  refine lv_aload_n hx hb dX1_illness_39 rfl (lv_at hl 0 rfl) ?_
  refine cbVi (n := 0) (rest := [.int r9, .int r7, .int r5, .int r3, .int r1, .ref (x 15)]) hx hb hml hown hts hE hP hD hS hA (sX_X1_today_1 NF l dC dI cy x0 x  v f hIv ) k_831 k_832 k_833 k_106 k_834 (by decide +kernel) ⟨Nat.le_of_ble_eq_true rfl, Nat.le_of_ble_eq_true rfl⟩ 22 1 rfl rfl (rfl) hl.1 rfl (Nat.le_of_ble_eq_true rfl) dX1_illness_40 (fun r11 u H locs hw hP hD hS => ?_)
  have hG12 := hw
  refine cbVi (n := 6) (rest := []) hx hb hml hown hts hE hP hD hS hA (sX_X4_worth_1 NF l dC dI cy x0 x r1 r3 r5 r7 r9 r11 v f hIv ) k_835 k_836 k_837 k_105 k_838 (by decide +kernel) ⟨Nat.le_of_ble_eq_true rfl, Nat.le_of_ble_eq_true rfl⟩ 16 4 rfl rfl (rfl) hl.1 rfl (Nat.le_of_ble_eq_true rfl) dX1_illness_43 (fun r13 u H locs hw hP hD hS => ?_)
  obtain ⟨hG14, hw⟩ := hw
  obtain ⟨v15, f16⟩ := u
  obtain ⟨kV_v15, kF_f16, hIv15, hk0_v15, hk1_v15, hk7_v15, hk8_v15, hk9_v15, hk10_v15, hk31_v15, hk32_v15⟩ := hw
  have hM_v15 : KV [] v15 v := KV.tr kV_v15 hM_v rfl
  have hA_f16 : KF [13, 14] f16 f := KF.tr kF_f16 hA_f rfl
  have hP : va_P (dC, dI) vwCl (XW cy x0 x v15 f16) H := hP
  have hD : va_D A (XW cy x0 x v15 f16) := hD
  have hq0_v15 : v15 0 = (v 0) := hk0_v15
  have hq1_v15 : v15 1 = (v 1) := hk1_v15
  have hq7_v15 : v15 7 = (v 7) := hk7_v15
  have hq8_v15 : v15 8 = (v 8) := hk8_v15
  have hq9_v15 : v15 9 = (v 9) := hk9_v15
  have hq10_v15 : v15 10 = (v 10) := hk10_v15
  have hq31_v15 : v15 31 = (v 31) := hk31_v15
  have hq32_v15 : v15 32 = (v 32) := hk32_v15
  exact ret r13 (v15, f16) _ _ _ _ _ _ rfl ⟨(gsX_X1_illness_1_q0 hG2.symm hG4.symm hG6.symm hG8.symm hG10.symm hG12.symm hG14), hM_v15, hA_f16, hIv15, hk0_v15, hk1_v15, hk7_v15, hk8_v15, hk9_v15, hk10_v15, hk31_v15, hk32_v15⟩ hP hD hS dX1_illness_46 (Nat.le_refl _) (Nat.le_refl _)
set_option maxHeartbeats 4000000 in
set_option maxRecDepth 100000 in
theorem sX_X10_misfit_1 (NF : Nat) (l : Launch) (dC : Nat → ClassId) (dI : Nat → Nat → Nat) (cy : Nat → ClassId) (x0 : Nat) (x : Nat → Nat) (p1 : Int32) (p2 : Int32) (v : Nat → Int32) (f : Nat → Nat → Int32) (hIv : XI v)  : ctI l (dC, dI) cy yX10_misfit cX10_misfit 3 .int 4 133 0 0 ((Nat → Int32) × (Nat → Nat → Int32)) [.ref x0, .int p1, .int p2] (XW cy x0 x v f) (fun r u => gsX_X10_misfit_1 NF p1 p2 v f = (r, u) ∧ KV [] u.1 v ∧ KF [13, 14] u.2 f ∧ XI u.1 ∧ u.1 0 = v 0 ∧ u.1 1 = v 1 ∧ u.1 7 = v 7 ∧ u.1 8 = v 8 ∧ u.1 9 = v 9 ∧ u.1 10 = v 10 ∧ u.1 31 = v 31 ∧ u.1 32 = v 32) (fun u => XW cy x0 x u.1 u.2) := by
  refine ctI_of (by decide) (Nat.le_of_ble_eq_true rfl) (fun p e s m below meth c A ls Q hx hb hml hts hown hE hP hD hA hl ret => ?_)
  have hM_v : KV [] v v := fun _ _ => rfl
  have hA_f : KF [13, 14] f f := fun _ _ => rfl
  have hown : s.vm.findClass RX10 = some m.cls := hown
  have hS : va_S A s.heap s.heap [] := va_S.rf
  have hl : lv_has ls 3 [(0, .ref x0), (1, .int p1), (2, .int p2)] := hl
  refine lv_aload_n hx hb dX10_misfit_0 rfl (lv_at hl 0 rfl) ?_
  refine va_get (D := (dC, dI)) (ci := 10) (v := .ref (x 26)) (C := RX10) (T := TX10) (N := 10) hx hb hts inB_10 hown hE.1 hP 0 rfl rfl 2 (by decide) (hts _ k_493) (fun _ h9 => h9) rfl dX10_misfit_1 ?_
  refine lv_iload_n hx hb dX10_misfit_4 rfl (lv_at hl 1 rfl) ?_
  refine cbVi (n := 1) (rest := []) hx hb hml hown hts hE hP hD hS hA (sX_X7_hasMan_1 NF l dC dI cy x0 x p1 v f hIv ) k_802 k_307 k_308 k_104 k_309 (by decide +kernel) ⟨Nat.le_of_ble_eq_true rfl, Nat.le_of_ble_eq_true rfl⟩ 27 7 rfl rfl (rfl) hl.1 rfl (Nat.le_of_ble_eq_true rfl) dX10_misfit_5 (fun r1 u H locs hw hP hD hS => ?_)
  obtain ⟨hG2, hw⟩ := hw
  rcases hw with ⟨g3, g3_0, g3_1, g3_2⟩ | ⟨g3⟩
  · skip
    subst g3
    refine lv_if_eq (tgt := 34) hx hb dX10_misfit_8 (by decide) (fun c0 => absurd c0 (by decide)) (fun _ => ?_)
    refine lv_aload_n hx hb dX10_misfit_11 rfl (lv_at hl 0 rfl) ?_
    refine va_get (D := (dC, dI)) (ci := 10) (v := .ref (x 26)) (C := RX10) (T := TX10) (N := 10) hx hb hts inB_10 hown hE.1 hP 0 rfl rfl 2 (by decide) (hts _ k_493) (fun _ h9 => h9) rfl dX10_misfit_12 ?_
    refine lv_iload_n hx hb dX10_misfit_15 rfl (lv_at hl 2 rfl) ?_
    refine cbVi (n := 1) (rest := []) hx hb hml hown hts hE hP hD hS hA (sX_X7_hasCoat_1 NF l dC dI cy x0 x p2 v f hIv ) k_848 k_315 k_316 k_104 k_317 (by decide +kernel) ⟨Nat.le_of_ble_eq_true rfl, Nat.le_of_ble_eq_true rfl⟩ 27 7 rfl rfl (rfl) hl.1 rfl (Nat.le_of_ble_eq_true rfl) dX10_misfit_16 (fun r4 u H locs hw hP hD hS => ?_)
    obtain ⟨hG5, hw⟩ := hw
    rcases hw with ⟨g6, g6_0, g6_1, g6_2⟩ | ⟨g6⟩
    · skip
      subst g6
      refine lv_if_eq (tgt := 34) hx hb dX10_misfit_19 (by decide) (fun c0 => absurd c0 (by decide)) (fun _ => ?_)
      refine lv_aload_n hx hb dX10_misfit_22 rfl (lv_at hl 0 rfl) ?_
      refine va_get (D := (dC, dI)) (ci := 10) (v := .ref (x 21)) (C := RX10) (T := TX10) (N := 10) hx hb hts inB_10 hown hE.1 hP 0 rfl rfl 3 (by decide) (hts _ k_494) (fun _ h9 => h9) rfl dX10_misfit_23 ?_
      refine lv_iload_n hx hb dX10_misfit_26 rfl (lv_at hl 1 rfl) ?_
      refine lv_iload_n hx hb dX10_misfit_27 rfl (lv_at hl 2 rfl) ?_
      refine cbVi (n := 2) (rest := []) hx hb hml hown hts hE hP hD hS hA (sX_X1_illness_1 NF l dC dI cy x0 x p1 p2 v f hIv ) k_859 k_823 k_824 k_106 k_825 (by decide +kernel) ⟨Nat.le_of_ble_eq_true rfl, Nat.le_of_ble_eq_true rfl⟩ 22 1 rfl rfl (rfl) hl.1 rfl (Nat.le_of_ble_eq_true rfl) dX10_misfit_28 (fun r7 u H locs hw hP hD hS => ?_)
      obtain ⟨hG8, hw⟩ := hw
      obtain ⟨v9, f10⟩ := u
      obtain ⟨kV_v9, kF_f10, hIv9, hk0_v9, hk1_v9, hk7_v9, hk8_v9, hk9_v9, hk10_v9, hk31_v9, hk32_v9⟩ := hw
      have hM_v9 : KV [] v9 v := KV.tr kV_v9 hM_v rfl
      have hA_f10 : KF [13, 14] f10 f := KF.tr kF_f10 hA_f rfl
      have hP : va_P (dC, dI) vwCl (XW cy x0 x v9 f10) H := hP
      have hD : va_D A (XW cy x0 x v9 f10) := hD
      have hq0_v9 : v9 0 = (v 0) := hk0_v9
      have hq1_v9 : v9 1 = (v 1) := hk1_v9
      have hq7_v9 : v9 7 = (v 7) := hk7_v9
      have hq8_v9 : v9 8 = (v 8) := hk8_v9
      have hq9_v9 : v9 9 = (v 9) := hk9_v9
      have hq10_v9 : v9 10 = (v 10) := hk10_v9
      have hq31_v9 : v9 31 = (v 31) := hk31_v9
      have hq32_v9 : v9 32 = (v 32) := hk32_v9
      refine lv_goto (tgt := 35) hx hb dX10_misfit_31 (by decide) ?_
      exact ret r7 (v9, f10) _ _ _ _ _ _ rfl ⟨(gsX_X10_misfit_1_q0 hG2 hG5 hG8), hM_v9, hA_f10, hIv9, hk0_v9, hk1_v9, hk7_v9, hk8_v9, hk9_v9, hk10_v9, hk31_v9, hk32_v9⟩ hP hD hS dX10_misfit_35 (Nat.le_refl _) (Nat.le_refl _)
    · skip
      subst g6
      refine lv_if_eq (tgt := 34) hx hb dX10_misfit_19 (by decide) (fun _ => ?_) (fun c0 => absurd (by decide) c0)
      refine lv_iconst (v := (-1)) hx hb dX10_misfit_34 (by decide) ?_
      exact ret (-1) (v, f) _ _ _ _ _ _ rfl ⟨(gsX_X10_misfit_1_q1 hG2 hG5), hM_v, hA_f, hIv, rfl, rfl, rfl, rfl, rfl, rfl, rfl, rfl⟩ hP hD hS dX10_misfit_35 (Nat.le_refl _) (Nat.le_refl _)
  · skip
    subst g3
    refine lv_if_eq (tgt := 34) hx hb dX10_misfit_8 (by decide) (fun _ => ?_) (fun c0 => absurd (by decide) c0)
    refine lv_iconst (v := (-1)) hx hb dX10_misfit_34 (by decide) ?_
    exact ret (-1) (v, f) _ _ _ _ _ _ rfl ⟨(gsX_X10_misfit_1_q2 hG2), hM_v, hA_f, hIv, rfl, rfl, rfl, rfl, rfl, rfl, rfl, rfl⟩ hP hD hS dX10_misfit_35 (Nat.le_refl _) (Nat.le_refl _)
set_option maxHeartbeats 4000000 in
set_option maxRecDepth 100000 in
theorem sX_X1_wears_1 (NF : Nat) (l : Launch) (dC : Nat → ClassId) (dI : Nat → Nat → Nat) (cy : Nat → ClassId) (x0 : Nat) (x : Nat → Nat) (p1 : Int32) (v : Nat → Int32) (f : Nat → Nat → Int32) (hIv : XI v)  : ctI l (dC, dI) cy yX1_wears cX1_wears 2 .int 2 81 0 0 Unit [.ref (x 21), .int p1] (XW cy x0 x v f) (fun r u => gsX_X1_wears_1 NF p1 v f = r) (fun u => XW cy x0 x v f) := by
  refine ctI_of (by decide) (Nat.le_of_ble_eq_true rfl) (fun p e s m below meth c A ls Q hx hb hml hts hown hE hP hD hA hl ret => ?_)
  have hown : s.vm.findClass RX1 = some m.cls := hown
  have hS : va_S A s.heap s.heap [] := va_S.rf
  have hl : lv_has ls 2 [(0, .ref (x 21)), (1, .int p1)] := hl
  refine lv_aload_n hx hb dX1_wears_0 rfl (lv_at hl 0 rfl) ?_
  refine va_get (D := (dC, dI)) (ci := 1) (v := .ref (x 26)) (C := RX1) (T := TX1) (N := 2) hx hb hts inB_1 hown hE.1 hP 22 rfl rfl 0 (by decide) (hts _ k_318) (fun _ h9 => h9) rfl dX1_wears_1 ?_
  refine lv_iload_n hx hb dX1_wears_4 rfl (lv_at hl 1 rfl) ?_
  refine cbVi (n := 1) (rest := []) hx hb hml hown hts hE hP hD hS hA (sX_X7_hasMan_1 NF l dC dI cy x0 x p1 v f hIv ) k_808 k_307 k_308 k_104 k_309 (by decide +kernel) ⟨Nat.le_of_ble_eq_true rfl, Nat.le_of_ble_eq_true rfl⟩ 27 7 rfl rfl (rfl) hl.1 rfl (Nat.le_of_ble_eq_true rfl) dX1_wears_5 (fun r1 u H locs hw hP hD hS => ?_)
  obtain ⟨hG2, hw⟩ := hw
  rcases hw with ⟨g3, g3_0, g3_1, g3_2⟩ | ⟨g3⟩
  · skip
    subst g3
    refine lv_if_eq (tgt := 23) hx hb dX1_wears_8 (by decide) (fun c0 => absurd c0 (by decide)) (fun _ => ?_)
    refine lv_aload_n hx hb dX1_wears_11 rfl (lv_at hl 0 rfl) ?_
    refine va_get (D := (dC, dI)) (ci := 1) (v := .ref (x 22)) (C := RX1) (T := TX1) (N := 2) hx hb hts inB_1 hown hE.1 hP 22 rfl rfl 1 (by decide) (hts _ k_319) (fun _ h9 => h9) rfl dX1_wears_12 ?_
    refine lv_bipush (v := 6) hx hb dX1_wears_15 (by decide) ?_
    refine lv_iload_n hx hb dX1_wears_17 rfl (lv_at hl 1 rfl) ?_
    refine lv_iadd hx hb dX1_wears_18 ?_
    refine lv_topi (fun t4 et4 => ?_)
    have rg5 := fb_rng p1
    have zt4 : t4.toInt = 6 + p1.toInt := by rw [et4]; exact add_i (by decide) rfl (by omega) (by omega)
    refine ldI hx hb hE hP 23 rfl (vp_in_iff.mpr ⟨by omega, by omega⟩) rfl rfl dX1_wears_19 ?_
    refine lv_topi (fun t6 et6 => ?_)
    refine lv_goto (tgt := 24) hx hb dX1_wears_20 (by decide) ?_
    exact ret t6 () _ _ _ _ _ _ rfl (gsX_X1_wears_1_q0 hG2 et4 et6) hP hD hS dX1_wears_24 (Nat.le_refl _) (Nat.le_refl _)
  · skip
    subst g3
    refine lv_if_eq (tgt := 23) hx hb dX1_wears_8 (by decide) (fun _ => ?_) (fun c0 => absurd (by decide) c0)
    refine lv_iconst (v := (-1)) hx hb dX1_wears_23 (by decide) ?_
    exact ret (-1) () _ _ _ _ _ _ rfl (gsX_X1_wears_1_q1 hG2) hP hD hS dX1_wears_24 (Nat.le_refl _) (Nat.le_refl _)
set_option maxHeartbeats 4000000 in
set_option maxRecDepth 100000 in
theorem sX_X1_fits_1 (NF : Nat) (l : Launch) (dC : Nat → ClassId) (dI : Nat → Nat → Nat) (cy : Nat → ClassId) (x0 : Nat) (x : Nat → Nat) (p1 : Int32) (p2 : Int32) (v : Nat → Int32) (f : Nat → Nat → Int32) (hIv : XI v)  : ctI l (dC, dI) cy yX1_fits cX1_fits 3 .boolean 4 133 0 0 ((Nat → Int32) × (Nat → Nat → Int32)) [.ref (x 21), .int p1, .int p2] (XW cy x0 x v f) (fun r u => gsX_X1_fits_1 NF p1 p2 v f = (r, u) ∧ KV [] u.1 v ∧ KF [13, 14] u.2 f ∧ XI u.1 ∧ u.1 0 = v 0 ∧ u.1 1 = v 1 ∧ u.1 7 = v 7 ∧ u.1 8 = v 8 ∧ u.1 9 = v 9 ∧ u.1 10 = v 10 ∧ u.1 31 = v 31 ∧ u.1 32 = v 32 ∧ ((r = 1) ∨ (r = 0))) (fun u => XW cy x0 x u.1 u.2) := by
  refine ctI_of (by decide) (Nat.le_of_ble_eq_true rfl) (fun p e s m below meth c A ls Q hx hb hml hts hown hE hP hD hA hl ret => ?_)
  have hM_v : KV [] v v := fun _ _ => rfl
  have hA_f : KF [13, 14] f f := fun _ _ => rfl
  have hown : s.vm.findClass RX1 = some m.cls := hown
  have hS : va_S A s.heap s.heap [] := va_S.rf
  have hl : lv_has ls 3 [(0, .ref (x 21)), (1, .int p1), (2, .int p2)] := hl
  refine lv_aload_n hx hb dX1_fits_0 rfl (lv_at hl 0 rfl) ?_
  refine va_get (D := (dC, dI)) (ci := 1) (v := .ref (x 26)) (C := RX1) (T := TX1) (N := 2) hx hb hts inB_1 hown hE.1 hP 22 rfl rfl 0 (by decide) (hts _ k_318) (fun _ h9 => h9) rfl dX1_fits_1 ?_
  refine lv_iload_n hx hb dX1_fits_4 rfl (lv_at hl 1 rfl) ?_
  refine cbVi (n := 1) (rest := []) hx hb hml hown hts hE hP hD hS hA (sX_X7_hasMan_1 NF l dC dI cy x0 x p1 v f hIv ) k_808 k_307 k_308 k_104 k_309 (by decide +kernel) ⟨Nat.le_of_ble_eq_true rfl, Nat.le_of_ble_eq_true rfl⟩ 27 7 rfl rfl (rfl) hl.1 rfl (Nat.le_of_ble_eq_true rfl) dX1_fits_5 (fun r1 u H locs hw hP hD hS => ?_)
  obtain ⟨hG2, hw⟩ := hw
  rcases hw with ⟨g3, g3_0, g3_1, g3_2⟩ | ⟨g3⟩
  · skip
    subst g3
    refine lv_if_eq (tgt := 42) hx hb dX1_fits_8 (by decide) (fun c0 => absurd c0 (by decide)) (fun _ => ?_)
    refine lv_aload_n hx hb dX1_fits_11 rfl (lv_at hl 0 rfl) ?_
    refine va_get (D := (dC, dI)) (ci := 1) (v := .ref (x 26)) (C := RX1) (T := TX1) (N := 2) hx hb hts inB_1 hown hE.1 hP 22 rfl rfl 0 (by decide) (hts _ k_318) (fun _ h9 => h9) rfl dX1_fits_12 ?_
    refine lv_iload_n hx hb dX1_fits_15 rfl (lv_at hl 2 rfl) ?_
    refine cbVi (n := 1) (rest := []) hx hb hml hown hts hE hP hD hS hA (sX_X7_hasCoat_1 NF l dC dI cy x0 x p2 v f hIv ) k_821 k_315 k_316 k_104 k_317 (by decide +kernel) ⟨Nat.le_of_ble_eq_true rfl, Nat.le_of_ble_eq_true rfl⟩ 27 7 rfl rfl (rfl) hl.1 rfl (Nat.le_of_ble_eq_true rfl) dX1_fits_16 (fun r4 u H locs hw hP hD hS => ?_)
    obtain ⟨hG5, hw⟩ := hw
    rcases hw with ⟨g6, g6_0, g6_1, g6_2⟩ | ⟨g6⟩
    · skip
      subst g6
      refine lv_if_eq (tgt := 42) hx hb dX1_fits_19 (by decide) (fun c0 => absurd c0 (by decide)) (fun _ => ?_)
      refine lv_aload_n hx hb dX1_fits_22 rfl (lv_at hl 0 rfl) ?_
      refine lv_iload_n hx hb dX1_fits_23 rfl (lv_at hl 1 rfl) ?_
      refine lv_iload_n hx hb dX1_fits_24 rfl (lv_at hl 2 rfl) ?_
      refine cbVi (n := 2) (rest := []) hx hb hml hown hts hE hP hD hS hA (sX_X1_illness_1 NF l dC dI cy x0 x p1 p2 v f hIv ) k_822 k_823 k_824 k_106 k_825 (by decide +kernel) ⟨Nat.le_of_ble_eq_true rfl, Nat.le_of_ble_eq_true rfl⟩ 22 1 rfl rfl (rfl) hl.1 rfl (Nat.le_of_ble_eq_true rfl) dX1_fits_25 (fun r7 u H locs hw hP hD hS => ?_)
      obtain ⟨hG8, hw⟩ := hw
      obtain ⟨v9, f10⟩ := u
      obtain ⟨kV_v9, kF_f10, hIv9, hk0_v9, hk1_v9, hk7_v9, hk8_v9, hk9_v9, hk10_v9, hk31_v9, hk32_v9⟩ := hw
      have hM_v9 : KV [] v9 v := KV.tr kV_v9 hM_v rfl
      have hA_f10 : KF [13, 14] f10 f := KF.tr kF_f10 hA_f rfl
      have hP : va_P (dC, dI) vwCl (XW cy x0 x v9 f10) H := hP
      have hD : va_D A (XW cy x0 x v9 f10) := hD
      have hq0_v9 : v9 0 = (v 0) := hk0_v9
      have hq1_v9 : v9 1 = (v 1) := hk1_v9
      have hq7_v9 : v9 7 = (v 7) := hk7_v9
      have hq8_v9 : v9 8 = (v 8) := hk8_v9
      have hq9_v9 : v9 9 = (v 9) := hk9_v9
      have hq10_v9 : v9 10 = (v 10) := hk10_v9
      have hq31_v9 : v9 31 = (v 31) := hk31_v9
      have hq32_v9 : v9 32 = (v 32) := hk32_v9
      refine lv_aload_n hx hb dX1_fits_28 rfl (lv_at hl 0 rfl) ?_
      refine va_get (D := (dC, dI)) (ci := 1) (v := .ref (x 26)) (C := RX1) (T := TX1) (N := 2) hx hb hts inB_1 hown hE.1 hP 22 rfl rfl 0 (by decide) (hts _ k_318) (fun _ h9 => h9) rfl dX1_fits_29 ?_
      refine va_getN (D := (dC, dI)) (ci := 7) (v := .int (v9 33)) (C := RX7) (T := TX7) (N := 10) hx hb hts inB_7 hown hE.1 hP 27 rfl rfl 5 (by decide) (va_Nw.use rfl (hE.2 _ k_232)) (fun _ h9 => h9) rfl dX1_fits_32 ?_
      refine lv_icmp_gt (tgt := 42) hx hb dX1_fits_35 (by decide) (fun c11 => ?_) (fun c11 => ?_)
      · skip
        have zc11 : (v9 33).toInt < r7.toInt := by rw [fa_lt] at c11; exact c11
        have rg12 := fb_rng r7
        have rg13 := fb_rng (v9 33)
        refine lv_iconst (v := 0) hx hb dX1_fits_42 (by decide) ?_
        exact ret 0 (v9, f10) _ _ _ _ _ _ rfl ⟨(gsX_X1_fits_1_q0 hG2 hG5 hG8 c11), hM_v9, hA_f10, hIv9, hk0_v9, hk1_v9, hk7_v9, hk8_v9, hk9_v9, hk10_v9, hk31_v9, hk32_v9, (Or.inr rfl)⟩ hP hD hS dX1_fits_43 (Nat.le_refl _) (Nat.le_refl _)
      · skip
        have zc11 : ¬ ((v9 33).toInt < r7.toInt) := by rw [fa_lt] at c11; exact c11
        have rg14 := fb_rng r7
        have rg15 := fb_rng (v9 33)
        refine lv_iconst (v := 1) hx hb dX1_fits_38 (by decide) ?_
        refine lv_goto (tgt := 43) hx hb dX1_fits_39 (by decide) ?_
        exact ret 1 (v9, f10) _ _ _ _ _ _ rfl ⟨(gsX_X1_fits_1_q1 hG2 hG5 hG8 c11), hM_v9, hA_f10, hIv9, hk0_v9, hk1_v9, hk7_v9, hk8_v9, hk9_v9, hk10_v9, hk31_v9, hk32_v9, (Or.inl rfl)⟩ hP hD hS dX1_fits_43 (Nat.le_refl _) (Nat.le_refl _)
    · skip
      subst g6
      refine lv_if_eq (tgt := 42) hx hb dX1_fits_19 (by decide) (fun _ => ?_) (fun c0 => absurd (by decide) c0)
      refine lv_iconst (v := 0) hx hb dX1_fits_42 (by decide) ?_
      exact ret 0 (v, f) _ _ _ _ _ _ rfl ⟨(gsX_X1_fits_1_q2 hG2 hG5), hM_v, hA_f, hIv, rfl, rfl, rfl, rfl, rfl, rfl, rfl, rfl, (Or.inr rfl)⟩ hP hD hS dX1_fits_43 (Nat.le_refl _) (Nat.le_refl _)
  · skip
    subst g3
    refine lv_if_eq (tgt := 42) hx hb dX1_fits_8 (by decide) (fun _ => ?_) (fun c0 => absurd (by decide) c0)
    refine lv_iconst (v := 0) hx hb dX1_fits_42 (by decide) ?_
    exact ret 0 (v, f) _ _ _ _ _ _ rfl ⟨(gsX_X1_fits_1_q3 hG2), hM_v, hA_f, hIv, rfl, rfl, rfl, rfl, rfl, rfl, rfl, rfl, (Or.inr rfl)⟩ hP hD hS dX1_fits_43 (Nat.le_refl _) (Nat.le_refl _)
set_option maxHeartbeats 4000000 in
set_option maxRecDepth 100000 in
theorem sX_X1_setWears_1 (NF : Nat) (l : Launch) (dC : Nat → ClassId) (dI : Nat → Nat → Nat) (cy : Nat → ClassId) (x0 : Nat) (x : Nat → Nat) (p1 : Int32) (p2 : Int32) (v : Nat → Int32) (f : Nat → Nat → Int32) (hIv : XI v)  : ctV l (dC, dI) cy yX1_setWears cX1_setWears 3 2 81 0 0 ((Nat → Int32) × (Nat → Nat → Int32)) [.ref (x 21), .int p1, .int p2] (XW cy x0 x v f) (fun u => gsX_X1_setWears_1 NF p1 p2 v f = u ∧ KV [] u.1 v ∧ KF [15] u.2 f ∧ XI u.1 ∧ u.1 0 = v 0 ∧ u.1 1 = v 1 ∧ u.1 7 = v 7 ∧ u.1 8 = v 8 ∧ u.1 9 = v 9 ∧ u.1 10 = v 10 ∧ u.1 31 = v 31 ∧ u.1 32 = v 32) (fun u => XW cy x0 x u.1 u.2) := by
  refine ctV_of (by decide) (Nat.le_of_ble_eq_true rfl) (fun p e s m below meth c A ls Q hx hb hml hts hown hnm hE hP hD hA hl ret => ?_)
  have hM_v : KV [] v v := fun _ _ => rfl
  have hA_f : KF [15] f f := fun _ _ => rfl
  have hown : s.vm.findClass RX1 = some m.cls := hown
  have hS : va_S A s.heap s.heap [] := va_S.rf
  have hl : lv_has ls 3 [(0, .ref (x 21)), (1, .int p1), (2, .int p2)] := hl
  refine lv_aload_n hx hb dX1_setWears_0 rfl (lv_at hl 0 rfl) ?_
  refine va_get (D := (dC, dI)) (ci := 1) (v := .ref (x 26)) (C := RX1) (T := TX1) (N := 2) hx hb hts inB_1 hown hE.1 hP 22 rfl rfl 0 (by decide) (hts _ k_318) (fun _ h9 => h9) rfl dX1_setWears_1 ?_
  refine lv_iload_n hx hb dX1_setWears_4 rfl (lv_at hl 1 rfl) ?_
  refine cbVi (n := 1) (rest := []) hx hb hml hown hts hE hP hD hS hA (sX_X7_hasMan_1 NF l dC dI cy x0 x p1 v f hIv ) k_808 k_307 k_308 k_104 k_309 (by decide +kernel) ⟨Nat.le_of_ble_eq_true rfl, Nat.le_of_ble_eq_true rfl⟩ 27 7 rfl rfl (rfl) hl.1 rfl (Nat.le_of_ble_eq_true rfl) dX1_setWears_5 (fun r1 u H locs hw hP hD hS => ?_)
  obtain ⟨hG2, hw⟩ := hw
  rcases hw with ⟨g3, g3_0, g3_1, g3_2⟩ | ⟨g3⟩
  · skip
    subst g3
    refine lv_if_eq (tgt := 21) hx hb dX1_setWears_8 (by decide) (fun c0 => absurd c0 (by decide)) (fun _ => ?_)
    refine lv_aload_n hx hb dX1_setWears_11 rfl (lv_at hl 0 rfl) ?_
    refine va_get (D := (dC, dI)) (ci := 1) (v := .ref (x 22)) (C := RX1) (T := TX1) (N := 2) hx hb hts inB_1 hown hE.1 hP 22 rfl rfl 1 (by decide) (hts _ k_319) (fun _ h9 => h9) rfl dX1_setWears_12 ?_
    refine lv_bipush (v := 6) hx hb dX1_setWears_15 (by decide) ?_
    refine lv_iload_n hx hb dX1_setWears_17 rfl (lv_at hl 1 rfl) ?_
    refine lv_iadd hx hb dX1_setWears_18 ?_
    refine lv_topi (fun t4 et4 => ?_)
    have rg5 := fb_rng p1
    have zt4 : t4.toInt = 6 + p1.toInt := by rw [et4]; exact add_i (by decide) rfl (by omega) (by omega)
    refine lv_iload_n hx hb dX1_setWears_19 rfl (lv_at hl 2 rfl) ?_
    refine stI hx hb hE hP hD hS 23 rfl (vp_in_iff.mpr ⟨by omega, by omega⟩) rfl dX1_setWears_20 (fun H locs hP hD hS => ?_)
    obtain ⟨f6, ef6, hP, hD⟩ : ∃ fz9, fz9 = upd2 f 15 (upd (f 15) t4.toNatClampNeg p2) ∧ va_P (dC, dI) vwCl (XW cy x0 x v fz9) H ∧ va_D A (XW cy x0 x v fz9) := ⟨_, rfl, hP, hD⟩
    have hA_f6 : KF [15] f6 f := by rw [ef6]; exact KF.up hA_f rfl
    exact ret (v, f6) _ _ _ _ _ _ ⟨(gsX_X1_setWears_1_q0 hG2 et4 ef6), hM_v, hA_f6, hIv, rfl, rfl, rfl, rfl, rfl, rfl, rfl, rfl⟩ hP hD hS dX1_setWears_21 (Nat.le_refl _) (Nat.le_refl _)
  · skip
    subst g3
    refine lv_if_eq (tgt := 21) hx hb dX1_setWears_8 (by decide) (fun _ => ?_) (fun c0 => absurd (by decide) c0)
    exact ret (v, f) _ _ _ _ _ _ ⟨(gsX_X1_setWears_1_q1 hG2), hM_v, hA_f, hIv, rfl, rfl, rfl, rfl, rfl, rfl, rfl, rfl⟩ hP hD hS dX1_setWears_21 (Nat.le_refl _) (Nat.le_refl _)
set_option maxHeartbeats 4000000 in
set_option maxRecDepth 100000 in
theorem sX_X1_setPart_1 (NF : Nat) (l : Launch) (dC : Nat → ClassId) (dI : Nat → Nat → Nat) (cy : Nat → ClassId) (x0 : Nat) (x : Nat → Nat) (p1 : Int32) (p2 : Int32) (p3 : Int32) (v : Nat → Int32) (f : Nat → Nat → Int32) (hIv : XI v)  : ctV l (dC, dI) cy yX1_setPart cX1_setPart 4 2 81 0 0 ((Nat → Int32) × (Nat → Nat → Int32)) [.ref (x 21), .int p1, .int p2, .int p3] (XW cy x0 x v f) (fun u => gsX_X1_setPart_1 NF p1 p2 p3 v f = u ∧ KV [] u.1 v ∧ KF [15] u.2 f ∧ XI u.1 ∧ u.1 0 = v 0 ∧ u.1 1 = v 1 ∧ u.1 7 = v 7 ∧ u.1 8 = v 8 ∧ u.1 9 = v 9 ∧ u.1 10 = v 10 ∧ u.1 31 = v 31 ∧ u.1 32 = v 32) (fun u => XW cy x0 x u.1 u.2) := by
  refine ctV_of (by decide) (Nat.le_of_ble_eq_true rfl) (fun p e s m below meth c A ls Q hx hb hml hts hown hnm hE hP hD hA hl ret => ?_)
  have hM_v : KV [] v v := fun _ _ => rfl
  have hA_f : KF [15] f f := fun _ _ => rfl
  have hown : s.vm.findClass RX1 = some m.cls := hown
  have hS : va_S A s.heap s.heap [] := va_S.rf
  have hl : lv_has ls 4 [(0, .ref (x 21)), (1, .int p1), (2, .int p2), (3, .int p3)] := hl
  refine lv_aload_n hx hb dX1_setPart_0 rfl (lv_at hl 0 rfl) ?_
  refine va_get (D := (dC, dI)) (ci := 1) (v := .ref (x 26)) (C := RX1) (T := TX1) (N := 2) hx hb hts inB_1 hown hE.1 hP 22 rfl rfl 0 (by decide) (hts _ k_318) (fun _ h9 => h9) rfl dX1_setPart_1 ?_
  refine lv_iload_n hx hb dX1_setPart_4 rfl (lv_at hl 2 rfl) ?_
  refine cbVi (n := 1) (rest := []) hx hb hml hown hts hE hP hD hS hA (sX_X7_hasCoat_1 NF l dC dI cy x0 x p2 v f hIv ) k_821 k_315 k_316 k_104 k_317 (by decide +kernel) ⟨Nat.le_of_ble_eq_true rfl, Nat.le_of_ble_eq_true rfl⟩ 27 7 rfl rfl (rfl) hl.1 rfl (Nat.le_of_ble_eq_true rfl) dX1_setPart_5 (fun r1 u H locs hw hP hD hS => ?_)
  obtain ⟨hG2, hw⟩ := hw
  rcases hw with ⟨g3, g3_0, g3_1, g3_2⟩ | ⟨g3⟩
  · skip
    subst g3
    refine lv_if_eq (tgt := 35) hx hb dX1_setPart_8 (by decide) (fun c0 => absurd c0 (by decide)) (fun _ => ?_)
    refine lv_iload_n hx hb dX1_setPart_11 rfl (lv_at hl 1 rfl) ?_
    refine lv_if_lt (tgt := 35) hx hb dX1_setPart_12 (by decide) (fun c4 => ?_) (fun c4 => ?_)
    · skip
      have zc4 : p1.toInt < 0 := by rw [fa_lt, show (0 : Int32).toInt = 0 from by decide] at c4; exact c4
      exact ret (v, f) _ _ _ _ _ _ ⟨(gsX_X1_setPart_1_q0 hG2 c4), hM_v, hA_f, hIv, rfl, rfl, rfl, rfl, rfl, rfl, rfl, rfl⟩ hP hD hS dX1_setPart_35 (Nat.le_refl _) (Nat.le_refl _)
    · skip
      have zc4 : ¬ (p1.toInt < 0) := by rw [fa_lt, show (0 : Int32).toInt = 0 from by decide] at c4; exact c4
      refine lv_iload_n hx hb dX1_setPart_15 rfl (lv_at hl 1 rfl) ?_
      refine lv_iconst (v := 5) hx hb dX1_setPart_16 (by decide) ?_
      refine lv_icmp_ge (tgt := 35) hx hb dX1_setPart_17 (by decide) (fun c5 => ?_) (fun c5 => ?_)
      · skip
        have zc5 : 5 ≤ p1.toInt := by rw [fa_le, show (5 : Int32).toInt = 5 from by decide] at c5; exact c5
        exact ret (v, f) _ _ _ _ _ _ ⟨(gsX_X1_setPart_1_q1 hG2 c4 c5), hM_v, hA_f, hIv, rfl, rfl, rfl, rfl, rfl, rfl, rfl, rfl⟩ hP hD hS dX1_setPart_35 (Nat.le_refl _) (Nat.le_refl _)
      · skip
        have zc5 : ¬ (5 ≤ p1.toInt) := by rw [fa_le, show (5 : Int32).toInt = 5 from by decide] at c5; exact c5
        refine lv_aload_n hx hb dX1_setPart_20 rfl (lv_at hl 0 rfl) ?_
        refine va_get (D := (dC, dI)) (ci := 1) (v := .ref (x 22)) (C := RX1) (T := TX1) (N := 2) hx hb hts inB_1 hown hE.1 hP 22 rfl rfl 1 (by decide) (hts _ k_319) (fun _ h9 => h9) rfl dX1_setPart_21 ?_
        refine lv_bipush (v := 12) hx hb dX1_setPart_24 (by decide) ?_
        refine lv_iload_n hx hb dX1_setPart_26 rfl (lv_at hl 1 rfl) ?_
        refine lv_bipush (v := 6) hx hb dX1_setPart_27 (by decide) ?_
        refine lv_imul hx hb dX1_setPart_29 ?_
        refine lv_topi (fun t6 et6 => ?_)
        have rg7 := fb_rng p1
        have zt6 : t6.toInt = p1.toInt * 6 := by rw [et6]; exact mul_i rfl (by decide) (by omega) (by omega)
        refine lv_iadd hx hb dX1_setPart_30 ?_
        refine lv_topi (fun t8 et8 => ?_)
        have rg9 := fb_rng t6
        have zt8 : t8.toInt = 12 + t6.toInt := by rw [et8]; exact add_i (by decide) rfl (by omega) (by omega)
        refine lv_iload_n hx hb dX1_setPart_31 rfl (lv_at hl 2 rfl) ?_
        refine lv_iadd hx hb dX1_setPart_32 ?_
        refine lv_topi (fun t10 et10 => ?_)
        have rg11 := fb_rng t8
        have rg12 := fb_rng p2
        have zt10 : t10.toInt = t8.toInt + p2.toInt := by rw [et10]; exact add_i rfl rfl (by omega) (by omega)
        refine lv_iload_n hx hb dX1_setPart_33 rfl (lv_at hl 3 rfl) ?_
        refine stI hx hb hE hP hD hS 23 rfl (vp_in_iff.mpr ⟨by omega, by omega⟩) rfl dX1_setPart_34 (fun H locs hP hD hS => ?_)
        obtain ⟨f13, ef13, hP, hD⟩ : ∃ fz9, fz9 = upd2 f 15 (upd (f 15) t10.toNatClampNeg p3) ∧ va_P (dC, dI) vwCl (XW cy x0 x v fz9) H ∧ va_D A (XW cy x0 x v fz9) := ⟨_, rfl, hP, hD⟩
        have hA_f13 : KF [15] f13 f := by rw [ef13]; exact KF.up hA_f rfl
        exact ret (v, f13) _ _ _ _ _ _ ⟨(gsX_X1_setPart_1_q2 hG2 c4 c5 et6 et8 et10 ef13), hM_v, hA_f13, hIv, rfl, rfl, rfl, rfl, rfl, rfl, rfl, rfl⟩ hP hD hS dX1_setPart_35 (Nat.le_refl _) (Nat.le_refl _)
  · skip
    subst g3
    refine lv_if_eq (tgt := 35) hx hb dX1_setPart_8 (by decide) (fun _ => ?_) (fun c0 => absurd (by decide) c0)
    exact ret (v, f) _ _ _ _ _ _ ⟨(gsX_X1_setPart_1_q3 hG2), hM_v, hA_f, hIv, rfl, rfl, rfl, rfl, rfl, rfl, rfl, rfl⟩ hP hD hS dX1_setPart_35 (Nat.le_refl _) (Nat.le_refl _)
set_option maxHeartbeats 4000000 in
set_option maxRecDepth 100000 in
theorem sX_X1_weather_1 (NF : Nat) (l : Launch) (dC : Nat → ClassId) (dI : Nat → Nat → Nat) (cy : Nat → ClassId) (x0 : Nat) (x : Nat → Nat) (p1 : Int32) (p2 : Int32) (v : Nat → Int32) (f : Nat → Nat → Int32) (hIv : XI v)  : ctV l (dC, dI) cy yX1_weather cX1_weather 3 3 104 0 0 ((Nat → Int32) × (Nat → Nat → Int32)) [.ref (x 21), .int p1, .int p2] (XW cy x0 x v f) (fun u => gsX_X1_weather_1 NF p1 p2 v f = u ∧ KV [] u.1 v ∧ KF [15] u.2 f ∧ XI u.1 ∧ u.1 0 = v 0 ∧ u.1 1 = v 1 ∧ u.1 7 = v 7 ∧ u.1 8 = v 8 ∧ u.1 9 = v 9 ∧ u.1 10 = v 10 ∧ u.1 31 = v 31 ∧ u.1 32 = v 32) (fun u => XW cy x0 x u.1 u.2) := by
  refine ctV_of (by decide) (Nat.le_of_ble_eq_true rfl) (fun p e s m below meth c A ls Q hx hb hml hts hown hnm hE hP hD hA hl ret => ?_)
  have hM_v : KV [] v v := fun _ _ => rfl
  have hA_f : KF [15] f f := fun _ _ => rfl
  have hown : s.vm.findClass RX1 = some m.cls := hown
  have hS : va_S A s.heap s.heap [] := va_S.rf
  have hl : lv_has ls 3 [(0, .ref (x 21)), (1, .int p1), (2, .int p2)] := hl
  refine lv_aload_n hx hb dX1_weather_0 rfl (lv_at hl 0 rfl) ?_
  refine lv_iconst (v := 3) hx hb dX1_weather_1 (by decide) ?_
  refine lv_iload_n hx hb dX1_weather_2 rfl (lv_at hl 1 rfl) ?_
  refine lv_bipush (v := 99) hx hb dX1_weather_3 (by decide) ?_
  refine lv_aload_n hx hb dX1_weather_5 rfl (lv_at hl 0 rfl) ?_
  refine lv_iconst (v := 3) hx hb dX1_weather_6 (by decide) ?_
  refine lv_iload_n hx hb dX1_weather_7 rfl (lv_at hl 1 rfl) ?_
  refine cbVi (n := 2) (rest := [.int 99, .int p1, .int 3, .ref (x 21)]) hx hb hml hown hts hE hP hD hS hA (sX_X1_part_1 NF l dC dI cy x0 x 3 p1 v f hIv ) k_827 k_828 k_829 k_106 k_830 (by decide +kernel) ⟨Nat.le_of_ble_eq_true rfl, Nat.le_of_ble_eq_true rfl⟩ 22 1 rfl rfl (rfl) hl.1 rfl (Nat.le_of_ble_eq_true rfl) dX1_weather_8 (fun r1 u H locs hw hP hD hS => ?_)
  have hG2 := hw
  refine lv_iconst (v := 1) hx hb dX1_weather_11 (by decide) ?_
  refine lv_iadd hx hb dX1_weather_12 ?_
  refine lv_topi (fun t3 et3 => ?_)
  refine va_mmin hx hb (by rw [hml]; exact hl.1.symm) hown (hts _ k_869) (hts _ k_643) (hts _ k_119) (hts _ k_644) (Nat.le_of_ble_eq_true rfl) (Nat.le_of_ble_eq_true rfl) (Nat.le_of_ble_eq_true rfl) (Nat.le_of_ble_eq_true rfl) dX1_weather_13 ?_
  refine lv_topi (fun t4 et4 => ?_)
  have zt4 : t4.toInt = min (99) (t3.toInt) := by rw [et4]; exact mmin_i (by decide) rfl
  refine cbVv (n := 3) (rest := []) hx hb hml hown hts hE hP hD hS hA (sX_X1_setPart_1 NF l dC dI cy x0 x 3 p1 t4 v f hIv ) k_874 k_875 k_876 k_106 k_877 (by decide +kernel) ⟨Nat.le_of_ble_eq_true rfl, Nat.le_of_ble_eq_true rfl⟩ 22 1 rfl rfl (rfl) hl.1 rfl (Nat.le_of_ble_eq_true rfl) dX1_weather_16 (fun u H locs hw hP hD hS => ?_)
  obtain ⟨hG5, hw⟩ := hw
  obtain ⟨v6, f7⟩ := u
  obtain ⟨kV_v6, kF_f7, hIv6, hk0_v6, hk1_v6, hk7_v6, hk8_v6, hk9_v6, hk10_v6, hk31_v6, hk32_v6⟩ := hw
  have hM_v6 : KV [] v6 v := KV.tr kV_v6 hM_v rfl
  have hA_f7 : KF [15] f7 f := KF.tr kF_f7 hA_f rfl
  have hP : va_P (dC, dI) vwCl (XW cy x0 x v6 f7) H := hP
  have hD : va_D A (XW cy x0 x v6 f7) := hD
  have hq0_v6 : v6 0 = (v 0) := hk0_v6
  have hq1_v6 : v6 1 = (v 1) := hk1_v6
  have hq7_v6 : v6 7 = (v 7) := hk7_v6
  have hq8_v6 : v6 8 = (v 8) := hk8_v6
  have hq9_v6 : v6 9 = (v 9) := hk9_v6
  have hq10_v6 : v6 10 = (v 10) := hk10_v6
  have hq31_v6 : v6 31 = (v 31) := hk31_v6
  have hq32_v6 : v6 32 = (v 32) := hk32_v6
  refine lv_aload_n hx hb dX1_weather_19 rfl (lv_at hl 0 rfl) ?_
  refine lv_iconst (v := 1) hx hb dX1_weather_20 (by decide) ?_
  refine lv_iload_n hx hb dX1_weather_21 rfl (lv_at hl 1 rfl) ?_
  refine lv_iconst (v := 0) hx hb dX1_weather_22 (by decide) ?_
  refine lv_aload_n hx hb dX1_weather_23 rfl (lv_at hl 0 rfl) ?_
  refine lv_iconst (v := 1) hx hb dX1_weather_24 (by decide) ?_
  refine lv_iload_n hx hb dX1_weather_25 rfl (lv_at hl 1 rfl) ?_
  refine cbVi (n := 2) (rest := [.int 0, .int p1, .int 1, .ref (x 21)]) hx hb hml hown hts hE hP hD hS hA (sX_X1_part_1 NF l dC dI cy x0 x 1 p1 v6 f7 hIv6 ) k_827 k_828 k_829 k_106 k_830 (by decide +kernel) ⟨Nat.le_of_ble_eq_true rfl, Nat.le_of_ble_eq_true rfl⟩ 22 1 rfl rfl (rfl) hl.1 rfl (Nat.le_of_ble_eq_true rfl) dX1_weather_26 (fun r8 u H locs hw hP hD hS => ?_)
  have hG9 := hw
  refine lv_iload_n hx hb dX1_weather_29 rfl (lv_at hl 2 rfl) ?_
  refine lv_isub hx hb dX1_weather_30 ?_
  refine lv_topi (fun t10 et10 => ?_)
  refine va_mmax hx hb (by rw [hml]; exact hl.1.symm) hown (hts _ k_878) (hts _ k_640) (hts _ k_119) (hts _ k_641) (Nat.le_of_ble_eq_true rfl) (Nat.le_of_ble_eq_true rfl) (Nat.le_of_ble_eq_true rfl) (Nat.le_of_ble_eq_true rfl) dX1_weather_31 ?_
  refine lv_topi (fun t11 et11 => ?_)
  have zt11 : t11.toInt = max (0) (t10.toInt) := by rw [et11]; exact mmax_i (by decide) rfl
  refine cbVv (n := 3) (rest := []) hx hb hml hown hts hE hP hD hS hA (sX_X1_setPart_1 NF l dC dI cy x0 x 1 p1 t11 v6 f7 hIv6 ) k_874 k_875 k_876 k_106 k_877 (by decide +kernel) ⟨Nat.le_of_ble_eq_true rfl, Nat.le_of_ble_eq_true rfl⟩ 22 1 rfl rfl (rfl) hl.1 rfl (Nat.le_of_ble_eq_true rfl) dX1_weather_34 (fun u H locs hw hP hD hS => ?_)
  obtain ⟨hG12, hw⟩ := hw
  obtain ⟨v13, f14⟩ := u
  obtain ⟨kV_v13, kF_f14, hIv13, hk0_v13, hk1_v13, hk7_v13, hk8_v13, hk9_v13, hk10_v13, hk31_v13, hk32_v13⟩ := hw
  have hM_v13 : KV [] v13 v := KV.tr kV_v13 hM_v6 rfl
  have hA_f14 : KF [15] f14 f := KF.tr kF_f14 hA_f7 rfl
  have hP : va_P (dC, dI) vwCl (XW cy x0 x v13 f14) H := hP
  have hD : va_D A (XW cy x0 x v13 f14) := hD
  have hq0_v13 : v13 0 = (v 0) := hk0_v13.trans hq0_v6
  have hq1_v13 : v13 1 = (v 1) := hk1_v13.trans hq1_v6
  have hq7_v13 : v13 7 = (v 7) := hk7_v13.trans hq7_v6
  have hq8_v13 : v13 8 = (v 8) := hk8_v13.trans hq8_v6
  have hq9_v13 : v13 9 = (v 9) := hk9_v13.trans hq9_v6
  have hq10_v13 : v13 10 = (v 10) := hk10_v13.trans hq10_v6
  have hq31_v13 : v13 31 = (v 31) := hk31_v13.trans hq31_v6
  have hq32_v13 : v13 32 = (v 32) := hk32_v13.trans hq32_v6
  refine lv_aload_n hx hb dX1_weather_37 rfl (lv_at hl 0 rfl) ?_
  refine lv_iconst (v := 0) hx hb dX1_weather_38 (by decide) ?_
  refine lv_iload_n hx hb dX1_weather_39 rfl (lv_at hl 1 rfl) ?_
  refine lv_iconst (v := 0) hx hb dX1_weather_40 (by decide) ?_
  refine lv_aload_n hx hb dX1_weather_41 rfl (lv_at hl 0 rfl) ?_
  refine lv_iconst (v := 0) hx hb dX1_weather_42 (by decide) ?_
  refine lv_iload_n hx hb dX1_weather_43 rfl (lv_at hl 1 rfl) ?_
  refine cbVi (n := 2) (rest := [.int 0, .int p1, .int 0, .ref (x 21)]) hx hb hml hown hts hE hP hD hS hA (sX_X1_part_1 NF l dC dI cy x0 x 0 p1 v13 f14 hIv13 ) k_827 k_828 k_829 k_106 k_830 (by decide +kernel) ⟨Nat.le_of_ble_eq_true rfl, Nat.le_of_ble_eq_true rfl⟩ 22 1 rfl rfl (rfl) hl.1 rfl (Nat.le_of_ble_eq_true rfl) dX1_weather_44 (fun r15 u H locs hw hP hD hS => ?_)
  have hG16 := hw
  refine lv_iload_n hx hb dX1_weather_47 rfl (lv_at hl 2 rfl) ?_
  refine lv_isub hx hb dX1_weather_48 ?_
  refine lv_topi (fun t17 et17 => ?_)
  refine va_mmax hx hb (by rw [hml]; exact hl.1.symm) hown (hts _ k_878) (hts _ k_640) (hts _ k_119) (hts _ k_641) (Nat.le_of_ble_eq_true rfl) (Nat.le_of_ble_eq_true rfl) (Nat.le_of_ble_eq_true rfl) (Nat.le_of_ble_eq_true rfl) dX1_weather_49 ?_
  refine lv_topi (fun t18 et18 => ?_)
  have zt18 : t18.toInt = max (0) (t17.toInt) := by rw [et18]; exact mmax_i (by decide) rfl
  refine cbVv (n := 3) (rest := []) hx hb hml hown hts hE hP hD hS hA (sX_X1_setPart_1 NF l dC dI cy x0 x 0 p1 t18 v13 f14 hIv13 ) k_874 k_875 k_876 k_106 k_877 (by decide +kernel) ⟨Nat.le_of_ble_eq_true rfl, Nat.le_of_ble_eq_true rfl⟩ 22 1 rfl rfl (rfl) hl.1 rfl (Nat.le_of_ble_eq_true rfl) dX1_weather_52 (fun u H locs hw hP hD hS => ?_)
  obtain ⟨hG19, hw⟩ := hw
  obtain ⟨v20, f21⟩ := u
  obtain ⟨kV_v20, kF_f21, hIv20, hk0_v20, hk1_v20, hk7_v20, hk8_v20, hk9_v20, hk10_v20, hk31_v20, hk32_v20⟩ := hw
  have hM_v20 : KV [] v20 v := KV.tr kV_v20 hM_v13 rfl
  have hA_f21 : KF [15] f21 f := KF.tr kF_f21 hA_f14 rfl
  have hP : va_P (dC, dI) vwCl (XW cy x0 x v20 f21) H := hP
  have hD : va_D A (XW cy x0 x v20 f21) := hD
  have hq0_v20 : v20 0 = (v 0) := hk0_v20.trans hq0_v13
  have hq1_v20 : v20 1 = (v 1) := hk1_v20.trans hq1_v13
  have hq7_v20 : v20 7 = (v 7) := hk7_v20.trans hq7_v13
  have hq8_v20 : v20 8 = (v 8) := hk8_v20.trans hq8_v13
  have hq9_v20 : v20 9 = (v 9) := hk9_v20.trans hq9_v13
  have hq10_v20 : v20 10 = (v 10) := hk10_v20.trans hq10_v13
  have hq31_v20 : v20 31 = (v 31) := hk31_v20.trans hq31_v13
  have hq32_v20 : v20 32 = (v 32) := hk32_v20.trans hq32_v13
  exact ret (v20, f21) _ _ _ _ _ _ ⟨(gsX_X1_weather_1_q0 hG2.symm et3 et4 hG5 hG9.symm et10 et11 hG12 hG16.symm et17 et18 hG19), hM_v20, hA_f21, hIv20, (hk0_v20.trans (hk0_v13.trans hk0_v6)), (hk1_v20.trans (hk1_v13.trans hk1_v6)), (hk7_v20.trans (hk7_v13.trans hk7_v6)), (hk8_v20.trans (hk8_v13.trans hk8_v6)), (hk9_v20.trans (hk9_v13.trans hk9_v6)), (hk10_v20.trans (hk10_v13.trans hk10_v6)), (hk31_v20.trans (hk31_v13.trans hk31_v6)), (hk32_v20.trans (hk32_v13.trans hk32_v6))⟩ hP hD hS dX1_weather_55 (Nat.le_refl _) (Nat.le_refl _)
