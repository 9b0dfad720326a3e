set_option maxHeartbeats 4000000 in
set_option maxRecDepth 100000 in
theorem sX_X7_addCoat_1 (NF : Nat) (l : Launch) (dC : Nat → ClassId) (dI : Nat → Nat → Nat) (cy : Nat → ClassId) (x0 : Nat) (x : Nat → Nat) (p1 : Int32) (p2 : Int32) (p3 : Int32) (p4 : Int32) (v : Nat → Int32) (f : Nat → Nat → Int32) (hIv : XI v)  : ctV l (dC, dI) cy yX7_addCoat cX7_addCoat 5 1 60 0 0 ((Nat → Int32) × (Nat → Nat → Int32)) [.ref (x 3), .int p1, .int p2, .int p3, .int p4] (XW cy x0 x v f) (fun u => gsX_X7_addCoat_1 NF p1 p2 p3 p4 v f = u ∧ KV [10] u.1 v ∧ KF [2] u.2 f ∧ XI u.1 ∧ u.1 0 = v 0 ∧ u.1 1 = v 1 ∧ u.1 7 = v 7 ∧ u.1 8 = v 8 ∧ u.1 9 = v 9 ∧ u.1 31 = v 31) (fun u => XW cy x0 x u.1 u.2) := by
  refine ctV_of (by decide) (Nat.le_of_ble_eq_true rfl) (fun p e s m below meth c A ls Q hx hb hml hts hown hnm hE hP hD hA hl ret => ?_)
  have hM_v : KV [10] v v := fun _ _ => rfl
  have hA_f : KF [2] f f := fun _ _ => rfl
  have hown : s.vm.findClass RX7 = some m.cls := hown
  have hS : va_S A s.heap s.heap [] := va_S.rf
  have hl : lv_has ls 5 [(0, .ref (x 3)), (1, .int p1), (2, .int p2), (3, .int p3), (4, .int p4)] := hl
  refine lv_aload_n hx hb dX7_addCoat_0 rfl (lv_at hl 0 rfl) ?_
  refine va_get (D := (dC, dI)) (ci := 7) (v := .int (v 10)) (C := RX7) (T := TX7) (N := 10) hx hb hts inB_7 hown hE.1 hP 4 rfl rfl 4 (by decide) (hts _ k_220) (fun _ h9 => h9) rfl dX7_addCoat_1 ?_
  have b10_v : 0 ≤ (v 10).toInt ∧ (v 10).toInt ≤ 6 := XI.b hIv 10 (by decide)
  refine lv_bipush (v := 6) hx hb dX7_addCoat_4 (by decide) ?_
  refine lv_icmp_ge (tgt := 71) hx hb dX7_addCoat_6 (by decide) (fun c1 => ?_) (fun c1 => ?_)
  · skip
    have zc1 : 6 ≤ (v 10).toInt := by rw [fa_le, show (6 : Int32).toInt = 6 from by decide] at c1; exact c1
    exact ret (v, f) _ _ _ _ _ _ ⟨(gsX_X7_addCoat_1_q0 c1), hM_v, hA_f, hIv, rfl, rfl, rfl, rfl, rfl, rfl⟩ hP hD hS dX7_addCoat_71 (Nat.le_refl _) (Nat.le_refl _)
  · skip
    have zc1 : ¬ (6 ≤ (v 10).toInt) := by rw [fa_le, show (6 : Int32).toInt = 6 from by decide] at c1; exact c1
    refine lv_aload_n hx hb dX7_addCoat_9 rfl (lv_at hl 0 rfl) ?_
    refine va_get (D := (dC, dI)) (ci := 7) (v := .ref (x 5)) (C := RX7) (T := TX7) (N := 10) hx hb hts inB_7 hown hE.1 hP 4 rfl rfl 1 (by decide) (hts _ k_205) (fun _ h9 => h9) rfl dX7_addCoat_10 ?_
    refine lv_iconst (v := 0) hx hb dX7_addCoat_13 (by decide) ?_
    refine lv_aload_n hx hb dX7_addCoat_14 rfl (lv_at hl 0 rfl) ?_
    refine va_get (D := (dC, dI)) (ci := 7) (v := .int (v 10)) (C := RX7) (T := TX7) (N := 10) hx hb hts inB_7 hown hE.1 hP 4 rfl rfl 4 (by decide) (hts _ k_220) (fun _ h9 => h9) rfl dX7_addCoat_15 ?_
    refine lv_iadd hx hb dX7_addCoat_18 ?_
    refine lv_topi (fun t2 et2 => ?_)
    have rg3 := fb_rng (v 10)
    have zt2 : t2.toInt = 0 + (v 10).toInt := by rw [et2]; exact add_i (by decide) rfl (by omega) (by omega)
    refine lv_iload_n hx hb dX7_addCoat_19 rfl (lv_at hl 1 rfl) ?_
    refine stI hx hb hE hP hD hS 6 rfl (vp_in_iff.mpr ⟨by omega, by omega⟩) rfl dX7_addCoat_20 (fun H locs hP hD hS => ?_)
    obtain ⟨f4, ef4, hP, hD⟩ : ∃ fz9, fz9 = upd2 f 2 (upd (f 2) t2.toNatClampNeg p1) ∧ va_P (dC, dI) vwCl (XW cy x0 x v fz9) H ∧ va_D A (XW cy x0 x v fz9) := ⟨_, rfl, hP, hD⟩
    have hA_f4 : KF [2] f4 f := by rw [ef4]; exact KF.up hA_f rfl
    refine lv_aload_n hx hb dX7_addCoat_21 rfl (lv_at hl 0 rfl) ?_
    refine va_get (D := (dC, dI)) (ci := 7) (v := .ref (x 5)) (C := RX7) (T := TX7) (N := 10) hx hb hts inB_7 hown hE.1 hP 4 rfl rfl 1 (by decide) (hts _ k_205) (fun _ h9 => h9) rfl dX7_addCoat_22 ?_
    refine lv_bipush (v := 6) hx hb dX7_addCoat_25 (by decide) ?_
    refine lv_aload_n hx hb dX7_addCoat_27 rfl (lv_at hl 0 rfl) ?_
    refine va_get (D := (dC, dI)) (ci := 7) (v := .int (v 10)) (C := RX7) (T := TX7) (N := 10) hx hb hts inB_7 hown hE.1 hP 4 rfl rfl 4 (by decide) (hts _ k_220) (fun _ h9 => h9) rfl dX7_addCoat_28 ?_
    refine lv_iadd hx hb dX7_addCoat_31 ?_
    refine lv_topi (fun t5 et5 => ?_)
    have zt5 : t5.toInt = 6 + (v 10).toInt := by rw [et5]; exact add_i (by decide) rfl (by omega) (by omega)
    refine lv_iload_n hx hb dX7_addCoat_32 rfl (lv_at hl 2 rfl) ?_
    refine stI hx hb hE hP hD hS 6 rfl (vp_in_iff.mpr ⟨by omega, by omega⟩) rfl dX7_addCoat_33 (fun H locs hP hD hS => ?_)
    obtain ⟨f6, ef6, hP, hD⟩ : ∃ fz9, fz9 = upd2 f4 2 (upd (f4 2) t5.toNatClampNeg p2) ∧ va_P (dC, dI) vwCl (XW cy x0 x v fz9) H ∧ va_D A (XW cy x0 x v fz9) := ⟨_, rfl, hP, hD⟩
    have hA_f6 : KF [2] f6 f := by rw [ef6]; exact KF.up hA_f4 rfl
    refine lv_aload_n hx hb dX7_addCoat_34 rfl (lv_at hl 0 rfl) ?_
    refine va_get (D := (dC, dI)) (ci := 7) (v := .ref (x 5)) (C := RX7) (T := TX7) (N := 10) hx hb hts inB_7 hown hE.1 hP 4 rfl rfl 1 (by decide) (hts _ k_205) (fun _ h9 => h9) rfl dX7_addCoat_35 ?_
    refine lv_bipush (v := 12) hx hb dX7_addCoat_38 (by decide) ?_
    refine lv_aload_n hx hb dX7_addCoat_40 rfl (lv_at hl 0 rfl) ?_
    refine va_get (D := (dC, dI)) (ci := 7) (v := .int (v 10)) (C := RX7) (T := TX7) (N := 10) hx hb hts inB_7 hown hE.1 hP 4 rfl rfl 4 (by decide) (hts _ k_220) (fun _ h9 => h9) rfl dX7_addCoat_41 ?_
    refine lv_iadd hx hb dX7_addCoat_44 ?_
    refine lv_topi (fun t7 et7 => ?_)
    have zt7 : t7.toInt = 12 + (v 10).toInt := by rw [et7]; exact add_i (by decide) rfl (by omega) (by omega)
    refine lv_iload_n hx hb dX7_addCoat_45 rfl (lv_at hl 3 rfl) ?_
    refine stI hx hb hE hP hD hS 6 rfl (vp_in_iff.mpr ⟨by omega, by omega⟩) rfl dX7_addCoat_46 (fun H locs hP hD hS => ?_)
    obtain ⟨f8, ef8, hP, hD⟩ : ∃ fz9, fz9 = upd2 f6 2 (upd (f6 2) t7.toNatClampNeg p3) ∧ va_P (dC, dI) vwCl (XW cy x0 x v fz9) H ∧ va_D A (XW cy x0 x v fz9) := ⟨_, rfl, hP, hD⟩
    have hA_f8 : KF [2] f8 f := by rw [ef8]; exact KF.up hA_f6 rfl
    refine lv_aload_n hx hb dX7_addCoat_47 rfl (lv_at hl 0 rfl) ?_
    refine va_get (D := (dC, dI)) (ci := 7) (v := .ref (x 5)) (C := RX7) (T := TX7) (N := 10) hx hb hts inB_7 hown hE.1 hP 4 rfl rfl 1 (by decide) (hts _ k_205) (fun _ h9 => h9) rfl dX7_addCoat_48 ?_
    refine lv_bipush (v := 18) hx hb dX7_addCoat_51 (by decide) ?_
    refine lv_aload_n hx hb dX7_addCoat_53 rfl (lv_at hl 0 rfl) ?_
    refine va_get (D := (dC, dI)) (ci := 7) (v := .int (v 10)) (C := RX7) (T := TX7) (N := 10) hx hb hts inB_7 hown hE.1 hP 4 rfl rfl 4 (by decide) (hts _ k_220) (fun _ h9 => h9) rfl dX7_addCoat_54 ?_
    refine lv_iadd hx hb dX7_addCoat_57 ?_
    refine lv_topi (fun t9 et9 => ?_)
    have zt9 : t9.toInt = 18 + (v 10).toInt := by rw [et9]; exact add_i (by decide) rfl (by omega) (by omega)
    refine lv_iload hx hb dX7_addCoat_58 (lv_at hl 4 rfl) ?_
    refine stI hx hb hE hP hD hS 6 rfl (vp_in_iff.mpr ⟨by omega, by omega⟩) rfl dX7_addCoat_60 (fun H locs hP hD hS => ?_)
    obtain ⟨f10, ef10, hP, hD⟩ : ∃ fz9, fz9 = upd2 f8 2 (upd (f8 2) t9.toNatClampNeg p4) ∧ va_P (dC, dI) vwCl (XW cy x0 x v fz9) H ∧ va_D A (XW cy x0 x v fz9) := ⟨_, rfl, hP, hD⟩
    have hA_f10 : KF [2] f10 f := by rw [ef10]; exact KF.up hA_f8 rfl
    refine lv_aload_n hx hb dX7_addCoat_61 rfl (lv_at hl 0 rfl) ?_
    refine lv_dup hx hb dX7_addCoat_62 rfl ?_
    refine va_get (D := (dC, dI)) (ci := 7) (v := .int (v 10)) (C := RX7) (T := TX7) (N := 10) hx hb hts inB_7 hown hE.1 hP 4 rfl rfl 4 (by decide) (hts _ k_220) (fun _ h9 => h9) rfl dX7_addCoat_63 ?_
    refine lv_iconst (v := 1) hx hb dX7_addCoat_66 (by decide) ?_
    refine lv_iadd hx hb dX7_addCoat_67 ?_
    refine lv_topi (fun t11 et11 => ?_)
    have zt11 : t11.toInt = (v 10).toInt + 1 := by rw [et11]; exact add_i rfl (by decide) (by omega) (by omega)
    refine va_put (D := (dC, dI)) (ci := 7) (v := .int t11) (ty := tyX7 4) (C := RX7) (T := TX7) (N := 10) hx hb hts inB_7 tyX7 tyX7_ok nmX7 hown hE.1 hP hD hS 4 rfl rfl 4 (by decide) (hts _ k_220) (fun _ h9 => h9) rfl (tyX7_ok 4 (by decide)) rfl rfl (Nat.le_of_ble_eq_true rfl) dX7_addCoat_68 (fun H locs hP hD hS => ?_)
    have hP : va_P (dC, dI) vwCl (XW cy x0 x (upd v 10 t11) f10) H := hP
    have hD : va_D A (XW cy x0 x (upd v 10 t11) f10) := hD
    exact ret ((upd v 10 t11), f10) _ _ _ _ _ _ ⟨(gsX_X7_addCoat_1_q1 c1 et2 ef4 et5 ef6 et7 ef8 et9 ef10 et11), (KV.up (j := 10) (x := t11) hM_v rfl), hA_f10, (XI.upd (j := 10) (x := t11) hIv (show (0 : Int) ≤ t11.toInt by omega) (show t11.toInt ≤ (6 : Int) by omega)), rfl, rfl, rfl, rfl, rfl, rfl⟩ hP hD hS dX7_addCoat_71 (Nat.le_refl _) (Nat.le_refl _)
set_option maxHeartbeats 4000000 in
set_option maxRecDepth 100000 in
theorem sX_X6_coatLine_1 (NF : Nat) (l : Launch) (dC : Nat → ClassId) (dI : Nat → Nat → Nat) (cy : Nat → ClassId) (x0 : Nat) (x : Nat → Nat)  (v : Nat → Int32) (f : Nat → Nat → Int32) (hIv : XI v)  : ctIS l (dC, dI) cy yX6_coatLine cX6_coatLine 5 .boolean 9 235 0 0 ((Nat → Int32) × (Nat → Nat → Int32)) [.ref (x 2)] (XW cy x0 x v f) (fun r u => gsX_X6_coatLine_1 NF v f = (r, u) ∧ KV [2, 3, 4, 5, 7, 8, 10] u.1 v ∧ KF [2, 8] u.2 f ∧ XI u.1 ∧ u.1 0 = v 0 ∧ u.1 1 = v 1 ∧ u.1 9 = v 9 ∧ u.1 31 = v 31 ∧ ((r = 1) ∨ (r = 0))) (fun u => XW cy x0 x u.1 u.2) := by
  refine ctIS_of (by decide) (Nat.le_of_ble_eq_true rfl) (fun p e s m below meth c A ls Q hx hb hml hts hown hE hF hT hP hD hA hl ret => ?_)
  have hM_v : KV [2, 3, 4, 5, 7, 8, 10] v v := fun _ _ => rfl
  have hA_f : KF [2, 8] f f := fun _ _ => rfl
  have hown : s.vm.findClass RX6 = some m.cls := hown
  have hS : va_S A s.heap s.heap [] := va_S.rf
  have hl : lv_has ls 5 [(0, .ref (x 2))] := hl
  refine lv_aload_n hx hb dX6_coatLine_0 rfl (lv_at hl 0 rfl) ?_
  refine va_get (D := (dC, dI)) (ci := 6) (v := .ref (x 3)) (C := RX6) (T := TX6) (N := 7) hx hb hts inB_6 hown hE.1 hP 3 rfl rfl 1 (by decide) (hts _ k_266) (fun _ h9 => h9) rfl dX6_coatLine_1 ?_
  refine va_getN (D := (dC, dI)) (ci := 7) (v := .int (v 10)) (C := RX7) (T := TX7) (N := 10) hx hb hts inB_7 hown hE.1 hP 4 rfl rfl 4 (by decide) (va_Nw.use rfl (hE.2 _ k_224)) (fun _ h9 => h9) rfl dX6_coatLine_4 ?_
  have b10_v : 0 ≤ (v 10).toInt ∧ (v 10).toInt ≤ 6 := XI.b hIv 10 (by decide)
  refine lv_bipush (v := 6) hx hb dX6_coatLine_7 (by decide) ?_
  refine lv_icmp_lt (tgt := 17) hx hb dX6_coatLine_9 (by decide) (fun c1 => ?_) (fun c1 => ?_)
  · skip
    have zc1 : (v 10).toInt < 6 := by rw [fa_lt, show (6 : Int32).toInt = 6 from by decide] at c1; exact c1
    refine lv_aload_n hx hb dX6_coatLine_17 rfl (lv_at hl 0 rfl) ?_
    refine va_get (D := (dC, dI)) (ci := 6) (v := .ref (x 0)) (C := RX6) (T := TX6) (N := 7) hx hb hts inB_6 hown hE.1 hP 3 rfl rfl 0 (by decide) (hts _ k_265) (fun _ h9 => h9) rfl dX6_coatLine_18 ?_
    refine csVv (n := 0) (rest := []) hx hb hml hown hts hE hP hD hS hA hF hT (sX_X9_advance_1 NF l dC dI cy x0 x  v f hIv ) k_699 k_559 k_560 k_102 k_561 (by decide +kernel) ⟨Nat.le_of_ble_eq_true rfl, Nat.le_of_ble_eq_true rfl⟩ 1 9 rfl rfl (rfl) hl.1 rfl (Nat.le_of_ble_eq_true rfl) dX6_coatLine_21 (fun u H locs hw hP hD hS => ?_)
    obtain ⟨hG2, hw⟩ := hw
    obtain ⟨v3, f4⟩ := u
    obtain ⟨kV_v3, kF_f4, hIv3, hk0_v3, hk1_v3, hk7_v3, hk8_v3, hk9_v3, hk10_v3, hk31_v3, hk32_v3⟩ := hw
    have hM_v3 : KV [2, 3, 4, 5, 7, 8, 10] v3 v := KV.tr kV_v3 hM_v rfl
    have hA_f4 : KF [2, 8] f4 f := KF.tr kF_f4 hA_f rfl
    have hP : va_P (dC, dI) vwCl (XW cy x0 x v3 f4) H := hP
    have hD : va_D A (XW cy x0 x v3 f4) := hD
    have hq0_v3 : v3 0 = (v 0) := hk0_v3
    have hq1_v3 : v3 1 = (v 1) := hk1_v3
    have hq7_v3 : v3 7 = (v 7) := hk7_v3
    have hq8_v3 : v3 8 = (v 8) := hk8_v3
    have hq9_v3 : v3 9 = (v 9) := hk9_v3
    have hq10_v3 : v3 10 = (v 10) := hk10_v3
    have hq31_v3 : v3 31 = (v 31) := hk31_v3
    have hq32_v3 : v3 32 = (v 32) := hk32_v3
    refine lv_aload_n hx hb dX6_coatLine_24 rfl (lv_at hl 0 rfl) ?_
    refine lv_aload_n hx hb dX6_coatLine_25 rfl (lv_at hl 0 rfl) ?_
    refine va_get (D := (dC, dI)) (ci := 6) (v := .ref (x 12)) (C := RX6) (T := TX6) (N := 7) hx hb hts inB_6 hown hE.1 hP 3 rfl rfl 3 (by decide) (hts _ k_269) (fun _ h9 => h9) rfl dX6_coatLine_26 ?_
    refine lv_aload_n hx hb dX6_coatLine_29 rfl (lv_at hl 0 rfl) ?_
    refine va_get (D := (dC, dI)) (ci := 6) (v := .ref (x 3)) (C := RX6) (T := TX6) (N := 7) hx hb hts inB_6 hown hE.1 hP 3 rfl rfl 1 (by decide) (hts _ k_266) (fun _ h9 => h9) rfl dX6_coatLine_30 ?_
    refine va_getN (D := (dC, dI)) (ci := 7) (v := .int (v3 10)) (C := RX7) (T := TX7) (N := 10) hx hb hts inB_7 hown hE.1 hP 4 rfl rfl 4 (by decide) (va_Nw.use rfl (hE.2 _ k_224)) (fun _ h9 => h9) rfl dX6_coatLine_33 ?_
    refine tI (y := (v 10)) hq10_v3 ?_
    have b10_v : 0 ≤ (v 10).toInt ∧ (v 10).toInt ≤ 6 := XI.b hIv 10 (by decide)
    refine csVi (n := 2) (rest := []) hx hb hml hown hts hE hP hD hS hA hF hT (sX_X6_name_2 NF l dC dI cy x0 x (v 10) v3 f4 hIv3 ) k_700 k_702 k_8 k_103 k_703 (by decide +kernel) ⟨Nat.le_of_ble_eq_true rfl, Nat.le_of_ble_eq_true rfl⟩ 3 6 rfl rfl (rfl) hl.1 rfl (Nat.le_of_ble_eq_true rfl) dX6_coatLine_36 (fun r5 u H locs hw hP hD hS => ?_)
    obtain ⟨hG6, hw⟩ := hw
    obtain ⟨v7, f8⟩ := u
    obtain ⟨kV_v7, kF_f8, hIv7, hk0_v7, hk1_v7, hk9_v7, hk10_v7, hk31_v7, hk32_v7, hw⟩ := hw
    have hM_v7 : KV [2, 3, 4, 5, 7, 8, 10] v7 v := KV.tr kV_v7 hM_v3 rfl
    have hA_f8 : KF [2, 8] f8 f := KF.tr kF_f8 hA_f4 rfl
    have hP : va_P (dC, dI) vwCl (XW cy x0 x v7 f8) H := hP
    have hD : va_D A (XW cy x0 x v7 f8) := hD
    have hq0_v7 : v7 0 = (v 0) := hk0_v7.trans hq0_v3
    have hq1_v7 : v7 1 = (v 1) := hk1_v7.trans hq1_v3
    have hq9_v7 : v7 9 = (v 9) := hk9_v7.trans hq9_v3
    have hq10_v7 : v7 10 = (v 10) := hk10_v7.trans hq10_v3
    have hq31_v7 : v7 31 = (v 31) := hk31_v7.trans hq31_v3
    have hq32_v7 : v7 32 = (v 32) := hk32_v7.trans hq32_v3
    rcases hw with ⟨g9⟩ | ⟨g9⟩
    · skip
      subst g9
      refine lv_if_ne (tgt := 44) hx hb dX6_coatLine_39 (by decide) (fun _ => ?_) (fun c0 => absurd c0 (by decide))
      refine lv_aload_n hx hb dX6_coatLine_44 rfl (lv_at hl 0 rfl) ?_
      refine lv_bipush (v := 109) hx hb dX6_coatLine_45 (by decide) ?_
      refine lv_bipush (v := 99) hx hb dX6_coatLine_47 (by decide) ?_
      refine csVi (n := 2) (rest := []) hx hb hml hown hts hE hP hD hS hA hF hT (sX_X6_labelled_1 NF l dC dI cy x0 x 109 99 v7 f8 hIv7 ) k_708 k_710 k_9 k_103 k_711 (by decide +kernel) ⟨Nat.le_of_ble_eq_true rfl, Nat.le_of_ble_eq_true rfl⟩ 3 6 rfl rfl (rfl) hl.1 rfl (Nat.le_of_ble_eq_true rfl) dX6_coatLine_49 (fun r10 u H locs hw hP hD hS => ?_)
      obtain ⟨hG11, hw⟩ := hw
      obtain ⟨v12, f13⟩ := u
      obtain ⟨kV_v12, kF_f13, hIv12, hk0_v12, hk1_v12, hk9_v12, hk10_v12, hk31_v12, hk32_v12⟩ := hw
      have hM_v12 : KV [2, 3, 4, 5, 7, 8, 10] v12 v := KV.tr kV_v12 hM_v7 rfl
      have hA_f13 : KF [2, 8] f13 f := KF.tr kF_f13 hA_f8 rfl
      have hP : va_P (dC, dI) vwCl (XW cy x0 x v12 f13) H := hP
      have hD : va_D A (XW cy x0 x v12 f13) := hD
      have hq0_v12 : v12 0 = (v 0) := hk0_v12.trans hq0_v7
      have hq1_v12 : v12 1 = (v 1) := hk1_v12.trans hq1_v7
      have hq9_v12 : v12 9 = (v 9) := hk9_v12.trans hq9_v7
      have hq10_v12 : v12 10 = (v 10) := hk10_v12.trans hq10_v7
      have hq31_v12 : v12 31 = (v 31) := hk31_v12.trans hq31_v7
      have hq32_v12 : v12 32 = (v 32) := hk32_v12.trans hq32_v7
      refine lv_istore_n (lv' := [(1, .int r10), (0, .ref (x 2))]) hx hb dX6_coatLine_52 rfl hl (by decide) rfl (fun ls hl => ?_)
      refine lv_iload_n hx hb dX6_coatLine_53 rfl (lv_at hl 0 rfl) ?_
      refine lv_if_ge (tgt := 61) hx hb dX6_coatLine_54 (by decide) (fun c14 => ?_) (fun c14 => ?_)
      · skip
        have zc14 : 0 ≤ r10.toInt := by rw [fa_le, show (0 : Int32).toInt = 0 from by decide] at c14; exact c14
        refine lv_aload_n hx hb dX6_coatLine_61 rfl (lv_at hl 1 rfl) ?_
        refine lv_bipush (v := 110) hx hb dX6_coatLine_62 (by decide) ?_
        refine lv_bipush (v := 99) hx hb dX6_coatLine_64 (by decide) ?_
        refine csVi (n := 2) (rest := []) hx hb hml hown hts hE hP hD hS hA hF hT (sX_X6_labelled_1 NF l dC dI cy x0 x 110 99 v12 f13 hIv12 ) k_708 k_710 k_9 k_103 k_711 (by decide +kernel) ⟨Nat.le_of_ble_eq_true rfl, Nat.le_of_ble_eq_true rfl⟩ 3 6 rfl rfl (rfl) hl.1 rfl (Nat.le_of_ble_eq_true rfl) dX6_coatLine_66 (fun r15 u H locs hw hP hD hS => ?_)
        obtain ⟨hG16, hw⟩ := hw
        obtain ⟨v17, f18⟩ := u
        obtain ⟨kV_v17, kF_f18, hIv17, hk0_v17, hk1_v17, hk9_v17, hk10_v17, hk31_v17, hk32_v17⟩ := hw
        have hM_v17 : KV [2, 3, 4, 5, 7, 8, 10] v17 v := KV.tr kV_v17 hM_v12 rfl
        have hA_f18 : KF [2, 8] f18 f := KF.tr kF_f18 hA_f13 rfl
        have hP : va_P (dC, dI) vwCl (XW cy x0 x v17 f18) H := hP
        have hD : va_D A (XW cy x0 x v17 f18) := hD
        have hq0_v17 : v17 0 = (v 0) := hk0_v17.trans hq0_v12
        have hq1_v17 : v17 1 = (v 1) := hk1_v17.trans hq1_v12
        have hq9_v17 : v17 9 = (v 9) := hk9_v17.trans hq9_v12
        have hq10_v17 : v17 10 = (v 10) := hk10_v17.trans hq10_v12
        have hq31_v17 : v17 31 = (v 31) := hk31_v17.trans hq31_v12
        have hq32_v17 : v17 32 = (v 32) := hk32_v17.trans hq32_v12
        refine lv_istore_n (lv' := [(2, .int r15), (1, .int r10), (0, .ref (x 2))]) hx hb dX6_coatLine_69 rfl hl (by decide) rfl (fun ls hl => ?_)
        refine lv_iload_n hx hb dX6_coatLine_70 rfl (lv_at hl 0 rfl) ?_
        refine lv_if_ge (tgt := 78) hx hb dX6_coatLine_71 (by decide) (fun c19 => ?_) (fun c19 => ?_)
        · skip
          have zc19 : 0 ≤ r15.toInt := by rw [fa_le, show (0 : Int32).toInt = 0 from by decide] at c19; exact c19
          refine lv_aload_n hx hb dX6_coatLine_78 rfl (lv_at hl 2 rfl) ?_
          refine va_get (D := (dC, dI)) (ci := 6) (v := .ref (x 0)) (C := RX6) (T := TX6) (N := 7) hx hb hts inB_6 hown hE.1 hP 3 rfl rfl 0 (by decide) (hts _ k_265) (fun _ h9 => h9) rfl dX6_coatLine_79 ?_
          refine va_getN (D := (dC, dI)) (ci := 9) (v := .int (v17 2)) (C := RX9) (T := TX9) (N := 6) hx hb hts inB_9 hown hE.1 hP 1 rfl rfl 2 (by decide) (va_Nw.use rfl (hE.2 _ k_139)) (fun _ h9 => h9) rfl dX6_coatLine_82 ?_
          refine lv_bipush (v := 112) hx hb dX6_coatLine_85 (by decide) ?_
          refine lv_icmp_ne (tgt := 101) hx hb dX6_coatLine_87 (by decide) (fun c20 => ?_) (fun c20 => ?_)
          · skip
            have zc20 : ¬ ((v17 2).toInt = 112) := by rw [fa_eq, show (112 : Int32).toInt = 112 from by decide] at c20; exact c20
            refine lv_iconst (v := 0) hx hb dX6_coatLine_101 (by decide) ?_
            refine lv_istore_n (lv' := [(3, .int 0), (2, .int r15), (1, .int r10), (0, .ref (x 2))]) hx hb dX6_coatLine_102 rfl hl (by decide) rfl (fun ls hl => ?_)
            refine lv_iload_n hx hb dX6_coatLine_103 rfl (lv_at hl 0 rfl) ?_
            refine lv_if_ge (tgt := 111) hx hb dX6_coatLine_104 (by decide) (fun _ => ?_) (fun c0 => absurd (by decide) c0)
            refine lv_aload_n hx hb dX6_coatLine_111 rfl (lv_at hl 3 rfl) ?_
            refine va_get (D := (dC, dI)) (ci := 6) (v := .ref (x 0)) (C := RX6) (T := TX6) (N := 7) hx hb hts inB_6 hown hE.1 hP 3 rfl rfl 0 (by decide) (hts _ k_265) (fun _ h9 => h9) rfl dX6_coatLine_112 ?_
            refine va_getN (D := (dC, dI)) (ci := 9) (v := .int (v17 2)) (C := RX9) (T := TX9) (N := 6) hx hb hts inB_9 hown hE.1 hP 1 rfl rfl 2 (by decide) (va_Nw.use rfl (hE.2 _ k_139)) (fun _ h9 => h9) rfl dX6_coatLine_115 ?_
            refine lv_bipush (v := 120) hx hb dX6_coatLine_118 (by decide) ?_
            refine lv_icmp_ne (tgt := 134) hx hb dX6_coatLine_120 (by decide) (fun c21 => ?_) (fun c21 => ?_)
            · skip
              have zc21 : ¬ ((v17 2).toInt = 120) := by rw [fa_eq, show (120 : Int32).toInt = 120 from by decide] at c21; exact c21
              refine lv_iconst (v := 0) hx hb dX6_coatLine_134 (by decide) ?_
              refine lv_istore (lv' := [(4, .int 0), (3, .int 0), (2, .int r15), (1, .int r10), (0, .ref (x 2))]) hx hb dX6_coatLine_135 hl (by decide) rfl (fun ls hl => ?_)
              refine lv_iload hx hb dX6_coatLine_137 (lv_at hl 0 rfl) ?_
              refine lv_if_ge (tgt := 144) hx hb dX6_coatLine_139 (by decide) (fun _ => ?_) (fun c0 => absurd (by decide) c0)
              refine lv_aload_n hx hb dX6_coatLine_144 rfl (lv_at hl 4 rfl) ?_
              refine va_get (D := (dC, dI)) (ci := 6) (v := .ref (x 3)) (C := RX6) (T := TX6) (N := 7) hx hb hts inB_6 hown hE.1 hP 3 rfl rfl 1 (by decide) (hts _ k_266) (fun _ h9 => h9) rfl dX6_coatLine_145 ?_
              refine lv_iload_n hx hb dX6_coatLine_148 rfl (lv_at hl 3 rfl) ?_
              refine lv_iload_n hx hb dX6_coatLine_149 rfl (lv_at hl 2 rfl) ?_
              refine lv_iload_n hx hb dX6_coatLine_150 rfl (lv_at hl 1 rfl) ?_
              refine lv_iload hx hb dX6_coatLine_151 (lv_at hl 0 rfl) ?_
              refine cbVv (n := 4) (rest := []) hx hb hml hown hts hE hP hD hS hA (sX_X7_addCoat_1 NF l dC dI cy x0 x r10 r15 0 0 v17 f18 hIv17 ) k_732 k_733 k_734 k_104 k_735 (by decide +kernel) ⟨Nat.le_of_ble_eq_true rfl, Nat.le_of_ble_eq_true rfl⟩ 4 7 rfl rfl (rfl) hl.1 rfl (Nat.le_of_ble_eq_true rfl) dX6_coatLine_153 (fun u H locs hw hP hD hS => ?_)
              obtain ⟨hG22, hw⟩ := hw
              obtain ⟨v23, f24⟩ := u
              obtain ⟨kV_v23, kF_f24, hIv23, hk0_v23, hk1_v23, hk7_v23, hk8_v23, hk9_v23, hk31_v23⟩ := hw
              have hM_v23 : KV [2, 3, 4, 5, 7, 8, 10] v23 v := KV.tr kV_v23 hM_v17 rfl
              have hA_f24 : KF [2, 8] f24 f := KF.tr kF_f24 hA_f18 rfl
              have hP : va_P (dC, dI) vwCl (XW cy x0 x v23 f24) H := hP
              have hD : va_D A (XW cy x0 x v23 f24) := hD
              have hq0_v23 : v23 0 = (v 0) := hk0_v23.trans hq0_v17
              have hq1_v23 : v23 1 = (v 1) := hk1_v23.trans hq1_v17
              have hq7_v23 : v23 7 = (v17 7) := hk7_v23
              have hq8_v23 : v23 8 = (v17 8) := hk8_v23
              have hq9_v23 : v23 9 = (v 9) := hk9_v23.trans hq9_v17
              have hq31_v23 : v23 31 = (v 31) := hk31_v23.trans hq31_v17
              refine lv_iconst (v := 1) hx hb dX6_coatLine_156 (by decide) ?_
              exact ret 1 (v23, f24) _ _ _ _ _ _ rfl ⟨(gsX_X6_coatLine_1_q0 c1 hG2 hG6 hG11 c14 hG16 c19 c20 c21 hG22), hM_v23, hA_f24, hIv23, (hk0_v23.trans (hk0_v17.trans (hk0_v12.trans (hk0_v7.trans hk0_v3)))), (hk1_v23.trans (hk1_v17.trans (hk1_v12.trans (hk1_v7.trans hk1_v3)))), (hk9_v23.trans (hk9_v17.trans (hk9_v12.trans (hk9_v7.trans hk9_v3)))), (hk31_v23.trans (hk31_v17.trans (hk31_v12.trans (hk31_v7.trans hk31_v3)))), (Or.inl rfl)⟩ hP hD hS dX6_coatLine_157 (Nat.le_refl _) (Nat.le_refl _)
            · skip
              have zc21 : (v17 2).toInt = 120 := by rw [fa_eq, show (120 : Int32).toInt = 120 from by decide] at c21; exact c21
              refine lv_aload_n hx hb dX6_coatLine_123 rfl (lv_at hl 3 rfl) ?_
              refine lv_bipush (v := 120) hx hb dX6_coatLine_124 (by decide) ?_
              refine lv_bipush (v := 99) hx hb dX6_coatLine_126 (by decide) ?_
              refine csVi (n := 2) (rest := []) hx hb hml hown hts hE hP hD hS hA hF hT (sX_X6_labelled_1 NF l dC dI cy x0 x 120 99 v17 f18 hIv17 ) k_708 k_710 k_9 k_103 k_711 (by decide +kernel) ⟨Nat.le_of_ble_eq_true rfl, Nat.le_of_ble_eq_true rfl⟩ 3 6 rfl rfl (rfl) hl.1 rfl (Nat.le_of_ble_eq_true rfl) dX6_coatLine_128 (fun r25 u H locs hw hP hD hS => ?_)
              obtain ⟨hG26, hw⟩ := hw
              obtain ⟨v27, f28⟩ := u
              obtain ⟨kV_v27, kF_f28, hIv27, hk0_v27, hk1_v27, hk9_v27, hk10_v27, hk31_v27, hk32_v27⟩ := hw
              have hM_v27 : KV [2, 3, 4, 5, 7, 8, 10] v27 v := KV.tr kV_v27 hM_v17 rfl
              have hA_f28 : KF [2, 8] f28 f := KF.tr kF_f28 hA_f18 rfl
              have hP : va_P (dC, dI) vwCl (XW cy x0 x v27 f28) H := hP
              have hD : va_D A (XW cy x0 x v27 f28) := hD
              have hq0_v27 : v27 0 = (v 0) := hk0_v27.trans hq0_v17
              have hq1_v27 : v27 1 = (v 1) := hk1_v27.trans hq1_v17
              have hq9_v27 : v27 9 = (v 9) := hk9_v27.trans hq9_v17
              have hq10_v27 : v27 10 = (v 10) := hk10_v27.trans hq10_v17
              have hq31_v27 : v27 31 = (v 31) := hk31_v27.trans hq31_v17
              have hq32_v27 : v27 32 = (v 32) := hk32_v27.trans hq32_v17
              refine lv_goto (tgt := 135) hx hb dX6_coatLine_131 (by decide) ?_
              refine lv_istore (lv' := [(4, .int r25), (3, .int 0), (2, .int r15), (1, .int r10), (0, .ref (x 2))]) hx hb dX6_coatLine_135 hl (by decide) rfl (fun ls hl => ?_)
              refine lv_iload hx hb dX6_coatLine_137 (lv_at hl 0 rfl) ?_
              refine lv_if_ge (tgt := 144) hx hb dX6_coatLine_139 (by decide) (fun c29 => ?_) (fun c29 => ?_)
              · skip
                have zc29 : 0 ≤ r25.toInt := by rw [fa_le, show (0 : Int32).toInt = 0 from by decide] at c29; exact c29
                refine lv_aload_n hx hb dX6_coatLine_144 rfl (lv_at hl 4 rfl) ?_
                refine va_get (D := (dC, dI)) (ci := 6) (v := .ref (x 3)) (C := RX6) (T := TX6) (N := 7) hx hb hts inB_6 hown hE.1 hP 3 rfl rfl 1 (by decide) (hts _ k_266) (fun _ h9 => h9) rfl dX6_coatLine_145 ?_
                refine lv_iload_n hx hb dX6_coatLine_148 rfl (lv_at hl 3 rfl) ?_
                refine lv_iload_n hx hb dX6_coatLine_149 rfl (lv_at hl 2 rfl) ?_
                refine lv_iload_n hx hb dX6_coatLine_150 rfl (lv_at hl 1 rfl) ?_
                refine lv_iload hx hb dX6_coatLine_151 (lv_at hl 0 rfl) ?_
                refine cbVv (n := 4) (rest := []) hx hb hml hown hts hE hP hD hS hA (sX_X7_addCoat_1 NF l dC dI cy x0 x r10 r15 0 r25 v27 f28 hIv27 ) k_732 k_733 k_734 k_104 k_735 (by decide +kernel) ⟨Nat.le_of_ble_eq_true rfl, Nat.le_of_ble_eq_true rfl⟩ 4 7 rfl rfl (rfl) hl.1 rfl (Nat.le_of_ble_eq_true rfl) dX6_coatLine_153 (fun u H locs hw hP hD hS => ?_)
                obtain ⟨hG30, hw⟩ := hw
                obtain ⟨v31, f32⟩ := u
                obtain ⟨kV_v31, kF_f32, hIv31, hk0_v31, hk1_v31, hk7_v31, hk8_v31, hk9_v31, hk31_v31⟩ := hw
                have hM_v31 : KV [2, 3, 4, 5, 7, 8, 10] v31 v := KV.tr kV_v31 hM_v27 rfl
                have hA_f32 : KF [2, 8] f32 f := KF.tr kF_f32 hA_f28 rfl
                have hP : va_P (dC, dI) vwCl (XW cy x0 x v31 f32) H := hP
                have hD : va_D A (XW cy x0 x v31 f32) := hD
                have hq0_v31 : v31 0 = (v 0) := hk0_v31.trans hq0_v27
                have hq1_v31 : v31 1 = (v 1) := hk1_v31.trans hq1_v27
                have hq7_v31 : v31 7 = (v27 7) := hk7_v31
                have hq8_v31 : v31 8 = (v27 8) := hk8_v31
                have hq9_v31 : v31 9 = (v 9) := hk9_v31.trans hq9_v27
                have hq31_v31 : v31 31 = (v 31) := hk31_v31.trans hq31_v27
                refine lv_iconst (v := 1) hx hb dX6_coatLine_156 (by decide) ?_
                exact ret 1 (v31, f32) _ _ _ _ _ _ rfl ⟨(gsX_X6_coatLine_1_q1 c1 hG2 hG6 hG11 c14 hG16 c19 c20 c21 hG26 c29 hG30), hM_v31, hA_f32, hIv31, (hk0_v31.trans (hk0_v27.trans (hk0_v17.trans (hk0_v12.trans (hk0_v7.trans hk0_v3))))), (hk1_v31.trans (hk1_v27.trans (hk1_v17.trans (hk1_v12.trans (hk1_v7.trans hk1_v3))))), (hk9_v31.trans (hk9_v27.trans (hk9_v17.trans (hk9_v12.trans (hk9_v7.trans hk9_v3))))), (hk31_v31.trans (hk31_v27.trans (hk31_v17.trans (hk31_v12.trans (hk31_v7.trans hk31_v3))))), (Or.inl rfl)⟩ hP hD hS dX6_coatLine_157 (Nat.le_refl _) (Nat.le_refl _)
              · skip
                have zc29 : ¬ (0 ≤ r25.toInt) := by rw [fa_le, show (0 : Int32).toInt = 0 from by decide] at c29; exact c29
                refine lv_iconst (v := 0) hx hb dX6_coatLine_142 (by decide) ?_
                exact ret 0 (v27, f28) _ _ _ _ _ _ rfl ⟨(gsX_X6_coatLine_1_q2 c1 hG2 hG6 hG11 c14 hG16 c19 c20 c21 hG26 c29), hM_v27, hA_f28, hIv27, (hk0_v27.trans (hk0_v17.trans (hk0_v12.trans (hk0_v7.trans hk0_v3)))), (hk1_v27.trans (hk1_v17.trans (hk1_v12.trans (hk1_v7.trans hk1_v3)))), (hk9_v27.trans (hk9_v17.trans (hk9_v12.trans (hk9_v7.trans hk9_v3)))), (hk31_v27.trans (hk31_v17.trans (hk31_v12.trans (hk31_v7.trans hk31_v3)))), (Or.inr rfl)⟩ hP hD hS dX6_coatLine_143 (Nat.le_refl _) (Nat.le_refl _)
          · skip
            have zc20 : (v17 2).toInt = 112 := by rw [fa_eq, show (112 : Int32).toInt = 112 from by decide] at c20; exact c20
            refine lv_aload_n hx hb dX6_coatLine_90 rfl (lv_at hl 2 rfl) ?_
            refine lv_bipush (v := 112) hx hb dX6_coatLine_91 (by decide) ?_
            refine lv_bipush (v := 20) hx hb dX6_coatLine_93 (by decide) ?_
            refine csVi (n := 2) (rest := []) hx hb hml hown hts hE hP hD hS hA hF hT (sX_X6_labelled_1 NF l dC dI cy x0 x 112 20 v17 f18 hIv17 ) k_708 k_710 k_9 k_103 k_711 (by decide +kernel) ⟨Nat.le_of_ble_eq_true rfl, Nat.le_of_ble_eq_true rfl⟩ 3 6 rfl rfl (rfl) hl.1 rfl (Nat.le_of_ble_eq_true rfl) dX6_coatLine_95 (fun r33 u H locs hw hP hD hS => ?_)
            obtain ⟨hG34, hw⟩ := hw
            obtain ⟨v35, f36⟩ := u
            obtain ⟨kV_v35, kF_f36, hIv35, hk0_v35, hk1_v35, hk9_v35, hk10_v35, hk31_v35, hk32_v35⟩ := hw
            have hM_v35 : KV [2, 3, 4, 5, 7, 8, 10] v35 v := KV.tr kV_v35 hM_v17 rfl
            have hA_f36 : KF [2, 8] f36 f := KF.tr kF_f36 hA_f18 rfl
            have hP : va_P (dC, dI) vwCl (XW cy x0 x v35 f36) H := hP
            have hD : va_D A (XW cy x0 x v35 f36) := hD
            have hq0_v35 : v35 0 = (v 0) := hk0_v35.trans hq0_v17
            have hq1_v35 : v35 1 = (v 1) := hk1_v35.trans hq1_v17
            have hq9_v35 : v35 9 = (v 9) := hk9_v35.trans hq9_v17
            have hq10_v35 : v35 10 = (v 10) := hk10_v35.trans hq10_v17
            have hq31_v35 : v35 31 = (v 31) := hk31_v35.trans hq31_v17
            have hq32_v35 : v35 32 = (v 32) := hk32_v35.trans hq32_v17
            refine lv_goto (tgt := 102) hx hb dX6_coatLine_98 (by decide) ?_
            refine lv_istore_n (lv' := [(3, .int r33), (2, .int r15), (1, .int r10), (0, .ref (x 2))]) hx hb dX6_coatLine_102 rfl hl (by decide) rfl (fun ls hl => ?_)
            refine lv_iload_n hx hb dX6_coatLine_103 rfl (lv_at hl 0 rfl) ?_
            refine lv_if_ge (tgt := 111) hx hb dX6_coatLine_104 (by decide) (fun c37 => ?_) (fun c37 => ?_)
            · skip
              have zc37 : 0 ≤ r33.toInt := by rw [fa_le, show (0 : Int32).toInt = 0 from by decide] at c37; exact c37
              refine lv_aload_n hx hb dX6_coatLine_111 rfl (lv_at hl 3 rfl) ?_
              refine va_get (D := (dC, dI)) (ci := 6) (v := .ref (x 0)) (C := RX6) (T := TX6) (N := 7) hx hb hts inB_6 hown hE.1 hP 3 rfl rfl 0 (by decide) (hts _ k_265) (fun _ h9 => h9) rfl dX6_coatLine_112 ?_
              refine va_getN (D := (dC, dI)) (ci := 9) (v := .int (v35 2)) (C := RX9) (T := TX9) (N := 6) hx hb hts inB_9 hown hE.1 hP 1 rfl rfl 2 (by decide) (va_Nw.use rfl (hE.2 _ k_139)) (fun _ h9 => h9) rfl dX6_coatLine_115 ?_
              refine lv_bipush (v := 120) hx hb dX6_coatLine_118 (by decide) ?_
              refine lv_icmp_ne (tgt := 134) hx hb dX6_coatLine_120 (by decide) (fun c38 => ?_) (fun c38 => ?_)
              · skip
                have zc38 : ¬ ((v35 2).toInt = 120) := by rw [fa_eq, show (120 : Int32).toInt = 120 from by decide] at c38; exact c38
                refine lv_iconst (v := 0) hx hb dX6_coatLine_134 (by decide) ?_
                refine lv_istore (lv' := [(4, .int 0), (3, .int r33), (2, .int r15), (1, .int r10), (0, .ref (x 2))]) hx hb dX6_coatLine_135 hl (by decide) rfl (fun ls hl => ?_)
                refine lv_iload hx hb dX6_coatLine_137 (lv_at hl 0 rfl) ?_
                refine lv_if_ge (tgt := 144) hx hb dX6_coatLine_139 (by decide) (fun _ => ?_) (fun c0 => absurd (by decide) c0)
                refine lv_aload_n hx hb dX6_coatLine_144 rfl (lv_at hl 4 rfl) ?_
                refine va_get (D := (dC, dI)) (ci := 6) (v := .ref (x 3)) (C := RX6) (T := TX6) (N := 7) hx hb hts inB_6 hown hE.1 hP 3 rfl rfl 1 (by decide) (hts _ k_266) (fun _ h9 => h9) rfl dX6_coatLine_145 ?_
                refine lv_iload_n hx hb dX6_coatLine_148 rfl (lv_at hl 3 rfl) ?_
                refine lv_iload_n hx hb dX6_coatLine_149 rfl (lv_at hl 2 rfl) ?_
                refine lv_iload_n hx hb dX6_coatLine_150 rfl (lv_at hl 1 rfl) ?_
                refine lv_iload hx hb dX6_coatLine_151 (lv_at hl 0 rfl) ?_
                refine cbVv (n := 4) (rest := []) hx hb hml hown hts hE hP hD hS hA (sX_X7_addCoat_1 NF l dC dI cy x0 x r10 r15 r33 0 v35 f36 hIv35 ) k_732 k_733 k_734 k_104 k_735 (by decide +kernel) ⟨Nat.le_of_ble_eq_true rfl, Nat.le_of_ble_eq_true rfl⟩ 4 7 rfl rfl (rfl) hl.1 rfl (Nat.le_of_ble_eq_true rfl) dX6_coatLine_153 (fun u H locs hw hP hD hS => ?_)
                obtain ⟨hG39, hw⟩ := hw
                obtain ⟨v40, f41⟩ := u
                obtain ⟨kV_v40, kF_f41, hIv40, hk0_v40, hk1_v40, hk7_v40, hk8_v40, hk9_v40, hk31_v40⟩ := hw
                have hM_v40 : KV [2, 3, 4, 5, 7, 8, 10] v40 v := KV.tr kV_v40 hM_v35 rfl
                have hA_f41 : KF [2, 8] f41 f := KF.tr kF_f41 hA_f36 rfl
                have hP : va_P (dC, dI) vwCl (XW cy x0 x v40 f41) H := hP
                have hD : va_D A (XW cy x0 x v40 f41) := hD
                have hq0_v40 : v40 0 = (v 0) := hk0_v40.trans hq0_v35
                have hq1_v40 : v40 1 = (v 1) := hk1_v40.trans hq1_v35
                have hq7_v40 : v40 7 = (v35 7) := hk7_v40
                have hq8_v40 : v40 8 = (v35 8) := hk8_v40
                have hq9_v40 : v40 9 = (v 9) := hk9_v40.trans hq9_v35
                have hq31_v40 : v40 31 = (v 31) := hk31_v40.trans hq31_v35
                refine lv_iconst (v := 1) hx hb dX6_coatLine_156 (by decide) ?_
                exact ret 1 (v40, f41) _ _ _ _ _ _ rfl ⟨(gsX_X6_coatLine_1_q3 c1 hG2 hG6 hG11 c14 hG16 c19 c20 hG34 c37 c38 hG39), hM_v40, hA_f41, hIv40, (hk0_v40.trans (hk0_v35.trans (hk0_v17.trans (hk0_v12.trans (hk0_v7.trans hk0_v3))))), (hk1_v40.trans (hk1_v35.trans (hk1_v17.trans (hk1_v12.trans (hk1_v7.trans hk1_v3))))), (hk9_v40.trans (hk9_v35.trans (hk9_v17.trans (hk9_v12.trans (hk9_v7.trans hk9_v3))))), (hk31_v40.trans (hk31_v35.trans (hk31_v17.trans (hk31_v12.trans (hk31_v7.trans hk31_v3))))), (Or.inl rfl)⟩ hP hD hS dX6_coatLine_157 (Nat.le_refl _) (Nat.le_refl _)
              · skip
                have zc38 : (v35 2).toInt = 120 := by rw [fa_eq, show (120 : Int32).toInt = 120 from by decide] at c38; exact c38
                refine lv_aload_n hx hb dX6_coatLine_123 rfl (lv_at hl 3 rfl) ?_
                refine lv_bipush (v := 120) hx hb dX6_coatLine_124 (by decide) ?_
                refine lv_bipush (v := 99) hx hb dX6_coatLine_126 (by decide) ?_
                refine csVi (n := 2) (rest := []) hx hb hml hown hts hE hP hD hS hA hF hT (sX_X6_labelled_1 NF l dC dI cy x0 x 120 99 v35 f36 hIv35 ) k_708 k_710 k_9 k_103 k_711 (by decide +kernel) ⟨Nat.le_of_ble_eq_true rfl, Nat.le_of_ble_eq_true rfl⟩ 3 6 rfl rfl (rfl) hl.1 rfl (Nat.le_of_ble_eq_true rfl) dX6_coatLine_128 (fun r42 u H locs hw hP hD hS => ?_)
                obtain ⟨hG43, hw⟩ := hw
                obtain ⟨v44, f45⟩ := u
                obtain ⟨kV_v44, kF_f45, hIv44, hk0_v44, hk1_v44, hk9_v44, hk10_v44, hk31_v44, hk32_v44⟩ := hw
                have hM_v44 : KV [2, 3, 4, 5, 7, 8, 10] v44 v := KV.tr kV_v44 hM_v35 rfl
                have hA_f45 : KF [2, 8] f45 f := KF.tr kF_f45 hA_f36 rfl
                have hP : va_P (dC, dI) vwCl (XW cy x0 x v44 f45) H := hP
                have hD : va_D A (XW cy x0 x v44 f45) := hD
                have hq0_v44 : v44 0 = (v 0) := hk0_v44.trans hq0_v35
                have hq1_v44 : v44 1 = (v 1) := hk1_v44.trans hq1_v35
                have hq9_v44 : v44 9 = (v 9) := hk9_v44.trans hq9_v35
                have hq10_v44 : v44 10 = (v 10) := hk10_v44.trans hq10_v35
                have hq31_v44 : v44 31 = (v 31) := hk31_v44.trans hq31_v35
                have hq32_v44 : v44 32 = (v 32) := hk32_v44.trans hq32_v35
                refine lv_goto (tgt := 135) hx hb dX6_coatLine_131 (by decide) ?_
                refine lv_istore (lv' := [(4, .int r42), (3, .int r33), (2, .int r15), (1, .int r10), (0, .ref (x 2))]) hx hb dX6_coatLine_135 hl (by decide) rfl (fun ls hl => ?_)
                refine lv_iload hx hb dX6_coatLine_137 (lv_at hl 0 rfl) ?_
                refine lv_if_ge (tgt := 144) hx hb dX6_coatLine_139 (by decide) (fun c46 => ?_) (fun c46 => ?_)
                · skip
                  have zc46 : 0 ≤ r42.toInt := by rw [fa_le, show (0 : Int32).toInt = 0 from by decide] at c46; exact c46
                  refine lv_aload_n hx hb dX6_coatLine_144 rfl (lv_at hl 4 rfl) ?_
                  refine va_get (D := (dC, dI)) (ci := 6) (v := .ref (x 3)) (C := RX6) (T := TX6) (N := 7) hx hb hts inB_6 hown hE.1 hP 3 rfl rfl 1 (by decide) (hts _ k_266) (fun _ h9 => h9) rfl dX6_coatLine_145 ?_
                  refine lv_iload_n hx hb dX6_coatLine_148 rfl (lv_at hl 3 rfl) ?_
                  refine lv_iload_n hx hb dX6_coatLine_149 rfl (lv_at hl 2 rfl) ?_
                  refine lv_iload_n hx hb dX6_coatLine_150 rfl (lv_at hl 1 rfl) ?_
                  refine lv_iload hx hb dX6_coatLine_151 (lv_at hl 0 rfl) ?_
                  refine cbVv (n := 4) (rest := []) hx hb hml hown hts hE hP hD hS hA (sX_X7_addCoat_1 NF l dC dI cy x0 x r10 r15 r33 r42 v44 f45 hIv44 ) k_732 k_733 k_734 k_104 k_735 (by decide +kernel) ⟨Nat.le_of_ble_eq_true rfl, Nat.le_of_ble_eq_true rfl⟩ 4 7 rfl rfl (rfl) hl.1 rfl (Nat.le_of_ble_eq_true rfl) dX6_coatLine_153 (fun u H locs hw hP hD hS => ?_)
                  obtain ⟨hG47, hw⟩ := hw
                  obtain ⟨v48, f49⟩ := u
                  obtain ⟨kV_v48, kF_f49, hIv48, hk0_v48, hk1_v48, hk7_v48, hk8_v48, hk9_v48, hk31_v48⟩ := hw
                  have hM_v48 : KV [2, 3, 4, 5, 7, 8, 10] v48 v := KV.tr kV_v48 hM_v44 rfl
                  have hA_f49 : KF [2, 8] f49 f := KF.tr kF_f49 hA_f45 rfl
                  have hP : va_P (dC, dI) vwCl (XW cy x0 x v48 f49) H := hP
                  have hD : va_D A (XW cy x0 x v48 f49) := hD
                  have hq0_v48 : v48 0 = (v 0) := hk0_v48.trans hq0_v44
                  have hq1_v48 : v48 1 = (v 1) := hk1_v48.trans hq1_v44
                  have hq7_v48 : v48 7 = (v44 7) := hk7_v48
                  have hq8_v48 : v48 8 = (v44 8) := hk8_v48
                  have hq9_v48 : v48 9 = (v 9) := hk9_v48.trans hq9_v44
                  have hq31_v48 : v48 31 = (v 31) := hk31_v48.trans hq31_v44
                  refine lv_iconst (v := 1) hx hb dX6_coatLine_156 (by decide) ?_
                  exact ret 1 (v48, f49) _ _ _ _ _ _ rfl ⟨(gsX_X6_coatLine_1_q4 c1 hG2 hG6 hG11 c14 hG16 c19 c20 hG34 c37 c38 hG43 c46 hG47), hM_v48, hA_f49, hIv48, (hk0_v48.trans (hk0_v44.trans (hk0_v35.trans (hk0_v17.trans (hk0_v12.trans (hk0_v7.trans hk0_v3)))))), (hk1_v48.trans (hk1_v44.trans (hk1_v35.trans (hk1_v17.trans (hk1_v12.trans (hk1_v7.trans hk1_v3)))))), (hk9_v48.trans (hk9_v44.trans (hk9_v35.trans (hk9_v17.trans (hk9_v12.trans (hk9_v7.trans hk9_v3)))))), (hk31_v48.trans (hk31_v44.trans (hk31_v35.trans (hk31_v17.trans (hk31_v12.trans (hk31_v7.trans hk31_v3)))))), (Or.inl rfl)⟩ hP hD hS dX6_coatLine_157 (Nat.le_refl _) (Nat.le_refl _)
                · skip
                  have zc46 : ¬ (0 ≤ r42.toInt) := by rw [fa_le, show (0 : Int32).toInt = 0 from by decide] at c46; exact c46
                  refine lv_iconst (v := 0) hx hb dX6_coatLine_142 (by decide) ?_
                  exact ret 0 (v44, f45) _ _ _ _ _ _ rfl ⟨(gsX_X6_coatLine_1_q5 c1 hG2 hG6 hG11 c14 hG16 c19 c20 hG34 c37 c38 hG43 c46), hM_v44, hA_f45, hIv44, (hk0_v44.trans (hk0_v35.trans (hk0_v17.trans (hk0_v12.trans (hk0_v7.trans hk0_v3))))), (hk1_v44.trans (hk1_v35.trans (hk1_v17.trans (hk1_v12.trans (hk1_v7.trans hk1_v3))))), (hk9_v44.trans (hk9_v35.trans (hk9_v17.trans (hk9_v12.trans (hk9_v7.trans hk9_v3))))), (hk31_v44.trans (hk31_v35.trans (hk31_v17.trans (hk31_v12.trans (hk31_v7.trans hk31_v3))))), (Or.inr rfl)⟩ hP hD hS dX6_coatLine_143 (Nat.le_refl _) (Nat.le_refl _)
            · skip
              have zc37 : ¬ (0 ≤ r33.toInt) := by rw [fa_le, show (0 : Int32).toInt = 0 from by decide] at c37; exact c37
              refine lv_iconst (v := (-1)) hx hb dX6_coatLine_107 (by decide) ?_
              refine lv_goto (tgt := 135) hx hb dX6_coatLine_108 (by decide) ?_
              refine lv_istore (lv' := [(4, .int (-1)), (3, .int r33), (2, .int r15), (1, .int r10), (0, .ref (x 2))]) hx hb dX6_coatLine_135 hl (by decide) rfl (fun ls hl => ?_)
              refine lv_iload hx hb dX6_coatLine_137 (lv_at hl 0 rfl) ?_
              refine lv_if_ge (tgt := 144) hx hb dX6_coatLine_139 (by decide) (fun c0 => absurd c0 (by decide)) (fun _ => ?_)
              refine lv_iconst (v := 0) hx hb dX6_coatLine_142 (by decide) ?_
              exact ret 0 (v35, f36) _ _ _ _ _ _ rfl ⟨(gsX_X6_coatLine_1_q6 c1 hG2 hG6 hG11 c14 hG16 c19 c20 hG34 c37), hM_v35, hA_f36, hIv35, (hk0_v35.trans (hk0_v17.trans (hk0_v12.trans (hk0_v7.trans hk0_v3)))), (hk1_v35.trans (hk1_v17.trans (hk1_v12.trans (hk1_v7.trans hk1_v3)))), (hk9_v35.trans (hk9_v17.trans (hk9_v12.trans (hk9_v7.trans hk9_v3)))), (hk31_v35.trans (hk31_v17.trans (hk31_v12.trans (hk31_v7.trans hk31_v3)))), (Or.inr rfl)⟩ hP hD hS dX6_coatLine_143 (Nat.le_refl _) (Nat.le_refl _)
        · skip
          have zc19 : ¬ (0 ≤ r15.toInt) := by rw [fa_le, show (0 : Int32).toInt = 0 from by decide] at c19; exact c19
          refine lv_iconst (v := (-1)) hx hb dX6_coatLine_74 (by decide) ?_
          refine lv_goto (tgt := 102) hx hb dX6_coatLine_75 (by decide) ?_
          refine lv_istore_n (lv' := [(3, .int (-1)), (2, .int r15), (1, .int r10), (0, .ref (x 2))]) hx hb dX6_coatLine_102 rfl hl (by decide) rfl (fun ls hl => ?_)
          refine lv_iload_n hx hb dX6_coatLine_103 rfl (lv_at hl 0 rfl) ?_
          refine lv_if_ge (tgt := 111) hx hb dX6_coatLine_104 (by decide) (fun c0 => absurd c0 (by decide)) (fun _ => ?_)
          refine lv_iconst (v := (-1)) hx hb dX6_coatLine_107 (by decide) ?_
          refine lv_goto (tgt := 135) hx hb dX6_coatLine_108 (by decide) ?_
          refine lv_istore (lv' := [(4, .int (-1)), (3, .int (-1)), (2, .int r15), (1, .int r10), (0, .ref (x 2))]) hx hb dX6_coatLine_135 hl (by decide) rfl (fun ls hl => ?_)
          refine lv_iload hx hb dX6_coatLine_137 (lv_at hl 0 rfl) ?_
          refine lv_if_ge (tgt := 144) hx hb dX6_coatLine_139 (by decide) (fun c0 => absurd c0 (by decide)) (fun _ => ?_)
          refine lv_iconst (v := 0) hx hb dX6_coatLine_142 (by decide) ?_
          exact ret 0 (v17, f18) _ _ _ _ _ _ rfl ⟨(gsX_X6_coatLine_1_q7 c1 hG2 hG6 hG11 c14 hG16 c19), hM_v17, hA_f18, hIv17, (hk0_v17.trans (hk0_v12.trans (hk0_v7.trans hk0_v3))), (hk1_v17.trans (hk1_v12.trans (hk1_v7.trans hk1_v3))), (hk9_v17.trans (hk9_v12.trans (hk9_v7.trans hk9_v3))), (hk31_v17.trans (hk31_v12.trans (hk31_v7.trans hk31_v3))), (Or.inr rfl)⟩ hP hD hS dX6_coatLine_143 (Nat.le_refl _) (Nat.le_refl _)
      · skip
        have zc14 : ¬ (0 ≤ r10.toInt) := by rw [fa_le, show (0 : Int32).toInt = 0 from by decide] at c14; exact c14
        refine lv_iconst (v := (-1)) hx hb dX6_coatLine_57 (by decide) ?_
        refine lv_goto (tgt := 69) hx hb dX6_coatLine_58 (by decide) ?_
        refine lv_istore_n (lv' := [(2, .int (-1)), (1, .int r10), (0, .ref (x 2))]) hx hb dX6_coatLine_69 rfl hl (by decide) rfl (fun ls hl => ?_)
        refine lv_iload_n hx hb dX6_coatLine_70 rfl (lv_at hl 0 rfl) ?_
        refine lv_if_ge (tgt := 78) hx hb dX6_coatLine_71 (by decide) (fun c0 => absurd c0 (by decide)) (fun _ => ?_)
        refine lv_iconst (v := (-1)) hx hb dX6_coatLine_74 (by decide) ?_
        refine lv_goto (tgt := 102) hx hb dX6_coatLine_75 (by decide) ?_
        refine lv_istore_n (lv' := [(3, .int (-1)), (2, .int (-1)), (1, .int r10), (0, .ref (x 2))]) hx hb dX6_coatLine_102 rfl hl (by decide) rfl (fun ls hl => ?_)
        refine lv_iload_n hx hb dX6_coatLine_103 rfl (lv_at hl 0 rfl) ?_
        refine lv_if_ge (tgt := 111) hx hb dX6_coatLine_104 (by decide) (fun c0 => absurd c0 (by decide)) (fun _ => ?_)
        refine lv_iconst (v := (-1)) hx hb dX6_coatLine_107 (by decide) ?_
        refine lv_goto (tgt := 135) hx hb dX6_coatLine_108 (by decide) ?_
        refine lv_istore (lv' := [(4, .int (-1)), (3, .int (-1)), (2, .int (-1)), (1, .int r10), (0, .ref (x 2))]) hx hb dX6_coatLine_135 hl (by decide) rfl (fun ls hl => ?_)
        refine lv_iload hx hb dX6_coatLine_137 (lv_at hl 0 rfl) ?_
        refine lv_if_ge (tgt := 144) hx hb dX6_coatLine_139 (by decide) (fun c0 => absurd c0 (by decide)) (fun _ => ?_)
        refine lv_iconst (v := 0) hx hb dX6_coatLine_142 (by decide) ?_
        exact ret 0 (v12, f13) _ _ _ _ _ _ rfl ⟨(gsX_X6_coatLine_1_q8 c1 hG2 hG6 hG11 c14), hM_v12, hA_f13, hIv12, (hk0_v12.trans (hk0_v7.trans hk0_v3)), (hk1_v12.trans (hk1_v7.trans hk1_v3)), (hk9_v12.trans (hk9_v7.trans hk9_v3)), (hk31_v12.trans (hk31_v7.trans hk31_v3)), (Or.inr rfl)⟩ hP hD hS dX6_coatLine_143 (Nat.le_refl _) (Nat.le_refl _)
    · skip
      subst g9
      refine lv_if_ne (tgt := 44) hx hb dX6_coatLine_39 (by decide) (fun c0 => absurd (by decide) c0) (fun _ => ?_)
      refine lv_iconst (v := 0) hx hb dX6_coatLine_42 (by decide) ?_
      exact ret 0 (v7, f8) _ _ _ _ _ _ rfl ⟨(gsX_X6_coatLine_1_q9 c1 hG2 hG6), hM_v7, hA_f8, hIv7, (hk0_v7.trans hk0_v3), (hk1_v7.trans hk1_v3), (hk9_v7.trans hk9_v3), (hk31_v7.trans hk31_v3), (Or.inr rfl)⟩ hP hD hS dX6_coatLine_43 (Nat.le_refl _) (Nat.le_refl _)
  · skip
    have zc1 : ¬ ((v 10).toInt < 6) := by rw [fa_lt, show (6 : Int32).toInt = 6 from by decide] at c1; exact c1
    refine lv_aload_n hx hb dX6_coatLine_12 rfl (lv_at hl 0 rfl) ?_
    refine cbVi (n := 0) (rest := []) hx hb hml hown hts hE hP hD hS hA (sX_X6_refuse_1 NF l dC dI cy x0 x  v f hIv ) k_691 k_693 k_6 k_103 k_694 (by decide +kernel) ⟨Nat.le_of_ble_eq_true rfl, Nat.le_of_ble_eq_true rfl⟩ 3 6 rfl rfl (rfl) hl.1 rfl (Nat.le_of_ble_eq_true rfl) dX6_coatLine_13 (fun r50 u H locs hw hP hD hS => ?_)
    obtain ⟨hG51, hw⟩ := hw
    obtain ⟨v52, f53⟩ := u
    obtain ⟨kV_v52, kF_f53, hIv52, hk0_v52, hk1_v52, hk9_v52, hk10_v52, hk31_v52, hk32_v52, hw⟩ := hw
    have hM_v52 : KV [2, 3, 4, 5, 7, 8, 10] v52 v := KV.tr kV_v52 hM_v rfl
    have hA_f53 : KF [2, 8] f53 f := KF.tr kF_f53 hA_f rfl
    have hP : va_P (dC, dI) vwCl (XW cy x0 x v52 f53) H := hP
    have hD : va_D A (XW cy x0 x v52 f53) := hD
    have hq0_v52 : v52 0 = (v 0) := hk0_v52
    have hq1_v52 : v52 1 = (v 1) := hk1_v52
    have hq9_v52 : v52 9 = (v 9) := hk9_v52
    have hq10_v52 : v52 10 = (v 10) := hk10_v52
    have hq31_v52 : v52 31 = (v 31) := hk31_v52
    have hq32_v52 : v52 32 = (v 32) := hk32_v52
    rcases hw with ⟨g54⟩ | ⟨g54⟩
    · skip
      subst g54
      exact ret 1 (v52, f53) _ _ _ _ _ _ rfl ⟨(gsX_X6_coatLine_1_q10 c1 hG51), hM_v52, hA_f53, hIv52, hk0_v52, hk1_v52, hk9_v52, hk31_v52, (Or.inl rfl)⟩ hP hD hS dX6_coatLine_16 (Nat.le_refl _) (Nat.le_refl _)
    · skip
      subst g54
      exact ret 0 (v52, f53) _ _ _ _ _ _ rfl ⟨(gsX_X6_coatLine_1_q11 c1 hG51), hM_v52, hA_f53, hIv52, hk0_v52, hk1_v52, hk9_v52, hk31_v52, (Or.inr rfl)⟩ hP hD hS dX6_coatLine_16 (Nat.le_refl _) (Nat.le_refl _)
set_option maxHeartbeats 4000000 in
set_option maxRecDepth 100000 in
theorem sX_X6_opened_1 (NF : Nat) (l : Launch) (dC : Nat → ClassId) (dI : Nat → Nat → Nat) (cy : Nat → ClassId) (x0 : Nat) (x : Nat → Nat) (p1 : Int32) (v : Nat → Int32) (f : Nat → Nat → Int32) (hIv : XI v)  : ctIS l (dC, dI) cy yX6_opened cX6_opened 3 .boolean 7 191 0 0 ((Nat → Int32) × (Nat → Nat → Int32)) [.ref (x 2), .int p1] (XW cy x0 x v f) (fun r u => gsX_X6_opened_1 NF p1 v f = (r, u) ∧ KV [2, 3, 4, 5, 6, 7, 8] u.1 v ∧ KF [] u.2 f ∧ XI u.1 ∧ u.1 0 = v 0 ∧ u.1 1 = v 1 ∧ u.1 9 = v 9 ∧ u.1 10 = v 10 ∧ u.1 31 = v 31 ∧ u.1 32 = v 32 ∧ ((r = 1) ∨ (r = 0))) (fun u => XW cy x0 x u.1 u.2) := by
  refine ctIS_of (by decide) (Nat.le_of_ble_eq_true rfl) (fun p e s m below meth c A ls Q hx hb hml hts hown hE hF hT hP hD hA hl ret => ?_)
  have hM_v : KV [2, 3, 4, 5, 6, 7, 8] v v := fun _ _ => rfl
  have hA_f : KF [] f f := fun _ _ => rfl
  have hown : s.vm.findClass RX6 = some m.cls := hown
  have hS : va_S A s.heap s.heap [] := va_S.rf
  have hl : lv_has ls 3 [(0, .ref (x 2)), (1, .int p1)] := hl
  refine lv_iconst (v := 1) hx hb dX6_opened_0 (by decide) ?_
  refine lv_iload_n hx hb dX6_opened_1 rfl (lv_at hl 1 rfl) ?_
  refine lv_bipush (v := 103) hx hb dX6_opened_2 (by decide) ?_
  refine lv_isub hx hb dX6_opened_4 ?_
  refine lv_topi (fun t1 et1 => ?_)
  refine lv_ishl hx hb dX6_opened_5 ?_
  refine lv_topi (fun t2 et2 => ?_)
  refine lv_istore_n (lv' := [(2, .int t2), (0, .ref (x 2)), (1, .int p1)]) hx hb dX6_opened_6 rfl hl (by decide) rfl (fun ls hl => ?_)
  refine lv_aload_n hx hb dX6_opened_7 rfl (lv_at hl 1 rfl) ?_
  refine va_get (D := (dC, dI)) (ci := 6) (v := .int (v 6)) (C := RX6) (T := TX6) (N := 7) hx hb hts inB_6 hown hE.1 hP 3 rfl rfl 4 (by decide) (hts _ k_270) (fun _ h9 => h9) rfl dX6_opened_8 ?_
  refine lv_iload_n hx hb dX6_opened_11 rfl (lv_at hl 0 rfl) ?_
  refine lv_iand hx hb dX6_opened_12 ?_
  refine lv_topi (fun t3 et3 => ?_)
  refine lv_if_eq (tgt := 21) hx hb dX6_opened_13 (by decide) (fun c4 => ?_) (fun c4 => ?_)
  · skip
    have zc4 : t3.toInt = 0 := by rw [fa_eq, show (0 : Int32).toInt = 0 from by decide] at c4; exact c4
    refine lv_aload_n hx hb dX6_opened_21 rfl (lv_at hl 1 rfl) ?_
    refine lv_dup hx hb dX6_opened_22 rfl ?_
    refine va_get (D := (dC, dI)) (ci := 6) (v := .int (v 6)) (C := RX6) (T := TX6) (N := 7) hx hb hts inB_6 hown hE.1 hP 3 rfl rfl 4 (by decide) (hts _ k_270) (fun _ h9 => h9) rfl dX6_opened_23 ?_
    refine lv_iload_n hx hb dX6_opened_26 rfl (lv_at hl 0 rfl) ?_
    refine lv_ior hx hb dX6_opened_27 ?_
    refine lv_topi (fun t5 et5 => ?_)
    refine va_put (D := (dC, dI)) (ci := 6) (v := .int t5) (ty := tyX6 4) (C := RX6) (T := TX6) (N := 7) hx hb hts inB_6 tyX6 tyX6_ok nmX6 hown hE.1 hP hD hS 3 rfl rfl 4 (by decide) (hts _ k_270) (fun _ h9 => h9) rfl (tyX6_ok 4 (by decide)) rfl rfl (Nat.le_of_ble_eq_true rfl) dX6_opened_28 (fun H locs hP hD hS => ?_)
    have hP : va_P (dC, dI) vwCl (XW cy x0 x (upd v 6 t5) f) H := hP
    have hD : va_D A (XW cy x0 x (upd v 6 t5) f) := hD
    refine lv_aload_n hx hb dX6_opened_31 rfl (lv_at hl 1 rfl) ?_
    refine va_get (D := (dC, dI)) (ci := 6) (v := .ref (x 0)) (C := RX6) (T := TX6) (N := 7) hx hb hts inB_6 hown hE.1 hP 3 rfl rfl 0 (by decide) (hts _ k_265) (fun _ h9 => h9) rfl dX6_opened_32 ?_
    refine csVv (n := 0) (rest := []) hx hb hml hown hts hE hP hD hS hA hF hT (sX_X9_advance_1 NF l dC dI cy x0 x  (upd v 6 t5) f (XI.upd (j := 6) (x := t5) hIv (rlo _) (rhi _)) ) k_699 k_559 k_560 k_102 k_561 (by decide +kernel) ⟨Nat.le_of_ble_eq_true rfl, Nat.le_of_ble_eq_true rfl⟩ 1 9 rfl rfl (rfl) hl.1 rfl (Nat.le_of_ble_eq_true rfl) dX6_opened_35 (fun u H locs hw hP hD hS => ?_)
    obtain ⟨hG6, hw⟩ := hw
    obtain ⟨v7, f8⟩ := u
    obtain ⟨kV_v7, kF_f8, hIv7, hk0_v7, hk1_v7, hk7_v7, hk8_v7, hk9_v7, hk10_v7, hk31_v7, hk32_v7⟩ := hw
    have hM_v7 : KV [2, 3, 4, 5, 6, 7, 8] v7 v := KV.tr kV_v7 (KV.up (j := 6) (x := t5) hM_v rfl) rfl
    have hA_f8 : KF [] f8 f := KF.tr kF_f8 hA_f rfl
    have hP : va_P (dC, dI) vwCl (XW cy x0 x v7 f8) H := hP
    have hD : va_D A (XW cy x0 x v7 f8) := hD
    have hq0_v7 : v7 0 = (v 0) := hk0_v7
    have hq1_v7 : v7 1 = (v 1) := hk1_v7
    have hq7_v7 : v7 7 = (v 7) := hk7_v7
    have hq8_v7 : v7 8 = (v 8) := hk8_v7
    have hq9_v7 : v7 9 = (v 9) := hk9_v7
    have hq10_v7 : v7 10 = (v 10) := hk10_v7
    have hq31_v7 : v7 31 = (v 31) := hk31_v7
    have hq32_v7 : v7 32 = (v 32) := hk32_v7
    refine lv_iconst (v := 1) hx hb dX6_opened_38 (by decide) ?_
    exact ret 1 (v7, f8) _ _ _ _ _ _ rfl ⟨(gsX_X6_opened_1_q0 et1 et2 et3 c4 et5 hG6), hM_v7, hA_f8, hIv7, hk0_v7, hk1_v7, hk9_v7, hk10_v7, hk31_v7, hk32_v7, (Or.inl rfl)⟩ hP hD hS dX6_opened_39 (Nat.le_refl _) (Nat.le_refl _)
  · skip
    have zc4 : ¬ (t3.toInt = 0) := by rw [fa_eq, show (0 : Int32).toInt = 0 from by decide] at c4; exact c4
    refine lv_aload_n hx hb dX6_opened_16 rfl (lv_at hl 1 rfl) ?_
    refine cbVi (n := 0) (rest := []) hx hb hml hown hts hE hP hD hS hA (sX_X6_refuse_1 NF l dC dI cy x0 x  v f hIv ) k_691 k_693 k_6 k_103 k_694 (by decide +kernel) ⟨Nat.le_of_ble_eq_true rfl, Nat.le_of_ble_eq_true rfl⟩ 3 6 rfl rfl (rfl) hl.1 rfl (Nat.le_of_ble_eq_true rfl) dX6_opened_17 (fun r9 u H locs hw hP hD hS => ?_)
    obtain ⟨hG10, hw⟩ := hw
    obtain ⟨v11, f12⟩ := u
    obtain ⟨kV_v11, kF_f12, hIv11, hk0_v11, hk1_v11, hk9_v11, hk10_v11, hk31_v11, hk32_v11, hw⟩ := hw
    have hM_v11 : KV [2, 3, 4, 5, 6, 7, 8] v11 v := KV.tr kV_v11 hM_v rfl
    have hA_f12 : KF [] f12 f := KF.tr kF_f12 hA_f rfl
    have hP : va_P (dC, dI) vwCl (XW cy x0 x v11 f12) H := hP
    have hD : va_D A (XW cy x0 x v11 f12) := hD
    have hq0_v11 : v11 0 = (v 0) := hk0_v11
    have hq1_v11 : v11 1 = (v 1) := hk1_v11
    have hq9_v11 : v11 9 = (v 9) := hk9_v11
    have hq10_v11 : v11 10 = (v 10) := hk10_v11
    have hq31_v11 : v11 31 = (v 31) := hk31_v11
    have hq32_v11 : v11 32 = (v 32) := hk32_v11
    rcases hw with ⟨g13⟩ | ⟨g13⟩
    · skip
      subst g13
      exact ret 1 (v11, f12) _ _ _ _ _ _ rfl ⟨(gsX_X6_opened_1_q1 et1 et2 et3 c4 hG10), hM_v11, hA_f12, hIv11, hk0_v11, hk1_v11, hk9_v11, hk10_v11, hk31_v11, hk32_v11, (Or.inl rfl)⟩ hP hD hS dX6_opened_20 (Nat.le_refl _) (Nat.le_refl _)
    · skip
      subst g13
      exact ret 0 (v11, f12) _ _ _ _ _ _ rfl ⟨(gsX_X6_opened_1_q2 et1 et2 et3 c4 hG10), hM_v11, hA_f12, hIv11, hk0_v11, hk1_v11, hk9_v11, hk10_v11, hk31_v11, hk32_v11, (Or.inr rfl)⟩ hP hD hS dX6_opened_20 (Nat.le_refl _) (Nat.le_refl _)
set_option maxHeartbeats 4000000 in
set_option maxRecDepth 100000 in
theorem sX_X4_add_1 (NF : Nat) (l : Launch) (dC : Nat → ClassId) (dI : Nat → Nat → Nat) (cy : Nat → ClassId) (x0 : Nat) (x : Nat → Nat) (p1 : Int32) (p2 : Int32) (v : Nat → Int32) (f : Nat → Nat → Int32) (hIv : XI v)  : ctV l (dC, dI) cy yX4_add cX4_add 3 1 60 0 0 ((Nat → Int32) × (Nat → Nat → Int32)) [.ref (x 6), .int p1, .int p2] (XW cy x0 x v f) (fun u => gsX_X4_add_1 NF p1 p2 v f = u ∧ KV [16] u.1 v ∧ KF [3, 4] u.2 f ∧ XI u.1 ∧ u.1 0 = v 0 ∧ u.1 1 = v 1 ∧ u.1 7 = v 7 ∧ u.1 8 = v 8 ∧ u.1 9 = v 9 ∧ u.1 10 = v 10 ∧ u.1 31 = v 31 ∧ u.1 32 = v 32) (fun u => XW cy x0 x u.1 u.2) := by
  refine ctV_of (by decide) (Nat.le_of_ble_eq_true rfl) (fun p e s m below meth c A ls Q hx hb hml hts hown hnm hE hP hD hA hl ret => ?_)
  have hM_v : KV [16] v v := fun _ _ => rfl
  have hA_f : KF [3, 4] f f := fun _ _ => rfl
  have hown : s.vm.findClass RX4 = some m.cls := hown
  have hS : va_S A s.heap s.heap [] := va_S.rf
  have hl : lv_has ls 3 [(0, .ref (x 6)), (1, .int p1), (2, .int p2)] := hl
  refine lv_aload_n hx hb dX4_add_0 rfl (lv_at hl 0 rfl) ?_
  refine va_get (D := (dC, dI)) (ci := 4) (v := .int (v 16)) (C := RX4) (T := TX4) (N := 6) hx hb hts inB_4 hown hE.1 hP 7 rfl rfl 4 (by decide) (hts _ k_182) (fun _ h9 => h9) rfl dX4_add_1 ?_
  have b16_v : 0 ≤ (v 16).toInt ∧ (v 16).toInt ≤ 300 := XI.b hIv 16 (by decide)
  refine lv_sipush (v := 300) hx hb dX4_add_4 (by decide) ?_
  refine lv_icmp_ge (tgt := 40) hx hb dX4_add_7 (by decide) (fun c1 => ?_) (fun c1 => ?_)
  · skip
    have zc1 : 300 ≤ (v 16).toInt := by rw [fa_le, show (300 : Int32).toInt = 300 from by decide] at c1; exact c1
    exact ret (v, f) _ _ _ _ _ _ ⟨(gsX_X4_add_1_q0 c1), hM_v, hA_f, hIv, rfl, rfl, rfl, rfl, rfl, rfl, rfl, rfl⟩ hP hD hS dX4_add_40 (Nat.le_refl _) (Nat.le_refl _)
  · skip
    have zc1 : ¬ (300 ≤ (v 16).toInt) := by rw [fa_le, show (300 : Int32).toInt = 300 from by decide] at c1; exact c1
    refine lv_aload_n hx hb dX4_add_10 rfl (lv_at hl 0 rfl) ?_
    refine va_get (D := (dC, dI)) (ci := 4) (v := .ref (x 7)) (C := RX4) (T := TX4) (N := 6) hx hb hts inB_4 hown hE.1 hP 7 rfl rfl 0 (by decide) (hts _ k_178) (fun _ h9 => h9) rfl dX4_add_11 ?_
    refine lv_aload_n hx hb dX4_add_14 rfl (lv_at hl 0 rfl) ?_
    refine va_get (D := (dC, dI)) (ci := 4) (v := .int (v 16)) (C := RX4) (T := TX4) (N := 6) hx hb hts inB_4 hown hE.1 hP 7 rfl rfl 4 (by decide) (hts _ k_182) (fun _ h9 => h9) rfl dX4_add_15 ?_
    refine lv_iload_n hx hb dX4_add_18 rfl (lv_at hl 1 rfl) ?_
    refine stI hx hb hE hP hD hS 8 rfl (vp_in_iff.mpr ⟨by omega, by omega⟩) rfl dX4_add_19 (fun H locs hP hD hS => ?_)
    obtain ⟨f2, ef2, hP, hD⟩ : ∃ fz9, fz9 = upd2 f 3 (upd (f 3) (v 16).toNatClampNeg p1) ∧ va_P (dC, dI) vwCl (XW cy x0 x v fz9) H ∧ va_D A (XW cy x0 x v fz9) := ⟨_, rfl, hP, hD⟩
    have hA_f2 : KF [3, 4] f2 f := by rw [ef2]; exact KF.up hA_f rfl
    refine lv_aload_n hx hb dX4_add_20 rfl (lv_at hl 0 rfl) ?_
    refine va_get (D := (dC, dI)) (ci := 4) (v := .ref (x 8)) (C := RX4) (T := TX4) (N := 6) hx hb hts inB_4 hown hE.1 hP 7 rfl rfl 1 (by decide) (hts _ k_179) (fun _ h9 => h9) rfl dX4_add_21 ?_
    refine lv_aload_n hx hb dX4_add_24 rfl (lv_at hl 0 rfl) ?_
    refine va_get (D := (dC, dI)) (ci := 4) (v := .int (v 16)) (C := RX4) (T := TX4) (N := 6) hx hb hts inB_4 hown hE.1 hP 7 rfl rfl 4 (by decide) (hts _ k_182) (fun _ h9 => h9) rfl dX4_add_25 ?_
    refine lv_iload_n hx hb dX4_add_28 rfl (lv_at hl 2 rfl) ?_
    refine stI hx hb hE hP hD hS 9 rfl (vp_in_iff.mpr ⟨by omega, by omega⟩) rfl dX4_add_29 (fun H locs hP hD hS => ?_)
    obtain ⟨f3, ef3, hP, hD⟩ : ∃ fz9, fz9 = upd2 f2 4 (upd (f2 4) (v 16).toNatClampNeg p2) ∧ va_P (dC, dI) vwCl (XW cy x0 x v fz9) H ∧ va_D A (XW cy x0 x v fz9) := ⟨_, rfl, hP, hD⟩
    have hA_f3 : KF [3, 4] f3 f := by rw [ef3]; exact KF.up hA_f2 rfl
    refine lv_aload_n hx hb dX4_add_30 rfl (lv_at hl 0 rfl) ?_
    refine lv_dup hx hb dX4_add_31 rfl ?_
    refine va_get (D := (dC, dI)) (ci := 4) (v := .int (v 16)) (C := RX4) (T := TX4) (N := 6) hx hb hts inB_4 hown hE.1 hP 7 rfl rfl 4 (by decide) (hts _ k_182) (fun _ h9 => h9) rfl dX4_add_32 ?_
    refine lv_iconst (v := 1) hx hb dX4_add_35 (by decide) ?_
    refine lv_iadd hx hb dX4_add_36 ?_
    refine lv_topi (fun t4 et4 => ?_)
    have rg5 := fb_rng (v 16)
    have zt4 : t4.toInt = (v 16).toInt + 1 := by rw [et4]; exact add_i rfl (by decide) (by omega) (by omega)
    refine va_put (D := (dC, dI)) (ci := 4) (v := .int t4) (ty := tyX4 4) (C := RX4) (T := TX4) (N := 6) hx hb hts inB_4 tyX4 tyX4_ok nmX4 hown hE.1 hP hD hS 7 rfl rfl 4 (by decide) (hts _ k_182) (fun _ h9 => h9) rfl (tyX4_ok 4 (by decide)) rfl rfl (Nat.le_of_ble_eq_true rfl) dX4_add_37 (fun H locs hP hD hS => ?_)
    have hP : va_P (dC, dI) vwCl (XW cy x0 x (upd v 16 t4) f3) H := hP
    have hD : va_D A (XW cy x0 x (upd v 16 t4) f3) := hD
    exact ret ((upd v 16 t4), f3) _ _ _ _ _ _ ⟨(gsX_X4_add_1_q1 c1 ef2 ef3 et4), (KV.up (j := 16) (x := t4) hM_v rfl), hA_f3, (XI.upd (j := 16) (x := t4) hIv (show (0 : Int) ≤ t4.toInt by omega) (show t4.toInt ≤ (300 : Int) by omega)), rfl, rfl, rfl, rfl, rfl, rfl, rfl, rfl⟩ hP hD hS dX4_add_40 (Nat.le_refl _) (Nat.le_refl _)
set_option maxHeartbeats 4000000 in
set_option maxRecDepth 100000 in
theorem sX_X6_unit_8 (NF : Nat) (l : Launch) (dC : Nat → ClassId) (dI : Nat → Nat → Nat) (cy : Nat → ClassId) (x0 : Nat) (x : Nat → Nat)  (v : Nat → Int32) (f : Nat → Nat → Int32) (hIv : XI v)  : ctIS l (dC, dI) cy yX6_unit cX6_unit 4 .boolean 7 191 0 0 ((Nat → Int32) × (Nat → Nat → Int32)) [.ref (x 2), .int 7] (XW cy x0 x v f) (fun r u => gsX_X6_unit_8 NF v f = (r, u) ∧ KV [2, 3, 4, 5, 7, 8, 16, 17] u.1 v ∧ KF [3, 4] u.2 f ∧ XI u.1 ∧ u.1 0 = v 0 ∧ u.1 1 = v 1 ∧ u.1 9 = v 9 ∧ u.1 10 = v 10 ∧ u.1 31 = v 31 ∧ u.1 32 = v 32 ∧ ((r = 1) ∨ (r = 0))) (fun u => XW cy x0 x u.1 u.2) := by
  refine ctIS_of (by decide) (Nat.le_of_ble_eq_true rfl) (fun p e s m below meth c A ls Q hx hb hml hts hown hE hF hT hP hD hA hl ret => ?_)
  have hM_v : KV [2, 3, 4, 5, 7, 8, 16, 17] v v := fun _ _ => rfl
  have hA_f : KF [3, 4] f f := fun _ _ => rfl
  have hown : s.vm.findClass RX6 = some m.cls := hown
  have hS : va_S A s.heap s.heap [] := va_S.rf
  have hl : lv_has ls 4 [(0, .ref (x 2)), (1, .int 7)] := hl
  refine lv_aload_n hx hb dX6_unit_0 rfl (lv_at hl 0 rfl) ?_
  refine va_get (D := (dC, dI)) (ci := 6) (v := .ref (x 0)) (C := RX6) (T := TX6) (N := 7) hx hb hts inB_6 hown hE.1 hP 3 rfl rfl 0 (by decide) (hts _ k_265) (fun _ h9 => h9) rfl dX6_unit_1 ?_
  refine va_getN (D := (dC, dI)) (ci := 9) (v := .int (v 2)) (C := RX9) (T := TX9) (N := 6) hx hb hts inB_9 hown hE.1 hP 1 rfl rfl 2 (by decide) (va_Nw.use rfl (hE.2 _ k_139)) (fun _ h9 => h9) rfl dX6_unit_4 ?_
  refine lv_istore_n (lv' := [(2, .int (v 2)), (0, .ref (x 2)), (1, .int 7)]) hx hb dX6_unit_7 rfl hl (by decide) rfl (fun ls hl => ?_)
  refine lv_iload_n hx hb dX6_unit_8 rfl (lv_at hl 0 rfl) ?_
  refine lv_iconst (v := 2) hx hb dX6_unit_9 (by decide) ?_
  refine lv_icmp_eq (tgt := 25) hx hb dX6_unit_10 (by decide) (fun c1 => ?_) (fun c1 => ?_)
  · skip
    have zc1 : (v 2).toInt = 2 := by rw [fa_eq, show (2 : Int32).toInt = 2 from by decide] at c1; exact c1
    refine lv_iconst (v := 1) hx hb dX6_unit_25 (by decide) ?_
    refine lv_goto (tgt := 30) hx hb dX6_unit_26 (by decide) ?_
    refine lv_istore_n (lv' := [(3, .int 1), (2, .int (v 2)), (0, .ref (x 2)), (1, .int 7)]) hx hb dX6_unit_30 rfl hl (by decide) rfl (fun ls hl => ?_)
    refine lv_iload_n hx hb dX6_unit_31 rfl (lv_at hl 0 rfl) ?_
    refine lv_if_ne (tgt := 41) hx hb dX6_unit_32 (by decide) (fun _ => ?_) (fun c0 => absurd c0 (by decide))
    refine lv_aload_n hx hb dX6_unit_41 rfl (lv_at hl 2 rfl) ?_
    refine va_get (D := (dC, dI)) (ci := 6) (v := .ref (x 3)) (C := RX6) (T := TX6) (N := 7) hx hb hts inB_6 hown hE.1 hP 3 rfl rfl 1 (by decide) (hts _ k_266) (fun _ h9 => h9) rfl dX6_unit_42 ?_
    refine va_getN (D := (dC, dI)) (ci := 7) (v := .ref (x 6)) (C := RX7) (T := TX7) (N := 10) hx hb hts inB_7 hown hE.1 hP 4 rfl rfl 2 (by decide) (va_Nw.use rfl (hE.2 _ k_210)) (fun _ h9 => h9) rfl dX6_unit_45 ?_
    refine va_getN (D := (dC, dI)) (ci := 4) (v := .int (v 17)) (C := RX4) (T := TX4) (N := 6) hx hb hts inB_4 hown hE.1 hP 7 rfl rfl 5 (by decide) (va_Nw.use rfl (hE.2 _ k_184)) (fun _ h9 => h9) rfl dX6_unit_48 ?_
    refine lv_bipush (v := 30) hx hb dX6_unit_51 (by decide) ?_
    refine lv_icmp_lt (tgt := 61) hx hb dX6_unit_53 (by decide) (fun c2 => ?_) (fun c2 => ?_)
    · skip
      have zc2 : (v 17).toInt < 30 := by rw [fa_lt, show (30 : Int32).toInt = 30 from by decide] at c2; exact c2
      refine lv_iload_n hx hb dX6_unit_61 rfl (lv_at hl 0 rfl) ?_
      refine lv_if_eq (tgt := 108) hx hb dX6_unit_62 (by decide) (fun c0 => absurd c0 (by decide)) (fun _ => ?_)
      refine lv_aload_n hx hb dX6_unit_65 rfl (lv_at hl 2 rfl) ?_
      refine va_get (D := (dC, dI)) (ci := 6) (v := .ref (x 3)) (C := RX6) (T := TX6) (N := 7) hx hb hts inB_6 hown hE.1 hP 3 rfl rfl 1 (by decide) (hts _ k_266) (fun _ h9 => h9) rfl dX6_unit_66 ?_
      refine va_getN (D := (dC, dI)) (ci := 7) (v := .ref (x 6)) (C := RX7) (T := TX7) (N := 10) hx hb hts inB_7 hown hE.1 hP 4 rfl rfl 2 (by decide) (va_Nw.use rfl (hE.2 _ k_210)) (fun _ h9 => h9) rfl dX6_unit_69 ?_
      refine lv_iload_n hx hb dX6_unit_72 rfl (lv_at hl 1 rfl) ?_
      refine lv_aload_n hx hb dX6_unit_73 rfl (lv_at hl 2 rfl) ?_
      refine va_get (D := (dC, dI)) (ci := 6) (v := .ref (x 0)) (C := RX6) (T := TX6) (N := 7) hx hb hts inB_6 hown hE.1 hP 3 rfl rfl 0 (by decide) (hts _ k_265) (fun _ h9 => h9) rfl dX6_unit_74 ?_
      refine va_getN (D := (dC, dI)) (ci := 9) (v := .int (v 5)) (C := RX9) (T := TX9) (N := 6) hx hb hts inB_9 hown hE.1 hP 1 rfl rfl 5 (by decide) (va_Nw.use rfl (hE.2 _ k_145)) (fun _ h9 => h9) rfl dX6_unit_77 ?_
      refine cbVv (n := 2) (rest := []) hx hb hml hown hts hE hP hD hS hA (sX_X4_add_1 NF l dC dI cy x0 x (v 2) (v 5) v f hIv ) k_748 k_749 k_750 k_105 k_751 (by decide +kernel) ⟨Nat.le_of_ble_eq_true rfl, Nat.le_of_ble_eq_true rfl⟩ 7 4 rfl rfl (rfl) hl.1 rfl (Nat.le_of_ble_eq_true rfl) dX6_unit_80 (fun u H locs hw hP hD hS => ?_)
      obtain ⟨hG3, hw⟩ := hw
      obtain ⟨v4, f5⟩ := u
      obtain ⟨kV_v4, kF_f5, hIv4, hk0_v4, hk1_v4, hk7_v4, hk8_v4, hk9_v4, hk10_v4, hk31_v4, hk32_v4⟩ := hw
      have hM_v4 : KV [2, 3, 4, 5, 7, 8, 16, 17] v4 v := KV.tr kV_v4 hM_v rfl
      have hA_f5 : KF [3, 4] f5 f := KF.tr kF_f5 hA_f rfl
      have hP : va_P (dC, dI) vwCl (XW cy x0 x v4 f5) H := hP
      have hD : va_D A (XW cy x0 x v4 f5) := hD
      have hq0_v4 : v4 0 = (v 0) := hk0_v4
      have hq1_v4 : v4 1 = (v 1) := hk1_v4
      have hq7_v4 : v4 7 = (v 7) := hk7_v4
      have hq8_v4 : v4 8 = (v 8) := hk8_v4
      have hq9_v4 : v4 9 = (v 9) := hk9_v4
      have hq10_v4 : v4 10 = (v 10) := hk10_v4
      have hq31_v4 : v4 31 = (v 31) := hk31_v4
      have hq32_v4 : v4 32 = (v 32) := hk32_v4
      refine lv_aload_n hx hb dX6_unit_83 rfl (lv_at hl 2 rfl) ?_
      refine va_get (D := (dC, dI)) (ci := 6) (v := .ref (x 3)) (C := RX6) (T := TX6) (N := 7) hx hb hts inB_6 hown hE.1 hP 3 rfl rfl 1 (by decide) (hts _ k_266) (fun _ h9 => h9) rfl dX6_unit_84 ?_
      refine va_getN (D := (dC, dI)) (ci := 7) (v := .ref (x 6)) (C := RX7) (T := TX7) (N := 10) hx hb hts inB_7 hown hE.1 hP 4 rfl rfl 2 (by decide) (va_Nw.use rfl (hE.2 _ k_210)) (fun _ h9 => h9) rfl dX6_unit_87 ?_
      refine lv_dup hx hb dX6_unit_90 rfl ?_
      refine va_getN (D := (dC, dI)) (ci := 4) (v := .int (v4 17)) (C := RX4) (T := TX4) (N := 6) hx hb hts inB_4 hown hE.1 hP 7 rfl rfl 5 (by decide) (va_Nw.use rfl (hE.2 _ k_184)) (fun _ h9 => h9) rfl dX6_unit_91 ?_
      refine lv_iconst (v := 1) hx hb dX6_unit_94 (by decide) ?_
      refine lv_iadd hx hb dX6_unit_95 ?_
      refine lv_topi (fun t6 et6 => ?_)
      refine va_putN (D := (dC, dI)) (ci := 4) (v := .int t6) (ty := tyX4 5) (C := RX4) (T := TX4) (N := 6) hx hb hts inB_4 tyX4 tyX4_ok nmX4 hown hE.1 hP hD hS 7 rfl rfl 5 (by decide) (va_Nw.use rfl (hE.2 _ k_184)) (fun _ h9 => h9) rfl (tyX4_ok 5 (by decide)) rfl rfl (Nat.le_of_ble_eq_true rfl) dX6_unit_96 (fun H locs hP hD hS => ?_)
      have hP : va_P (dC, dI) vwCl (XW cy x0 x (upd v4 17 t6) f5) H := hP
      have hD : va_D A (XW cy x0 x (upd v4 17 t6) f5) := hD
      refine lv_aload_n hx hb dX6_unit_99 rfl (lv_at hl 2 rfl) ?_
      refine va_get (D := (dC, dI)) (ci := 6) (v := .ref (x 0)) (C := RX6) (T := TX6) (N := 7) hx hb hts inB_6 hown hE.1 hP 3 rfl rfl 0 (by decide) (hts _ k_265) (fun _ h9 => h9) rfl dX6_unit_100 ?_
      refine csVv (n := 0) (rest := []) hx hb hml hown hts hE hP hD hS hA hF hT (sX_X9_advance_1 NF l dC dI cy x0 x  (upd v4 17 t6) f5 (XI.upd (j := 17) (x := t6) hIv4 (rlo _) (rhi _)) ) k_699 k_559 k_560 k_102 k_561 (by decide +kernel) ⟨Nat.le_of_ble_eq_true rfl, Nat.le_of_ble_eq_true rfl⟩ 1 9 rfl rfl (rfl) hl.1 rfl (Nat.le_of_ble_eq_true rfl) dX6_unit_103 (fun u H locs hw hP hD hS => ?_)
      obtain ⟨hG7, hw⟩ := hw
      obtain ⟨v8, f9⟩ := u
      obtain ⟨kV_v8, kF_f9, hIv8, hk0_v8, hk1_v8, hk7_v8, hk8_v8, hk9_v8, hk10_v8, hk31_v8, hk32_v8⟩ := hw
      have hM_v8 : KV [2, 3, 4, 5, 7, 8, 16, 17] v8 v := KV.tr kV_v8 (KV.up (j := 17) (x := t6) hM_v4 rfl) rfl
      have hA_f9 : KF [3, 4] f9 f := KF.tr kF_f9 hA_f5 rfl
      have hP : va_P (dC, dI) vwCl (XW cy x0 x v8 f9) H := hP
      have hD : va_D A (XW cy x0 x v8 f9) := hD
      have hq0_v8 : v8 0 = (v 0) := hk0_v8.trans hq0_v4
      have hq1_v8 : v8 1 = (v 1) := hk1_v8.trans hq1_v4
      have hq7_v8 : v8 7 = (v 7) := hk7_v8.trans hq7_v4
      have hq8_v8 : v8 8 = (v 8) := hk8_v8.trans hq8_v4
      have hq9_v8 : v8 9 = (v 9) := hk9_v8.trans hq9_v4
      have hq10_v8 : v8 10 = (v 10) := hk10_v8.trans hq10_v4
      have hq31_v8 : v8 31 = (v 31) := hk31_v8.trans hq31_v4
      have hq32_v8 : v8 32 = (v 32) := hk32_v8.trans hq32_v4
      refine lv_iconst (v := 1) hx hb dX6_unit_106 (by decide) ?_
      exact ret 1 (v8, f9) _ _ _ _ _ _ rfl ⟨(gsX_X6_unit_8_q0 c1 c2 hG3 et6 hG7), hM_v8, hA_f9, hIv8, (hk0_v8.trans hk0_v4), (hk1_v8.trans hk1_v4), (hk9_v8.trans hk9_v4), (hk10_v8.trans hk10_v4), (hk31_v8.trans hk31_v4), (hk32_v8.trans hk32_v4), (Or.inl rfl)⟩ hP hD hS dX6_unit_107 (Nat.le_refl _) (Nat.le_refl _)
    · skip
      have zc2 : ¬ ((v 17).toInt < 30) := by rw [fa_lt, show (30 : Int32).toInt = 30 from by decide] at c2; exact c2
      refine lv_aload_n hx hb dX6_unit_56 rfl (lv_at hl 2 rfl) ?_
      refine cbVi (n := 0) (rest := []) hx hb hml hown hts hE hP hD hS hA (sX_X6_refuse_1 NF l dC dI cy x0 x  v f hIv ) k_691 k_693 k_6 k_103 k_694 (by decide +kernel) ⟨Nat.le_of_ble_eq_true rfl, Nat.le_of_ble_eq_true rfl⟩ 3 6 rfl rfl (rfl) hl.1 rfl (Nat.le_of_ble_eq_true rfl) dX6_unit_57 (fun r10 u H locs hw hP hD hS => ?_)
      obtain ⟨hG11, hw⟩ := hw
      obtain ⟨v12, f13⟩ := u
      obtain ⟨kV_v12, kF_f13, hIv12, hk0_v12, hk1_v12, hk9_v12, hk10_v12, hk31_v12, hk32_v12, hw⟩ := hw
      have hM_v12 : KV [2, 3, 4, 5, 7, 8, 16, 17] v12 v := KV.tr kV_v12 hM_v rfl
      have hA_f13 : KF [3, 4] f13 f := KF.tr kF_f13 hA_f rfl
      have hP : va_P (dC, dI) vwCl (XW cy x0 x v12 f13) H := hP
      have hD : va_D A (XW cy x0 x v12 f13) := hD
      have hq0_v12 : v12 0 = (v 0) := hk0_v12
      have hq1_v12 : v12 1 = (v 1) := hk1_v12
      have hq9_v12 : v12 9 = (v 9) := hk9_v12
      have hq10_v12 : v12 10 = (v 10) := hk10_v12
      have hq31_v12 : v12 31 = (v 31) := hk31_v12
      have hq32_v12 : v12 32 = (v 32) := hk32_v12
      rcases hw with ⟨g14⟩ | ⟨g14⟩
      · skip
        subst g14
        exact ret 1 (v12, f13) _ _ _ _ _ _ rfl ⟨(gsX_X6_unit_8_q1 c1 c2 hG11), hM_v12, hA_f13, hIv12, hk0_v12, hk1_v12, hk9_v12, hk10_v12, hk31_v12, hk32_v12, (Or.inl rfl)⟩ hP hD hS dX6_unit_60 (Nat.le_refl _) (Nat.le_refl _)
      · skip
        subst g14
        exact ret 0 (v12, f13) _ _ _ _ _ _ rfl ⟨(gsX_X6_unit_8_q2 c1 c2 hG11), hM_v12, hA_f13, hIv12, hk0_v12, hk1_v12, hk9_v12, hk10_v12, hk31_v12, hk32_v12, (Or.inr rfl)⟩ hP hD hS dX6_unit_60 (Nat.le_refl _) (Nat.le_refl _)
  · skip
    have zc1 : ¬ ((v 2).toInt = 2) := by rw [fa_eq, show (2 : Int32).toInt = 2 from by decide] at c1; exact c1
    refine lv_iload_n hx hb dX6_unit_13 rfl (lv_at hl 0 rfl) ?_
    refine lv_bipush (v := 116) hx hb dX6_unit_14 (by decide) ?_
    refine lv_icmp_lt (tgt := 29) hx hb dX6_unit_16 (by decide) (fun c15 => ?_) (fun c15 => ?_)
    · skip
      have zc15 : (v 2).toInt < 116 := by rw [fa_lt, show (116 : Int32).toInt = 116 from by decide] at c15; exact c15
      refine lv_iconst (v := 0) hx hb dX6_unit_29 (by decide) ?_
      refine lv_istore_n (lv' := [(3, .int 0), (2, .int (v 2)), (0, .ref (x 2)), (1, .int 7)]) hx hb dX6_unit_30 rfl hl (by decide) rfl (fun ls hl => ?_)
      refine lv_iload_n hx hb dX6_unit_31 rfl (lv_at hl 0 rfl) ?_
      refine lv_if_ne (tgt := 41) hx hb dX6_unit_32 (by decide) (fun c0 => absurd (by decide) c0) (fun _ => ?_)
      refine lv_iload_n hx hb dX6_unit_35 rfl (lv_at hl 1 rfl) ?_
      refine lv_bipush (v := 40) hx hb dX6_unit_36 (by decide) ?_
      refine lv_icmp_ne (tgt := 56) hx hb dX6_unit_38 (by decide) (fun c16 => ?_) (fun c16 => ?_)
      · skip
        have zc16 : ¬ ((v 2).toInt = 40) := by rw [fa_eq, show (40 : Int32).toInt = 40 from by decide] at c16; exact c16
        refine lv_aload_n hx hb dX6_unit_56 rfl (lv_at hl 2 rfl) ?_
        refine cbVi (n := 0) (rest := []) hx hb hml hown hts hE hP hD hS hA (sX_X6_refuse_1 NF l dC dI cy x0 x  v f hIv ) k_691 k_693 k_6 k_103 k_694 (by decide +kernel) ⟨Nat.le_of_ble_eq_true rfl, Nat.le_of_ble_eq_true rfl⟩ 3 6 rfl rfl (rfl) hl.1 rfl (Nat.le_of_ble_eq_true rfl) dX6_unit_57 (fun r17 u H locs hw hP hD hS => ?_)
        obtain ⟨hG18, hw⟩ := hw
        obtain ⟨v19, f20⟩ := u
        obtain ⟨kV_v19, kF_f20, hIv19, hk0_v19, hk1_v19, hk9_v19, hk10_v19, hk31_v19, hk32_v19, hw⟩ := hw
        have hM_v19 : KV [2, 3, 4, 5, 7, 8, 16, 17] v19 v := KV.tr kV_v19 hM_v rfl
        have hA_f20 : KF [3, 4] f20 f := KF.tr kF_f20 hA_f rfl
        have hP : va_P (dC, dI) vwCl (XW cy x0 x v19 f20) H := hP
        have hD : va_D A (XW cy x0 x v19 f20) := hD
        have hq0_v19 : v19 0 = (v 0) := hk0_v19
        have hq1_v19 : v19 1 = (v 1) := hk1_v19
        have hq9_v19 : v19 9 = (v 9) := hk9_v19
        have hq10_v19 : v19 10 = (v 10) := hk10_v19
        have hq31_v19 : v19 31 = (v 31) := hk31_v19
        have hq32_v19 : v19 32 = (v 32) := hk32_v19
        rcases hw with ⟨g21⟩ | ⟨g21⟩
        · skip
          subst g21
          exact ret 1 (v19, f20) _ _ _ _ _ _ rfl ⟨(gsX_X6_unit_8_q3 c1 c15 c16 hG18), hM_v19, hA_f20, hIv19, hk0_v19, hk1_v19, hk9_v19, hk10_v19, hk31_v19, hk32_v19, (Or.inl rfl)⟩ hP hD hS dX6_unit_60 (Nat.le_refl _) (Nat.le_refl _)
        · skip
          subst g21
          exact ret 0 (v19, f20) _ _ _ _ _ _ rfl ⟨(gsX_X6_unit_8_q4 c1 c15 c16 hG18), hM_v19, hA_f20, hIv19, hk0_v19, hk1_v19, hk9_v19, hk10_v19, hk31_v19, hk32_v19, (Or.inr rfl)⟩ hP hD hS dX6_unit_60 (Nat.le_refl _) (Nat.le_refl _)
      · skip
        have zc16 : (v 2).toInt = 40 := by rw [fa_eq, show (40 : Int32).toInt = 40 from by decide] at c16; exact c16
        refine lv_aload_n hx hb dX6_unit_41 rfl (lv_at hl 2 rfl) ?_
        refine va_get (D := (dC, dI)) (ci := 6) (v := .ref (x 3)) (C := RX6) (T := TX6) (N := 7) hx hb hts inB_6 hown hE.1 hP 3 rfl rfl 1 (by decide) (hts _ k_266) (fun _ h9 => h9) rfl dX6_unit_42 ?_
        refine va_getN (D := (dC, dI)) (ci := 7) (v := .ref (x 6)) (C := RX7) (T := TX7) (N := 10) hx hb hts inB_7 hown hE.1 hP 4 rfl rfl 2 (by decide) (va_Nw.use rfl (hE.2 _ k_210)) (fun _ h9 => h9) rfl dX6_unit_45 ?_
        refine va_getN (D := (dC, dI)) (ci := 4) (v := .int (v 17)) (C := RX4) (T := TX4) (N := 6) hx hb hts inB_4 hown hE.1 hP 7 rfl rfl 5 (by decide) (va_Nw.use rfl (hE.2 _ k_184)) (fun _ h9 => h9) rfl dX6_unit_48 ?_
        refine lv_bipush (v := 30) hx hb dX6_unit_51 (by decide) ?_
        refine lv_icmp_lt (tgt := 61) hx hb dX6_unit_53 (by decide) (fun c22 => ?_) (fun c22 => ?_)
        · skip
          have zc22 : (v 17).toInt < 30 := by rw [fa_lt, show (30 : Int32).toInt = 30 from by decide] at c22; exact c22
          refine lv_iload_n hx hb dX6_unit_61 rfl (lv_at hl 0 rfl) ?_
          refine lv_if_eq (tgt := 108) hx hb dX6_unit_62 (by decide) (fun _ => ?_) (fun c0 => absurd (by decide) c0)
          refine lv_iload_n hx hb dX6_unit_108 rfl (lv_at hl 3 rfl) ?_
          refine lv_bipush (v := 7) hx hb dX6_unit_109 (by decide) ?_
          refine lv_icmp_lt (tgt := 119) hx hb dX6_unit_111 (by decide) (fun c0 => absurd c0 (by decide)) (fun _ => ?_)
          refine lv_aload_n hx hb dX6_unit_114 rfl (lv_at hl 2 rfl) ?_
          refine cbVi (n := 0) (rest := []) hx hb hml hown hts hE hP hD hS hA (sX_X6_refuse_1 NF l dC dI cy x0 x  v f hIv ) k_691 k_693 k_6 k_103 k_694 (by decide +kernel) ⟨Nat.le_of_ble_eq_true rfl, Nat.le_of_ble_eq_true rfl⟩ 3 6 rfl rfl (rfl) hl.1 rfl (Nat.le_of_ble_eq_true rfl) dX6_unit_115 (fun r23 u H locs hw hP hD hS => ?_)
          obtain ⟨hG24, hw⟩ := hw
          obtain ⟨v25, f26⟩ := u
          obtain ⟨kV_v25, kF_f26, hIv25, hk0_v25, hk1_v25, hk9_v25, hk10_v25, hk31_v25, hk32_v25, hw⟩ := hw
          have hM_v25 : KV [2, 3, 4, 5, 7, 8, 16, 17] v25 v := KV.tr kV_v25 hM_v rfl
          have hA_f26 : KF [3, 4] f26 f := KF.tr kF_f26 hA_f rfl
          have hP : va_P (dC, dI) vwCl (XW cy x0 x v25 f26) H := hP
          have hD : va_D A (XW cy x0 x v25 f26) := hD
          have hq0_v25 : v25 0 = (v 0) := hk0_v25
          have hq1_v25 : v25 1 = (v 1) := hk1_v25
          have hq9_v25 : v25 9 = (v 9) := hk9_v25
          have hq10_v25 : v25 10 = (v 10) := hk10_v25
          have hq31_v25 : v25 31 = (v 31) := hk31_v25
          have hq32_v25 : v25 32 = (v 32) := hk32_v25
          rcases hw with ⟨g27⟩ | ⟨g27⟩
          · skip
            subst g27
            exact ret 1 (v25, f26) _ _ _ _ _ _ rfl ⟨(gsX_X6_unit_8_q5 c1 c15 c16 c22 hG24), hM_v25, hA_f26, hIv25, hk0_v25, hk1_v25, hk9_v25, hk10_v25, hk31_v25, hk32_v25, (Or.inl rfl)⟩ hP hD hS dX6_unit_118 (Nat.le_refl _) (Nat.le_refl _)
          · skip
            subst g27
            exact ret 0 (v25, f26) _ _ _ _ _ _ rfl ⟨(gsX_X6_unit_8_q6 c1 c15 c16 c22 hG24), hM_v25, hA_f26, hIv25, hk0_v25, hk1_v25, hk9_v25, hk10_v25, hk31_v25, hk32_v25, (Or.inr rfl)⟩ hP hD hS dX6_unit_118 (Nat.le_refl _) (Nat.le_refl _)
        · skip
          have zc22 : ¬ ((v 17).toInt < 30) := by rw [fa_lt, show (30 : Int32).toInt = 30 from by decide] at c22; exact c22
          refine lv_aload_n hx hb dX6_unit_56 rfl (lv_at hl 2 rfl) ?_
          refine cbVi (n := 0) (rest := []) hx hb hml hown hts hE hP hD hS hA (sX_X6_refuse_1 NF l dC dI cy x0 x  v f hIv ) k_691 k_693 k_6 k_103 k_694 (by decide +kernel) ⟨Nat.le_of_ble_eq_true rfl, Nat.le_of_ble_eq_true rfl⟩ 3 6 rfl rfl (rfl) hl.1 rfl (Nat.le_of_ble_eq_true rfl) dX6_unit_57 (fun r28 u H locs hw hP hD hS => ?_)
          obtain ⟨hG29, hw⟩ := hw
          obtain ⟨v30, f31⟩ := u
          obtain ⟨kV_v30, kF_f31, hIv30, hk0_v30, hk1_v30, hk9_v30, hk10_v30, hk31_v30, hk32_v30, hw⟩ := hw
          have hM_v30 : KV [2, 3, 4, 5, 7, 8, 16, 17] v30 v := KV.tr kV_v30 hM_v rfl
          have hA_f31 : KF [3, 4] f31 f := KF.tr kF_f31 hA_f rfl
          have hP : va_P (dC, dI) vwCl (XW cy x0 x v30 f31) H := hP
          have hD : va_D A (XW cy x0 x v30 f31) := hD
          have hq0_v30 : v30 0 = (v 0) := hk0_v30
          have hq1_v30 : v30 1 = (v 1) := hk1_v30
          have hq9_v30 : v30 9 = (v 9) := hk9_v30
          have hq10_v30 : v30 10 = (v 10) := hk10_v30
          have hq31_v30 : v30 31 = (v 31) := hk31_v30
          have hq32_v30 : v30 32 = (v 32) := hk32_v30
          rcases hw with ⟨g32⟩ | ⟨g32⟩
          · skip
            subst g32
            exact ret 1 (v30, f31) _ _ _ _ _ _ rfl ⟨(gsX_X6_unit_8_q7 c1 c15 c16 c22 hG29), hM_v30, hA_f31, hIv30, hk0_v30, hk1_v30, hk9_v30, hk10_v30, hk31_v30, hk32_v30, (Or.inl rfl)⟩ hP hD hS dX6_unit_60 (Nat.le_refl _) (Nat.le_refl _)
          · skip
            subst g32
            exact ret 0 (v30, f31) _ _ _ _ _ _ rfl ⟨(gsX_X6_unit_8_q8 c1 c15 c16 c22 hG29), hM_v30, hA_f31, hIv30, hk0_v30, hk1_v30, hk9_v30, hk10_v30, hk31_v30, hk32_v30, (Or.inr rfl)⟩ hP hD hS dX6_unit_60 (Nat.le_refl _) (Nat.le_refl _)
    · skip
      have zc15 : ¬ ((v 2).toInt < 116) := by rw [fa_lt, show (116 : Int32).toInt = 116 from by decide] at c15; exact c15
      refine lv_iload_n hx hb dX6_unit_19 rfl (lv_at hl 0 rfl) ?_
      refine lv_bipush (v := 121) hx hb dX6_unit_20 (by decide) ?_
      refine lv_icmp_gt (tgt := 29) hx hb dX6_unit_22 (by decide) (fun c33 => ?_) (fun c33 => ?_)
      · skip
        have zc33 : 121 < (v 2).toInt := by rw [fa_lt, show (121 : Int32).toInt = 121 from by decide] at c33; exact c33
        refine lv_iconst (v := 0) hx hb dX6_unit_29 (by decide) ?_
        refine lv_istore_n (lv' := [(3, .int 0), (2, .int (v 2)), (0, .ref (x 2)), (1, .int 7)]) hx hb dX6_unit_30 rfl hl (by decide) rfl (fun ls hl => ?_)
        refine lv_iload_n hx hb dX6_unit_31 rfl (lv_at hl 0 rfl) ?_
        refine lv_if_ne (tgt := 41) hx hb dX6_unit_32 (by decide) (fun c0 => absurd (by decide) c0) (fun _ => ?_)
        refine lv_iload_n hx hb dX6_unit_35 rfl (lv_at hl 1 rfl) ?_
        refine lv_bipush (v := 40) hx hb dX6_unit_36 (by decide) ?_
        refine lv_icmp_ne (tgt := 56) hx hb dX6_unit_38 (by decide) (fun c34 => ?_) (fun c34 => ?_)
        · skip
          have zc34 : ¬ ((v 2).toInt = 40) := by rw [fa_eq, show (40 : Int32).toInt = 40 from by decide] at c34; exact c34
          refine lv_aload_n hx hb dX6_unit_56 rfl (lv_at hl 2 rfl) ?_
          refine cbVi (n := 0) (rest := []) hx hb hml hown hts hE hP hD hS hA (sX_X6_refuse_1 NF l dC dI cy x0 x  v f hIv ) k_691 k_693 k_6 k_103 k_694 (by decide +kernel) ⟨Nat.le_of_ble_eq_true rfl, Nat.le_of_ble_eq_true rfl⟩ 3 6 rfl rfl (rfl) hl.1 rfl (Nat.le_of_ble_eq_true rfl) dX6_unit_57 (fun r35 u H locs hw hP hD hS => ?_)
          obtain ⟨hG36, hw⟩ := hw
          obtain ⟨v37, f38⟩ := u
          obtain ⟨kV_v37, kF_f38, hIv37, hk0_v37, hk1_v37, hk9_v37, hk10_v37, hk31_v37, hk32_v37, hw⟩ := hw
          have hM_v37 : KV [2, 3, 4, 5, 7, 8, 16, 17] v37 v := KV.tr kV_v37 hM_v rfl
          have hA_f38 : KF [3, 4] f38 f := KF.tr kF_f38 hA_f rfl
          have hP : va_P (dC, dI) vwCl (XW cy x0 x v37 f38) H := hP
          have hD : va_D A (XW cy x0 x v37 f38) := hD
          have hq0_v37 : v37 0 = (v 0) := hk0_v37
          have hq1_v37 : v37 1 = (v 1) := hk1_v37
          have hq9_v37 : v37 9 = (v 9) := hk9_v37
          have hq10_v37 : v37 10 = (v 10) := hk10_v37
          have hq31_v37 : v37 31 = (v 31) := hk31_v37
          have hq32_v37 : v37 32 = (v 32) := hk32_v37
          rcases hw with ⟨g39⟩ | ⟨g39⟩
          · skip
            subst g39
            exact ret 1 (v37, f38) _ _ _ _ _ _ rfl ⟨(gsX_X6_unit_8_q9 c1 c15 c33 c34 hG36), hM_v37, hA_f38, hIv37, hk0_v37, hk1_v37, hk9_v37, hk10_v37, hk31_v37, hk32_v37, (Or.inl rfl)⟩ hP hD hS dX6_unit_60 (Nat.le_refl _) (Nat.le_refl _)
          · skip
            subst g39
            exact ret 0 (v37, f38) _ _ _ _ _ _ rfl ⟨(gsX_X6_unit_8_q10 c1 c15 c33 c34 hG36), hM_v37, hA_f38, hIv37, hk0_v37, hk1_v37, hk9_v37, hk10_v37, hk31_v37, hk32_v37, (Or.inr rfl)⟩ hP hD hS dX6_unit_60 (Nat.le_refl _) (Nat.le_refl _)
        · skip
          have zc34 : (v 2).toInt = 40 := by rw [fa_eq, show (40 : Int32).toInt = 40 from by decide] at c34; exact c34
          refine lv_aload_n hx hb dX6_unit_41 rfl (lv_at hl 2 rfl) ?_
          refine va_get (D := (dC, dI)) (ci := 6) (v := .ref (x 3)) (C := RX6) (T := TX6) (N := 7) hx hb hts inB_6 hown hE.1 hP 3 rfl rfl 1 (by decide) (hts _ k_266) (fun _ h9 => h9) rfl dX6_unit_42 ?_
          refine va_getN (D := (dC, dI)) (ci := 7) (v := .ref (x 6)) (C := RX7) (T := TX7) (N := 10) hx hb hts inB_7 hown hE.1 hP 4 rfl rfl 2 (by decide) (va_Nw.use rfl (hE.2 _ k_210)) (fun _ h9 => h9) rfl dX6_unit_45 ?_
          refine va_getN (D := (dC, dI)) (ci := 4) (v := .int (v 17)) (C := RX4) (T := TX4) (N := 6) hx hb hts inB_4 hown hE.1 hP 7 rfl rfl 5 (by decide) (va_Nw.use rfl (hE.2 _ k_184)) (fun _ h9 => h9) rfl dX6_unit_48 ?_
          refine lv_bipush (v := 30) hx hb dX6_unit_51 (by decide) ?_
          refine lv_icmp_lt (tgt := 61) hx hb dX6_unit_53 (by decide) (fun c40 => ?_) (fun c40 => ?_)
          · skip
            have zc40 : (v 17).toInt < 30 := by rw [fa_lt, show (30 : Int32).toInt = 30 from by decide] at c40; exact c40
            refine lv_iload_n hx hb dX6_unit_61 rfl (lv_at hl 0 rfl) ?_
            refine lv_if_eq (tgt := 108) hx hb dX6_unit_62 (by decide) (fun _ => ?_) (fun c0 => absurd (by decide) c0)
            refine lv_iload_n hx hb dX6_unit_108 rfl (lv_at hl 3 rfl) ?_
            refine lv_bipush (v := 7) hx hb dX6_unit_109 (by decide) ?_
            refine lv_icmp_lt (tgt := 119) hx hb dX6_unit_111 (by decide) (fun c0 => absurd c0 (by decide)) (fun _ => ?_)
            refine lv_aload_n hx hb dX6_unit_114 rfl (lv_at hl 2 rfl) ?_
            refine cbVi (n := 0) (rest := []) hx hb hml hown hts hE hP hD hS hA (sX_X6_refuse_1 NF l dC dI cy x0 x  v f hIv ) k_691 k_693 k_6 k_103 k_694 (by decide +kernel) ⟨Nat.le_of_ble_eq_true rfl, Nat.le_of_ble_eq_true rfl⟩ 3 6 rfl rfl (rfl) hl.1 rfl (Nat.le_of_ble_eq_true rfl) dX6_unit_115 (fun r41 u H locs hw hP hD hS => ?_)
            obtain ⟨hG42, hw⟩ := hw
            obtain ⟨v43, f44⟩ := u
            obtain ⟨kV_v43, kF_f44, hIv43, hk0_v43, hk1_v43, hk9_v43, hk10_v43, hk31_v43, hk32_v43, hw⟩ := hw
            have hM_v43 : KV [2, 3, 4, 5, 7, 8, 16, 17] v43 v := KV.tr kV_v43 hM_v rfl
            have hA_f44 : KF [3, 4] f44 f := KF.tr kF_f44 hA_f rfl
            have hP : va_P (dC, dI) vwCl (XW cy x0 x v43 f44) H := hP
            have hD : va_D A (XW cy x0 x v43 f44) := hD
            have hq0_v43 : v43 0 = (v 0) := hk0_v43
            have hq1_v43 : v43 1 = (v 1) := hk1_v43
            have hq9_v43 : v43 9 = (v 9) := hk9_v43
            have hq10_v43 : v43 10 = (v 10) := hk10_v43
            have hq31_v43 : v43 31 = (v 31) := hk31_v43
            have hq32_v43 : v43 32 = (v 32) := hk32_v43
            rcases hw with ⟨g45⟩ | ⟨g45⟩
            · skip
              subst g45
              exact ret 1 (v43, f44) _ _ _ _ _ _ rfl ⟨(gsX_X6_unit_8_q11 c1 c15 c33 c34 c40 hG42), hM_v43, hA_f44, hIv43, hk0_v43, hk1_v43, hk9_v43, hk10_v43, hk31_v43, hk32_v43, (Or.inl rfl)⟩ hP hD hS dX6_unit_118 (Nat.le_refl _) (Nat.le_refl _)
            · skip
              subst g45
              exact ret 0 (v43, f44) _ _ _ _ _ _ rfl ⟨(gsX_X6_unit_8_q12 c1 c15 c33 c34 c40 hG42), hM_v43, hA_f44, hIv43, hk0_v43, hk1_v43, hk9_v43, hk10_v43, hk31_v43, hk32_v43, (Or.inr rfl)⟩ hP hD hS dX6_unit_118 (Nat.le_refl _) (Nat.le_refl _)
          · skip
            have zc40 : ¬ ((v 17).toInt < 30) := by rw [fa_lt, show (30 : Int32).toInt = 30 from by decide] at c40; exact c40
            refine lv_aload_n hx hb dX6_unit_56 rfl (lv_at hl 2 rfl) ?_
            refine cbVi (n := 0) (rest := []) hx hb hml hown hts hE hP hD hS hA (sX_X6_refuse_1 NF l dC dI cy x0 x  v f hIv ) k_691 k_693 k_6 k_103 k_694 (by decide +kernel) ⟨Nat.le_of_ble_eq_true rfl, Nat.le_of_ble_eq_true rfl⟩ 3 6 rfl rfl (rfl) hl.1 rfl (Nat.le_of_ble_eq_true rfl) dX6_unit_57 (fun r46 u H locs hw hP hD hS => ?_)
            obtain ⟨hG47, hw⟩ := hw
            obtain ⟨v48, f49⟩ := u
            obtain ⟨kV_v48, kF_f49, hIv48, hk0_v48, hk1_v48, hk9_v48, hk10_v48, hk31_v48, hk32_v48, hw⟩ := hw
            have hM_v48 : KV [2, 3, 4, 5, 7, 8, 16, 17] v48 v := KV.tr kV_v48 hM_v rfl
            have hA_f49 : KF [3, 4] f49 f := KF.tr kF_f49 hA_f rfl
            have hP : va_P (dC, dI) vwCl (XW cy x0 x v48 f49) H := hP
            have hD : va_D A (XW cy x0 x v48 f49) := hD
            have hq0_v48 : v48 0 = (v 0) := hk0_v48
            have hq1_v48 : v48 1 = (v 1) := hk1_v48
            have hq9_v48 : v48 9 = (v 9) := hk9_v48
            have hq10_v48 : v48 10 = (v 10) := hk10_v48
            have hq31_v48 : v48 31 = (v 31) := hk31_v48
            have hq32_v48 : v48 32 = (v 32) := hk32_v48
            rcases hw with ⟨g50⟩ | ⟨g50⟩
            · skip
              subst g50
              exact ret 1 (v48, f49) _ _ _ _ _ _ rfl ⟨(gsX_X6_unit_8_q13 c1 c15 c33 c34 c40 hG47), hM_v48, hA_f49, hIv48, hk0_v48, hk1_v48, hk9_v48, hk10_v48, hk31_v48, hk32_v48, (Or.inl rfl)⟩ hP hD hS dX6_unit_60 (Nat.le_refl _) (Nat.le_refl _)
            · skip
              subst g50
              exact ret 0 (v48, f49) _ _ _ _ _ _ rfl ⟨(gsX_X6_unit_8_q14 c1 c15 c33 c34 c40 hG47), hM_v48, hA_f49, hIv48, hk0_v48, hk1_v48, hk9_v48, hk10_v48, hk31_v48, hk32_v48, (Or.inr rfl)⟩ hP hD hS dX6_unit_60 (Nat.le_refl _) (Nat.le_refl _)
      · skip
        have zc33 : ¬ (121 < (v 2).toInt) := by rw [fa_lt, show (121 : Int32).toInt = 121 from by decide] at c33; exact c33
        refine lv_iconst (v := 1) hx hb dX6_unit_25 (by decide) ?_
        refine lv_goto (tgt := 30) hx hb dX6_unit_26 (by decide) ?_
        refine lv_istore_n (lv' := [(3, .int 1), (2, .int (v 2)), (0, .ref (x 2)), (1, .int 7)]) hx hb dX6_unit_30 rfl hl (by decide) rfl (fun ls hl => ?_)
        refine lv_iload_n hx hb dX6_unit_31 rfl (lv_at hl 0 rfl) ?_
        refine lv_if_ne (tgt := 41) hx hb dX6_unit_32 (by decide) (fun _ => ?_) (fun c0 => absurd c0 (by decide))
        refine lv_aload_n hx hb dX6_unit_41 rfl (lv_at hl 2 rfl) ?_
        refine va_get (D := (dC, dI)) (ci := 6) (v := .ref (x 3)) (C := RX6) (T := TX6) (N := 7) hx hb hts inB_6 hown hE.1 hP 3 rfl rfl 1 (by decide) (hts _ k_266) (fun _ h9 => h9) rfl dX6_unit_42 ?_
        refine va_getN (D := (dC, dI)) (ci := 7) (v := .ref (x 6)) (C := RX7) (T := TX7) (N := 10) hx hb hts inB_7 hown hE.1 hP 4 rfl rfl 2 (by decide) (va_Nw.use rfl (hE.2 _ k_210)) (fun _ h9 => h9) rfl dX6_unit_45 ?_
        refine va_getN (D := (dC, dI)) (ci := 4) (v := .int (v 17)) (C := RX4) (T := TX4) (N := 6) hx hb hts inB_4 hown hE.1 hP 7 rfl rfl 5 (by decide) (va_Nw.use rfl (hE.2 _ k_184)) (fun _ h9 => h9) rfl dX6_unit_48 ?_
        refine lv_bipush (v := 30) hx hb dX6_unit_51 (by decide) ?_
        refine lv_icmp_lt (tgt := 61) hx hb dX6_unit_53 (by decide) (fun c51 => ?_) (fun c51 => ?_)
        · skip
          have zc51 : (v 17).toInt < 30 := by rw [fa_lt, show (30 : Int32).toInt = 30 from by decide] at c51; exact c51
          refine lv_iload_n hx hb dX6_unit_61 rfl (lv_at hl 0 rfl) ?_
          refine lv_if_eq (tgt := 108) hx hb dX6_unit_62 (by decide) (fun c0 => absurd c0 (by decide)) (fun _ => ?_)
          refine lv_aload_n hx hb dX6_unit_65 rfl (lv_at hl 2 rfl) ?_
          refine va_get (D := (dC, dI)) (ci := 6) (v := .ref (x 3)) (C := RX6) (T := TX6) (N := 7) hx hb hts inB_6 hown hE.1 hP 3 rfl rfl 1 (by decide) (hts _ k_266) (fun _ h9 => h9) rfl dX6_unit_66 ?_
          refine va_getN (D := (dC, dI)) (ci := 7) (v := .ref (x 6)) (C := RX7) (T := TX7) (N := 10) hx hb hts inB_7 hown hE.1 hP 4 rfl rfl 2 (by decide) (va_Nw.use rfl (hE.2 _ k_210)) (fun _ h9 => h9) rfl dX6_unit_69 ?_
          refine lv_iload_n hx hb dX6_unit_72 rfl (lv_at hl 1 rfl) ?_
          refine lv_aload_n hx hb dX6_unit_73 rfl (lv_at hl 2 rfl) ?_
          refine va_get (D := (dC, dI)) (ci := 6) (v := .ref (x 0)) (C := RX6) (T := TX6) (N := 7) hx hb hts inB_6 hown hE.1 hP 3 rfl rfl 0 (by decide) (hts _ k_265) (fun _ h9 => h9) rfl dX6_unit_74 ?_
          refine va_getN (D := (dC, dI)) (ci := 9) (v := .int (v 5)) (C := RX9) (T := TX9) (N := 6) hx hb hts inB_9 hown hE.1 hP 1 rfl rfl 5 (by decide) (va_Nw.use rfl (hE.2 _ k_145)) (fun _ h9 => h9) rfl dX6_unit_77 ?_
          refine cbVv (n := 2) (rest := []) hx hb hml hown hts hE hP hD hS hA (sX_X4_add_1 NF l dC dI cy x0 x (v 2) (v 5) v f hIv ) k_748 k_749 k_750 k_105 k_751 (by decide +kernel) ⟨Nat.le_of_ble_eq_true rfl, Nat.le_of_ble_eq_true rfl⟩ 7 4 rfl rfl (rfl) hl.1 rfl (Nat.le_of_ble_eq_true rfl) dX6_unit_80 (fun u H locs hw hP hD hS => ?_)
          obtain ⟨hG52, hw⟩ := hw
          obtain ⟨v53, f54⟩ := u
          obtain ⟨kV_v53, kF_f54, hIv53, hk0_v53, hk1_v53, hk7_v53, hk8_v53, hk9_v53, hk10_v53, hk31_v53, hk32_v53⟩ := hw
          have hM_v53 : KV [2, 3, 4, 5, 7, 8, 16, 17] v53 v := KV.tr kV_v53 hM_v rfl
          have hA_f54 : KF [3, 4] f54 f := KF.tr kF_f54 hA_f rfl
          have hP : va_P (dC, dI) vwCl (XW cy x0 x v53 f54) H := hP
          have hD : va_D A (XW cy x0 x v53 f54) := hD
          have hq0_v53 : v53 0 = (v 0) := hk0_v53
          have hq1_v53 : v53 1 = (v 1) := hk1_v53
          have hq7_v53 : v53 7 = (v 7) := hk7_v53
          have hq8_v53 : v53 8 = (v 8) := hk8_v53
          have hq9_v53 : v53 9 = (v 9) := hk9_v53
          have hq10_v53 : v53 10 = (v 10) := hk10_v53
          have hq31_v53 : v53 31 = (v 31) := hk31_v53
          have hq32_v53 : v53 32 = (v 32) := hk32_v53
          refine lv_aload_n hx hb dX6_unit_83 rfl (lv_at hl 2 rfl) ?_
          refine va_get (D := (dC, dI)) (ci := 6) (v := .ref (x 3)) (C := RX6) (T := TX6) (N := 7) hx hb hts inB_6 hown hE.1 hP 3 rfl rfl 1 (by decide) (hts _ k_266) (fun _ h9 => h9) rfl dX6_unit_84 ?_
          refine va_getN (D := (dC, dI)) (ci := 7) (v := .ref (x 6)) (C := RX7) (T := TX7) (N := 10) hx hb hts inB_7 hown hE.1 hP 4 rfl rfl 2 (by decide) (va_Nw.use rfl (hE.2 _ k_210)) (fun _ h9 => h9) rfl dX6_unit_87 ?_
          refine lv_dup hx hb dX6_unit_90 rfl ?_
          refine va_getN (D := (dC, dI)) (ci := 4) (v := .int (v53 17)) (C := RX4) (T := TX4) (N := 6) hx hb hts inB_4 hown hE.1 hP 7 rfl rfl 5 (by decide) (va_Nw.use rfl (hE.2 _ k_184)) (fun _ h9 => h9) rfl dX6_unit_91 ?_
          refine lv_iconst (v := 1) hx hb dX6_unit_94 (by decide) ?_
          refine lv_iadd hx hb dX6_unit_95 ?_
          refine lv_topi (fun t55 et55 => ?_)
          refine va_putN (D := (dC, dI)) (ci := 4) (v := .int t55) (ty := tyX4 5) (C := RX4) (T := TX4) (N := 6) hx hb hts inB_4 tyX4 tyX4_ok nmX4 hown hE.1 hP hD hS 7 rfl rfl 5 (by decide) (va_Nw.use rfl (hE.2 _ k_184)) (fun _ h9 => h9) rfl (tyX4_ok 5 (by decide)) rfl rfl (Nat.le_of_ble_eq_true rfl) dX6_unit_96 (fun H locs hP hD hS => ?_)
          have hP : va_P (dC, dI) vwCl (XW cy x0 x (upd v53 17 t55) f54) H := hP
          have hD : va_D A (XW cy x0 x (upd v53 17 t55) f54) := hD
          refine lv_aload_n hx hb dX6_unit_99 rfl (lv_at hl 2 rfl) ?_
          refine va_get (D := (dC, dI)) (ci := 6) (v := .ref (x 0)) (C := RX6) (T := TX6) (N := 7) hx hb hts inB_6 hown hE.1 hP 3 rfl rfl 0 (by decide) (hts _ k_265) (fun _ h9 => h9) rfl dX6_unit_100 ?_
          refine csVv (n := 0) (rest := []) hx hb hml hown hts hE hP hD hS hA hF hT (sX_X9_advance_1 NF l dC dI cy x0 x  (upd v53 17 t55) f54 (XI.upd (j := 17) (x := t55) hIv53 (rlo _) (rhi _)) ) k_699 k_559 k_560 k_102 k_561 (by decide +kernel) ⟨Nat.le_of_ble_eq_true rfl, Nat.le_of_ble_eq_true rfl⟩ 1 9 rfl rfl (rfl) hl.1 rfl (Nat.le_of_ble_eq_true rfl) dX6_unit_103 (fun u H locs hw hP hD hS => ?_)
          obtain ⟨hG56, hw⟩ := hw
          obtain ⟨v57, f58⟩ := u
          obtain ⟨kV_v57, kF_f58, hIv57, hk0_v57, hk1_v57, hk7_v57, hk8_v57, hk9_v57, hk10_v57, hk31_v57, hk32_v57⟩ := hw
          have hM_v57 : KV [2, 3, 4, 5, 7, 8, 16, 17] v57 v := KV.tr kV_v57 (KV.up (j := 17) (x := t55) hM_v53 rfl) rfl
          have hA_f58 : KF [3, 4] f58 f := KF.tr kF_f58 hA_f54 rfl
          have hP : va_P (dC, dI) vwCl (XW cy x0 x v57 f58) H := hP
          have hD : va_D A (XW cy x0 x v57 f58) := hD
          have hq0_v57 : v57 0 = (v 0) := hk0_v57.trans hq0_v53
          have hq1_v57 : v57 1 = (v 1) := hk1_v57.trans hq1_v53
          have hq7_v57 : v57 7 = (v 7) := hk7_v57.trans hq7_v53
          have hq8_v57 : v57 8 = (v 8) := hk8_v57.trans hq8_v53
          have hq9_v57 : v57 9 = (v 9) := hk9_v57.trans hq9_v53
          have hq10_v57 : v57 10 = (v 10) := hk10_v57.trans hq10_v53
          have hq31_v57 : v57 31 = (v 31) := hk31_v57.trans hq31_v53
          have hq32_v57 : v57 32 = (v 32) := hk32_v57.trans hq32_v53
          refine lv_iconst (v := 1) hx hb dX6_unit_106 (by decide) ?_
          exact ret 1 (v57, f58) _ _ _ _ _ _ rfl ⟨(gsX_X6_unit_8_q15 c1 c15 c33 c51 hG52 et55 hG56), hM_v57, hA_f58, hIv57, (hk0_v57.trans hk0_v53), (hk1_v57.trans hk1_v53), (hk9_v57.trans hk9_v53), (hk10_v57.trans hk10_v53), (hk31_v57.trans hk31_v53), (hk32_v57.trans hk32_v53), (Or.inl rfl)⟩ hP hD hS dX6_unit_107 (Nat.le_refl _) (Nat.le_refl _)
        · skip
          have zc51 : ¬ ((v 17).toInt < 30) := by rw [fa_lt, show (30 : Int32).toInt = 30 from by decide] at c51; exact c51
          refine lv_aload_n hx hb dX6_unit_56 rfl (lv_at hl 2 rfl) ?_
          refine cbVi (n := 0) (rest := []) hx hb hml hown hts hE hP hD hS hA (sX_X6_refuse_1 NF l dC dI cy x0 x  v f hIv ) k_691 k_693 k_6 k_103 k_694 (by decide +kernel) ⟨Nat.le_of_ble_eq_true rfl, Nat.le_of_ble_eq_true rfl⟩ 3 6 rfl rfl (rfl) hl.1 rfl (Nat.le_of_ble_eq_true rfl) dX6_unit_57 (fun r59 u H locs hw hP hD hS => ?_)
          obtain ⟨hG60, hw⟩ := hw
          obtain ⟨v61, f62⟩ := u
          obtain ⟨kV_v61, kF_f62, hIv61, hk0_v61, hk1_v61, hk9_v61, hk10_v61, hk31_v61, hk32_v61, hw⟩ := hw
          have hM_v61 : KV [2, 3, 4, 5, 7, 8, 16, 17] v61 v := KV.tr kV_v61 hM_v rfl
          have hA_f62 : KF [3, 4] f62 f := KF.tr kF_f62 hA_f rfl
          have hP : va_P (dC, dI) vwCl (XW cy x0 x v61 f62) H := hP
          have hD : va_D A (XW cy x0 x v61 f62) := hD
          have hq0_v61 : v61 0 = (v 0) := hk0_v61
          have hq1_v61 : v61 1 = (v 1) := hk1_v61
          have hq9_v61 : v61 9 = (v 9) := hk9_v61
          have hq10_v61 : v61 10 = (v 10) := hk10_v61
          have hq31_v61 : v61 31 = (v 31) := hk31_v61
          have hq32_v61 : v61 32 = (v 32) := hk32_v61
          rcases hw with ⟨g63⟩ | ⟨g63⟩
          · skip
            subst g63
            exact ret 1 (v61, f62) _ _ _ _ _ _ rfl ⟨(gsX_X6_unit_8_q16 c1 c15 c33 c51 hG60), hM_v61, hA_f62, hIv61, hk0_v61, hk1_v61, hk9_v61, hk10_v61, hk31_v61, hk32_v61, (Or.inl rfl)⟩ hP hD hS dX6_unit_60 (Nat.le_refl _) (Nat.le_refl _)
          · skip
            subst g63
            exact ret 0 (v61, f62) _ _ _ _ _ _ rfl ⟨(gsX_X6_unit_8_q17 c1 c15 c33 c51 hG60), hM_v61, hA_f62, hIv61, hk0_v61, hk1_v61, hk9_v61, hk10_v61, hk31_v61, hk32_v61, (Or.inr rfl)⟩ hP hD hS dX6_unit_60 (Nat.le_refl _) (Nat.le_refl _)
set_option maxHeartbeats 4000000 in
set_option maxRecDepth 100000 in
theorem sX_X6_expression_48 (NF : Nat) (l : Launch) (dC : Nat → ClassId) (dI : Nat → Nat → Nat) (cy : Nat → ClassId) (x0 : Nat) (x : Nat → Nat)  (v : Nat → Int32) (f : Nat → Nat → Int32) (hIv : XI v)  : ctIS l (dC, dI) cy yX6_expression cX6_expression 6 .boolean 8 214 0 0 ((Nat → Int32) × (Nat → Nat → Int32)) [.ref (x 2), .int 5, .int 7] (XW cy x0 x v f) (fun r u => gsX_X6_expression_48 NF v f = (r, u) ∧ KV [2, 3, 4, 5, 7, 8, 16, 17] u.1 v ∧ KF [3, 4] u.2 f ∧ XI u.1 ∧ u.1 0 = v 0 ∧ u.1 1 = v 1 ∧ u.1 9 = v 9 ∧ u.1 10 = v 10 ∧ u.1 31 = v 31 ∧ u.1 32 = v 32 ∧ ((r = 1) ∨ (r = 0))) (fun u => XW cy x0 x u.1 u.2) := by
  refine ctIS_of (by decide) (Nat.le_of_ble_eq_true rfl) (fun p e s m below meth c A ls Q hx hb hml hts hown hE hF hT hP hD hA hl ret => ?_)
  have hM_v : KV [2, 3, 4, 5, 7, 8, 16, 17] v v := fun _ _ => rfl
  have hA_f : KF [3, 4] f f := fun _ _ => rfl
  have hown : s.vm.findClass RX6 = some m.cls := hown
  have hS : va_S A s.heap s.heap [] := va_S.rf
  have hl : lv_has ls 6 [(0, .ref (x 2)), (1, .int 5), (2, .int 7)] := hl
  refine lv_iload_n hx hb dX6_expression_0 rfl (lv_at hl 1 rfl) ?_
  refine lv_iconst (v := 5) hx hb dX6_expression_1 (by decide) ?_
  refine lv_icmp_lt (tgt := 11) hx hb dX6_expression_2 (by decide) (fun c0 => absurd c0 (by decide)) (fun _ => ?_)
  refine lv_aload_n hx hb dX6_expression_5 rfl (lv_at hl 0 rfl) ?_
  refine lv_iload_n hx hb dX6_expression_6 rfl (lv_at hl 2 rfl) ?_
  refine csVi (n := 1) (rest := []) hx hb hml hown hts hE hP hD hS hA hF hT (sX_X6_unit_8 NF l dC dI cy x0 x  v f hIv ) k_744 k_746 k_16 k_103 k_747 (by decide +kernel) ⟨Nat.le_of_ble_eq_true rfl, Nat.le_of_ble_eq_true rfl⟩ 3 6 rfl rfl (rfl) hl.1 rfl (Nat.le_of_ble_eq_true rfl) dX6_expression_7 (fun r1 u H locs hw hP hD hS => ?_)
  obtain ⟨hG2, hw⟩ := hw
  obtain ⟨v3, f4⟩ := u
  obtain ⟨kV_v3, kF_f4, hIv3, hk0_v3, hk1_v3, hk9_v3, hk10_v3, hk31_v3, hk32_v3, hw⟩ := hw
  have hM_v3 : KV [2, 3, 4, 5, 7, 8, 16, 17] v3 v := KV.tr kV_v3 hM_v rfl
  have hA_f4 : KF [3, 4] f4 f := KF.tr kF_f4 hA_f rfl
  have hP : va_P (dC, dI) vwCl (XW cy x0 x v3 f4) H := hP
  have hD : va_D A (XW cy x0 x v3 f4) := hD
  have hq0_v3 : v3 0 = (v 0) := hk0_v3
  have hq1_v3 : v3 1 = (v 1) := hk1_v3
  have hq9_v3 : v3 9 = (v 9) := hk9_v3
  have hq10_v3 : v3 10 = (v 10) := hk10_v3
  have hq31_v3 : v3 31 = (v 31) := hk31_v3
  have hq32_v3 : v3 32 = (v 32) := hk32_v3
  rcases hw with ⟨g5⟩ | ⟨g5⟩
  · skip
    subst g5
    exact ret 1 (v3, f4) _ _ _ _ _ _ rfl ⟨(gsX_X6_expression_48_q0 hG2), hM_v3, hA_f4, hIv3, hk0_v3, hk1_v3, hk9_v3, hk10_v3, hk31_v3, hk32_v3, (Or.inl rfl)⟩ hP hD hS dX6_expression_10 (Nat.le_refl _) (Nat.le_refl _)
  · skip
    subst g5
    exact ret 0 (v3, f4) _ _ _ _ _ _ rfl ⟨(gsX_X6_expression_48_q1 hG2), hM_v3, hA_f4, hIv3, hk0_v3, hk1_v3, hk9_v3, hk10_v3, hk31_v3, hk32_v3, (Or.inr rfl)⟩ hP hD hS dX6_expression_10 (Nat.le_refl _) (Nat.le_refl _)
set_option maxHeartbeats 4000000 in
set_option maxRecDepth 100000 in
theorem sX_X6_joins_1 (NF : Nat) (l : Launch) (dC : Nat → ClassId) (dI : Nat → Nat → Nat) (cy : Nat → ClassId) (x0 : Nat) (x : Nat → Nat) (p0 : Int32) (p1 : Int32) (v : Nat → Int32) (f : Nat → Nat → Int32) (hIv : XI v)  : ctI l (dC, dI) cy yX6_joins cX6_joins 2 .boolean 1 60 0 0 Unit [.int p0, .int p1] (XW cy x0 x v f) (fun r u => gsX_X6_joins_1 NF p0 p1 v f = r ∧ ((r = 1) ∨ (r = 0))) (fun u => XW cy x0 x v f) := by
  refine ctI_of (by decide) (Nat.le_of_ble_eq_true rfl) (fun p e s m below meth c A ls Q hx hb hml hts hown hE hP hD hA hl ret => ?_)
  have hown : s.vm.findClass RX6 = some m.cls := hown
  have hS : va_S A s.heap s.heap [] := va_S.rf
  have hl : lv_has ls 2 [(0, .int p0), (1, .int p1)] := hl
  refine lv_iload_n hx hb dX6_joins_0 rfl (lv_at hl 0 rfl) ?_
  by_cases c1 : p0 = 0
  · skip
    refine lv_tableIn (off := 35) (tgt := 36) hx hb dX6_joins_1 (by rw [c1]; decide) (by rw [c1]; decide) (by rw [c1]; decide) (by decide) ?_
    have zc1 : p0.toInt = 0 := by rw [fa_eq, show (0 : Int32).toInt = 0 from by decide] at c1; exact c1
    refine lv_iload_n hx hb dX6_joins_36 rfl (lv_at hl 1 rfl) ?_
    refine lv_bipush (v := 113) hx hb dX6_joins_37 (by decide) ?_
    refine lv_icmp_ne (tgt := 46) hx hb dX6_joins_39 (by decide) (fun c2 => ?_) (fun c2 => ?_)
    · skip
      have zc2 : ¬ (p1.toInt = 113) := by rw [fa_eq, show (113 : Int32).toInt = 113 from by decide] at c2; exact c2
      refine lv_iconst (v := 0) hx hb dX6_joins_46 (by decide) ?_
      exact ret 0 () _ _ _ _ _ _ rfl ⟨(gsX_X6_joins_1_q0 c1 c2), (Or.inr rfl)⟩ hP hD hS dX6_joins_47 (Nat.le_refl _) (Nat.le_refl _)
    · skip
      have zc2 : p1.toInt = 113 := by rw [fa_eq, show (113 : Int32).toInt = 113 from by decide] at c2; exact c2
      refine lv_iconst (v := 1) hx hb dX6_joins_42 (by decide) ?_
      refine lv_goto (tgt := 47) hx hb dX6_joins_43 (by decide) ?_
      exact ret 1 () _ _ _ _ _ _ rfl ⟨(gsX_X6_joins_1_q1 c1 c2), (Or.inl rfl)⟩ hP hD hS dX6_joins_47 (Nat.le_refl _) (Nat.le_refl _)
  · skip
    have zc1 : ¬ (p0.toInt = 0) := by rw [fa_eq, show (0 : Int32).toInt = 0 from by decide] at c1; exact c1
    by_cases c3 : p0 = 1
    · skip
      refine lv_tableIn (off := 47) (tgt := 48) hx hb dX6_joins_1 (by rw [c3]; decide) (by rw [c3]; decide) (by rw [c3]; decide) (by decide) ?_
      have zc3 : p0.toInt = 1 := by rw [fa_eq, show (1 : Int32).toInt = 1 from by decide] at c3; exact c3
      refine lv_iload_n hx hb dX6_joins_48 rfl (lv_at hl 1 rfl) ?_
      refine lv_bipush (v := 114) hx hb dX6_joins_49 (by decide) ?_
      refine lv_icmp_ne (tgt := 58) hx hb dX6_joins_51 (by decide) (fun c4 => ?_) (fun c4 => ?_)
      · skip
        have zc4 : ¬ (p1.toInt = 114) := by rw [fa_eq, show (114 : Int32).toInt = 114 from by decide] at c4; exact c4
        refine lv_iconst (v := 0) hx hb dX6_joins_58 (by decide) ?_
        exact ret 0 () _ _ _ _ _ _ rfl ⟨(gsX_X6_joins_1_q2 c1 c3 c4), (Or.inr rfl)⟩ hP hD hS dX6_joins_59 (Nat.le_refl _) (Nat.le_refl _)
      · skip
        have zc4 : p1.toInt = 114 := by rw [fa_eq, show (114 : Int32).toInt = 114 from by decide] at c4; exact c4
        refine lv_iconst (v := 1) hx hb dX6_joins_54 (by decide) ?_
        refine lv_goto (tgt := 59) hx hb dX6_joins_55 (by decide) ?_
        exact ret 1 () _ _ _ _ _ _ rfl ⟨(gsX_X6_joins_1_q3 c1 c3 c4), (Or.inl rfl)⟩ hP hD hS dX6_joins_59 (Nat.le_refl _) (Nat.le_refl _)
    · skip
      have zc3 : ¬ (p0.toInt = 1) := by rw [fa_eq, show (1 : Int32).toInt = 1 from by decide] at c3; exact c3
      by_cases c5 : p0 = 2
      · skip
        refine lv_tableIn (off := 59) (tgt := 60) hx hb dX6_joins_1 (by rw [c5]; decide) (by rw [c5]; decide) (by rw [c5]; decide) (by decide) ?_
        have zc5 : p0.toInt = 2 := by rw [fa_eq, show (2 : Int32).toInt = 2 from by decide] at c5; exact c5
        refine lv_iload_n hx hb dX6_joins_60 rfl (lv_at hl 1 rfl) ?_
        refine lv_bipush (v := 60) hx hb dX6_joins_61 (by decide) ?_
        refine lv_icmp_eq (tgt := 78) hx hb dX6_joins_63 (by decide) (fun c6 => ?_) (fun c6 => ?_)
        · skip
          have zc6 : p1.toInt = 60 := by rw [fa_eq, show (60 : Int32).toInt = 60 from by decide] at c6; exact c6
          refine lv_iconst (v := 1) hx hb dX6_joins_78 (by decide) ?_
          refine lv_goto (tgt := 83) hx hb dX6_joins_79 (by decide) ?_
          exact ret 1 () _ _ _ _ _ _ rfl ⟨(gsX_X6_joins_1_q4 c1 c3 c5 c6), (Or.inl rfl)⟩ hP hD hS dX6_joins_83 (Nat.le_refl _) (Nat.le_refl _)
        · skip
          have zc6 : ¬ (p1.toInt = 60) := by rw [fa_eq, show (60 : Int32).toInt = 60 from by decide] at c6; exact c6
          refine lv_iload_n hx hb dX6_joins_66 rfl (lv_at hl 1 rfl) ?_
          refine lv_bipush (v := 62) hx hb dX6_joins_67 (by decide) ?_
          refine lv_icmp_eq (tgt := 78) hx hb dX6_joins_69 (by decide) (fun c7 => ?_) (fun c7 => ?_)
          · skip
            have zc7 : p1.toInt = 62 := by rw [fa_eq, show (62 : Int32).toInt = 62 from by decide] at c7; exact c7
            refine lv_iconst (v := 1) hx hb dX6_joins_78 (by decide) ?_
            refine lv_goto (tgt := 83) hx hb dX6_joins_79 (by decide) ?_
            exact ret 1 () _ _ _ _ _ _ rfl ⟨(gsX_X6_joins_1_q5 c1 c3 c5 c6 c7), (Or.inl rfl)⟩ hP hD hS dX6_joins_83 (Nat.le_refl _) (Nat.le_refl _)
          · skip
            have zc7 : ¬ (p1.toInt = 62) := by rw [fa_eq, show (62 : Int32).toInt = 62 from by decide] at c7; exact c7
            refine lv_iload_n hx hb dX6_joins_72 rfl (lv_at hl 1 rfl) ?_
            refine lv_bipush (v := 61) hx hb dX6_joins_73 (by decide) ?_
            refine lv_icmp_ne (tgt := 82) hx hb dX6_joins_75 (by decide) (fun c8 => ?_) (fun c8 => ?_)
            · skip
              have zc8 : ¬ (p1.toInt = 61) := by rw [fa_eq, show (61 : Int32).toInt = 61 from by decide] at c8; exact c8
              refine lv_iconst (v := 0) hx hb dX6_joins_82 (by decide) ?_
              exact ret 0 () _ _ _ _ _ _ rfl ⟨(gsX_X6_joins_1_q6 c1 c3 c5 c6 c7 c8), (Or.inr rfl)⟩ hP hD hS dX6_joins_83 (Nat.le_refl _) (Nat.le_refl _)
            · skip
              have zc8 : p1.toInt = 61 := by rw [fa_eq, show (61 : Int32).toInt = 61 from by decide] at c8; exact c8
              refine lv_iconst (v := 1) hx hb dX6_joins_78 (by decide) ?_
              refine lv_goto (tgt := 83) hx hb dX6_joins_79 (by decide) ?_
              exact ret 1 () _ _ _ _ _ _ rfl ⟨(gsX_X6_joins_1_q7 c1 c3 c5 c6 c7 c8), (Or.inl rfl)⟩ hP hD hS dX6_joins_83 (Nat.le_refl _) (Nat.le_refl _)
      · skip
        have zc5 : ¬ (p0.toInt = 2) := by rw [fa_eq, show (2 : Int32).toInt = 2 from by decide] at c5; exact c5
        by_cases c9 : p0 = 3
        · skip
          refine lv_tableIn (off := 83) (tgt := 84) hx hb dX6_joins_1 (by rw [c9]; decide) (by rw [c9]; decide) (by rw [c9]; decide) (by decide) ?_
          have zc9 : p0.toInt = 3 := by rw [fa_eq, show (3 : Int32).toInt = 3 from by decide] at c9; exact c9
          refine lv_iload_n hx hb dX6_joins_84 rfl (lv_at hl 1 rfl) ?_
          refine lv_bipush (v := 43) hx hb dX6_joins_85 (by decide) ?_
          refine lv_icmp_eq (tgt := 96) hx hb dX6_joins_87 (by decide) (fun c10 => ?_) (fun c10 => ?_)
          · skip
            have zc10 : p1.toInt = 43 := by rw [fa_eq, show (43 : Int32).toInt = 43 from by decide] at c10; exact c10
            refine lv_iconst (v := 1) hx hb dX6_joins_96 (by decide) ?_
            refine lv_goto (tgt := 101) hx hb dX6_joins_97 (by decide) ?_
            exact ret 1 () _ _ _ _ _ _ rfl ⟨(gsX_X6_joins_1_q8 c1 c3 c5 c9 c10), (Or.inl rfl)⟩ hP hD hS dX6_joins_101 (Nat.le_refl _) (Nat.le_refl _)
          · skip
            have zc10 : ¬ (p1.toInt = 43) := by rw [fa_eq, show (43 : Int32).toInt = 43 from by decide] at c10; exact c10
            refine lv_iload_n hx hb dX6_joins_90 rfl (lv_at hl 1 rfl) ?_
            refine lv_bipush (v := 45) hx hb dX6_joins_91 (by decide) ?_
            refine lv_icmp_ne (tgt := 100) hx hb dX6_joins_93 (by decide) (fun c11 => ?_) (fun c11 => ?_)
            · skip
              have zc11 : ¬ (p1.toInt = 45) := by rw [fa_eq, show (45 : Int32).toInt = 45 from by decide] at c11; exact c11
              refine lv_iconst (v := 0) hx hb dX6_joins_100 (by decide) ?_
              exact ret 0 () _ _ _ _ _ _ rfl ⟨(gsX_X6_joins_1_q9 c1 c3 c5 c9 c10 c11), (Or.inr rfl)⟩ hP hD hS dX6_joins_101 (Nat.le_refl _) (Nat.le_refl _)
            · skip
              have zc11 : p1.toInt = 45 := by rw [fa_eq, show (45 : Int32).toInt = 45 from by decide] at c11; exact c11
              refine lv_iconst (v := 1) hx hb dX6_joins_96 (by decide) ?_
              refine lv_goto (tgt := 101) hx hb dX6_joins_97 (by decide) ?_
              exact ret 1 () _ _ _ _ _ _ rfl ⟨(gsX_X6_joins_1_q10 c1 c3 c5 c9 c10 c11), (Or.inl rfl)⟩ hP hD hS dX6_joins_101 (Nat.le_refl _) (Nat.le_refl _)
        · skip
          have zc9 : ¬ (p0.toInt = 3) := by rw [fa_eq, show (3 : Int32).toInt = 3 from by decide] at c9; exact c9
          by_cases c12 : p0 = 4
          · skip
            refine lv_tableIn (off := 101) (tgt := 102) hx hb dX6_joins_1 (by rw [c12]; decide) (by rw [c12]; decide) (by rw [c12]; decide) (by decide) ?_
            have zc12 : p0.toInt = 4 := by rw [fa_eq, show (4 : Int32).toInt = 4 from by decide] at c12; exact c12
            refine lv_iload_n hx hb dX6_joins_102 rfl (lv_at hl 1 rfl) ?_
            refine lv_bipush (v := 42) hx hb dX6_joins_103 (by decide) ?_
            refine lv_icmp_eq (tgt := 120) hx hb dX6_joins_105 (by decide) (fun c13 => ?_) (fun c13 => ?_)
            · skip
              have zc13 : p1.toInt = 42 := by rw [fa_eq, show (42 : Int32).toInt = 42 from by decide] at c13; exact c13
              refine lv_iconst (v := 1) hx hb dX6_joins_120 (by decide) ?_
              refine lv_goto (tgt := 125) hx hb dX6_joins_121 (by decide) ?_
              exact ret 1 () _ _ _ _ _ _ rfl ⟨(gsX_X6_joins_1_q11 c1 c3 c5 c9 c12 c13), (Or.inl rfl)⟩ hP hD hS dX6_joins_125 (Nat.le_refl _) (Nat.le_refl _)
            · skip
              have zc13 : ¬ (p1.toInt = 42) := by rw [fa_eq, show (42 : Int32).toInt = 42 from by decide] at c13; exact c13
              refine lv_iload_n hx hb dX6_joins_108 rfl (lv_at hl 1 rfl) ?_
              refine lv_bipush (v := 47) hx hb dX6_joins_109 (by decide) ?_
              refine lv_icmp_eq (tgt := 120) hx hb dX6_joins_111 (by decide) (fun c14 => ?_) (fun c14 => ?_)
              · skip
                have zc14 : p1.toInt = 47 := by rw [fa_eq, show (47 : Int32).toInt = 47 from by decide] at c14; exact c14
                refine lv_iconst (v := 1) hx hb dX6_joins_120 (by decide) ?_
                refine lv_goto (tgt := 125) hx hb dX6_joins_121 (by decide) ?_
                exact ret 1 () _ _ _ _ _ _ rfl ⟨(gsX_X6_joins_1_q12 c1 c3 c5 c9 c12 c13 c14), (Or.inl rfl)⟩ hP hD hS dX6_joins_125 (Nat.le_refl _) (Nat.le_refl _)
              · skip
                have zc14 : ¬ (p1.toInt = 47) := by rw [fa_eq, show (47 : Int32).toInt = 47 from by decide] at c14; exact c14
                refine lv_iload_n hx hb dX6_joins_114 rfl (lv_at hl 1 rfl) ?_
                refine lv_bipush (v := 37) hx hb dX6_joins_115 (by decide) ?_
                refine lv_icmp_ne (tgt := 124) hx hb dX6_joins_117 (by decide) (fun c15 => ?_) (fun c15 => ?_)
                · skip
                  have zc15 : ¬ (p1.toInt = 37) := by rw [fa_eq, show (37 : Int32).toInt = 37 from by decide] at c15; exact c15
                  refine lv_iconst (v := 0) hx hb dX6_joins_124 (by decide) ?_
                  exact ret 0 () _ _ _ _ _ _ rfl ⟨(gsX_X6_joins_1_q13 c1 c3 c5 c9 c12 c13 c14 c15), (Or.inr rfl)⟩ hP hD hS dX6_joins_125 (Nat.le_refl _) (Nat.le_refl _)
                · skip
                  have zc15 : p1.toInt = 37 := by rw [fa_eq, show (37 : Int32).toInt = 37 from by decide] at c15; exact c15
                  refine lv_iconst (v := 1) hx hb dX6_joins_120 (by decide) ?_
                  refine lv_goto (tgt := 125) hx hb dX6_joins_121 (by decide) ?_
                  exact ret 1 () _ _ _ _ _ _ rfl ⟨(gsX_X6_joins_1_q14 c1 c3 c5 c9 c12 c13 c14 c15), (Or.inl rfl)⟩ hP hD hS dX6_joins_125 (Nat.le_refl _) (Nat.le_refl _)
          · skip
            have zc12 : ¬ (p0.toInt = 4) := by rw [fa_eq, show (4 : Int32).toInt = 4 from by decide] at c12; exact c12
            refine lv_tableOut (tgt := 126) hx hb dX6_joins_1 (by omega) (by decide) ?_
            refine lv_iconst (v := 0) hx hb dX6_joins_126 (by decide) ?_
            exact ret 0 () _ _ _ _ _ _ rfl ⟨(gsX_X6_joins_1_q15 c1 c3 c5 c9 c12), (Or.inr rfl)⟩ hP hD hS dX6_joins_127 (Nat.le_refl _) (Nat.le_refl _)
set_option maxHeartbeats 4000000 in
set_option maxRecDepth 100000 in
theorem sX_X6_expression_47 (NF : Nat) (l : Launch) (dC : Nat → ClassId) (dI : Nat → Nat → Nat) (cy : Nat → ClassId) (x0 : Nat) (x : Nat → Nat)  (v : Nat → Int32) (f : Nat → Nat → Int32) (hIv : XI v)  : ctIS l (dC, dI) cy yX6_expression cX6_expression 6 .boolean 9 239 0 0 ((Nat → Int32) × (Nat → Nat → Int32)) [.ref (x 2), .int 4, .int 7] (XW cy x0 x v f) (fun r u => gsX_X6_expression_47 NF v f = (r, u) ∧ KV [2, 3, 4, 5, 7, 8, 16, 17] u.1 v ∧ KF [3, 4] u.2 f ∧ XI u.1 ∧ u.1 0 = v 0 ∧ u.1 1 = v 1 ∧ u.1 9 = v 9 ∧ u.1 10 = v 10 ∧ u.1 31 = v 31 ∧ u.1 32 = v 32 ∧ ((r = 1) ∨ (r = 0))) (fun u => XW cy x0 x u.1 u.2) := by
  refine ctIS_of (by decide) (Nat.le_of_ble_eq_true rfl) (fun p e s m below meth c A ls Q hx hb hml hts hown hE hF hT hP hD hA hl ret => ?_)
  have hM_v : KV [2, 3, 4, 5, 7, 8, 16, 17] v v := fun _ _ => rfl
  have hA_f : KF [3, 4] f f := fun _ _ => rfl
  have hown : s.vm.findClass RX6 = some m.cls := hown
  have hS : va_S A s.heap s.heap [] := va_S.rf
  have hl : lv_has ls 6 [(0, .ref (x 2)), (1, .int 4), (2, .int 7)] := hl
  refine lv_iload_n hx hb dX6_expression_0 rfl (lv_at hl 1 rfl) ?_
  refine lv_iconst (v := 5) hx hb dX6_expression_1 (by decide) ?_
  refine lv_icmp_lt (tgt := 11) hx hb dX6_expression_2 (by decide) (fun _ => ?_) (fun c0 => absurd (by decide) c0)
  refine lv_iload_n hx hb dX6_expression_11 rfl (lv_at hl 1 rfl) ?_
  refine lv_iconst (v := 2) hx hb dX6_expression_12 (by decide) ?_
  refine lv_icmp_ne (tgt := 34) hx hb dX6_expression_13 (by decide) (fun _ => ?_) (fun c0 => absurd c0 (by decide))
  refine lv_aload_n hx hb dX6_expression_34 rfl (lv_at hl 0 rfl) ?_
  refine lv_iload_n hx hb dX6_expression_35 rfl (lv_at hl 1 rfl) ?_
  refine lv_iconst (v := 1) hx hb dX6_expression_36 (by decide) ?_
  refine lv_iadd hx hb dX6_expression_37 ?_
  refine tI (y := 5) (by decide) ?_
  refine lv_iload_n hx hb dX6_expression_38 rfl (lv_at hl 2 rfl) ?_
  refine csVi (n := 2) (rest := []) hx hb hml hown hts hE hP hD hS hA hF hT (sX_X6_expression_48 NF l dC dI cy x0 x  v f hIv ) k_740 k_742 k_15 k_103 k_743 (by decide +kernel) ⟨Nat.le_of_ble_eq_true rfl, Nat.le_of_ble_eq_true rfl⟩ 3 6 rfl rfl (rfl) hl.1 rfl (Nat.le_of_ble_eq_true rfl) dX6_expression_39 (fun r1 u H locs hw hP hD hS => ?_)
  obtain ⟨hG2, hw⟩ := hw
  obtain ⟨v3, f4⟩ := u
  obtain ⟨kV_v3, kF_f4, hIv3, hk0_v3, hk1_v3, hk9_v3, hk10_v3, hk31_v3, hk32_v3, hw⟩ := hw
  have hM_v3 : KV [2, 3, 4, 5, 7, 8, 16, 17] v3 v := KV.tr kV_v3 hM_v rfl
  have hA_f4 : KF [3, 4] f4 f := KF.tr kF_f4 hA_f rfl
  have hP : va_P (dC, dI) vwCl (XW cy x0 x v3 f4) H := hP
  have hD : va_D A (XW cy x0 x v3 f4) := hD
  have hq0_v3 : v3 0 = (v 0) := hk0_v3
  have hq1_v3 : v3 1 = (v 1) := hk1_v3
  have hq9_v3 : v3 9 = (v 9) := hk9_v3
  have hq10_v3 : v3 10 = (v 10) := hk10_v3
  have hq31_v3 : v3 31 = (v 31) := hk31_v3
  have hq32_v3 : v3 32 = (v 32) := hk32_v3
  rcases hw with ⟨g5⟩ | ⟨g5⟩
  · skip
    subst g5
    refine lv_if_ne (tgt := 47) hx hb dX6_expression_42 (by decide) (fun _ => ?_) (fun c0 => absurd c0 (by decide))
    refine lv_iload_n hx hb dX6_expression_47 rfl (lv_at hl 1 rfl) ?_
    refine lv_iconst (v := 2) hx hb dX6_expression_48 (by decide) ?_
    refine lv_icmp_ne (tgt := 56) hx hb dX6_expression_49 (by decide) (fun _ => ?_) (fun c0 => absurd c0 (by decide))
    refine lv_sipush (v := 1600) hx hb dX6_expression_56 (by decide) ?_
    refine lv_istore_n (lv' := [(3, .int 1600), (0, .ref (x 2)), (1, .int 4), (2, .int 7)]) hx hb dX6_expression_59 rfl hl (by decide) rfl (fun ls hl => ?_)
    refine lv_iconst (v := 0) hx hb dX6_expression_60 (by decide) ?_
    refine lv_istore (lv' := [(4, .int 0), (3, .int 1600), (0, .ref (x 2)), (1, .int 4), (2, .int 7)]) hx hb dX6_expression_61 hl (by decide) rfl (fun ls hl => ?_)
    have lp6 : ∀ (n6 : Nat) (l4_6 : Int32) (v6 : Nat → Int32) (f6 : Nat → Nat → Int32), XI v6 → v6 0 = (v 0) → v6 1 = (v 1) → v6 9 = (v 9) → v6 10 = (v 10) → v6 31 = (v 31) → v6 32 = (v 32) → gsX_X6_expression_47_L6 NF n6 l4_6 v6 f6 = (gsX_X6_expression_47 NF v f) → ((0 : Int) ≤ l4_6.toInt ∧ l4_6.toInt ≤ 2147483647) → KV [2, 3, 4, 5, 7, 8, 16, 17] v6 v → KF [3, 4] f6 f → (2147483647 - l4_6.toInt).toNat < n6 → ∀ (H : Heap) (locs : List Loc) (ls : Array Slot), va_P (dC, dI) vwCl (XW cy x0 x v6 f6) H → va_D A (XW cy x0 x v6 f6) → va_S A s.heap H locs → lv_has ls 6 [(4, .int l4_6), (3, .int 1600), (0, .ref (x 2)), (1, .int 4), (2, .int 7)] → W p l e { frames := 9, cells := 0, slots := 0, locals := 239 } s m ([.ref (x 2), .int 4, .int 7] : List Value).toArray below meth c H locs 0 0 Q (F0 m 63 ls []) := by
      intro n6
      induction n6 with
      | zero => intro l4_6 v6 f6 hIv6 hq0_v6 hq1_v6 hq9_v6 hq10_v6 hq31_v6 hq32_v6 hT6 hr4_6 hM_v6 hA_f6 hm; exact absurd hm (Nat.not_lt_zero _)
      | succ n6 ih6 =>
        intro l4_6 v6 f6 hIv6 hq0_v6 hq1_v6 hq9_v6 hq10_v6 hq31_v6 hq32_v6 hT6 hr4_6 hM_v6 hA_f6 hm6 H locs ls hP hD hS hl
        refine lv_iload hx hb dX6_expression_63 (lv_at hl 0 rfl) ?_
        refine lv_iload_n hx hb dX6_expression_65 rfl (lv_at hl 1 rfl) ?_
        refine lv_icmp_ge (tgt := 131) hx hb dX6_expression_66 (by decide) (fun c7 => ?_) (fun c7 => ?_)
        · skip
          have zc7 : 1600 ≤ l4_6.toInt := by rw [fa_le, show (1600 : Int32).toInt = 1600 from by decide] at c7; exact c7
          refine lv_iconst (v := 1) hx hb dX6_expression_131 (by decide) ?_
          exact ret 1 (v6, f6) _ _ _ _ _ _ rfl ⟨(hT6.symm.trans (gsX_X6_expression_47_q0 c7)), hM_v6, hA_f6, hIv6, hq0_v6, hq1_v6, hq9_v6, hq10_v6, hq31_v6, hq32_v6, (Or.inl rfl)⟩ hP hD hS dX6_expression_132 (Nat.le_refl _) (Nat.le_refl _)
        · skip
          have zc7 : ¬ (1600 ≤ l4_6.toInt) := by rw [fa_le, show (1600 : Int32).toInt = 1600 from by decide] at c7; exact c7
          refine lv_iload_n hx hb dX6_expression_69 rfl (lv_at hl 3 rfl) ?_
          refine lv_aload_n hx hb dX6_expression_70 rfl (lv_at hl 2 rfl) ?_
          refine va_get (D := (dC, dI)) (ci := 6) (v := .ref (x 0)) (C := RX6) (T := TX6) (N := 7) hx hb hts inB_6 hown hE.1 hP 3 rfl rfl 0 (by decide) (hts _ k_265) (fun _ h9 => h9) rfl dX6_expression_71 ?_
          refine va_getN (D := (dC, dI)) (ci := 9) (v := .int (v6 2)) (C := RX9) (T := TX9) (N := 6) hx hb hts inB_9 hown hE.1 hP 1 rfl rfl 2 (by decide) (va_Nw.use rfl (hE.2 _ k_139)) (fun _ h9 => h9) rfl dX6_expression_74 ?_
          refine cbSi (n := 2) (rest := []) hx hb hml hown hts hE hP hD hS hA (sX_X6_joins_1 NF l dC dI cy x0 x 4 (v6 2) v6 f6 hIv6 ) k_756 k_757 k_103 k_758 (by decide +kernel) ⟨Nat.le_of_ble_eq_true rfl, Nat.le_of_ble_eq_true rfl⟩ (rfl) hl.1 rfl (Nat.le_of_ble_eq_true rfl) dX6_expression_77 (fun r8 u H locs hw hP hD hS => ?_)
          obtain ⟨hG9, hw⟩ := hw
          rcases hw with ⟨g10⟩ | ⟨g10⟩
          · skip
            subst g10
            refine lv_if_eq (tgt := 131) hx hb dX6_expression_80 (by decide) (fun c0 => absurd c0 (by decide)) (fun _ => ?_)
            refine lv_aload_n hx hb dX6_expression_83 rfl (lv_at hl 2 rfl) ?_
            refine va_get (D := (dC, dI)) (ci := 6) (v := .ref (x 0)) (C := RX6) (T := TX6) (N := 7) hx hb hts inB_6 hown hE.1 hP 3 rfl rfl 0 (by decide) (hts _ k_265) (fun _ h9 => h9) rfl dX6_expression_84 ?_
            refine va_getN (D := (dC, dI)) (ci := 9) (v := .int (v6 2)) (C := RX9) (T := TX9) (N := 6) hx hb hts inB_9 hown hE.1 hP 1 rfl rfl 2 (by decide) (va_Nw.use rfl (hE.2 _ k_139)) (fun _ h9 => h9) rfl dX6_expression_87 ?_
            refine lv_istore (lv' := [(5, .int (v6 2)), (4, .int l4_6), (3, .int 1600), (0, .ref (x 2)), (1, .int 4), (2, .int 7)]) hx hb dX6_expression_90 hl (by decide) rfl (fun ls hl => ?_)
            refine lv_aload_n hx hb dX6_expression_92 rfl (lv_at hl 3 rfl) ?_
            refine va_get (D := (dC, dI)) (ci := 6) (v := .ref (x 0)) (C := RX6) (T := TX6) (N := 7) hx hb hts inB_6 hown hE.1 hP 3 rfl rfl 0 (by decide) (hts _ k_265) (fun _ h9 => h9) rfl dX6_expression_93 ?_
            refine csVv (n := 0) (rest := []) hx hb hml hown hts hE hP hD hS hA hF hT (sX_X9_advance_1 NF l dC dI cy x0 x  v6 f6 hIv6 ) k_699 k_559 k_560 k_102 k_561 (by decide +kernel) ⟨Nat.le_of_ble_eq_true rfl, Nat.le_of_ble_eq_true rfl⟩ 1 9 rfl rfl (rfl) hl.1 rfl (Nat.le_of_ble_eq_true rfl) dX6_expression_96 (fun u H locs hw hP hD hS => ?_)
            obtain ⟨hG11, hw⟩ := hw
            obtain ⟨v12, f13⟩ := u
            obtain ⟨kV_v12, kF_f13, hIv12, hk0_v12, hk1_v12, hk7_v12, hk8_v12, hk9_v12, hk10_v12, hk31_v12, hk32_v12⟩ := hw
            have hM_v12 : KV [2, 3, 4, 5, 7, 8, 16, 17] v12 v := KV.tr kV_v12 hM_v6 rfl
            have hA_f13 : KF [3, 4] f13 f := KF.tr kF_f13 hA_f6 rfl
            have hP : va_P (dC, dI) vwCl (XW cy x0 x v12 f13) H := hP
            have hD : va_D A (XW cy x0 x v12 f13) := hD
            have hq0_v12 : v12 0 = (v 0) := hk0_v12.trans hq0_v6
            have hq1_v12 : v12 1 = (v 1) := hk1_v12.trans hq1_v6
            have hq7_v12 : v12 7 = (v6 7) := hk7_v12
            have hq8_v12 : v12 8 = (v6 8) := hk8_v12
            have hq9_v12 : v12 9 = (v 9) := hk9_v12.trans hq9_v6
            have hq10_v12 : v12 10 = (v 10) := hk10_v12.trans hq10_v6
            have hq31_v12 : v12 31 = (v 31) := hk31_v12.trans hq31_v6
            have hq32_v12 : v12 32 = (v 32) := hk32_v12.trans hq32_v6
            refine lv_aload_n hx hb dX6_expression_99 rfl (lv_at hl 3 rfl) ?_
            refine lv_iload_n hx hb dX6_expression_100 rfl (lv_at hl 4 rfl) ?_
            refine lv_iconst (v := 1) hx hb dX6_expression_101 (by decide) ?_
            refine lv_iadd hx hb dX6_expression_102 ?_
            refine tI (y := 5) (by decide) ?_
            refine lv_iload_n hx hb dX6_expression_103 rfl (lv_at hl 5 rfl) ?_
            refine csVi (n := 2) (rest := []) hx hb hml hown hts hE hP hD hS hA hF hT (sX_X6_expression_48 NF l dC dI cy x0 x  v12 f13 hIv12 ) k_740 k_742 k_15 k_103 k_743 (by decide +kernel) ⟨Nat.le_of_ble_eq_true rfl, Nat.le_of_ble_eq_true rfl⟩ 3 6 rfl rfl (rfl) hl.1 rfl (Nat.le_of_ble_eq_true rfl) dX6_expression_104 (fun r14 u H locs hw hP hD hS => ?_)
            obtain ⟨hG15, hw⟩ := hw
            obtain ⟨v16, f17⟩ := u
            obtain ⟨kV_v16, kF_f17, hIv16, hk0_v16, hk1_v16, hk9_v16, hk10_v16, hk31_v16, hk32_v16, hw⟩ := hw
            have hM_v16 : KV [2, 3, 4, 5, 7, 8, 16, 17] v16 v := KV.tr kV_v16 hM_v12 rfl
            have hA_f17 : KF [3, 4] f17 f := KF.tr kF_f17 hA_f13 rfl
            have hP : va_P (dC, dI) vwCl (XW cy x0 x v16 f17) H := hP
            have hD : va_D A (XW cy x0 x v16 f17) := hD
            have hq0_v16 : v16 0 = (v 0) := hk0_v16.trans hq0_v12
            have hq1_v16 : v16 1 = (v 1) := hk1_v16.trans hq1_v12
            have hq9_v16 : v16 9 = (v 9) := hk9_v16.trans hq9_v12
            have hq10_v16 : v16 10 = (v 10) := hk10_v16.trans hq10_v12
            have hq31_v16 : v16 31 = (v 31) := hk31_v16.trans hq31_v12
            have hq32_v16 : v16 32 = (v 32) := hk32_v16.trans hq32_v12
            rcases hw with ⟨g18⟩ | ⟨g18⟩
            · skip
              subst g18
              refine lv_if_ne (tgt := 112) hx hb dX6_expression_107 (by decide) (fun _ => ?_) (fun c0 => absurd c0 (by decide))
              refine lv_aload_n hx hb dX6_expression_112 rfl (lv_at hl 3 rfl) ?_
              refine va_get (D := (dC, dI)) (ci := 6) (v := .ref (x 3)) (C := RX6) (T := TX6) (N := 7) hx hb hts inB_6 hown hE.1 hP 3 rfl rfl 1 (by decide) (hts _ k_266) (fun _ h9 => h9) rfl dX6_expression_113 ?_
              refine va_getN (D := (dC, dI)) (ci := 7) (v := .ref (x 6)) (C := RX7) (T := TX7) (N := 10) hx hb hts inB_7 hown hE.1 hP 4 rfl rfl 2 (by decide) (va_Nw.use rfl (hE.2 _ k_210)) (fun _ h9 => h9) rfl dX6_expression_116 ?_
              refine lv_iload hx hb dX6_expression_119 (lv_at hl 0 rfl) ?_
              refine lv_iconst (v := 0) hx hb dX6_expression_121 (by decide) ?_
              refine cbVv (n := 2) (rest := []) hx hb hml hown hts hE hP hD hS hA (sX_X4_add_1 NF l dC dI cy x0 x (v6 2) 0 v16 f17 hIv16 ) k_748 k_749 k_750 k_105 k_751 (by decide +kernel) ⟨Nat.le_of_ble_eq_true rfl, Nat.le_of_ble_eq_true rfl⟩ 7 4 rfl rfl (rfl) hl.1 rfl (Nat.le_of_ble_eq_true rfl) dX6_expression_122 (fun u H locs hw hP hD hS => ?_)
              obtain ⟨hG19, hw⟩ := hw
              obtain ⟨v20, f21⟩ := u
              obtain ⟨kV_v20, kF_f21, hIv20, hk0_v20, hk1_v20, hk7_v20, hk8_v20, hk9_v20, hk10_v20, hk31_v20, hk32_v20⟩ := hw
              have hM_v20 : KV [2, 3, 4, 5, 7, 8, 16, 17] v20 v := KV.tr kV_v20 hM_v16 rfl
              have hA_f21 : KF [3, 4] f21 f := KF.tr kF_f21 hA_f17 rfl
              have hP : va_P (dC, dI) vwCl (XW cy x0 x v20 f21) H := hP
              have hD : va_D A (XW cy x0 x v20 f21) := hD
              have hq0_v20 : v20 0 = (v 0) := hk0_v20.trans hq0_v16
              have hq1_v20 : v20 1 = (v 1) := hk1_v20.trans hq1_v16
              have hq7_v20 : v20 7 = (v16 7) := hk7_v20
              have hq8_v20 : v20 8 = (v16 8) := hk8_v20
              have hq9_v20 : v20 9 = (v 9) := hk9_v20.trans hq9_v16
              have hq10_v20 : v20 10 = (v 10) := hk10_v20.trans hq10_v16
              have hq31_v20 : v20 31 = (v 31) := hk31_v20.trans hq31_v16
              have hq32_v20 : v20 32 = (v 32) := hk32_v20.trans hq32_v16
              obtain ⟨t22, et22⟩ : ∃ y : Int32, y = l4_6 + 1 := ⟨_, rfl⟩
              have rg23 := fb_rng l4_6
              have zt22 : t22.toInt = l4_6.toInt + 1 := by rw [et22]; exact add_i rfl (by decide) (by omega) (by omega)
              refine lv_iinc (v := t22) (lv' := [(4, .int t22), (5, .int (v6 2)), (3, .int 1600), (0, .ref (x 2)), (1, .int 4), (2, .int 7)]) hx hb dX6_expression_125 hl (k := 1) rfl (by rw [et22]; rfl) (by decide) rfl (fun ls hl => ?_)
              refine lv_goto (tgt := 63) hx hb dX6_expression_128 (by decide) ?_
              have rg24 := fb_rng t22
              exact ih6 t22 v20 f21 hIv20 hq0_v20 hq1_v20 hq9_v20 hq10_v20 hq31_v20 hq32_v20 ((gsX_X6_expression_47_q1 c7 hG9 hG11 hG15 hG19 et22).symm.trans hT6) ⟨show (0 : Int) ≤ t22.toInt by omega, show t22.toInt ≤ (2147483647 : Int) by omega⟩ hM_v20 hA_f21 (by show (2147483647 - t22.toInt).toNat < n6; omega) _ _ _ hP hD hS (lv_sub hl [0, 2, 3, 4, 5] rfl)
            · skip
              subst g18
              refine lv_if_ne (tgt := 112) hx hb dX6_expression_107 (by decide) (fun c0 => absurd (by decide) c0) (fun _ => ?_)
              refine lv_iconst (v := 0) hx hb dX6_expression_110 (by decide) ?_
              exact ret 0 (v16, f17) _ _ _ _ _ _ rfl ⟨(hT6.symm.trans (gsX_X6_expression_47_q2 c7 hG9 hG11 hG15)), hM_v16, hA_f17, hIv16, (hk0_v16.trans (hk0_v12.trans hq0_v6)), (hk1_v16.trans (hk1_v12.trans hq1_v6)), (hk9_v16.trans (hk9_v12.trans hq9_v6)), (hk10_v16.trans (hk10_v12.trans hq10_v6)), (hk31_v16.trans (hk31_v12.trans hq31_v6)), (hk32_v16.trans (hk32_v12.trans hq32_v6)), (Or.inr rfl)⟩ hP hD hS dX6_expression_111 (Nat.le_refl _) (Nat.le_refl _)
          · skip
            subst g10
            refine lv_if_eq (tgt := 131) hx hb dX6_expression_80 (by decide) (fun _ => ?_) (fun c0 => absurd (by decide) c0)
            refine lv_iconst (v := 1) hx hb dX6_expression_131 (by decide) ?_
            exact ret 1 (v6, f6) _ _ _ _ _ _ rfl ⟨(hT6.symm.trans (gsX_X6_expression_47_q3 c7 hG9)), hM_v6, hA_f6, hIv6, hq0_v6, hq1_v6, hq9_v6, hq10_v6, hq31_v6, hq32_v6, (Or.inl rfl)⟩ hP hD hS dX6_expression_132 (Nat.le_refl _) (Nat.le_refl _)
    exact lp6 (4294967296 + NF) 0 v3 f4 hIv3 hq0_v3 hq1_v3 hq9_v3 hq10_v3 hq31_v3 hq32_v3 (gsX_X6_expression_47_q4 hG2).symm ⟨by decide, by decide⟩ hM_v3 hA_f4 (by have q4 : (0 : Int32).toInt = 0 := (by decide); have q3 : (1600 : Int32).toInt = 1600 := (by decide); have q1 : (4 : Int32).toInt = 4 := (by decide); have q2 : (7 : Int32).toInt = 7 := (by decide); show (2147483647 - (0 : Int32).toInt).toNat < 4294967296 + NF; omega) _ _ _ hP hD hS (lv_sub hl [0, 1, 2, 3, 4] rfl)
  · skip
    subst g5
    refine lv_if_ne (tgt := 47) hx hb dX6_expression_42 (by decide) (fun c0 => absurd (by decide) c0) (fun _ => ?_)
    refine lv_iconst (v := 0) hx hb dX6_expression_45 (by decide) ?_
    exact ret 0 (v3, f4) _ _ _ _ _ _ rfl ⟨(gsX_X6_expression_47_q5 hG2), hM_v3, hA_f4, hIv3, hk0_v3, hk1_v3, hk9_v3, hk10_v3, hk31_v3, hk32_v3, (Or.inr rfl)⟩ hP hD hS dX6_expression_46 (Nat.le_refl _) (Nat.le_refl _)
