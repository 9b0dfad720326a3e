set_option maxHeartbeats 4000000 in
set_option maxRecDepth 100000 in
theorem sX_X10_rout_1 (l : Launch) (dC : Nat → ClassId) (dI : Nat → Nat → Nat) (cy : Nat → ClassId) (x0 : Nat) (x : Nat → Nat)  (v : Nat → Int32) (f : Nat → Nat → Int32) (hIv : XI v)  : ctI l (dC, dI) cy yX10_rout cX10_rout 1 .int 7 200 0 0 ((Nat → Int32) × (Nat → Nat → Int32)) [.ref x0] (XW cy x0 x v f) (fun r u => KV [] u.1 v ∧ KF [13, 14, 18] u.2 f ∧ XI u.1 ∧ u.1 0 = v 0 ∧ u.1 1 = v 1 ∧ u.1 7 = v 7 ∧ u.1 8 = v 8 ∧ u.1 9 = v 9 ∧ u.1 10 = v 10 ∧ u.1 31 = v 31 ∧ u.1 32 = v 32) (fun u => XW cy x0 x u.1 u.2) := by
  refine ctI_of (by decide) (Nat.le_of_ble_eq_true rfl) (fun p e s m below meth c A ls Q hx hb hml hts hown hE hP hD hA hl ret => ?_)
  have hM_v : KV [] v v := fun _ _ => rfl
  have hA_f : KF [13, 14, 18] f f := fun _ _ => rfl
  have hown : s.vm.findClass RX10 = some m.cls := hown
  have hS : va_S A s.heap s.heap [] := va_S.rf
  have hl : lv_has ls 1 [(0, .ref x0)] := hl
  refine lv_aload_n hx hb dX10_rout_0 rfl (lv_at hl 0 rfl) ?_
  refine va_get (D := (dC, dI)) (ci := 10) (v := .ref (x 25)) (C := RX10) (T := TX10) (N := 10) hx hb hts inB_10 hown hE.1 hP 0 rfl rfl 5 (by decide) (hts _ k_496) (fun _ h9 => h9) rfl dX10_rout_1 ?_
  refine cbVi (n := 0) (rest := []) hx hb hml hown hts hE hP hD hS hA (sX_X3_daysTillRout_1 l dC dI cy x0 x  v f hIv ) k_1202 k_1203 k_1204 k_109 k_1205 (by decide +kernel) ⟨Nat.le_of_ble_eq_true rfl, Nat.le_of_ble_eq_true rfl⟩ 26 3 rfl rfl (rfl) hl.1 rfl (Nat.le_of_ble_eq_true rfl) dX10_rout_4 (fun r1 u H locs hw hP hD hS => ?_)
  obtain ⟨v2, f3⟩ := u
  obtain ⟨kV_v2, kF_f3, hIv2, hk0_v2, hk1_v2, hk7_v2, hk8_v2, hk9_v2, hk10_v2, hk31_v2, hk32_v2⟩ := hw
  have hM_v2 : KV [] v2 v := KV.tr kV_v2 hM_v rfl
  have hA_f3 : KF [13, 14, 18] f3 f := KF.tr kF_f3 hA_f rfl
  have hP : va_P (dC, dI) vwCl (XW cy x0 x v2 f3) H := hP
  have hD : va_D A (XW cy x0 x v2 f3) := hD
  have hq0_v2 : v2 0 = (v 0) := hk0_v2
  have hq1_v2 : v2 1 = (v 1) := hk1_v2
  have hq7_v2 : v2 7 = (v 7) := hk7_v2
  have hq8_v2 : v2 8 = (v 8) := hk8_v2
  have hq9_v2 : v2 9 = (v 9) := hk9_v2
  have hq10_v2 : v2 10 = (v 10) := hk10_v2
  have hq31_v2 : v2 31 = (v 31) := hk31_v2
  have hq32_v2 : v2 32 = (v 32) := hk32_v2
  exact ret r1 (v2, f3) _ _ _ _ _ _ rfl ⟨hM_v2, hA_f3, hIv2, hk0_v2, hk1_v2, hk7_v2, hk8_v2, hk9_v2, hk10_v2, hk31_v2, hk32_v2⟩ hP hD hS dX10_rout_7 (Nat.le_refl _) (Nat.le_refl _)
set_option maxHeartbeats 4000000 in
set_option maxRecDepth 100000 in
theorem sX_X0_lying_1 (l : Launch) (dC : Nat → ClassId) (dI : Nat → Nat → Nat) (cy : Nat → ClassId) (x0 : Nat) (x : Nat → Nat) (p1 : Int32) (v : Nat → Int32) (f : Nat → Nat → Int32) (hIv : XI v)  : ctI l (dC, dI) cy yX0_lying cX0_lying 2 .int 1 60 0 0 Unit [.ref (x 31), .int p1] (XW cy x0 x v f) (fun r u => True) (fun u => XW cy x0 x v f) := by
  refine ctI_of (by decide) (Nat.le_of_ble_eq_true rfl) (fun p e s m below meth c A ls Q hx hb hml hts hown hE hP hD hA hl ret => ?_)
  have hown : s.vm.findClass RX0 = some m.cls := hown
  have hS : va_S A s.heap s.heap [] := va_S.rf
  have hl : lv_has ls 2 [(0, .ref (x 31)), (1, .int p1)] := hl
  refine lv_iload_n hx hb dX0_lying_0 rfl (lv_at hl 1 rfl) ?_
  refine lv_if_lt (tgt := 30) hx hb dX0_lying_1 (by decide) (fun c1 => ?_) (fun c1 => ?_)
  · skip
    have zc1 : p1.toInt < 0 := by rw [fa_lt, show (0 : Int32).toInt = 0 from by decide] at c1; exact c1
    refine lv_bipush (v := (-2)) hx hb dX0_lying_30 (by decide) ?_
    exact ret (-2) () _ _ _ _ _ _ rfl trivial hP hD hS dX0_lying_32 (Nat.le_refl _) (Nat.le_refl _)
  · skip
    have zc1 : ¬ (p1.toInt < 0) := by rw [fa_lt, show (0 : Int32).toInt = 0 from by decide] at c1; exact c1
    refine lv_iload_n hx hb dX0_lying_4 rfl (lv_at hl 1 rfl) ?_
    refine lv_aload_n hx hb dX0_lying_5 rfl (lv_at hl 0 rfl) ?_
    refine va_get (D := (dC, dI)) (ci := 0) (v := .int (v 38)) (C := RX0) (T := TX0) (N := 8) hx hb hts inB_0 hown hE.1 hP 32 rfl rfl 3 (by decide) (hts _ k_433) (fun _ h9 => h9) rfl dX0_lying_6 ?_
    have b38_v : 0 ≤ (v 38).toInt ∧ (v 38).toInt ≤ 6 := XI.b hIv 38 (by decide)
    refine lv_icmp_ge (tgt := 30) hx hb dX0_lying_9 (by decide) (fun c2 => ?_) (fun c2 => ?_)
    · skip
      have zc2 : (v 38).toInt ≤ p1.toInt := by rw [fa_le] at c2; exact c2
      have rg3 := fb_rng p1
      have rg4 := fb_rng (v 38)
      refine lv_bipush (v := (-2)) hx hb dX0_lying_30 (by decide) ?_
      exact ret (-2) () _ _ _ _ _ _ rfl trivial hP hD hS dX0_lying_32 (Nat.le_refl _) (Nat.le_refl _)
    · skip
      have zc2 : ¬ ((v 38).toInt ≤ p1.toInt) := by rw [fa_le] at c2; exact c2
      have rg5 := fb_rng p1
      have rg6 := fb_rng (v 38)
      refine lv_iload_n hx hb dX0_lying_12 rfl (lv_at hl 1 rfl) ?_
      refine lv_aload_n hx hb dX0_lying_13 rfl (lv_at hl 0 rfl) ?_
      refine va_get (D := (dC, dI)) (ci := 0) (v := .ref (x 32)) (C := RX0) (T := TX0) (N := 8) hx hb hts inB_0 hown hE.1 hP 32 rfl rfl 2 (by decide) (hts _ k_432) (fun _ h9 => h9) rfl dX0_lying_14 ?_
      refine va_alen (v := 6) hx hb hE.1 hP 33 1 rfl rfl rfl dX0_lying_17 ?_
      refine lv_icmp_ge (tgt := 30) hx hb dX0_lying_18 (by decide) (fun c7 => ?_) (fun c7 => ?_)
      · skip
        have zc7 : 6 ≤ p1.toInt := by rw [fa_le, show (6 : Int32).toInt = 6 from by decide] at c7; exact c7
        refine lv_bipush (v := (-2)) hx hb dX0_lying_30 (by decide) ?_
        exact ret (-2) () _ _ _ _ _ _ rfl trivial hP hD hS dX0_lying_32 (Nat.le_refl _) (Nat.le_refl _)
      · skip
        have zc7 : ¬ (6 ≤ p1.toInt) := by rw [fa_le, show (6 : Int32).toInt = 6 from by decide] at c7; exact c7
        refine lv_aload_n hx hb dX0_lying_21 rfl (lv_at hl 0 rfl) ?_
        refine va_get (D := (dC, dI)) (ci := 0) (v := .ref (x 32)) (C := RX0) (T := TX0) (N := 8) hx hb hts inB_0 hown hE.1 hP 32 rfl rfl 2 (by decide) (hts _ k_432) (fun _ h9 => h9) rfl dX0_lying_22 ?_
        refine lv_iload_n hx hb dX0_lying_25 rfl (lv_at hl 1 rfl) ?_
        refine ldI hx hb hE hP 33 rfl (vp_in_iff.mpr ⟨by omega, by omega⟩) rfl rfl dX0_lying_26 ?_
        refine lv_topi (fun t8 et8 => ?_)
        refine lv_goto (tgt := 32) hx hb dX0_lying_27 (by decide) ?_
        exact ret t8 () _ _ _ _ _ _ rfl trivial hP hD hS dX0_lying_32 (Nat.le_refl _) (Nat.le_refl _)
set_option maxHeartbeats 4000000 in
set_option maxRecDepth 100000 in
theorem sX_X10_lies_1 (l : Launch) (dC : Nat → ClassId) (dI : Nat → Nat → Nat) (cy : Nat → ClassId) (x0 : Nat) (x : Nat → Nat) (p1 : Int32) (v : Nat → Int32) (f : Nat → Nat → Int32) (hIv : XI v)  : ctI l (dC, dI) cy yX10_lies cX10_lies 2 .int 2 81 0 0 Unit [.ref x0, .int p1] (XW cy x0 x v f) (fun r u => True) (fun u => XW cy x0 x v f) := by
  refine ctI_of (by decide) (Nat.le_of_ble_eq_true rfl) (fun p e s m below meth c A ls Q hx hb hml hts hown hE hP hD hA hl ret => ?_)
  have hown : s.vm.findClass RX10 = some m.cls := hown
  have hS : va_S A s.heap s.heap [] := va_S.rf
  have hl : lv_has ls 2 [(0, .ref x0), (1, .int p1)] := hl
  refine lv_aload_n hx hb dX10_lies_0 rfl (lv_at hl 0 rfl) ?_
  refine va_get (D := (dC, dI)) (ci := 10) (v := .ref (x 31)) (C := RX10) (T := TX10) (N := 10) hx hb hts inB_10 hown hE.1 hP 0 rfl rfl 7 (by decide) (hts _ k_498) (fun _ h9 => h9) rfl dX10_lies_1 ?_
  refine lv_iload_n hx hb dX10_lies_4 rfl (lv_at hl 1 rfl) ?_
  refine cbVi (n := 1) (rest := []) hx hb hml hown hts hE hP hD hS hA (sX_X0_lying_1 l dC dI cy x0 x p1 v f hIv ) k_1218 k_1219 k_1220 k_111 k_1221 (by decide +kernel) ⟨Nat.le_of_ble_eq_true rfl, Nat.le_of_ble_eq_true rfl⟩ 32 0 rfl rfl (rfl) hl.1 rfl (Nat.le_of_ble_eq_true rfl) dX10_lies_5 (fun r1 u H locs hw hP hD hS => ?_)
  exact ret r1 () _ _ _ _ _ _ rfl trivial hP hD hS dX10_lies_8 (Nat.le_refl _) (Nat.le_refl _)
set_option maxHeartbeats 4000000 in
set_option maxRecDepth 100000 in
theorem sX_X8_fitsGrown_1 (l : Launch) (dC : Nat → ClassId) (dI : Nat → Nat → Nat) (cy : Nat → ClassId) (x0 : Nat) (x : Nat → Nat) (p1 : Int32) (p2 : Int32) (v : Nat → Int32) (f : Nat → Nat → Int32) (hIv : XI v)  : ctI l (dC, dI) cy yX8_fitsGrown cX8_fitsGrown 5 .boolean 3 111 0 0 ((Nat → Int32) × (Nat → Nat → Int32)) [.ref (x 35), .int p1, .int p2] (XW cy x0 x v f) (fun r u => KV [] u.1 v ∧ KF [13, 14] u.2 f ∧ XI u.1 ∧ u.1 0 = v 0 ∧ u.1 1 = v 1 ∧ u.1 7 = v 7 ∧ u.1 8 = v 8 ∧ u.1 9 = v 9 ∧ u.1 10 = v 10 ∧ u.1 31 = v 31 ∧ u.1 32 = v 32 ∧ ((r = 1) ∨ (r = 0))) (fun u => XW cy x0 x u.1 u.2) := by
  refine ctI_of (by decide) (Nat.le_of_ble_eq_true rfl) (fun p e s m below meth c A ls Q hx hb hml hts hown hE hP hD hA hl ret => ?_)
  have hM_v : KV [] v v := fun _ _ => rfl
  have hA_f : KF [13, 14] f f := fun _ _ => rfl
  have hown : s.vm.findClass RX8 = some m.cls := hown
  have hS : va_S A s.heap s.heap [] := va_S.rf
  have hl : lv_has ls 5 [(0, .ref (x 35)), (1, .int p1), (2, .int p2)] := hl
  refine lv_bipush (v := 99) hx hb dX8_fitsGrown_0 (by decide) ?_
  refine lv_aload_n hx hb dX8_fitsGrown_2 rfl (lv_at hl 0 rfl) ?_
  refine va_get (D := (dC, dI)) (ci := 8) (v := .ref (x 26)) (C := RX8) (T := TX8) (N := 7) hx hb hts inB_8 hown hE.1 hP 36 rfl rfl 0 (by decide) (hts _ k_467) (fun _ h9 => h9) rfl dX8_fitsGrown_3 ?_
  refine lv_iconst (v := 1) hx hb dX8_fitsGrown_6 (by decide) ?_
  refine lv_iconst (v := 0) hx hb dX8_fitsGrown_7 (by decide) ?_
  refine cbVi (n := 2) (rest := [.int 99]) hx hb hml hown hts hE hP hD hS hA (sX_X7_manPart_1 0 l dC dI cy x0 x 1 0 v f hIv ) k_1260 k_303 k_304 k_104 k_305 (by decide +kernel) ⟨Nat.le_of_ble_eq_true rfl, Nat.le_of_ble_eq_true rfl⟩ 27 7 rfl rfl (rfl) hl.1 rfl (Nat.le_of_ble_eq_true rfl) dX8_fitsGrown_8 (fun r1 u H locs hw hP hD hS => ?_)
  have hG2 := hw
  refine lv_iload_n hx hb dX8_fitsGrown_11 rfl (lv_at hl 1 rfl) ?_
  refine lv_iload_n hx hb dX8_fitsGrown_12 rfl (lv_at hl 2 rfl) ?_
  refine lv_imul hx hb dX8_fitsGrown_13 ?_
  refine lv_topi (fun t3 et3 => ?_)
  refine lv_iadd hx hb dX8_fitsGrown_14 ?_
  refine lv_topi (fun t4 et4 => ?_)
  refine va_mmin hx hb (by rw [hml]; exact hl.1.symm) hown (hts _ k_1261) (hts _ k_643) (hts _ k_119) (hts _ k_644) (Nat.le_of_ble_eq_true rfl) (Nat.le_of_ble_eq_true rfl) (Nat.le_of_ble_eq_true rfl) (Nat.le_of_ble_eq_true rfl) dX8_fitsGrown_15 ?_
  refine lv_topi (fun t5 et5 => ?_)
  have zt5 : t5.toInt = min (99) (t4.toInt) := by rw [et5]; exact mmin_i (by decide) rfl
  refine lv_istore_n (lv' := [(3, .int t5), (0, .ref (x 35)), (1, .int p1), (2, .int p2)]) hx hb dX8_fitsGrown_18 rfl hl (by decide) rfl (fun ls hl => ?_)
  refine lv_bipush (v := 99) hx hb dX8_fitsGrown_19 (by decide) ?_
  refine lv_aload_n hx hb dX8_fitsGrown_21 rfl (lv_at hl 1 rfl) ?_
  refine va_get (D := (dC, dI)) (ci := 8) (v := .ref (x 26)) (C := RX8) (T := TX8) (N := 7) hx hb hts inB_8 hown hE.1 hP 36 rfl rfl 0 (by decide) (hts _ k_467) (fun _ h9 => h9) rfl dX8_fitsGrown_22 ?_
  refine lv_iconst (v := 3) hx hb dX8_fitsGrown_25 (by decide) ?_
  refine lv_iconst (v := 0) hx hb dX8_fitsGrown_26 (by decide) ?_
  refine cbVi (n := 2) (rest := [.int 99]) hx hb hml hown hts hE hP hD hS hA (sX_X7_coatPart_1 0 l dC dI cy x0 x 3 0 v f hIv ) k_1262 k_311 k_312 k_104 k_313 (by decide +kernel) ⟨Nat.le_of_ble_eq_true rfl, Nat.le_of_ble_eq_true rfl⟩ 27 7 rfl rfl (rfl) hl.1 rfl (Nat.le_of_ble_eq_true rfl) dX8_fitsGrown_27 (fun r6 u H locs hw hP hD hS => ?_)
  have hG7 := hw
  refine lv_iload_n hx hb dX8_fitsGrown_30 rfl (lv_at hl 3 rfl) ?_
  refine lv_iadd hx hb dX8_fitsGrown_31 ?_
  refine lv_topi (fun t8 et8 => ?_)
  refine va_mmin hx hb (by rw [hml]; exact hl.1.symm) hown (hts _ k_1261) (hts _ k_643) (hts _ k_119) (hts _ k_644) (Nat.le_of_ble_eq_true rfl) (Nat.le_of_ble_eq_true rfl) (Nat.le_of_ble_eq_true rfl) (Nat.le_of_ble_eq_true rfl) dX8_fitsGrown_32 ?_
  refine lv_topi (fun t9 et9 => ?_)
  have zt9 : t9.toInt = min (99) (t8.toInt) := by rw [et9]; exact mmin_i (by decide) rfl
  refine lv_istore (lv' := [(4, .int t9), (3, .int t5), (0, .ref (x 35)), (1, .int p1), (2, .int p2)]) hx hb dX8_fitsGrown_35 hl (by decide) rfl (fun ls hl => ?_)
  refine lv_aload_n hx hb dX8_fitsGrown_37 rfl (lv_at hl 2 rfl) ?_
  refine va_get (D := (dC, dI)) (ci := 8) (v := .ref (x 26)) (C := RX8) (T := TX8) (N := 7) hx hb hts inB_8 hown hE.1 hP 36 rfl rfl 0 (by decide) (hts _ k_467) (fun _ h9 => h9) rfl dX8_fitsGrown_38 ?_
  refine va_getN (D := (dC, dI)) (ci := 7) (v := .ref (x 15)) (C := RX7) (T := TX7) (N := 10) hx hb hts inB_7 hown hE.1 hP 27 rfl rfl 2 (by decide) (va_Nw.use rfl (hE.2 _ k_208)) (fun _ h9 => h9) rfl dX8_fitsGrown_41 ?_
  refine lv_aload_n hx hb dX8_fitsGrown_44 rfl (lv_at hl 2 rfl) ?_
  refine va_get (D := (dC, dI)) (ci := 8) (v := .ref (x 26)) (C := RX8) (T := TX8) (N := 7) hx hb hts inB_8 hown hE.1 hP 36 rfl rfl 0 (by decide) (hts _ k_467) (fun _ h9 => h9) rfl dX8_fitsGrown_45 ?_
  refine lv_iconst (v := 0) hx hb dX8_fitsGrown_48 (by decide) ?_
  refine lv_iconst (v := 0) hx hb dX8_fitsGrown_49 (by decide) ?_
  refine cbVi (n := 2) (rest := [.ref (x 15)]) hx hb hml hown hts hE hP hD hS hA (sX_X7_manPart_1 0 l dC dI cy x0 x 0 0 v f hIv ) k_1260 k_303 k_304 k_104 k_305 (by decide +kernel) ⟨Nat.le_of_ble_eq_true rfl, Nat.le_of_ble_eq_true rfl⟩ 27 7 rfl rfl (rfl) hl.1 rfl (Nat.le_of_ble_eq_true rfl) dX8_fitsGrown_50 (fun r10 u H locs hw hP hD hS => ?_)
  have hG11 := hw
  refine lv_iload_n hx hb dX8_fitsGrown_53 rfl (lv_at hl 1 rfl) ?_
  refine lv_aload_n hx hb dX8_fitsGrown_54 rfl (lv_at hl 2 rfl) ?_
  refine va_get (D := (dC, dI)) (ci := 8) (v := .ref (x 26)) (C := RX8) (T := TX8) (N := 7) hx hb hts inB_8 hown hE.1 hP 36 rfl rfl 0 (by decide) (hts _ k_467) (fun _ h9 => h9) rfl dX8_fitsGrown_55 ?_
  refine lv_iconst (v := 0) hx hb dX8_fitsGrown_58 (by decide) ?_
  refine lv_iconst (v := 0) hx hb dX8_fitsGrown_59 (by decide) ?_
  refine cbVi (n := 2) (rest := [.int t5, .int r10, .ref (x 15)]) hx hb hml hown hts hE hP hD hS hA (sX_X7_coatPart_1 0 l dC dI cy x0 x 0 0 v f hIv ) k_1262 k_311 k_312 k_104 k_313 (by decide +kernel) ⟨Nat.le_of_ble_eq_true rfl, Nat.le_of_ble_eq_true rfl⟩ 27 7 rfl rfl (rfl) hl.1 rfl (Nat.le_of_ble_eq_true rfl) dX8_fitsGrown_60 (fun r12 u H locs hw hP hD hS => ?_)
  have hG13 := hw
  refine lv_aload_n hx hb dX8_fitsGrown_63 rfl (lv_at hl 2 rfl) ?_
  refine va_get (D := (dC, dI)) (ci := 8) (v := .ref (x 26)) (C := RX8) (T := TX8) (N := 7) hx hb hts inB_8 hown hE.1 hP 36 rfl rfl 0 (by decide) (hts _ k_467) (fun _ h9 => h9) rfl dX8_fitsGrown_64 ?_
  refine lv_iconst (v := 1) hx hb dX8_fitsGrown_67 (by decide) ?_
  refine lv_iconst (v := 0) hx hb dX8_fitsGrown_68 (by decide) ?_
  refine cbVi (n := 2) (rest := [.int r12, .int t5, .int r10, .ref (x 15)]) hx hb hml hown hts hE hP hD hS hA (sX_X7_coatPart_1 0 l dC dI cy x0 x 1 0 v f hIv ) k_1262 k_311 k_312 k_104 k_313 (by decide +kernel) ⟨Nat.le_of_ble_eq_true rfl, Nat.le_of_ble_eq_true rfl⟩ 27 7 rfl rfl (rfl) hl.1 rfl (Nat.le_of_ble_eq_true rfl) dX8_fitsGrown_69 (fun r14 u H locs hw hP hD hS => ?_)
  have hG15 := hw
  refine lv_iload hx hb dX8_fitsGrown_72 (lv_at hl 0 rfl) ?_
  refine lv_iload_n hx hb dX8_fitsGrown_74 rfl (lv_at hl 4 rfl) ?_
  refine cbVi (n := 6) (rest := []) hx hb hml hown hts hE hP hD hS hA (sX_X4_worth_1 0 l dC dI cy x0 x r10 t5 r12 r14 t9 p2 v f hIv ) k_1263 k_836 k_837 k_105 k_838 (by decide +kernel) ⟨Nat.le_of_ble_eq_true rfl, Nat.le_of_ble_eq_true rfl⟩ 16 4 rfl rfl (rfl) hl.1 rfl (Nat.le_of_ble_eq_true rfl) dX8_fitsGrown_75 (fun r16 u H locs hw hP hD hS => ?_)
  obtain ⟨hG17, hw⟩ := hw
  obtain ⟨v18, f19⟩ := u
  obtain ⟨kV_v18, kF_f19, hIv18, hk0_v18, hk1_v18, hk7_v18, hk8_v18, hk9_v18, hk10_v18, hk31_v18, hk32_v18⟩ := hw
  have hM_v18 : KV [] v18 v := KV.tr kV_v18 hM_v rfl
  have hA_f19 : KF [13, 14] f19 f := KF.tr kF_f19 hA_f rfl
  have hP : va_P (dC, dI) vwCl (XW cy x0 x v18 f19) H := hP
  have hD : va_D A (XW cy x0 x v18 f19) := hD
  have hq0_v18 : v18 0 = (v 0) := hk0_v18
  have hq1_v18 : v18 1 = (v 1) := hk1_v18
  have hq7_v18 : v18 7 = (v 7) := hk7_v18
  have hq8_v18 : v18 8 = (v 8) := hk8_v18
  have hq9_v18 : v18 9 = (v 9) := hk9_v18
  have hq10_v18 : v18 10 = (v 10) := hk10_v18
  have hq31_v18 : v18 31 = (v 31) := hk31_v18
  have hq32_v18 : v18 32 = (v 32) := hk32_v18
  refine lv_aload_n hx hb dX8_fitsGrown_78 rfl (lv_at hl 2 rfl) ?_
  refine va_get (D := (dC, dI)) (ci := 8) (v := .ref (x 26)) (C := RX8) (T := TX8) (N := 7) hx hb hts inB_8 hown hE.1 hP 36 rfl rfl 0 (by decide) (hts _ k_467) (fun _ h9 => h9) rfl dX8_fitsGrown_79 ?_
  refine va_getN (D := (dC, dI)) (ci := 7) (v := .int (v18 33)) (C := RX7) (T := TX7) (N := 10) hx hb hts inB_7 hown hE.1 hP 27 rfl rfl 5 (by decide) (va_Nw.use rfl (hE.2 _ k_231)) (fun _ h9 => h9) rfl dX8_fitsGrown_82 ?_
  refine lv_icmp_gt (tgt := 92) hx hb dX8_fitsGrown_85 (by decide) (fun c20 => ?_) (fun c20 => ?_)
  · skip
    have zc20 : (v18 33).toInt < r16.toInt := by rw [fa_lt] at c20; exact c20
    have rg21 := fb_rng r16
    have rg22 := fb_rng (v18 33)
    refine lv_iconst (v := 0) hx hb dX8_fitsGrown_92 (by decide) ?_
    exact ret 0 (v18, f19) _ _ _ _ _ _ rfl ⟨hM_v18, hA_f19, hIv18, hk0_v18, hk1_v18, hk7_v18, hk8_v18, hk9_v18, hk10_v18, hk31_v18, hk32_v18, (Or.inr rfl)⟩ hP hD hS dX8_fitsGrown_93 (Nat.le_refl _) (Nat.le_refl _)
  · skip
    have zc20 : ¬ ((v18 33).toInt < r16.toInt) := by rw [fa_lt] at c20; exact c20
    have rg23 := fb_rng r16
    have rg24 := fb_rng (v18 33)
    refine lv_iconst (v := 1) hx hb dX8_fitsGrown_88 (by decide) ?_
    refine lv_goto (tgt := 93) hx hb dX8_fitsGrown_89 (by decide) ?_
    exact ret 1 (v18, f19) _ _ _ _ _ _ rfl ⟨hM_v18, hA_f19, hIv18, hk0_v18, hk1_v18, hk7_v18, hk8_v18, hk9_v18, hk10_v18, hk31_v18, hk32_v18, (Or.inl rfl)⟩ hP hD hS dX8_fitsGrown_93 (Nat.le_refl _) (Nat.le_refl _)
set_option maxHeartbeats 4000000 in
set_option maxRecDepth 100000 in
theorem sX_X8_fittingBehind_1 (l : Launch) (dC : Nat → ClassId) (dI : Nat → Nat → Nat) (cy : Nat → ClassId) (x0 : Nat) (x : Nat → Nat) (p1 : Int32) (v : Nat → Int32) (f : Nat → Nat → Int32) (hIv : XI v)  : ctI l (dC, dI) cy yX8_fittingBehind cX8_fittingBehind 4 .int 4 135 0 0 ((Nat → Int32) × (Nat → Nat → Int32)) [.ref (x 35), .int p1] (XW cy x0 x v f) (fun r u => KV [] u.1 v ∧ KF [13, 14, 27] u.2 f ∧ XI u.1 ∧ u.1 0 = v 0 ∧ u.1 1 = v 1 ∧ u.1 7 = v 7 ∧ u.1 8 = v 8 ∧ u.1 9 = v 9 ∧ u.1 10 = v 10 ∧ u.1 31 = v 31 ∧ u.1 32 = v 32) (fun u => XW cy x0 x u.1 u.2) := by
  refine ctI_of (by decide) (Nat.le_of_ble_eq_true rfl) (fun p e s m below meth c A ls Q hx hb hml hts hown hE hP hD hA hl ret => ?_)
  have hM_v : KV [] v v := fun _ _ => rfl
  have hA_f : KF [13, 14, 27] f f := fun _ _ => rfl
  have hown : s.vm.findClass RX8 = some m.cls := hown
  have hS : va_S A s.heap s.heap [] := va_S.rf
  have hl : lv_has ls 4 [(0, .ref (x 35)), (1, .int p1)] := hl
  refine lv_iload_n hx hb dX8_fittingBehind_0 rfl (lv_at hl 1 rfl) ?_
  refine lv_if_lt (tgt := 10) hx hb dX8_fittingBehind_1 (by decide) (fun c1 => ?_) (fun c1 => ?_)
  · skip
    have zc1 : p1.toInt < 0 := by rw [fa_lt, show (0 : Int32).toInt = 0 from by decide] at c1; exact c1
    refine lv_iconst (v := 0) hx hb dX8_fittingBehind_10 (by decide) ?_
    exact ret 0 (v, f) _ _ _ _ _ _ rfl ⟨hM_v, hA_f, hIv, rfl, rfl, rfl, rfl, rfl, rfl, rfl, rfl⟩ hP hD hS dX8_fittingBehind_11 (Nat.le_refl _) (Nat.le_refl _)
  · skip
    have zc1 : ¬ (p1.toInt < 0) := by rw [fa_lt, show (0 : Int32).toInt = 0 from by decide] at c1; exact c1
    refine lv_iload_n hx hb dX8_fittingBehind_4 rfl (lv_at hl 1 rfl) ?_
    refine lv_bipush (v := 20) hx hb dX8_fittingBehind_5 (by decide) ?_
    refine lv_icmp_le (tgt := 12) hx hb dX8_fittingBehind_7 (by decide) (fun c2 => ?_) (fun c2 => ?_)
    · skip
      have zc2 : p1.toInt ≤ 20 := by rw [fa_le, show (20 : Int32).toInt = 20 from by decide] at c2; exact c2
      refine lv_aload_n hx hb dX8_fittingBehind_12 rfl (lv_at hl 0 rfl) ?_
      refine va_get (D := (dC, dI)) (ci := 8) (v := .ref (x 40)) (C := RX8) (T := TX8) (N := 7) hx hb hts inB_8 hown hE.1 hP 36 rfl rfl 6 (by decide) (hts _ k_474) (fun _ h9 => h9) rfl dX8_fittingBehind_13 ?_
      refine lv_iload_n hx hb dX8_fittingBehind_16 rfl (lv_at hl 1 rfl) ?_
      refine ldI hx hb hE hP 41 rfl (vp_in_iff.mpr ⟨by omega, by omega⟩) rfl rfl dX8_fittingBehind_17 ?_
      refine lv_topi (fun t3 et3 => ?_)
      refine lv_iconst (v := (-1)) hx hb dX8_fittingBehind_18 (by decide) ?_
      refine lv_icmp_ne (tgt := 60) hx hb dX8_fittingBehind_19 (by decide) (fun c4 => ?_) (fun c4 => ?_)
      · skip
        have zc4 : ¬ (t3.toInt = (-1)) := by rw [fa_eq, show ((-1) : Int32).toInt = -1 from by decide] at c4; exact c4
        refine lv_aload_n hx hb dX8_fittingBehind_60 rfl (lv_at hl 0 rfl) ?_
        refine va_get (D := (dC, dI)) (ci := 8) (v := .ref (x 40)) (C := RX8) (T := TX8) (N := 7) hx hb hts inB_8 hown hE.1 hP 36 rfl rfl 6 (by decide) (hts _ k_474) (fun _ h9 => h9) rfl dX8_fittingBehind_61 ?_
        refine lv_iload_n hx hb dX8_fittingBehind_64 rfl (lv_at hl 1 rfl) ?_
        refine ldI hx hb hE hP 41 rfl (vp_in_iff.mpr ⟨by omega, by omega⟩) rfl rfl dX8_fittingBehind_65 ?_
        refine lv_topi (fun t5 et5 => ?_)
        exact ret t5 (v, f) _ _ _ _ _ _ rfl ⟨hM_v, hA_f, hIv, rfl, rfl, rfl, rfl, rfl, rfl, rfl, rfl⟩ hP hD hS dX8_fittingBehind_66 (Nat.le_refl _) (Nat.le_refl _)
      · skip
        have zc4 : t3.toInt = (-1) := by rw [fa_eq, show ((-1) : Int32).toInt = -1 from by decide] at c4; exact c4
        refine lv_iconst (v := 0) hx hb dX8_fittingBehind_22 (by decide) ?_
        refine lv_istore_n (lv' := [(2, .int 0), (0, .ref (x 35)), (1, .int p1)]) hx hb dX8_fittingBehind_23 rfl hl (by decide) rfl (fun ls hl => ?_)
        refine lv_iconst (v := 0) hx hb dX8_fittingBehind_24 (by decide) ?_
        refine lv_istore_n (lv' := [(3, .int 0), (2, .int 0), (0, .ref (x 35)), (1, .int p1)]) hx hb dX8_fittingBehind_25 rfl hl (by decide) rfl (fun ls hl => ?_)
        have lp6 : ∀ (n6 : Nat) (l2_6 : Int32) (l3_6 : Int32) (v6 : Nat → Int32) (f6 : Nat → Nat → Int32), XI v6 → v6 0 = (v 0) → v6 1 = (v 1) → v6 7 = (v 7) → v6 8 = (v 8) → v6 9 = (v 9) → v6 10 = (v 10) → v6 31 = (v 31) → v6 32 = (v 32) → ((0 : Int) ≤ l3_6.toInt ∧ l3_6.toInt ≤ 2147483647) → KV [] v6 v → KF [13, 14, 27] f6 f → (2147483647 - l3_6.toInt).toNat < n6 → ∀ (H : Heap) (locs : List Loc) (ls : Array Slot), va_P (dC, dI) vwCl (XW cy x0 x v6 f6) H → va_D A (XW cy x0 x v6 f6) → va_S A s.heap H locs → lv_has ls 4 [(3, .int l3_6), (2, .int l2_6), (0, .ref (x 35)), (1, .int p1)] → W p l e { frames := 4, cells := 0, slots := 0, locals := 135 } s m ([.ref (x 35), .int p1] : List Value).toArray below meth c H locs 0 0 Q (F0 m 26 ls []) := by
          intro n6
          induction n6 with
          | zero => intro l2_6 l3_6 v6 f6 hIv6 hq0_v6 hq1_v6 hq7_v6 hq8_v6 hq9_v6 hq10_v6 hq31_v6 hq32_v6 hr3_6 hM_v6 hA_f6 hm; exact absurd hm (Nat.not_lt_zero _)
          | succ n6 ih6 =>
            intro l2_6 l3_6 v6 f6 hIv6 hq0_v6 hq1_v6 hq7_v6 hq8_v6 hq9_v6 hq10_v6 hq31_v6 hq32_v6 hr3_6 hM_v6 hA_f6 hm6 H locs ls hP hD hS hl
            refine lv_iload_n hx hb dX8_fittingBehind_26 rfl (lv_at hl 0 rfl) ?_
            refine lv_bipush (v := 30) hx hb dX8_fittingBehind_27 (by decide) ?_
            refine lv_icmp_gt (tgt := 53) hx hb dX8_fittingBehind_29 (by decide) (fun c7 => ?_) (fun c7 => ?_)
            · skip
              have zc7 : 30 < l3_6.toInt := by rw [fa_lt, show (30 : Int32).toInt = 30 from by decide] at c7; exact c7
              refine lv_aload_n hx hb dX8_fittingBehind_53 rfl (lv_at hl 2 rfl) ?_
              refine va_get (D := (dC, dI)) (ci := 8) (v := .ref (x 40)) (C := RX8) (T := TX8) (N := 7) hx hb hts inB_8 hown hE.1 hP 36 rfl rfl 6 (by decide) (hts _ k_474) (fun _ h9 => h9) rfl dX8_fittingBehind_54 ?_
              refine lv_iload_n hx hb dX8_fittingBehind_57 rfl (lv_at hl 3 rfl) ?_
              refine lv_iload_n hx hb dX8_fittingBehind_58 rfl (lv_at hl 1 rfl) ?_
              refine stI hx hb hE hP hD hS 41 rfl (vp_in_iff.mpr ⟨by omega, by omega⟩) rfl dX8_fittingBehind_59 (fun H locs hP hD hS => ?_)
              obtain ⟨f8, ef8, hP, hD⟩ : ∃ fz9, fz9 = upd2 f6 27 (upd (f6 27) p1.toNatClampNeg l2_6) ∧ va_P (dC, dI) vwCl (XW cy x0 x v6 fz9) H ∧ va_D A (XW cy x0 x v6 fz9) := ⟨_, rfl, hP, hD⟩
              have hA_f8 : KF [13, 14, 27] f8 f := by rw [ef8]; exact KF.up hA_f6 rfl
              refine lv_aload_n hx hb dX8_fittingBehind_60 rfl (lv_at hl 2 rfl) ?_
              refine va_get (D := (dC, dI)) (ci := 8) (v := .ref (x 40)) (C := RX8) (T := TX8) (N := 7) hx hb hts inB_8 hown hE.1 hP 36 rfl rfl 6 (by decide) (hts _ k_474) (fun _ h9 => h9) rfl dX8_fittingBehind_61 ?_
              refine lv_iload_n hx hb dX8_fittingBehind_64 rfl (lv_at hl 3 rfl) ?_
              refine ldI hx hb hE hP 41 rfl (vp_in_iff.mpr ⟨by omega, by omega⟩) rfl rfl dX8_fittingBehind_65 ?_
              refine lv_topi (fun t9 et9 => ?_)
              exact ret t9 (v6, f8) _ _ _ _ _ _ rfl ⟨hM_v6, hA_f8, hIv6, (show v6 0 = v 0 from hq0_v6), (show v6 1 = v 1 from hq1_v6), (show v6 7 = v 7 from hq7_v6), (show v6 8 = v 8 from hq8_v6), (show v6 9 = v 9 from hq9_v6), (show v6 10 = v 10 from hq10_v6), (show v6 31 = v 31 from hq31_v6), (show v6 32 = v 32 from hq32_v6)⟩ hP hD hS dX8_fittingBehind_66 (Nat.le_refl _) (Nat.le_refl _)
            · skip
              have zc7 : ¬ (30 < l3_6.toInt) := by rw [fa_lt, show (30 : Int32).toInt = 30 from by decide] at c7; exact c7
              refine lv_aload_n hx hb dX8_fittingBehind_32 rfl (lv_at hl 2 rfl) ?_
              refine lv_iload_n hx hb dX8_fittingBehind_33 rfl (lv_at hl 0 rfl) ?_
              refine lv_iload_n hx hb dX8_fittingBehind_34 rfl (lv_at hl 3 rfl) ?_
              refine cbVi (n := 2) (rest := []) hx hb hml hown hts hE hP hD hS hA (sX_X8_fitsGrown_1 l dC dI cy x0 x l3_6 p1 v6 f6 hIv6 ) k_1256 k_1258 k_39 k_112 k_1259 (by decide +kernel) ⟨Nat.le_of_ble_eq_true rfl, Nat.le_of_ble_eq_true rfl⟩ 36 8 rfl rfl (rfl) hl.1 rfl (Nat.le_of_ble_eq_true rfl) dX8_fittingBehind_35 (fun r10 u H locs hw hP hD hS => ?_)
              obtain ⟨v11, f12⟩ := u
              obtain ⟨kV_v11, kF_f12, hIv11, hk0_v11, hk1_v11, hk7_v11, hk8_v11, hk9_v11, hk10_v11, hk31_v11, hk32_v11, hw⟩ := hw
              have hM_v11 : KV [] v11 v := KV.tr kV_v11 hM_v6 rfl
              have hA_f12 : KF [13, 14, 27] f12 f := KF.tr kF_f12 hA_f6 rfl
              have hP : va_P (dC, dI) vwCl (XW cy x0 x v11 f12) H := hP
              have hD : va_D A (XW cy x0 x v11 f12) := hD
              have hq0_v11 : v11 0 = (v 0) := hk0_v11.trans hq0_v6
              have hq1_v11 : v11 1 = (v 1) := hk1_v11.trans hq1_v6
              have hq7_v11 : v11 7 = (v 7) := hk7_v11.trans hq7_v6
              have hq8_v11 : v11 8 = (v 8) := hk8_v11.trans hq8_v6
              have hq9_v11 : v11 9 = (v 9) := hk9_v11.trans hq9_v6
              have hq10_v11 : v11 10 = (v 10) := hk10_v11.trans hq10_v6
              have hq31_v11 : v11 31 = (v 31) := hk31_v11.trans hq31_v6
              have hq32_v11 : v11 32 = (v 32) := hk32_v11.trans hq32_v6
              rcases hw with ⟨g13⟩ | ⟨g13⟩
              · skip
                subst g13
                refine lv_if_eq (tgt := 47) hx hb dX8_fittingBehind_38 (by decide) (fun c0 => absurd c0 (by decide)) (fun _ => ?_)
                refine lv_iload_n hx hb dX8_fittingBehind_41 rfl (lv_at hl 1 rfl) ?_
                refine lv_iconst (v := 1) hx hb dX8_fittingBehind_42 (by decide) ?_
                refine lv_iload_n hx hb dX8_fittingBehind_43 rfl (lv_at hl 0 rfl) ?_
                refine lv_ishl hx hb dX8_fittingBehind_44 ?_
                refine lv_topi (fun t14 et14 => ?_)
                refine lv_ior hx hb dX8_fittingBehind_45 ?_
                refine lv_topi (fun t15 et15 => ?_)
                refine lv_istore_n (lv' := [(2, .int t15), (3, .int l3_6), (0, .ref (x 35)), (1, .int p1)]) hx hb dX8_fittingBehind_46 rfl hl (by decide) rfl (fun ls hl => ?_)
                obtain ⟨t16, et16⟩ : ∃ y : Int32, y = l3_6 + 1 := ⟨_, rfl⟩
                have rg17 := fb_rng l3_6
                have zt16 : t16.toInt = l3_6.toInt + 1 := by rw [et16]; exact add_i rfl (by decide) (by omega) (by omega)
                refine lv_iinc (v := t16) (lv' := [(3, .int t16), (2, .int t15), (0, .ref (x 35)), (1, .int p1)]) hx hb dX8_fittingBehind_47 hl (k := 1) rfl (by rw [et16]; rfl) (by decide) rfl (fun ls hl => ?_)
                refine lv_goto (tgt := 26) hx hb dX8_fittingBehind_50 (by decide) ?_
                have rg18 := fb_rng t16
                exact ih6 t15 t16 v11 f12 hIv11 hq0_v11 hq1_v11 hq7_v11 hq8_v11 hq9_v11 hq10_v11 hq31_v11 hq32_v11 ⟨show (0 : Int) ≤ t16.toInt by omega, show t16.toInt ≤ (2147483647 : Int) by omega⟩ hM_v11 hA_f12 (by show (2147483647 - t16.toInt).toNat < n6; omega) _ _ _ hP hD hS (lv_sub hl [0, 1, 2, 3] rfl)
              · skip
                subst g13
                refine lv_if_eq (tgt := 47) hx hb dX8_fittingBehind_38 (by decide) (fun _ => ?_) (fun c0 => absurd (by decide) c0)
                obtain ⟨t19, et19⟩ : ∃ y : Int32, y = l3_6 + 1 := ⟨_, rfl⟩
                have rg20 := fb_rng l3_6
                have zt19 : t19.toInt = l3_6.toInt + 1 := by rw [et19]; exact add_i rfl (by decide) (by omega) (by omega)
                refine lv_iinc (v := t19) (lv' := [(3, .int t19), (2, .int l2_6), (0, .ref (x 35)), (1, .int p1)]) hx hb dX8_fittingBehind_47 hl (k := 0) rfl (by rw [et19]; rfl) (by decide) rfl (fun ls hl => ?_)
                refine lv_goto (tgt := 26) hx hb dX8_fittingBehind_50 (by decide) ?_
                have rg21 := fb_rng t19
                exact ih6 l2_6 t19 v11 f12 hIv11 hq0_v11 hq1_v11 hq7_v11 hq8_v11 hq9_v11 hq10_v11 hq31_v11 hq32_v11 ⟨show (0 : Int) ≤ t19.toInt by omega, show t19.toInt ≤ (2147483647 : Int) by omega⟩ hM_v11 hA_f12 (by show (2147483647 - t19.toInt).toNat < n6; omega) _ _ _ hP hD hS (lv_sub hl [0, 1, 2, 3] rfl)
        exact lp6 _ 0 0 v f hIv rfl rfl rfl rfl rfl rfl rfl rfl ⟨by decide, by decide⟩ hM_v hA_f (Nat.lt_succ_self _) _ _ _ hP hD hS (lv_sub hl [0, 1, 2, 3] rfl)
    · skip
      have zc2 : ¬ (p1.toInt ≤ 20) := by rw [fa_le, show (20 : Int32).toInt = 20 from by decide] at c2; exact c2
      refine lv_iconst (v := 0) hx hb dX8_fittingBehind_10 (by decide) ?_
      exact ret 0 (v, f) _ _ _ _ _ _ rfl ⟨hM_v, hA_f, hIv, rfl, rfl, rfl, rfl, rfl, rfl, rfl, rfl⟩ hP hD hS dX8_fittingBehind_11 (Nat.le_refl _) (Nat.le_refl _)
