set_option maxHeartbeats 4000000 in
set_option maxRecDepth 100000 in
theorem sX_X10_letout_1 (NF : Nat) (l : Launch) (dC : Nat → ClassId) (dI : Nat → Nat → Nat) (cy : Nat → ClassId) (x0 : Nat) (x : Nat → Nat) (p1 : Int32) (p2 : Int32) (v : Nat → Int32) (f : Nat → Nat → Int32) (hIv : XI v)  : ctI l (dC, dI) cy yX10_letout cX10_letout 3 .int 4 166 0 0 ((Nat → Int32) × (Nat → Nat → Int32)) [.ref x0, .int p1, .int p2] (XW cy x0 x v f) (fun r u => gsX_X10_letout_1 NF p1 p2 v f = (r, u) ∧ KV [21, 22, 23] u.1 v ∧ KF [15, 17] u.2 f ∧ XI u.1 ∧ u.1 0 = v 0 ∧ u.1 1 = v 1 ∧ u.1 7 = v 7 ∧ u.1 8 = v 8 ∧ u.1 9 = v 9 ∧ u.1 10 = v 10 ∧ u.1 31 = v 31 ∧ u.1 32 = v 32) (fun u => XW cy x0 x u.1 u.2) := by
  refine ctI_of (by decide) (Nat.le_of_ble_eq_true rfl) (fun p e s m below meth c A ls Q hx hb hml hts hown hE hP hD hA hl ret => ?_)
  have hM_v : KV [21, 22, 23] v v := fun _ _ => rfl
  have hA_f : KF [15, 17] f f := fun _ _ => rfl
  have hown : s.vm.findClass RX10 = some m.cls := hown
  have hS : va_S A s.heap s.heap [] := va_S.rf
  have hl : lv_has ls 3 [(0, .ref x0), (1, .int p1), (2, .int p2)] := hl
  refine lv_iload_n hx hb dX10_letout_0 rfl (lv_at hl 2 rfl) ?_
  refine lv_iconst (v := 1) hx hb dX10_letout_1 (by decide) ?_
  refine lv_icmp_lt (tgt := 18) hx hb dX10_letout_2 (by decide) (fun c1 => ?_) (fun c1 => ?_)
  · skip
    have zc1 : p2.toInt < 1 := by rw [fa_lt, show (1 : Int32).toInt = 1 from by decide] at c1; exact c1
    refine lv_iconst (v := (-1)) hx hb dX10_letout_18 (by decide) ?_
    exact ret (-1) (v, f) _ _ _ _ _ _ rfl ⟨(gsX_X10_letout_1_q0 c1), hM_v, hA_f, hIv, rfl, rfl, rfl, rfl, rfl, rfl, rfl, rfl⟩ hP hD hS dX10_letout_19 (Nat.le_refl _) (Nat.le_refl _)
  · skip
    have zc1 : ¬ (p2.toInt < 1) := by rw [fa_lt, show (1 : Int32).toInt = 1 from by decide] at c1; exact c1
    refine lv_iload_n hx hb dX10_letout_5 rfl (lv_at hl 2 rfl) ?_
    refine lv_aload_n hx hb dX10_letout_6 rfl (lv_at hl 0 rfl) ?_
    refine va_get (D := (dC, dI)) (ci := 10) (v := .ref (x 21)) (C := RX10) (T := TX10) (N := 10) hx hb hts inB_10 hown hE.1 hP 0 rfl rfl 3 (by decide) (hts _ k_494) (fun _ h9 => h9) rfl dX10_letout_7 ?_
    refine lv_iconst (v := 2) hx hb dX10_letout_10 (by decide) ?_
    refine lv_iload_n hx hb dX10_letout_11 rfl (lv_at hl 1 rfl) ?_
    refine cbVi (n := 2) (rest := [.int p2]) hx hb hml hown hts hE hP hD hS hA (sX_X1_part_1 NF l dC dI cy x0 x 2 p1 v f hIv ) k_854 k_828 k_829 k_106 k_830 (by decide +kernel) ⟨Nat.le_of_ble_eq_true rfl, Nat.le_of_ble_eq_true rfl⟩ 22 1 rfl rfl (rfl) hl.1 rfl (Nat.le_of_ble_eq_true rfl) dX10_letout_12 (fun r2 u H locs hw hP hD hS => ?_)
    have hG3 := hw
    refine lv_icmp_le (tgt := 20) hx hb dX10_letout_15 (by decide) (fun c4 => ?_) (fun c4 => ?_)
    · skip
      have zc4 : p2.toInt ≤ r2.toInt := by rw [fa_le] at c4; exact c4
      have rg5 := fb_rng p2
      have rg6 := fb_rng r2
      refine lv_aload_n hx hb dX10_letout_20 rfl (lv_at hl 0 rfl) ?_
      refine lv_iload_n hx hb dX10_letout_21 rfl (lv_at hl 1 rfl) ?_
      refine lv_iload_n hx hb dX10_letout_22 rfl (lv_at hl 2 rfl) ?_
      refine cbVi (n := 2) (rest := []) hx hb hml hown hts hE hP hD hS hA (sX_X10_widen_1 NF l dC dI cy x0 x p1 p2 v f hIv ) k_900 k_902 k_21 k_101 k_903 (by decide +kernel) ⟨Nat.le_of_ble_eq_true rfl, Nat.le_of_ble_eq_true rfl⟩ 0 10 rfl rfl (rfl) hl.1 rfl (Nat.le_of_ble_eq_true rfl) dX10_letout_23 (fun r7 u H locs hw hP hD hS => ?_)
      obtain ⟨hG8, hw⟩ := hw
      obtain ⟨v9, f10⟩ := u
      obtain ⟨kV_v9, kF_f10, hIv9, hk0_v9, hk1_v9, hk7_v9, hk8_v9, hk9_v9, hk10_v9, hk31_v9, hk32_v9⟩ := hw
      have hM_v9 : KV [21, 22, 23] v9 v := KV.tr kV_v9 hM_v rfl
      have hA_f10 : KF [15, 17] f10 f := KF.tr kF_f10 hA_f rfl
      have hP : va_P (dC, dI) vwCl (XW cy x0 x v9 f10) H := hP
      have hD : va_D A (XW cy x0 x v9 f10) := hD
      have hq0_v9 : v9 0 = (v 0) := hk0_v9
      have hq1_v9 : v9 1 = (v 1) := hk1_v9
      have hq7_v9 : v9 7 = (v 7) := hk7_v9
      have hq8_v9 : v9 8 = (v 8) := hk8_v9
      have hq9_v9 : v9 9 = (v 9) := hk9_v9
      have hq10_v9 : v9 10 = (v 10) := hk10_v9
      have hq31_v9 : v9 31 = (v 31) := hk31_v9
      have hq32_v9 : v9 32 = (v 32) := hk32_v9
      exact ret r7 (v9, f10) _ _ _ _ _ _ rfl ⟨(gsX_X10_letout_1_q1 c1 hG3.symm c4 hG8), hM_v9, hA_f10, hIv9, hk0_v9, hk1_v9, hk7_v9, hk8_v9, hk9_v9, hk10_v9, hk31_v9, hk32_v9⟩ hP hD hS dX10_letout_26 (Nat.le_refl _) (Nat.le_refl _)
    · skip
      have zc4 : ¬ (p2.toInt ≤ r2.toInt) := by rw [fa_le] at c4; exact c4
      have rg11 := fb_rng p2
      have rg12 := fb_rng r2
      refine lv_iconst (v := (-1)) hx hb dX10_letout_18 (by decide) ?_
      exact ret (-1) (v, f) _ _ _ _ _ _ rfl ⟨(gsX_X10_letout_1_q2 c1 hG3.symm c4), hM_v, hA_f, hIv, rfl, rfl, rfl, rfl, rfl, rfl, rfl, rfl⟩ hP hD hS dX10_letout_19 (Nat.le_refl _) (Nat.le_refl _)
set_option maxHeartbeats 4000000 in
set_option maxRecDepth 100000 in
theorem sX_X10_takein_1 (NF : Nat) (l : Launch) (dC : Nat → ClassId) (dI : Nat → Nat → Nat) (cy : Nat → ClassId) (x0 : Nat) (x : Nat → Nat) (p1 : Int32) (p2 : Int32) (v : Nat → Int32) (f : Nat → Nat → Int32) (hIv : XI v)  : ctI l (dC, dI) cy yX10_takein cX10_takein 3 .int 4 166 0 0 ((Nat → Int32) × (Nat → Nat → Int32)) [.ref x0, .int p1, .int p2] (XW cy x0 x v f) (fun r u => gsX_X10_takein_1 NF p1 p2 v f = (r, u) ∧ KV [21, 22, 23] u.1 v ∧ KF [15, 17] u.2 f ∧ XI u.1 ∧ u.1 0 = v 0 ∧ u.1 1 = v 1 ∧ u.1 7 = v 7 ∧ u.1 8 = v 8 ∧ u.1 9 = v 9 ∧ u.1 10 = v 10 ∧ u.1 31 = v 31 ∧ u.1 32 = v 32) (fun u => XW cy x0 x u.1 u.2) := by
  refine ctI_of (by decide) (Nat.le_of_ble_eq_true rfl) (fun p e s m below meth c A ls Q hx hb hml hts hown hE hP hD hA hl ret => ?_)
  have hM_v : KV [21, 22, 23] v v := fun _ _ => rfl
  have hA_f : KF [15, 17] f f := fun _ _ => rfl
  have hown : s.vm.findClass RX10 = some m.cls := hown
  have hS : va_S A s.heap s.heap [] := va_S.rf
  have hl : lv_has ls 3 [(0, .ref x0), (1, .int p1), (2, .int p2)] := hl
  refine lv_iload_n hx hb dX10_takein_0 rfl (lv_at hl 2 rfl) ?_
  refine lv_iconst (v := 1) hx hb dX10_takein_1 (by decide) ?_
  refine lv_icmp_lt (tgt := 18) hx hb dX10_takein_2 (by decide) (fun c1 => ?_) (fun c1 => ?_)
  · skip
    have zc1 : p2.toInt < 1 := by rw [fa_lt, show (1 : Int32).toInt = 1 from by decide] at c1; exact c1
    refine lv_iconst (v := (-1)) hx hb dX10_takein_18 (by decide) ?_
    exact ret (-1) (v, f) _ _ _ _ _ _ rfl ⟨(gsX_X10_takein_1_q0 c1), hM_v, hA_f, hIv, rfl, rfl, rfl, rfl, rfl, rfl, rfl, rfl⟩ hP hD hS dX10_takein_19 (Nat.le_refl _) (Nat.le_refl _)
  · skip
    have zc1 : ¬ (p2.toInt < 1) := by rw [fa_lt, show (1 : Int32).toInt = 1 from by decide] at c1; exact c1
    refine lv_iload_n hx hb dX10_takein_5 rfl (lv_at hl 2 rfl) ?_
    refine lv_aload_n hx hb dX10_takein_6 rfl (lv_at hl 0 rfl) ?_
    refine va_get (D := (dC, dI)) (ci := 10) (v := .ref (x 21)) (C := RX10) (T := TX10) (N := 10) hx hb hts inB_10 hown hE.1 hP 0 rfl rfl 3 (by decide) (hts _ k_494) (fun _ h9 => h9) rfl dX10_takein_7 ?_
    refine lv_iconst (v := 1) hx hb dX10_takein_10 (by decide) ?_
    refine lv_iload_n hx hb dX10_takein_11 rfl (lv_at hl 1 rfl) ?_
    refine cbVi (n := 2) (rest := [.int p2]) hx hb hml hown hts hE hP hD hS hA (sX_X1_part_1 NF l dC dI cy x0 x 1 p1 v f hIv ) k_854 k_828 k_829 k_106 k_830 (by decide +kernel) ⟨Nat.le_of_ble_eq_true rfl, Nat.le_of_ble_eq_true rfl⟩ 22 1 rfl rfl (rfl) hl.1 rfl (Nat.le_of_ble_eq_true rfl) dX10_takein_12 (fun r2 u H locs hw hP hD hS => ?_)
    have hG3 := hw
    refine lv_icmp_le (tgt := 20) hx hb dX10_takein_15 (by decide) (fun c4 => ?_) (fun c4 => ?_)
    · skip
      have zc4 : p2.toInt ≤ r2.toInt := by rw [fa_le] at c4; exact c4
      have rg5 := fb_rng p2
      have rg6 := fb_rng r2
      refine lv_aload_n hx hb dX10_takein_20 rfl (lv_at hl 0 rfl) ?_
      refine lv_iload_n hx hb dX10_takein_21 rfl (lv_at hl 1 rfl) ?_
      refine lv_iload_n hx hb dX10_takein_22 rfl (lv_at hl 2 rfl) ?_
      refine lv_ineg hx hb dX10_takein_23 ?_
      refine lv_topi (fun t7 et7 => ?_)
      refine cbVi (n := 2) (rest := []) hx hb hml hown hts hE hP hD hS hA (sX_X10_widen_1 NF l dC dI cy x0 x p1 t7 v f hIv ) k_900 k_902 k_21 k_101 k_903 (by decide +kernel) ⟨Nat.le_of_ble_eq_true rfl, Nat.le_of_ble_eq_true rfl⟩ 0 10 rfl rfl (rfl) hl.1 rfl (Nat.le_of_ble_eq_true rfl) dX10_takein_24 (fun r8 u H locs hw hP hD hS => ?_)
      obtain ⟨hG9, hw⟩ := hw
      obtain ⟨v10, f11⟩ := u
      obtain ⟨kV_v10, kF_f11, hIv10, hk0_v10, hk1_v10, hk7_v10, hk8_v10, hk9_v10, hk10_v10, hk31_v10, hk32_v10⟩ := hw
      have hM_v10 : KV [21, 22, 23] v10 v := KV.tr kV_v10 hM_v rfl
      have hA_f11 : KF [15, 17] f11 f := KF.tr kF_f11 hA_f rfl
      have hP : va_P (dC, dI) vwCl (XW cy x0 x v10 f11) H := hP
      have hD : va_D A (XW cy x0 x v10 f11) := hD
      have hq0_v10 : v10 0 = (v 0) := hk0_v10
      have hq1_v10 : v10 1 = (v 1) := hk1_v10
      have hq7_v10 : v10 7 = (v 7) := hk7_v10
      have hq8_v10 : v10 8 = (v 8) := hk8_v10
      have hq9_v10 : v10 9 = (v 9) := hk9_v10
      have hq10_v10 : v10 10 = (v 10) := hk10_v10
      have hq31_v10 : v10 31 = (v 31) := hk31_v10
      have hq32_v10 : v10 32 = (v 32) := hk32_v10
      exact ret r8 (v10, f11) _ _ _ _ _ _ rfl ⟨(gsX_X10_takein_1_q1 c1 hG3.symm c4 et7 hG9), hM_v10, hA_f11, hIv10, hk0_v10, hk1_v10, hk7_v10, hk8_v10, hk9_v10, hk10_v10, hk31_v10, hk32_v10⟩ hP hD hS dX10_takein_27 (Nat.le_refl _) (Nat.le_refl _)
    · skip
      have zc4 : ¬ (p2.toInt ≤ r2.toInt) := by rw [fa_le] at c4; exact c4
      have rg12 := fb_rng p2
      have rg13 := fb_rng r2
      refine lv_iconst (v := (-1)) hx hb dX10_takein_18 (by decide) ?_
      exact ret (-1) (v, f) _ _ _ _ _ _ rfl ⟨(gsX_X10_takein_1_q2 c1 hG3.symm c4), hM_v, hA_f, hIv, rfl, rfl, rfl, rfl, rfl, rfl, rfl, rfl⟩ hP hD hS dX10_takein_19 (Nat.le_refl _) (Nat.le_refl _)
set_option maxHeartbeats 4000000 in
set_option maxRecDepth 100000 in
theorem sX_X10_hem_1 (NF : Nat) (l : Launch) (dC : Nat → ClassId) (dI : Nat → Nat → Nat) (cy : Nat → ClassId) (x0 : Nat) (x : Nat → Nat) (p1 : Int32) (p2 : Int32) (v : Nat → Int32) (f : Nat → Nat → Int32) (hIv : XI v)  : ctI l (dC, dI) cy yX10_hem cX10_hem 4 .int 3 142 0 0 ((Nat → Int32) × (Nat → Nat → Int32)) [.ref x0, .int p1, .int p2] (XW cy x0 x v f) (fun r u => gsX_X10_hem_1 NF p1 p2 v f = (r, u) ∧ KV [21, 22, 23] u.1 v ∧ KF [15, 17] u.2 f ∧ XI u.1 ∧ u.1 0 = v 0 ∧ u.1 1 = v 1 ∧ u.1 7 = v 7 ∧ u.1 8 = v 8 ∧ u.1 9 = v 9 ∧ u.1 10 = v 10 ∧ u.1 31 = v 31 ∧ u.1 32 = v 32) (fun u => XW cy x0 x u.1 u.2) := by
  refine ctI_of (by decide) (Nat.le_of_ble_eq_true rfl) (fun p e s m below meth c A ls Q hx hb hml hts hown hE hP hD hA hl ret => ?_)
  have hM_v : KV [21, 22, 23] v v := fun _ _ => rfl
  have hA_f : KF [15, 17] f f := fun _ _ => rfl
  have hown : s.vm.findClass RX10 = some m.cls := hown
  have hS : va_S A s.heap s.heap [] := va_S.rf
  have hl : lv_has ls 4 [(0, .ref x0), (1, .int p1), (2, .int p2)] := hl
  refine lv_aload_n hx hb dX10_hem_0 rfl (lv_at hl 0 rfl) ?_
  refine va_get (D := (dC, dI)) (ci := 10) (v := .ref (x 21)) (C := RX10) (T := TX10) (N := 10) hx hb hts inB_10 hown hE.1 hP 0 rfl rfl 3 (by decide) (hts _ k_494) (fun _ h9 => h9) rfl dX10_hem_1 ?_
  refine lv_iconst (v := 0) hx hb dX10_hem_4 (by decide) ?_
  refine lv_iload_n hx hb dX10_hem_5 rfl (lv_at hl 1 rfl) ?_
  refine cbVi (n := 2) (rest := []) hx hb hml hown hts hE hP hD hS hA (sX_X1_part_1 NF l dC dI cy x0 x 0 p1 v f hIv ) k_854 k_828 k_829 k_106 k_830 (by decide +kernel) ⟨Nat.le_of_ble_eq_true rfl, Nat.le_of_ble_eq_true rfl⟩ 22 1 rfl rfl (rfl) hl.1 rfl (Nat.le_of_ble_eq_true rfl) dX10_hem_6 (fun r1 u H locs hw hP hD hS => ?_)
  have hG2 := hw
  refine lv_istore_n (lv' := [(3, .int r1), (0, .ref x0), (1, .int p1), (2, .int p2)]) hx hb dX10_hem_9 rfl hl (by decide) rfl (fun ls hl => ?_)
  refine lv_iload_n hx hb dX10_hem_10 rfl (lv_at hl 3 rfl) ?_
  refine lv_iconst (v := 1) hx hb dX10_hem_11 (by decide) ?_
  refine lv_icmp_lt (tgt := 20) hx hb dX10_hem_12 (by decide) (fun c3 => ?_) (fun c3 => ?_)
  · skip
    have zc3 : p2.toInt < 1 := by rw [fa_lt, show (1 : Int32).toInt = 1 from by decide] at c3; exact c3
    refine lv_iconst (v := (-1)) hx hb dX10_hem_20 (by decide) ?_
    exact ret (-1) (v, f) _ _ _ _ _ _ rfl ⟨(gsX_X10_hem_1_q0 hG2.symm c3), hM_v, hA_f, hIv, rfl, rfl, rfl, rfl, rfl, rfl, rfl, rfl⟩ hP hD hS dX10_hem_21 (Nat.le_refl _) (Nat.le_refl _)
  · skip
    have zc3 : ¬ (p2.toInt < 1) := by rw [fa_lt, show (1 : Int32).toInt = 1 from by decide] at c3; exact c3
    refine lv_iload_n hx hb dX10_hem_15 rfl (lv_at hl 3 rfl) ?_
    refine lv_iload_n hx hb dX10_hem_16 rfl (lv_at hl 0 rfl) ?_
    refine lv_icmp_le (tgt := 22) hx hb dX10_hem_17 (by decide) (fun c4 => ?_) (fun c4 => ?_)
    · skip
      have zc4 : p2.toInt ≤ r1.toInt := by rw [fa_le] at c4; exact c4
      have rg5 := fb_rng p2
      have rg6 := fb_rng r1
      refine lv_aload_n hx hb dX10_hem_22 rfl (lv_at hl 1 rfl) ?_
      refine va_get (D := (dC, dI)) (ci := 10) (v := .ref (x 21)) (C := RX10) (T := TX10) (N := 10) hx hb hts inB_10 hown hE.1 hP 0 rfl rfl 3 (by decide) (hts _ k_494) (fun _ h9 => h9) rfl dX10_hem_23 ?_
      refine lv_iconst (v := 0) hx hb dX10_hem_26 (by decide) ?_
      refine lv_iload_n hx hb dX10_hem_27 rfl (lv_at hl 2 rfl) ?_
      refine lv_iload_n hx hb dX10_hem_28 rfl (lv_at hl 0 rfl) ?_
      refine lv_iload_n hx hb dX10_hem_29 rfl (lv_at hl 3 rfl) ?_
      refine lv_isub hx hb dX10_hem_30 ?_
      refine lv_topi (fun t7 et7 => ?_)
      have zt7 : t7.toInt = r1.toInt - p2.toInt := by rw [et7]; exact sub_i rfl rfl (by omega) (by omega)
      refine cbVv (n := 3) (rest := []) hx hb hml hown hts hE hP hD hS hA (sX_X1_setPart_1 NF l dC dI cy x0 x 0 p1 t7 v f hIv ) k_904 k_875 k_876 k_106 k_877 (by decide +kernel) ⟨Nat.le_of_ble_eq_true rfl, Nat.le_of_ble_eq_true rfl⟩ 22 1 rfl rfl (rfl) hl.1 rfl (Nat.le_of_ble_eq_true rfl) dX10_hem_31 (fun u H locs hw hP hD hS => ?_)
      obtain ⟨hG8, hw⟩ := hw
      obtain ⟨v9, f10⟩ := u
      obtain ⟨kV_v9, kF_f10, hIv9, hk0_v9, hk1_v9, hk7_v9, hk8_v9, hk9_v9, hk10_v9, hk31_v9, hk32_v9⟩ := hw
      have hM_v9 : KV [21, 22, 23] v9 v := KV.tr kV_v9 hM_v rfl
      have hA_f10 : KF [15, 17] f10 f := KF.tr kF_f10 hA_f rfl
      have hP : va_P (dC, dI) vwCl (XW cy x0 x v9 f10) H := hP
      have hD : va_D A (XW cy x0 x v9 f10) := hD
      have hq0_v9 : v9 0 = (v 0) := hk0_v9
      have hq1_v9 : v9 1 = (v 1) := hk1_v9
      have hq7_v9 : v9 7 = (v 7) := hk7_v9
      have hq8_v9 : v9 8 = (v 8) := hk8_v9
      have hq9_v9 : v9 9 = (v 9) := hk9_v9
      have hq10_v9 : v9 10 = (v 10) := hk10_v9
      have hq31_v9 : v9 31 = (v 31) := hk31_v9
      have hq32_v9 : v9 32 = (v 32) := hk32_v9
      refine lv_aload_n hx hb dX10_hem_34 rfl (lv_at hl 1 rfl) ?_
      refine va_get (D := (dC, dI)) (ci := 10) (v := .ref (x 20)) (C := RX10) (T := TX10) (N := 10) hx hb hts inB_10 hown hE.1 hP 0 rfl rfl 4 (by decide) (hts _ k_495) (fun _ h9 => h9) rfl dX10_hem_35 ?_
      refine cbVv (n := 0) (rest := []) hx hb hml hown hts hE hP hD hS hA (sX_X5_keepAct_1 NF l dC dI cy x0 x  v9 f10 hIv9 ) k_883 k_884 k_885 k_107 k_886 (by decide +kernel) ⟨Nat.le_of_ble_eq_true rfl, Nat.le_of_ble_eq_true rfl⟩ 21 5 rfl rfl (rfl) hl.1 rfl (Nat.le_of_ble_eq_true rfl) dX10_hem_38 (fun u H locs hw hP hD hS => ?_)
      obtain ⟨hG11, hw⟩ := hw
      obtain ⟨v12, f13⟩ := u
      obtain ⟨kV_v12, kF_f13, hIv12, hk0_v12, hk1_v12, hk7_v12, hk8_v12, hk9_v12, hk10_v12, hk31_v12, hk32_v12⟩ := hw
      have hM_v12 : KV [21, 22, 23] v12 v := KV.tr kV_v12 hM_v9 rfl
      have hA_f13 : KF [15, 17] f13 f := KF.tr kF_f13 hA_f10 rfl
      have hP : va_P (dC, dI) vwCl (XW cy x0 x v12 f13) H := hP
      have hD : va_D A (XW cy x0 x v12 f13) := hD
      have hq0_v12 : v12 0 = (v 0) := hk0_v12.trans hq0_v9
      have hq1_v12 : v12 1 = (v 1) := hk1_v12.trans hq1_v9
      have hq7_v12 : v12 7 = (v 7) := hk7_v12.trans hq7_v9
      have hq8_v12 : v12 8 = (v 8) := hk8_v12.trans hq8_v9
      have hq9_v12 : v12 9 = (v 9) := hk9_v12.trans hq9_v9
      have hq10_v12 : v12 10 = (v 10) := hk10_v12.trans hq10_v9
      have hq31_v12 : v12 31 = (v 31) := hk31_v12.trans hq31_v9
      have hq32_v12 : v12 32 = (v 32) := hk32_v12.trans hq32_v9
      refine lv_iload_n hx hb dX10_hem_41 rfl (lv_at hl 0 rfl) ?_
      refine lv_iload_n hx hb dX10_hem_42 rfl (lv_at hl 3 rfl) ?_
      refine lv_isub hx hb dX10_hem_43 ?_
      refine tI (y := t7) et7.symm ?_
      exact ret t7 (v12, f13) _ _ _ _ _ _ rfl ⟨(gsX_X10_hem_1_q1 hG2.symm c3 c4 et7 hG8 hG11), hM_v12, hA_f13, hIv12, (hk0_v12.trans hk0_v9), (hk1_v12.trans hk1_v9), (hk7_v12.trans hk7_v9), (hk8_v12.trans hk8_v9), (hk9_v12.trans hk9_v9), (hk10_v12.trans hk10_v9), (hk31_v12.trans hk31_v9), (hk32_v12.trans hk32_v9)⟩ hP hD hS dX10_hem_44 (Nat.le_refl _) (Nat.le_refl _)
    · skip
      have zc4 : ¬ (p2.toInt ≤ r1.toInt) := by rw [fa_le] at c4; exact c4
      have rg14 := fb_rng p2
      have rg15 := fb_rng r1
      refine lv_iconst (v := (-1)) hx hb dX10_hem_20 (by decide) ?_
      exact ret (-1) (v, f) _ _ _ _ _ _ rfl ⟨(gsX_X10_hem_1_q2 hG2.symm c3 c4), hM_v, hA_f, hIv, rfl, rfl, rfl, rfl, rfl, rfl, rfl, rfl⟩ hP hD hS dX10_hem_21 (Nat.le_refl _) (Nat.le_refl _)
set_option maxHeartbeats 4000000 in
set_option maxRecDepth 100000 in
theorem sX_X10_turn_1 (NF : Nat) (l : Launch) (dC : Nat → ClassId) (dI : Nat → Nat → Nat) (cy : Nat → ClassId) (x0 : Nat) (x : Nat → Nat) (p1 : Int32) (v : Nat → Int32) (f : Nat → Nat → Int32) (hIv : XI v)  : ctI l (dC, dI) cy yX10_turn cX10_turn 3 .int 3 142 0 0 ((Nat → Int32) × (Nat → Nat → Int32)) [.ref x0, .int p1] (XW cy x0 x v f) (fun r u => gsX_X10_turn_1 NF p1 v f = (r, u) ∧ KV [21, 22, 23] u.1 v ∧ KF [15, 17] u.2 f ∧ XI u.1 ∧ u.1 0 = v 0 ∧ u.1 1 = v 1 ∧ u.1 7 = v 7 ∧ u.1 8 = v 8 ∧ u.1 9 = v 9 ∧ u.1 10 = v 10 ∧ u.1 31 = v 31 ∧ u.1 32 = v 32) (fun u => XW cy x0 x u.1 u.2) := by
  refine ctI_of (by decide) (Nat.le_of_ble_eq_true rfl) (fun p e s m below meth c A ls Q hx hb hml hts hown hE hP hD hA hl ret => ?_)
  have hM_v : KV [21, 22, 23] v v := fun _ _ => rfl
  have hA_f : KF [15, 17] f f := fun _ _ => rfl
  have hown : s.vm.findClass RX10 = some m.cls := hown
  have hS : va_S A s.heap s.heap [] := va_S.rf
  have hl : lv_has ls 3 [(0, .ref x0), (1, .int p1)] := hl
  refine lv_aload_n hx hb dX10_turn_0 rfl (lv_at hl 0 rfl) ?_
  refine va_get (D := (dC, dI)) (ci := 10) (v := .ref (x 26)) (C := RX10) (T := TX10) (N := 10) hx hb hts inB_10 hown hE.1 hP 0 rfl rfl 2 (by decide) (hts _ k_493) (fun _ h9 => h9) rfl dX10_turn_1 ?_
  refine lv_iload_n hx hb dX10_turn_4 rfl (lv_at hl 1 rfl) ?_
  refine cbVi (n := 1) (rest := []) hx hb hml hown hts hE hP hD hS hA (sX_X7_hasCoat_1 NF l dC dI cy x0 x p1 v f hIv ) k_848 k_315 k_316 k_104 k_317 (by decide +kernel) ⟨Nat.le_of_ble_eq_true rfl, Nat.le_of_ble_eq_true rfl⟩ 27 7 rfl rfl (rfl) hl.1 rfl (Nat.le_of_ble_eq_true rfl) dX10_turn_5 (fun r1 u H locs hw hP hD hS => ?_)
  obtain ⟨hG2, hw⟩ := hw
  rcases hw with ⟨g3, g3_0, g3_1, g3_2⟩ | ⟨g3⟩
  · skip
    subst g3
    refine lv_if_eq (tgt := 23) hx hb dX10_turn_8 (by decide) (fun c0 => absurd c0 (by decide)) (fun _ => ?_)
    refine lv_aload_n hx hb dX10_turn_11 rfl (lv_at hl 0 rfl) ?_
    refine va_get (D := (dC, dI)) (ci := 10) (v := .ref (x 21)) (C := RX10) (T := TX10) (N := 10) hx hb hts inB_10 hown hE.1 hP 0 rfl rfl 3 (by decide) (hts _ k_494) (fun _ h9 => h9) rfl dX10_turn_12 ?_
    refine lv_iconst (v := 4) hx hb dX10_turn_15 (by decide) ?_
    refine lv_iload_n hx hb dX10_turn_16 rfl (lv_at hl 1 rfl) ?_
    refine cbVi (n := 2) (rest := []) hx hb hml hown hts hE hP hD hS hA (sX_X1_part_1 NF l dC dI cy x0 x 4 p1 v f hIv ) k_854 k_828 k_829 k_106 k_830 (by decide +kernel) ⟨Nat.le_of_ble_eq_true rfl, Nat.le_of_ble_eq_true rfl⟩ 22 1 rfl rfl (rfl) hl.1 rfl (Nat.le_of_ble_eq_true rfl) dX10_turn_17 (fun r4 u H locs hw hP hD hS => ?_)
    have hG5 := hw
    refine lv_if_eq (tgt := 25) hx hb dX10_turn_20 (by decide) (fun c6 => ?_) (fun c6 => ?_)
    · skip
      have zc6 : r4.toInt = 0 := by rw [fa_eq, show (0 : Int32).toInt = 0 from by decide] at c6; exact c6
      refine lv_aload_n hx hb dX10_turn_25 rfl (lv_at hl 0 rfl) ?_
      refine va_get (D := (dC, dI)) (ci := 10) (v := .ref (x 21)) (C := RX10) (T := TX10) (N := 10) hx hb hts inB_10 hown hE.1 hP 0 rfl rfl 3 (by decide) (hts _ k_494) (fun _ h9 => h9) rfl dX10_turn_26 ?_
      refine lv_iconst (v := 3) hx hb dX10_turn_29 (by decide) ?_
      refine lv_iload_n hx hb dX10_turn_30 rfl (lv_at hl 1 rfl) ?_
      refine cbVi (n := 2) (rest := []) hx hb hml hown hts hE hP hD hS hA (sX_X1_part_1 NF l dC dI cy x0 x 3 p1 v f hIv ) k_854 k_828 k_829 k_106 k_830 (by decide +kernel) ⟨Nat.le_of_ble_eq_true rfl, Nat.le_of_ble_eq_true rfl⟩ 22 1 rfl rfl (rfl) hl.1 rfl (Nat.le_of_ble_eq_true rfl) dX10_turn_31 (fun r7 u H locs hw hP hD hS => ?_)
      have hG8 := hw
      refine lv_istore_n (lv' := [(2, .int r7), (0, .ref x0), (1, .int p1)]) hx hb dX10_turn_34 rfl hl (by decide) rfl (fun ls hl => ?_)
      refine lv_aload_n hx hb dX10_turn_35 rfl (lv_at hl 1 rfl) ?_
      refine va_get (D := (dC, dI)) (ci := 10) (v := .ref (x 21)) (C := RX10) (T := TX10) (N := 10) hx hb hts inB_10 hown hE.1 hP 0 rfl rfl 3 (by decide) (hts _ k_494) (fun _ h9 => h9) rfl dX10_turn_36 ?_
      refine lv_iconst (v := 3) hx hb dX10_turn_39 (by decide) ?_
      refine lv_iload_n hx hb dX10_turn_40 rfl (lv_at hl 2 rfl) ?_
      refine lv_iconst (v := 0) hx hb dX10_turn_41 (by decide) ?_
      refine cbVv (n := 3) (rest := []) hx hb hml hown hts hE hP hD hS hA (sX_X1_setPart_1 NF l dC dI cy x0 x 3 p1 0 v f hIv ) k_904 k_875 k_876 k_106 k_877 (by decide +kernel) ⟨Nat.le_of_ble_eq_true rfl, Nat.le_of_ble_eq_true rfl⟩ 22 1 rfl rfl (rfl) hl.1 rfl (Nat.le_of_ble_eq_true rfl) dX10_turn_42 (fun u H locs hw hP hD hS => ?_)
      obtain ⟨hG9, hw⟩ := hw
      obtain ⟨v10, f11⟩ := u
      obtain ⟨kV_v10, kF_f11, hIv10, hk0_v10, hk1_v10, hk7_v10, hk8_v10, hk9_v10, hk10_v10, hk31_v10, hk32_v10⟩ := hw
      have hM_v10 : KV [21, 22, 23] v10 v := KV.tr kV_v10 hM_v rfl
      have hA_f11 : KF [15, 17] f11 f := KF.tr kF_f11 hA_f rfl
      have hP : va_P (dC, dI) vwCl (XW cy x0 x v10 f11) H := hP
      have hD : va_D A (XW cy x0 x v10 f11) := hD
      have hq0_v10 : v10 0 = (v 0) := hk0_v10
      have hq1_v10 : v10 1 = (v 1) := hk1_v10
      have hq7_v10 : v10 7 = (v 7) := hk7_v10
      have hq8_v10 : v10 8 = (v 8) := hk8_v10
      have hq9_v10 : v10 9 = (v 9) := hk9_v10
      have hq10_v10 : v10 10 = (v 10) := hk10_v10
      have hq31_v10 : v10 31 = (v 31) := hk31_v10
      have hq32_v10 : v10 32 = (v 32) := hk32_v10
      refine lv_aload_n hx hb dX10_turn_45 rfl (lv_at hl 1 rfl) ?_
      refine va_get (D := (dC, dI)) (ci := 10) (v := .ref (x 21)) (C := RX10) (T := TX10) (N := 10) hx hb hts inB_10 hown hE.1 hP 0 rfl rfl 3 (by decide) (hts _ k_494) (fun _ h9 => h9) rfl dX10_turn_46 ?_
      refine lv_iconst (v := 4) hx hb dX10_turn_49 (by decide) ?_
      refine lv_iload_n hx hb dX10_turn_50 rfl (lv_at hl 2 rfl) ?_
      refine lv_iconst (v := 1) hx hb dX10_turn_51 (by decide) ?_
      refine cbVv (n := 3) (rest := []) hx hb hml hown hts hE hP hD hS hA (sX_X1_setPart_1 NF l dC dI cy x0 x 4 p1 1 v10 f11 hIv10 ) k_904 k_875 k_876 k_106 k_877 (by decide +kernel) ⟨Nat.le_of_ble_eq_true rfl, Nat.le_of_ble_eq_true rfl⟩ 22 1 rfl rfl (rfl) hl.1 rfl (Nat.le_of_ble_eq_true rfl) dX10_turn_52 (fun u H locs hw hP hD hS => ?_)
      obtain ⟨hG12, hw⟩ := hw
      obtain ⟨v13, f14⟩ := u
      obtain ⟨kV_v13, kF_f14, hIv13, hk0_v13, hk1_v13, hk7_v13, hk8_v13, hk9_v13, hk10_v13, hk31_v13, hk32_v13⟩ := hw
      have hM_v13 : KV [21, 22, 23] v13 v := KV.tr kV_v13 hM_v10 rfl
      have hA_f14 : KF [15, 17] f14 f := KF.tr kF_f14 hA_f11 rfl
      have hP : va_P (dC, dI) vwCl (XW cy x0 x v13 f14) H := hP
      have hD : va_D A (XW cy x0 x v13 f14) := hD
      have hq0_v13 : v13 0 = (v 0) := hk0_v13.trans hq0_v10
      have hq1_v13 : v13 1 = (v 1) := hk1_v13.trans hq1_v10
      have hq7_v13 : v13 7 = (v 7) := hk7_v13.trans hq7_v10
      have hq8_v13 : v13 8 = (v 8) := hk8_v13.trans hq8_v10
      have hq9_v13 : v13 9 = (v 9) := hk9_v13.trans hq9_v10
      have hq10_v13 : v13 10 = (v 10) := hk10_v13.trans hq10_v10
      have hq31_v13 : v13 31 = (v 31) := hk31_v13.trans hq31_v10
      have hq32_v13 : v13 32 = (v 32) := hk32_v13.trans hq32_v10
      refine lv_aload_n hx hb dX10_turn_55 rfl (lv_at hl 1 rfl) ?_
      refine va_get (D := (dC, dI)) (ci := 10) (v := .ref (x 20)) (C := RX10) (T := TX10) (N := 10) hx hb hts inB_10 hown hE.1 hP 0 rfl rfl 4 (by decide) (hts _ k_495) (fun _ h9 => h9) rfl dX10_turn_56 ?_
      refine cbVv (n := 0) (rest := []) hx hb hml hown hts hE hP hD hS hA (sX_X5_keepAct_1 NF l dC dI cy x0 x  v13 f14 hIv13 ) k_883 k_884 k_885 k_107 k_886 (by decide +kernel) ⟨Nat.le_of_ble_eq_true rfl, Nat.le_of_ble_eq_true rfl⟩ 21 5 rfl rfl (rfl) hl.1 rfl (Nat.le_of_ble_eq_true rfl) dX10_turn_59 (fun u H locs hw hP hD hS => ?_)
      obtain ⟨hG15, hw⟩ := hw
      obtain ⟨v16, f17⟩ := u
      obtain ⟨kV_v16, kF_f17, hIv16, hk0_v16, hk1_v16, hk7_v16, hk8_v16, hk9_v16, hk10_v16, hk31_v16, hk32_v16⟩ := hw
      have hM_v16 : KV [21, 22, 23] v16 v := KV.tr kV_v16 hM_v13 rfl
      have hA_f17 : KF [15, 17] f17 f := KF.tr kF_f17 hA_f14 rfl
      have hP : va_P (dC, dI) vwCl (XW cy x0 x v16 f17) H := hP
      have hD : va_D A (XW cy x0 x v16 f17) := hD
      have hq0_v16 : v16 0 = (v 0) := hk0_v16.trans hq0_v13
      have hq1_v16 : v16 1 = (v 1) := hk1_v16.trans hq1_v13
      have hq7_v16 : v16 7 = (v 7) := hk7_v16.trans hq7_v13
      have hq8_v16 : v16 8 = (v 8) := hk8_v16.trans hq8_v13
      have hq9_v16 : v16 9 = (v 9) := hk9_v16.trans hq9_v13
      have hq10_v16 : v16 10 = (v 10) := hk10_v16.trans hq10_v13
      have hq31_v16 : v16 31 = (v 31) := hk31_v16.trans hq31_v13
      have hq32_v16 : v16 32 = (v 32) := hk32_v16.trans hq32_v13
      refine lv_iload_n hx hb dX10_turn_62 rfl (lv_at hl 0 rfl) ?_
      exact ret r7 (v16, f17) _ _ _ _ _ _ rfl ⟨(gsX_X10_turn_1_q0 hG2 hG5.symm c6 hG8.symm hG9 hG12 hG15), hM_v16, hA_f17, hIv16, (hk0_v16.trans (hk0_v13.trans hk0_v10)), (hk1_v16.trans (hk1_v13.trans hk1_v10)), (hk7_v16.trans (hk7_v13.trans hk7_v10)), (hk8_v16.trans (hk8_v13.trans hk8_v10)), (hk9_v16.trans (hk9_v13.trans hk9_v10)), (hk10_v16.trans (hk10_v13.trans hk10_v10)), (hk31_v16.trans (hk31_v13.trans hk31_v10)), (hk32_v16.trans (hk32_v13.trans hk32_v10))⟩ hP hD hS dX10_turn_63 (Nat.le_refl _) (Nat.le_refl _)
    · skip
      have zc6 : ¬ (r4.toInt = 0) := by rw [fa_eq, show (0 : Int32).toInt = 0 from by decide] at c6; exact c6
      refine lv_iconst (v := (-1)) hx hb dX10_turn_23 (by decide) ?_
      exact ret (-1) (v, f) _ _ _ _ _ _ rfl ⟨(gsX_X10_turn_1_q1 hG2 hG5.symm c6), hM_v, hA_f, hIv, rfl, rfl, rfl, rfl, rfl, rfl, rfl, rfl⟩ hP hD hS dX10_turn_24 (Nat.le_refl _) (Nat.le_refl _)
  · skip
    subst g3
    refine lv_if_eq (tgt := 23) hx hb dX10_turn_8 (by decide) (fun _ => ?_) (fun c0 => absurd (by decide) c0)
    refine lv_iconst (v := (-1)) hx hb dX10_turn_23 (by decide) ?_
    exact ret (-1) (v, f) _ _ _ _ _ _ rfl ⟨(gsX_X10_turn_1_q2 hG2), hM_v, hA_f, hIv, rfl, rfl, rfl, rfl, rfl, rfl, rfl, rfl⟩ hP hD hS dX10_turn_24 (Nat.le_refl _) (Nat.le_refl _)
set_option maxHeartbeats 4000000 in
set_option maxRecDepth 100000 in
theorem sX_X1_loadFrom_1 (NF : Nat) (l : Launch) (dC : Nat → ClassId) (dI : Nat → Nat → Nat) (cy : Nat → ClassId) (x0 : Nat) (x : Nat → Nat) (p2 : Int32) (v : Nat → Int32) (f : Nat → Nat → Int32) (hIv : XI v)  : ctV l (dC, dI) cy yX1_loadFrom cX1_loadFrom 3 1 100 0 0 ((Nat → Int32) × (Nat → Nat → Int32)) [.ref (x 21), .ref (x 24), .int p2] (XW cy x0 x v f) (fun u => gsX_X1_loadFrom_1 NF p2 v f = u ∧ KV [] u.1 v ∧ KF [15] u.2 f ∧ XI u.1 ∧ u.1 0 = v 0 ∧ u.1 1 = v 1 ∧ u.1 7 = v 7 ∧ u.1 8 = v 8 ∧ u.1 9 = v 9 ∧ u.1 10 = v 10 ∧ u.1 31 = v 31 ∧ u.1 32 = v 32) (fun u => XW cy x0 x u.1 u.2) := by
  refine ctV_of (by decide) (Nat.le_of_ble_eq_true rfl) (fun p e s m below meth c A ls Q hx hb hml hts hown hnm hE hP hD hA hl ret => ?_)
  have hM_v : KV [] v v := fun _ _ => rfl
  have hA_f : KF [15] f f := fun _ _ => rfl
  have hown : s.vm.findClass RX1 = some m.cls := hown
  have hS : va_S A s.heap s.heap [] := va_S.rf
  have hl : lv_has ls 3 [(0, .ref (x 21)), (1, .ref (x 24)), (2, .int p2)] := hl
  refine lv_iload_n hx hb dX1_loadFrom_0 rfl (lv_at hl 2 rfl) ?_
  refine lv_if_lt (tgt := 28) hx hb dX1_loadFrom_1 (by decide) (fun c1 => ?_) (fun c1 => ?_)
  · skip
    have zc1 : p2.toInt < 0 := by rw [fa_lt, show (0 : Int32).toInt = 0 from by decide] at c1; exact c1
    exact ret (v, f) _ _ _ _ _ _ ⟨(gsX_X1_loadFrom_1_q0 c1), hM_v, hA_f, hIv, rfl, rfl, rfl, rfl, rfl, rfl, rfl, rfl⟩ hP hD hS dX1_loadFrom_28 (Nat.le_refl _) (Nat.le_refl _)
  · skip
    have zc1 : ¬ (p2.toInt < 0) := by rw [fa_lt, show (0 : Int32).toInt = 0 from by decide] at c1; exact c1
    refine lv_iload_n hx hb dX1_loadFrom_4 rfl (lv_at hl 2 rfl) ?_
    refine lv_aload_n hx hb dX1_loadFrom_5 rfl (lv_at hl 1 rfl) ?_
    refine va_alen (v := 1804) hx hb hE.1 hP 25 1 rfl rfl rfl dX1_loadFrom_6 ?_
    refine lv_bipush (v := 44) hx hb dX1_loadFrom_7 (by decide) ?_
    refine lv_idiv hx hb dX1_loadFrom_9 (by decide) ?_
    refine tI (y := 41) (by decide) ?_
    refine lv_icmp_ge (tgt := 28) hx hb dX1_loadFrom_10 (by decide) (fun c2 => ?_) (fun c2 => ?_)
    · skip
      have zc2 : 41 ≤ p2.toInt := by rw [fa_le, show (41 : Int32).toInt = 41 from by decide] at c2; exact c2
      exact ret (v, f) _ _ _ _ _ _ ⟨(gsX_X1_loadFrom_1_q1 c1 c2), hM_v, hA_f, hIv, rfl, rfl, rfl, rfl, rfl, rfl, rfl, rfl⟩ hP hD hS dX1_loadFrom_28 (Nat.le_refl _) (Nat.le_refl _)
    · skip
      have zc2 : ¬ (41 ≤ p2.toInt) := by rw [fa_le, show (41 : Int32).toInt = 41 from by decide] at c2; exact c2
      refine lv_aload_n hx hb dX1_loadFrom_13 rfl (lv_at hl 1 rfl) ?_
      refine lv_iload_n hx hb dX1_loadFrom_14 rfl (lv_at hl 2 rfl) ?_
      refine lv_bipush (v := 44) hx hb dX1_loadFrom_15 (by decide) ?_
      refine lv_imul hx hb dX1_loadFrom_17 ?_
      refine lv_topi (fun t3 et3 => ?_)
      have rg4 := fb_rng p2
      have zt3 : t3.toInt = p2.toInt * 44 := by rw [et3]; exact mul_i rfl (by decide) (by omega) (by omega)
      refine lv_aload_n hx hb dX1_loadFrom_18 rfl (lv_at hl 0 rfl) ?_
      refine va_get (D := (dC, dI)) (ci := 1) (v := .ref (x 22)) (C := RX1) (T := TX1) (N := 2) hx hb hts inB_1 hown hE.1 hP 22 rfl rfl 1 (by decide) (hts _ k_319) (fun _ h9 => h9) rfl dX1_loadFrom_19 ?_
      refine lv_iconst (v := 0) hx hb dX1_loadFrom_22 (by decide) ?_
      refine lv_bipush (v := 44) hx hb dX1_loadFrom_23 (by decide) ?_
      refine cpE (zs := t3.toInt) (zd := 0) (zn := 44) hx hb (by rw [hml]; exact hl.1.symm) hown (hts _ k_335) (hts _ k_337) (hts _ k_336) (hts _ k_108) hE hP hD hS 25 23 rfl rfl rfl (by decide) (by decide) (by omega) (by omega) (by omega) (by omega) (by omega) (Nat.le_of_ble_eq_true rfl) (Nat.le_of_ble_eq_true rfl) dX1_loadFrom_25 (fun H locs hP hD hS => ?_)
      obtain ⟨f5, ef5, hP, hD⟩ : ∃ fz9, fz9 = upd2 f 15 (va_cpy (f 17) (f 15) (t3).toNatClampNeg (0 : Int32).toNatClampNeg (44 : Int32).toNatClampNeg) ∧ va_P (dC, dI) vwCl (XW cy x0 x v fz9) H ∧ va_D A (XW cy x0 x v fz9) := ⟨_, rfl, hP, hD⟩
      have hA_f5 : KF [15] f5 f := by rw [ef5]; exact KF.up hA_f rfl
      exact ret (v, f5) _ _ _ _ _ _ ⟨(gsX_X1_loadFrom_1_q2 c1 c2 et3 ef5), hM_v, hA_f5, hIv, rfl, rfl, rfl, rfl, rfl, rfl, rfl, rfl⟩ hP hD hS dX1_loadFrom_28 (Nat.le_refl _) (Nat.le_refl _)
set_option maxHeartbeats 4000000 in
set_option maxRecDepth 100000 in
theorem sX_X5_stepBack_1 (NF : Nat) (l : Launch) (dC : Nat → ClassId) (dI : Nat → Nat → Nat) (cy : Nat → ClassId) (x0 : Nat) (x : Nat → Nat)  (v : Nat → Int32) (f : Nat → Nat → Int32) (hIv : XI v)  : ctI l (dC, dI) cy yX5_stepBack cX5_stepBack 1 .boolean 2 122 0 0 ((Nat → Int32) × (Nat → Nat → Int32)) [.ref (x 20)] (XW cy x0 x v f) (fun r u => gsX_X5_stepBack_1 NF v f = (r, u) ∧ KV [22, 23] u.1 v ∧ KF [15] u.2 f ∧ XI u.1 ∧ u.1 0 = v 0 ∧ u.1 1 = v 1 ∧ u.1 7 = v 7 ∧ u.1 8 = v 8 ∧ u.1 9 = v 9 ∧ u.1 10 = v 10 ∧ u.1 31 = v 31 ∧ u.1 32 = v 32 ∧ ((r = 1) ∨ (r = 0))) (fun u => XW cy x0 x u.1 u.2) := by
  refine ctI_of (by decide) (Nat.le_of_ble_eq_true rfl) (fun p e s m below meth c A ls Q hx hb hml hts hown hE hP hD hA hl ret => ?_)
  have hM_v : KV [22, 23] v v := fun _ _ => rfl
  have hA_f : KF [15] f f := fun _ _ => rfl
  have hown : s.vm.findClass RX5 = some m.cls := hown
  have hS : va_S A s.heap s.heap [] := va_S.rf
  have hl : lv_has ls 1 [(0, .ref (x 20))] := hl
  refine lv_aload_n hx hb dX5_stepBack_0 rfl (lv_at hl 0 rfl) ?_
  refine va_get (D := (dC, dI)) (ci := 5) (v := .int (v 22)) (C := RX5) (T := TX5) (N := 7) hx hb hts inB_5 hown hE.1 hP 21 rfl rfl 5 (by decide) (hts _ k_343) (fun _ h9 => h9) rfl dX5_stepBack_1 ?_
  refine lv_if_ne (tgt := 9) hx hb dX5_stepBack_4 (by decide) (fun c1 => ?_) (fun c1 => ?_)
  · skip
    have zc1 : ¬ ((v 22).toInt = 0) := by rw [fa_eq, show (0 : Int32).toInt = 0 from by decide] at c1; exact c1
    refine lv_aload_n hx hb dX5_stepBack_9 rfl (lv_at hl 0 rfl) ?_
    refine lv_dup hx hb dX5_stepBack_10 rfl ?_
    refine va_get (D := (dC, dI)) (ci := 5) (v := .int (v 22)) (C := RX5) (T := TX5) (N := 7) hx hb hts inB_5 hown hE.1 hP 21 rfl rfl 5 (by decide) (hts _ k_343) (fun _ h9 => h9) rfl dX5_stepBack_11 ?_
    refine lv_iconst (v := 1) hx hb dX5_stepBack_14 (by decide) ?_
    refine lv_isub hx hb dX5_stepBack_15 ?_
    refine lv_topi (fun t2 et2 => ?_)
    refine va_put (D := (dC, dI)) (ci := 5) (v := .int t2) (ty := tyX5 5) (C := RX5) (T := TX5) (N := 7) hx hb hts inB_5 tyX5 tyX5_ok nmX5 hown hE.1 hP hD hS 21 rfl rfl 5 (by decide) (hts _ k_343) (fun _ h9 => h9) rfl (tyX5_ok 5 (by decide)) rfl rfl (Nat.le_of_ble_eq_true rfl) dX5_stepBack_16 (fun H locs hP hD hS => ?_)
    have hP : va_P (dC, dI) vwCl (XW cy x0 x (upd v 22 t2) f) H := hP
    have hD : va_D A (XW cy x0 x (upd v 22 t2) f) := hD
    refine lv_aload_n hx hb dX5_stepBack_19 rfl (lv_at hl 0 rfl) ?_
    refine lv_dup hx hb dX5_stepBack_20 rfl ?_
    refine va_get (D := (dC, dI)) (ci := 5) (v := .int (v 23)) (C := RX5) (T := TX5) (N := 7) hx hb hts inB_5 hown hE.1 hP 21 rfl rfl 6 (by decide) (hts _ k_345) (fun _ h9 => h9) rfl dX5_stepBack_21 ?_
    refine lv_iconst (v := 1) hx hb dX5_stepBack_24 (by decide) ?_
    refine lv_iadd hx hb dX5_stepBack_25 ?_
    refine lv_topi (fun t3 et3 => ?_)
    refine va_put (D := (dC, dI)) (ci := 5) (v := .int t3) (ty := tyX5 6) (C := RX5) (T := TX5) (N := 7) hx hb hts inB_5 tyX5 tyX5_ok nmX5 hown hE.1 hP hD hS 21 rfl rfl 6 (by decide) (hts _ k_345) (fun _ h9 => h9) rfl (tyX5_ok 6 (by decide)) rfl rfl (Nat.le_of_ble_eq_true rfl) dX5_stepBack_26 (fun H locs hP hD hS => ?_)
    have hP : va_P (dC, dI) vwCl (XW cy x0 x (upd (upd v 22 t2) 23 t3) f) H := hP
    have hD : va_D A (XW cy x0 x (upd (upd v 22 t2) 23 t3) f) := hD
    refine lv_aload_n hx hb dX5_stepBack_29 rfl (lv_at hl 0 rfl) ?_
    refine va_get (D := (dC, dI)) (ci := 5) (v := .ref (x 21)) (C := RX5) (T := TX5) (N := 7) hx hb hts inB_5 hown hE.1 hP 21 rfl rfl 0 (by decide) (hts _ k_338) (fun _ h9 => h9) rfl dX5_stepBack_30 ?_
    refine lv_aload_n hx hb dX5_stepBack_33 rfl (lv_at hl 0 rfl) ?_
    refine va_get (D := (dC, dI)) (ci := 5) (v := .ref (x 24)) (C := RX5) (T := TX5) (N := 7) hx hb hts inB_5 hown hE.1 hP 21 rfl rfl 1 (by decide) (hts _ k_339) (fun _ h9 => h9) rfl dX5_stepBack_34 ?_
    refine lv_aload_n hx hb dX5_stepBack_37 rfl (lv_at hl 0 rfl) ?_
    refine va_get (D := (dC, dI)) (ci := 5) (v := .int (v 21)) (C := RX5) (T := TX5) (N := 7) hx hb hts inB_5 hown hE.1 hP 21 rfl rfl 4 (by decide) (hts _ k_342) (fun _ h9 => h9) rfl dX5_stepBack_38 ?_
    refine lv_aload_n hx hb dX5_stepBack_41 rfl (lv_at hl 0 rfl) ?_
    refine va_get (D := (dC, dI)) (ci := 5) (v := .int t2) (C := RX5) (T := TX5) (N := 7) hx hb hts inB_5 hown hE.1 hP 21 rfl rfl 5 (by decide) (hts _ k_343) (fun _ h9 => h9) rfl dX5_stepBack_42 ?_
    refine lv_iadd hx hb dX5_stepBack_45 ?_
    refine lv_topi (fun t4 et4 => ?_)
    refine lv_bipush (v := 41) hx hb dX5_stepBack_46 (by decide) ?_
    refine lv_irem hx hb dX5_stepBack_48 (by decide) ?_
    refine lv_topi (fun t5 et5 => ?_)
    refine cbVv (n := 2) (rest := []) hx hb hml hown hts hE hP hD hS hA (sX_X1_loadFrom_1 NF l dC dI cy x0 x t5 (upd (upd v 22 t2) 23 t3) f (XI.upd (j := 23) (x := t3) (XI.upd (j := 22) (x := t2) hIv (rlo _) (rhi _)) (rlo _) (rhi _)) ) k_925 k_926 k_927 k_106 k_928 (by decide +kernel) ⟨Nat.le_of_ble_eq_true rfl, Nat.le_of_ble_eq_true rfl⟩ 22 1 rfl rfl (rfl) hl.1 rfl (Nat.le_of_ble_eq_true rfl) dX5_stepBack_49 (fun u H locs hw hP hD hS => ?_)
    obtain ⟨hG6, hw⟩ := hw
    obtain ⟨v7, f8⟩ := u
    obtain ⟨kV_v7, kF_f8, hIv7, hk0_v7, hk1_v7, hk7_v7, hk8_v7, hk9_v7, hk10_v7, hk31_v7, hk32_v7⟩ := hw
    have hM_v7 : KV [22, 23] v7 v := KV.tr kV_v7 (KV.up (j := 23) (x := t3) (KV.up (j := 22) (x := t2) hM_v rfl) rfl) rfl
    have hA_f8 : KF [15] f8 f := KF.tr kF_f8 hA_f rfl
    have hP : va_P (dC, dI) vwCl (XW cy x0 x v7 f8) H := hP
    have hD : va_D A (XW cy x0 x v7 f8) := hD
    have hq0_v7 : v7 0 = (v 0) := hk0_v7
    have hq1_v7 : v7 1 = (v 1) := hk1_v7
    have hq7_v7 : v7 7 = (v 7) := hk7_v7
    have hq8_v7 : v7 8 = (v 8) := hk8_v7
    have hq9_v7 : v7 9 = (v 9) := hk9_v7
    have hq10_v7 : v7 10 = (v 10) := hk10_v7
    have hq31_v7 : v7 31 = (v 31) := hk31_v7
    have hq32_v7 : v7 32 = (v 32) := hk32_v7
    refine lv_iconst (v := 1) hx hb dX5_stepBack_52 (by decide) ?_
    exact ret 1 (v7, f8) _ _ _ _ _ _ rfl ⟨(gsX_X5_stepBack_1_q0 c1 et2 et3 et4 et5 hG6), hM_v7, hA_f8, hIv7, hk0_v7, hk1_v7, hk7_v7, hk8_v7, hk9_v7, hk10_v7, hk31_v7, hk32_v7, (Or.inl rfl)⟩ hP hD hS dX5_stepBack_53 (Nat.le_refl _) (Nat.le_refl _)
  · skip
    have zc1 : (v 22).toInt = 0 := by rw [fa_eq, show (0 : Int32).toInt = 0 from by decide] at c1; exact c1
    refine lv_iconst (v := 0) hx hb dX5_stepBack_7 (by decide) ?_
    exact ret 0 (v, f) _ _ _ _ _ _ rfl ⟨(gsX_X5_stepBack_1_q1 c1), hM_v, hA_f, hIv, rfl, rfl, rfl, rfl, rfl, rfl, rfl, rfl, (Or.inr rfl)⟩ hP hD hS dX5_stepBack_8 (Nat.le_refl _) (Nat.le_refl _)
set_option maxHeartbeats 4000000 in
set_option maxRecDepth 100000 in
theorem sX_X10_undo_1 (NF : Nat) (l : Launch) (dC : Nat → ClassId) (dI : Nat → Nat → Nat) (cy : Nat → ClassId) (x0 : Nat) (x : Nat → Nat)  (v : Nat → Int32) (f : Nat → Nat → Int32) (hIv : XI v)  : ctI l (dC, dI) cy yX10_undo cX10_undo 1 .boolean 3 142 0 0 ((Nat → Int32) × (Nat → Nat → Int32)) [.ref x0] (XW cy x0 x v f) (fun r u => gsX_X10_undo_1 NF v f = (r, u) ∧ KV [22, 23] u.1 v ∧ KF [15] u.2 f ∧ XI u.1 ∧ u.1 0 = v 0 ∧ u.1 1 = v 1 ∧ u.1 7 = v 7 ∧ u.1 8 = v 8 ∧ u.1 9 = v 9 ∧ u.1 10 = v 10 ∧ u.1 31 = v 31 ∧ u.1 32 = v 32 ∧ ((r = 1) ∨ (r = 0))) (fun u => XW cy x0 x u.1 u.2) := by
  refine ctI_of (by decide) (Nat.le_of_ble_eq_true rfl) (fun p e s m below meth c A ls Q hx hb hml hts hown hE hP hD hA hl ret => ?_)
  have hM_v : KV [22, 23] v v := fun _ _ => rfl
  have hA_f : KF [15] f f := fun _ _ => rfl
  have hown : s.vm.findClass RX10 = some m.cls := hown
  have hS : va_S A s.heap s.heap [] := va_S.rf
  have hl : lv_has ls 1 [(0, .ref x0)] := hl
  refine lv_aload_n hx hb dX10_undo_0 rfl (lv_at hl 0 rfl) ?_
  refine va_get (D := (dC, dI)) (ci := 10) (v := .ref (x 20)) (C := RX10) (T := TX10) (N := 10) hx hb hts inB_10 hown hE.1 hP 0 rfl rfl 4 (by decide) (hts _ k_495) (fun _ h9 => h9) rfl dX10_undo_1 ?_
  refine cbVi (n := 0) (rest := []) hx hb hml hown hts hE hP hD hS hA (sX_X5_stepBack_1 NF l dC dI cy x0 x  v f hIv ) k_921 k_922 k_923 k_107 k_924 (by decide +kernel) ⟨Nat.le_of_ble_eq_true rfl, Nat.le_of_ble_eq_true rfl⟩ 21 5 rfl rfl (rfl) hl.1 rfl (Nat.le_of_ble_eq_true rfl) dX10_undo_4 (fun r1 u H locs hw hP hD hS => ?_)
  obtain ⟨hG2, hw⟩ := hw
  obtain ⟨v3, f4⟩ := u
  obtain ⟨kV_v3, kF_f4, hIv3, hk0_v3, hk1_v3, hk7_v3, hk8_v3, hk9_v3, hk10_v3, hk31_v3, hk32_v3, hw⟩ := hw
  have hM_v3 : KV [22, 23] v3 v := KV.tr kV_v3 hM_v rfl
  have hA_f4 : KF [15] f4 f := KF.tr kF_f4 hA_f rfl
  have hP : va_P (dC, dI) vwCl (XW cy x0 x v3 f4) H := hP
  have hD : va_D A (XW cy x0 x v3 f4) := hD
  have hq0_v3 : v3 0 = (v 0) := hk0_v3
  have hq1_v3 : v3 1 = (v 1) := hk1_v3
  have hq7_v3 : v3 7 = (v 7) := hk7_v3
  have hq8_v3 : v3 8 = (v 8) := hk8_v3
  have hq9_v3 : v3 9 = (v 9) := hk9_v3
  have hq10_v3 : v3 10 = (v 10) := hk10_v3
  have hq31_v3 : v3 31 = (v 31) := hk31_v3
  have hq32_v3 : v3 32 = (v 32) := hk32_v3
  rcases hw with ⟨g5⟩ | ⟨g5⟩
  · skip
    subst g5
    exact ret 1 (v3, f4) _ _ _ _ _ _ rfl ⟨(gsX_X10_undo_1_q0 hG2), hM_v3, hA_f4, hIv3, hk0_v3, hk1_v3, hk7_v3, hk8_v3, hk9_v3, hk10_v3, hk31_v3, hk32_v3, (Or.inl rfl)⟩ hP hD hS dX10_undo_7 (Nat.le_refl _) (Nat.le_refl _)
  · skip
    subst g5
    exact ret 0 (v3, f4) _ _ _ _ _ _ rfl ⟨(gsX_X10_undo_1_q1 hG2), hM_v3, hA_f4, hIv3, hk0_v3, hk1_v3, hk7_v3, hk8_v3, hk9_v3, hk10_v3, hk31_v3, hk32_v3, (Or.inr rfl)⟩ hP hD hS dX10_undo_7 (Nat.le_refl _) (Nat.le_refl _)
