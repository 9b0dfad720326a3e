set_option maxHeartbeats 4000000 in
set_option maxRecDepth 100000 in
theorem sX_X10_turn_1 (l : Launch) (dC : Nat → ClassId) (dI : Nat → Nat → Nat) (cy : Nat → ClassId) (x0 : Nat) (x : Nat → Nat) (p1 : Int32) (v : Nat → Int32) (f : Nat → Nat → Int32) (hIv : XI v)  : ctI l (dC, dI) cy yX10_turn cX10_turn 3 .int 3 142 0 0 ((Nat → Int32) × (Nat → Nat → Int32)) [.ref x0, .int p1] (XW cy x0 x v f) (fun r u => KV [21, 22, 23] u.1 v ∧ KF [15, 17] u.2 f ∧ XI u.1 ∧ u.1 0 = v 0 ∧ u.1 1 = v 1 ∧ u.1 7 = v 7 ∧ u.1 8 = v 8 ∧ u.1 9 = v 9 ∧ u.1 10 = v 10 ∧ u.1 31 = v 31 ∧ u.1 32 = v 32) (fun u => XW cy x0 x u.1 u.2) := by
  refine ctI_of (by decide) (Nat.le_of_ble_eq_true rfl) (fun p e s m below meth c A ls Q hx hb hml hts hown hE hP hD hA hl ret => ?_)
  have hM_v : KV [21, 22, 23] v v := fun _ _ => rfl
  have hA_f : KF [15, 17] f f := fun _ _ => rfl
  have hown : s.vm.findClass RX10 = some m.cls := hown
  have hS : va_S A s.heap s.heap [] := va_S.rf
  have hl : lv_has ls 3 [(0, .ref x0), (1, .int p1)] := hl
  refine lv_aload_n hx hb dX10_turn_0 rfl (lv_at hl 0 rfl) ?_
  refine va_get (D := (dC, dI)) (ci := 10) (v := .ref (x 26)) (C := RX10) (T := TX10) (N := 10) hx hb hts inB_10 hown hE.1 hP 0 rfl rfl 2 (by decide) (hts _ k_493) (fun _ h9 => h9) rfl dX10_turn_1 ?_
  refine lv_iload_n hx hb dX10_turn_4 rfl (lv_at hl 1 rfl) ?_
  refine cbVi (n := 1) (rest := []) hx hb hml hown hts hE hP hD hS hA (sX_X7_hasCoat_1 0 l dC dI cy x0 x p1 v f hIv ) k_848 k_315 k_316 k_104 k_317 (by decide +kernel) ⟨Nat.le_of_ble_eq_true rfl, Nat.le_of_ble_eq_true rfl⟩ 27 7 rfl rfl (rfl) hl.1 rfl (Nat.le_of_ble_eq_true rfl) dX10_turn_5 (fun r1 u H locs hw hP hD hS => ?_)
  obtain ⟨hG2, hw⟩ := hw
  rcases hw with ⟨g3, g3_0, g3_1, g3_2⟩ | ⟨g3⟩
  · skip
    subst g3
    refine lv_if_eq (tgt := 23) hx hb dX10_turn_8 (by decide) (fun c0 => absurd c0 (by decide)) (fun _ => ?_)
    refine lv_aload_n hx hb dX10_turn_11 rfl (lv_at hl 0 rfl) ?_
    refine va_get (D := (dC, dI)) (ci := 10) (v := .ref (x 21)) (C := RX10) (T := TX10) (N := 10) hx hb hts inB_10 hown hE.1 hP 0 rfl rfl 3 (by decide) (hts _ k_494) (fun _ h9 => h9) rfl dX10_turn_12 ?_
    refine lv_iconst (v := 4) hx hb dX10_turn_15 (by decide) ?_
    refine lv_iload_n hx hb dX10_turn_16 rfl (lv_at hl 1 rfl) ?_
    refine cbVi (n := 2) (rest := []) hx hb hml hown hts hE hP hD hS hA (sX_X1_part_1 l dC dI cy x0 x 4 p1 v f hIv ) k_854 k_828 k_829 k_106 k_830 (by decide +kernel) ⟨Nat.le_of_ble_eq_true rfl, Nat.le_of_ble_eq_true rfl⟩ 22 1 rfl rfl (rfl) hl.1 rfl (Nat.le_of_ble_eq_true rfl) dX10_turn_17 (fun r4 u H locs hw hP hD hS => ?_)
    refine lv_if_eq (tgt := 25) hx hb dX10_turn_20 (by decide) (fun c5 => ?_) (fun c5 => ?_)
    · skip
      have zc5 : r4.toInt = 0 := by rw [fa_eq, show (0 : Int32).toInt = 0 from by decide] at c5; exact c5
      refine lv_aload_n hx hb dX10_turn_25 rfl (lv_at hl 0 rfl) ?_
      refine va_get (D := (dC, dI)) (ci := 10) (v := .ref (x 21)) (C := RX10) (T := TX10) (N := 10) hx hb hts inB_10 hown hE.1 hP 0 rfl rfl 3 (by decide) (hts _ k_494) (fun _ h9 => h9) rfl dX10_turn_26 ?_
      refine lv_iconst (v := 3) hx hb dX10_turn_29 (by decide) ?_
      refine lv_iload_n hx hb dX10_turn_30 rfl (lv_at hl 1 rfl) ?_
      refine cbVi (n := 2) (rest := []) hx hb hml hown hts hE hP hD hS hA (sX_X1_part_1 l dC dI cy x0 x 3 p1 v f hIv ) k_854 k_828 k_829 k_106 k_830 (by decide +kernel) ⟨Nat.le_of_ble_eq_true rfl, Nat.le_of_ble_eq_true rfl⟩ 22 1 rfl rfl (rfl) hl.1 rfl (Nat.le_of_ble_eq_true rfl) dX10_turn_31 (fun r6 u H locs hw hP hD hS => ?_)
      refine lv_istore_n (lv' := [(2, .int r6), (0, .ref x0), (1, .int p1)]) hx hb dX10_turn_34 rfl hl (by decide) rfl (fun ls hl => ?_)
      refine lv_aload_n hx hb dX10_turn_35 rfl (lv_at hl 1 rfl) ?_
      refine va_get (D := (dC, dI)) (ci := 10) (v := .ref (x 21)) (C := RX10) (T := TX10) (N := 10) hx hb hts inB_10 hown hE.1 hP 0 rfl rfl 3 (by decide) (hts _ k_494) (fun _ h9 => h9) rfl dX10_turn_36 ?_
      refine lv_iconst (v := 3) hx hb dX10_turn_39 (by decide) ?_
      refine lv_iload_n hx hb dX10_turn_40 rfl (lv_at hl 2 rfl) ?_
      refine lv_iconst (v := 0) hx hb dX10_turn_41 (by decide) ?_
      refine cbVv (n := 3) (rest := []) hx hb hml hown hts hE hP hD hS hA (sX_X1_setPart_1 l dC dI cy x0 x 3 p1 0 v f hIv ) k_904 k_875 k_876 k_106 k_877 (by decide +kernel) ⟨Nat.le_of_ble_eq_true rfl, Nat.le_of_ble_eq_true rfl⟩ 22 1 rfl rfl (rfl) hl.1 rfl (Nat.le_of_ble_eq_true rfl) dX10_turn_42 (fun u H locs hw hP hD hS => ?_)
      obtain ⟨v7, f8⟩ := u
      obtain ⟨kV_v7, kF_f8, hIv7, hk0_v7, hk1_v7, hk7_v7, hk8_v7, hk9_v7, hk10_v7, hk31_v7, hk32_v7⟩ := hw
      have hM_v7 : KV [21, 22, 23] v7 v := KV.tr kV_v7 hM_v rfl
      have hA_f8 : KF [15, 17] f8 f := KF.tr kF_f8 hA_f rfl
      have hP : va_P (dC, dI) vwCl (XW cy x0 x v7 f8) H := hP
      have hD : va_D A (XW cy x0 x v7 f8) := hD
      have hq0_v7 : v7 0 = (v 0) := hk0_v7
      have hq1_v7 : v7 1 = (v 1) := hk1_v7
      have hq7_v7 : v7 7 = (v 7) := hk7_v7
      have hq8_v7 : v7 8 = (v 8) := hk8_v7
      have hq9_v7 : v7 9 = (v 9) := hk9_v7
      have hq10_v7 : v7 10 = (v 10) := hk10_v7
      have hq31_v7 : v7 31 = (v 31) := hk31_v7
      have hq32_v7 : v7 32 = (v 32) := hk32_v7
      refine lv_aload_n hx hb dX10_turn_45 rfl (lv_at hl 1 rfl) ?_
      refine va_get (D := (dC, dI)) (ci := 10) (v := .ref (x 21)) (C := RX10) (T := TX10) (N := 10) hx hb hts inB_10 hown hE.1 hP 0 rfl rfl 3 (by decide) (hts _ k_494) (fun _ h9 => h9) rfl dX10_turn_46 ?_
      refine lv_iconst (v := 4) hx hb dX10_turn_49 (by decide) ?_
      refine lv_iload_n hx hb dX10_turn_50 rfl (lv_at hl 2 rfl) ?_
      refine lv_iconst (v := 1) hx hb dX10_turn_51 (by decide) ?_
      refine cbVv (n := 3) (rest := []) hx hb hml hown hts hE hP hD hS hA (sX_X1_setPart_1 l dC dI cy x0 x 4 p1 1 v7 f8 hIv7 ) k_904 k_875 k_876 k_106 k_877 (by decide +kernel) ⟨Nat.le_of_ble_eq_true rfl, Nat.le_of_ble_eq_true rfl⟩ 22 1 rfl rfl (rfl) hl.1 rfl (Nat.le_of_ble_eq_true rfl) dX10_turn_52 (fun u H locs hw hP hD hS => ?_)
      obtain ⟨v9, f10⟩ := u
      obtain ⟨kV_v9, kF_f10, hIv9, hk0_v9, hk1_v9, hk7_v9, hk8_v9, hk9_v9, hk10_v9, hk31_v9, hk32_v9⟩ := hw
      have hM_v9 : KV [21, 22, 23] v9 v := KV.tr kV_v9 hM_v7 rfl
      have hA_f10 : KF [15, 17] f10 f := KF.tr kF_f10 hA_f8 rfl
      have hP : va_P (dC, dI) vwCl (XW cy x0 x v9 f10) H := hP
      have hD : va_D A (XW cy x0 x v9 f10) := hD
      have hq0_v9 : v9 0 = (v 0) := hk0_v9.trans hq0_v7
      have hq1_v9 : v9 1 = (v 1) := hk1_v9.trans hq1_v7
      have hq7_v9 : v9 7 = (v 7) := hk7_v9.trans hq7_v7
      have hq8_v9 : v9 8 = (v 8) := hk8_v9.trans hq8_v7
      have hq9_v9 : v9 9 = (v 9) := hk9_v9.trans hq9_v7
      have hq10_v9 : v9 10 = (v 10) := hk10_v9.trans hq10_v7
      have hq31_v9 : v9 31 = (v 31) := hk31_v9.trans hq31_v7
      have hq32_v9 : v9 32 = (v 32) := hk32_v9.trans hq32_v7
      refine lv_aload_n hx hb dX10_turn_55 rfl (lv_at hl 1 rfl) ?_
      refine va_get (D := (dC, dI)) (ci := 10) (v := .ref (x 20)) (C := RX10) (T := TX10) (N := 10) hx hb hts inB_10 hown hE.1 hP 0 rfl rfl 4 (by decide) (hts _ k_495) (fun _ h9 => h9) rfl dX10_turn_56 ?_
      refine cbVv (n := 0) (rest := []) hx hb hml hown hts hE hP hD hS hA (sX_X5_keepAct_1 l dC dI cy x0 x  v9 f10 hIv9 ) k_883 k_884 k_885 k_107 k_886 (by decide +kernel) ⟨Nat.le_of_ble_eq_true rfl, Nat.le_of_ble_eq_true rfl⟩ 21 5 rfl rfl (rfl) hl.1 rfl (Nat.le_of_ble_eq_true rfl) dX10_turn_59 (fun u H locs hw hP hD hS => ?_)
      obtain ⟨v11, f12⟩ := u
      obtain ⟨kV_v11, kF_f12, hIv11, hk0_v11, hk1_v11, hk7_v11, hk8_v11, hk9_v11, hk10_v11, hk31_v11, hk32_v11⟩ := hw
      have hM_v11 : KV [21, 22, 23] v11 v := KV.tr kV_v11 hM_v9 rfl
      have hA_f12 : KF [15, 17] f12 f := KF.tr kF_f12 hA_f10 rfl
      have hP : va_P (dC, dI) vwCl (XW cy x0 x v11 f12) H := hP
      have hD : va_D A (XW cy x0 x v11 f12) := hD
      have hq0_v11 : v11 0 = (v 0) := hk0_v11.trans hq0_v9
      have hq1_v11 : v11 1 = (v 1) := hk1_v11.trans hq1_v9
      have hq7_v11 : v11 7 = (v 7) := hk7_v11.trans hq7_v9
      have hq8_v11 : v11 8 = (v 8) := hk8_v11.trans hq8_v9
      have hq9_v11 : v11 9 = (v 9) := hk9_v11.trans hq9_v9
      have hq10_v11 : v11 10 = (v 10) := hk10_v11.trans hq10_v9
      have hq31_v11 : v11 31 = (v 31) := hk31_v11.trans hq31_v9
      have hq32_v11 : v11 32 = (v 32) := hk32_v11.trans hq32_v9
      refine lv_iload_n hx hb dX10_turn_62 rfl (lv_at hl 0 rfl) ?_
      exact ret r6 (v11, f12) _ _ _ _ _ _ rfl ⟨hM_v11, hA_f12, hIv11, (hk0_v11.trans (hk0_v9.trans hk0_v7)), (hk1_v11.trans (hk1_v9.trans hk1_v7)), (hk7_v11.trans (hk7_v9.trans hk7_v7)), (hk8_v11.trans (hk8_v9.trans hk8_v7)), (hk9_v11.trans (hk9_v9.trans hk9_v7)), (hk10_v11.trans (hk10_v9.trans hk10_v7)), (hk31_v11.trans (hk31_v9.trans hk31_v7)), (hk32_v11.trans (hk32_v9.trans hk32_v7))⟩ hP hD hS dX10_turn_63 (Nat.le_refl _) (Nat.le_refl _)
    · skip
      have zc5 : ¬ (r4.toInt = 0) := by rw [fa_eq, show (0 : Int32).toInt = 0 from by decide] at c5; exact c5
      refine lv_iconst (v := (-1)) hx hb dX10_turn_23 (by decide) ?_
      exact ret (-1) (v, f) _ _ _ _ _ _ rfl ⟨hM_v, hA_f, hIv, rfl, rfl, rfl, rfl, rfl, rfl, rfl, rfl⟩ hP hD hS dX10_turn_24 (Nat.le_refl _) (Nat.le_refl _)
  · skip
    subst g3
    refine lv_if_eq (tgt := 23) hx hb dX10_turn_8 (by decide) (fun _ => ?_) (fun c0 => absurd (by decide) c0)
    refine lv_iconst (v := (-1)) hx hb dX10_turn_23 (by decide) ?_
    exact ret (-1) (v, f) _ _ _ _ _ _ rfl ⟨hM_v, hA_f, hIv, rfl, rfl, rfl, rfl, rfl, rfl, rfl, rfl⟩ hP hD hS dX10_turn_24 (Nat.le_refl _) (Nat.le_refl _)
set_option maxHeartbeats 4000000 in
set_option maxRecDepth 100000 in
theorem sX_X1_loadFrom_1 (l : Launch) (dC : Nat → ClassId) (dI : Nat → Nat → Nat) (cy : Nat → ClassId) (x0 : Nat) (x : Nat → Nat) (p2 : Int32) (v : Nat → Int32) (f : Nat → Nat → Int32) (hIv : XI v)  : ctV l (dC, dI) cy yX1_loadFrom cX1_loadFrom 3 1 100 0 0 ((Nat → Int32) × (Nat → Nat → Int32)) [.ref (x 21), .ref (x 24), .int p2] (XW cy x0 x v f) (fun u => KV [] u.1 v ∧ KF [15] u.2 f ∧ XI u.1 ∧ u.1 0 = v 0 ∧ u.1 1 = v 1 ∧ u.1 7 = v 7 ∧ u.1 8 = v 8 ∧ u.1 9 = v 9 ∧ u.1 10 = v 10 ∧ u.1 31 = v 31 ∧ u.1 32 = v 32) (fun u => XW cy x0 x u.1 u.2) := by
  refine ctV_of (by decide) (Nat.le_of_ble_eq_true rfl) (fun p e s m below meth c A ls Q hx hb hml hts hown hnm hE hP hD hA hl ret => ?_)
  have hM_v : KV [] v v := fun _ _ => rfl
  have hA_f : KF [15] f f := fun _ _ => rfl
  have hown : s.vm.findClass RX1 = some m.cls := hown
  have hS : va_S A s.heap s.heap [] := va_S.rf
  have hl : lv_has ls 3 [(0, .ref (x 21)), (1, .ref (x 24)), (2, .int p2)] := hl
  refine lv_iload_n hx hb dX1_loadFrom_0 rfl (lv_at hl 2 rfl) ?_
  refine lv_if_lt (tgt := 28) hx hb dX1_loadFrom_1 (by decide) (fun c1 => ?_) (fun c1 => ?_)
  · skip
    have zc1 : p2.toInt < 0 := by rw [fa_lt, show (0 : Int32).toInt = 0 from by decide] at c1; exact c1
    exact ret (v, f) _ _ _ _ _ _ ⟨hM_v, hA_f, hIv, rfl, rfl, rfl, rfl, rfl, rfl, rfl, rfl⟩ hP hD hS dX1_loadFrom_28 (Nat.le_refl _) (Nat.le_refl _)
  · skip
    have zc1 : ¬ (p2.toInt < 0) := by rw [fa_lt, show (0 : Int32).toInt = 0 from by decide] at c1; exact c1
    refine lv_iload_n hx hb dX1_loadFrom_4 rfl (lv_at hl 2 rfl) ?_
    refine lv_aload_n hx hb dX1_loadFrom_5 rfl (lv_at hl 1 rfl) ?_
    refine va_alen (v := 1804) hx hb hE.1 hP 25 1 rfl rfl rfl dX1_loadFrom_6 ?_
    refine lv_bipush (v := 44) hx hb dX1_loadFrom_7 (by decide) ?_
    refine lv_idiv hx hb dX1_loadFrom_9 (by decide) ?_
    refine tI (y := 41) (by decide) ?_
    refine lv_icmp_ge (tgt := 28) hx hb dX1_loadFrom_10 (by decide) (fun c2 => ?_) (fun c2 => ?_)
    · skip
      have zc2 : 41 ≤ p2.toInt := by rw [fa_le, show (41 : Int32).toInt = 41 from by decide] at c2; exact c2
      exact ret (v, f) _ _ _ _ _ _ ⟨hM_v, hA_f, hIv, rfl, rfl, rfl, rfl, rfl, rfl, rfl, rfl⟩ hP hD hS dX1_loadFrom_28 (Nat.le_refl _) (Nat.le_refl _)
    · skip
      have zc2 : ¬ (41 ≤ p2.toInt) := by rw [fa_le, show (41 : Int32).toInt = 41 from by decide] at c2; exact c2
      refine lv_aload_n hx hb dX1_loadFrom_13 rfl (lv_at hl 1 rfl) ?_
      refine lv_iload_n hx hb dX1_loadFrom_14 rfl (lv_at hl 2 rfl) ?_
      refine lv_bipush (v := 44) hx hb dX1_loadFrom_15 (by decide) ?_
      refine lv_imul hx hb dX1_loadFrom_17 ?_
      refine lv_topi (fun t3 et3 => ?_)
      have rg4 := fb_rng p2
      have zt3 : t3.toInt = p2.toInt * 44 := by rw [et3]; exact mul_i rfl (by decide) (by omega) (by omega)
      refine lv_aload_n hx hb dX1_loadFrom_18 rfl (lv_at hl 0 rfl) ?_
      refine va_get (D := (dC, dI)) (ci := 1) (v := .ref (x 22)) (C := RX1) (T := TX1) (N := 2) hx hb hts inB_1 hown hE.1 hP 22 rfl rfl 1 (by decide) (hts _ k_319) (fun _ h9 => h9) rfl dX1_loadFrom_19 ?_
      refine lv_iconst (v := 0) hx hb dX1_loadFrom_22 (by decide) ?_
      refine lv_bipush (v := 44) hx hb dX1_loadFrom_23 (by decide) ?_
      refine cpG (zs := t3.toInt) (zd := 0) (zn := 44) hx hb (by rw [hml]; exact hl.1.symm) hown (hts _ k_335) (hts _ k_337) (hts _ k_336) (hts _ k_108) hE hP hD hS 25 23 rfl rfl rfl (by decide) (by decide) (by omega) (by omega) (by omega) (by omega) (by omega) (Nat.le_of_ble_eq_true rfl) (Nat.le_of_ble_eq_true rfl) dX1_loadFrom_25 (fun g9 H locs hP hD hS => ?_)
      obtain ⟨f5, ef5, hP, hD⟩ : ∃ fz9, fz9 = upd2 f 15 g9 ∧ va_P (dC, dI) vwCl (XW cy x0 x v fz9) H ∧ va_D A (XW cy x0 x v fz9) := ⟨_, rfl, hP, hD⟩
      have hA_f5 : KF [15] f5 f := by rw [ef5]; exact KF.up hA_f rfl
      exact ret (v, f5) _ _ _ _ _ _ ⟨hM_v, hA_f5, hIv, rfl, rfl, rfl, rfl, rfl, rfl, rfl, rfl⟩ hP hD hS dX1_loadFrom_28 (Nat.le_refl _) (Nat.le_refl _)
set_option maxHeartbeats 4000000 in
set_option maxRecDepth 100000 in
theorem sX_X5_stepBack_1 (l : Launch) (dC : Nat → ClassId) (dI : Nat → Nat → Nat) (cy : Nat → ClassId) (x0 : Nat) (x : Nat → Nat)  (v : Nat → Int32) (f : Nat → Nat → Int32) (hIv : XI v)  : ctI l (dC, dI) cy yX5_stepBack cX5_stepBack 1 .boolean 2 122 0 0 ((Nat → Int32) × (Nat → Nat → Int32)) [.ref (x 20)] (XW cy x0 x v f) (fun r u => KV [22, 23] u.1 v ∧ KF [15] u.2 f ∧ XI u.1 ∧ u.1 0 = v 0 ∧ u.1 1 = v 1 ∧ u.1 7 = v 7 ∧ u.1 8 = v 8 ∧ u.1 9 = v 9 ∧ u.1 10 = v 10 ∧ u.1 31 = v 31 ∧ u.1 32 = v 32 ∧ ((r = 1) ∨ (r = 0))) (fun u => XW cy x0 x u.1 u.2) := by
  refine ctI_of (by decide) (Nat.le_of_ble_eq_true rfl) (fun p e s m below meth c A ls Q hx hb hml hts hown hE hP hD hA hl ret => ?_)
  have hM_v : KV [22, 23] v v := fun _ _ => rfl
  have hA_f : KF [15] f f := fun _ _ => rfl
  have hown : s.vm.findClass RX5 = some m.cls := hown
  have hS : va_S A s.heap s.heap [] := va_S.rf
  have hl : lv_has ls 1 [(0, .ref (x 20))] := hl
  refine lv_aload_n hx hb dX5_stepBack_0 rfl (lv_at hl 0 rfl) ?_
  refine va_get (D := (dC, dI)) (ci := 5) (v := .int (v 22)) (C := RX5) (T := TX5) (N := 7) hx hb hts inB_5 hown hE.1 hP 21 rfl rfl 5 (by decide) (hts _ k_343) (fun _ h9 => h9) rfl dX5_stepBack_1 ?_
  refine lv_if_ne (tgt := 9) hx hb dX5_stepBack_4 (by decide) (fun c1 => ?_) (fun c1 => ?_)
  · skip
    have zc1 : ¬ ((v 22).toInt = 0) := by rw [fa_eq, show (0 : Int32).toInt = 0 from by decide] at c1; exact c1
    refine lv_aload_n hx hb dX5_stepBack_9 rfl (lv_at hl 0 rfl) ?_
    refine lv_dup hx hb dX5_stepBack_10 rfl ?_
    refine va_get (D := (dC, dI)) (ci := 5) (v := .int (v 22)) (C := RX5) (T := TX5) (N := 7) hx hb hts inB_5 hown hE.1 hP 21 rfl rfl 5 (by decide) (hts _ k_343) (fun _ h9 => h9) rfl dX5_stepBack_11 ?_
    refine lv_iconst (v := 1) hx hb dX5_stepBack_14 (by decide) ?_
    refine lv_isub hx hb dX5_stepBack_15 ?_
    refine lv_topi (fun t2 et2 => ?_)
    refine va_put (D := (dC, dI)) (ci := 5) (v := .int t2) (ty := tyX5 5) (C := RX5) (T := TX5) (N := 7) hx hb hts inB_5 tyX5 tyX5_ok nmX5 hown hE.1 hP hD hS 21 rfl rfl 5 (by decide) (hts _ k_343) (fun _ h9 => h9) rfl (tyX5_ok 5 (by decide)) rfl rfl (Nat.le_of_ble_eq_true rfl) dX5_stepBack_16 (fun H locs hP hD hS => ?_)
    have hP : va_P (dC, dI) vwCl (XW cy x0 x (upd v 22 t2) f) H := hP
    have hD : va_D A (XW cy x0 x (upd v 22 t2) f) := hD
    refine lv_aload_n hx hb dX5_stepBack_19 rfl (lv_at hl 0 rfl) ?_
    refine lv_dup hx hb dX5_stepBack_20 rfl ?_
    refine va_get (D := (dC, dI)) (ci := 5) (v := .int (v 23)) (C := RX5) (T := TX5) (N := 7) hx hb hts inB_5 hown hE.1 hP 21 rfl rfl 6 (by decide) (hts _ k_345) (fun _ h9 => h9) rfl dX5_stepBack_21 ?_
    refine lv_iconst (v := 1) hx hb dX5_stepBack_24 (by decide) ?_
    refine lv_iadd hx hb dX5_stepBack_25 ?_
    refine lv_topi (fun t3 et3 => ?_)
    refine va_put (D := (dC, dI)) (ci := 5) (v := .int t3) (ty := tyX5 6) (C := RX5) (T := TX5) (N := 7) hx hb hts inB_5 tyX5 tyX5_ok nmX5 hown hE.1 hP hD hS 21 rfl rfl 6 (by decide) (hts _ k_345) (fun _ h9 => h9) rfl (tyX5_ok 6 (by decide)) rfl rfl (Nat.le_of_ble_eq_true rfl) dX5_stepBack_26 (fun H locs hP hD hS => ?_)
    have hP : va_P (dC, dI) vwCl (XW cy x0 x (upd (upd v 22 t2) 23 t3) f) H := hP
    have hD : va_D A (XW cy x0 x (upd (upd v 22 t2) 23 t3) f) := hD
    refine lv_aload_n hx hb dX5_stepBack_29 rfl (lv_at hl 0 rfl) ?_
    refine va_get (D := (dC, dI)) (ci := 5) (v := .ref (x 21)) (C := RX5) (T := TX5) (N := 7) hx hb hts inB_5 hown hE.1 hP 21 rfl rfl 0 (by decide) (hts _ k_338) (fun _ h9 => h9) rfl dX5_stepBack_30 ?_
    refine lv_aload_n hx hb dX5_stepBack_33 rfl (lv_at hl 0 rfl) ?_
    refine va_get (D := (dC, dI)) (ci := 5) (v := .ref (x 24)) (C := RX5) (T := TX5) (N := 7) hx hb hts inB_5 hown hE.1 hP 21 rfl rfl 1 (by decide) (hts _ k_339) (fun _ h9 => h9) rfl dX5_stepBack_34 ?_
    refine lv_aload_n hx hb dX5_stepBack_37 rfl (lv_at hl 0 rfl) ?_
    refine va_get (D := (dC, dI)) (ci := 5) (v := .int (v 21)) (C := RX5) (T := TX5) (N := 7) hx hb hts inB_5 hown hE.1 hP 21 rfl rfl 4 (by decide) (hts _ k_342) (fun _ h9 => h9) rfl dX5_stepBack_38 ?_
    refine lv_aload_n hx hb dX5_stepBack_41 rfl (lv_at hl 0 rfl) ?_
    refine va_get (D := (dC, dI)) (ci := 5) (v := .int t2) (C := RX5) (T := TX5) (N := 7) hx hb hts inB_5 hown hE.1 hP 21 rfl rfl 5 (by decide) (hts _ k_343) (fun _ h9 => h9) rfl dX5_stepBack_42 ?_
    refine lv_iadd hx hb dX5_stepBack_45 ?_
    refine lv_topi (fun t4 et4 => ?_)
    refine lv_bipush (v := 41) hx hb dX5_stepBack_46 (by decide) ?_
    refine lv_irem hx hb dX5_stepBack_48 (by decide) ?_
    refine lv_topi (fun t5 et5 => ?_)
    refine cbVv (n := 2) (rest := []) hx hb hml hown hts hE hP hD hS hA (sX_X1_loadFrom_1 l dC dI cy x0 x t5 (upd (upd v 22 t2) 23 t3) f (XI.upd (j := 23) (x := t3) (XI.upd (j := 22) (x := t2) hIv (rlo _) (rhi _)) (rlo _) (rhi _)) ) k_925 k_926 k_927 k_106 k_928 (by decide +kernel) ⟨Nat.le_of_ble_eq_true rfl, Nat.le_of_ble_eq_true rfl⟩ 22 1 rfl rfl (rfl) hl.1 rfl (Nat.le_of_ble_eq_true rfl) dX5_stepBack_49 (fun u H locs hw hP hD hS => ?_)
    obtain ⟨v6, f7⟩ := u
    obtain ⟨kV_v6, kF_f7, hIv6, hk0_v6, hk1_v6, hk7_v6, hk8_v6, hk9_v6, hk10_v6, hk31_v6, hk32_v6⟩ := hw
    have hM_v6 : KV [22, 23] v6 v := KV.tr kV_v6 (KV.up (j := 23) (x := t3) (KV.up (j := 22) (x := t2) hM_v rfl) rfl) rfl
    have hA_f7 : KF [15] f7 f := KF.tr kF_f7 hA_f rfl
    have hP : va_P (dC, dI) vwCl (XW cy x0 x v6 f7) H := hP
    have hD : va_D A (XW cy x0 x v6 f7) := hD
    have hq0_v6 : v6 0 = (v 0) := hk0_v6
    have hq1_v6 : v6 1 = (v 1) := hk1_v6
    have hq7_v6 : v6 7 = (v 7) := hk7_v6
    have hq8_v6 : v6 8 = (v 8) := hk8_v6
    have hq9_v6 : v6 9 = (v 9) := hk9_v6
    have hq10_v6 : v6 10 = (v 10) := hk10_v6
    have hq31_v6 : v6 31 = (v 31) := hk31_v6
    have hq32_v6 : v6 32 = (v 32) := hk32_v6
    refine lv_iconst (v := 1) hx hb dX5_stepBack_52 (by decide) ?_
    exact ret 1 (v6, f7) _ _ _ _ _ _ rfl ⟨hM_v6, hA_f7, hIv6, hk0_v6, hk1_v6, hk7_v6, hk8_v6, hk9_v6, hk10_v6, hk31_v6, hk32_v6, (Or.inl rfl)⟩ hP hD hS dX5_stepBack_53 (Nat.le_refl _) (Nat.le_refl _)
  · skip
    have zc1 : (v 22).toInt = 0 := by rw [fa_eq, show (0 : Int32).toInt = 0 from by decide] at c1; exact c1
    refine lv_iconst (v := 0) hx hb dX5_stepBack_7 (by decide) ?_
    exact ret 0 (v, f) _ _ _ _ _ _ rfl ⟨hM_v, hA_f, hIv, rfl, rfl, rfl, rfl, rfl, rfl, rfl, rfl, (Or.inr rfl)⟩ hP hD hS dX5_stepBack_8 (Nat.le_refl _) (Nat.le_refl _)
set_option maxHeartbeats 4000000 in
set_option maxRecDepth 100000 in
theorem sX_X10_undo_1 (l : Launch) (dC : Nat → ClassId) (dI : Nat → Nat → Nat) (cy : Nat → ClassId) (x0 : Nat) (x : Nat → Nat)  (v : Nat → Int32) (f : Nat → Nat → Int32) (hIv : XI v)  : ctI l (dC, dI) cy yX10_undo cX10_undo 1 .boolean 3 142 0 0 ((Nat → Int32) × (Nat → Nat → Int32)) [.ref x0] (XW cy x0 x v f) (fun r u => KV [22, 23] u.1 v ∧ KF [15] u.2 f ∧ XI u.1 ∧ u.1 0 = v 0 ∧ u.1 1 = v 1 ∧ u.1 7 = v 7 ∧ u.1 8 = v 8 ∧ u.1 9 = v 9 ∧ u.1 10 = v 10 ∧ u.1 31 = v 31 ∧ u.1 32 = v 32 ∧ ((r = 1) ∨ (r = 0))) (fun u => XW cy x0 x u.1 u.2) := by
  refine ctI_of (by decide) (Nat.le_of_ble_eq_true rfl) (fun p e s m below meth c A ls Q hx hb hml hts hown hE hP hD hA hl ret => ?_)
  have hM_v : KV [22, 23] v v := fun _ _ => rfl
  have hA_f : KF [15] f f := fun _ _ => rfl
  have hown : s.vm.findClass RX10 = some m.cls := hown
  have hS : va_S A s.heap s.heap [] := va_S.rf
  have hl : lv_has ls 1 [(0, .ref x0)] := hl
  refine lv_aload_n hx hb dX10_undo_0 rfl (lv_at hl 0 rfl) ?_
  refine va_get (D := (dC, dI)) (ci := 10) (v := .ref (x 20)) (C := RX10) (T := TX10) (N := 10) hx hb hts inB_10 hown hE.1 hP 0 rfl rfl 4 (by decide) (hts _ k_495) (fun _ h9 => h9) rfl dX10_undo_1 ?_
  refine cbVi (n := 0) (rest := []) hx hb hml hown hts hE hP hD hS hA (sX_X5_stepBack_1 l dC dI cy x0 x  v f hIv ) k_921 k_922 k_923 k_107 k_924 (by decide +kernel) ⟨Nat.le_of_ble_eq_true rfl, Nat.le_of_ble_eq_true rfl⟩ 21 5 rfl rfl (rfl) hl.1 rfl (Nat.le_of_ble_eq_true rfl) dX10_undo_4 (fun r1 u H locs hw hP hD hS => ?_)
  obtain ⟨v2, f3⟩ := u
  obtain ⟨kV_v2, kF_f3, hIv2, hk0_v2, hk1_v2, hk7_v2, hk8_v2, hk9_v2, hk10_v2, hk31_v2, hk32_v2, hw⟩ := hw
  have hM_v2 : KV [22, 23] v2 v := KV.tr kV_v2 hM_v rfl
  have hA_f3 : KF [15] f3 f := KF.tr kF_f3 hA_f rfl
  have hP : va_P (dC, dI) vwCl (XW cy x0 x v2 f3) H := hP
  have hD : va_D A (XW cy x0 x v2 f3) := hD
  have hq0_v2 : v2 0 = (v 0) := hk0_v2
  have hq1_v2 : v2 1 = (v 1) := hk1_v2
  have hq7_v2 : v2 7 = (v 7) := hk7_v2
  have hq8_v2 : v2 8 = (v 8) := hk8_v2
  have hq9_v2 : v2 9 = (v 9) := hk9_v2
  have hq10_v2 : v2 10 = (v 10) := hk10_v2
  have hq31_v2 : v2 31 = (v 31) := hk31_v2
  have hq32_v2 : v2 32 = (v 32) := hk32_v2
  rcases hw with ⟨g4⟩ | ⟨g4⟩
  · skip
    subst g4
    exact ret 1 (v2, f3) _ _ _ _ _ _ rfl ⟨hM_v2, hA_f3, hIv2, hk0_v2, hk1_v2, hk7_v2, hk8_v2, hk9_v2, hk10_v2, hk31_v2, hk32_v2, (Or.inl rfl)⟩ hP hD hS dX10_undo_7 (Nat.le_refl _) (Nat.le_refl _)
  · skip
    subst g4
    exact ret 0 (v2, f3) _ _ _ _ _ _ rfl ⟨hM_v2, hA_f3, hIv2, hk0_v2, hk1_v2, hk7_v2, hk8_v2, hk9_v2, hk10_v2, hk31_v2, hk32_v2, (Or.inr rfl)⟩ hP hD hS dX10_undo_7 (Nat.le_refl _) (Nat.le_refl _)
set_option maxHeartbeats 4000000 in
set_option maxRecDepth 100000 in
theorem sX_X5_stepOn_1 (l : Launch) (dC : Nat → ClassId) (dI : Nat → Nat → Nat) (cy : Nat → ClassId) (x0 : Nat) (x : Nat → Nat)  (v : Nat → Int32) (f : Nat → Nat → Int32) (hIv : XI v)  : ctI l (dC, dI) cy yX5_stepOn cX5_stepOn 1 .boolean 2 122 0 0 ((Nat → Int32) × (Nat → Nat → Int32)) [.ref (x 20)] (XW cy x0 x v f) (fun r u => KV [22, 23] u.1 v ∧ KF [15] u.2 f ∧ XI u.1 ∧ u.1 0 = v 0 ∧ u.1 1 = v 1 ∧ u.1 7 = v 7 ∧ u.1 8 = v 8 ∧ u.1 9 = v 9 ∧ u.1 10 = v 10 ∧ u.1 31 = v 31 ∧ u.1 32 = v 32 ∧ ((r = 1) ∨ (r = 0))) (fun u => XW cy x0 x u.1 u.2) := by
  refine ctI_of (by decide) (Nat.le_of_ble_eq_true rfl) (fun p e s m below meth c A ls Q hx hb hml hts hown hE hP hD hA hl ret => ?_)
  have hM_v : KV [22, 23] v v := fun _ _ => rfl
  have hA_f : KF [15] f f := fun _ _ => rfl
  have hown : s.vm.findClass RX5 = some m.cls := hown
  have hS : va_S A s.heap s.heap [] := va_S.rf
  have hl : lv_has ls 1 [(0, .ref (x 20))] := hl
  refine lv_aload_n hx hb dX5_stepOn_0 rfl (lv_at hl 0 rfl) ?_
  refine va_get (D := (dC, dI)) (ci := 5) (v := .int (v 23)) (C := RX5) (T := TX5) (N := 7) hx hb hts inB_5 hown hE.1 hP 21 rfl rfl 6 (by decide) (hts _ k_345) (fun _ h9 => h9) rfl dX5_stepOn_1 ?_
  refine lv_if_ne (tgt := 9) hx hb dX5_stepOn_4 (by decide) (fun c1 => ?_) (fun c1 => ?_)
  · skip
    have zc1 : ¬ ((v 23).toInt = 0) := by rw [fa_eq, show (0 : Int32).toInt = 0 from by decide] at c1; exact c1
    refine lv_aload_n hx hb dX5_stepOn_9 rfl (lv_at hl 0 rfl) ?_
    refine lv_dup hx hb dX5_stepOn_10 rfl ?_
    refine va_get (D := (dC, dI)) (ci := 5) (v := .int (v 22)) (C := RX5) (T := TX5) (N := 7) hx hb hts inB_5 hown hE.1 hP 21 rfl rfl 5 (by decide) (hts _ k_343) (fun _ h9 => h9) rfl dX5_stepOn_11 ?_
    refine lv_iconst (v := 1) hx hb dX5_stepOn_14 (by decide) ?_
    refine lv_iadd hx hb dX5_stepOn_15 ?_
    refine lv_topi (fun t2 et2 => ?_)
    refine va_put (D := (dC, dI)) (ci := 5) (v := .int t2) (ty := tyX5 5) (C := RX5) (T := TX5) (N := 7) hx hb hts inB_5 tyX5 tyX5_ok nmX5 hown hE.1 hP hD hS 21 rfl rfl 5 (by decide) (hts _ k_343) (fun _ h9 => h9) rfl (tyX5_ok 5 (by decide)) rfl rfl (Nat.le_of_ble_eq_true rfl) dX5_stepOn_16 (fun H locs hP hD hS => ?_)
    have hP : va_P (dC, dI) vwCl (XW cy x0 x (upd v 22 t2) f) H := hP
    have hD : va_D A (XW cy x0 x (upd v 22 t2) f) := hD
    refine lv_aload_n hx hb dX5_stepOn_19 rfl (lv_at hl 0 rfl) ?_
    refine lv_dup hx hb dX5_stepOn_20 rfl ?_
    refine va_get (D := (dC, dI)) (ci := 5) (v := .int (v 23)) (C := RX5) (T := TX5) (N := 7) hx hb hts inB_5 hown hE.1 hP 21 rfl rfl 6 (by decide) (hts _ k_345) (fun _ h9 => h9) rfl dX5_stepOn_21 ?_
    refine lv_iconst (v := 1) hx hb dX5_stepOn_24 (by decide) ?_
    refine lv_isub hx hb dX5_stepOn_25 ?_
    refine lv_topi (fun t3 et3 => ?_)
    refine va_put (D := (dC, dI)) (ci := 5) (v := .int t3) (ty := tyX5 6) (C := RX5) (T := TX5) (N := 7) hx hb hts inB_5 tyX5 tyX5_ok nmX5 hown hE.1 hP hD hS 21 rfl rfl 6 (by decide) (hts _ k_345) (fun _ h9 => h9) rfl (tyX5_ok 6 (by decide)) rfl rfl (Nat.le_of_ble_eq_true rfl) dX5_stepOn_26 (fun H locs hP hD hS => ?_)
    have hP : va_P (dC, dI) vwCl (XW cy x0 x (upd (upd v 22 t2) 23 t3) f) H := hP
    have hD : va_D A (XW cy x0 x (upd (upd v 22 t2) 23 t3) f) := hD
    refine lv_aload_n hx hb dX5_stepOn_29 rfl (lv_at hl 0 rfl) ?_
    refine va_get (D := (dC, dI)) (ci := 5) (v := .ref (x 21)) (C := RX5) (T := TX5) (N := 7) hx hb hts inB_5 hown hE.1 hP 21 rfl rfl 0 (by decide) (hts _ k_338) (fun _ h9 => h9) rfl dX5_stepOn_30 ?_
    refine lv_aload_n hx hb dX5_stepOn_33 rfl (lv_at hl 0 rfl) ?_
    refine va_get (D := (dC, dI)) (ci := 5) (v := .ref (x 24)) (C := RX5) (T := TX5) (N := 7) hx hb hts inB_5 hown hE.1 hP 21 rfl rfl 1 (by decide) (hts _ k_339) (fun _ h9 => h9) rfl dX5_stepOn_34 ?_
    refine lv_aload_n hx hb dX5_stepOn_37 rfl (lv_at hl 0 rfl) ?_
    refine va_get (D := (dC, dI)) (ci := 5) (v := .int (v 21)) (C := RX5) (T := TX5) (N := 7) hx hb hts inB_5 hown hE.1 hP 21 rfl rfl 4 (by decide) (hts _ k_342) (fun _ h9 => h9) rfl dX5_stepOn_38 ?_
    refine lv_aload_n hx hb dX5_stepOn_41 rfl (lv_at hl 0 rfl) ?_
    refine va_get (D := (dC, dI)) (ci := 5) (v := .int t2) (C := RX5) (T := TX5) (N := 7) hx hb hts inB_5 hown hE.1 hP 21 rfl rfl 5 (by decide) (hts _ k_343) (fun _ h9 => h9) rfl dX5_stepOn_42 ?_
    refine lv_iadd hx hb dX5_stepOn_45 ?_
    refine lv_topi (fun t4 et4 => ?_)
    refine lv_bipush (v := 41) hx hb dX5_stepOn_46 (by decide) ?_
    refine lv_irem hx hb dX5_stepOn_48 (by decide) ?_
    refine lv_topi (fun t5 et5 => ?_)
    refine cbVv (n := 2) (rest := []) hx hb hml hown hts hE hP hD hS hA (sX_X1_loadFrom_1 l dC dI cy x0 x t5 (upd (upd v 22 t2) 23 t3) f (XI.upd (j := 23) (x := t3) (XI.upd (j := 22) (x := t2) hIv (rlo _) (rhi _)) (rlo _) (rhi _)) ) k_925 k_926 k_927 k_106 k_928 (by decide +kernel) ⟨Nat.le_of_ble_eq_true rfl, Nat.le_of_ble_eq_true rfl⟩ 22 1 rfl rfl (rfl) hl.1 rfl (Nat.le_of_ble_eq_true rfl) dX5_stepOn_49 (fun u H locs hw hP hD hS => ?_)
    obtain ⟨v6, f7⟩ := u
    obtain ⟨kV_v6, kF_f7, hIv6, hk0_v6, hk1_v6, hk7_v6, hk8_v6, hk9_v6, hk10_v6, hk31_v6, hk32_v6⟩ := hw
    have hM_v6 : KV [22, 23] v6 v := KV.tr kV_v6 (KV.up (j := 23) (x := t3) (KV.up (j := 22) (x := t2) hM_v rfl) rfl) rfl
    have hA_f7 : KF [15] f7 f := KF.tr kF_f7 hA_f rfl
    have hP : va_P (dC, dI) vwCl (XW cy x0 x v6 f7) H := hP
    have hD : va_D A (XW cy x0 x v6 f7) := hD
    have hq0_v6 : v6 0 = (v 0) := hk0_v6
    have hq1_v6 : v6 1 = (v 1) := hk1_v6
    have hq7_v6 : v6 7 = (v 7) := hk7_v6
    have hq8_v6 : v6 8 = (v 8) := hk8_v6
    have hq9_v6 : v6 9 = (v 9) := hk9_v6
    have hq10_v6 : v6 10 = (v 10) := hk10_v6
    have hq31_v6 : v6 31 = (v 31) := hk31_v6
    have hq32_v6 : v6 32 = (v 32) := hk32_v6
    refine lv_iconst (v := 1) hx hb dX5_stepOn_52 (by decide) ?_
    exact ret 1 (v6, f7) _ _ _ _ _ _ rfl ⟨hM_v6, hA_f7, hIv6, hk0_v6, hk1_v6, hk7_v6, hk8_v6, hk9_v6, hk10_v6, hk31_v6, hk32_v6, (Or.inl rfl)⟩ hP hD hS dX5_stepOn_53 (Nat.le_refl _) (Nat.le_refl _)
  · skip
    have zc1 : (v 23).toInt = 0 := by rw [fa_eq, show (0 : Int32).toInt = 0 from by decide] at c1; exact c1
    refine lv_iconst (v := 0) hx hb dX5_stepOn_7 (by decide) ?_
    exact ret 0 (v, f) _ _ _ _ _ _ rfl ⟨hM_v, hA_f, hIv, rfl, rfl, rfl, rfl, rfl, rfl, rfl, rfl, (Or.inr rfl)⟩ hP hD hS dX5_stepOn_8 (Nat.le_refl _) (Nat.le_refl _)
set_option maxHeartbeats 4000000 in
set_option maxRecDepth 100000 in
theorem sX_X10_redo_1 (l : Launch) (dC : Nat → ClassId) (dI : Nat → Nat → Nat) (cy : Nat → ClassId) (x0 : Nat) (x : Nat → Nat)  (v : Nat → Int32) (f : Nat → Nat → Int32) (hIv : XI v)  : ctI l (dC, dI) cy yX10_redo cX10_redo 1 .boolean 3 142 0 0 ((Nat → Int32) × (Nat → Nat → Int32)) [.ref x0] (XW cy x0 x v f) (fun r u => KV [22, 23] u.1 v ∧ KF [15] u.2 f ∧ XI u.1 ∧ u.1 0 = v 0 ∧ u.1 1 = v 1 ∧ u.1 7 = v 7 ∧ u.1 8 = v 8 ∧ u.1 9 = v 9 ∧ u.1 10 = v 10 ∧ u.1 31 = v 31 ∧ u.1 32 = v 32 ∧ ((r = 1) ∨ (r = 0))) (fun u => XW cy x0 x u.1 u.2) := by
  refine ctI_of (by decide) (Nat.le_of_ble_eq_true rfl) (fun p e s m below meth c A ls Q hx hb hml hts hown hE hP hD hA hl ret => ?_)
  have hM_v : KV [22, 23] v v := fun _ _ => rfl
  have hA_f : KF [15] f f := fun _ _ => rfl
  have hown : s.vm.findClass RX10 = some m.cls := hown
  have hS : va_S A s.heap s.heap [] := va_S.rf
  have hl : lv_has ls 1 [(0, .ref x0)] := hl
  refine lv_aload_n hx hb dX10_redo_0 rfl (lv_at hl 0 rfl) ?_
  refine va_get (D := (dC, dI)) (ci := 10) (v := .ref (x 20)) (C := RX10) (T := TX10) (N := 10) hx hb hts inB_10 hown hE.1 hP 0 rfl rfl 4 (by decide) (hts _ k_495) (fun _ h9 => h9) rfl dX10_redo_1 ?_
  refine cbVi (n := 0) (rest := []) hx hb hml hown hts hE hP hD hS hA (sX_X5_stepOn_1 l dC dI cy x0 x  v f hIv ) k_933 k_934 k_935 k_107 k_936 (by decide +kernel) ⟨Nat.le_of_ble_eq_true rfl, Nat.le_of_ble_eq_true rfl⟩ 21 5 rfl rfl (rfl) hl.1 rfl (Nat.le_of_ble_eq_true rfl) dX10_redo_4 (fun r1 u H locs hw hP hD hS => ?_)
  obtain ⟨v2, f3⟩ := u
  obtain ⟨kV_v2, kF_f3, hIv2, hk0_v2, hk1_v2, hk7_v2, hk8_v2, hk9_v2, hk10_v2, hk31_v2, hk32_v2, hw⟩ := hw
  have hM_v2 : KV [22, 23] v2 v := KV.tr kV_v2 hM_v rfl
  have hA_f3 : KF [15] f3 f := KF.tr kF_f3 hA_f rfl
  have hP : va_P (dC, dI) vwCl (XW cy x0 x v2 f3) H := hP
  have hD : va_D A (XW cy x0 x v2 f3) := hD
  have hq0_v2 : v2 0 = (v 0) := hk0_v2
  have hq1_v2 : v2 1 = (v 1) := hk1_v2
  have hq7_v2 : v2 7 = (v 7) := hk7_v2
  have hq8_v2 : v2 8 = (v 8) := hk8_v2
  have hq9_v2 : v2 9 = (v 9) := hk9_v2
  have hq10_v2 : v2 10 = (v 10) := hk10_v2
  have hq31_v2 : v2 31 = (v 31) := hk31_v2
  have hq32_v2 : v2 32 = (v 32) := hk32_v2
  rcases hw with ⟨g4⟩ | ⟨g4⟩
  · skip
    subst g4
    exact ret 1 (v2, f3) _ _ _ _ _ _ rfl ⟨hM_v2, hA_f3, hIv2, hk0_v2, hk1_v2, hk7_v2, hk8_v2, hk9_v2, hk10_v2, hk31_v2, hk32_v2, (Or.inl rfl)⟩ hP hD hS dX10_redo_7 (Nat.le_refl _) (Nat.le_refl _)
  · skip
    subst g4
    exact ret 0 (v2, f3) _ _ _ _ _ _ rfl ⟨hM_v2, hA_f3, hIv2, hk0_v2, hk1_v2, hk7_v2, hk8_v2, hk9_v2, hk10_v2, hk31_v2, hk32_v2, (Or.inr rfl)⟩ hP hD hS dX10_redo_7 (Nat.le_refl _) (Nat.le_refl _)
set_option maxHeartbeats 4000000 in
set_option maxRecDepth 100000 in
theorem sX_X1_copy_1 (l : Launch) (dC : Nat → ClassId) (dI : Nat → Nat → Nat) (cy : Nat → ClassId) (x0 : Nat) (x : Nat → Nat)  (v : Nat → Int32) (f : Nat → Nat → Int32) (hIv : XI v)  : ctV l (dC, dI) cy yX1_copy cX1_copy 2 1 100 0 0 ((Nat → Int32) × (Nat → Nat → Int32)) [.ref (x 27), .ref (x 21)] (XW cy x0 x v f) (fun u => KV [] u.1 v ∧ KF [18] u.2 f ∧ XI u.1 ∧ u.1 0 = v 0 ∧ u.1 1 = v 1 ∧ u.1 7 = v 7 ∧ u.1 8 = v 8 ∧ u.1 9 = v 9 ∧ u.1 10 = v 10 ∧ u.1 31 = v 31 ∧ u.1 32 = v 32) (fun u => XW cy x0 x u.1 u.2) := by
  refine ctV_of (by decide) (Nat.le_of_ble_eq_true rfl) (fun p e s m below meth c A ls Q hx hb hml hts hown hnm hE hP hD hA hl ret => ?_)
  have hM_v : KV [] v v := fun _ _ => rfl
  have hA_f : KF [18] f f := fun _ _ => rfl
  have hown : s.vm.findClass RX1 = some m.cls := hown
  have hS : va_S A s.heap s.heap [] := va_S.rf
  have hl : lv_has ls 2 [(0, .ref (x 27)), (1, .ref (x 21))] := hl
  refine lv_aload_n hx hb dX1_copy_0 rfl (lv_at hl 1 rfl) ?_
  refine va_get (D := (dC, dI)) (ci := 1) (v := .ref (x 22)) (C := RX1) (T := TX1) (N := 2) hx hb hts inB_1 hown hE.1 hP 22 rfl rfl 1 (by decide) (hts _ k_319) (fun _ h9 => h9) rfl dX1_copy_1 ?_
  refine lv_iconst (v := 0) hx hb dX1_copy_4 (by decide) ?_
  refine lv_aload_n hx hb dX1_copy_5 rfl (lv_at hl 0 rfl) ?_
  refine va_get (D := (dC, dI)) (ci := 1) (v := .ref (x 28)) (C := RX1) (T := TX1) (N := 2) hx hb hts inB_1 hown hE.1 hP 28 rfl rfl 1 (by decide) (hts _ k_319) (fun _ h9 => h9) rfl dX1_copy_6 ?_
  refine lv_iconst (v := 0) hx hb dX1_copy_9 (by decide) ?_
  refine lv_bipush (v := 44) hx hb dX1_copy_10 (by decide) ?_
  refine cpG (zs := 0) (zd := 0) (zn := 44) hx hb (by rw [hml]; exact hl.1.symm) hown (hts _ k_335) (hts _ k_337) (hts _ k_336) (hts _ k_108) hE hP hD hS 23 29 rfl rfl (by decide) (by decide) (by decide) (by omega) (by omega) (by omega) (by omega) (by omega) (Nat.le_of_ble_eq_true rfl) (Nat.le_of_ble_eq_true rfl) dX1_copy_12 (fun g9 H locs hP hD hS => ?_)
  obtain ⟨f1, ef1, hP, hD⟩ : ∃ fz9, fz9 = upd2 f 18 g9 ∧ va_P (dC, dI) vwCl (XW cy x0 x v fz9) H ∧ va_D A (XW cy x0 x v fz9) := ⟨_, rfl, hP, hD⟩
  have hA_f1 : KF [18] f1 f := by rw [ef1]; exact KF.up hA_f rfl
  exact ret (v, f1) _ _ _ _ _ _ ⟨hM_v, hA_f1, hIv, rfl, rfl, rfl, rfl, rfl, rfl, rfl, rfl⟩ hP hD hS dX1_copy_15 (Nat.le_refl _) (Nat.le_refl _)
set_option maxHeartbeats 4000000 in
set_option maxRecDepth 100000 in
theorem sX_X1_wears_2 (l : Launch) (dC : Nat → ClassId) (dI : Nat → Nat → Nat) (cy : Nat → ClassId) (x0 : Nat) (x : Nat → Nat) (p1 : Int32) (v : Nat → Int32) (f : Nat → Nat → Int32) (hIv : XI v)  : ctI l (dC, dI) cy yX1_wears cX1_wears 2 .int 2 81 0 0 Unit [.ref (x 27), .int p1] (XW cy x0 x v f) (fun r u => True) (fun u => XW cy x0 x v f) := by
  refine ctI_of (by decide) (Nat.le_of_ble_eq_true rfl) (fun p e s m below meth c A ls Q hx hb hml hts hown hE hP hD hA hl ret => ?_)
  have hown : s.vm.findClass RX1 = some m.cls := hown
  have hS : va_S A s.heap s.heap [] := va_S.rf
  have hl : lv_has ls 2 [(0, .ref (x 27)), (1, .int p1)] := hl
  refine lv_aload_n hx hb dX1_wears_0 rfl (lv_at hl 0 rfl) ?_
  refine va_get (D := (dC, dI)) (ci := 1) (v := .ref (x 26)) (C := RX1) (T := TX1) (N := 2) hx hb hts inB_1 hown hE.1 hP 28 rfl rfl 0 (by decide) (hts _ k_318) (fun _ h9 => h9) rfl dX1_wears_1 ?_
  refine lv_iload_n hx hb dX1_wears_4 rfl (lv_at hl 1 rfl) ?_
  refine cbVi (n := 1) (rest := []) hx hb hml hown hts hE hP hD hS hA (sX_X7_hasMan_1 0 l dC dI cy x0 x p1 v f hIv ) k_808 k_307 k_308 k_104 k_309 (by decide +kernel) ⟨Nat.le_of_ble_eq_true rfl, Nat.le_of_ble_eq_true rfl⟩ 27 7 rfl rfl (rfl) hl.1 rfl (Nat.le_of_ble_eq_true rfl) dX1_wears_5 (fun r1 u H locs hw hP hD hS => ?_)
  obtain ⟨hG2, hw⟩ := hw
  rcases hw with ⟨g3, g3_0, g3_1, g3_2⟩ | ⟨g3⟩
  · skip
    subst g3
    refine lv_if_eq (tgt := 23) hx hb dX1_wears_8 (by decide) (fun c0 => absurd c0 (by decide)) (fun _ => ?_)
    refine lv_aload_n hx hb dX1_wears_11 rfl (lv_at hl 0 rfl) ?_
    refine va_get (D := (dC, dI)) (ci := 1) (v := .ref (x 28)) (C := RX1) (T := TX1) (N := 2) hx hb hts inB_1 hown hE.1 hP 28 rfl rfl 1 (by decide) (hts _ k_319) (fun _ h9 => h9) rfl dX1_wears_12 ?_
    refine lv_bipush (v := 6) hx hb dX1_wears_15 (by decide) ?_
    refine lv_iload_n hx hb dX1_wears_17 rfl (lv_at hl 1 rfl) ?_
    refine lv_iadd hx hb dX1_wears_18 ?_
    refine lv_topi (fun t4 et4 => ?_)
    have rg5 := fb_rng p1
    have zt4 : t4.toInt = 6 + p1.toInt := by rw [et4]; exact add_i (by decide) rfl (by omega) (by omega)
    refine ldI hx hb hE hP 29 rfl (vp_in_iff.mpr ⟨by omega, by omega⟩) rfl rfl dX1_wears_19 ?_
    refine lv_topi (fun t6 et6 => ?_)
    refine lv_goto (tgt := 24) hx hb dX1_wears_20 (by decide) ?_
    exact ret t6 () _ _ _ _ _ _ rfl trivial hP hD hS dX1_wears_24 (Nat.le_refl _) (Nat.le_refl _)
  · skip
    subst g3
    refine lv_if_eq (tgt := 23) hx hb dX1_wears_8 (by decide) (fun _ => ?_) (fun c0 => absurd (by decide) c0)
    refine lv_iconst (v := (-1)) hx hb dX1_wears_23 (by decide) ?_
    exact ret (-1) () _ _ _ _ _ _ rfl trivial hP hD hS dX1_wears_24 (Nat.le_refl _) (Nat.le_refl _)
set_option maxHeartbeats 4000000 in
set_option maxRecDepth 100000 in
theorem sX_X1_manWide_2 (l : Launch) (dC : Nat → ClassId) (dI : Nat → Nat → Nat) (cy : Nat → ClassId) (x0 : Nat) (x : Nat → Nat) (p1 : Int32) (v : Nat → Int32) (f : Nat → Nat → Int32) (hIv : XI v)  : ctI l (dC, dI) cy yX1_manWide cX1_manWide 2 .int 2 81 0 0 Unit [.ref (x 27), .int p1] (XW cy x0 x v f) (fun r u => True) (fun u => XW cy x0 x v f) := by
  refine ctI_of (by decide) (Nat.le_of_ble_eq_true rfl) (fun p e s m below meth c A ls Q hx hb hml hts hown hE hP hD hA hl ret => ?_)
  have hown : s.vm.findClass RX1 = some m.cls := hown
  have hS : va_S A s.heap s.heap [] := va_S.rf
  have hl : lv_has ls 2 [(0, .ref (x 27)), (1, .int p1)] := hl
  refine lv_aload_n hx hb dX1_manWide_0 rfl (lv_at hl 0 rfl) ?_
  refine va_get (D := (dC, dI)) (ci := 1) (v := .ref (x 26)) (C := RX1) (T := TX1) (N := 2) hx hb hts inB_1 hown hE.1 hP 28 rfl rfl 0 (by decide) (hts _ k_318) (fun _ h9 => h9) rfl dX1_manWide_1 ?_
  refine lv_iload_n hx hb dX1_manWide_4 rfl (lv_at hl 1 rfl) ?_
  refine cbVi (n := 1) (rest := []) hx hb hml hown hts hE hP hD hS hA (sX_X7_hasMan_1 0 l dC dI cy x0 x p1 v f hIv ) k_808 k_307 k_308 k_104 k_309 (by decide +kernel) ⟨Nat.le_of_ble_eq_true rfl, Nat.le_of_ble_eq_true rfl⟩ 27 7 rfl rfl (rfl) hl.1 rfl (Nat.le_of_ble_eq_true rfl) dX1_manWide_5 (fun r1 u H locs hw hP hD hS => ?_)
  obtain ⟨hG2, hw⟩ := hw
  rcases hw with ⟨g3, g3_0, g3_1, g3_2⟩ | ⟨g3⟩
  · skip
    subst g3
    refine lv_if_eq (tgt := 20) hx hb dX1_manWide_8 (by decide) (fun c0 => absurd c0 (by decide)) (fun _ => ?_)
    refine lv_aload_n hx hb dX1_manWide_11 rfl (lv_at hl 0 rfl) ?_
    refine va_get (D := (dC, dI)) (ci := 1) (v := .ref (x 28)) (C := RX1) (T := TX1) (N := 2) hx hb hts inB_1 hown hE.1 hP 28 rfl rfl 1 (by decide) (hts _ k_319) (fun _ h9 => h9) rfl dX1_manWide_12 ?_
    refine lv_iload_n hx hb dX1_manWide_15 rfl (lv_at hl 1 rfl) ?_
    refine ldI hx hb hE hP 29 rfl (vp_in_iff.mpr ⟨by omega, by omega⟩) rfl rfl dX1_manWide_16 ?_
    refine lv_topi (fun t4 et4 => ?_)
    refine lv_goto (tgt := 21) hx hb dX1_manWide_17 (by decide) ?_
    exact ret t4 () _ _ _ _ _ _ rfl trivial hP hD hS dX1_manWide_21 (Nat.le_refl _) (Nat.le_refl _)
  · skip
    subst g3
    refine lv_if_eq (tgt := 20) hx hb dX1_manWide_8 (by decide) (fun _ => ?_) (fun c0 => absurd (by decide) c0)
    refine lv_iconst (v := 0) hx hb dX1_manWide_20 (by decide) ?_
    exact ret 0 () _ _ _ _ _ _ rfl trivial hP hD hS dX1_manWide_21 (Nat.le_refl _) (Nat.le_refl _)
set_option maxHeartbeats 4000000 in
set_option maxRecDepth 100000 in
theorem sX_X1_part_2 (l : Launch) (dC : Nat → ClassId) (dI : Nat → Nat → Nat) (cy : Nat → ClassId) (x0 : Nat) (x : Nat → Nat) (p1 : Int32) (p2 : Int32) (v : Nat → Int32) (f : Nat → Nat → Int32) (hIv : XI v)  : ctI l (dC, dI) cy yX1_part cX1_part 4 .int 2 81 0 0 Unit [.ref (x 27), .int p1, .int p2] (XW cy x0 x v f) (fun r u => True) (fun u => XW cy x0 x v f) := by
  refine ctI_of (by decide) (Nat.le_of_ble_eq_true rfl) (fun p e s m below meth c A ls Q hx hb hml hts hown hE hP hD hA hl ret => ?_)
  have hown : s.vm.findClass RX1 = some m.cls := hown
  have hS : va_S A s.heap s.heap [] := va_S.rf
  have hl : lv_has ls 4 [(0, .ref (x 27)), (1, .int p1), (2, .int p2)] := hl
  refine lv_aload_n hx hb dX1_part_0 rfl (lv_at hl 0 rfl) ?_
  refine va_get (D := (dC, dI)) (ci := 1) (v := .ref (x 26)) (C := RX1) (T := TX1) (N := 2) hx hb hts inB_1 hown hE.1 hP 28 rfl rfl 0 (by decide) (hts _ k_318) (fun _ h9 => h9) rfl dX1_part_1 ?_
  refine lv_iload_n hx hb dX1_part_4 rfl (lv_at hl 2 rfl) ?_
  refine cbVi (n := 1) (rest := []) hx hb hml hown hts hE hP hD hS hA (sX_X7_hasCoat_1 0 l dC dI cy x0 x p2 v f hIv ) k_821 k_315 k_316 k_104 k_317 (by decide +kernel) ⟨Nat.le_of_ble_eq_true rfl, Nat.le_of_ble_eq_true rfl⟩ 27 7 rfl rfl (rfl) hl.1 rfl (Nat.le_of_ble_eq_true rfl) dX1_part_5 (fun r1 u H locs hw hP hD hS => ?_)
  obtain ⟨hG2, hw⟩ := hw
  rcases hw with ⟨g3, g3_0, g3_1, g3_2⟩ | ⟨g3⟩
  · skip
    subst g3
    refine lv_if_eq (tgt := 24) hx hb dX1_part_8 (by decide) (fun c0 => absurd c0 (by decide)) (fun _ => ?_)
    refine lv_iload_n hx hb dX1_part_11 rfl (lv_at hl 1 rfl) ?_
    refine lv_if_lt (tgt := 24) hx hb dX1_part_12 (by decide) (fun c4 => ?_) (fun c4 => ?_)
    · skip
      have zc4 : p1.toInt < 0 := by rw [fa_lt, show (0 : Int32).toInt = 0 from by decide] at c4; exact c4
      refine lv_iconst (v := 0) hx hb dX1_part_24 (by decide) ?_
      refine lv_istore_n (lv' := [(3, .int 0), (0, .ref (x 27)), (1, .int p1), (2, .int p2)]) hx hb dX1_part_25 rfl hl (by decide) rfl (fun ls hl => ?_)
      refine lv_iload_n hx hb dX1_part_26 rfl (lv_at hl 0 rfl) ?_
      refine lv_if_eq (tgt := 47) hx hb dX1_part_27 (by decide) (fun _ => ?_) (fun c0 => absurd (by decide) c0)
      refine lv_iconst (v := 0) hx hb dX1_part_47 (by decide) ?_
      exact ret 0 () _ _ _ _ _ _ rfl trivial hP hD hS dX1_part_48 (Nat.le_refl _) (Nat.le_refl _)
    · skip
      have zc4 : ¬ (p1.toInt < 0) := by rw [fa_lt, show (0 : Int32).toInt = 0 from by decide] at c4; exact c4
      refine lv_iload_n hx hb dX1_part_15 rfl (lv_at hl 1 rfl) ?_
      refine lv_iconst (v := 5) hx hb dX1_part_16 (by decide) ?_
      refine lv_icmp_ge (tgt := 24) hx hb dX1_part_17 (by decide) (fun c5 => ?_) (fun c5 => ?_)
      · skip
        have zc5 : 5 ≤ p1.toInt := by rw [fa_le, show (5 : Int32).toInt = 5 from by decide] at c5; exact c5
        refine lv_iconst (v := 0) hx hb dX1_part_24 (by decide) ?_
        refine lv_istore_n (lv' := [(3, .int 0), (0, .ref (x 27)), (1, .int p1), (2, .int p2)]) hx hb dX1_part_25 rfl hl (by decide) rfl (fun ls hl => ?_)
        refine lv_iload_n hx hb dX1_part_26 rfl (lv_at hl 0 rfl) ?_
        refine lv_if_eq (tgt := 47) hx hb dX1_part_27 (by decide) (fun _ => ?_) (fun c0 => absurd (by decide) c0)
        refine lv_iconst (v := 0) hx hb dX1_part_47 (by decide) ?_
        exact ret 0 () _ _ _ _ _ _ rfl trivial hP hD hS dX1_part_48 (Nat.le_refl _) (Nat.le_refl _)
      · skip
        have zc5 : ¬ (5 ≤ p1.toInt) := by rw [fa_le, show (5 : Int32).toInt = 5 from by decide] at c5; exact c5
        refine lv_iconst (v := 1) hx hb dX1_part_20 (by decide) ?_
        refine lv_goto (tgt := 25) hx hb dX1_part_21 (by decide) ?_
        refine lv_istore_n (lv' := [(3, .int 1), (0, .ref (x 27)), (1, .int p1), (2, .int p2)]) hx hb dX1_part_25 rfl hl (by decide) rfl (fun ls hl => ?_)
        refine lv_iload_n hx hb dX1_part_26 rfl (lv_at hl 0 rfl) ?_
        refine lv_if_eq (tgt := 47) hx hb dX1_part_27 (by decide) (fun c0 => absurd c0 (by decide)) (fun _ => ?_)
        refine lv_aload_n hx hb dX1_part_30 rfl (lv_at hl 1 rfl) ?_
        refine va_get (D := (dC, dI)) (ci := 1) (v := .ref (x 28)) (C := RX1) (T := TX1) (N := 2) hx hb hts inB_1 hown hE.1 hP 28 rfl rfl 1 (by decide) (hts _ k_319) (fun _ h9 => h9) rfl dX1_part_31 ?_
        refine lv_bipush (v := 12) hx hb dX1_part_34 (by decide) ?_
        refine lv_iload_n hx hb dX1_part_36 rfl (lv_at hl 2 rfl) ?_
        refine lv_bipush (v := 6) hx hb dX1_part_37 (by decide) ?_
        refine lv_imul hx hb dX1_part_39 ?_
        refine lv_topi (fun t6 et6 => ?_)
        have rg7 := fb_rng p1
        have zt6 : t6.toInt = p1.toInt * 6 := by rw [et6]; exact mul_i rfl (by decide) (by omega) (by omega)
        refine lv_iadd hx hb dX1_part_40 ?_
        refine lv_topi (fun t8 et8 => ?_)
        have rg9 := fb_rng t6
        have zt8 : t8.toInt = 12 + t6.toInt := by rw [et8]; exact add_i (by decide) rfl (by omega) (by omega)
        refine lv_iload_n hx hb dX1_part_41 rfl (lv_at hl 3 rfl) ?_
        refine lv_iadd hx hb dX1_part_42 ?_
        refine lv_topi (fun t10 et10 => ?_)
        have rg11 := fb_rng t8
        have rg12 := fb_rng p2
        have zt10 : t10.toInt = t8.toInt + p2.toInt := by rw [et10]; exact add_i rfl rfl (by omega) (by omega)
        refine ldI hx hb hE hP 29 rfl (vp_in_iff.mpr ⟨by omega, by omega⟩) rfl rfl dX1_part_43 ?_
        refine lv_topi (fun t13 et13 => ?_)
        refine lv_goto (tgt := 48) hx hb dX1_part_44 (by decide) ?_
        exact ret t13 () _ _ _ _ _ _ rfl trivial hP hD hS dX1_part_48 (Nat.le_refl _) (Nat.le_refl _)
  · skip
    subst g3
    refine lv_if_eq (tgt := 24) hx hb dX1_part_8 (by decide) (fun _ => ?_) (fun c0 => absurd (by decide) c0)
    refine lv_iconst (v := 0) hx hb dX1_part_24 (by decide) ?_
    refine lv_istore_n (lv' := [(3, .int 0), (0, .ref (x 27)), (1, .int p1), (2, .int p2)]) hx hb dX1_part_25 rfl hl (by decide) rfl (fun ls hl => ?_)
    refine lv_iload_n hx hb dX1_part_26 rfl (lv_at hl 0 rfl) ?_
    refine lv_if_eq (tgt := 47) hx hb dX1_part_27 (by decide) (fun _ => ?_) (fun c0 => absurd (by decide) c0)
    refine lv_iconst (v := 0) hx hb dX1_part_47 (by decide) ?_
    exact ret 0 () _ _ _ _ _ _ rfl trivial hP hD hS dX1_part_48 (Nat.le_refl _) (Nat.le_refl _)
set_option maxHeartbeats 4000000 in
set_option maxRecDepth 100000 in
theorem sX_X1_today_2 (l : Launch) (dC : Nat → ClassId) (dI : Nat → Nat → Nat) (cy : Nat → ClassId) (x0 : Nat) (x : Nat → Nat)  (v : Nat → Int32) (f : Nat → Nat → Int32) (hIv : XI v)  : ctI l (dC, dI) cy yX1_today cX1_today 1 .int 1 60 0 0 Unit [.ref (x 27)] (XW cy x0 x v f) (fun r u => True) (fun u => XW cy x0 x v f) := by
  refine ctI_of (by decide) (Nat.le_of_ble_eq_true rfl) (fun p e s m below meth c A ls Q hx hb hml hts hown hE hP hD hA hl ret => ?_)
  have hown : s.vm.findClass RX1 = some m.cls := hown
  have hS : va_S A s.heap s.heap [] := va_S.rf
  have hl : lv_has ls 1 [(0, .ref (x 27))] := hl
  refine lv_aload_n hx hb dX1_today_0 rfl (lv_at hl 0 rfl) ?_
  refine va_get (D := (dC, dI)) (ci := 1) (v := .ref (x 28)) (C := RX1) (T := TX1) (N := 2) hx hb hts inB_1 hown hE.1 hP 28 rfl rfl 1 (by decide) (hts _ k_319) (fun _ h9 => h9) rfl dX1_today_1 ?_
  refine lv_bipush (v := 42) hx hb dX1_today_4 (by decide) ?_
  refine ldI hx hb hE hP 29 rfl (vp_in_nI (n := 42) (by decide) (by decide)) rfl rfl dX1_today_6 ?_
  refine lv_topi (fun t1 et1 => ?_)
  exact ret t1 () _ _ _ _ _ _ rfl trivial hP hD hS dX1_today_7 (Nat.le_refl _) (Nat.le_refl _)
set_option maxHeartbeats 4000000 in
set_option maxRecDepth 100000 in
theorem sX_X1_illness_2 (l : Launch) (dC : Nat → ClassId) (dI : Nat → Nat → Nat) (cy : Nat → ClassId) (x0 : Nat) (x : Nat → Nat) (p1 : Int32) (p2 : Int32) (v : Nat → Int32) (f : Nat → Nat → Int32) (hIv : XI v)  : ctI l (dC, dI) cy yX1_illness cX1_illness 3 .int 3 111 0 0 ((Nat → Int32) × (Nat → Nat → Int32)) [.ref (x 27), .int p1, .int p2] (XW cy x0 x v f) (fun r u => KV [] u.1 v ∧ KF [13, 14] u.2 f ∧ XI u.1 ∧ u.1 0 = v 0 ∧ u.1 1 = v 1 ∧ u.1 7 = v 7 ∧ u.1 8 = v 8 ∧ u.1 9 = v 9 ∧ u.1 10 = v 10 ∧ u.1 31 = v 31 ∧ u.1 32 = v 32) (fun u => XW cy x0 x u.1 u.2) := by
  refine ctI_of (by decide) (Nat.le_of_ble_eq_true rfl) (fun p e s m below meth c A ls Q hx hb hml hts hown hE hP hD hA hl ret => ?_)
  have hM_v : KV [] v v := fun _ _ => rfl
  have hA_f : KF [13, 14] f f := fun _ _ => rfl
  have hown : s.vm.findClass RX1 = some m.cls := hown
  have hS : va_S A s.heap s.heap [] := va_S.rf
  have hl : lv_has ls 3 [(0, .ref (x 27)), (1, .int p1), (2, .int p2)] := hl
  refine lv_aload_n hx hb dX1_illness_0 rfl (lv_at hl 0 rfl) ?_
  refine va_get (D := (dC, dI)) (ci := 1) (v := .ref (x 26)) (C := RX1) (T := TX1) (N := 2) hx hb hts inB_1 hown hE.1 hP 28 rfl rfl 0 (by decide) (hts _ k_318) (fun _ h9 => h9) rfl dX1_illness_1 ?_
  refine va_getN (D := (dC, dI)) (ci := 7) (v := .ref (x 15)) (C := RX7) (T := TX7) (N := 10) hx hb hts inB_7 hown hE.1 hP 27 rfl rfl 2 (by decide) (va_Nw.use rfl (hE.2 _ k_209)) (fun _ h9 => h9) rfl dX1_illness_4 ?_
  refine lv_aload_n hx hb dX1_illness_7 rfl (lv_at hl 0 rfl) ?_
  refine va_get (D := (dC, dI)) (ci := 1) (v := .ref (x 26)) (C := RX1) (T := TX1) (N := 2) hx hb hts inB_1 hown hE.1 hP 28 rfl rfl 0 (by decide) (hts _ k_318) (fun _ h9 => h9) rfl dX1_illness_8 ?_
  refine lv_iconst (v := 0) hx hb dX1_illness_11 (by decide) ?_
  refine lv_iload_n hx hb dX1_illness_12 rfl (lv_at hl 1 rfl) ?_
  refine cbVi (n := 2) (rest := [.ref (x 15)]) hx hb hml hown hts hE hP hD hS hA (sX_X7_manPart_1 0 l dC dI cy x0 x 0 p1 v f hIv ) k_302 k_303 k_304 k_104 k_305 (by decide +kernel) ⟨Nat.le_of_ble_eq_true rfl, Nat.le_of_ble_eq_true rfl⟩ 27 7 rfl rfl (rfl) hl.1 rfl (Nat.le_of_ble_eq_true rfl) dX1_illness_13 (fun r1 u H locs hw hP hD hS => ?_)
  have hG2 := hw
  refine lv_aload_n hx hb dX1_illness_16 rfl (lv_at hl 0 rfl) ?_
  refine lv_iload_n hx hb dX1_illness_17 rfl (lv_at hl 1 rfl) ?_
  refine cbVi (n := 1) (rest := [.int r1, .ref (x 15)]) hx hb hml hown hts hE hP hD hS hA (sX_X1_manWide_2 l dC dI cy x0 x p1 v f hIv ) k_826 k_805 k_806 k_106 k_807 (by decide +kernel) ⟨Nat.le_of_ble_eq_true rfl, Nat.le_of_ble_eq_true rfl⟩ 28 1 rfl rfl (rfl) hl.1 rfl (Nat.le_of_ble_eq_true rfl) dX1_illness_18 (fun r3 u H locs hw hP hD hS => ?_)
  refine lv_aload_n hx hb dX1_illness_21 rfl (lv_at hl 0 rfl) ?_
  refine lv_iconst (v := 0) hx hb dX1_illness_22 (by decide) ?_
  refine lv_iload_n hx hb dX1_illness_23 rfl (lv_at hl 2 rfl) ?_
  refine cbVi (n := 2) (rest := [.int r3, .int r1, .ref (x 15)]) hx hb hml hown hts hE hP hD hS hA (sX_X1_part_2 l dC dI cy x0 x 0 p2 v f hIv ) k_827 k_828 k_829 k_106 k_830 (by decide +kernel) ⟨Nat.le_of_ble_eq_true rfl, Nat.le_of_ble_eq_true rfl⟩ 28 1 rfl rfl (rfl) hl.1 rfl (Nat.le_of_ble_eq_true rfl) dX1_illness_24 (fun r4 u H locs hw hP hD hS => ?_)
  refine lv_aload_n hx hb dX1_illness_27 rfl (lv_at hl 0 rfl) ?_
  refine lv_iconst (v := 1) hx hb dX1_illness_28 (by decide) ?_
  refine lv_iload_n hx hb dX1_illness_29 rfl (lv_at hl 2 rfl) ?_
  refine cbVi (n := 2) (rest := [.int r4, .int r3, .int r1, .ref (x 15)]) hx hb hml hown hts hE hP hD hS hA (sX_X1_part_2 l dC dI cy x0 x 1 p2 v f hIv ) k_827 k_828 k_829 k_106 k_830 (by decide +kernel) ⟨Nat.le_of_ble_eq_true rfl, Nat.le_of_ble_eq_true rfl⟩ 28 1 rfl rfl (rfl) hl.1 rfl (Nat.le_of_ble_eq_true rfl) dX1_illness_30 (fun r5 u H locs hw hP hD hS => ?_)
  refine lv_aload_n hx hb dX1_illness_33 rfl (lv_at hl 0 rfl) ?_
  refine lv_iconst (v := 3) hx hb dX1_illness_34 (by decide) ?_
  refine lv_iload_n hx hb dX1_illness_35 rfl (lv_at hl 2 rfl) ?_
  refine cbVi (n := 2) (rest := [.int r5, .int r4, .int r3, .int r1, .ref (x 15)]) hx hb hml hown hts hE hP hD hS hA (sX_X1_part_2 l dC dI cy x0 x 3 p2 v f hIv ) k_827 k_828 k_829 k_106 k_830 (by decide +kernel) ⟨Nat.le_of_ble_eq_true rfl, Nat.le_of_ble_eq_true rfl⟩ 28 1 rfl rfl (rfl) hl.1 rfl (Nat.le_of_ble_eq_true rfl) dX1_illness_36 (fun r6 u H locs hw hP hD hS => ?_)
  refine lv_aload_n hx hb dX1_illness_39 rfl (lv_at hl 0 rfl) ?_
  refine cbVi (n := 0) (rest := [.int r6, .int r5, .int r4, .int r3, .int r1, .ref (x 15)]) hx hb hml hown hts hE hP hD hS hA (sX_X1_today_2 l dC dI cy x0 x  v f hIv ) k_831 k_832 k_833 k_106 k_834 (by decide +kernel) ⟨Nat.le_of_ble_eq_true rfl, Nat.le_of_ble_eq_true rfl⟩ 28 1 rfl rfl (rfl) hl.1 rfl (Nat.le_of_ble_eq_true rfl) dX1_illness_40 (fun r7 u H locs hw hP hD hS => ?_)
  refine cbVi (n := 6) (rest := []) hx hb hml hown hts hE hP hD hS hA (sX_X4_worth_1 l dC dI cy x0 x r1 r3 r4 r5 r6 r7 v f hIv ) k_835 k_836 k_837 k_105 k_838 (by decide +kernel) ⟨Nat.le_of_ble_eq_true rfl, Nat.le_of_ble_eq_true rfl⟩ 16 4 rfl rfl (rfl) hl.1 rfl (Nat.le_of_ble_eq_true rfl) dX1_illness_43 (fun r8 u H locs hw hP hD hS => ?_)
  obtain ⟨v9, f10⟩ := u
  obtain ⟨kV_v9, kF_f10, hIv9, hk0_v9, hk1_v9, hk7_v9, hk8_v9, hk9_v9, hk10_v9, hk31_v9, hk32_v9⟩ := hw
  have hM_v9 : KV [] v9 v := KV.tr kV_v9 hM_v rfl
  have hA_f10 : KF [13, 14] f10 f := KF.tr kF_f10 hA_f rfl
  have hP : va_P (dC, dI) vwCl (XW cy x0 x v9 f10) H := hP
  have hD : va_D A (XW cy x0 x v9 f10) := hD
  have hq0_v9 : v9 0 = (v 0) := hk0_v9
  have hq1_v9 : v9 1 = (v 1) := hk1_v9
  have hq7_v9 : v9 7 = (v 7) := hk7_v9
  have hq8_v9 : v9 8 = (v 8) := hk8_v9
  have hq9_v9 : v9 9 = (v 9) := hk9_v9
  have hq10_v9 : v9 10 = (v 10) := hk10_v9
  have hq31_v9 : v9 31 = (v 31) := hk31_v9
  have hq32_v9 : v9 32 = (v 32) := hk32_v9
  exact ret r8 (v9, f10) _ _ _ _ _ _ rfl ⟨hM_v9, hA_f10, hIv9, hk0_v9, hk1_v9, hk7_v9, hk8_v9, hk9_v9, hk10_v9, hk31_v9, hk32_v9⟩ hP hD hS dX1_illness_46 (Nat.le_refl _) (Nat.le_refl _)
set_option maxHeartbeats 4000000 in
set_option maxRecDepth 100000 in
theorem sX_X1_fits_2 (l : Launch) (dC : Nat → ClassId) (dI : Nat → Nat → Nat) (cy : Nat → ClassId) (x0 : Nat) (x : Nat → Nat) (p1 : Int32) (p2 : Int32) (v : Nat → Int32) (f : Nat → Nat → Int32) (hIv : XI v)  : ctI l (dC, dI) cy yX1_fits cX1_fits 3 .boolean 4 133 0 0 ((Nat → Int32) × (Nat → Nat → Int32)) [.ref (x 27), .int p1, .int p2] (XW cy x0 x v f) (fun r u => KV [] u.1 v ∧ KF [13, 14] u.2 f ∧ XI u.1 ∧ u.1 0 = v 0 ∧ u.1 1 = v 1 ∧ u.1 7 = v 7 ∧ u.1 8 = v 8 ∧ u.1 9 = v 9 ∧ u.1 10 = v 10 ∧ u.1 31 = v 31 ∧ u.1 32 = v 32 ∧ ((r = 1) ∨ (r = 0))) (fun u => XW cy x0 x u.1 u.2) := by
  refine ctI_of (by decide) (Nat.le_of_ble_eq_true rfl) (fun p e s m below meth c A ls Q hx hb hml hts hown hE hP hD hA hl ret => ?_)
  have hM_v : KV [] v v := fun _ _ => rfl
  have hA_f : KF [13, 14] f f := fun _ _ => rfl
  have hown : s.vm.findClass RX1 = some m.cls := hown
  have hS : va_S A s.heap s.heap [] := va_S.rf
  have hl : lv_has ls 3 [(0, .ref (x 27)), (1, .int p1), (2, .int p2)] := hl
  refine lv_aload_n hx hb dX1_fits_0 rfl (lv_at hl 0 rfl) ?_
  refine va_get (D := (dC, dI)) (ci := 1) (v := .ref (x 26)) (C := RX1) (T := TX1) (N := 2) hx hb hts inB_1 hown hE.1 hP 28 rfl rfl 0 (by decide) (hts _ k_318) (fun _ h9 => h9) rfl dX1_fits_1 ?_
  refine lv_iload_n hx hb dX1_fits_4 rfl (lv_at hl 1 rfl) ?_
  refine cbVi (n := 1) (rest := []) hx hb hml hown hts hE hP hD hS hA (sX_X7_hasMan_1 0 l dC dI cy x0 x p1 v f hIv ) k_808 k_307 k_308 k_104 k_309 (by decide +kernel) ⟨Nat.le_of_ble_eq_true rfl, Nat.le_of_ble_eq_true rfl⟩ 27 7 rfl rfl (rfl) hl.1 rfl (Nat.le_of_ble_eq_true rfl) dX1_fits_5 (fun r1 u H locs hw hP hD hS => ?_)
  obtain ⟨hG2, hw⟩ := hw
  rcases hw with ⟨g3, g3_0, g3_1, g3_2⟩ | ⟨g3⟩
  · skip
    subst g3
    refine lv_if_eq (tgt := 42) hx hb dX1_fits_8 (by decide) (fun c0 => absurd c0 (by decide)) (fun _ => ?_)
    refine lv_aload_n hx hb dX1_fits_11 rfl (lv_at hl 0 rfl) ?_
    refine va_get (D := (dC, dI)) (ci := 1) (v := .ref (x 26)) (C := RX1) (T := TX1) (N := 2) hx hb hts inB_1 hown hE.1 hP 28 rfl rfl 0 (by decide) (hts _ k_318) (fun _ h9 => h9) rfl dX1_fits_12 ?_
    refine lv_iload_n hx hb dX1_fits_15 rfl (lv_at hl 2 rfl) ?_
    refine cbVi (n := 1) (rest := []) hx hb hml hown hts hE hP hD hS hA (sX_X7_hasCoat_1 0 l dC dI cy x0 x p2 v f hIv ) k_821 k_315 k_316 k_104 k_317 (by decide +kernel) ⟨Nat.le_of_ble_eq_true rfl, Nat.le_of_ble_eq_true rfl⟩ 27 7 rfl rfl (rfl) hl.1 rfl (Nat.le_of_ble_eq_true rfl) dX1_fits_16 (fun r4 u H locs hw hP hD hS => ?_)
    obtain ⟨hG5, hw⟩ := hw
    rcases hw with ⟨g6, g6_0, g6_1, g6_2⟩ | ⟨g6⟩
    · skip
      subst g6
      refine lv_if_eq (tgt := 42) hx hb dX1_fits_19 (by decide) (fun c0 => absurd c0 (by decide)) (fun _ => ?_)
      refine lv_aload_n hx hb dX1_fits_22 rfl (lv_at hl 0 rfl) ?_
      refine lv_iload_n hx hb dX1_fits_23 rfl (lv_at hl 1 rfl) ?_
      refine lv_iload_n hx hb dX1_fits_24 rfl (lv_at hl 2 rfl) ?_
      refine cbVi (n := 2) (rest := []) hx hb hml hown hts hE hP hD hS hA (sX_X1_illness_2 l dC dI cy x0 x p1 p2 v f hIv ) k_822 k_823 k_824 k_106 k_825 (by decide +kernel) ⟨Nat.le_of_ble_eq_true rfl, Nat.le_of_ble_eq_true rfl⟩ 28 1 rfl rfl (rfl) hl.1 rfl (Nat.le_of_ble_eq_true rfl) dX1_fits_25 (fun r7 u H locs hw hP hD hS => ?_)
      obtain ⟨v8, f9⟩ := u
      obtain ⟨kV_v8, kF_f9, hIv8, hk0_v8, hk1_v8, hk7_v8, hk8_v8, hk9_v8, hk10_v8, hk31_v8, hk32_v8⟩ := hw
      have hM_v8 : KV [] v8 v := KV.tr kV_v8 hM_v rfl
      have hA_f9 : KF [13, 14] f9 f := KF.tr kF_f9 hA_f rfl
      have hP : va_P (dC, dI) vwCl (XW cy x0 x v8 f9) H := hP
      have hD : va_D A (XW cy x0 x v8 f9) := hD
      have hq0_v8 : v8 0 = (v 0) := hk0_v8
      have hq1_v8 : v8 1 = (v 1) := hk1_v8
      have hq7_v8 : v8 7 = (v 7) := hk7_v8
      have hq8_v8 : v8 8 = (v 8) := hk8_v8
      have hq9_v8 : v8 9 = (v 9) := hk9_v8
      have hq10_v8 : v8 10 = (v 10) := hk10_v8
      have hq31_v8 : v8 31 = (v 31) := hk31_v8
      have hq32_v8 : v8 32 = (v 32) := hk32_v8
      refine lv_aload_n hx hb dX1_fits_28 rfl (lv_at hl 0 rfl) ?_
      refine va_get (D := (dC, dI)) (ci := 1) (v := .ref (x 26)) (C := RX1) (T := TX1) (N := 2) hx hb hts inB_1 hown hE.1 hP 28 rfl rfl 0 (by decide) (hts _ k_318) (fun _ h9 => h9) rfl dX1_fits_29 ?_
      refine va_getN (D := (dC, dI)) (ci := 7) (v := .int (v8 33)) (C := RX7) (T := TX7) (N := 10) hx hb hts inB_7 hown hE.1 hP 27 rfl rfl 5 (by decide) (va_Nw.use rfl (hE.2 _ k_232)) (fun _ h9 => h9) rfl dX1_fits_32 ?_
      refine lv_icmp_gt (tgt := 42) hx hb dX1_fits_35 (by decide) (fun c10 => ?_) (fun c10 => ?_)
      · skip
        have zc10 : (v8 33).toInt < r7.toInt := by rw [fa_lt] at c10; exact c10
        have rg11 := fb_rng r7
        have rg12 := fb_rng (v8 33)
        refine lv_iconst (v := 0) hx hb dX1_fits_42 (by decide) ?_
        exact ret 0 (v8, f9) _ _ _ _ _ _ rfl ⟨hM_v8, hA_f9, hIv8, hk0_v8, hk1_v8, hk7_v8, hk8_v8, hk9_v8, hk10_v8, hk31_v8, hk32_v8, (Or.inr rfl)⟩ hP hD hS dX1_fits_43 (Nat.le_refl _) (Nat.le_refl _)
      · skip
        have zc10 : ¬ ((v8 33).toInt < r7.toInt) := by rw [fa_lt] at c10; exact c10
        have rg13 := fb_rng r7
        have rg14 := fb_rng (v8 33)
        refine lv_iconst (v := 1) hx hb dX1_fits_38 (by decide) ?_
        refine lv_goto (tgt := 43) hx hb dX1_fits_39 (by decide) ?_
        exact ret 1 (v8, f9) _ _ _ _ _ _ rfl ⟨hM_v8, hA_f9, hIv8, hk0_v8, hk1_v8, hk7_v8, hk8_v8, hk9_v8, hk10_v8, hk31_v8, hk32_v8, (Or.inl rfl)⟩ hP hD hS dX1_fits_43 (Nat.le_refl _) (Nat.le_refl _)
    · skip
      subst g6
      refine lv_if_eq (tgt := 42) hx hb dX1_fits_19 (by decide) (fun _ => ?_) (fun c0 => absurd (by decide) c0)
      refine lv_iconst (v := 0) hx hb dX1_fits_42 (by decide) ?_
      exact ret 0 (v, f) _ _ _ _ _ _ rfl ⟨hM_v, hA_f, hIv, rfl, rfl, rfl, rfl, rfl, rfl, rfl, rfl, (Or.inr rfl)⟩ hP hD hS dX1_fits_43 (Nat.le_refl _) (Nat.le_refl _)
  · skip
    subst g3
    refine lv_if_eq (tgt := 42) hx hb dX1_fits_8 (by decide) (fun _ => ?_) (fun c0 => absurd (by decide) c0)
    refine lv_iconst (v := 0) hx hb dX1_fits_42 (by decide) ?_
    exact ret 0 (v, f) _ _ _ _ _ _ rfl ⟨hM_v, hA_f, hIv, rfl, rfl, rfl, rfl, rfl, rfl, rfl, rfl, (Or.inr rfl)⟩ hP hD hS dX1_fits_43 (Nat.le_refl _) (Nat.le_refl _)
set_option maxHeartbeats 4000000 in
set_option maxRecDepth 100000 in
theorem sX_X1_setWears_2 (l : Launch) (dC : Nat → ClassId) (dI : Nat → Nat → Nat) (cy : Nat → ClassId) (x0 : Nat) (x : Nat → Nat) (p1 : Int32) (p2 : Int32) (v : Nat → Int32) (f : Nat → Nat → Int32) (hIv : XI v)  : ctV l (dC, dI) cy yX1_setWears cX1_setWears 3 2 81 0 0 ((Nat → Int32) × (Nat → Nat → Int32)) [.ref (x 27), .int p1, .int p2] (XW cy x0 x v f) (fun u => KV [] u.1 v ∧ KF [18] u.2 f ∧ XI u.1 ∧ u.1 0 = v 0 ∧ u.1 1 = v 1 ∧ u.1 7 = v 7 ∧ u.1 8 = v 8 ∧ u.1 9 = v 9 ∧ u.1 10 = v 10 ∧ u.1 31 = v 31 ∧ u.1 32 = v 32) (fun u => XW cy x0 x u.1 u.2) := by
  refine ctV_of (by decide) (Nat.le_of_ble_eq_true rfl) (fun p e s m below meth c A ls Q hx hb hml hts hown hnm hE hP hD hA hl ret => ?_)
  have hM_v : KV [] v v := fun _ _ => rfl
  have hA_f : KF [18] f f := fun _ _ => rfl
  have hown : s.vm.findClass RX1 = some m.cls := hown
  have hS : va_S A s.heap s.heap [] := va_S.rf
  have hl : lv_has ls 3 [(0, .ref (x 27)), (1, .int p1), (2, .int p2)] := hl
  refine lv_aload_n hx hb dX1_setWears_0 rfl (lv_at hl 0 rfl) ?_
  refine va_get (D := (dC, dI)) (ci := 1) (v := .ref (x 26)) (C := RX1) (T := TX1) (N := 2) hx hb hts inB_1 hown hE.1 hP 28 rfl rfl 0 (by decide) (hts _ k_318) (fun _ h9 => h9) rfl dX1_setWears_1 ?_
  refine lv_iload_n hx hb dX1_setWears_4 rfl (lv_at hl 1 rfl) ?_
  refine cbVi (n := 1) (rest := []) hx hb hml hown hts hE hP hD hS hA (sX_X7_hasMan_1 0 l dC dI cy x0 x p1 v f hIv ) k_808 k_307 k_308 k_104 k_309 (by decide +kernel) ⟨Nat.le_of_ble_eq_true rfl, Nat.le_of_ble_eq_true rfl⟩ 27 7 rfl rfl (rfl) hl.1 rfl (Nat.le_of_ble_eq_true rfl) dX1_setWears_5 (fun r1 u H locs hw hP hD hS => ?_)
  obtain ⟨hG2, hw⟩ := hw
  rcases hw with ⟨g3, g3_0, g3_1, g3_2⟩ | ⟨g3⟩
  · skip
    subst g3
    refine lv_if_eq (tgt := 21) hx hb dX1_setWears_8 (by decide) (fun c0 => absurd c0 (by decide)) (fun _ => ?_)
    refine lv_aload_n hx hb dX1_setWears_11 rfl (lv_at hl 0 rfl) ?_
    refine va_get (D := (dC, dI)) (ci := 1) (v := .ref (x 28)) (C := RX1) (T := TX1) (N := 2) hx hb hts inB_1 hown hE.1 hP 28 rfl rfl 1 (by decide) (hts _ k_319) (fun _ h9 => h9) rfl dX1_setWears_12 ?_
    refine lv_bipush (v := 6) hx hb dX1_setWears_15 (by decide) ?_
    refine lv_iload_n hx hb dX1_setWears_17 rfl (lv_at hl 1 rfl) ?_
    refine lv_iadd hx hb dX1_setWears_18 ?_
    refine lv_topi (fun t4 et4 => ?_)
    have rg5 := fb_rng p1
    have zt4 : t4.toInt = 6 + p1.toInt := by rw [et4]; exact add_i (by decide) rfl (by omega) (by omega)
    refine lv_iload_n hx hb dX1_setWears_19 rfl (lv_at hl 2 rfl) ?_
    refine stI hx hb hE hP hD hS 29 rfl (vp_in_iff.mpr ⟨by omega, by omega⟩) rfl dX1_setWears_20 (fun H locs hP hD hS => ?_)
    obtain ⟨f6, ef6, hP, hD⟩ : ∃ fz9, fz9 = upd2 f 18 (upd (f 18) t4.toNatClampNeg p2) ∧ va_P (dC, dI) vwCl (XW cy x0 x v fz9) H ∧ va_D A (XW cy x0 x v fz9) := ⟨_, rfl, hP, hD⟩
    have hA_f6 : KF [18] f6 f := by rw [ef6]; exact KF.up hA_f rfl
    exact ret (v, f6) _ _ _ _ _ _ ⟨hM_v, hA_f6, hIv, rfl, rfl, rfl, rfl, rfl, rfl, rfl, rfl⟩ hP hD hS dX1_setWears_21 (Nat.le_refl _) (Nat.le_refl _)
  · skip
    subst g3
    refine lv_if_eq (tgt := 21) hx hb dX1_setWears_8 (by decide) (fun _ => ?_) (fun c0 => absurd (by decide) c0)
    exact ret (v, f) _ _ _ _ _ _ ⟨hM_v, hA_f, hIv, rfl, rfl, rfl, rfl, rfl, rfl, rfl, rfl⟩ hP hD hS dX1_setWears_21 (Nat.le_refl _) (Nat.le_refl _)
set_option maxHeartbeats 4000000 in
set_option maxRecDepth 100000 in
theorem sX_X1_setPart_2 (l : Launch) (dC : Nat → ClassId) (dI : Nat → Nat → Nat) (cy : Nat → ClassId) (x0 : Nat) (x : Nat → Nat) (p1 : Int32) (p2 : Int32) (p3 : Int32) (v : Nat → Int32) (f : Nat → Nat → Int32) (hIv : XI v)  : ctV l (dC, dI) cy yX1_setPart cX1_setPart 4 2 81 0 0 ((Nat → Int32) × (Nat → Nat → Int32)) [.ref (x 27), .int p1, .int p2, .int p3] (XW cy x0 x v f) (fun u => KV [] u.1 v ∧ KF [18] u.2 f ∧ XI u.1 ∧ u.1 0 = v 0 ∧ u.1 1 = v 1 ∧ u.1 7 = v 7 ∧ u.1 8 = v 8 ∧ u.1 9 = v 9 ∧ u.1 10 = v 10 ∧ u.1 31 = v 31 ∧ u.1 32 = v 32) (fun u => XW cy x0 x u.1 u.2) := by
  refine ctV_of (by decide) (Nat.le_of_ble_eq_true rfl) (fun p e s m below meth c A ls Q hx hb hml hts hown hnm hE hP hD hA hl ret => ?_)
  have hM_v : KV [] v v := fun _ _ => rfl
  have hA_f : KF [18] f f := fun _ _ => rfl
  have hown : s.vm.findClass RX1 = some m.cls := hown
  have hS : va_S A s.heap s.heap [] := va_S.rf
  have hl : lv_has ls 4 [(0, .ref (x 27)), (1, .int p1), (2, .int p2), (3, .int p3)] := hl
  refine lv_aload_n hx hb dX1_setPart_0 rfl (lv_at hl 0 rfl) ?_
  refine va_get (D := (dC, dI)) (ci := 1) (v := .ref (x 26)) (C := RX1) (T := TX1) (N := 2) hx hb hts inB_1 hown hE.1 hP 28 rfl rfl 0 (by decide) (hts _ k_318) (fun _ h9 => h9) rfl dX1_setPart_1 ?_
  refine lv_iload_n hx hb dX1_setPart_4 rfl (lv_at hl 2 rfl) ?_
  refine cbVi (n := 1) (rest := []) hx hb hml hown hts hE hP hD hS hA (sX_X7_hasCoat_1 0 l dC dI cy x0 x p2 v f hIv ) k_821 k_315 k_316 k_104 k_317 (by decide +kernel) ⟨Nat.le_of_ble_eq_true rfl, Nat.le_of_ble_eq_true rfl⟩ 27 7 rfl rfl (rfl) hl.1 rfl (Nat.le_of_ble_eq_true rfl) dX1_setPart_5 (fun r1 u H locs hw hP hD hS => ?_)
  obtain ⟨hG2, hw⟩ := hw
  rcases hw with ⟨g3, g3_0, g3_1, g3_2⟩ | ⟨g3⟩
  · skip
    subst g3
    refine lv_if_eq (tgt := 35) hx hb dX1_setPart_8 (by decide) (fun c0 => absurd c0 (by decide)) (fun _ => ?_)
    refine lv_iload_n hx hb dX1_setPart_11 rfl (lv_at hl 1 rfl) ?_
    refine lv_if_lt (tgt := 35) hx hb dX1_setPart_12 (by decide) (fun c4 => ?_) (fun c4 => ?_)
    · skip
      have zc4 : p1.toInt < 0 := by rw [fa_lt, show (0 : Int32).toInt = 0 from by decide] at c4; exact c4
      exact ret (v, f) _ _ _ _ _ _ ⟨hM_v, hA_f, hIv, rfl, rfl, rfl, rfl, rfl, rfl, rfl, rfl⟩ hP hD hS dX1_setPart_35 (Nat.le_refl _) (Nat.le_refl _)
    · skip
      have zc4 : ¬ (p1.toInt < 0) := by rw [fa_lt, show (0 : Int32).toInt = 0 from by decide] at c4; exact c4
      refine lv_iload_n hx hb dX1_setPart_15 rfl (lv_at hl 1 rfl) ?_
      refine lv_iconst (v := 5) hx hb dX1_setPart_16 (by decide) ?_
      refine lv_icmp_ge (tgt := 35) hx hb dX1_setPart_17 (by decide) (fun c5 => ?_) (fun c5 => ?_)
      · skip
        have zc5 : 5 ≤ p1.toInt := by rw [fa_le, show (5 : Int32).toInt = 5 from by decide] at c5; exact c5
        exact ret (v, f) _ _ _ _ _ _ ⟨hM_v, hA_f, hIv, rfl, rfl, rfl, rfl, rfl, rfl, rfl, rfl⟩ hP hD hS dX1_setPart_35 (Nat.le_refl _) (Nat.le_refl _)
      · skip
        have zc5 : ¬ (5 ≤ p1.toInt) := by rw [fa_le, show (5 : Int32).toInt = 5 from by decide] at c5; exact c5
        refine lv_aload_n hx hb dX1_setPart_20 rfl (lv_at hl 0 rfl) ?_
        refine va_get (D := (dC, dI)) (ci := 1) (v := .ref (x 28)) (C := RX1) (T := TX1) (N := 2) hx hb hts inB_1 hown hE.1 hP 28 rfl rfl 1 (by decide) (hts _ k_319) (fun _ h9 => h9) rfl dX1_setPart_21 ?_
        refine lv_bipush (v := 12) hx hb dX1_setPart_24 (by decide) ?_
        refine lv_iload_n hx hb dX1_setPart_26 rfl (lv_at hl 1 rfl) ?_
        refine lv_bipush (v := 6) hx hb dX1_setPart_27 (by decide) ?_
        refine lv_imul hx hb dX1_setPart_29 ?_
        refine lv_topi (fun t6 et6 => ?_)
        have rg7 := fb_rng p1
        have zt6 : t6.toInt = p1.toInt * 6 := by rw [et6]; exact mul_i rfl (by decide) (by omega) (by omega)
        refine lv_iadd hx hb dX1_setPart_30 ?_
        refine lv_topi (fun t8 et8 => ?_)
        have rg9 := fb_rng t6
        have zt8 : t8.toInt = 12 + t6.toInt := by rw [et8]; exact add_i (by decide) rfl (by omega) (by omega)
        refine lv_iload_n hx hb dX1_setPart_31 rfl (lv_at hl 2 rfl) ?_
        refine lv_iadd hx hb dX1_setPart_32 ?_
        refine lv_topi (fun t10 et10 => ?_)
        have rg11 := fb_rng t8
        have rg12 := fb_rng p2
        have zt10 : t10.toInt = t8.toInt + p2.toInt := by rw [et10]; exact add_i rfl rfl (by omega) (by omega)
        refine lv_iload_n hx hb dX1_setPart_33 rfl (lv_at hl 3 rfl) ?_
        refine stI hx hb hE hP hD hS 29 rfl (vp_in_iff.mpr ⟨by omega, by omega⟩) rfl dX1_setPart_34 (fun H locs hP hD hS => ?_)
        obtain ⟨f13, ef13, hP, hD⟩ : ∃ fz9, fz9 = upd2 f 18 (upd (f 18) t10.toNatClampNeg p3) ∧ va_P (dC, dI) vwCl (XW cy x0 x v fz9) H ∧ va_D A (XW cy x0 x v fz9) := ⟨_, rfl, hP, hD⟩
        have hA_f13 : KF [18] f13 f := by rw [ef13]; exact KF.up hA_f rfl
        exact ret (v, f13) _ _ _ _ _ _ ⟨hM_v, hA_f13, hIv, rfl, rfl, rfl, rfl, rfl, rfl, rfl, rfl⟩ hP hD hS dX1_setPart_35 (Nat.le_refl _) (Nat.le_refl _)
  · skip
    subst g3
    refine lv_if_eq (tgt := 35) hx hb dX1_setPart_8 (by decide) (fun _ => ?_) (fun c0 => absurd (by decide) c0)
    exact ret (v, f) _ _ _ _ _ _ ⟨hM_v, hA_f, hIv, rfl, rfl, rfl, rfl, rfl, rfl, rfl, rfl⟩ hP hD hS dX1_setPart_35 (Nat.le_refl _) (Nat.le_refl _)
set_option maxHeartbeats 4000000 in
set_option maxRecDepth 100000 in
theorem sX_X1_weather_2 (l : Launch) (dC : Nat → ClassId) (dI : Nat → Nat → Nat) (cy : Nat → ClassId) (x0 : Nat) (x : Nat → Nat) (p1 : Int32) (p2 : Int32) (v : Nat → Int32) (f : Nat → Nat → Int32) (hIv : XI v)  : ctV l (dC, dI) cy yX1_weather cX1_weather 3 3 104 0 0 ((Nat → Int32) × (Nat → Nat → Int32)) [.ref (x 27), .int p1, .int p2] (XW cy x0 x v f) (fun u => KV [] u.1 v ∧ KF [18] u.2 f ∧ XI u.1 ∧ u.1 0 = v 0 ∧ u.1 1 = v 1 ∧ u.1 7 = v 7 ∧ u.1 8 = v 8 ∧ u.1 9 = v 9 ∧ u.1 10 = v 10 ∧ u.1 31 = v 31 ∧ u.1 32 = v 32) (fun u => XW cy x0 x u.1 u.2) := by
  refine ctV_of (by decide) (Nat.le_of_ble_eq_true rfl) (fun p e s m below meth c A ls Q hx hb hml hts hown hnm hE hP hD hA hl ret => ?_)
  have hM_v : KV [] v v := fun _ _ => rfl
  have hA_f : KF [18] f f := fun _ _ => rfl
  have hown : s.vm.findClass RX1 = some m.cls := hown
  have hS : va_S A s.heap s.heap [] := va_S.rf
  have hl : lv_has ls 3 [(0, .ref (x 27)), (1, .int p1), (2, .int p2)] := hl
  refine lv_aload_n hx hb dX1_weather_0 rfl (lv_at hl 0 rfl) ?_
  refine lv_iconst (v := 3) hx hb dX1_weather_1 (by decide) ?_
  refine lv_iload_n hx hb dX1_weather_2 rfl (lv_at hl 1 rfl) ?_
  refine lv_bipush (v := 99) hx hb dX1_weather_3 (by decide) ?_
  refine lv_aload_n hx hb dX1_weather_5 rfl (lv_at hl 0 rfl) ?_
  refine lv_iconst (v := 3) hx hb dX1_weather_6 (by decide) ?_
  refine lv_iload_n hx hb dX1_weather_7 rfl (lv_at hl 1 rfl) ?_
  refine cbVi (n := 2) (rest := [.int 99, .int p1, .int 3, .ref (x 27)]) hx hb hml hown hts hE hP hD hS hA (sX_X1_part_2 l dC dI cy x0 x 3 p1 v f hIv ) k_827 k_828 k_829 k_106 k_830 (by decide +kernel) ⟨Nat.le_of_ble_eq_true rfl, Nat.le_of_ble_eq_true rfl⟩ 28 1 rfl rfl (rfl) hl.1 rfl (Nat.le_of_ble_eq_true rfl) dX1_weather_8 (fun r1 u H locs hw hP hD hS => ?_)
  refine lv_iconst (v := 1) hx hb dX1_weather_11 (by decide) ?_
  refine lv_iadd hx hb dX1_weather_12 ?_
  refine lv_topi (fun t2 et2 => ?_)
  refine va_mmin hx hb (by rw [hml]; exact hl.1.symm) hown (hts _ k_869) (hts _ k_643) (hts _ k_119) (hts _ k_644) (Nat.le_of_ble_eq_true rfl) (Nat.le_of_ble_eq_true rfl) (Nat.le_of_ble_eq_true rfl) (Nat.le_of_ble_eq_true rfl) dX1_weather_13 ?_
  refine lv_topi (fun t3 et3 => ?_)
  have zt3 : t3.toInt = min (99) (t2.toInt) := by rw [et3]; exact mmin_i (by decide) rfl
  refine cbVv (n := 3) (rest := []) hx hb hml hown hts hE hP hD hS hA (sX_X1_setPart_2 l dC dI cy x0 x 3 p1 t3 v f hIv ) k_874 k_875 k_876 k_106 k_877 (by decide +kernel) ⟨Nat.le_of_ble_eq_true rfl, Nat.le_of_ble_eq_true rfl⟩ 28 1 rfl rfl (rfl) hl.1 rfl (Nat.le_of_ble_eq_true rfl) dX1_weather_16 (fun u H locs hw hP hD hS => ?_)
  obtain ⟨v4, f5⟩ := u
  obtain ⟨kV_v4, kF_f5, hIv4, hk0_v4, hk1_v4, hk7_v4, hk8_v4, hk9_v4, hk10_v4, hk31_v4, hk32_v4⟩ := hw
  have hM_v4 : KV [] v4 v := KV.tr kV_v4 hM_v rfl
  have hA_f5 : KF [18] f5 f := KF.tr kF_f5 hA_f rfl
  have hP : va_P (dC, dI) vwCl (XW cy x0 x v4 f5) H := hP
  have hD : va_D A (XW cy x0 x v4 f5) := hD
  have hq0_v4 : v4 0 = (v 0) := hk0_v4
  have hq1_v4 : v4 1 = (v 1) := hk1_v4
  have hq7_v4 : v4 7 = (v 7) := hk7_v4
  have hq8_v4 : v4 8 = (v 8) := hk8_v4
  have hq9_v4 : v4 9 = (v 9) := hk9_v4
  have hq10_v4 : v4 10 = (v 10) := hk10_v4
  have hq31_v4 : v4 31 = (v 31) := hk31_v4
  have hq32_v4 : v4 32 = (v 32) := hk32_v4
  refine lv_aload_n hx hb dX1_weather_19 rfl (lv_at hl 0 rfl) ?_
  refine lv_iconst (v := 1) hx hb dX1_weather_20 (by decide) ?_
  refine lv_iload_n hx hb dX1_weather_21 rfl (lv_at hl 1 rfl) ?_
  refine lv_iconst (v := 0) hx hb dX1_weather_22 (by decide) ?_
  refine lv_aload_n hx hb dX1_weather_23 rfl (lv_at hl 0 rfl) ?_
  refine lv_iconst (v := 1) hx hb dX1_weather_24 (by decide) ?_
  refine lv_iload_n hx hb dX1_weather_25 rfl (lv_at hl 1 rfl) ?_
  refine cbVi (n := 2) (rest := [.int 0, .int p1, .int 1, .ref (x 27)]) hx hb hml hown hts hE hP hD hS hA (sX_X1_part_2 l dC dI cy x0 x 1 p1 v4 f5 hIv4 ) k_827 k_828 k_829 k_106 k_830 (by decide +kernel) ⟨Nat.le_of_ble_eq_true rfl, Nat.le_of_ble_eq_true rfl⟩ 28 1 rfl rfl (rfl) hl.1 rfl (Nat.le_of_ble_eq_true rfl) dX1_weather_26 (fun r6 u H locs hw hP hD hS => ?_)
  refine lv_iload_n hx hb dX1_weather_29 rfl (lv_at hl 2 rfl) ?_
  refine lv_isub hx hb dX1_weather_30 ?_
  refine lv_topi (fun t7 et7 => ?_)
  refine va_mmax hx hb (by rw [hml]; exact hl.1.symm) hown (hts _ k_878) (hts _ k_640) (hts _ k_119) (hts _ k_641) (Nat.le_of_ble_eq_true rfl) (Nat.le_of_ble_eq_true rfl) (Nat.le_of_ble_eq_true rfl) (Nat.le_of_ble_eq_true rfl) dX1_weather_31 ?_
  refine lv_topi (fun t8 et8 => ?_)
  have zt8 : t8.toInt = max (0) (t7.toInt) := by rw [et8]; exact mmax_i (by decide) rfl
  refine cbVv (n := 3) (rest := []) hx hb hml hown hts hE hP hD hS hA (sX_X1_setPart_2 l dC dI cy x0 x 1 p1 t8 v4 f5 hIv4 ) k_874 k_875 k_876 k_106 k_877 (by decide +kernel) ⟨Nat.le_of_ble_eq_true rfl, Nat.le_of_ble_eq_true rfl⟩ 28 1 rfl rfl (rfl) hl.1 rfl (Nat.le_of_ble_eq_true rfl) dX1_weather_34 (fun u H locs hw hP hD hS => ?_)
  obtain ⟨v9, f10⟩ := u
  obtain ⟨kV_v9, kF_f10, hIv9, hk0_v9, hk1_v9, hk7_v9, hk8_v9, hk9_v9, hk10_v9, hk31_v9, hk32_v9⟩ := hw
  have hM_v9 : KV [] v9 v := KV.tr kV_v9 hM_v4 rfl
  have hA_f10 : KF [18] f10 f := KF.tr kF_f10 hA_f5 rfl
  have hP : va_P (dC, dI) vwCl (XW cy x0 x v9 f10) H := hP
  have hD : va_D A (XW cy x0 x v9 f10) := hD
  have hq0_v9 : v9 0 = (v 0) := hk0_v9.trans hq0_v4
  have hq1_v9 : v9 1 = (v 1) := hk1_v9.trans hq1_v4
  have hq7_v9 : v9 7 = (v 7) := hk7_v9.trans hq7_v4
  have hq8_v9 : v9 8 = (v 8) := hk8_v9.trans hq8_v4
  have hq9_v9 : v9 9 = (v 9) := hk9_v9.trans hq9_v4
  have hq10_v9 : v9 10 = (v 10) := hk10_v9.trans hq10_v4
  have hq31_v9 : v9 31 = (v 31) := hk31_v9.trans hq31_v4
  have hq32_v9 : v9 32 = (v 32) := hk32_v9.trans hq32_v4
  refine lv_aload_n hx hb dX1_weather_37 rfl (lv_at hl 0 rfl) ?_
  refine lv_iconst (v := 0) hx hb dX1_weather_38 (by decide) ?_
  refine lv_iload_n hx hb dX1_weather_39 rfl (lv_at hl 1 rfl) ?_
  refine lv_iconst (v := 0) hx hb dX1_weather_40 (by decide) ?_
  refine lv_aload_n hx hb dX1_weather_41 rfl (lv_at hl 0 rfl) ?_
  refine lv_iconst (v := 0) hx hb dX1_weather_42 (by decide) ?_
  refine lv_iload_n hx hb dX1_weather_43 rfl (lv_at hl 1 rfl) ?_
  refine cbVi (n := 2) (rest := [.int 0, .int p1, .int 0, .ref (x 27)]) hx hb hml hown hts hE hP hD hS hA (sX_X1_part_2 l dC dI cy x0 x 0 p1 v9 f10 hIv9 ) k_827 k_828 k_829 k_106 k_830 (by decide +kernel) ⟨Nat.le_of_ble_eq_true rfl, Nat.le_of_ble_eq_true rfl⟩ 28 1 rfl rfl (rfl) hl.1 rfl (Nat.le_of_ble_eq_true rfl) dX1_weather_44 (fun r11 u H locs hw hP hD hS => ?_)
  refine lv_iload_n hx hb dX1_weather_47 rfl (lv_at hl 2 rfl) ?_
  refine lv_isub hx hb dX1_weather_48 ?_
  refine lv_topi (fun t12 et12 => ?_)
  refine va_mmax hx hb (by rw [hml]; exact hl.1.symm) hown (hts _ k_878) (hts _ k_640) (hts _ k_119) (hts _ k_641) (Nat.le_of_ble_eq_true rfl) (Nat.le_of_ble_eq_true rfl) (Nat.le_of_ble_eq_true rfl) (Nat.le_of_ble_eq_true rfl) dX1_weather_49 ?_
  refine lv_topi (fun t13 et13 => ?_)
  have zt13 : t13.toInt = max (0) (t12.toInt) := by rw [et13]; exact mmax_i (by decide) rfl
  refine cbVv (n := 3) (rest := []) hx hb hml hown hts hE hP hD hS hA (sX_X1_setPart_2 l dC dI cy x0 x 0 p1 t13 v9 f10 hIv9 ) k_874 k_875 k_876 k_106 k_877 (by decide +kernel) ⟨Nat.le_of_ble_eq_true rfl, Nat.le_of_ble_eq_true rfl⟩ 28 1 rfl rfl (rfl) hl.1 rfl (Nat.le_of_ble_eq_true rfl) dX1_weather_52 (fun u H locs hw hP hD hS => ?_)
  obtain ⟨v14, f15⟩ := u
  obtain ⟨kV_v14, kF_f15, hIv14, hk0_v14, hk1_v14, hk7_v14, hk8_v14, hk9_v14, hk10_v14, hk31_v14, hk32_v14⟩ := hw
  have hM_v14 : KV [] v14 v := KV.tr kV_v14 hM_v9 rfl
  have hA_f15 : KF [18] f15 f := KF.tr kF_f15 hA_f10 rfl
  have hP : va_P (dC, dI) vwCl (XW cy x0 x v14 f15) H := hP
  have hD : va_D A (XW cy x0 x v14 f15) := hD
  have hq0_v14 : v14 0 = (v 0) := hk0_v14.trans hq0_v9
  have hq1_v14 : v14 1 = (v 1) := hk1_v14.trans hq1_v9
  have hq7_v14 : v14 7 = (v 7) := hk7_v14.trans hq7_v9
  have hq8_v14 : v14 8 = (v 8) := hk8_v14.trans hq8_v9
  have hq9_v14 : v14 9 = (v 9) := hk9_v14.trans hq9_v9
  have hq10_v14 : v14 10 = (v 10) := hk10_v14.trans hq10_v9
  have hq31_v14 : v14 31 = (v 31) := hk31_v14.trans hq31_v9
  have hq32_v14 : v14 32 = (v 32) := hk32_v14.trans hq32_v9
  exact ret (v14, f15) _ _ _ _ _ _ ⟨hM_v14, hA_f15, hIv14, (hk0_v14.trans (hk0_v9.trans hk0_v4)), (hk1_v14.trans (hk1_v9.trans hk1_v4)), (hk7_v14.trans (hk7_v9.trans hk7_v4)), (hk8_v14.trans (hk8_v9.trans hk8_v4)), (hk9_v14.trans (hk9_v9.trans hk9_v4)), (hk10_v14.trans (hk10_v9.trans hk10_v4)), (hk31_v14.trans (hk31_v9.trans hk31_v4)), (hk32_v14.trans (hk32_v9.trans hk32_v4))⟩ hP hD hS dX1_weather_55 (Nat.le_refl _) (Nat.le_refl _)
set_option maxHeartbeats 4000000 in
set_option maxRecDepth 100000 in
theorem sX_X1_passDay_2 (l : Launch) (dC : Nat → ClassId) (dI : Nat → Nat → Nat) (cy : Nat → ClassId) (x0 : Nat) (x : Nat → Nat) (p1 : Int32) (v : Nat → Int32) (f : Nat → Nat → Int32) (hIv : XI v)  : ctI l (dC, dI) cy yX1_passDay cX1_passDay 5 .int 5 155 0 0 ((Nat → Int32) × (Nat → Nat → Int32)) [.ref (x 27), .int p1] (XW cy x0 x v f) (fun r u => KV [] u.1 v ∧ KF [13, 14, 18] u.2 f ∧ XI u.1 ∧ u.1 0 = v 0 ∧ u.1 1 = v 1 ∧ u.1 7 = v 7 ∧ u.1 8 = v 8 ∧ u.1 9 = v 9 ∧ u.1 10 = v 10 ∧ u.1 31 = v 31 ∧ u.1 32 = v 32) (fun u => XW cy x0 x u.1 u.2) := by
  refine ctI_of (by decide) (Nat.le_of_ble_eq_true rfl) (fun p e s m below meth c A ls Q hx hb hml hts hown hE hP hD hA hl ret => ?_)
  have hM_v : KV [] v v := fun _ _ => rfl
  have hA_f : KF [13, 14, 18] f f := fun _ _ => rfl
  have hown : s.vm.findClass RX1 = some m.cls := hown
  have hS : va_S A s.heap s.heap [] := va_S.rf
  have hl : lv_has ls 5 [(0, .ref (x 27)), (1, .int p1)] := hl
  refine lv_iconst (v := 0) hx hb dX1_passDay_0 (by decide) ?_
  refine lv_istore_n (lv' := [(2, .int 0), (0, .ref (x 27)), (1, .int p1)]) hx hb dX1_passDay_1 rfl hl (by decide) rfl (fun ls hl => ?_)
  have lp1 : ∀ (n1 : Nat) (l2_1 : Int32) (v1 : Nat → Int32) (f1 : Nat → Nat → Int32), XI v1 → v1 0 = (v 0) → v1 1 = (v 1) → v1 7 = (v 7) → v1 8 = (v 8) → v1 9 = (v 9) → v1 10 = (v 10) → v1 31 = (v 31) → v1 32 = (v 32) → ((0 : Int) ≤ l2_1.toInt ∧ l2_1.toInt ≤ 2147483647) → KV [] v1 v → KF [13, 14, 18] f1 f → (2147483647 - l2_1.toInt).toNat < n1 → ∀ (H : Heap) (locs : List Loc) (ls : Array Slot), va_P (dC, dI) vwCl (XW cy x0 x v1 f1) H → va_D A (XW cy x0 x v1 f1) → va_S A s.heap H locs → lv_has ls 5 [(2, .int l2_1), (0, .ref (x 27)), (1, .int p1)] → W p l e { frames := 5, cells := 0, slots := 0, locals := 155 } s m ([.ref (x 27), .int p1] : List Value).toArray below meth c H locs 0 0 Q (F0 m 2 ls []) := by
    intro n1
    induction n1 with
    | zero => intro l2_1 v1 f1 hIv1 hq0_v1 hq1_v1 hq7_v1 hq8_v1 hq9_v1 hq10_v1 hq31_v1 hq32_v1 hr2_1 hM_v1 hA_f1 hm; exact absurd hm (Nat.not_lt_zero _)
    | succ n1 ih1 =>
      intro l2_1 v1 f1 hIv1 hq0_v1 hq1_v1 hq7_v1 hq8_v1 hq9_v1 hq10_v1 hq31_v1 hq32_v1 hr2_1 hM_v1 hA_f1 hm1 H locs ls hP hD hS hl
      refine lv_iload_n hx hb dX1_passDay_2 rfl (lv_at hl 0 rfl) ?_
      refine lv_aload_n hx hb dX1_passDay_3 rfl (lv_at hl 1 rfl) ?_
      refine va_get (D := (dC, dI)) (ci := 1) (v := .ref (x 26)) (C := RX1) (T := TX1) (N := 2) hx hb hts inB_1 hown hE.1 hP 28 rfl rfl 0 (by decide) (hts _ k_318) (fun _ h9 => h9) rfl dX1_passDay_4 ?_
      refine va_getN (D := (dC, dI)) (ci := 7) (v := .int (v1 31)) (C := RX7) (T := TX7) (N := 10) hx hb hts inB_7 hown hE.1 hP 27 rfl rfl 3 (by decide) (va_Nw.use rfl (hE.2 _ k_219)) (fun _ h9 => h9) rfl dX1_passDay_7 ?_
      refine tI (y := (v 31)) hq31_v1 ?_
      have b31_v : 0 ≤ (v 31).toInt ∧ (v 31).toInt ≤ 6 := XI.b hIv 31 (by decide)
      refine lv_icmp_ge (tgt := 46) hx hb dX1_passDay_10 (by decide) (fun c2 => ?_) (fun c2 => ?_)
      · skip
        have zc2 : (v 31).toInt ≤ l2_1.toInt := by rw [fa_le] at c2; exact c2
        have rg3 := fb_rng l2_1
        have rg4 := fb_rng (v 31)
        refine lv_aload_n hx hb dX1_passDay_46 rfl (lv_at hl 1 rfl) ?_
        refine va_get (D := (dC, dI)) (ci := 1) (v := .ref (x 28)) (C := RX1) (T := TX1) (N := 2) hx hb hts inB_1 hown hE.1 hP 28 rfl rfl 1 (by decide) (hts _ k_319) (fun _ h9 => h9) rfl dX1_passDay_47 ?_
        refine lv_bipush (v := 43) hx hb dX1_passDay_50 (by decide) ?_
        refine lv_aload_n hx hb dX1_passDay_52 rfl (lv_at hl 1 rfl) ?_
        refine va_get (D := (dC, dI)) (ci := 1) (v := .ref (x 28)) (C := RX1) (T := TX1) (N := 2) hx hb hts inB_1 hown hE.1 hP 28 rfl rfl 1 (by decide) (hts _ k_319) (fun _ h9 => h9) rfl dX1_passDay_53 ?_
        refine lv_bipush (v := 43) hx hb dX1_passDay_56 (by decide) ?_
        refine ldI hx hb hE hP 29 rfl (vp_in_nI (n := 43) (by decide) (by decide)) rfl rfl dX1_passDay_58 ?_
        refine lv_topi (fun t5 et5 => ?_)
        refine lv_sipush (v := 137) hx hb dX1_passDay_59 (by decide) ?_
        refine lv_imul hx hb dX1_passDay_62 ?_
        refine lv_topi (fun t6 et6 => ?_)
        refine lv_bipush (v := 71) hx hb dX1_passDay_63 (by decide) ?_
        refine lv_iadd hx hb dX1_passDay_65 ?_
        refine lv_topi (fun t7 et7 => ?_)
        refine lv_sipush (v := 1000) hx hb dX1_passDay_66 (by decide) ?_
        refine lv_irem hx hb dX1_passDay_69 (by decide) ?_
        refine lv_topi (fun t8 et8 => ?_)
        refine stI hx hb hE hP hD hS 29 rfl (vp_in_nI (n := 43) (by decide) (by decide)) rfl dX1_passDay_70 (fun H locs hP hD hS => ?_)
        obtain ⟨f9, ef9, hP, hD⟩ : ∃ fz9, fz9 = upd2 f1 18 (upd (f1 18) (43 : Int32).toNatClampNeg t8) ∧ va_P (dC, dI) vwCl (XW cy x0 x v1 fz9) H ∧ va_D A (XW cy x0 x v1 fz9) := ⟨_, rfl, hP, hD⟩
        have hA_f9 : KF [13, 14, 18] f9 f := by rw [ef9]; exact KF.up hA_f1 rfl
        refine lv_aload_n hx hb dX1_passDay_71 rfl (lv_at hl 1 rfl) ?_
        refine va_get (D := (dC, dI)) (ci := 1) (v := .ref (x 28)) (C := RX1) (T := TX1) (N := 2) hx hb hts inB_1 hown hE.1 hP 28 rfl rfl 1 (by decide) (hts _ k_319) (fun _ h9 => h9) rfl dX1_passDay_72 ?_
        refine lv_bipush (v := 43) hx hb dX1_passDay_75 (by decide) ?_
        refine ldI hx hb hE hP 29 rfl (vp_in_nI (n := 43) (by decide) (by decide)) rfl rfl dX1_passDay_77 ?_
        refine lv_topi (fun t10 et10 => ?_)
        refine lv_bipush (v := 100) hx hb dX1_passDay_78 (by decide) ?_
        refine lv_irem hx hb dX1_passDay_80 (by decide) ?_
        refine lv_topi (fun t11 et11 => ?_)
        refine lv_iload_n hx hb dX1_passDay_81 rfl (lv_at hl 2 rfl) ?_
        refine lv_icmp_ge (tgt := 89) hx hb dX1_passDay_82 (by decide) (fun c12 => ?_) (fun c12 => ?_)
        · skip
          have zc12 : p1.toInt ≤ t11.toInt := by rw [fa_le] at c12; exact c12
          have rg13 := fb_rng t11
          have rg14 := fb_rng p1
          refine lv_iconst (v := 0) hx hb dX1_passDay_89 (by decide) ?_
          refine lv_istore_n (lv' := [(2, .int 0), (0, .ref (x 27)), (1, .int p1)]) hx hb dX1_passDay_90 rfl hl (by decide) rfl (fun ls hl => ?_)
          refine lv_iconst (v := 0) hx hb dX1_passDay_91 (by decide) ?_
          refine lv_istore_n (lv' := [(3, .int 0), (2, .int 0), (0, .ref (x 27)), (1, .int p1)]) hx hb dX1_passDay_92 rfl hl (by decide) rfl (fun ls hl => ?_)
          have lp15 : ∀ (n15 : Nat) (l3_15 : Int32) (v15 : Nat → Int32) (f15 : Nat → Nat → Int32), XI v15 → v15 0 = (v 0) → v15 1 = (v 1) → v15 7 = (v 7) → v15 8 = (v 8) → v15 9 = (v 9) → v15 10 = (v 10) → v15 31 = (v 31) → v15 32 = (v 32) → ((0 : Int) ≤ l3_15.toInt ∧ l3_15.toInt ≤ 2147483647) → KV [] v15 v → KF [13, 14, 18] f15 f → (2147483647 - l3_15.toInt).toNat < n15 → ∀ (H : Heap) (locs : List Loc) (ls : Array Slot), va_P (dC, dI) vwCl (XW cy x0 x v15 f15) H → va_D A (XW cy x0 x v15 f15) → va_S A s.heap H locs → lv_has ls 5 [(3, .int l3_15), (2, .int 0), (0, .ref (x 27)), (1, .int p1)] → W p l e { frames := 5, cells := 0, slots := 0, locals := 155 } s m ([.ref (x 27), .int p1] : List Value).toArray below meth c H locs 0 0 Q (F0 m 93 ls []) := by
            intro n15
            induction n15 with
            | zero => intro l3_15 v15 f15 hIv15 hq0_v15 hq1_v15 hq7_v15 hq8_v15 hq9_v15 hq10_v15 hq31_v15 hq32_v15 hr3_15 hM_v15 hA_f15 hm; exact absurd hm (Nat.not_lt_zero _)
            | succ n15 ih15 =>
              intro l3_15 v15 f15 hIv15 hq0_v15 hq1_v15 hq7_v15 hq8_v15 hq9_v15 hq10_v15 hq31_v15 hq32_v15 hr3_15 hM_v15 hA_f15 hm15 H locs ls hP hD hS hl
              refine lv_iload_n hx hb dX1_passDay_93 rfl (lv_at hl 0 rfl) ?_
              refine lv_aload_n hx hb dX1_passDay_94 rfl (lv_at hl 2 rfl) ?_
              refine va_get (D := (dC, dI)) (ci := 1) (v := .ref (x 26)) (C := RX1) (T := TX1) (N := 2) hx hb hts inB_1 hown hE.1 hP 28 rfl rfl 0 (by decide) (hts _ k_318) (fun _ h9 => h9) rfl dX1_passDay_95 ?_
              refine va_getN (D := (dC, dI)) (ci := 7) (v := .int (v15 31)) (C := RX7) (T := TX7) (N := 10) hx hb hts inB_7 hown hE.1 hP 27 rfl rfl 3 (by decide) (va_Nw.use rfl (hE.2 _ k_219)) (fun _ h9 => h9) rfl dX1_passDay_98 ?_
              refine tI (y := (v 31)) hq31_v15 ?_
              have b31_v : 0 ≤ (v 31).toInt ∧ (v 31).toInt ≤ 6 := XI.b hIv 31 (by decide)
              refine lv_icmp_ge (tgt := 120) hx hb dX1_passDay_101 (by decide) (fun c16 => ?_) (fun c16 => ?_)
              · skip
                have zc16 : (v 31).toInt ≤ l3_15.toInt := by rw [fa_le] at c16; exact c16
                have rg17 := fb_rng l3_15
                refine lv_aload_n hx hb dX1_passDay_120 rfl (lv_at hl 2 rfl) ?_
                refine va_get (D := (dC, dI)) (ci := 1) (v := .ref (x 28)) (C := RX1) (T := TX1) (N := 2) hx hb hts inB_1 hown hE.1 hP 28 rfl rfl 1 (by decide) (hts _ k_319) (fun _ h9 => h9) rfl dX1_passDay_121 ?_
                refine lv_bipush (v := 42) hx hb dX1_passDay_124 (by decide) ?_
                refine lv_dup2_11 hx hb dX1_passDay_126 rfl rfl ?_
                refine ldI hx hb hE hP 29 rfl (vp_in_nI (n := 42) (by decide) (by decide)) rfl rfl dX1_passDay_127 ?_
                refine lv_topi (fun t18 et18 => ?_)
                refine lv_iconst (v := 1) hx hb dX1_passDay_128 (by decide) ?_
                refine lv_iadd hx hb dX1_passDay_129 ?_
                refine lv_topi (fun t19 et19 => ?_)
                refine stI hx hb hE hP hD hS 29 rfl (vp_in_nI (n := 42) (by decide) (by decide)) rfl dX1_passDay_130 (fun H locs hP hD hS => ?_)
                obtain ⟨f20, ef20, hP, hD⟩ : ∃ fz9, fz9 = upd2 f15 18 (upd (f15 18) (42 : Int32).toNatClampNeg t19) ∧ va_P (dC, dI) vwCl (XW cy x0 x v15 fz9) H ∧ va_D A (XW cy x0 x v15 fz9) := ⟨_, rfl, hP, hD⟩
                have hA_f20 : KF [13, 14, 18] f20 f := by rw [ef20]; exact KF.up hA_f15 rfl
                refine lv_iconst (v := 0) hx hb dX1_passDay_131 (by decide) ?_
                refine lv_istore_n (lv' := [(3, .int 0), (2, .int 0), (0, .ref (x 27)), (1, .int p1)]) hx hb dX1_passDay_132 rfl hl (by decide) rfl (fun ls hl => ?_)
                refine lv_iconst (v := 0) hx hb dX1_passDay_133 (by decide) ?_
                refine lv_istore (lv' := [(4, .int 0), (3, .int 0), (2, .int 0), (0, .ref (x 27)), (1, .int p1)]) hx hb dX1_passDay_134 hl (by decide) rfl (fun ls hl => ?_)
                have lp21 : ∀ (n21 : Nat) (l3_21 : Int32) (l4_21 : Int32) (v21 : Nat → Int32) (f21 : Nat → Nat → Int32), XI v21 → v21 0 = (v 0) → v21 1 = (v 1) → v21 7 = (v 7) → v21 8 = (v 8) → v21 9 = (v 9) → v21 10 = (v 10) → v21 31 = (v 31) → v21 32 = (v 32) → ((0 : Int) ≤ l4_21.toInt ∧ l4_21.toInt ≤ 2147483647) → KV [] v21 v → KF [13, 14, 18] f21 f → (2147483647 - l4_21.toInt).toNat < n21 → ∀ (H : Heap) (locs : List Loc) (ls : Array Slot), va_P (dC, dI) vwCl (XW cy x0 x v21 f21) H → va_D A (XW cy x0 x v21 f21) → va_S A s.heap H locs → lv_has ls 5 [(4, .int l4_21), (3, .int l3_21), (2, .int 0), (0, .ref (x 27)), (1, .int p1)] → W p l e { frames := 5, cells := 0, slots := 0, locals := 155 } s m ([.ref (x 27), .int p1] : List Value).toArray below meth c H locs 0 0 Q (F0 m 136 ls []) := by
                  intro n21
                  induction n21 with
                  | zero => intro l3_21 l4_21 v21 f21 hIv21 hq0_v21 hq1_v21 hq7_v21 hq8_v21 hq9_v21 hq10_v21 hq31_v21 hq32_v21 hr4_21 hM_v21 hA_f21 hm; exact absurd hm (Nat.not_lt_zero _)
                  | succ n21 ih21 =>
                    intro l3_21 l4_21 v21 f21 hIv21 hq0_v21 hq1_v21 hq7_v21 hq8_v21 hq9_v21 hq10_v21 hq31_v21 hq32_v21 hr4_21 hM_v21 hA_f21 hm21 H locs ls hP hD hS hl
                    refine lv_iload hx hb dX1_passDay_136 (lv_at hl 0 rfl) ?_
                    refine lv_aload_n hx hb dX1_passDay_138 rfl (lv_at hl 3 rfl) ?_
                    refine va_get (D := (dC, dI)) (ci := 1) (v := .ref (x 26)) (C := RX1) (T := TX1) (N := 2) hx hb hts inB_1 hown hE.1 hP 28 rfl rfl 0 (by decide) (hts _ k_318) (fun _ h9 => h9) rfl dX1_passDay_139 ?_
                    refine va_getN (D := (dC, dI)) (ci := 7) (v := .int (v21 31)) (C := RX7) (T := TX7) (N := 10) hx hb hts inB_7 hown hE.1 hP 27 rfl rfl 3 (by decide) (va_Nw.use rfl (hE.2 _ k_219)) (fun _ h9 => h9) rfl dX1_passDay_142 ?_
                    refine tI (y := (v 31)) hq31_v21 ?_
                    have b31_v : 0 ≤ (v 31).toInt ∧ (v 31).toInt ≤ 6 := XI.b hIv 31 (by decide)
                    refine lv_icmp_ge (tgt := 193) hx hb dX1_passDay_145 (by decide) (fun c22 => ?_) (fun c22 => ?_)
                    · skip
                      have zc22 : (v 31).toInt ≤ l4_21.toInt := by rw [fa_le] at c22; exact c22
                      have rg23 := fb_rng l4_21
                      refine lv_iload_n hx hb dX1_passDay_193 rfl (lv_at hl 1 rfl) ?_
                      exact ret l3_21 (v21, f21) _ _ _ _ _ _ rfl ⟨hM_v21, hA_f21, hIv21, hq0_v21, hq1_v21, hq7_v21, hq8_v21, hq9_v21, hq10_v21, hq31_v21, hq32_v21⟩ hP hD hS dX1_passDay_194 (Nat.le_refl _) (Nat.le_refl _)
                    · skip
                      have zc22 : ¬ ((v 31).toInt ≤ l4_21.toInt) := by rw [fa_le] at c22; exact c22
                      have rg24 := fb_rng l4_21
                      refine lv_aload_n hx hb dX1_passDay_148 rfl (lv_at hl 3 rfl) ?_
                      refine lv_iload hx hb dX1_passDay_149 (lv_at hl 0 rfl) ?_
                      refine cbVi (n := 1) (rest := []) hx hb hml hown hts hE hP hD hS hA (sX_X1_wears_2 l dC dI cy x0 x l4_21 v21 f21 hIv21 ) k_853 k_810 k_811 k_106 k_812 (by decide +kernel) ⟨Nat.le_of_ble_eq_true rfl, Nat.le_of_ble_eq_true rfl⟩ 28 1 rfl rfl (rfl) hl.1 rfl (Nat.le_of_ble_eq_true rfl) dX1_passDay_151 (fun r25 u H locs hw hP hD hS => ?_)
                      refine lv_iconst (v := (-1)) hx hb dX1_passDay_154 (by decide) ?_
                      refine lv_icmp_eq (tgt := 187) hx hb dX1_passDay_155 (by decide) (fun c26 => ?_) (fun c26 => ?_)
                      · skip
                        have zc26 : r25.toInt = (-1) := by rw [fa_eq, show ((-1) : Int32).toInt = -1 from by decide] at c26; exact c26
                        obtain ⟨t27, et27⟩ : ∃ y : Int32, y = l4_21 + 1 := ⟨_, rfl⟩
                        have zt27 : t27.toInt = l4_21.toInt + 1 := by rw [et27]; exact add_i rfl (by decide) (by omega) (by omega)
                        refine lv_iinc (v := t27) (lv' := [(4, .int t27), (3, .int l3_21), (2, .int 0), (0, .ref (x 27)), (1, .int p1)]) hx hb dX1_passDay_187 hl (k := 0) rfl (by rw [et27]; rfl) (by decide) rfl (fun ls hl => ?_)
                        refine lv_goto (tgt := 136) hx hb dX1_passDay_190 (by decide) ?_
                        have rg28 := fb_rng t27
                        exact ih21 l3_21 t27 v21 f21 hIv21 hq0_v21 hq1_v21 hq7_v21 hq8_v21 hq9_v21 hq10_v21 hq31_v21 hq32_v21 ⟨show (0 : Int) ≤ t27.toInt by omega, show t27.toInt ≤ (2147483647 : Int) by omega⟩ hM_v21 hA_f21 (by show (2147483647 - t27.toInt).toNat < n21; omega) _ _ _ hP hD hS (lv_sub hl [0, 1, 2, 3, 4] rfl)
                      · skip
                        have zc26 : ¬ (r25.toInt = (-1)) := by rw [fa_eq, show ((-1) : Int32).toInt = -1 from by decide] at c26; exact c26
                        refine lv_aload_n hx hb dX1_passDay_158 rfl (lv_at hl 3 rfl) ?_
                        refine lv_iload hx hb dX1_passDay_159 (lv_at hl 0 rfl) ?_
                        refine lv_aload_n hx hb dX1_passDay_161 rfl (lv_at hl 3 rfl) ?_
                        refine lv_iload hx hb dX1_passDay_162 (lv_at hl 0 rfl) ?_
                        refine cbVi (n := 1) (rest := [.int l4_21, .ref (x 27)]) hx hb hml hown hts hE hP hD hS hA (sX_X1_wears_2 l dC dI cy x0 x l4_21 v21 f21 hIv21 ) k_853 k_810 k_811 k_106 k_812 (by decide +kernel) ⟨Nat.le_of_ble_eq_true rfl, Nat.le_of_ble_eq_true rfl⟩ 28 1 rfl rfl (rfl) hl.1 rfl (Nat.le_of_ble_eq_true rfl) dX1_passDay_164 (fun r29 u H locs hw hP hD hS => ?_)
                        refine cbVi (n := 2) (rest := []) hx hb hml hown hts hE hP hD hS hA (sX_X1_fits_2 l dC dI cy x0 x l4_21 r29 v21 f21 hIv21 ) k_817 k_818 k_819 k_106 k_820 (by decide +kernel) ⟨Nat.le_of_ble_eq_true rfl, Nat.le_of_ble_eq_true rfl⟩ 28 1 rfl rfl (rfl) hl.1 rfl (Nat.le_of_ble_eq_true rfl) dX1_passDay_167 (fun r30 u H locs hw hP hD hS => ?_)
                        obtain ⟨v31, f32⟩ := u
                        obtain ⟨kV_v31, kF_f32, hIv31, hk0_v31, hk1_v31, hk7_v31, hk8_v31, hk9_v31, hk10_v31, hk31_v31, hk32_v31, hw⟩ := hw
                        have hM_v31 : KV [] v31 v := KV.tr kV_v31 hM_v21 rfl
                        have hA_f32 : KF [13, 14, 18] f32 f := KF.tr kF_f32 hA_f21 rfl
                        have hP : va_P (dC, dI) vwCl (XW cy x0 x v31 f32) H := hP
                        have hD : va_D A (XW cy x0 x v31 f32) := hD
                        have hq0_v31 : v31 0 = (v 0) := hk0_v31.trans hq0_v21
                        have hq1_v31 : v31 1 = (v 1) := hk1_v31.trans hq1_v21
                        have hq7_v31 : v31 7 = (v 7) := hk7_v31.trans hq7_v21
                        have hq8_v31 : v31 8 = (v 8) := hk8_v31.trans hq8_v21
                        have hq9_v31 : v31 9 = (v 9) := hk9_v31.trans hq9_v21
                        have hq10_v31 : v31 10 = (v 10) := hk10_v31.trans hq10_v21
                        have hq31_v31 : v31 31 = (v 31) := hk31_v31.trans hq31_v21
                        have hq32_v31 : v31 32 = (v 32) := hk32_v31.trans hq32_v21
                        rcases hw with ⟨g33⟩ | ⟨g33⟩
                        · skip
                          subst g33
                          refine lv_if_ne (tgt := 187) hx hb dX1_passDay_170 (by decide) (fun _ => ?_) (fun c0 => absurd c0 (by decide))
                          obtain ⟨t34, et34⟩ : ∃ y : Int32, y = l4_21 + 1 := ⟨_, rfl⟩
                          have zt34 : t34.toInt = l4_21.toInt + 1 := by rw [et34]; exact add_i rfl (by decide) (by omega) (by omega)
                          refine lv_iinc (v := t34) (lv' := [(4, .int t34), (3, .int l3_21), (2, .int 0), (0, .ref (x 27)), (1, .int p1)]) hx hb dX1_passDay_187 hl (k := 0) rfl (by rw [et34]; rfl) (by decide) rfl (fun ls hl => ?_)
                          refine lv_goto (tgt := 136) hx hb dX1_passDay_190 (by decide) ?_
                          have rg35 := fb_rng t34
                          exact ih21 l3_21 t34 v31 f32 hIv31 hq0_v31 hq1_v31 hq7_v31 hq8_v31 hq9_v31 hq10_v31 hq31_v31 hq32_v31 ⟨show (0 : Int) ≤ t34.toInt by omega, show t34.toInt ≤ (2147483647 : Int) by omega⟩ hM_v31 hA_f32 (by show (2147483647 - t34.toInt).toNat < n21; omega) _ _ _ hP hD hS (lv_sub hl [0, 1, 2, 3, 4] rfl)
                        · skip
                          subst g33
                          refine lv_if_ne (tgt := 187) hx hb dX1_passDay_170 (by decide) (fun c0 => absurd (by decide) c0) (fun _ => ?_)
                          refine lv_aload_n hx hb dX1_passDay_173 rfl (lv_at hl 3 rfl) ?_
                          refine lv_iload hx hb dX1_passDay_174 (lv_at hl 0 rfl) ?_
                          refine lv_iconst (v := (-1)) hx hb dX1_passDay_176 (by decide) ?_
                          refine cbVv (n := 2) (rest := []) hx hb hml hown hts hE hP hD hS hA (sX_X1_setWears_2 l dC dI cy x0 x l4_21 (-1) v31 f32 hIv31 ) k_879 k_880 k_881 k_106 k_882 (by decide +kernel) ⟨Nat.le_of_ble_eq_true rfl, Nat.le_of_ble_eq_true rfl⟩ 28 1 rfl rfl (rfl) hl.1 rfl (Nat.le_of_ble_eq_true rfl) dX1_passDay_177 (fun u H locs hw hP hD hS => ?_)
                          obtain ⟨v36, f37⟩ := u
                          obtain ⟨kV_v36, kF_f37, hIv36, hk0_v36, hk1_v36, hk7_v36, hk8_v36, hk9_v36, hk10_v36, hk31_v36, hk32_v36⟩ := hw
                          have hM_v36 : KV [] v36 v := KV.tr kV_v36 hM_v31 rfl
                          have hA_f37 : KF [13, 14, 18] f37 f := KF.tr kF_f37 hA_f32 rfl
                          have hP : va_P (dC, dI) vwCl (XW cy x0 x v36 f37) H := hP
                          have hD : va_D A (XW cy x0 x v36 f37) := hD
                          have hq0_v36 : v36 0 = (v 0) := hk0_v36.trans hq0_v31
                          have hq1_v36 : v36 1 = (v 1) := hk1_v36.trans hq1_v31
                          have hq7_v36 : v36 7 = (v 7) := hk7_v36.trans hq7_v31
                          have hq8_v36 : v36 8 = (v 8) := hk8_v36.trans hq8_v31
                          have hq9_v36 : v36 9 = (v 9) := hk9_v36.trans hq9_v31
                          have hq10_v36 : v36 10 = (v 10) := hk10_v36.trans hq10_v31
                          have hq31_v36 : v36 31 = (v 31) := hk31_v36.trans hq31_v31
                          have hq32_v36 : v36 32 = (v 32) := hk32_v36.trans hq32_v31
                          refine lv_iload_n hx hb dX1_passDay_180 rfl (lv_at hl 1 rfl) ?_
                          refine lv_iconst (v := 1) hx hb dX1_passDay_181 (by decide) ?_
                          refine lv_iload hx hb dX1_passDay_182 (lv_at hl 0 rfl) ?_
                          refine lv_ishl hx hb dX1_passDay_184 ?_
                          refine lv_topi (fun t38 et38 => ?_)
                          have zt38 : 1 ≤ t38.toInt ∧ t38.toInt ≤ 32 := by rw [et38]; exact shl1_rng (by omega) (by omega)
                          refine lv_ior hx hb dX1_passDay_185 ?_
                          refine lv_topi (fun t39 et39 => ?_)
                          refine lv_istore_n (lv' := [(3, .int t39), (4, .int l4_21), (2, .int 0), (0, .ref (x 27)), (1, .int p1)]) hx hb dX1_passDay_186 rfl hl (by decide) rfl (fun ls hl => ?_)
                          obtain ⟨t40, et40⟩ : ∃ y : Int32, y = l4_21 + 1 := ⟨_, rfl⟩
                          have zt40 : t40.toInt = l4_21.toInt + 1 := by rw [et40]; exact add_i rfl (by decide) (by omega) (by omega)
                          refine lv_iinc (v := t40) (lv' := [(4, .int t40), (3, .int t39), (2, .int 0), (0, .ref (x 27)), (1, .int p1)]) hx hb dX1_passDay_187 hl (k := 1) rfl (by rw [et40]; rfl) (by decide) rfl (fun ls hl => ?_)
                          refine lv_goto (tgt := 136) hx hb dX1_passDay_190 (by decide) ?_
                          have rg41 := fb_rng t40
                          exact ih21 t39 t40 v36 f37 hIv36 hq0_v36 hq1_v36 hq7_v36 hq8_v36 hq9_v36 hq10_v36 hq31_v36 hq32_v36 ⟨show (0 : Int) ≤ t40.toInt by omega, show t40.toInt ≤ (2147483647 : Int) by omega⟩ hM_v36 hA_f37 (by show (2147483647 - t40.toInt).toNat < n21; omega) _ _ _ hP hD hS (lv_sub hl [0, 1, 2, 3, 4] rfl)
                exact lp21 _ 0 0 v15 f20 hIv15 hq0_v15 hq1_v15 hq7_v15 hq8_v15 hq9_v15 hq10_v15 hq31_v15 hq32_v15 ⟨by decide, by decide⟩ hM_v15 hA_f20 (Nat.lt_succ_self _) _ _ _ hP hD hS (lv_sub hl [0, 1, 2, 3, 4] rfl)
              · skip
                have zc16 : ¬ ((v 31).toInt ≤ l3_15.toInt) := by rw [fa_le] at c16; exact c16
                have rg42 := fb_rng l3_15
                refine lv_aload_n hx hb dX1_passDay_104 rfl (lv_at hl 2 rfl) ?_
                refine lv_aload_n hx hb dX1_passDay_105 rfl (lv_at hl 2 rfl) ?_
                refine lv_iload_n hx hb dX1_passDay_106 rfl (lv_at hl 0 rfl) ?_
                refine cbVi (n := 1) (rest := [.ref (x 27)]) hx hb hml hown hts hE hP hD hS hA (sX_X1_wears_2 l dC dI cy x0 x l3_15 v15 f15 hIv15 ) k_853 k_810 k_811 k_106 k_812 (by decide +kernel) ⟨Nat.le_of_ble_eq_true rfl, Nat.le_of_ble_eq_true rfl⟩ 28 1 rfl rfl (rfl) hl.1 rfl (Nat.le_of_ble_eq_true rfl) dX1_passDay_107 (fun r43 u H locs hw hP hD hS => ?_)
                refine lv_iload_n hx hb dX1_passDay_110 rfl (lv_at hl 1 rfl) ?_
                refine cbVv (n := 2) (rest := []) hx hb hml hown hts hE hP hD hS hA (sX_X1_weather_2 l dC dI cy x0 x r43 0 v15 f15 hIv15 ) k_870 k_872 k_20 k_106 k_873 (by decide +kernel) ⟨Nat.le_of_ble_eq_true rfl, Nat.le_of_ble_eq_true rfl⟩ 28 1 rfl rfl (rfl) hl.1 rfl (Nat.le_of_ble_eq_true rfl) dX1_passDay_111 (fun u H locs hw hP hD hS => ?_)
                obtain ⟨v44, f45⟩ := u
                obtain ⟨kV_v44, kF_f45, hIv44, hk0_v44, hk1_v44, hk7_v44, hk8_v44, hk9_v44, hk10_v44, hk31_v44, hk32_v44⟩ := hw
                have hM_v44 : KV [] v44 v := KV.tr kV_v44 hM_v15 rfl
                have hA_f45 : KF [13, 14, 18] f45 f := KF.tr kF_f45 hA_f15 rfl
                have hP : va_P (dC, dI) vwCl (XW cy x0 x v44 f45) H := hP
                have hD : va_D A (XW cy x0 x v44 f45) := hD
                have hq0_v44 : v44 0 = (v 0) := hk0_v44.trans hq0_v15
                have hq1_v44 : v44 1 = (v 1) := hk1_v44.trans hq1_v15
                have hq7_v44 : v44 7 = (v 7) := hk7_v44.trans hq7_v15
                have hq8_v44 : v44 8 = (v 8) := hk8_v44.trans hq8_v15
                have hq9_v44 : v44 9 = (v 9) := hk9_v44.trans hq9_v15
                have hq10_v44 : v44 10 = (v 10) := hk10_v44.trans hq10_v15
                have hq31_v44 : v44 31 = (v 31) := hk31_v44.trans hq31_v15
                have hq32_v44 : v44 32 = (v 32) := hk32_v44.trans hq32_v15
                obtain ⟨t46, et46⟩ : ∃ y : Int32, y = l3_15 + 1 := ⟨_, rfl⟩
                have zt46 : t46.toInt = l3_15.toInt + 1 := by rw [et46]; exact add_i rfl (by decide) (by omega) (by omega)
                refine lv_iinc (v := t46) (lv' := [(3, .int t46), (2, .int 0), (0, .ref (x 27)), (1, .int p1)]) hx hb dX1_passDay_114 hl (k := 0) rfl (by rw [et46]; rfl) (by decide) rfl (fun ls hl => ?_)
                refine lv_goto (tgt := 93) hx hb dX1_passDay_117 (by decide) ?_
                have rg47 := fb_rng t46
                exact ih15 t46 v44 f45 hIv44 hq0_v44 hq1_v44 hq7_v44 hq8_v44 hq9_v44 hq10_v44 hq31_v44 hq32_v44 ⟨show (0 : Int) ≤ t46.toInt by omega, show t46.toInt ≤ (2147483647 : Int) by omega⟩ hM_v44 hA_f45 (by show (2147483647 - t46.toInt).toNat < n15; omega) _ _ _ hP hD hS (lv_sub hl [0, 1, 2, 3] rfl)
          exact lp15 _ 0 v1 f9 hIv1 hq0_v1 hq1_v1 hq7_v1 hq8_v1 hq9_v1 hq10_v1 hq31_v1 hq32_v1 ⟨by decide, by decide⟩ hM_v1 hA_f9 (Nat.lt_succ_self _) _ _ _ hP hD hS (lv_sub hl [0, 1, 2, 3] rfl)
        · skip
          have zc12 : ¬ (p1.toInt ≤ t11.toInt) := by rw [fa_le] at c12; exact c12
          have rg48 := fb_rng t11
          have rg49 := fb_rng p1
          refine lv_iconst (v := 1) hx hb dX1_passDay_85 (by decide) ?_
          refine lv_goto (tgt := 90) hx hb dX1_passDay_86 (by decide) ?_
          refine lv_istore_n (lv' := [(2, .int 1), (0, .ref (x 27)), (1, .int p1)]) hx hb dX1_passDay_90 rfl hl (by decide) rfl (fun ls hl => ?_)
          refine lv_iconst (v := 0) hx hb dX1_passDay_91 (by decide) ?_
          refine lv_istore_n (lv' := [(3, .int 0), (2, .int 1), (0, .ref (x 27)), (1, .int p1)]) hx hb dX1_passDay_92 rfl hl (by decide) rfl (fun ls hl => ?_)
          have lp50 : ∀ (n50 : Nat) (l3_50 : Int32) (v50 : Nat → Int32) (f50 : Nat → Nat → Int32), XI v50 → v50 0 = (v 0) → v50 1 = (v 1) → v50 7 = (v 7) → v50 8 = (v 8) → v50 9 = (v 9) → v50 10 = (v 10) → v50 31 = (v 31) → v50 32 = (v 32) → ((0 : Int) ≤ l3_50.toInt ∧ l3_50.toInt ≤ 2147483647) → KV [] v50 v → KF [13, 14, 18] f50 f → (2147483647 - l3_50.toInt).toNat < n50 → ∀ (H : Heap) (locs : List Loc) (ls : Array Slot), va_P (dC, dI) vwCl (XW cy x0 x v50 f50) H → va_D A (XW cy x0 x v50 f50) → va_S A s.heap H locs → lv_has ls 5 [(3, .int l3_50), (2, .int 1), (0, .ref (x 27)), (1, .int p1)] → W p l e { frames := 5, cells := 0, slots := 0, locals := 155 } s m ([.ref (x 27), .int p1] : List Value).toArray below meth c H locs 0 0 Q (F0 m 93 ls []) := by
            intro n50
            induction n50 with
            | zero => intro l3_50 v50 f50 hIv50 hq0_v50 hq1_v50 hq7_v50 hq8_v50 hq9_v50 hq10_v50 hq31_v50 hq32_v50 hr3_50 hM_v50 hA_f50 hm; exact absurd hm (Nat.not_lt_zero _)
            | succ n50 ih50 =>
              intro l3_50 v50 f50 hIv50 hq0_v50 hq1_v50 hq7_v50 hq8_v50 hq9_v50 hq10_v50 hq31_v50 hq32_v50 hr3_50 hM_v50 hA_f50 hm50 H locs ls hP hD hS hl
              refine lv_iload_n hx hb dX1_passDay_93 rfl (lv_at hl 0 rfl) ?_
              refine lv_aload_n hx hb dX1_passDay_94 rfl (lv_at hl 2 rfl) ?_
              refine va_get (D := (dC, dI)) (ci := 1) (v := .ref (x 26)) (C := RX1) (T := TX1) (N := 2) hx hb hts inB_1 hown hE.1 hP 28 rfl rfl 0 (by decide) (hts _ k_318) (fun _ h9 => h9) rfl dX1_passDay_95 ?_
              refine va_getN (D := (dC, dI)) (ci := 7) (v := .int (v50 31)) (C := RX7) (T := TX7) (N := 10) hx hb hts inB_7 hown hE.1 hP 27 rfl rfl 3 (by decide) (va_Nw.use rfl (hE.2 _ k_219)) (fun _ h9 => h9) rfl dX1_passDay_98 ?_
              refine tI (y := (v 31)) hq31_v50 ?_
              have b31_v : 0 ≤ (v 31).toInt ∧ (v 31).toInt ≤ 6 := XI.b hIv 31 (by decide)
              refine lv_icmp_ge (tgt := 120) hx hb dX1_passDay_101 (by decide) (fun c51 => ?_) (fun c51 => ?_)
              · skip
                have zc51 : (v 31).toInt ≤ l3_50.toInt := by rw [fa_le] at c51; exact c51
                have rg52 := fb_rng l3_50
                refine lv_aload_n hx hb dX1_passDay_120 rfl (lv_at hl 2 rfl) ?_
                refine va_get (D := (dC, dI)) (ci := 1) (v := .ref (x 28)) (C := RX1) (T := TX1) (N := 2) hx hb hts inB_1 hown hE.1 hP 28 rfl rfl 1 (by decide) (hts _ k_319) (fun _ h9 => h9) rfl dX1_passDay_121 ?_
                refine lv_bipush (v := 42) hx hb dX1_passDay_124 (by decide) ?_
                refine lv_dup2_11 hx hb dX1_passDay_126 rfl rfl ?_
                refine ldI hx hb hE hP 29 rfl (vp_in_nI (n := 42) (by decide) (by decide)) rfl rfl dX1_passDay_127 ?_
                refine lv_topi (fun t53 et53 => ?_)
                refine lv_iconst (v := 1) hx hb dX1_passDay_128 (by decide) ?_
                refine lv_iadd hx hb dX1_passDay_129 ?_
                refine lv_topi (fun t54 et54 => ?_)
                refine stI hx hb hE hP hD hS 29 rfl (vp_in_nI (n := 42) (by decide) (by decide)) rfl dX1_passDay_130 (fun H locs hP hD hS => ?_)
                obtain ⟨f55, ef55, hP, hD⟩ : ∃ fz9, fz9 = upd2 f50 18 (upd (f50 18) (42 : Int32).toNatClampNeg t54) ∧ va_P (dC, dI) vwCl (XW cy x0 x v50 fz9) H ∧ va_D A (XW cy x0 x v50 fz9) := ⟨_, rfl, hP, hD⟩
                have hA_f55 : KF [13, 14, 18] f55 f := by rw [ef55]; exact KF.up hA_f50 rfl
                refine lv_iconst (v := 0) hx hb dX1_passDay_131 (by decide) ?_
                refine lv_istore_n (lv' := [(3, .int 0), (2, .int 1), (0, .ref (x 27)), (1, .int p1)]) hx hb dX1_passDay_132 rfl hl (by decide) rfl (fun ls hl => ?_)
                refine lv_iconst (v := 0) hx hb dX1_passDay_133 (by decide) ?_
                refine lv_istore (lv' := [(4, .int 0), (3, .int 0), (2, .int 1), (0, .ref (x 27)), (1, .int p1)]) hx hb dX1_passDay_134 hl (by decide) rfl (fun ls hl => ?_)
                have lp56 : ∀ (n56 : Nat) (l3_56 : Int32) (l4_56 : Int32) (v56 : Nat → Int32) (f56 : Nat → Nat → Int32), XI v56 → v56 0 = (v 0) → v56 1 = (v 1) → v56 7 = (v 7) → v56 8 = (v 8) → v56 9 = (v 9) → v56 10 = (v 10) → v56 31 = (v 31) → v56 32 = (v 32) → ((0 : Int) ≤ l4_56.toInt ∧ l4_56.toInt ≤ 2147483647) → KV [] v56 v → KF [13, 14, 18] f56 f → (2147483647 - l4_56.toInt).toNat < n56 → ∀ (H : Heap) (locs : List Loc) (ls : Array Slot), va_P (dC, dI) vwCl (XW cy x0 x v56 f56) H → va_D A (XW cy x0 x v56 f56) → va_S A s.heap H locs → lv_has ls 5 [(4, .int l4_56), (3, .int l3_56), (2, .int 1), (0, .ref (x 27)), (1, .int p1)] → W p l e { frames := 5, cells := 0, slots := 0, locals := 155 } s m ([.ref (x 27), .int p1] : List Value).toArray below meth c H locs 0 0 Q (F0 m 136 ls []) := by
                  intro n56
                  induction n56 with
                  | zero => intro l3_56 l4_56 v56 f56 hIv56 hq0_v56 hq1_v56 hq7_v56 hq8_v56 hq9_v56 hq10_v56 hq31_v56 hq32_v56 hr4_56 hM_v56 hA_f56 hm; exact absurd hm (Nat.not_lt_zero _)
                  | succ n56 ih56 =>
                    intro l3_56 l4_56 v56 f56 hIv56 hq0_v56 hq1_v56 hq7_v56 hq8_v56 hq9_v56 hq10_v56 hq31_v56 hq32_v56 hr4_56 hM_v56 hA_f56 hm56 H locs ls hP hD hS hl
                    refine lv_iload hx hb dX1_passDay_136 (lv_at hl 0 rfl) ?_
                    refine lv_aload_n hx hb dX1_passDay_138 rfl (lv_at hl 3 rfl) ?_
                    refine va_get (D := (dC, dI)) (ci := 1) (v := .ref (x 26)) (C := RX1) (T := TX1) (N := 2) hx hb hts inB_1 hown hE.1 hP 28 rfl rfl 0 (by decide) (hts _ k_318) (fun _ h9 => h9) rfl dX1_passDay_139 ?_
                    refine va_getN (D := (dC, dI)) (ci := 7) (v := .int (v56 31)) (C := RX7) (T := TX7) (N := 10) hx hb hts inB_7 hown hE.1 hP 27 rfl rfl 3 (by decide) (va_Nw.use rfl (hE.2 _ k_219)) (fun _ h9 => h9) rfl dX1_passDay_142 ?_
                    refine tI (y := (v 31)) hq31_v56 ?_
                    have b31_v : 0 ≤ (v 31).toInt ∧ (v 31).toInt ≤ 6 := XI.b hIv 31 (by decide)
                    refine lv_icmp_ge (tgt := 193) hx hb dX1_passDay_145 (by decide) (fun c57 => ?_) (fun c57 => ?_)
                    · skip
                      have zc57 : (v 31).toInt ≤ l4_56.toInt := by rw [fa_le] at c57; exact c57
                      have rg58 := fb_rng l4_56
                      refine lv_iload_n hx hb dX1_passDay_193 rfl (lv_at hl 1 rfl) ?_
                      exact ret l3_56 (v56, f56) _ _ _ _ _ _ rfl ⟨hM_v56, hA_f56, hIv56, hq0_v56, hq1_v56, hq7_v56, hq8_v56, hq9_v56, hq10_v56, hq31_v56, hq32_v56⟩ hP hD hS dX1_passDay_194 (Nat.le_refl _) (Nat.le_refl _)
                    · skip
                      have zc57 : ¬ ((v 31).toInt ≤ l4_56.toInt) := by rw [fa_le] at c57; exact c57
                      have rg59 := fb_rng l4_56
                      refine lv_aload_n hx hb dX1_passDay_148 rfl (lv_at hl 3 rfl) ?_
                      refine lv_iload hx hb dX1_passDay_149 (lv_at hl 0 rfl) ?_
                      refine cbVi (n := 1) (rest := []) hx hb hml hown hts hE hP hD hS hA (sX_X1_wears_2 l dC dI cy x0 x l4_56 v56 f56 hIv56 ) k_853 k_810 k_811 k_106 k_812 (by decide +kernel) ⟨Nat.le_of_ble_eq_true rfl, Nat.le_of_ble_eq_true rfl⟩ 28 1 rfl rfl (rfl) hl.1 rfl (Nat.le_of_ble_eq_true rfl) dX1_passDay_151 (fun r60 u H locs hw hP hD hS => ?_)
                      refine lv_iconst (v := (-1)) hx hb dX1_passDay_154 (by decide) ?_
                      refine lv_icmp_eq (tgt := 187) hx hb dX1_passDay_155 (by decide) (fun c61 => ?_) (fun c61 => ?_)
                      · skip
                        have zc61 : r60.toInt = (-1) := by rw [fa_eq, show ((-1) : Int32).toInt = -1 from by decide] at c61; exact c61
                        obtain ⟨t62, et62⟩ : ∃ y : Int32, y = l4_56 + 1 := ⟨_, rfl⟩
                        have zt62 : t62.toInt = l4_56.toInt + 1 := by rw [et62]; exact add_i rfl (by decide) (by omega) (by omega)
                        refine lv_iinc (v := t62) (lv' := [(4, .int t62), (3, .int l3_56), (2, .int 1), (0, .ref (x 27)), (1, .int p1)]) hx hb dX1_passDay_187 hl (k := 0) rfl (by rw [et62]; rfl) (by decide) rfl (fun ls hl => ?_)
                        refine lv_goto (tgt := 136) hx hb dX1_passDay_190 (by decide) ?_
                        have rg63 := fb_rng t62
                        exact ih56 l3_56 t62 v56 f56 hIv56 hq0_v56 hq1_v56 hq7_v56 hq8_v56 hq9_v56 hq10_v56 hq31_v56 hq32_v56 ⟨show (0 : Int) ≤ t62.toInt by omega, show t62.toInt ≤ (2147483647 : Int) by omega⟩ hM_v56 hA_f56 (by show (2147483647 - t62.toInt).toNat < n56; omega) _ _ _ hP hD hS (lv_sub hl [0, 1, 2, 3, 4] rfl)
                      · skip
                        have zc61 : ¬ (r60.toInt = (-1)) := by rw [fa_eq, show ((-1) : Int32).toInt = -1 from by decide] at c61; exact c61
                        refine lv_aload_n hx hb dX1_passDay_158 rfl (lv_at hl 3 rfl) ?_
                        refine lv_iload hx hb dX1_passDay_159 (lv_at hl 0 rfl) ?_
                        refine lv_aload_n hx hb dX1_passDay_161 rfl (lv_at hl 3 rfl) ?_
                        refine lv_iload hx hb dX1_passDay_162 (lv_at hl 0 rfl) ?_
                        refine cbVi (n := 1) (rest := [.int l4_56, .ref (x 27)]) hx hb hml hown hts hE hP hD hS hA (sX_X1_wears_2 l dC dI cy x0 x l4_56 v56 f56 hIv56 ) k_853 k_810 k_811 k_106 k_812 (by decide +kernel) ⟨Nat.le_of_ble_eq_true rfl, Nat.le_of_ble_eq_true rfl⟩ 28 1 rfl rfl (rfl) hl.1 rfl (Nat.le_of_ble_eq_true rfl) dX1_passDay_164 (fun r64 u H locs hw hP hD hS => ?_)
                        refine cbVi (n := 2) (rest := []) hx hb hml hown hts hE hP hD hS hA (sX_X1_fits_2 l dC dI cy x0 x l4_56 r64 v56 f56 hIv56 ) k_817 k_818 k_819 k_106 k_820 (by decide +kernel) ⟨Nat.le_of_ble_eq_true rfl, Nat.le_of_ble_eq_true rfl⟩ 28 1 rfl rfl (rfl) hl.1 rfl (Nat.le_of_ble_eq_true rfl) dX1_passDay_167 (fun r65 u H locs hw hP hD hS => ?_)
                        obtain ⟨v66, f67⟩ := u
                        obtain ⟨kV_v66, kF_f67, hIv66, hk0_v66, hk1_v66, hk7_v66, hk8_v66, hk9_v66, hk10_v66, hk31_v66, hk32_v66, hw⟩ := hw
                        have hM_v66 : KV [] v66 v := KV.tr kV_v66 hM_v56 rfl
                        have hA_f67 : KF [13, 14, 18] f67 f := KF.tr kF_f67 hA_f56 rfl
                        have hP : va_P (dC, dI) vwCl (XW cy x0 x v66 f67) H := hP
                        have hD : va_D A (XW cy x0 x v66 f67) := hD
                        have hq0_v66 : v66 0 = (v 0) := hk0_v66.trans hq0_v56
                        have hq1_v66 : v66 1 = (v 1) := hk1_v66.trans hq1_v56
                        have hq7_v66 : v66 7 = (v 7) := hk7_v66.trans hq7_v56
                        have hq8_v66 : v66 8 = (v 8) := hk8_v66.trans hq8_v56
                        have hq9_v66 : v66 9 = (v 9) := hk9_v66.trans hq9_v56
                        have hq10_v66 : v66 10 = (v 10) := hk10_v66.trans hq10_v56
                        have hq31_v66 : v66 31 = (v 31) := hk31_v66.trans hq31_v56
                        have hq32_v66 : v66 32 = (v 32) := hk32_v66.trans hq32_v56
                        rcases hw with ⟨g68⟩ | ⟨g68⟩
                        · skip
                          subst g68
                          refine lv_if_ne (tgt := 187) hx hb dX1_passDay_170 (by decide) (fun _ => ?_) (fun c0 => absurd c0 (by decide))
                          obtain ⟨t69, et69⟩ : ∃ y : Int32, y = l4_56 + 1 := ⟨_, rfl⟩
                          have zt69 : t69.toInt = l4_56.toInt + 1 := by rw [et69]; exact add_i rfl (by decide) (by omega) (by omega)
                          refine lv_iinc (v := t69) (lv' := [(4, .int t69), (3, .int l3_56), (2, .int 1), (0, .ref (x 27)), (1, .int p1)]) hx hb dX1_passDay_187 hl (k := 0) rfl (by rw [et69]; rfl) (by decide) rfl (fun ls hl => ?_)
                          refine lv_goto (tgt := 136) hx hb dX1_passDay_190 (by decide) ?_
                          have rg70 := fb_rng t69
                          exact ih56 l3_56 t69 v66 f67 hIv66 hq0_v66 hq1_v66 hq7_v66 hq8_v66 hq9_v66 hq10_v66 hq31_v66 hq32_v66 ⟨show (0 : Int) ≤ t69.toInt by omega, show t69.toInt ≤ (2147483647 : Int) by omega⟩ hM_v66 hA_f67 (by show (2147483647 - t69.toInt).toNat < n56; omega) _ _ _ hP hD hS (lv_sub hl [0, 1, 2, 3, 4] rfl)
                        · skip
                          subst g68
                          refine lv_if_ne (tgt := 187) hx hb dX1_passDay_170 (by decide) (fun c0 => absurd (by decide) c0) (fun _ => ?_)
                          refine lv_aload_n hx hb dX1_passDay_173 rfl (lv_at hl 3 rfl) ?_
                          refine lv_iload hx hb dX1_passDay_174 (lv_at hl 0 rfl) ?_
                          refine lv_iconst (v := (-1)) hx hb dX1_passDay_176 (by decide) ?_
                          refine cbVv (n := 2) (rest := []) hx hb hml hown hts hE hP hD hS hA (sX_X1_setWears_2 l dC dI cy x0 x l4_56 (-1) v66 f67 hIv66 ) k_879 k_880 k_881 k_106 k_882 (by decide +kernel) ⟨Nat.le_of_ble_eq_true rfl, Nat.le_of_ble_eq_true rfl⟩ 28 1 rfl rfl (rfl) hl.1 rfl (Nat.le_of_ble_eq_true rfl) dX1_passDay_177 (fun u H locs hw hP hD hS => ?_)
                          obtain ⟨v71, f72⟩ := u
                          obtain ⟨kV_v71, kF_f72, hIv71, hk0_v71, hk1_v71, hk7_v71, hk8_v71, hk9_v71, hk10_v71, hk31_v71, hk32_v71⟩ := hw
                          have hM_v71 : KV [] v71 v := KV.tr kV_v71 hM_v66 rfl
                          have hA_f72 : KF [13, 14, 18] f72 f := KF.tr kF_f72 hA_f67 rfl
                          have hP : va_P (dC, dI) vwCl (XW cy x0 x v71 f72) H := hP
                          have hD : va_D A (XW cy x0 x v71 f72) := hD
                          have hq0_v71 : v71 0 = (v 0) := hk0_v71.trans hq0_v66
                          have hq1_v71 : v71 1 = (v 1) := hk1_v71.trans hq1_v66
                          have hq7_v71 : v71 7 = (v 7) := hk7_v71.trans hq7_v66
                          have hq8_v71 : v71 8 = (v 8) := hk8_v71.trans hq8_v66
                          have hq9_v71 : v71 9 = (v 9) := hk9_v71.trans hq9_v66
                          have hq10_v71 : v71 10 = (v 10) := hk10_v71.trans hq10_v66
                          have hq31_v71 : v71 31 = (v 31) := hk31_v71.trans hq31_v66
                          have hq32_v71 : v71 32 = (v 32) := hk32_v71.trans hq32_v66
                          refine lv_iload_n hx hb dX1_passDay_180 rfl (lv_at hl 1 rfl) ?_
                          refine lv_iconst (v := 1) hx hb dX1_passDay_181 (by decide) ?_
                          refine lv_iload hx hb dX1_passDay_182 (lv_at hl 0 rfl) ?_
                          refine lv_ishl hx hb dX1_passDay_184 ?_
                          refine lv_topi (fun t73 et73 => ?_)
                          have zt73 : 1 ≤ t73.toInt ∧ t73.toInt ≤ 32 := by rw [et73]; exact shl1_rng (by omega) (by omega)
                          refine lv_ior hx hb dX1_passDay_185 ?_
                          refine lv_topi (fun t74 et74 => ?_)
                          refine lv_istore_n (lv' := [(3, .int t74), (4, .int l4_56), (2, .int 1), (0, .ref (x 27)), (1, .int p1)]) hx hb dX1_passDay_186 rfl hl (by decide) rfl (fun ls hl => ?_)
                          obtain ⟨t75, et75⟩ : ∃ y : Int32, y = l4_56 + 1 := ⟨_, rfl⟩
                          have zt75 : t75.toInt = l4_56.toInt + 1 := by rw [et75]; exact add_i rfl (by decide) (by omega) (by omega)
                          refine lv_iinc (v := t75) (lv' := [(4, .int t75), (3, .int t74), (2, .int 1), (0, .ref (x 27)), (1, .int p1)]) hx hb dX1_passDay_187 hl (k := 1) rfl (by rw [et75]; rfl) (by decide) rfl (fun ls hl => ?_)
                          refine lv_goto (tgt := 136) hx hb dX1_passDay_190 (by decide) ?_
                          have rg76 := fb_rng t75
                          exact ih56 t74 t75 v71 f72 hIv71 hq0_v71 hq1_v71 hq7_v71 hq8_v71 hq9_v71 hq10_v71 hq31_v71 hq32_v71 ⟨show (0 : Int) ≤ t75.toInt by omega, show t75.toInt ≤ (2147483647 : Int) by omega⟩ hM_v71 hA_f72 (by show (2147483647 - t75.toInt).toNat < n56; omega) _ _ _ hP hD hS (lv_sub hl [0, 1, 2, 3, 4] rfl)
                exact lp56 _ 0 0 v50 f55 hIv50 hq0_v50 hq1_v50 hq7_v50 hq8_v50 hq9_v50 hq10_v50 hq31_v50 hq32_v50 ⟨by decide, by decide⟩ hM_v50 hA_f55 (Nat.lt_succ_self _) _ _ _ hP hD hS (lv_sub hl [0, 1, 2, 3, 4] rfl)
              · skip
                have zc51 : ¬ ((v 31).toInt ≤ l3_50.toInt) := by rw [fa_le] at c51; exact c51
                have rg77 := fb_rng l3_50
                refine lv_aload_n hx hb dX1_passDay_104 rfl (lv_at hl 2 rfl) ?_
                refine lv_aload_n hx hb dX1_passDay_105 rfl (lv_at hl 2 rfl) ?_
                refine lv_iload_n hx hb dX1_passDay_106 rfl (lv_at hl 0 rfl) ?_
                refine cbVi (n := 1) (rest := [.ref (x 27)]) hx hb hml hown hts hE hP hD hS hA (sX_X1_wears_2 l dC dI cy x0 x l3_50 v50 f50 hIv50 ) k_853 k_810 k_811 k_106 k_812 (by decide +kernel) ⟨Nat.le_of_ble_eq_true rfl, Nat.le_of_ble_eq_true rfl⟩ 28 1 rfl rfl (rfl) hl.1 rfl (Nat.le_of_ble_eq_true rfl) dX1_passDay_107 (fun r78 u H locs hw hP hD hS => ?_)
                refine lv_iload_n hx hb dX1_passDay_110 rfl (lv_at hl 1 rfl) ?_
                refine cbVv (n := 2) (rest := []) hx hb hml hown hts hE hP hD hS hA (sX_X1_weather_2 l dC dI cy x0 x r78 1 v50 f50 hIv50 ) k_870 k_872 k_20 k_106 k_873 (by decide +kernel) ⟨Nat.le_of_ble_eq_true rfl, Nat.le_of_ble_eq_true rfl⟩ 28 1 rfl rfl (rfl) hl.1 rfl (Nat.le_of_ble_eq_true rfl) dX1_passDay_111 (fun u H locs hw hP hD hS => ?_)
                obtain ⟨v79, f80⟩ := u
                obtain ⟨kV_v79, kF_f80, hIv79, hk0_v79, hk1_v79, hk7_v79, hk8_v79, hk9_v79, hk10_v79, hk31_v79, hk32_v79⟩ := hw
                have hM_v79 : KV [] v79 v := KV.tr kV_v79 hM_v50 rfl
                have hA_f80 : KF [13, 14, 18] f80 f := KF.tr kF_f80 hA_f50 rfl
                have hP : va_P (dC, dI) vwCl (XW cy x0 x v79 f80) H := hP
                have hD : va_D A (XW cy x0 x v79 f80) := hD
                have hq0_v79 : v79 0 = (v 0) := hk0_v79.trans hq0_v50
                have hq1_v79 : v79 1 = (v 1) := hk1_v79.trans hq1_v50
                have hq7_v79 : v79 7 = (v 7) := hk7_v79.trans hq7_v50
                have hq8_v79 : v79 8 = (v 8) := hk8_v79.trans hq8_v50
                have hq9_v79 : v79 9 = (v 9) := hk9_v79.trans hq9_v50
                have hq10_v79 : v79 10 = (v 10) := hk10_v79.trans hq10_v50
                have hq31_v79 : v79 31 = (v 31) := hk31_v79.trans hq31_v50
                have hq32_v79 : v79 32 = (v 32) := hk32_v79.trans hq32_v50
                obtain ⟨t81, et81⟩ : ∃ y : Int32, y = l3_50 + 1 := ⟨_, rfl⟩
                have zt81 : t81.toInt = l3_50.toInt + 1 := by rw [et81]; exact add_i rfl (by decide) (by omega) (by omega)
                refine lv_iinc (v := t81) (lv' := [(3, .int t81), (2, .int 1), (0, .ref (x 27)), (1, .int p1)]) hx hb dX1_passDay_114 hl (k := 0) rfl (by rw [et81]; rfl) (by decide) rfl (fun ls hl => ?_)
                refine lv_goto (tgt := 93) hx hb dX1_passDay_117 (by decide) ?_
                have rg82 := fb_rng t81
                exact ih50 t81 v79 f80 hIv79 hq0_v79 hq1_v79 hq7_v79 hq8_v79 hq9_v79 hq10_v79 hq31_v79 hq32_v79 ⟨show (0 : Int) ≤ t81.toInt by omega, show t81.toInt ≤ (2147483647 : Int) by omega⟩ hM_v79 hA_f80 (by show (2147483647 - t81.toInt).toNat < n50; omega) _ _ _ hP hD hS (lv_sub hl [0, 1, 2, 3] rfl)
          exact lp50 _ 0 v1 f9 hIv1 hq0_v1 hq1_v1 hq7_v1 hq8_v1 hq9_v1 hq10_v1 hq31_v1 hq32_v1 ⟨by decide, by decide⟩ hM_v1 hA_f9 (Nat.lt_succ_self _) _ _ _ hP hD hS (lv_sub hl [0, 1, 2, 3] rfl)
      · skip
        have zc2 : ¬ ((v 31).toInt ≤ l2_1.toInt) := by rw [fa_le] at c2; exact c2
        have rg83 := fb_rng l2_1
        have rg84 := fb_rng (v 31)
        refine lv_aload_n hx hb dX1_passDay_13 rfl (lv_at hl 1 rfl) ?_
        refine va_get (D := (dC, dI)) (ci := 1) (v := .ref (x 28)) (C := RX1) (T := TX1) (N := 2) hx hb hts inB_1 hown hE.1 hP 28 rfl rfl 1 (by decide) (hts _ k_319) (fun _ h9 => h9) rfl dX1_passDay_14 ?_
        refine lv_iload_n hx hb dX1_passDay_17 rfl (lv_at hl 0 rfl) ?_
        refine lv_bipush (v := 99) hx hb dX1_passDay_18 (by decide) ?_
        refine lv_aload_n hx hb dX1_passDay_20 rfl (lv_at hl 1 rfl) ?_
        refine va_get (D := (dC, dI)) (ci := 1) (v := .ref (x 28)) (C := RX1) (T := TX1) (N := 2) hx hb hts inB_1 hown hE.1 hP 28 rfl rfl 1 (by decide) (hts _ k_319) (fun _ h9 => h9) rfl dX1_passDay_21 ?_
        refine lv_iload_n hx hb dX1_passDay_24 rfl (lv_at hl 0 rfl) ?_
        refine ldI hx hb hE hP 29 rfl (vp_in_iff.mpr ⟨by omega, by omega⟩) rfl rfl dX1_passDay_25 ?_
        refine lv_topi (fun t85 et85 => ?_)
        refine lv_aload_n hx hb dX1_passDay_26 rfl (lv_at hl 1 rfl) ?_
        refine va_get (D := (dC, dI)) (ci := 1) (v := .ref (x 26)) (C := RX1) (T := TX1) (N := 2) hx hb hts inB_1 hown hE.1 hP 28 rfl rfl 0 (by decide) (hts _ k_318) (fun _ h9 => h9) rfl dX1_passDay_27 ?_
        refine lv_iconst (v := 2) hx hb dX1_passDay_30 (by decide) ?_
        refine lv_iload_n hx hb dX1_passDay_31 rfl (lv_at hl 0 rfl) ?_
        refine cbVi (n := 2) (rest := [.int t85, .int 99, .int l2_1, .ref (x 28)]) hx hb hml hown hts hE hP hD hS hA (sX_X7_manPart_1 0 l dC dI cy x0 x 2 l2_1 v1 f1 hIv1 ) k_302 k_303 k_304 k_104 k_305 (by decide +kernel) ⟨Nat.le_of_ble_eq_true rfl, Nat.le_of_ble_eq_true rfl⟩ 27 7 rfl rfl (rfl) hl.1 rfl (Nat.le_of_ble_eq_true rfl) dX1_passDay_32 (fun r86 u H locs hw hP hD hS => ?_)
        have hG87 := hw
        refine lv_iadd hx hb dX1_passDay_35 ?_
        refine lv_topi (fun t88 et88 => ?_)
        refine va_mmin hx hb (by rw [hml]; exact hl.1.symm) hown (hts _ k_869) (hts _ k_643) (hts _ k_119) (hts _ k_644) (Nat.le_of_ble_eq_true rfl) (Nat.le_of_ble_eq_true rfl) (Nat.le_of_ble_eq_true rfl) (Nat.le_of_ble_eq_true rfl) dX1_passDay_36 ?_
        refine lv_topi (fun t89 et89 => ?_)
        have zt89 : t89.toInt = min (99) (t88.toInt) := by rw [et89]; exact mmin_i (by decide) rfl
        refine stI hx hb hE hP hD hS 29 rfl (vp_in_iff.mpr ⟨by omega, by omega⟩) rfl dX1_passDay_39 (fun H locs hP hD hS => ?_)
        obtain ⟨f90, ef90, hP, hD⟩ : ∃ fz9, fz9 = upd2 f1 18 (upd (f1 18) l2_1.toNatClampNeg t89) ∧ va_P (dC, dI) vwCl (XW cy x0 x v1 fz9) H ∧ va_D A (XW cy x0 x v1 fz9) := ⟨_, rfl, hP, hD⟩
        have hA_f90 : KF [13, 14, 18] f90 f := by rw [ef90]; exact KF.up hA_f1 rfl
        obtain ⟨t91, et91⟩ : ∃ y : Int32, y = l2_1 + 1 := ⟨_, rfl⟩
        have zt91 : t91.toInt = l2_1.toInt + 1 := by rw [et91]; exact add_i rfl (by decide) (by omega) (by omega)
        refine lv_iinc (v := t91) (lv' := [(2, .int t91), (0, .ref (x 27)), (1, .int p1)]) hx hb dX1_passDay_40 hl (k := 0) rfl (by rw [et91]; rfl) (by decide) rfl (fun ls hl => ?_)
        refine lv_goto (tgt := 2) hx hb dX1_passDay_43 (by decide) ?_
        have rg92 := fb_rng t91
        exact ih1 t91 v1 f90 hIv1 hq0_v1 hq1_v1 hq7_v1 hq8_v1 hq9_v1 hq10_v1 hq31_v1 hq32_v1 ⟨show (0 : Int) ≤ t91.toInt by omega, show t91.toInt ≤ (2147483647 : Int) by omega⟩ hM_v1 hA_f90 (by show (2147483647 - t91.toInt).toNat < n1; omega) _ _ _ hP hD hS (lv_sub hl [0, 1, 2] rfl)
  exact lp1 _ 0 v f hIv rfl rfl rfl rfl rfl rfl rfl rfl ⟨by decide, by decide⟩ hM_v hA_f (Nat.lt_succ_self _) _ _ _ hP hD hS (lv_sub hl [0, 1, 2] rfl)
