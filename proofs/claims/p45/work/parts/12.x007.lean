set_option maxHeartbeats 4000000 in
set_option maxRecDepth 100000 in
theorem sX_X5_takeBox_1 (l : Launch) (dC : Nat → ClassId) (dI : Nat → Nat → Nat) (cy : Nat → ClassId) (x0 : Nat) (x : Nat → Nat) (p1 : Int32) (v : Nat → Int32) (f : Nat → Nat → Int32) (hIv : XI v)  : ctI l (dC, dI) cy yX5_takeBox cX5_takeBox 2 .boolean 3 142 0 0 ((Nat → Int32) × (Nat → Nat → Int32)) [.ref (x 20), .int p1] (XW cy x0 x v f) (fun r u => KV [21, 22, 23] u.1 v ∧ KF [15, 17] u.2 f ∧ XI u.1 ∧ u.1 0 = v 0 ∧ u.1 1 = v 1 ∧ u.1 7 = v 7 ∧ u.1 8 = v 8 ∧ u.1 9 = v 9 ∧ u.1 10 = v 10 ∧ u.1 31 = v 31 ∧ u.1 32 = v 32 ∧ ((r = 1) ∨ (r = 0))) (fun u => XW cy x0 x u.1 u.2) := by
  refine ctI_of (by decide) (Nat.le_of_ble_eq_true rfl) (fun p e s m below meth c A ls Q hx hb hml hts hown hE hP hD hA hl ret => ?_)
  have hM_v : KV [21, 22, 23] v v := fun _ _ => rfl
  have hA_f : KF [15, 17] f f := fun _ _ => rfl
  have hown : s.vm.findClass RX5 = some m.cls := hown
  have hS : va_S A s.heap s.heap [] := va_S.rf
  have hl : lv_has ls 2 [(0, .ref (x 20)), (1, .int p1)] := hl
  refine lv_iload_n hx hb dX5_takeBox_0 rfl (lv_at hl 1 rfl) ?_
  refine lv_if_lt (tgt := 20) hx hb dX5_takeBox_1 rfl (fun c1 => ?_) (fun c1 => ?_)
  · skip
    refine lv_iconst (v := 0) hx hb dX5_takeBox_20 rfl ?_
    exact ret 0 (v, f) _ _ _ _ _ _ rfl ⟨hM_v, hA_f, hIv, rfl, rfl, rfl, rfl, rfl, rfl, rfl, rfl, (Or.inr rfl)⟩ hP hD hS dX5_takeBox_21 (Nat.le_refl _) (Nat.le_refl _)
  · skip
    refine lv_iload_n hx hb dX5_takeBox_4 rfl (lv_at hl 1 rfl) ?_
    refine lv_iconst (v := 3) hx hb dX5_takeBox_5 rfl ?_
    refine lv_icmp_ge (tgt := 20) hx hb dX5_takeBox_6 rfl (fun c2 => ?_) (fun c2 => ?_)
    · skip
      refine lv_iconst (v := 0) hx hb dX5_takeBox_20 rfl ?_
      exact ret 0 (v, f) _ _ _ _ _ _ rfl ⟨hM_v, hA_f, hIv, rfl, rfl, rfl, rfl, rfl, rfl, rfl, rfl, (Or.inr rfl)⟩ hP hD hS dX5_takeBox_21 (Nat.le_refl _) (Nat.le_refl _)
    · skip
      refine lv_aload_n hx hb dX5_takeBox_9 rfl (lv_at hl 0 rfl) ?_
      refine va_get (D := (dC, dI)) (ci := 5) (v := .int (v 20)) (C := RX5) (T := TX5) (N := 7) hx hb hts inB_5 hown hE.1 hP 21 rfl rfl 3 (Nat.le_of_ble_eq_true rfl) (hts _ k_341) (fun _ h9 => h9) rfl dX5_takeBox_10 ?_
      refine lv_iload_n hx hb dX5_takeBox_13 rfl (lv_at hl 1 rfl) ?_
      refine lv_ishr hx hb dX5_takeBox_14 ?_
      refine lv_topi (fun t3 et3 => ?_)
      refine lv_iconst (v := 1) hx hb dX5_takeBox_15 rfl ?_
      refine lv_iand hx hb dX5_takeBox_16 ?_
      refine lv_topi (fun t4 et4 => ?_)
      refine lv_if_ne (tgt := 22) hx hb dX5_takeBox_17 rfl (fun c5 => ?_) (fun c5 => ?_)
      · skip
        refine lv_aload_n hx hb dX5_takeBox_22 rfl (lv_at hl 0 rfl) ?_
        refine va_get (D := (dC, dI)) (ci := 5) (v := .ref (x 21)) (C := RX5) (T := TX5) (N := 7) hx hb hts inB_5 hown hE.1 hP 21 rfl rfl 0 (Nat.le_of_ble_eq_true rfl) (hts _ k_338) (fun _ h9 => h9) rfl dX5_takeBox_23 ?_
        refine lv_aload_n hx hb dX5_takeBox_26 rfl (lv_at hl 0 rfl) ?_
        refine va_get (D := (dC, dI)) (ci := 5) (v := .ref (x 23)) (C := RX5) (T := TX5) (N := 7) hx hb hts inB_5 hown hE.1 hP 21 rfl rfl 2 (Nat.le_of_ble_eq_true rfl) (hts _ k_340) (fun _ h9 => h9) rfl dX5_takeBox_27 ?_
        refine lv_iload_n hx hb dX5_takeBox_30 rfl (lv_at hl 1 rfl) ?_
        refine cbVv (n := 2) (rest := []) hx hb hml hown hts hE hP hD hS hA (sX_X1_loadFrom_2 l dC dI cy x0 x p1 v f hIv ) k_925 k_926 k_927 k_106 k_928 hd_yX1_loadFrom ⟨Nat.le_of_ble_eq_true rfl, Nat.le_of_ble_eq_true rfl⟩ 22 1 rfl rfl (rfl) hl.1 rfl (Nat.le_of_ble_eq_true rfl) dX5_takeBox_31 (fun u H locs hw hP hD hS => ?_)
        obtain ⟨v6, f7⟩ := u
        obtain ⟨kV_v6, kF_f7, hIv6, hk0_v6, hk1_v6, hk7_v6, hk8_v6, hk9_v6, hk10_v6, hk31_v6, hk32_v6⟩ := hw
        have hM_v6 : KV [21, 22, 23] v6 v := KV.tr kV_v6 hM_v rfl
        have hA_f7 : KF [15, 17] f7 f := KF.tr kF_f7 hA_f rfl
        have hP : va_P (dC, dI) vwCl (XW cy x0 x v6 f7) H := hP
        have hD : va_D A (XW cy x0 x v6 f7) := hD
        refine lv_aload_n hx hb dX5_takeBox_34 rfl (lv_at hl 0 rfl) ?_
        refine cbVv (n := 0) (rest := []) hx hb hml hown hts hE hP hD hS hA (sX_X5_forgetActs_1 0 l dC dI cy x0 x  v6 f7 hIv6 ) k_782 k_784 k_19 k_107 k_785 hd_yX5_forgetActs ⟨Nat.le_of_ble_eq_true rfl, Nat.le_of_ble_eq_true rfl⟩ 21 5 rfl rfl (rfl) hl.1 rfl (Nat.le_of_ble_eq_true rfl) dX5_takeBox_35 (fun u H locs hw hP hD hS => ?_)
        obtain ⟨hG8, hw⟩ := hw
        obtain ⟨v9, f10⟩ := u
        obtain ⟨kV_v9, kF_f10, hIv9, hk0_v9, hk1_v9, hk7_v9, hk8_v9, hk9_v9, hk10_v9, hk31_v9, hk32_v9⟩ := hw
        have hM_v9 : KV [21, 22, 23] v9 v := KV.tr kV_v9 hM_v6 rfl
        have hA_f10 : KF [15, 17] f10 f := KF.tr kF_f10 hA_f7 rfl
        have hP : va_P (dC, dI) vwCl (XW cy x0 x v9 f10) H := hP
        have hD : va_D A (XW cy x0 x v9 f10) := hD
        refine lv_iconst (v := 1) hx hb dX5_takeBox_38 rfl ?_
        exact ret 1 (v9, f10) _ _ _ _ _ _ rfl ⟨hM_v9, hA_f10, hIv9, (hk0_v9.trans hk0_v6), (hk1_v9.trans hk1_v6), (hk7_v9.trans hk7_v6), (hk8_v9.trans hk8_v6), (hk9_v9.trans hk9_v6), (hk10_v9.trans hk10_v6), (hk31_v9.trans hk31_v6), (hk32_v9.trans hk32_v6), (Or.inl rfl)⟩ hP hD hS dX5_takeBox_39 (Nat.le_refl _) (Nat.le_refl _)
      · skip
        refine lv_iconst (v := 0) hx hb dX5_takeBox_20 rfl ?_
        exact ret 0 (v, f) _ _ _ _ _ _ rfl ⟨hM_v, hA_f, hIv, rfl, rfl, rfl, rfl, rfl, rfl, rfl, rfl, (Or.inr rfl)⟩ hP hD hS dX5_takeBox_21 (Nat.le_refl _) (Nat.le_refl _)
set_option maxHeartbeats 4000000 in
set_option maxRecDepth 100000 in
theorem sX_X10_back_1 (l : Launch) (dC : Nat → ClassId) (dI : Nat → Nat → Nat) (cy : Nat → ClassId) (x0 : Nat) (x : Nat → Nat) (p1 : Int32) (v : Nat → Int32) (f : Nat → Nat → Int32) (hIv : XI v)  : ctI l (dC, dI) cy yX10_back cX10_back 2 .int 4 163 0 0 ((Nat → Int32) × (Nat → Nat → Int32)) [.ref x0, .int p1] (XW cy x0 x v f) (fun r u => KV [21, 22, 23] u.1 v ∧ KF [15, 17] u.2 f ∧ XI u.1 ∧ u.1 0 = v 0 ∧ u.1 1 = v 1 ∧ u.1 7 = v 7 ∧ u.1 8 = v 8 ∧ u.1 9 = v 9 ∧ u.1 10 = v 10 ∧ u.1 31 = v 31 ∧ u.1 32 = v 32) (fun u => XW cy x0 x u.1 u.2) := by
  refine ctI_of (by decide) (Nat.le_of_ble_eq_true rfl) (fun p e s m below meth c A ls Q hx hb hml hts hown hE hP hD hA hl ret => ?_)
  have hM_v : KV [21, 22, 23] v v := fun _ _ => rfl
  have hA_f : KF [15, 17] f f := fun _ _ => rfl
  have hown : s.vm.findClass RX10 = some m.cls := hown
  have hS : va_S A s.heap s.heap [] := va_S.rf
  have hl : lv_has ls 2 [(0, .ref x0), (1, .int p1)] := hl
  refine lv_aload_n hx hb dX10_back_0 rfl (lv_at hl 0 rfl) ?_
  refine va_get (D := (dC, dI)) (ci := 10) (v := .ref (x 20)) (C := RX10) (T := TX10) (N := 10) hx hb hts inB_10 hown hE.1 hP 0 rfl rfl 4 (Nat.le_of_ble_eq_true rfl) (hts _ k_495) (fun _ h9 => h9) rfl dX10_back_1 ?_
  refine lv_iload_n hx hb dX10_back_4 rfl (lv_at hl 1 rfl) ?_
  refine cbVi (n := 1) (rest := []) hx hb hml hown hts hE hP hD hS hA (sX_X5_takeBox_1 l dC dI cy x0 x p1 v f hIv ) k_1302 k_1303 k_1304 k_107 k_1305 hd_yX5_takeBox ⟨Nat.le_of_ble_eq_true rfl, Nat.le_of_ble_eq_true rfl⟩ 21 5 rfl rfl (rfl) hl.1 rfl (Nat.le_of_ble_eq_true rfl) dX10_back_5 (fun r1 u H locs hw hP hD hS => ?_)
  obtain ⟨v2, f3⟩ := u
  obtain ⟨kV_v2, kF_f3, hIv2, hk0_v2, hk1_v2, hk7_v2, hk8_v2, hk9_v2, hk10_v2, hk31_v2, hk32_v2, hw⟩ := hw
  have hM_v2 : KV [21, 22, 23] v2 v := KV.tr kV_v2 hM_v rfl
  have hA_f3 : KF [15, 17] f3 f := KF.tr kF_f3 hA_f rfl
  have hP : va_P (dC, dI) vwCl (XW cy x0 x v2 f3) H := hP
  have hD : va_D A (XW cy x0 x v2 f3) := hD
  have hq0_v2 : v2 0 = (v 0) := hk0_v2
  have hq1_v2 : v2 1 = (v 1) := hk1_v2
  have hq7_v2 : v2 7 = (v 7) := hk7_v2
  have hq8_v2 : v2 8 = (v 8) := hk8_v2
  have hq9_v2 : v2 9 = (v 9) := hk9_v2
  have hq10_v2 : v2 10 = (v 10) := hk10_v2
  have hq31_v2 : v2 31 = (v 31) := hk31_v2
  have hq32_v2 : v2 32 = (v 32) := hk32_v2
  rcases hw with ⟨g4⟩ | ⟨g4⟩
  · skip
    subst g4
    refine lv_if_eq (tgt := 21) hx hb dX10_back_8 rfl (fun c0 => absurd c0 (by decide)) (fun _ => ?_)
    refine lv_aload_n hx hb dX10_back_11 rfl (lv_at hl 0 rfl) ?_
    refine va_get (D := (dC, dI)) (ci := 10) (v := .ref (x 21)) (C := RX10) (T := TX10) (N := 10) hx hb hts inB_10 hown hE.1 hP 0 rfl rfl 3 (Nat.le_of_ble_eq_true rfl) (hts _ k_494) (fun _ h9 => h9) rfl dX10_back_12 ?_
    refine cbVi (n := 0) (rest := []) hx hb hml hown hts hE hP hD hS hA (sX_X1_today_1 0 l dC dI cy x0 x  v2 f3 hIv2 ) k_864 k_832 k_833 k_106 k_834 hd_yX1_today ⟨Nat.le_of_ble_eq_true rfl, Nat.le_of_ble_eq_true rfl⟩ 22 1 rfl rfl (rfl) hl.1 rfl (Nat.le_of_ble_eq_true rfl) dX10_back_15 (fun r5 u H locs hw hP hD hS => ?_)
    have hG6 := hw
    refine lv_goto (tgt := 22) hx hb dX10_back_18 rfl ?_
    exact ret r5 (v2, f3) _ _ _ _ _ _ rfl ⟨hM_v2, hA_f3, hIv2, hk0_v2, hk1_v2, hk7_v2, hk8_v2, hk9_v2, hk10_v2, hk31_v2, hk32_v2⟩ hP hD hS dX10_back_22 (Nat.le_refl _) (Nat.le_refl _)
  · skip
    subst g4
    refine lv_if_eq (tgt := 21) hx hb dX10_back_8 rfl (fun _ => ?_) (fun c0 => absurd (by decide) c0)
    refine lv_iconst (v := (-1)) hx hb dX10_back_21 rfl ?_
    exact ret (-1) (v2, f3) _ _ _ _ _ _ rfl ⟨hM_v2, hA_f3, hIv2, hk0_v2, hk1_v2, hk7_v2, hk8_v2, hk9_v2, hk10_v2, hk31_v2, hk32_v2⟩ hP hD hS dX10_back_22 (Nat.le_refl _) (Nat.le_refl _)
set_option maxHeartbeats 4000000 in
set_option maxRecDepth 100000 in
theorem sX_X1_seed_1 (l : Launch) (dC : Nat → ClassId) (dI : Nat → Nat → Nat) (cy : Nat → ClassId) (x0 : Nat) (x : Nat → Nat)  (v : Nat → Int32) (f : Nat → Nat → Int32) (hIv : XI v)  : ctI l (dC, dI) cy yX1_seed cX1_seed 1 .int 1 60 0 0 Unit [.ref (x 21)] (XW cy x0 x v f) (fun r u => True) (fun u => XW cy x0 x v f) := by
  refine ctI_of (by decide) (Nat.le_of_ble_eq_true rfl) (fun p e s m below meth c A ls Q hx hb hml hts hown hE hP hD hA hl ret => ?_)
  have hown : s.vm.findClass RX1 = some m.cls := hown
  have hS : va_S A s.heap s.heap [] := va_S.rf
  have hl : lv_has ls 1 [(0, .ref (x 21))] := hl
  refine lv_aload_n hx hb dX1_seed_0 rfl (lv_at hl 0 rfl) ?_
  refine va_get (D := (dC, dI)) (ci := 1) (v := .ref (x 22)) (C := RX1) (T := TX1) (N := 2) hx hb hts inB_1 hown hE.1 hP 22 rfl rfl 1 (Nat.le_of_ble_eq_true rfl) (hts _ k_319) (fun _ h9 => h9) rfl dX1_seed_1 ?_
  refine lv_bipush (v := 43) hx hb dX1_seed_4 rfl ?_
  refine ldI hx hb hE hP 23 rfl (vp_in_nI (n := 43) (by decide) (by decide)) rfl rfl dX1_seed_6 ?_
  refine lv_topi (fun t1 et1 => ?_)
  exact ret t1 () _ _ _ _ _ _ rfl trivial hP hD hS dX1_seed_7 (Nat.le_refl _) (Nat.le_refl _)
set_option maxHeartbeats 4000000 in
set_option maxRecDepth 100000 in
theorem sX_X10_about_1 (l : Launch) (dC : Nat → ClassId) (dI : Nat → Nat → Nat) (cy : Nat → ClassId) (x0 : Nat) (x : Nat → Nat) (p1 : Int32) (v : Nat → Int32) (f : Nat → Nat → Int32) (hIv : XI v)  : ctI l (dC, dI) cy yX10_about cX10_about 2 .int 2 80 0 0 Unit [.ref x0, .int p1] (XW cy x0 x v f) (fun r u => True) (fun u => XW cy x0 x v f) := by
  refine ctI_of (by decide) (Nat.le_of_ble_eq_true rfl) (fun p e s m below meth c A ls Q hx hb hml hts hown hE hP hD hA hl ret => ?_)
  have hown : s.vm.findClass RX10 = some m.cls := hown
  have hS : va_S A s.heap s.heap [] := va_S.rf
  have hl : lv_has ls 2 [(0, .ref x0), (1, .int p1)] := hl
  refine lv_iload_n hx hb dX10_about_0 rfl (lv_at hl 1 rfl) ?_
  by_cases c1 : p1 = 0
  · skip
    refine lv_tableIn (off := 71) (tgt := 72) hx hb dX10_about_1 (by rw [c1]; decide) (by rw [c1]; decide) (by rw [c1]; decide) (by decide) ?_
    refine lv_aload_n hx hb dX10_about_72 rfl (lv_at hl 0 rfl) ?_
    refine va_get (D := (dC, dI)) (ci := 10) (v := .ref (x 26)) (C := RX10) (T := TX10) (N := 10) hx hb hts inB_10 hown hE.1 hP 0 rfl rfl 2 (Nat.le_of_ble_eq_true rfl) (hts _ k_493) (fun _ h9 => h9) rfl dX10_about_73 ?_
    refine va_getN (D := (dC, dI)) (ci := 7) (v := .int (v 31)) (C := RX7) (T := TX7) (N := 10) hx hb hts inB_7 hown hE.1 hP 27 rfl rfl 3 (Nat.le_of_ble_eq_true rfl) (va_Nw.use rfl (hE.2 _ k_214)) (fun _ h9 => h9) rfl dX10_about_76 ?_
    exact ret (v 31) () _ _ _ _ _ _ rfl trivial hP hD hS dX10_about_79 (Nat.le_refl _) (Nat.le_refl _)
  · skip
    have zc1 : ¬ (p1.toInt = 0) := zEn rfl tc_0 c1
    by_cases c2 : p1 = 1
    · skip
      refine lv_tableIn (off := 79) (tgt := 80) hx hb dX10_about_1 (by rw [c2]; decide) (by rw [c2]; decide) (by rw [c2]; decide) (by decide) ?_
      refine lv_aload_n hx hb dX10_about_80 rfl (lv_at hl 0 rfl) ?_
      refine va_get (D := (dC, dI)) (ci := 10) (v := .ref (x 26)) (C := RX10) (T := TX10) (N := 10) hx hb hts inB_10 hown hE.1 hP 0 rfl rfl 2 (Nat.le_of_ble_eq_true rfl) (hts _ k_493) (fun _ h9 => h9) rfl dX10_about_81 ?_
      refine va_getN (D := (dC, dI)) (ci := 7) (v := .int (v 32)) (C := RX7) (T := TX7) (N := 10) hx hb hts inB_7 hown hE.1 hP 27 rfl rfl 4 (Nat.le_of_ble_eq_true rfl) (va_Nw.use rfl (hE.2 _ k_227)) (fun _ h9 => h9) rfl dX10_about_84 ?_
      exact ret (v 32) () _ _ _ _ _ _ rfl trivial hP hD hS dX10_about_87 (Nat.le_refl _) (Nat.le_refl _)
    · skip
      have zc2 : ¬ (p1.toInt = 1) := zEn rfl tc_1 c2
      by_cases c3 : p1 = 2
      · skip
        refine lv_tableIn (off := 87) (tgt := 88) hx hb dX10_about_1 (by rw [c3]; decide) (by rw [c3]; decide) (by rw [c3]; decide) (by decide) ?_
        refine lv_aload_n hx hb dX10_about_88 rfl (lv_at hl 0 rfl) ?_
        refine va_get (D := (dC, dI)) (ci := 10) (v := .ref (x 26)) (C := RX10) (T := TX10) (N := 10) hx hb hts inB_10 hown hE.1 hP 0 rfl rfl 2 (Nat.le_of_ble_eq_true rfl) (hts _ k_493) (fun _ h9 => h9) rfl dX10_about_89 ?_
        refine va_getN (D := (dC, dI)) (ci := 7) (v := .int (v 33)) (C := RX7) (T := TX7) (N := 10) hx hb hts inB_7 hown hE.1 hP 27 rfl rfl 5 (Nat.le_of_ble_eq_true rfl) (va_Nw.use rfl (hE.2 _ k_233)) (fun _ h9 => h9) rfl dX10_about_92 ?_
        exact ret (v 33) () _ _ _ _ _ _ rfl trivial hP hD hS dX10_about_95 (Nat.le_refl _) (Nat.le_refl _)
      · skip
        have zc3 : ¬ (p1.toInt = 2) := zEn rfl tc_2 c3
        by_cases c4 : p1 = 3
        · skip
          refine lv_tableIn (off := 95) (tgt := 96) hx hb dX10_about_1 (by rw [c4]; decide) (by rw [c4]; decide) (by rw [c4]; decide) (by decide) ?_
          refine lv_aload_n hx hb dX10_about_96 rfl (lv_at hl 0 rfl) ?_
          refine va_get (D := (dC, dI)) (ci := 10) (v := .ref (x 26)) (C := RX10) (T := TX10) (N := 10) hx hb hts inB_10 hown hE.1 hP 0 rfl rfl 2 (Nat.le_of_ble_eq_true rfl) (hts _ k_493) (fun _ h9 => h9) rfl dX10_about_97 ?_
          refine va_getN (D := (dC, dI)) (ci := 7) (v := .int (v 34)) (C := RX7) (T := TX7) (N := 10) hx hb hts inB_7 hown hE.1 hP 27 rfl rfl 6 (Nat.le_of_ble_eq_true rfl) (va_Nw.use rfl (hE.2 _ k_236)) (fun _ h9 => h9) rfl dX10_about_100 ?_
          exact ret (v 34) () _ _ _ _ _ _ rfl trivial hP hD hS dX10_about_103 (Nat.le_refl _) (Nat.le_refl _)
        · skip
          have zc4 : ¬ (p1.toInt = 3) := zEn rfl tc_3 c4
          by_cases c5 : p1 = 4
          · skip
            refine lv_tableIn (off := 103) (tgt := 104) hx hb dX10_about_1 (by rw [c5]; decide) (by rw [c5]; decide) (by rw [c5]; decide) (by decide) ?_
            refine lv_aload_n hx hb dX10_about_104 rfl (lv_at hl 0 rfl) ?_
            refine va_get (D := (dC, dI)) (ci := 10) (v := .ref (x 26)) (C := RX10) (T := TX10) (N := 10) hx hb hts inB_10 hown hE.1 hP 0 rfl rfl 2 (Nat.le_of_ble_eq_true rfl) (hts _ k_493) (fun _ h9 => h9) rfl dX10_about_105 ?_
            refine va_getN (D := (dC, dI)) (ci := 7) (v := .int (v 35)) (C := RX7) (T := TX7) (N := 10) hx hb hts inB_7 hown hE.1 hP 27 rfl rfl 7 (Nat.le_of_ble_eq_true rfl) (va_Nw.use rfl (hE.2 _ k_239)) (fun _ h9 => h9) rfl dX10_about_108 ?_
            exact ret (v 35) () _ _ _ _ _ _ rfl trivial hP hD hS dX10_about_111 (Nat.le_refl _) (Nat.le_refl _)
          · skip
            have zc5 : ¬ (p1.toInt = 4) := zEn rfl tc_4 c5
            by_cases c6 : p1 = 5
            · skip
              refine lv_tableIn (off := 111) (tgt := 112) hx hb dX10_about_1 (by rw [c6]; decide) (by rw [c6]; decide) (by rw [c6]; decide) (by decide) ?_
              refine lv_aload_n hx hb dX10_about_112 rfl (lv_at hl 0 rfl) ?_
              refine va_get (D := (dC, dI)) (ci := 10) (v := .ref (x 21)) (C := RX10) (T := TX10) (N := 10) hx hb hts inB_10 hown hE.1 hP 0 rfl rfl 3 (Nat.le_of_ble_eq_true rfl) (hts _ k_494) (fun _ h9 => h9) rfl dX10_about_113 ?_
              refine cbVi (n := 0) (rest := []) hx hb hml hown hts hE hP hD hS hA (sX_X1_today_1 0 l dC dI cy x0 x  v f hIv ) k_864 k_832 k_833 k_106 k_834 hd_yX1_today ⟨Nat.le_of_ble_eq_true rfl, Nat.le_of_ble_eq_true rfl⟩ 22 1 rfl rfl (rfl) hl.1 rfl (Nat.le_of_ble_eq_true rfl) dX10_about_116 (fun r7 u H locs hw hP hD hS => ?_)
              have hG8 := hw
              exact ret r7 () _ _ _ _ _ _ rfl trivial hP hD hS dX10_about_119 (Nat.le_refl _) (Nat.le_refl _)
            · skip
              have zc6 : ¬ (p1.toInt = 5) := zEn rfl tc_5 c6
              by_cases c9 : p1 = 6
              · skip
                refine lv_tableIn (off := 119) (tgt := 120) hx hb dX10_about_1 (by rw [c9]; decide) (by rw [c9]; decide) (by rw [c9]; decide) (by decide) ?_
                refine lv_aload_n hx hb dX10_about_120 rfl (lv_at hl 0 rfl) ?_
                refine va_get (D := (dC, dI)) (ci := 10) (v := .ref (x 21)) (C := RX10) (T := TX10) (N := 10) hx hb hts inB_10 hown hE.1 hP 0 rfl rfl 3 (Nat.le_of_ble_eq_true rfl) (hts _ k_494) (fun _ h9 => h9) rfl dX10_about_121 ?_
                refine cbVi (n := 0) (rest := []) hx hb hml hown hts hE hP hD hS hA (sX_X1_seed_1 l dC dI cy x0 x  v f hIv ) k_1310 k_1311 k_1312 k_106 k_1313 hd_yX1_seed ⟨Nat.le_of_ble_eq_true rfl, Nat.le_of_ble_eq_true rfl⟩ 22 1 rfl rfl (rfl) hl.1 rfl (Nat.le_of_ble_eq_true rfl) dX10_about_124 (fun r10 u H locs hw hP hD hS => ?_)
                exact ret r10 () _ _ _ _ _ _ rfl trivial hP hD hS dX10_about_127 (Nat.le_refl _) (Nat.le_refl _)
              · skip
                have zc9 : ¬ (p1.toInt = 6) := zEn rfl tc_6 c9
                by_cases c11 : p1 = 7
                · skip
                  refine lv_tableIn (off := 127) (tgt := 128) hx hb dX10_about_1 (by rw [c11]; decide) (by rw [c11]; decide) (by rw [c11]; decide) (by decide) ?_
                  refine lv_aload_n hx hb dX10_about_128 rfl (lv_at hl 0 rfl) ?_
                  refine va_get (D := (dC, dI)) (ci := 10) (v := .ref (x 20)) (C := RX10) (T := TX10) (N := 10) hx hb hts inB_10 hown hE.1 hP 0 rfl rfl 4 (Nat.le_of_ble_eq_true rfl) (hts _ k_495) (fun _ h9 => h9) rfl dX10_about_129 ?_
                  refine va_getN (D := (dC, dI)) (ci := 5) (v := .int (v 22)) (C := RX5) (T := TX5) (N := 7) hx hb hts inB_5 hown hE.1 hP 21 rfl rfl 5 (Nat.le_of_ble_eq_true rfl) (va_Nw.use rfl (hE.2 _ k_344)) (fun _ h9 => h9) rfl dX10_about_132 ?_
                  exact ret (v 22) () _ _ _ _ _ _ rfl trivial hP hD hS dX10_about_135 (Nat.le_refl _) (Nat.le_refl _)
                · skip
                  have zc11 : ¬ (p1.toInt = 7) := zEn rfl tc_7 c11
                  by_cases c12 : p1 = 8
                  · skip
                    refine lv_tableIn (off := 135) (tgt := 136) hx hb dX10_about_1 (by rw [c12]; decide) (by rw [c12]; decide) (by rw [c12]; decide) (by decide) ?_
                    refine lv_aload_n hx hb dX10_about_136 rfl (lv_at hl 0 rfl) ?_
                    refine va_get (D := (dC, dI)) (ci := 10) (v := .ref (x 20)) (C := RX10) (T := TX10) (N := 10) hx hb hts inB_10 hown hE.1 hP 0 rfl rfl 4 (Nat.le_of_ble_eq_true rfl) (hts _ k_495) (fun _ h9 => h9) rfl dX10_about_137 ?_
                    refine va_getN (D := (dC, dI)) (ci := 5) (v := .int (v 23)) (C := RX5) (T := TX5) (N := 7) hx hb hts inB_5 hown hE.1 hP 21 rfl rfl 6 (Nat.le_of_ble_eq_true rfl) (va_Nw.use rfl (hE.2 _ k_346)) (fun _ h9 => h9) rfl dX10_about_140 ?_
                    exact ret (v 23) () _ _ _ _ _ _ rfl trivial hP hD hS dX10_about_143 (Nat.le_refl _) (Nat.le_refl _)
                  · skip
                    have zc12 : ¬ (p1.toInt = 8) := zEn rfl tc_8 c12
                    by_cases c13 : p1 = 9
                    · skip
                      refine lv_tableIn (off := 143) (tgt := 144) hx hb dX10_about_1 (by rw [c13]; decide) (by rw [c13]; decide) (by rw [c13]; decide) (by decide) ?_
                      refine lv_aload_n hx hb dX10_about_144 rfl (lv_at hl 0 rfl) ?_
                      refine va_get (D := (dC, dI)) (ci := 10) (v := .ref (x 35)) (C := RX10) (T := TX10) (N := 10) hx hb hts inB_10 hown hE.1 hP 0 rfl rfl 8 (Nat.le_of_ble_eq_true rfl) (hts _ k_499) (fun _ h9 => h9) rfl dX10_about_145 ?_
                      refine va_getN (D := (dC, dI)) (ci := 8) (v := .int (v 41)) (C := RX8) (T := TX8) (N := 7) hx hb hts inB_8 hown hE.1 hP 36 rfl rfl 5 (Nat.le_of_ble_eq_true rfl) (va_Nw.use rfl (hE.2 _ k_473)) (fun _ h9 => h9) rfl dX10_about_148 ?_
                      exact ret (v 41) () _ _ _ _ _ _ rfl trivial hP hD hS dX10_about_151 (Nat.le_refl _) (Nat.le_refl _)
                    · skip
                      have zc13 : ¬ (p1.toInt = 9) := zEn rfl tc_9 c13
                      by_cases c14 : p1 = 10
                      · skip
                        refine lv_tableIn (off := 151) (tgt := 152) hx hb dX10_about_1 (by rw [c14]; decide) (by rw [c14]; decide) (by rw [c14]; decide) (by decide) ?_
                        refine lv_aload_n hx hb dX10_about_152 rfl (lv_at hl 0 rfl) ?_
                        refine va_get (D := (dC, dI)) (ci := 10) (v := .int (v 0)) (C := RX10) (T := TX10) (N := 10) hx hb hts inB_10 hown hE.1 hP 0 rfl rfl 9 (Nat.le_of_ble_eq_true rfl) (hts _ k_500) (fun _ h9 => h9) rfl dX10_about_153 ?_
                        exact ret (v 0) () _ _ _ _ _ _ rfl trivial hP hD hS dX10_about_156 (Nat.le_refl _) (Nat.le_refl _)
                      · skip
                        have zc14 : ¬ (p1.toInt = 10) := zEn rfl tc_10 c14
                        by_cases c15 : p1 = 11
                        · skip
                          refine lv_tableIn (off := 156) (tgt := 157) hx hb dX10_about_1 (by rw [c15]; decide) (by rw [c15]; decide) (by rw [c15]; decide) (by decide) ?_
                          refine lv_aload_n hx hb dX10_about_157 rfl (lv_at hl 0 rfl) ?_
                          refine va_get (D := (dC, dI)) (ci := 10) (v := .ref (x 0)) (C := RX10) (T := TX10) (N := 10) hx hb hts inB_10 hown hE.1 hP 0 rfl rfl 0 (Nat.le_of_ble_eq_true rfl) (hts _ k_491) (fun _ h9 => h9) rfl dX10_about_158 ?_
                          refine va_getN (D := (dC, dI)) (ci := 9) (v := .int (v 1)) (C := RX9) (T := TX9) (N := 6) hx hb hts inB_9 hown hE.1 hP 1 rfl rfl 1 (Nat.le_of_ble_eq_true rfl) (va_Nw.use rfl (hE.2 _ k_138)) (fun _ h9 => h9) rfl dX10_about_161 ?_
                          exact ret (v 1) () _ _ _ _ _ _ rfl trivial hP hD hS dX10_about_164 (Nat.le_refl _) (Nat.le_refl _)
                        · skip
                          have zc15 : ¬ (p1.toInt = 11) := zEn rfl tc_11 c15
                          by_cases c16 : p1 = 12
                          · skip
                            refine lv_tableIn (off := 164) (tgt := 165) hx hb dX10_about_1 (by rw [c16]; decide) (by rw [c16]; decide) (by rw [c16]; decide) (by decide) ?_
                            refine lv_aload_n hx hb dX10_about_165 rfl (lv_at hl 0 rfl) ?_
                            refine va_get (D := (dC, dI)) (ci := 10) (v := .ref (x 26)) (C := RX10) (T := TX10) (N := 10) hx hb hts inB_10 hown hE.1 hP 0 rfl rfl 2 (Nat.le_of_ble_eq_true rfl) (hts _ k_493) (fun _ h9 => h9) rfl dX10_about_166 ?_
                            refine va_getN (D := (dC, dI)) (ci := 7) (v := .ref (x 15)) (C := RX7) (T := TX7) (N := 10) hx hb hts inB_7 hown hE.1 hP 27 rfl rfl 2 (Nat.le_of_ble_eq_true rfl) (va_Nw.use rfl (hE.2 _ k_211)) (fun _ h9 => h9) rfl dX10_about_169 ?_
                            refine va_getN (D := (dC, dI)) (ci := 4) (v := .int (v 19)) (C := RX4) (T := TX4) (N := 6) hx hb hts inB_4 hown hE.1 hP 16 rfl rfl 5 (Nat.le_of_ble_eq_true rfl) (va_Nw.use rfl (hE.2 _ k_185)) (fun _ h9 => h9) rfl dX10_about_172 ?_
                            exact ret (v 19) () _ _ _ _ _ _ rfl trivial hP hD hS dX10_about_175 (Nat.le_refl _) (Nat.le_refl _)
                          · skip
                            have zc16 : ¬ (p1.toInt = 12) := zEn rfl tc_12 c16
                            by_cases c17 : p1 = 13
                            · skip
                              refine lv_tableIn (off := 175) (tgt := 176) hx hb dX10_about_1 (by rw [c17]; decide) (by rw [c17]; decide) (by rw [c17]; decide) (by decide) ?_
                              refine lv_aload_n hx hb dX10_about_176 rfl (lv_at hl 0 rfl) ?_
                              refine va_get (D := (dC, dI)) (ci := 10) (v := .ref (x 31)) (C := RX10) (T := TX10) (N := 10) hx hb hts inB_10 hown hE.1 hP 0 rfl rfl 7 (Nat.le_of_ble_eq_true rfl) (hts _ k_498) (fun _ h9 => h9) rfl dX10_about_177 ?_
                              refine va_getN (D := (dC, dI)) (ci := 0) (v := .int (v 38)) (C := RX0) (T := TX0) (N := 8) hx hb hts inB_0 hown hE.1 hP 32 rfl rfl 3 (Nat.le_of_ble_eq_true rfl) (va_Nw.use rfl (hE.2 _ k_434)) (fun _ h9 => h9) rfl dX10_about_180 ?_
                              exact ret (v 38) () _ _ _ _ _ _ rfl trivial hP hD hS dX10_about_183 (Nat.le_refl _) (Nat.le_refl _)
                            · skip
                              have zc17 : ¬ (p1.toInt = 13) := zEn rfl tc_13 c17
                              refine lv_tableOut (tgt := 184) hx hb dX10_about_1 (by omega) (by decide) ?_
                              refine lv_iconst (v := (-1)) hx hb dX10_about_184 rfl ?_
                              exact ret (-1) () _ _ _ _ _ _ rfl trivial hP hD hS dX10_about_185 (Nat.le_refl _) (Nat.le_refl _)
