set_option maxHeartbeats 4000000 in
set_option maxRecDepth 100000 in
theorem sX_X8_clear_1 (NF : Nat) (l : Launch) (dC : Nat → ClassId) (dI : Nat → Nat → Nat) (cy : Nat → ClassId) (x0 : Nat) (x : Nat → Nat)  (v : Nat → Int32) (f : Nat → Nat → Int32) (hIv : XI v)  : ctV l (dC, dI) cy yX8_clear cX8_clear 1 2 83 0 0 ((Nat → Int32) × (Nat → Nat → Int32)) [.ref (x 35)] (XW cy x0 x v f) (fun u => gsX_X8_clear_1 NF v f = u ∧ KV [41] u.1 v ∧ KF [27] u.2 f ∧ XI u.1 ∧ u.1 0 = v 0 ∧ u.1 1 = v 1 ∧ u.1 7 = v 7 ∧ u.1 8 = v 8 ∧ u.1 9 = v 9 ∧ u.1 10 = v 10 ∧ u.1 31 = v 31 ∧ u.1 32 = v 32) (fun u => XW cy x0 x u.1 u.2) := by
  refine ctV_of (by decide) (Nat.le_of_ble_eq_true rfl) (fun p e s m below meth c A ls Q hx hb hml hts hown hnm hE hP hD hA hl ret => ?_)
  have hM_v : KV [41] v v := fun _ _ => rfl
  have hA_f : KF [27] f f := fun _ _ => rfl
  have hown : s.vm.findClass RX8 = some m.cls := hown
  have hS : va_S A s.heap s.heap [] := va_S.rf
  have hl : lv_has ls 1 [(0, .ref (x 35))] := hl
  refine lv_aload_n hx hb dX8_clear_0 rfl (lv_at hl 0 rfl) ?_
  refine lv_iconst (v := 0) hx hb dX8_clear_1 (by decide) ?_
  refine va_put (D := (dC, dI)) (ci := 8) (v := .int 0) (ty := tyX8 5) (C := RX8) (T := TX8) (N := 7) hx hb hts inB_8 tyX8 tyX8_ok nmX8 hown hE.1 hP hD hS 36 rfl rfl 5 (by decide) (hts _ k_472) (fun _ h9 => h9) rfl (tyX8_ok 5 (by decide)) rfl rfl (Nat.le_of_ble_eq_true rfl) dX8_clear_2 (fun H locs hP hD hS => ?_)
  have hP : va_P (dC, dI) vwCl (XW cy x0 x (upd v 41 0) f) H := hP
  have hD : va_D A (XW cy x0 x (upd v 41 0) f) := hD
  refine lv_aload_n hx hb dX8_clear_5 rfl (lv_at hl 0 rfl) ?_
  refine va_get (D := (dC, dI)) (ci := 8) (v := .ref (x 40)) (C := RX8) (T := TX8) (N := 7) hx hb hts inB_8 hown hE.1 hP 36 rfl rfl 6 (by decide) (hts _ k_474) (fun _ h9 => h9) rfl dX8_clear_6 ?_
  refine lv_iconst (v := (-1)) hx hb dX8_clear_9 (by decide) ?_
  refine cbSv (n := 2) (rest := []) hx hb hml hown hts hE hP hD hS hA (sX_J7_fill_53178_1 NF l dC dI cy x0 x (-1) (upd v 41 0) f (XI.upd (j := 41) (x := 0) hIv (by decide) (by decide)) ) k_464 k_465 k_113 k_466 (by decide +kernel) ⟨Nat.le_of_ble_eq_true rfl, Nat.le_of_ble_eq_true rfl⟩ (rfl) hl.1 rfl (Nat.le_of_ble_eq_true rfl) dX8_clear_10 (fun u H locs hw hP hD hS => ?_)
  obtain ⟨hG1, hw⟩ := hw
  obtain ⟨v2, f3⟩ := u
  obtain ⟨kV_v2, kF_f3, hIv2, hk0_v2, hk1_v2, hk7_v2, hk8_v2, hk9_v2, hk10_v2, hk31_v2, hk32_v2⟩ := hw
  have hM_v2 : KV [41] v2 v := KV.tr kV_v2 (KV.up (j := 41) (x := 0) hM_v rfl) rfl
  have hA_f3 : KF [27] f3 f := KF.tr kF_f3 hA_f rfl
  have hP : va_P (dC, dI) vwCl (XW cy x0 x v2 f3) H := hP
  have hD : va_D A (XW cy x0 x v2 f3) := hD
  have hq0_v2 : v2 0 = (v 0) := hk0_v2
  have hq1_v2 : v2 1 = (v 1) := hk1_v2
  have hq7_v2 : v2 7 = (v 7) := hk7_v2
  have hq8_v2 : v2 8 = (v 8) := hk8_v2
  have hq9_v2 : v2 9 = (v 9) := hk9_v2
  have hq10_v2 : v2 10 = (v 10) := hk10_v2
  have hq31_v2 : v2 31 = (v 31) := hk31_v2
  have hq32_v2 : v2 32 = (v 32) := hk32_v2
  exact ret (v2, f3) _ _ _ _ _ _ ⟨(gsX_X8_clear_1_q0 hG1), hM_v2, hA_f3, hIv2, hk0_v2, hk1_v2, hk7_v2, hk8_v2, hk9_v2, hk10_v2, hk31_v2, hk32_v2⟩ hP hD hS dX8_clear_13 (Nat.le_refl _) (Nat.le_refl _)
set_option maxHeartbeats 4000000 in
set_option maxRecDepth 100000 in
theorem sX_X10_regiment_1 (NF : Nat) (l : Launch) (dC : Nat → ClassId) (dI : Nat → Nat → Nat) (cy : Nat → ClassId) (x0 : Nat) (x : Nat → Nat)  (v : Nat → Int32) (f : Nat → Nat → Int32) (hIv : XI v)  : ctIS l (dC, dI) cy yX10_regiment cX10_regiment 2 .int 65 1616 0 0 ((Nat → Int32) × (Nat → Nat → Int32)) [.ref x0] (XW cy x0 x v f) (fun r u => gsX_X10_regiment_1 NF v f = (r, u) ∧ KV [1, 2, 3, 4, 5, 6, 7, 8, 9, 10, 11, 12, 13, 14, 15, 16, 17, 18, 19, 20, 21, 22, 23, 31, 32, 33, 34, 35, 36, 37, 38, 41] u.1 v ∧ KF [1, 2, 3, 4, 7, 8, 9, 10, 11, 12, 15, 17, 27] u.2 f ∧ XI u.1 ∧ u.1 0 = v 0 ∧ ((u.1 1).toInt = 0) ∧ ((gsX_X6_read_1 NF v f).1 = 1 ∨ ((∀ k, ([18, 31, 32, 33, 34, 35, 36, 0, 41, 20, 21, 22, 23] : List Nat).contains k = true → u.1 k = v k) ∧ ∀ k, ([9, 10, 11, 12, 23, 24, 25, 26, 15, 16, 17] : List Nat).contains k = true → u.2 k = f k))) (fun u => XW cy x0 x u.1 u.2) := by
  refine ctIS_of (by decide) (Nat.le_of_ble_eq_true rfl) (fun p e s m below meth c A ls Q hx hb hml hts hown hE hF hT hP hD hA hl ret => ?_)
  have hM_v : KV [1, 2, 3, 4, 5, 6, 7, 8, 9, 10, 11, 12, 13, 14, 15, 16, 17, 18, 19, 20, 21, 22, 23, 31, 32, 33, 34, 35, 36, 37, 38, 41] v v := fun _ _ => rfl
  have hA_f : KF [1, 2, 3, 4, 7, 8, 9, 10, 11, 12, 15, 17, 27] f f := fun _ _ => rfl
  have hown : s.vm.findClass RX10 = some m.cls := hown
  have hS : va_S A s.heap s.heap [] := va_S.rf
  have hl : lv_has ls 2 [(0, .ref x0)] := hl
  refine lv_aload_n hx hb dX10_regiment_0 rfl (lv_at hl 0 rfl) ?_
  refine va_get (D := (dC, dI)) (ci := 10) (v := .ref (x 2)) (C := RX10) (T := TX10) (N := 10) hx hb hts inB_10 hown hE.1 hP 0 rfl rfl 1 (by decide) (hts _ k_492) (fun _ h9 => h9) rfl dX10_regiment_1 ?_
  refine csVi (n := 0) (rest := []) hx hb hml hown hts hE hP hD hS hA hF hT (sX_X6_read_1 NF l dC dI cy x0 x  v f hIv ) k_542 k_543 k_544 k_103 k_545 (by decide +kernel) ⟨Nat.le_of_ble_eq_true rfl, Nat.le_of_ble_eq_true rfl⟩ 3 6 rfl rfl (rfl) hl.1 rfl (Nat.le_of_ble_eq_true rfl) dX10_regiment_4 (fun r1 u H locs hw hP hD hS => ?_)
  obtain ⟨hG2, hw⟩ := hw
  obtain ⟨v3, f4⟩ := u
  obtain ⟨kV_v3, kF_f4, hIv3, hk0_v3, hk1_v3, hw⟩ := hw
  have hM_v3 : KV [1, 2, 3, 4, 5, 6, 7, 8, 9, 10, 11, 12, 13, 14, 15, 16, 17, 18, 19, 20, 21, 22, 23, 31, 32, 33, 34, 35, 36, 37, 38, 41] v3 v := KV.tr kV_v3 hM_v rfl
  have hA_f4 : KF [1, 2, 3, 4, 7, 8, 9, 10, 11, 12, 15, 17, 27] f4 f := KF.tr kF_f4 hA_f rfl
  have hP : va_P (dC, dI) vwCl (XW cy x0 x v3 f4) H := hP
  have hD : va_D A (XW cy x0 x v3 f4) := hD
  have hq0_v3 : v3 0 = (v 0) := hk0_v3
  have hq1_v3 : v3 1 = (v 1) := hk1_v3
  rcases hw with ⟨g5⟩ | ⟨g5⟩
  · skip
    subst g5
    refine lv_istore_n (lv' := [(1, .int 1), (0, .ref x0)]) hx hb dX10_regiment_7 rfl hl (by decide) rfl (fun ls hl => ?_)
    refine lv_aload_n hx hb dX10_regiment_8 rfl (lv_at hl 1 rfl) ?_
    refine va_get (D := (dC, dI)) (ci := 10) (v := .ref (x 0)) (C := RX10) (T := TX10) (N := 10) hx hb hts inB_10 hown hE.1 hP 0 rfl rfl 0 (by decide) (hts _ k_491) (fun _ h9 => h9) rfl dX10_regiment_9 ?_
    refine lv_iconst (v := 0) hx hb dX10_regiment_12 (by decide) ?_
    refine va_putN (D := (dC, dI)) (ci := 9) (v := .int 0) (ty := tyX9 1) (C := RX9) (T := TX9) (N := 6) hx hb hts inB_9 tyX9 tyX9_ok nmX9 hown hE.1 hP hD hS 1 rfl rfl 1 (by decide) (va_Nw.use rfl (hE.2 _ k_138)) (fun _ h9 => h9) rfl (tyX9_ok 1 (by decide)) rfl rfl (Nat.le_of_ble_eq_true rfl) dX10_regiment_13 (fun H locs hP hD hS => ?_)
    have hP : va_P (dC, dI) vwCl (XW cy x0 x (upd v3 1 0) f4) H := hP
    have hD : va_D A (XW cy x0 x (upd v3 1 0) f4) := hD
    refine lv_iload_n hx hb dX10_regiment_16 rfl (lv_at hl 0 rfl) ?_
    refine lv_if_ne (tgt := 22) hx hb dX10_regiment_17 (by decide) (fun _ => ?_) (fun c0 => absurd c0 (by decide))
    refine lv_aload_n hx hb dX10_regiment_22 rfl (lv_at hl 1 rfl) ?_
    refine va_get (D := (dC, dI)) (ci := 10) (v := .ref (x 26)) (C := RX10) (T := TX10) (N := 10) hx hb hts inB_10 hown hE.1 hP 0 rfl rfl 2 (by decide) (hts _ k_493) (fun _ h9 => h9) rfl dX10_regiment_23 ?_
    refine lv_aload_n hx hb dX10_regiment_26 rfl (lv_at hl 1 rfl) ?_
    refine va_get (D := (dC, dI)) (ci := 10) (v := .ref (x 2)) (C := RX10) (T := TX10) (N := 10) hx hb hts inB_10 hown hE.1 hP 0 rfl rfl 1 (by decide) (hts _ k_492) (fun _ h9 => h9) rfl dX10_regiment_27 ?_
    refine va_getN (D := (dC, dI)) (ci := 6) (v := .ref (x 3)) (C := RX6) (T := TX6) (N := 7) hx hb hts inB_6 hown hE.1 hP 3 rfl rfl 1 (by decide) (va_Nw.use rfl (hE.2 _ k_267)) (fun _ h9 => h9) rfl dX10_regiment_30 ?_
    refine cbVv (n := 1) (rest := []) hx hb hml hown hts hE hP hD hS hA (sX_X7_copy_1 NF l dC dI cy x0 x  (upd v3 1 0) f4 (XI.upd (j := 1) (x := 0) hIv3 (by decide) (by decide)) ) k_767 k_768 k_769 k_104 k_770 (by decide +kernel) ⟨Nat.le_of_ble_eq_true rfl, Nat.le_of_ble_eq_true rfl⟩ 27 7 rfl rfl (rfl) hl.1 rfl (Nat.le_of_ble_eq_true rfl) dX10_regiment_33 (fun u H locs hw hP hD hS => ?_)
    obtain ⟨hG6, hw⟩ := hw
    obtain ⟨v7, f8⟩ := u
    obtain ⟨kV_v7, kF_f8, hIv7, hk0_v7, hk1_v7, hk7_v7, hk8_v7⟩ := hw
    have hM_v7 : KV [1, 2, 3, 4, 5, 6, 7, 8, 9, 10, 11, 12, 13, 14, 15, 16, 17, 18, 19, 20, 21, 22, 23, 31, 32, 33, 34, 35, 36, 37, 38, 41] v7 v := KV.tr kV_v7 (KV.up (j := 1) (x := 0) hM_v3 rfl) rfl
    have hA_f8 : KF [1, 2, 3, 4, 7, 8, 9, 10, 11, 12, 15, 17, 27] f8 f := KF.tr kF_f8 hA_f4 rfl
    have hP : va_P (dC, dI) vwCl (XW cy x0 x v7 f8) H := hP
    have hD : va_D A (XW cy x0 x v7 f8) := hD
    have hq0_v7 : v7 0 = (v 0) := hk0_v7.trans hq0_v3
    have hq1_v7 : v7 1 = 0 := hk1_v7
    have hq7_v7 : v7 7 = (v3 7) := hk7_v7
    have hq8_v7 : v7 8 = (v3 8) := hk8_v7
    refine lv_aload_n hx hb dX10_regiment_36 rfl (lv_at hl 1 rfl) ?_
    refine va_get (D := (dC, dI)) (ci := 10) (v := .ref (x 21)) (C := RX10) (T := TX10) (N := 10) hx hb hts inB_10 hown hE.1 hP 0 rfl rfl 3 (by decide) (hts _ k_494) (fun _ h9 => h9) rfl dX10_regiment_37 ?_
    refine cbVv (n := 0) (rest := []) hx hb hml hown hts hE hP hD hS hA (sX_X1_muster_1 NF l dC dI cy x0 x  v7 f8 hIv7 ) k_777 k_299 k_300 k_106 k_301 (by decide +kernel) ⟨Nat.le_of_ble_eq_true rfl, Nat.le_of_ble_eq_true rfl⟩ 22 1 rfl rfl (rfl) hl.1 rfl (Nat.le_of_ble_eq_true rfl) dX10_regiment_40 (fun u H locs hw hP hD hS => ?_)
    obtain ⟨hG9, hw⟩ := hw
    obtain ⟨v10, f11⟩ := u
    obtain ⟨kV_v10, kF_f11, hIv10, hk0_v10, hk1_v10, hk7_v10, hk8_v10, hk9_v10, hk10_v10, hk31_v10, hk32_v10⟩ := hw
    have hM_v10 : KV [1, 2, 3, 4, 5, 6, 7, 8, 9, 10, 11, 12, 13, 14, 15, 16, 17, 18, 19, 20, 21, 22, 23, 31, 32, 33, 34, 35, 36, 37, 38, 41] v10 v := KV.tr kV_v10 hM_v7 rfl
    have hA_f11 : KF [1, 2, 3, 4, 7, 8, 9, 10, 11, 12, 15, 17, 27] f11 f := KF.tr kF_f11 hA_f8 rfl
    have hP : va_P (dC, dI) vwCl (XW cy x0 x v10 f11) H := hP
    have hD : va_D A (XW cy x0 x v10 f11) := hD
    have hq0_v10 : v10 0 = (v 0) := hk0_v10.trans hq0_v7
    have hq1_v10 : v10 1 = 0 := hk1_v10.trans hq1_v7
    have hq7_v10 : v10 7 = (v3 7) := hk7_v10.trans hq7_v7
    have hq8_v10 : v10 8 = (v3 8) := hk8_v10.trans hq8_v7
    have hq9_v10 : v10 9 = (v7 9) := hk9_v10
    have hq10_v10 : v10 10 = (v7 10) := hk10_v10
    have hq31_v10 : v10 31 = (v7 31) := hk31_v10
    have hq32_v10 : v10 32 = (v7 32) := hk32_v10
    refine lv_aload_n hx hb dX10_regiment_43 rfl (lv_at hl 1 rfl) ?_
    refine va_get (D := (dC, dI)) (ci := 10) (v := .ref (x 20)) (C := RX10) (T := TX10) (N := 10) hx hb hts inB_10 hown hE.1 hP 0 rfl rfl 4 (by decide) (hts _ k_495) (fun _ h9 => h9) rfl dX10_regiment_44 ?_
    refine cbVv (n := 0) (rest := []) hx hb hml hown hts hE hP hD hS hA (sX_X5_forgetAll_1 NF l dC dI cy x0 x  v10 f11 hIv10 ) k_778 k_779 k_780 k_107 k_781 (by decide +kernel) ⟨Nat.le_of_ble_eq_true rfl, Nat.le_of_ble_eq_true rfl⟩ 21 5 rfl rfl (rfl) hl.1 rfl (Nat.le_of_ble_eq_true rfl) dX10_regiment_47 (fun u H locs hw hP hD hS => ?_)
    obtain ⟨hG12, hw⟩ := hw
    obtain ⟨v13, f14⟩ := u
    obtain ⟨kV_v13, kF_f14, hIv13, hk0_v13, hk1_v13, hk7_v13, hk8_v13, hk9_v13, hk10_v13, hk31_v13, hk32_v13⟩ := hw
    have hM_v13 : KV [1, 2, 3, 4, 5, 6, 7, 8, 9, 10, 11, 12, 13, 14, 15, 16, 17, 18, 19, 20, 21, 22, 23, 31, 32, 33, 34, 35, 36, 37, 38, 41] v13 v := KV.tr kV_v13 hM_v10 rfl
    have hA_f14 : KF [1, 2, 3, 4, 7, 8, 9, 10, 11, 12, 15, 17, 27] f14 f := KF.tr kF_f14 hA_f11 rfl
    have hP : va_P (dC, dI) vwCl (XW cy x0 x v13 f14) H := hP
    have hD : va_D A (XW cy x0 x v13 f14) := hD
    have hq0_v13 : v13 0 = (v 0) := hk0_v13.trans hq0_v10
    have hq1_v13 : v13 1 = 0 := hk1_v13.trans hq1_v10
    have hq7_v13 : v13 7 = (v3 7) := hk7_v13.trans hq7_v10
    have hq8_v13 : v13 8 = (v3 8) := hk8_v13.trans hq8_v10
    have hq9_v13 : v13 9 = (v7 9) := hk9_v13.trans hq9_v10
    have hq10_v13 : v13 10 = (v7 10) := hk10_v13.trans hq10_v10
    have hq31_v13 : v13 31 = (v7 31) := hk31_v13.trans hq31_v10
    have hq32_v13 : v13 32 = (v7 32) := hk32_v13.trans hq32_v10
    refine lv_aload_n hx hb dX10_regiment_50 rfl (lv_at hl 1 rfl) ?_
    refine va_get (D := (dC, dI)) (ci := 10) (v := .ref (x 31)) (C := RX10) (T := TX10) (N := 10) hx hb hts inB_10 hown hE.1 hP 0 rfl rfl 7 (by decide) (hts _ k_498) (fun _ h9 => h9) rfl dX10_regiment_51 ?_
    refine cbVv (n := 0) (rest := []) hx hb hml hown hts hE hP hD hS hA (sX_X0_clear_1 NF l dC dI cy x0 x  v13 f14 hIv13 ) k_786 k_787 k_788 k_111 k_789 (by decide +kernel) ⟨Nat.le_of_ble_eq_true rfl, Nat.le_of_ble_eq_true rfl⟩ 32 0 rfl rfl (rfl) hl.1 rfl (Nat.le_of_ble_eq_true rfl) dX10_regiment_54 (fun u H locs hw hP hD hS => ?_)
    obtain ⟨hG15, hw⟩ := hw
    obtain ⟨v16, f17⟩ := u
    obtain ⟨kV_v16, kF_f17, hIv16, hk0_v16, hk1_v16, hk7_v16, hk8_v16, hk9_v16, hk10_v16, hk31_v16, hk32_v16⟩ := hw
    have hM_v16 : KV [1, 2, 3, 4, 5, 6, 7, 8, 9, 10, 11, 12, 13, 14, 15, 16, 17, 18, 19, 20, 21, 22, 23, 31, 32, 33, 34, 35, 36, 37, 38, 41] v16 v := KV.tr kV_v16 hM_v13 rfl
    have hA_f17 : KF [1, 2, 3, 4, 7, 8, 9, 10, 11, 12, 15, 17, 27] f17 f := KF.tr kF_f17 hA_f14 rfl
    have hP : va_P (dC, dI) vwCl (XW cy x0 x v16 f17) H := hP
    have hD : va_D A (XW cy x0 x v16 f17) := hD
    have hq0_v16 : v16 0 = (v 0) := hk0_v16.trans hq0_v13
    have hq1_v16 : v16 1 = 0 := hk1_v16.trans hq1_v13
    have hq7_v16 : v16 7 = (v3 7) := hk7_v16.trans hq7_v13
    have hq8_v16 : v16 8 = (v3 8) := hk8_v16.trans hq8_v13
    have hq9_v16 : v16 9 = (v7 9) := hk9_v16.trans hq9_v13
    have hq10_v16 : v16 10 = (v7 10) := hk10_v16.trans hq10_v13
    have hq31_v16 : v16 31 = (v7 31) := hk31_v16.trans hq31_v13
    have hq32_v16 : v16 32 = (v7 32) := hk32_v16.trans hq32_v13
    refine lv_aload_n hx hb dX10_regiment_57 rfl (lv_at hl 1 rfl) ?_
    refine va_get (D := (dC, dI)) (ci := 10) (v := .ref (x 35)) (C := RX10) (T := TX10) (N := 10) hx hb hts inB_10 hown hE.1 hP 0 rfl rfl 8 (by decide) (hts _ k_499) (fun _ h9 => h9) rfl dX10_regiment_58 ?_
    refine cbVv (n := 0) (rest := []) hx hb hml hown hts hE hP hD hS hA (sX_X8_clear_1 NF l dC dI cy x0 x  v16 f17 hIv16 ) k_790 k_791 k_792 k_112 k_793 (by decide +kernel) ⟨Nat.le_of_ble_eq_true rfl, Nat.le_of_ble_eq_true rfl⟩ 36 8 rfl rfl (rfl) hl.1 rfl (Nat.le_of_ble_eq_true rfl) dX10_regiment_61 (fun u H locs hw hP hD hS => ?_)
    obtain ⟨hG18, hw⟩ := hw
    obtain ⟨v19, f20⟩ := u
    obtain ⟨kV_v19, kF_f20, hIv19, hk0_v19, hk1_v19, hk7_v19, hk8_v19, hk9_v19, hk10_v19, hk31_v19, hk32_v19⟩ := hw
    have hM_v19 : KV [1, 2, 3, 4, 5, 6, 7, 8, 9, 10, 11, 12, 13, 14, 15, 16, 17, 18, 19, 20, 21, 22, 23, 31, 32, 33, 34, 35, 36, 37, 38, 41] v19 v := KV.tr kV_v19 hM_v16 rfl
    have hA_f20 : KF [1, 2, 3, 4, 7, 8, 9, 10, 11, 12, 15, 17, 27] f20 f := KF.tr kF_f20 hA_f17 rfl
    have hP : va_P (dC, dI) vwCl (XW cy x0 x v19 f20) H := hP
    have hD : va_D A (XW cy x0 x v19 f20) := hD
    have hq0_v19 : v19 0 = (v 0) := hk0_v19.trans hq0_v16
    have hq1_v19 : v19 1 = 0 := hk1_v19.trans hq1_v16
    have hq7_v19 : v19 7 = (v3 7) := hk7_v19.trans hq7_v16
    have hq8_v19 : v19 8 = (v3 8) := hk8_v19.trans hq8_v16
    have hq9_v19 : v19 9 = (v7 9) := hk9_v19.trans hq9_v16
    have hq10_v19 : v19 10 = (v7 10) := hk10_v19.trans hq10_v16
    have hq31_v19 : v19 31 = (v7 31) := hk31_v19.trans hq31_v16
    have hq32_v19 : v19 32 = (v7 32) := hk32_v19.trans hq32_v16
    refine lv_aload_n hx hb dX10_regiment_64 rfl (lv_at hl 1 rfl) ?_
    refine va_get (D := (dC, dI)) (ci := 10) (v := .ref (x 26)) (C := RX10) (T := TX10) (N := 10) hx hb hts inB_10 hown hE.1 hP 0 rfl rfl 2 (by decide) (hts _ k_493) (fun _ h9 => h9) rfl dX10_regiment_65 ?_
    refine va_getN (D := (dC, dI)) (ci := 7) (v := .int (v19 31)) (C := RX7) (T := TX7) (N := 10) hx hb hts inB_7 hown hE.1 hP 27 rfl rfl 3 (by decide) (va_Nw.use rfl (hE.2 _ k_214)) (fun _ h9 => h9) rfl dX10_regiment_68 ?_
    refine tI (y := (v7 31)) hq31_v19 ?_
    have b31_v7 : 0 ≤ (v7 31).toInt ∧ (v7 31).toInt ≤ 6 := XI.b hIv7 31 (by decide)
    exact ret (v7 31) (v19, f20) _ _ _ _ _ _ rfl ⟨(gsX_X10_regiment_1_q0 hG2 hG6 hG9 hG12 hG15 hG18), hM_v19, hA_f20, hIv19, (hk0_v19.trans (hk0_v16.trans (hk0_v13.trans (hk0_v10.trans (hk0_v7.trans hk0_v3))))), (by show (v19 1).toInt = 0; rw [hq1_v19]; decide), (Or.inl (show (gsX_X6_read_1 NF v f).1 = 1 from congrArg (fun z => z.1) hG2))⟩ hP hD hS dX10_regiment_71 (Nat.le_refl _) (Nat.le_refl _)
  · skip
    subst g5
    refine lv_istore_n (lv' := [(1, .int 0), (0, .ref x0)]) hx hb dX10_regiment_7 rfl hl (by decide) rfl (fun ls hl => ?_)
    refine lv_aload_n hx hb dX10_regiment_8 rfl (lv_at hl 1 rfl) ?_
    refine va_get (D := (dC, dI)) (ci := 10) (v := .ref (x 0)) (C := RX10) (T := TX10) (N := 10) hx hb hts inB_10 hown hE.1 hP 0 rfl rfl 0 (by decide) (hts _ k_491) (fun _ h9 => h9) rfl dX10_regiment_9 ?_
    refine lv_iconst (v := 0) hx hb dX10_regiment_12 (by decide) ?_
    refine va_putN (D := (dC, dI)) (ci := 9) (v := .int 0) (ty := tyX9 1) (C := RX9) (T := TX9) (N := 6) hx hb hts inB_9 tyX9 tyX9_ok nmX9 hown hE.1 hP hD hS 1 rfl rfl 1 (by decide) (va_Nw.use rfl (hE.2 _ k_138)) (fun _ h9 => h9) rfl (tyX9_ok 1 (by decide)) rfl rfl (Nat.le_of_ble_eq_true rfl) dX10_regiment_13 (fun H locs hP hD hS => ?_)
    have hP : va_P (dC, dI) vwCl (XW cy x0 x (upd v3 1 0) f4) H := hP
    have hD : va_D A (XW cy x0 x (upd v3 1 0) f4) := hD
    refine lv_iload_n hx hb dX10_regiment_16 rfl (lv_at hl 0 rfl) ?_
    refine lv_if_ne (tgt := 22) hx hb dX10_regiment_17 (by decide) (fun c0 => absurd (by decide) c0) (fun _ => ?_)
    refine lv_iconst (v := (-1)) hx hb dX10_regiment_20 (by decide) ?_
    exact ret (-1) ((upd v3 1 0), f4) _ _ _ _ _ _ rfl ⟨(gsX_X10_regiment_1_q1 hG2), (KV.up (j := 1) (x := 0) hM_v3 rfl), hA_f4, (XI.upd (j := 1) (x := 0) hIv3 (by decide) (by decide)), hk0_v3, (by have q0 : (0 : Int32).toInt = 0 := (by decide); show (0 : Int32).toInt = 0; decide), (Or.inr ⟨KV.use (KV.up (j := 1) (x := 0) (KV.tr (M := [1, 2, 3, 4, 5, 6, 7, 8, 9, 10, 11, 12, 13, 14, 15, 16, 17]) kV_v3 (fun _ _ => rfl) rfl) rfl) rfl, KF.use kF_f4 rfl⟩)⟩ hP hD hS dX10_regiment_21 (Nat.le_refl _) (Nat.le_refl _)
set_option maxHeartbeats 4000000 in
set_option maxRecDepth 100000 in
theorem sX_X8_tell_1 (NF : Nat) (l : Launch) (dC : Nat → ClassId) (dI : Nat → Nat → Nat) (cy : Nat → ClassId) (x0 : Nat) (x : Nat → Nat) (p1 : Int32) (p2 : Int32) (p3 : Int32) (v : Nat → Int32) (f : Nat → Nat → Int32) (hIv : XI v)  : ctI l (dC, dI) cy yX8_tell cX8_tell 4 .int 1 60 0 0 ((Nat → Int32) × (Nat → Nat → Int32)) [.ref (x 35), .int p1, .int p2, .int p3] (XW cy x0 x v f) (fun r u => gsX_X8_tell_1 NF p1 p2 p3 v f = (r, u) ∧ KV [41] u.1 v ∧ KF [23, 24, 25, 26] u.2 f ∧ XI u.1 ∧ u.1 0 = v 0 ∧ u.1 1 = v 1 ∧ u.1 7 = v 7 ∧ u.1 8 = v 8 ∧ u.1 9 = v 9 ∧ u.1 10 = v 10 ∧ u.1 31 = v 31 ∧ u.1 32 = v 32) (fun u => XW cy x0 x u.1 u.2) := by
  refine ctI_of (by decide) (Nat.le_of_ble_eq_true rfl) (fun p e s m below meth c A ls Q hx hb hml hts hown hE hP hD hA hl ret => ?_)
  have hM_v : KV [41] v v := fun _ _ => rfl
  have hA_f : KF [23, 24, 25, 26] f f := fun _ _ => rfl
  have hown : s.vm.findClass RX8 = some m.cls := hown
  have hS : va_S A s.heap s.heap [] := va_S.rf
  have hl : lv_has ls 4 [(0, .ref (x 35)), (1, .int p1), (2, .int p2), (3, .int p3)] := hl
  refine lv_iload_n hx hb dX8_tell_0 rfl (lv_at hl 1 rfl) ?_
  refine lv_if_lt (tgt := 19) hx hb dX8_tell_1 (by decide) (fun c1 => ?_) (fun c1 => ?_)
  · skip
    have zc1 : p1.toInt < 0 := by rw [fa_lt, show (0 : Int32).toInt = 0 from by decide] at c1; exact c1
    refine lv_iconst (v := (-1)) hx hb dX8_tell_19 (by decide) ?_
    exact ret (-1) (v, f) _ _ _ _ _ _ rfl ⟨(gsX_X8_tell_1_q0 c1), hM_v, hA_f, hIv, rfl, rfl, rfl, rfl, rfl, rfl, rfl, rfl⟩ hP hD hS dX8_tell_20 (Nat.le_refl _) (Nat.le_refl _)
  · skip
    have zc1 : ¬ (p1.toInt < 0) := by rw [fa_lt, show (0 : Int32).toInt = 0 from by decide] at c1; exact c1
    refine lv_iload_n hx hb dX8_tell_4 rfl (lv_at hl 1 rfl) ?_
    refine lv_bipush (v := 20) hx hb dX8_tell_5 (by decide) ?_
    refine lv_icmp_gt (tgt := 19) hx hb dX8_tell_7 (by decide) (fun c2 => ?_) (fun c2 => ?_)
    · skip
      have zc2 : 20 < p1.toInt := by rw [fa_lt, show (20 : Int32).toInt = 20 from by decide] at c2; exact c2
      refine lv_iconst (v := (-1)) hx hb dX8_tell_19 (by decide) ?_
      exact ret (-1) (v, f) _ _ _ _ _ _ rfl ⟨(gsX_X8_tell_1_q1 c1 c2), hM_v, hA_f, hIv, rfl, rfl, rfl, rfl, rfl, rfl, rfl, rfl⟩ hP hD hS dX8_tell_20 (Nat.le_refl _) (Nat.le_refl _)
    · skip
      have zc2 : ¬ (20 < p1.toInt) := by rw [fa_lt, show (20 : Int32).toInt = 20 from by decide] at c2; exact c2
      refine lv_aload_n hx hb dX8_tell_10 rfl (lv_at hl 0 rfl) ?_
      refine va_get (D := (dC, dI)) (ci := 8) (v := .int (v 41)) (C := RX8) (T := TX8) (N := 7) hx hb hts inB_8 hown hE.1 hP 36 rfl rfl 5 (by decide) (hts _ k_472) (fun _ h9 => h9) rfl dX8_tell_11 ?_
      have b41_v : 0 ≤ (v 41).toInt ∧ (v 41).toInt ≤ 30 := XI.b hIv 41 (by decide)
      refine lv_bipush (v := 30) hx hb dX8_tell_14 (by decide) ?_
      refine lv_icmp_lt (tgt := 21) hx hb dX8_tell_16 (by decide) (fun c3 => ?_) (fun c3 => ?_)
      · skip
        have zc3 : (v 41).toInt < 30 := by rw [fa_lt, show (30 : Int32).toInt = 30 from by decide] at c3; exact c3
        refine lv_aload_n hx hb dX8_tell_21 rfl (lv_at hl 0 rfl) ?_
        refine va_get (D := (dC, dI)) (ci := 8) (v := .ref (x 36)) (C := RX8) (T := TX8) (N := 7) hx hb hts inB_8 hown hE.1 hP 36 rfl rfl 1 (by decide) (hts _ k_468) (fun _ h9 => h9) rfl dX8_tell_22 ?_
        refine lv_aload_n hx hb dX8_tell_25 rfl (lv_at hl 0 rfl) ?_
        refine va_get (D := (dC, dI)) (ci := 8) (v := .int (v 41)) (C := RX8) (T := TX8) (N := 7) hx hb hts inB_8 hown hE.1 hP 36 rfl rfl 5 (by decide) (hts _ k_472) (fun _ h9 => h9) rfl dX8_tell_26 ?_
        refine lv_iload_n hx hb dX8_tell_29 rfl (lv_at hl 1 rfl) ?_
        refine stI hx hb hE hP hD hS 37 rfl (vp_in_iff.mpr ⟨by omega, by omega⟩) rfl dX8_tell_30 (fun H locs hP hD hS => ?_)
        obtain ⟨f4, ef4, hP, hD⟩ : ∃ fz9, fz9 = upd2 f 23 (upd (f 23) (v 41).toNatClampNeg p1) ∧ va_P (dC, dI) vwCl (XW cy x0 x v fz9) H ∧ va_D A (XW cy x0 x v fz9) := ⟨_, rfl, hP, hD⟩
        have hA_f4 : KF [23, 24, 25, 26] f4 f := by rw [ef4]; exact KF.up hA_f rfl
        refine lv_aload_n hx hb dX8_tell_31 rfl (lv_at hl 0 rfl) ?_
        refine va_get (D := (dC, dI)) (ci := 8) (v := .ref (x 37)) (C := RX8) (T := TX8) (N := 7) hx hb hts inB_8 hown hE.1 hP 36 rfl rfl 2 (by decide) (hts _ k_469) (fun _ h9 => h9) rfl dX8_tell_32 ?_
        refine lv_aload_n hx hb dX8_tell_35 rfl (lv_at hl 0 rfl) ?_
        refine va_get (D := (dC, dI)) (ci := 8) (v := .int (v 41)) (C := RX8) (T := TX8) (N := 7) hx hb hts inB_8 hown hE.1 hP 36 rfl rfl 5 (by decide) (hts _ k_472) (fun _ h9 => h9) rfl dX8_tell_36 ?_
        refine lv_iload_n hx hb dX8_tell_39 rfl (lv_at hl 2 rfl) ?_
        refine stZ hx hb hE hP hD hS 38 rfl (vp_in_iff.mpr ⟨by omega, by omega⟩) rfl dX8_tell_40 (fun H locs hP hD hS => ?_)
        obtain ⟨f5, ef5, hP, hD⟩ : ∃ fz9, fz9 = upd2 f4 24 (upd (f4 24) (v 41).toNatClampNeg (vp_nar .boolean p2)) ∧ va_P (dC, dI) vwCl (XW cy x0 x v fz9) H ∧ va_D A (XW cy x0 x v fz9) := ⟨_, rfl, hP, hD⟩
        have hA_f5 : KF [23, 24, 25, 26] f5 f := by rw [ef5]; exact KF.up hA_f4 rfl
        refine lv_aload_n hx hb dX8_tell_41 rfl (lv_at hl 0 rfl) ?_
        refine va_get (D := (dC, dI)) (ci := 8) (v := .ref (x 38)) (C := RX8) (T := TX8) (N := 7) hx hb hts inB_8 hown hE.1 hP 36 rfl rfl 3 (by decide) (hts _ k_470) (fun _ h9 => h9) rfl dX8_tell_42 ?_
        refine lv_aload_n hx hb dX8_tell_45 rfl (lv_at hl 0 rfl) ?_
        refine va_get (D := (dC, dI)) (ci := 8) (v := .int (v 41)) (C := RX8) (T := TX8) (N := 7) hx hb hts inB_8 hown hE.1 hP 36 rfl rfl 5 (by decide) (hts _ k_472) (fun _ h9 => h9) rfl dX8_tell_46 ?_
        refine lv_iload_n hx hb dX8_tell_49 rfl (lv_at hl 3 rfl) ?_
        refine stI hx hb hE hP hD hS 39 rfl (vp_in_iff.mpr ⟨by omega, by omega⟩) rfl dX8_tell_50 (fun H locs hP hD hS => ?_)
        obtain ⟨f6, ef6, hP, hD⟩ : ∃ fz9, fz9 = upd2 f5 25 (upd (f5 25) (v 41).toNatClampNeg p3) ∧ va_P (dC, dI) vwCl (XW cy x0 x v fz9) H ∧ va_D A (XW cy x0 x v fz9) := ⟨_, rfl, hP, hD⟩
        have hA_f6 : KF [23, 24, 25, 26] f6 f := by rw [ef6]; exact KF.up hA_f5 rfl
        refine lv_aload_n hx hb dX8_tell_51 rfl (lv_at hl 0 rfl) ?_
        refine va_get (D := (dC, dI)) (ci := 8) (v := .ref (x 39)) (C := RX8) (T := TX8) (N := 7) hx hb hts inB_8 hown hE.1 hP 36 rfl rfl 4 (by decide) (hts _ k_471) (fun _ h9 => h9) rfl dX8_tell_52 ?_
        refine lv_aload_n hx hb dX8_tell_55 rfl (lv_at hl 0 rfl) ?_
        refine va_get (D := (dC, dI)) (ci := 8) (v := .int (v 41)) (C := RX8) (T := TX8) (N := 7) hx hb hts inB_8 hown hE.1 hP 36 rfl rfl 5 (by decide) (hts _ k_472) (fun _ h9 => h9) rfl dX8_tell_56 ?_
        refine lv_iconst (v := (-1)) hx hb dX8_tell_59 (by decide) ?_
        refine stI hx hb hE hP hD hS 40 rfl (vp_in_iff.mpr ⟨by omega, by omega⟩) rfl dX8_tell_60 (fun H locs hP hD hS => ?_)
        obtain ⟨f7, ef7, hP, hD⟩ : ∃ fz9, fz9 = upd2 f6 26 (upd (f6 26) (v 41).toNatClampNeg (-1)) ∧ va_P (dC, dI) vwCl (XW cy x0 x v fz9) H ∧ va_D A (XW cy x0 x v fz9) := ⟨_, rfl, hP, hD⟩
        have hA_f7 : KF [23, 24, 25, 26] f7 f := by rw [ef7]; exact KF.up hA_f6 rfl
        refine lv_aload_n hx hb dX8_tell_61 rfl (lv_at hl 0 rfl) ?_
        refine lv_dup hx hb dX8_tell_62 rfl ?_
        refine va_get (D := (dC, dI)) (ci := 8) (v := .int (v 41)) (C := RX8) (T := TX8) (N := 7) hx hb hts inB_8 hown hE.1 hP 36 rfl rfl 5 (by decide) (hts _ k_472) (fun _ h9 => h9) rfl dX8_tell_63 ?_
        refine lv_iconst (v := 1) hx hb dX8_tell_66 (by decide) ?_
        refine lv_iadd hx hb dX8_tell_67 ?_
        refine lv_topi (fun t8 et8 => ?_)
        have rg9 := fb_rng (v 41)
        have zt8 : t8.toInt = (v 41).toInt + 1 := by rw [et8]; exact add_i rfl (by decide) (by omega) (by omega)
        refine va_put (D := (dC, dI)) (ci := 8) (v := .int t8) (ty := tyX8 5) (C := RX8) (T := TX8) (N := 7) hx hb hts inB_8 tyX8 tyX8_ok nmX8 hown hE.1 hP hD hS 36 rfl rfl 5 (by decide) (hts _ k_472) (fun _ h9 => h9) rfl (tyX8_ok 5 (by decide)) rfl rfl (Nat.le_of_ble_eq_true rfl) dX8_tell_68 (fun H locs hP hD hS => ?_)
        have hP : va_P (dC, dI) vwCl (XW cy x0 x (upd v 41 t8) f7) H := hP
        have hD : va_D A (XW cy x0 x (upd v 41 t8) f7) := hD
        refine lv_aload_n hx hb dX8_tell_71 rfl (lv_at hl 0 rfl) ?_
        refine va_get (D := (dC, dI)) (ci := 8) (v := .int t8) (C := RX8) (T := TX8) (N := 7) hx hb hts inB_8 hown hE.1 hP 36 rfl rfl 5 (by decide) (hts _ k_472) (fun _ h9 => h9) rfl dX8_tell_72 ?_
        refine lv_iconst (v := 1) hx hb dX8_tell_75 (by decide) ?_
        refine lv_isub hx hb dX8_tell_76 ?_
        refine lv_topi (fun t10 et10 => ?_)
        have rg11 := fb_rng t8
        have zt10 : t10.toInt = t8.toInt - 1 := by rw [et10]; exact sub_i rfl (by decide) (by omega) (by omega)
        exact ret t10 ((upd v 41 t8), f7) _ _ _ _ _ _ rfl ⟨(gsX_X8_tell_1_q2 c1 c2 c3 ef4 ef5 ef6 ef7 et8 et10), (KV.up (j := 41) (x := t8) hM_v rfl), hA_f7, (XI.upd (j := 41) (x := t8) hIv (show (0 : Int) ≤ t8.toInt by omega) (show t8.toInt ≤ (30 : Int) by omega)), rfl, rfl, rfl, rfl, rfl, rfl, rfl, rfl⟩ hP hD hS dX8_tell_77 (Nat.le_refl _) (Nat.le_refl _)
      · skip
        have zc3 : ¬ ((v 41).toInt < 30) := by rw [fa_lt, show (30 : Int32).toInt = 30 from by decide] at c3; exact c3
        refine lv_iconst (v := (-1)) hx hb dX8_tell_19 (by decide) ?_
        exact ret (-1) (v, f) _ _ _ _ _ _ rfl ⟨(gsX_X8_tell_1_q3 c1 c2 c3), hM_v, hA_f, hIv, rfl, rfl, rfl, rfl, rfl, rfl, rfl, rfl⟩ hP hD hS dX8_tell_20 (Nat.le_refl _) (Nat.le_refl _)
set_option maxHeartbeats 4000000 in
set_option maxRecDepth 100000 in
theorem sX_X10_seen_1 (NF : Nat) (l : Launch) (dC : Nat → ClassId) (dI : Nat → Nat → Nat) (cy : Nat → ClassId) (x0 : Nat) (x : Nat → Nat) (p1 : Int32) (p2 : Int32) (v : Nat → Int32) (f : Nat → Nat → Int32) (hIv : XI v)  : ctI l (dC, dI) cy yX10_seen cX10_seen 3 .int 2 83 0 0 ((Nat → Int32) × (Nat → Nat → Int32)) [.ref x0, .int p1, .int p2] (XW cy x0 x v f) (fun r u => gsX_X10_seen_1 NF p1 p2 v f = (r, u) ∧ KV [41] u.1 v ∧ KF [23, 24, 25, 26] u.2 f ∧ XI u.1 ∧ u.1 0 = v 0 ∧ u.1 1 = v 1 ∧ u.1 7 = v 7 ∧ u.1 8 = v 8 ∧ u.1 9 = v 9 ∧ u.1 10 = v 10 ∧ u.1 31 = v 31 ∧ u.1 32 = v 32) (fun u => XW cy x0 x u.1 u.2) := by
  refine ctI_of (by decide) (Nat.le_of_ble_eq_true rfl) (fun p e s m below meth c A ls Q hx hb hml hts hown hE hP hD hA hl ret => ?_)
  have hM_v : KV [41] v v := fun _ _ => rfl
  have hA_f : KF [23, 24, 25, 26] f f := fun _ _ => rfl
  have hown : s.vm.findClass RX10 = some m.cls := hown
  have hS : va_S A s.heap s.heap [] := va_S.rf
  have hl : lv_has ls 3 [(0, .ref x0), (1, .int p1), (2, .int p2)] := hl
  refine lv_aload_n hx hb dX10_seen_0 rfl (lv_at hl 0 rfl) ?_
  refine va_get (D := (dC, dI)) (ci := 10) (v := .ref (x 26)) (C := RX10) (T := TX10) (N := 10) hx hb hts inB_10 hown hE.1 hP 0 rfl rfl 2 (by decide) (hts _ k_493) (fun _ h9 => h9) rfl dX10_seen_1 ?_
  refine va_getN (D := (dC, dI)) (ci := 7) (v := .int (v 31)) (C := RX7) (T := TX7) (N := 10) hx hb hts inB_7 hown hE.1 hP 27 rfl rfl 3 (by decide) (va_Nw.use rfl (hE.2 _ k_214)) (fun _ h9 => h9) rfl dX10_seen_4 ?_
  have b31_v : 0 ≤ (v 31).toInt ∧ (v 31).toInt ≤ 6 := XI.b hIv 31 (by decide)
  refine lv_if_eq (tgt := 20) hx hb dX10_seen_7 (by decide) (fun c1 => ?_) (fun c1 => ?_)
  · skip
    have zc1 : (v 31).toInt = 0 := by rw [fa_eq, show (0 : Int32).toInt = 0 from by decide] at c1; exact c1
    refine lv_iconst (v := (-1)) hx hb dX10_seen_20 (by decide) ?_
    exact ret (-1) (v, f) _ _ _ _ _ _ rfl ⟨(gsX_X10_seen_1_q0 c1), hM_v, hA_f, hIv, rfl, rfl, rfl, rfl, rfl, rfl, rfl, rfl⟩ hP hD hS dX10_seen_21 (Nat.le_refl _) (Nat.le_refl _)
  · skip
    have zc1 : ¬ ((v 31).toInt = 0) := by rw [fa_eq, show (0 : Int32).toInt = 0 from by decide] at c1; exact c1
    refine lv_aload_n hx hb dX10_seen_10 rfl (lv_at hl 0 rfl) ?_
    refine va_get (D := (dC, dI)) (ci := 10) (v := .ref (x 26)) (C := RX10) (T := TX10) (N := 10) hx hb hts inB_10 hown hE.1 hP 0 rfl rfl 2 (by decide) (hts _ k_493) (fun _ h9 => h9) rfl dX10_seen_11 ?_
    refine va_getN (D := (dC, dI)) (ci := 7) (v := .int (v 32)) (C := RX7) (T := TX7) (N := 10) hx hb hts inB_7 hown hE.1 hP 27 rfl rfl 4 (by decide) (va_Nw.use rfl (hE.2 _ k_227)) (fun _ h9 => h9) rfl dX10_seen_14 ?_
    have b32_v : 0 ≤ (v 32).toInt ∧ (v 32).toInt ≤ 6 := XI.b hIv 32 (by decide)
    refine lv_if_ne (tgt := 22) hx hb dX10_seen_17 (by decide) (fun c2 => ?_) (fun c2 => ?_)
    · skip
      have zc2 : ¬ ((v 32).toInt = 0) := by rw [fa_eq, show (0 : Int32).toInt = 0 from by decide] at c2; exact c2
      refine lv_aload_n hx hb dX10_seen_22 rfl (lv_at hl 0 rfl) ?_
      refine va_get (D := (dC, dI)) (ci := 10) (v := .ref (x 35)) (C := RX10) (T := TX10) (N := 10) hx hb hts inB_10 hown hE.1 hP 0 rfl rfl 8 (by decide) (hts _ k_499) (fun _ h9 => h9) rfl dX10_seen_23 ?_
      refine lv_iload_n hx hb dX10_seen_26 rfl (lv_at hl 1 rfl) ?_
      refine lv_iload_n hx hb dX10_seen_27 rfl (lv_at hl 2 rfl) ?_
      refine lv_aload_n hx hb dX10_seen_28 rfl (lv_at hl 0 rfl) ?_
      refine va_get (D := (dC, dI)) (ci := 10) (v := .int (v 0)) (C := RX10) (T := TX10) (N := 10) hx hb hts inB_10 hown hE.1 hP 0 rfl rfl 9 (by decide) (hts _ k_500) (fun _ h9 => h9) rfl dX10_seen_29 ?_
      have b0_v : 0 ≤ (v 0).toInt ∧ (v 0).toInt ≤ 100000 := XI.b hIv 0 (by decide)
      refine cbVi (n := 3) (rest := []) hx hb hml hown hts hE hP hD hS hA (sX_X8_tell_1 NF l dC dI cy x0 x p1 p2 (v 0) v f hIv ) k_1226 k_1227 k_1228 k_112 k_1229 (by decide +kernel) ⟨Nat.le_of_ble_eq_true rfl, Nat.le_of_ble_eq_true rfl⟩ 36 8 rfl rfl (rfl) hl.1 rfl (Nat.le_of_ble_eq_true rfl) dX10_seen_32 (fun r3 u H locs hw hP hD hS => ?_)
      obtain ⟨hG4, hw⟩ := hw
      obtain ⟨v5, f6⟩ := u
      obtain ⟨kV_v5, kF_f6, hIv5, hk0_v5, hk1_v5, hk7_v5, hk8_v5, hk9_v5, hk10_v5, hk31_v5, hk32_v5⟩ := hw
      have hM_v5 : KV [41] v5 v := KV.tr kV_v5 hM_v rfl
      have hA_f6 : KF [23, 24, 25, 26] f6 f := KF.tr kF_f6 hA_f rfl
      have hP : va_P (dC, dI) vwCl (XW cy x0 x v5 f6) H := hP
      have hD : va_D A (XW cy x0 x v5 f6) := hD
      have hq0_v5 : v5 0 = (v 0) := hk0_v5
      have hq1_v5 : v5 1 = (v 1) := hk1_v5
      have hq7_v5 : v5 7 = (v 7) := hk7_v5
      have hq8_v5 : v5 8 = (v 8) := hk8_v5
      have hq9_v5 : v5 9 = (v 9) := hk9_v5
      have hq10_v5 : v5 10 = (v 10) := hk10_v5
      have hq31_v5 : v5 31 = (v 31) := hk31_v5
      have hq32_v5 : v5 32 = (v 32) := hk32_v5
      exact ret r3 (v5, f6) _ _ _ _ _ _ rfl ⟨(gsX_X10_seen_1_q1 c1 c2 hG4), hM_v5, hA_f6, hIv5, hk0_v5, hk1_v5, hk7_v5, hk8_v5, hk9_v5, hk10_v5, hk31_v5, hk32_v5⟩ hP hD hS dX10_seen_35 (Nat.le_refl _) (Nat.le_refl _)
    · skip
      have zc2 : (v 32).toInt = 0 := by rw [fa_eq, show (0 : Int32).toInt = 0 from by decide] at c2; exact c2
      refine lv_iconst (v := (-1)) hx hb dX10_seen_20 (by decide) ?_
      exact ret (-1) (v, f) _ _ _ _ _ _ rfl ⟨(gsX_X10_seen_1_q2 c1 c2), hM_v, hA_f, hIv, rfl, rfl, rfl, rfl, rfl, rfl, rfl, rfl⟩ hP hD hS dX10_seen_21 (Nat.le_refl _) (Nat.le_refl _)
set_option maxHeartbeats 4000000 in
set_option maxRecDepth 100000 in
theorem sX_X8_takeBack_1 (NF : Nat) (l : Launch) (dC : Nat → ClassId) (dI : Nat → Nat → Nat) (cy : Nat → ClassId) (x0 : Nat) (x : Nat → Nat) (p1 : Int32) (p2 : Int32) (v : Nat → Int32) (f : Nat → Nat → Int32) (hIv : XI v)  : ctI l (dC, dI) cy yX8_takeBack cX8_takeBack 3 .boolean 1 60 0 0 ((Nat → Int32) × (Nat → Nat → Int32)) [.ref (x 35), .int p1, .int p2] (XW cy x0 x v f) (fun r u => gsX_X8_takeBack_1 NF p1 p2 v f = (r, u) ∧ KV [] u.1 v ∧ KF [26] u.2 f ∧ XI u.1 ∧ u.1 0 = v 0 ∧ u.1 1 = v 1 ∧ u.1 7 = v 7 ∧ u.1 8 = v 8 ∧ u.1 9 = v 9 ∧ u.1 10 = v 10 ∧ u.1 31 = v 31 ∧ u.1 32 = v 32 ∧ ((r = 1) ∨ (r = 0))) (fun u => XW cy x0 x u.1 u.2) := by
  refine ctI_of (by decide) (Nat.le_of_ble_eq_true rfl) (fun p e s m below meth c A ls Q hx hb hml hts hown hE hP hD hA hl ret => ?_)
  have hM_v : KV [] v v := fun _ _ => rfl
  have hA_f : KF [26] f f := fun _ _ => rfl
  have hown : s.vm.findClass RX8 = some m.cls := hown
  have hS : va_S A s.heap s.heap [] := va_S.rf
  have hl : lv_has ls 3 [(0, .ref (x 35)), (1, .int p1), (2, .int p2)] := hl
  refine lv_iload_n hx hb dX8_takeBack_0 rfl (lv_at hl 1 rfl) ?_
  refine lv_if_lt (tgt := 28) hx hb dX8_takeBack_1 (by decide) (fun c1 => ?_) (fun c1 => ?_)
  · skip
    have zc1 : p1.toInt < 0 := by rw [fa_lt, show (0 : Int32).toInt = 0 from by decide] at c1; exact c1
    refine lv_iconst (v := 0) hx hb dX8_takeBack_28 (by decide) ?_
    exact ret 0 (v, f) _ _ _ _ _ _ rfl ⟨(gsX_X8_takeBack_1_q0 c1), hM_v, hA_f, hIv, rfl, rfl, rfl, rfl, rfl, rfl, rfl, rfl, (Or.inr rfl)⟩ hP hD hS dX8_takeBack_29 (Nat.le_refl _) (Nat.le_refl _)
  · skip
    have zc1 : ¬ (p1.toInt < 0) := by rw [fa_lt, show (0 : Int32).toInt = 0 from by decide] at c1; exact c1
    refine lv_iload_n hx hb dX8_takeBack_4 rfl (lv_at hl 1 rfl) ?_
    refine lv_aload_n hx hb dX8_takeBack_5 rfl (lv_at hl 0 rfl) ?_
    refine va_get (D := (dC, dI)) (ci := 8) (v := .int (v 41)) (C := RX8) (T := TX8) (N := 7) hx hb hts inB_8 hown hE.1 hP 36 rfl rfl 5 (by decide) (hts _ k_472) (fun _ h9 => h9) rfl dX8_takeBack_6 ?_
    have b41_v : 0 ≤ (v 41).toInt ∧ (v 41).toInt ≤ 30 := XI.b hIv 41 (by decide)
    refine lv_icmp_ge (tgt := 28) hx hb dX8_takeBack_9 (by decide) (fun c2 => ?_) (fun c2 => ?_)
    · skip
      have zc2 : (v 41).toInt ≤ p1.toInt := by rw [fa_le] at c2; exact c2
      have rg3 := fb_rng p1
      have rg4 := fb_rng (v 41)
      refine lv_iconst (v := 0) hx hb dX8_takeBack_28 (by decide) ?_
      exact ret 0 (v, f) _ _ _ _ _ _ rfl ⟨(gsX_X8_takeBack_1_q1 c1 c2), hM_v, hA_f, hIv, rfl, rfl, rfl, rfl, rfl, rfl, rfl, rfl, (Or.inr rfl)⟩ hP hD hS dX8_takeBack_29 (Nat.le_refl _) (Nat.le_refl _)
    · skip
      have zc2 : ¬ ((v 41).toInt ≤ p1.toInt) := by rw [fa_le] at c2; exact c2
      have rg5 := fb_rng p1
      have rg6 := fb_rng (v 41)
      refine lv_iload_n hx hb dX8_takeBack_12 rfl (lv_at hl 1 rfl) ?_
      refine lv_bipush (v := 30) hx hb dX8_takeBack_13 (by decide) ?_
      refine lv_icmp_ge (tgt := 28) hx hb dX8_takeBack_15 (by decide) (fun c7 => ?_) (fun c7 => ?_)
      · skip
        have zc7 : 30 ≤ p1.toInt := by rw [fa_le, show (30 : Int32).toInt = 30 from by decide] at c7; exact c7
        refine lv_iconst (v := 0) hx hb dX8_takeBack_28 (by decide) ?_
        exact ret 0 (v, f) _ _ _ _ _ _ rfl ⟨(gsX_X8_takeBack_1_q2 c1 c2 c7), hM_v, hA_f, hIv, rfl, rfl, rfl, rfl, rfl, rfl, rfl, rfl, (Or.inr rfl)⟩ hP hD hS dX8_takeBack_29 (Nat.le_refl _) (Nat.le_refl _)
      · skip
        have zc7 : ¬ (30 ≤ p1.toInt) := by rw [fa_le, show (30 : Int32).toInt = 30 from by decide] at c7; exact c7
        refine lv_aload_n hx hb dX8_takeBack_18 rfl (lv_at hl 0 rfl) ?_
        refine va_get (D := (dC, dI)) (ci := 8) (v := .ref (x 39)) (C := RX8) (T := TX8) (N := 7) hx hb hts inB_8 hown hE.1 hP 36 rfl rfl 4 (by decide) (hts _ k_471) (fun _ h9 => h9) rfl dX8_takeBack_19 ?_
        refine lv_iload_n hx hb dX8_takeBack_22 rfl (lv_at hl 1 rfl) ?_
        refine ldI hx hb hE hP 40 rfl (vp_in_iff.mpr ⟨by omega, by omega⟩) rfl rfl dX8_takeBack_23 ?_
        refine lv_topi (fun t8 et8 => ?_)
        refine lv_iconst (v := (-1)) hx hb dX8_takeBack_24 (by decide) ?_
        refine lv_icmp_eq (tgt := 30) hx hb dX8_takeBack_25 (by decide) (fun c9 => ?_) (fun c9 => ?_)
        · skip
          have zc9 : t8.toInt = (-1) := by rw [fa_eq, show ((-1) : Int32).toInt = -1 from by decide] at c9; exact c9
          refine lv_aload_n hx hb dX8_takeBack_30 rfl (lv_at hl 0 rfl) ?_
          refine va_get (D := (dC, dI)) (ci := 8) (v := .ref (x 39)) (C := RX8) (T := TX8) (N := 7) hx hb hts inB_8 hown hE.1 hP 36 rfl rfl 4 (by decide) (hts _ k_471) (fun _ h9 => h9) rfl dX8_takeBack_31 ?_
          refine lv_iload_n hx hb dX8_takeBack_34 rfl (lv_at hl 1 rfl) ?_
          refine lv_iload_n hx hb dX8_takeBack_35 rfl (lv_at hl 2 rfl) ?_
          refine stI hx hb hE hP hD hS 40 rfl (vp_in_iff.mpr ⟨by omega, by omega⟩) rfl dX8_takeBack_36 (fun H locs hP hD hS => ?_)
          obtain ⟨f10, ef10, hP, hD⟩ : ∃ fz9, fz9 = upd2 f 26 (upd (f 26) p1.toNatClampNeg p2) ∧ va_P (dC, dI) vwCl (XW cy x0 x v fz9) H ∧ va_D A (XW cy x0 x v fz9) := ⟨_, rfl, hP, hD⟩
          have hA_f10 : KF [26] f10 f := by rw [ef10]; exact KF.up hA_f rfl
          refine lv_iconst (v := 1) hx hb dX8_takeBack_37 (by decide) ?_
          exact ret 1 (v, f10) _ _ _ _ _ _ rfl ⟨(gsX_X8_takeBack_1_q3 c1 c2 c7 et8 c9 ef10), hM_v, hA_f10, hIv, rfl, rfl, rfl, rfl, rfl, rfl, rfl, rfl, (Or.inl rfl)⟩ hP hD hS dX8_takeBack_38 (Nat.le_refl _) (Nat.le_refl _)
        · skip
          have zc9 : ¬ (t8.toInt = (-1)) := by rw [fa_eq, show ((-1) : Int32).toInt = -1 from by decide] at c9; exact c9
          refine lv_iconst (v := 0) hx hb dX8_takeBack_28 (by decide) ?_
          exact ret 0 (v, f) _ _ _ _ _ _ rfl ⟨(gsX_X8_takeBack_1_q4 c1 c2 c7 et8 c9), hM_v, hA_f, hIv, rfl, rfl, rfl, rfl, rfl, rfl, rfl, rfl, (Or.inr rfl)⟩ hP hD hS dX8_takeBack_29 (Nat.le_refl _) (Nat.le_refl _)
set_option maxHeartbeats 4000000 in
set_option maxRecDepth 100000 in
theorem sX_X10_untell_1 (NF : Nat) (l : Launch) (dC : Nat → ClassId) (dI : Nat → Nat → Nat) (cy : Nat → ClassId) (x0 : Nat) (x : Nat → Nat) (p1 : Int32) (v : Nat → Int32) (f : Nat → Nat → Int32) (hIv : XI v)  : ctI l (dC, dI) cy yX10_untell cX10_untell 2 .boolean 2 82 0 0 ((Nat → Int32) × (Nat → Nat → Int32)) [.ref x0, .int p1] (XW cy x0 x v f) (fun r u => gsX_X10_untell_1 NF p1 v f = (r, u) ∧ KV [] u.1 v ∧ KF [26] u.2 f ∧ XI u.1 ∧ u.1 0 = v 0 ∧ u.1 1 = v 1 ∧ u.1 7 = v 7 ∧ u.1 8 = v 8 ∧ u.1 9 = v 9 ∧ u.1 10 = v 10 ∧ u.1 31 = v 31 ∧ u.1 32 = v 32 ∧ ((r = 1) ∨ (r = 0))) (fun u => XW cy x0 x u.1 u.2) := by
  refine ctI_of (by decide) (Nat.le_of_ble_eq_true rfl) (fun p e s m below meth c A ls Q hx hb hml hts hown hE hP hD hA hl ret => ?_)
  have hM_v : KV [] v v := fun _ _ => rfl
  have hA_f : KF [26] f f := fun _ _ => rfl
  have hown : s.vm.findClass RX10 = some m.cls := hown
  have hS : va_S A s.heap s.heap [] := va_S.rf
  have hl : lv_has ls 2 [(0, .ref x0), (1, .int p1)] := hl
  refine lv_aload_n hx hb dX10_untell_0 rfl (lv_at hl 0 rfl) ?_
  refine va_get (D := (dC, dI)) (ci := 10) (v := .ref (x 35)) (C := RX10) (T := TX10) (N := 10) hx hb hts inB_10 hown hE.1 hP 0 rfl rfl 8 (by decide) (hts _ k_499) (fun _ h9 => h9) rfl dX10_untell_1 ?_
  refine lv_iload_n hx hb dX10_untell_4 rfl (lv_at hl 1 rfl) ?_
  refine lv_aload_n hx hb dX10_untell_5 rfl (lv_at hl 0 rfl) ?_
  refine va_get (D := (dC, dI)) (ci := 10) (v := .int (v 0)) (C := RX10) (T := TX10) (N := 10) hx hb hts inB_10 hown hE.1 hP 0 rfl rfl 9 (by decide) (hts _ k_500) (fun _ h9 => h9) rfl dX10_untell_6 ?_
  have b0_v : 0 ≤ (v 0).toInt ∧ (v 0).toInt ≤ 100000 := XI.b hIv 0 (by decide)
  refine cbVi (n := 2) (rest := []) hx hb hml hown hts hE hP hD hS hA (sX_X8_takeBack_1 NF l dC dI cy x0 x p1 (v 0) v f hIv ) k_1234 k_1235 k_1236 k_112 k_1237 (by decide +kernel) ⟨Nat.le_of_ble_eq_true rfl, Nat.le_of_ble_eq_true rfl⟩ 36 8 rfl rfl (rfl) hl.1 rfl (Nat.le_of_ble_eq_true rfl) dX10_untell_9 (fun r1 u H locs hw hP hD hS => ?_)
  obtain ⟨hG2, hw⟩ := hw
  obtain ⟨v3, f4⟩ := u
  obtain ⟨kV_v3, kF_f4, hIv3, hk0_v3, hk1_v3, hk7_v3, hk8_v3, hk9_v3, hk10_v3, hk31_v3, hk32_v3, hw⟩ := hw
  have hM_v3 : KV [] v3 v := KV.tr kV_v3 hM_v rfl
  have hA_f4 : KF [26] f4 f := KF.tr kF_f4 hA_f rfl
  have hP : va_P (dC, dI) vwCl (XW cy x0 x v3 f4) H := hP
  have hD : va_D A (XW cy x0 x v3 f4) := hD
  have hq0_v3 : v3 0 = (v 0) := hk0_v3
  have hq1_v3 : v3 1 = (v 1) := hk1_v3
  have hq7_v3 : v3 7 = (v 7) := hk7_v3
  have hq8_v3 : v3 8 = (v 8) := hk8_v3
  have hq9_v3 : v3 9 = (v 9) := hk9_v3
  have hq10_v3 : v3 10 = (v 10) := hk10_v3
  have hq31_v3 : v3 31 = (v 31) := hk31_v3
  have hq32_v3 : v3 32 = (v 32) := hk32_v3
  rcases hw with ⟨g5⟩ | ⟨g5⟩
  · skip
    subst g5
    exact ret 1 (v3, f4) _ _ _ _ _ _ rfl ⟨(gsX_X10_untell_1_q0 hG2), hM_v3, hA_f4, hIv3, hk0_v3, hk1_v3, hk7_v3, hk8_v3, hk9_v3, hk10_v3, hk31_v3, hk32_v3, (Or.inl rfl)⟩ hP hD hS dX10_untell_12 (Nat.le_refl _) (Nat.le_refl _)
  · skip
    subst g5
    exact ret 0 (v3, f4) _ _ _ _ _ _ rfl ⟨(gsX_X10_untell_1_q1 hG2), hM_v3, hA_f4, hIv3, hk0_v3, hk1_v3, hk7_v3, hk8_v3, hk9_v3, hk10_v3, hk31_v3, hk32_v3, (Or.inr rfl)⟩ hP hD hS dX10_untell_12 (Nat.le_refl _) (Nat.le_refl _)
