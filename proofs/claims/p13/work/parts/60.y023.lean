set_option maxHeartbeats 4000000 in
set_option maxRecDepth 100000 in
theorem sY_X11_misfitOf_1 (NF : Nat) (l : Launch) (dC : Nat → ClassId) (dI : Nat → Nat → Nat) (cy : Nat → ClassId) (y0 : Nat) (r : Nat → Nat) (p1 : Int32) (p2 : Int32) (v : Nat → Int32) (f : Nat → Nat → Int32) (w : Int64) (g : Nat → Int64) (hIv : YI v) (hCf : YC f) (hRf : progOK (f 4) (f 5) (v 9).toInt.toNat) (hp1 : (0 : Int) ≤ p1.toInt ∧ p1.toInt ≤ 5) (hp2 : (0 : Int) ≤ p2.toInt ∧ p2.toInt ≤ 5) : ctI l (dC, dI) cy yX11_misfitOf cX11_misfitOf 5 .int 3 102 0 0 ((Nat → Int32) × (Nat → Nat → Int32) × (Int64) × (Nat → Int64)) [.ref y0, .int p1, .int p2] (YW cy y0 r v f w g) (fun r u => gsY_X11_misfitOf_1 NF p1 p2 v f w g = (r, u) ∧ KV [] u.1 v ∧ KF [7, 8] u.2.1 f ∧ YI u.1 ∧ YC u.2.1 ∧ progOK (u.2.1 4) (u.2.1 5) (u.1 9).toInt.toNat ∧ u.1 0 = v 0 ∧ u.1 1 = v 1 ∧ u.1 2 = v 2 ∧ u.1 3 = v 3 ∧ u.1 4 = v 4 ∧ u.1 5 = v 5 ∧ u.1 8 = v 8 ∧ u.1 9 = v 9 ∧ u.1 10 = v 10 ∧ u.1 13 = v 13 ∧ u.1 14 = v 14 ∧ u.1 15 = v 15 ∧ u.1 17 = v 17 ∧ u.1 18 = v 18 ∧ u.1 24 = v 24 ∧ u.1 25 = v 25 ∧ u.1 35 = v 35 ∧ u.1 36 = v 36 ∧ u.1 38 = v 38 ∧ u.1 39 = v 39) (fun u => YW cy y0 r u.1 u.2.1 u.2.2.1 u.2.2.2) := by
  refine ctI_of (by decide) (Nat.le_of_ble_eq_true rfl) (fun p e s m below meth c A ls Q hx hb hml hts hown hE hP hD hA hl ret => ?_)
  have hUv : (v 35).toInt + (v 36).toInt ≤ 40 := hIv.2
  have hs4_f : f 4 = f 4 := rfl
  have hs5_f : f 5 = f 5 := rfl
  have hM_v : KV [] v v := fun _ _ => rfl
  have hA_f : KF [7, 8] f f := fun _ _ => rfl
  have hown : s.vm.findClass RX11 = some m.cls := hown
  have hS : va_S A s.heap s.heap [] := va_S.rf
  have hl : lv_has ls 5 [(0, .ref y0), (1, .int p1), (2, .int p2)] := hl
  refine lv_aload_n hx hb dX11_misfitOf_0 rfl (lv_at hl 0 rfl) ?_
  refine va_get (D := (dC, dI)) (ci := 11) (v := .ref (r 26)) (C := RX11) (T := TX11) (N := 79) hx hb hts inB_11 hown hE.1 hP 0 rfl rfl 26 (by decide) (hts _ k_1346) (fun _ h9 => h9) rfl dX11_misfitOf_1 ?_
  refine lv_iconst (v := 0) hx hb dX11_misfitOf_4 (by decide) ?_
  refine lv_aload_n hx hb dX11_misfitOf_5 rfl (lv_at hl 0 rfl) ?_
  refine va_get (D := (dC, dI)) (ci := 11) (v := .ref (r 60)) (C := RX11) (T := TX11) (N := 79) hx hb hts inB_11 hown hE.1 hP 0 rfl rfl 60 (by decide) (hts _ k_1380) (fun _ h9 => h9) rfl dX11_misfitOf_6 ?_
  refine lv_iload_n hx hb dX11_misfitOf_9 rfl (lv_at hl 1 rfl) ?_
  refine ldI hx hb hE hP 25 rfl (vp_in_iff.mpr ⟨by omega, by omega⟩) rfl rfl dX11_misfitOf_10 ?_
  refine lv_topi (fun t1 et1 => ?_)
  have zt1 : p1.toInt.toNat % 39 < 6 ∨ 12 ≤ p1.toInt.toNat % 39 ∨ (-1 ≤ t1.toInt ∧ t1.toInt ≤ 5) := by rw [et1]; exact wear_ld hCf.2.1 (show p1.toInt.toNat < 39 by omega)
  refine lv_aload_n hx hb dX11_misfitOf_11 rfl (lv_at hl 0 rfl) ?_
  refine va_get (D := (dC, dI)) (ci := 11) (v := .ref (r 60)) (C := RX11) (T := TX11) (N := 79) hx hb hts inB_11 hown hE.1 hP 0 rfl rfl 60 (by decide) (hts _ k_1380) (fun _ h9 => h9) rfl dX11_misfitOf_12 ?_
  refine lv_bipush (v := 18) hx hb dX11_misfitOf_15 (by decide) ?_
  refine lv_iload_n hx hb dX11_misfitOf_17 rfl (lv_at hl 2 rfl) ?_
  refine lv_iadd hx hb dX11_misfitOf_18 ?_
  refine lv_topi (fun t2 et2 => ?_)
  have rg3 := fb_rng p2
  have zt2 : t2.toInt = 18 + p2.toInt := by rw [et2]; exact add_i (by decide) rfl (by omega) (by omega)
  refine ldI hx hb hE hP 25 rfl (vp_in_iff.mpr ⟨by omega, by omega⟩) rfl rfl dX11_misfitOf_19 ?_
  refine lv_topi (fun t4 et4 => ?_)
  have zt4 : t2.toInt.toNat % 39 < 6 ∨ 12 ≤ t2.toInt.toNat % 39 ∨ (-1 ≤ t4.toInt ∧ t4.toInt ≤ 5) := by rw [et4]; exact wear_ld hCf.2.1 (show t2.toInt.toNat < 39 by omega)
  refine cbSi (n := 2) (rest := [.int 0, .ref (r 26)]) hx hb hml hown hts hE hP hD hS hA (sY_X11_over_1 NF l dC dI cy y0 r t1 t4 v f w g hIv hCf hRf ) k_1755 k_1756 k_114 k_1757 (by decide +kernel) ⟨Nat.le_of_ble_eq_true rfl, Nat.le_of_ble_eq_true rfl⟩ (rfl) hl.1 rfl (Nat.le_of_ble_eq_true rfl) dX11_misfitOf_20 (fun r5 u H locs hw hP hD hS => ?_)
  have hG6 := hw
  refine stI hx hb hE hP hD hS 9 rfl (vp_in_nI (n := 0) (by decide) (by decide)) rfl dX11_misfitOf_23 (fun H locs hP hD hS => ?_)
  obtain ⟨f7, ef7, hP, hD⟩ : ∃ fz9, fz9 = upd2 f 8 (upd (f 8) (0 : Int32).toNatClampNeg r5) ∧ va_P (dC, dI) vwCl (YW cy y0 r v fz9 w g) H ∧ va_D A (YW cy y0 r v fz9 w g) := ⟨_, rfl, hP, hD⟩
  have hCf7 : YC f7 := by rw [ef7]; exact hCf
  have hs4_f7 : f7 4 = f 4 := by rw [ef7]; exact hs4_f
  have hs5_f7 : f7 5 = f 5 := by rw [ef7]; exact hs5_f
  have hRf7 : progOK (f7 4) (f7 5) (v 9).toInt.toNat := by rw [ef7]; exact hRf
  have hA_f7 : KF [7, 8] f7 f := by rw [ef7]; exact KF.up hA_f rfl
  refine lv_aload_n hx hb dX11_misfitOf_24 rfl (lv_at hl 0 rfl) ?_
  refine va_get (D := (dC, dI)) (ci := 11) (v := .ref (r 26)) (C := RX11) (T := TX11) (N := 79) hx hb hts inB_11 hown hE.1 hP 0 rfl rfl 26 (by decide) (hts _ k_1346) (fun _ h9 => h9) rfl dX11_misfitOf_25 ?_
  refine lv_iconst (v := 1) hx hb dX11_misfitOf_28 (by decide) ?_
  refine lv_aload_n hx hb dX11_misfitOf_29 rfl (lv_at hl 0 rfl) ?_
  refine va_get (D := (dC, dI)) (ci := 11) (v := .ref (r 60)) (C := RX11) (T := TX11) (N := 79) hx hb hts inB_11 hown hE.1 hP 0 rfl rfl 60 (by decide) (hts _ k_1380) (fun _ h9 => h9) rfl dX11_misfitOf_30 ?_
  refine lv_bipush (v := 18) hx hb dX11_misfitOf_33 (by decide) ?_
  refine lv_iload_n hx hb dX11_misfitOf_35 rfl (lv_at hl 2 rfl) ?_
  refine lv_iadd hx hb dX11_misfitOf_36 ?_
  refine tI (y := t2) et2.symm ?_
  refine ldI hx hb hE hP 25 rfl (vp_in_iff.mpr ⟨by omega, by omega⟩) rfl rfl dX11_misfitOf_37 ?_
  refine lv_topi (fun t8 et8 => ?_)
  have zt8 : t2.toInt.toNat % 39 < 6 ∨ 12 ≤ t2.toInt.toNat % 39 ∨ (-1 ≤ t8.toInt ∧ t8.toInt ≤ 5) := by rw [et8]; exact wear_ld hCf7.2.1 (show t2.toInt.toNat < 39 by omega)
  refine lv_aload_n hx hb dX11_misfitOf_38 rfl (lv_at hl 0 rfl) ?_
  refine va_get (D := (dC, dI)) (ci := 11) (v := .ref (r 60)) (C := RX11) (T := TX11) (N := 79) hx hb hts inB_11 hown hE.1 hP 0 rfl rfl 60 (by decide) (hts _ k_1380) (fun _ h9 => h9) rfl dX11_misfitOf_39 ?_
  refine lv_iload_n hx hb dX11_misfitOf_42 rfl (lv_at hl 1 rfl) ?_
  refine ldI hx hb hE hP 25 rfl (vp_in_iff.mpr ⟨by omega, by omega⟩) rfl rfl dX11_misfitOf_43 ?_
  refine lv_topi (fun t9 et9 => ?_)
  have zt9 : p1.toInt.toNat % 39 < 6 ∨ 12 ≤ p1.toInt.toNat % 39 ∨ (-1 ≤ t9.toInt ∧ t9.toInt ≤ 5) := by rw [et9]; exact wear_ld hCf7.2.1 (show p1.toInt.toNat < 39 by omega)
  refine cbSi (n := 2) (rest := [.int 1, .ref (r 26)]) hx hb hml hown hts hE hP hD hS hA (sY_X11_over_1 NF l dC dI cy y0 r t8 t9 v f7 w g hIv hCf7 hRf7 ) k_1755 k_1756 k_114 k_1757 (by decide +kernel) ⟨Nat.le_of_ble_eq_true rfl, Nat.le_of_ble_eq_true rfl⟩ (rfl) hl.1 rfl (Nat.le_of_ble_eq_true rfl) dX11_misfitOf_44 (fun r10 u H locs hw hP hD hS => ?_)
  have hG11 := hw
  refine stI hx hb hE hP hD hS 9 rfl (vp_in_nI (n := 1) (by decide) (by decide)) rfl dX11_misfitOf_47 (fun H locs hP hD hS => ?_)
  obtain ⟨f12, ef12, hP, hD⟩ : ∃ fz9, fz9 = upd2 f7 8 (upd (f7 8) (1 : Int32).toNatClampNeg r10) ∧ va_P (dC, dI) vwCl (YW cy y0 r v fz9 w g) H ∧ va_D A (YW cy y0 r v fz9 w g) := ⟨_, rfl, hP, hD⟩
  have hCf12 : YC f12 := by rw [ef12]; exact hCf7
  have hs4_f12 : f12 4 = f 4 := by rw [ef12]; exact hs4_f7
  have hs5_f12 : f12 5 = f 5 := by rw [ef12]; exact hs5_f7
  have hRf12 : progOK (f12 4) (f12 5) (v 9).toInt.toNat := by rw [ef12]; exact hRf7
  have hA_f12 : KF [7, 8] f12 f := by rw [ef12]; exact KF.up hA_f7 rfl
  refine lv_aload_n hx hb dX11_misfitOf_48 rfl (lv_at hl 0 rfl) ?_
  refine va_get (D := (dC, dI)) (ci := 11) (v := .ref (r 26)) (C := RX11) (T := TX11) (N := 79) hx hb hts inB_11 hown hE.1 hP 0 rfl rfl 26 (by decide) (hts _ k_1346) (fun _ h9 => h9) rfl dX11_misfitOf_49 ?_
  refine lv_iconst (v := 2) hx hb dX11_misfitOf_52 (by decide) ?_
  refine lv_aload_n hx hb dX11_misfitOf_53 rfl (lv_at hl 0 rfl) ?_
  refine va_get (D := (dC, dI)) (ci := 11) (v := .ref (r 34)) (C := RX11) (T := TX11) (N := 79) hx hb hts inB_11 hown hE.1 hP 0 rfl rfl 34 (by decide) (hts _ k_1354) (fun _ h9 => h9) rfl dX11_misfitOf_54 ?_
  refine lv_iload_n hx hb dX11_misfitOf_57 rfl (lv_at hl 1 rfl) ?_
  refine ldI hx hb hE hP 17 rfl (vp_in_iff.mpr ⟨by omega, by omega⟩) rfl rfl dX11_misfitOf_58 ?_
  refine lv_topi (fun t13 et13 => ?_)
  refine lv_aload_n hx hb dX11_misfitOf_59 rfl (lv_at hl 0 rfl) ?_
  refine va_get (D := (dC, dI)) (ci := 11) (v := .ref (r 60)) (C := RX11) (T := TX11) (N := 79) hx hb hts inB_11 hown hE.1 hP 0 rfl rfl 60 (by decide) (hts _ k_1380) (fun _ h9 => h9) rfl dX11_misfitOf_60 ?_
  refine lv_bipush (v := 12) hx hb dX11_misfitOf_63 (by decide) ?_
  refine lv_iload_n hx hb dX11_misfitOf_65 rfl (lv_at hl 2 rfl) ?_
  refine lv_iadd hx hb dX11_misfitOf_66 ?_
  refine lv_topi (fun t14 et14 => ?_)
  have zt14 : t14.toInt = 12 + p2.toInt := by rw [et14]; exact add_i (by decide) rfl (by omega) (by omega)
  refine ldI hx hb hE hP 25 rfl (vp_in_iff.mpr ⟨by omega, by omega⟩) rfl rfl dX11_misfitOf_67 ?_
  refine lv_topi (fun t15 et15 => ?_)
  have zt15 : t14.toInt.toNat % 39 < 6 ∨ 12 ≤ t14.toInt.toNat % 39 ∨ (-1 ≤ t15.toInt ∧ t15.toInt ≤ 5) := by rw [et15]; exact wear_ld hCf12.2.1 (show t14.toInt.toNat < 39 by omega)
  refine cbSi (n := 2) (rest := [.int 2, .ref (r 26)]) hx hb hml hown hts hE hP hD hS hA (sY_X11_over_1 NF l dC dI cy y0 r t13 t15 v f12 w g hIv hCf12 hRf12 ) k_1755 k_1756 k_114 k_1757 (by decide +kernel) ⟨Nat.le_of_ble_eq_true rfl, Nat.le_of_ble_eq_true rfl⟩ (rfl) hl.1 rfl (Nat.le_of_ble_eq_true rfl) dX11_misfitOf_68 (fun r16 u H locs hw hP hD hS => ?_)
  have hG17 := hw
  refine stI hx hb hE hP hD hS 9 rfl (vp_in_nI (n := 2) (by decide) (by decide)) rfl dX11_misfitOf_71 (fun H locs hP hD hS => ?_)
  obtain ⟨f18, ef18, hP, hD⟩ : ∃ fz9, fz9 = upd2 f12 8 (upd (f12 8) (2 : Int32).toNatClampNeg r16) ∧ va_P (dC, dI) vwCl (YW cy y0 r v fz9 w g) H ∧ va_D A (YW cy y0 r v fz9 w g) := ⟨_, rfl, hP, hD⟩
  have hCf18 : YC f18 := by rw [ef18]; exact hCf12
  have hs4_f18 : f18 4 = f 4 := by rw [ef18]; exact hs4_f12
  have hs5_f18 : f18 5 = f 5 := by rw [ef18]; exact hs5_f12
  have hRf18 : progOK (f18 4) (f18 5) (v 9).toInt.toNat := by rw [ef18]; exact hRf12
  have hA_f18 : KF [7, 8] f18 f := by rw [ef18]; exact KF.up hA_f12 rfl
  refine lv_aload_n hx hb dX11_misfitOf_72 rfl (lv_at hl 0 rfl) ?_
  refine va_get (D := (dC, dI)) (ci := 11) (v := .ref (r 26)) (C := RX11) (T := TX11) (N := 79) hx hb hts inB_11 hown hE.1 hP 0 rfl rfl 26 (by decide) (hts _ k_1346) (fun _ h9 => h9) rfl dX11_misfitOf_73 ?_
  refine lv_iconst (v := 3) hx hb dX11_misfitOf_76 (by decide) ?_
  refine lv_aload_n hx hb dX11_misfitOf_77 rfl (lv_at hl 0 rfl) ?_
  refine va_get (D := (dC, dI)) (ci := 11) (v := .ref (r 60)) (C := RX11) (T := TX11) (N := 79) hx hb hts inB_11 hown hE.1 hP 0 rfl rfl 60 (by decide) (hts _ k_1380) (fun _ h9 => h9) rfl dX11_misfitOf_78 ?_
  refine lv_bipush (v := 12) hx hb dX11_misfitOf_81 (by decide) ?_
  refine lv_iload_n hx hb dX11_misfitOf_83 rfl (lv_at hl 2 rfl) ?_
  refine lv_iadd hx hb dX11_misfitOf_84 ?_
  refine tI (y := t14) et14.symm ?_
  refine ldI hx hb hE hP 25 rfl (vp_in_iff.mpr ⟨by omega, by omega⟩) rfl rfl dX11_misfitOf_85 ?_
  refine lv_topi (fun t19 et19 => ?_)
  have zt19 : t14.toInt.toNat % 39 < 6 ∨ 12 ≤ t14.toInt.toNat % 39 ∨ (-1 ≤ t19.toInt ∧ t19.toInt ≤ 5) := by rw [et19]; exact wear_ld hCf18.2.1 (show t14.toInt.toNat < 39 by omega)
  refine lv_aload_n hx hb dX11_misfitOf_86 rfl (lv_at hl 0 rfl) ?_
  refine va_get (D := (dC, dI)) (ci := 11) (v := .ref (r 34)) (C := RX11) (T := TX11) (N := 79) hx hb hts inB_11 hown hE.1 hP 0 rfl rfl 34 (by decide) (hts _ k_1354) (fun _ h9 => h9) rfl dX11_misfitOf_87 ?_
  refine lv_iload_n hx hb dX11_misfitOf_90 rfl (lv_at hl 1 rfl) ?_
  refine ldI hx hb hE hP 17 rfl (vp_in_iff.mpr ⟨by omega, by omega⟩) rfl rfl dX11_misfitOf_91 ?_
  refine lv_topi (fun t20 et20 => ?_)
  refine cbSi (n := 2) (rest := [.int 3, .ref (r 26)]) hx hb hml hown hts hE hP hD hS hA (sY_X11_over_1 NF l dC dI cy y0 r t19 t20 v f18 w g hIv hCf18 hRf18 ) k_1755 k_1756 k_114 k_1757 (by decide +kernel) ⟨Nat.le_of_ble_eq_true rfl, Nat.le_of_ble_eq_true rfl⟩ (rfl) hl.1 rfl (Nat.le_of_ble_eq_true rfl) dX11_misfitOf_92 (fun r21 u H locs hw hP hD hS => ?_)
  have hG22 := hw
  refine stI hx hb hE hP hD hS 9 rfl (vp_in_nI (n := 3) (by decide) (by decide)) rfl dX11_misfitOf_95 (fun H locs hP hD hS => ?_)
  obtain ⟨f23, ef23, hP, hD⟩ : ∃ fz9, fz9 = upd2 f18 8 (upd (f18 8) (3 : Int32).toNatClampNeg r21) ∧ va_P (dC, dI) vwCl (YW cy y0 r v fz9 w g) H ∧ va_D A (YW cy y0 r v fz9 w g) := ⟨_, rfl, hP, hD⟩
  have hCf23 : YC f23 := by rw [ef23]; exact hCf18
  have hs4_f23 : f23 4 = f 4 := by rw [ef23]; exact hs4_f18
  have hs5_f23 : f23 5 = f 5 := by rw [ef23]; exact hs5_f18
  have hRf23 : progOK (f23 4) (f23 5) (v 9).toInt.toNat := by rw [ef23]; exact hRf18
  have hA_f23 : KF [7, 8] f23 f := by rw [ef23]; exact KF.up hA_f18 rfl
  refine lv_aload_n hx hb dX11_misfitOf_96 rfl (lv_at hl 0 rfl) ?_
  refine va_get (D := (dC, dI)) (ci := 11) (v := .ref (r 26)) (C := RX11) (T := TX11) (N := 79) hx hb hts inB_11 hown hE.1 hP 0 rfl rfl 26 (by decide) (hts _ k_1346) (fun _ h9 => h9) rfl dX11_misfitOf_97 ?_
  refine lv_iconst (v := 4) hx hb dX11_misfitOf_100 (by decide) ?_
  refine lv_aload_n hx hb dX11_misfitOf_101 rfl (lv_at hl 0 rfl) ?_
  refine va_get (D := (dC, dI)) (ci := 11) (v := .ref (r 60)) (C := RX11) (T := TX11) (N := 79) hx hb hts inB_11 hown hE.1 hP 0 rfl rfl 60 (by decide) (hts _ k_1380) (fun _ h9 => h9) rfl dX11_misfitOf_102 ?_
  refine lv_bipush (v := 30) hx hb dX11_misfitOf_105 (by decide) ?_
  refine lv_iload_n hx hb dX11_misfitOf_107 rfl (lv_at hl 2 rfl) ?_
  refine lv_iadd hx hb dX11_misfitOf_108 ?_
  refine lv_topi (fun t24 et24 => ?_)
  have zt24 : t24.toInt = 30 + p2.toInt := by rw [et24]; exact add_i (by decide) rfl (by omega) (by omega)
  refine ldI hx hb hE hP 25 rfl (vp_in_iff.mpr ⟨by omega, by omega⟩) rfl rfl dX11_misfitOf_109 ?_
  refine lv_topi (fun t25 et25 => ?_)
  have zt25 : t24.toInt.toNat % 39 < 6 ∨ 12 ≤ t24.toInt.toNat % 39 ∨ (-1 ≤ t25.toInt ∧ t25.toInt ≤ 5) := by rw [et25]; exact wear_ld hCf23.2.1 (show t24.toInt.toNat < 39 by omega)
  refine stI hx hb hE hP hD hS 9 rfl (vp_in_nI (n := 4) (by decide) (by decide)) rfl dX11_misfitOf_110 (fun H locs hP hD hS => ?_)
  obtain ⟨f26, ef26, hP, hD⟩ : ∃ fz9, fz9 = upd2 f23 8 (upd (f23 8) (4 : Int32).toNatClampNeg t25) ∧ va_P (dC, dI) vwCl (YW cy y0 r v fz9 w g) H ∧ va_D A (YW cy y0 r v fz9 w g) := ⟨_, rfl, hP, hD⟩
  have hCf26 : YC f26 := by rw [ef26]; exact hCf23
  have hs4_f26 : f26 4 = f 4 := by rw [ef26]; exact hs4_f23
  have hs5_f26 : f26 5 = f 5 := by rw [ef26]; exact hs5_f23
  have hRf26 : progOK (f26 4) (f26 5) (v 9).toInt.toNat := by rw [ef26]; exact hRf23
  have hA_f26 : KF [7, 8] f26 f := by rw [ef26]; exact KF.up hA_f23 rfl
  refine lv_aload_n hx hb dX11_misfitOf_111 rfl (lv_at hl 0 rfl) ?_
  refine va_get (D := (dC, dI)) (ci := 11) (v := .ref (r 26)) (C := RX11) (T := TX11) (N := 79) hx hb hts inB_11 hown hE.1 hP 0 rfl rfl 26 (by decide) (hts _ k_1346) (fun _ h9 => h9) rfl dX11_misfitOf_112 ?_
  refine lv_iconst (v := 5) hx hb dX11_misfitOf_115 (by decide) ?_
  refine lv_aload_n hx hb dX11_misfitOf_116 rfl (lv_at hl 0 rfl) ?_
  refine va_get (D := (dC, dI)) (ci := 11) (v := .ref (r 60)) (C := RX11) (T := TX11) (N := 79) hx hb hts inB_11 hown hE.1 hP 0 rfl rfl 60 (by decide) (hts _ k_1380) (fun _ h9 => h9) rfl dX11_misfitOf_117 ?_
  refine lv_bipush (v := 37) hx hb dX11_misfitOf_120 (by decide) ?_
  refine ldI hx hb hE hP 25 rfl (vp_in_nI (n := 37) (by decide) (by decide)) rfl rfl dX11_misfitOf_122 ?_
  refine lv_topi (fun t27 et27 => ?_)
  have zt27 : 37 % 39 < 6 ∨ 12 ≤ 37 % 39 ∨ (-1 ≤ t27.toInt ∧ t27.toInt ≤ 5) := by rw [et27]; exact wear_ld hCf26.2.1 (show 37 < 39 by omega)
  refine stI hx hb hE hP hD hS 9 rfl (vp_in_nI (n := 5) (by decide) (by decide)) rfl dX11_misfitOf_123 (fun H locs hP hD hS => ?_)
  obtain ⟨f28, ef28, hP, hD⟩ : ∃ fz9, fz9 = upd2 f26 8 (upd (f26 8) (5 : Int32).toNatClampNeg t27) ∧ va_P (dC, dI) vwCl (YW cy y0 r v fz9 w g) H ∧ va_D A (YW cy y0 r v fz9 w g) := ⟨_, rfl, hP, hD⟩
  have hCf28 : YC f28 := by rw [ef28]; exact hCf26
  have hs4_f28 : f28 4 = f 4 := by rw [ef28]; exact hs4_f26
  have hs5_f28 : f28 5 = f 5 := by rw [ef28]; exact hs5_f26
  have hRf28 : progOK (f28 4) (f28 5) (v 9).toInt.toNat := by rw [ef28]; exact hRf26
  have hA_f28 : KF [7, 8] f28 f := by rw [ef28]; exact KF.up hA_f26 rfl
  refine lv_aload_n hx hb dX11_misfitOf_124 rfl (lv_at hl 0 rfl) ?_
  refine va_get (D := (dC, dI)) (ci := 11) (v := .int (v 16)) (C := RX11) (T := TX11) (N := 79) hx hb hts inB_11 hown hE.1 hP 0 rfl rfl 25 (by decide) (hts _ k_1345) (fun _ h9 => h9) rfl dX11_misfitOf_125 ?_
  refine lv_if_ne (tgt := 176) hx hb dX11_misfitOf_128 (by decide) (fun c29 => ?_) (fun c29 => ?_)
  · skip
    have zc29 : ¬ ((v 16).toInt = 0) := by rw [fa_eq, show (0 : Int32).toInt = 0 from by decide] at c29; exact c29
    refine lv_iconst (v := 0) hx hb dX11_misfitOf_176 (by decide) ?_
    refine lv_istore_n (lv' := [(3, .int 0), (0, .ref y0), (1, .int p1), (2, .int p2)]) hx hb dX11_misfitOf_177 rfl hl (by decide) rfl (fun ls hl => ?_)
    refine lv_iconst (v := 0) hx hb dX11_misfitOf_178 (by decide) ?_
    refine lv_istore (lv' := [(4, .int 0), (3, .int 0), (0, .ref y0), (1, .int p1), (2, .int p2)]) hx hb dX11_misfitOf_179 hl (by decide) rfl (fun ls hl => ?_)
    have lp30 : ∀ (n30 : Nat) (l3_30 : Int32) (l4_30 : Int32) (v30 : Nat → Int32) (f30 : Nat → Nat → Int32) (w30 : Int64) (g30 : Nat → Int64), YI v30 → YC f30 → progOK (f30 4) (f30 5) (v30 9).toInt.toNat → v30 0 = (v 0) → v30 1 = (v 1) → v30 2 = (v 2) → v30 3 = (v 3) → v30 4 = (v 4) → v30 5 = (v 5) → v30 8 = (v 8) → v30 9 = (v 9) → v30 10 = (v 10) → v30 13 = (v 13) → v30 14 = (v 14) → v30 15 = (v 15) → v30 17 = (v 17) → v30 18 = (v 18) → v30 24 = (v 24) → v30 25 = (v 25) → v30 35 = (v 35) → v30 36 = (v 36) → v30 38 = (v 38) → v30 39 = (v 39) → gsY_X11_misfitOf_1_L30 NF v n30 l3_30 l4_30 v30 f30 w30 g30 = (gsY_X11_misfitOf_1 NF p1 p2 v f w g) → ((0 : Int) ≤ l3_30.toInt ∧ l3_30.toInt ≤ 64) → ((0 : Int) ≤ l4_30.toInt ∧ l4_30.toInt ≤ 2147483647) → (l3_30.toInt = dpF (f 4) (l4_30.toInt).toNat) → f30 4 = f 4 → f30 5 = f 5 → KV [] v30 v → KF [7, 8] f30 f → (2147483647 - l4_30.toInt).toNat < n30 → ∀ (H : Heap) (locs : List Loc) (ls : Array Slot), va_P (dC, dI) vwCl (YW cy y0 r v30 f30 w30 g30) H → va_D A (YW cy y0 r v30 f30 w30 g30) → va_S A s.heap H locs → lv_has ls 5 [(4, .int l4_30), (3, .int l3_30), (0, .ref y0), (1, .int p1), (2, .int p2)] → W p l e { frames := 3, cells := 0, slots := 0, locals := 102 } s m ([.ref y0, .int p1, .int p2] : List Value).toArray below meth c H locs 0 0 Q (F0 m 181 ls []) := by
      intro n30
      induction n30 with
      | zero => intro l3_30 l4_30 v30 f30 w30 g30 hIv30 hCf30 hRf30 hq0_v30 hq1_v30 hq2_v30 hq3_v30 hq4_v30 hq5_v30 hq8_v30 hq9_v30 hq10_v30 hq13_v30 hq14_v30 hq15_v30 hq17_v30 hq18_v30 hq24_v30 hq25_v30 hq35_v30 hq36_v30 hq38_v30 hq39_v30 hT30 hr3_30 hr4_30 hx0_30 hs4_f30 hs5_f30 hM_v30 hA_f30 hm; exact absurd hm (Nat.not_lt_zero _)
      | succ n30 ih30 =>
        intro l3_30 l4_30 v30 f30 w30 g30 hIv30 hCf30 hRf30 hq0_v30 hq1_v30 hq2_v30 hq3_v30 hq4_v30 hq5_v30 hq8_v30 hq9_v30 hq10_v30 hq13_v30 hq14_v30 hq15_v30 hq17_v30 hq18_v30 hq24_v30 hq25_v30 hq35_v30 hq36_v30 hq38_v30 hq39_v30 hT30 hr3_30 hr4_30 hx0_30 hs4_f30 hs5_f30 hM_v30 hA_f30 hm30 H locs ls hP hD hS hl
        have hUv30 : (v30 35).toInt + (v30 36).toInt ≤ 40 := hIv30.2
        have zq9_v30 := congrArg Int32.toInt hq9_v30
        refine lv_iload hx hb dX11_misfitOf_181 (lv_at hl 0 rfl) ?_
        refine lv_aload_n hx hb dX11_misfitOf_183 rfl (lv_at hl 2 rfl) ?_
        refine va_get (D := (dC, dI)) (ci := 11) (v := .int (v30 9)) (C := RX11) (T := TX11) (N := 79) hx hb hts inB_11 hown hE.1 hP 0 rfl rfl 18 (by decide) (hts _ k_1338) (fun _ h9 => h9) rfl dX11_misfitOf_184 ?_
        refine tI (y := (v 9)) hq9_v30 ?_
        have b9_v : 0 ≤ (v 9).toInt ∧ (v 9).toInt ≤ 320 := YIb.b hIv.1 9 (by decide)
        refine lv_icmp_ge (tgt := 337) hx hb dX11_misfitOf_187 (by decide) (fun c31 => ?_) (fun c31 => ?_)
        · skip
          have zc31 : (v 9).toInt ≤ l4_30.toInt := by rw [fa_le] at c31; exact c31
          have rg32 := fb_rng l4_30
          have rg33 := fb_rng (v 9)
          refine lv_aload_n hx hb dX11_misfitOf_337 rfl (lv_at hl 2 rfl) ?_
          refine va_get (D := (dC, dI)) (ci := 11) (v := .ref (r 16)) (C := RX11) (T := TX11) (N := 79) hx hb hts inB_11 hown hE.1 hP 0 rfl rfl 16 (by decide) (hts _ k_1336) (fun _ h9 => h9) rfl dX11_misfitOf_338 ?_
          refine lv_iconst (v := 0) hx hb dX11_misfitOf_341 (by decide) ?_
          refine ldI hx hb hE hP 8 rfl (vp_in_nI (n := 0) (by decide) (by decide)) rfl rfl dX11_misfitOf_342 ?_
          refine lv_topi (fun t34 et34 => ?_)
          refine lv_sipush (v := 999) hx hb dX11_misfitOf_343 (by decide) ?_
          refine cbSi (n := 2) (rest := []) hx hb hml hown hts hE hP hD hS hA (sY_X11_within_1 NF l dC dI cy y0 r t34 999 v30 f30 w30 g30 hIv30 hCf30 hRf30 ) k_1758 k_1759 k_114 k_1760 (by decide +kernel) ⟨Nat.le_of_ble_eq_true rfl, Nat.le_of_ble_eq_true rfl⟩ (rfl) hl.1 rfl (Nat.le_of_ble_eq_true rfl) dX11_misfitOf_346 (fun r35 u H locs hw hP hD hS => ?_)
          have hG36 := hw
          exact ret r35 (v30, f30, w30, g30) _ _ _ _ _ _ rfl ⟨(hT30.symm.trans (gsY_X11_misfitOf_1_q0 c31 et34 hG36.symm)), hM_v30, hA_f30, hIv30, hCf30, hRf30, (show v30 0 = v 0 from hq0_v30), (show v30 1 = v 1 from hq1_v30), (show v30 2 = v 2 from hq2_v30), (show v30 3 = v 3 from hq3_v30), (show v30 4 = v 4 from hq4_v30), (show v30 5 = v 5 from hq5_v30), (show v30 8 = v 8 from hq8_v30), (show v30 9 = v 9 from hq9_v30), (show v30 10 = v 10 from hq10_v30), (show v30 13 = v 13 from hq13_v30), (show v30 14 = v 14 from hq14_v30), (show v30 15 = v 15 from hq15_v30), (show v30 17 = v 17 from hq17_v30), (show v30 18 = v 18 from hq18_v30), (show v30 24 = v 24 from hq24_v30), (show v30 25 = v 25 from hq25_v30), (show v30 35 = v 35 from hq35_v30), (show v30 36 = v 36 from hq36_v30), (show v30 38 = v 38 from hq38_v30), (show v30 39 = v 39 from hq39_v30)⟩ hP hD hS dX11_misfitOf_349 (Nat.le_refl _) (Nat.le_refl _)
        · skip
          have zc31 : ¬ ((v 9).toInt ≤ l4_30.toInt) := by rw [fa_le] at c31; exact c31
          have rg37 := fb_rng l4_30
          have rg38 := fb_rng (v 9)
          refine lv_aload_n hx hb dX11_misfitOf_190 rfl (lv_at hl 2 rfl) ?_
          refine va_get (D := (dC, dI)) (ci := 11) (v := .ref (r 13)) (C := RX11) (T := TX11) (N := 79) hx hb hts inB_11 hown hE.1 hP 0 rfl rfl 13 (by decide) (hts _ k_1333) (fun _ h9 => h9) rfl dX11_misfitOf_191 ?_
          refine lv_iload hx hb dX11_misfitOf_194 (lv_at hl 0 rfl) ?_
          refine ldI hx hb hE hP 5 rfl (vp_in_iff.mpr ⟨by omega, by omega⟩) rfl rfl dX11_misfitOf_196 ?_
          refine lv_topi (fun t39 et39 => ?_)
          have hpt39 := prog_facts hRf30 (s := l4_30.toInt.toNat) (by omega) (t := t39) et39
          rw [hs4_f30, hs5_f30] at hpt39
          refine lv_if_eq (tgt := 211) hx hb dX11_misfitOf_197 (by decide) (fun c40 => ?_) (fun c40 => ?_)
          · skip
            have zc40 : t39.toInt = 0 := by rw [fa_eq, show (0 : Int32).toInt = 0 from by decide] at c40; exact c40
            refine lv_aload_n hx hb dX11_misfitOf_211 rfl (lv_at hl 2 rfl) ?_
            refine va_get (D := (dC, dI)) (ci := 11) (v := .ref (r 16)) (C := RX11) (T := TX11) (N := 79) hx hb hts inB_11 hown hE.1 hP 0 rfl rfl 16 (by decide) (hts _ k_1336) (fun _ h9 => h9) rfl dX11_misfitOf_212 ?_
            refine lv_iload_n hx hb dX11_misfitOf_215 rfl (lv_at hl 1 rfl) ?_
            refine lv_aload_n hx hb dX11_misfitOf_216 rfl (lv_at hl 2 rfl) ?_
            refine va_get (D := (dC, dI)) (ci := 11) (v := .ref (r 13)) (C := RX11) (T := TX11) (N := 79) hx hb hts inB_11 hown hE.1 hP 0 rfl rfl 13 (by decide) (hts _ k_1333) (fun _ h9 => h9) rfl dX11_misfitOf_217 ?_
            refine lv_iload hx hb dX11_misfitOf_220 (lv_at hl 0 rfl) ?_
            refine ldI hx hb hE hP 5 rfl (vp_in_iff.mpr ⟨by omega, by omega⟩) rfl rfl dX11_misfitOf_222 ?_
            refine tI (y := t39) et39.symm ?_
            refine lv_if_ne (tgt := 236) hx hb dX11_misfitOf_223 (by decide) (fun c41 => ?_) (fun c41 => ?_)
            · skip
              have zc41 : ¬ (t39.toInt = 0) := by rw [fa_eq, show (0 : Int32).toInt = 0 from by decide] at c41; exact c41
              refine lv_aload_n hx hb dX11_misfitOf_236 rfl (lv_at hl 2 rfl) ?_
              refine va_get (D := (dC, dI)) (ci := 11) (v := .ref (r 26)) (C := RX11) (T := TX11) (N := 79) hx hb hts inB_11 hown hE.1 hP 0 rfl rfl 26 (by decide) (hts _ k_1346) (fun _ h9 => h9) rfl dX11_misfitOf_237 ?_
              refine lv_aload_n hx hb dX11_misfitOf_240 rfl (lv_at hl 2 rfl) ?_
              refine va_get (D := (dC, dI)) (ci := 11) (v := .ref (r 14)) (C := RX11) (T := TX11) (N := 79) hx hb hts inB_11 hown hE.1 hP 0 rfl rfl 14 (by decide) (hts _ k_1334) (fun _ h9 => h9) rfl dX11_misfitOf_241 ?_
              refine lv_iload hx hb dX11_misfitOf_244 (lv_at hl 0 rfl) ?_
              refine ldI hx hb hE hP 6 rfl (vp_in_iff.mpr ⟨by omega, by omega⟩) rfl rfl dX11_misfitOf_246 ?_
              refine lv_topi (fun t42 et42 => ?_)
              have hat42 : t42.toInt = (f 5 l4_30.toInt.toNat).toInt := by rw [et42, hs5_f30]; rfl
              refine ldI hx hb hE hP 9 rfl (vp_in_iff.mpr ⟨by omega, by omega⟩) rfl rfl dX11_misfitOf_247 ?_
              refine lv_topi (fun t43 et43 => ?_)
              refine stI hx hb hE hP hD hS 8 rfl (vp_in_iff.mpr ⟨by omega, by omega⟩) rfl dX11_misfitOf_248 (fun H locs hP hD hS => ?_)
              obtain ⟨f44, ef44, hP, hD⟩ : ∃ fz9, fz9 = upd2 f30 7 (upd (f30 7) l3_30.toNatClampNeg t43) ∧ va_P (dC, dI) vwCl (YW cy y0 r v30 fz9 w30 g30) H ∧ va_D A (YW cy y0 r v30 fz9 w30 g30) := ⟨_, rfl, hP, hD⟩
              have hCf44 : YC f44 := by rw [ef44]; exact hCf30
              have hs4_f44 : f44 4 = f 4 := by rw [ef44]; exact hs4_f30
              have hs5_f44 : f44 5 = f 5 := by rw [ef44]; exact hs5_f30
              have hRf44 : progOK (f44 4) (f44 5) (v30 9).toInt.toNat := by rw [ef44]; exact hRf30
              have hA_f44 : KF [7, 8] f44 f := by rw [ef44]; exact KF.up hA_f30 rfl
              obtain ⟨t45, et45⟩ : ∃ y : Int32, y = l3_30 + 1 := ⟨_, rfl⟩
              have rg46 := fb_rng l3_30
              have zt45 : t45.toInt = l3_30.toInt + 1 := by rw [et45]; exact add_i rfl (by decide) (by omega) (by omega)
              refine lv_iinc (v := t45) (lv' := [(3, .int t45), (4, .int l4_30), (0, .ref y0), (1, .int p1), (2, .int p2)]) hx hb dX11_misfitOf_249 hl (k := 1) rfl (by rw [et45]; rfl) (by decide) rfl (fun ls hl => ?_)
              refine lv_goto (tgt := 331) hx hb dX11_misfitOf_252 (by decide) ?_
              obtain ⟨t47, et47⟩ : ∃ y : Int32, y = l4_30 + 1 := ⟨_, rfl⟩
              have zt47 : t47.toInt = l4_30.toInt + 1 := by rw [et47]; exact add_i rfl (by decide) (by omega) (by omega)
              refine lv_iinc (v := t47) (lv' := [(4, .int t47), (3, .int t45), (0, .ref y0), (1, .int p1), (2, .int p2)]) hx hb dX11_misfitOf_331 hl (k := 1) rfl (by rw [et47]; rfl) (by decide) rfl (fun ls hl => ?_)
              refine lv_goto (tgt := 181) hx hb dX11_misfitOf_334 (by decide) ?_
              have rg48 := fb_rng t45
              have rg49 := fb_rng t47
              exact ih30 t45 t47 v30 f44 w30 g30 hIv30 hCf44 hRf44 hq0_v30 hq1_v30 hq2_v30 hq3_v30 hq4_v30 hq5_v30 hq8_v30 hq9_v30 hq10_v30 hq13_v30 hq14_v30 hq15_v30 hq17_v30 hq18_v30 hq24_v30 hq25_v30 hq35_v30 hq36_v30 hq38_v30 hq39_v30 ((gsY_X11_misfitOf_1_q1 c31 et39 c40 c41 et42 et43 ef44 et45 et47).symm.trans hT30) ⟨show (0 : Int) ≤ t45.toInt by omega, show t45.toInt ≤ (64 : Int) by omega⟩ ⟨show (0 : Int) ≤ t47.toInt by omega, show t47.toInt ≤ (2147483647 : Int) by omega⟩ (by rw [show (t47.toInt).toNat = (l4_30.toInt).toNat + 1 by omega]; omega) hs4_f44 hs5_f44 hM_v30 hA_f44 (by show (2147483647 - t47.toInt).toNat < n30; omega) _ _ _ hP hD hS (lv_sub hl [0, 1, 2, 3, 4] rfl)
            · skip
              have zc41 : t39.toInt = 0 := by rw [fa_eq, show (0 : Int32).toInt = 0 from by decide] at c41; exact c41
              refine lv_aload_n hx hb dX11_misfitOf_226 rfl (lv_at hl 2 rfl) ?_
              refine va_get (D := (dC, dI)) (ci := 11) (v := .ref (r 14)) (C := RX11) (T := TX11) (N := 79) hx hb hts inB_11 hown hE.1 hP 0 rfl rfl 14 (by decide) (hts _ k_1334) (fun _ h9 => h9) rfl dX11_misfitOf_227 ?_
              refine lv_iload hx hb dX11_misfitOf_230 (lv_at hl 0 rfl) ?_
              refine ldI hx hb hE hP 6 rfl (vp_in_iff.mpr ⟨by omega, by omega⟩) rfl rfl dX11_misfitOf_232 ?_
              refine lv_topi (fun t50 et50 => ?_)
              have hat50 : t50.toInt = (f 5 l4_30.toInt.toNat).toInt := by rw [et50, hs5_f30]; rfl
              refine lv_goto (tgt := 248) hx hb dX11_misfitOf_233 (by decide) ?_
              refine stI hx hb hE hP hD hS 8 rfl (vp_in_iff.mpr ⟨by omega, by omega⟩) rfl dX11_misfitOf_248 (fun H locs hP hD hS => ?_)
              obtain ⟨f51, ef51, hP, hD⟩ : ∃ fz9, fz9 = upd2 f30 7 (upd (f30 7) l3_30.toNatClampNeg t50) ∧ va_P (dC, dI) vwCl (YW cy y0 r v30 fz9 w30 g30) H ∧ va_D A (YW cy y0 r v30 fz9 w30 g30) := ⟨_, rfl, hP, hD⟩
              have hCf51 : YC f51 := by rw [ef51]; exact hCf30
              have hs4_f51 : f51 4 = f 4 := by rw [ef51]; exact hs4_f30
              have hs5_f51 : f51 5 = f 5 := by rw [ef51]; exact hs5_f30
              have hRf51 : progOK (f51 4) (f51 5) (v30 9).toInt.toNat := by rw [ef51]; exact hRf30
              have hA_f51 : KF [7, 8] f51 f := by rw [ef51]; exact KF.up hA_f30 rfl
              obtain ⟨t52, et52⟩ : ∃ y : Int32, y = l3_30 + 1 := ⟨_, rfl⟩
              have rg53 := fb_rng l3_30
              have zt52 : t52.toInt = l3_30.toInt + 1 := by rw [et52]; exact add_i rfl (by decide) (by omega) (by omega)
              refine lv_iinc (v := t52) (lv' := [(3, .int t52), (4, .int l4_30), (0, .ref y0), (1, .int p1), (2, .int p2)]) hx hb dX11_misfitOf_249 hl (k := 1) rfl (by rw [et52]; rfl) (by decide) rfl (fun ls hl => ?_)
              refine lv_goto (tgt := 331) hx hb dX11_misfitOf_252 (by decide) ?_
              obtain ⟨t54, et54⟩ : ∃ y : Int32, y = l4_30 + 1 := ⟨_, rfl⟩
              have zt54 : t54.toInt = l4_30.toInt + 1 := by rw [et54]; exact add_i rfl (by decide) (by omega) (by omega)
              refine lv_iinc (v := t54) (lv' := [(4, .int t54), (3, .int t52), (0, .ref y0), (1, .int p1), (2, .int p2)]) hx hb dX11_misfitOf_331 hl (k := 1) rfl (by rw [et54]; rfl) (by decide) rfl (fun ls hl => ?_)
              refine lv_goto (tgt := 181) hx hb dX11_misfitOf_334 (by decide) ?_
              have rg55 := fb_rng t52
              have rg56 := fb_rng t54
              exact ih30 t52 t54 v30 f51 w30 g30 hIv30 hCf51 hRf51 hq0_v30 hq1_v30 hq2_v30 hq3_v30 hq4_v30 hq5_v30 hq8_v30 hq9_v30 hq10_v30 hq13_v30 hq14_v30 hq15_v30 hq17_v30 hq18_v30 hq24_v30 hq25_v30 hq35_v30 hq36_v30 hq38_v30 hq39_v30 ((gsY_X11_misfitOf_1_q2 c31 et39 c40 c41 et50 ef51 et52 et54).symm.trans hT30) ⟨show (0 : Int) ≤ t52.toInt by omega, show t52.toInt ≤ (64 : Int) by omega⟩ ⟨show (0 : Int) ≤ t54.toInt by omega, show t54.toInt ≤ (2147483647 : Int) by omega⟩ (by rw [show (t54.toInt).toNat = (l4_30.toInt).toNat + 1 by omega]; omega) hs4_f51 hs5_f51 hM_v30 hA_f51 (by show (2147483647 - t54.toInt).toNat < n30; omega) _ _ _ hP hD hS (lv_sub hl [0, 1, 2, 3, 4] rfl)
          · skip
            have zc40 : ¬ (t39.toInt = 0) := by rw [fa_eq, show (0 : Int32).toInt = 0 from by decide] at c40; exact c40
            refine lv_aload_n hx hb dX11_misfitOf_200 rfl (lv_at hl 2 rfl) ?_
            refine va_get (D := (dC, dI)) (ci := 11) (v := .ref (r 13)) (C := RX11) (T := TX11) (N := 79) hx hb hts inB_11 hown hE.1 hP 0 rfl rfl 13 (by decide) (hts _ k_1333) (fun _ h9 => h9) rfl dX11_misfitOf_201 ?_
            refine lv_iload hx hb dX11_misfitOf_204 (lv_at hl 0 rfl) ?_
            refine ldI hx hb hE hP 5 rfl (vp_in_iff.mpr ⟨by omega, by omega⟩) rfl rfl dX11_misfitOf_206 ?_
            refine tI (y := t39) et39.symm ?_
            refine lv_iconst (v := 1) hx hb dX11_misfitOf_207 (by decide) ?_
            refine lv_icmp_ne (tgt := 255) hx hb dX11_misfitOf_208 (by decide) (fun c57 => ?_) (fun c57 => ?_)
            · skip
              have zc57 : ¬ (t39.toInt = 1) := by rw [fa_eq, show (1 : Int32).toInt = 1 from by decide] at c57; exact c57
              refine lv_aload_n hx hb dX11_misfitOf_255 rfl (lv_at hl 2 rfl) ?_
              refine va_get (D := (dC, dI)) (ci := 11) (v := .ref (r 13)) (C := RX11) (T := TX11) (N := 79) hx hb hts inB_11 hown hE.1 hP 0 rfl rfl 13 (by decide) (hts _ k_1333) (fun _ h9 => h9) rfl dX11_misfitOf_256 ?_
              refine lv_iload hx hb dX11_misfitOf_259 (lv_at hl 0 rfl) ?_
              refine ldI hx hb hE hP 5 rfl (vp_in_iff.mpr ⟨by omega, by omega⟩) rfl rfl dX11_misfitOf_261 ?_
              refine tI (y := t39) et39.symm ?_
              refine lv_iconst (v := 2) hx hb dX11_misfitOf_262 (by decide) ?_
              refine lv_icmp_ne (tgt := 296) hx hb dX11_misfitOf_263 (by decide) (fun c58 => ?_) (fun c58 => ?_)
              · skip
                have zc58 : ¬ (t39.toInt = 2) := by rw [fa_eq, show (2 : Int32).toInt = 2 from by decide] at c58; exact c58
                obtain ⟨t59, et59⟩ : ∃ y : Int32, y = l3_30 + (-1) := ⟨_, rfl⟩
                have rg60 := fb_rng l3_30
                have zt59 : t59.toInt = l3_30.toInt + (-1) := by rw [et59]; exact add_i rfl (by decide) (by omega) (by omega)
                refine lv_iinc (v := t59) (lv' := [(3, .int t59), (4, .int l4_30), (0, .ref y0), (1, .int p1), (2, .int p2)]) hx hb dX11_misfitOf_296 hl (k := 1) rfl (by rw [et59]; rfl) (by decide) rfl (fun ls hl => ?_)
                refine lv_aload_n hx hb dX11_misfitOf_299 rfl (lv_at hl 2 rfl) ?_
                refine va_get (D := (dC, dI)) (ci := 11) (v := .ref (r 16)) (C := RX11) (T := TX11) (N := 79) hx hb hts inB_11 hown hE.1 hP 0 rfl rfl 16 (by decide) (hts _ k_1336) (fun _ h9 => h9) rfl dX11_misfitOf_300 ?_
                refine lv_iload_n hx hb dX11_misfitOf_303 rfl (lv_at hl 0 rfl) ?_
                refine lv_iconst (v := 1) hx hb dX11_misfitOf_304 (by decide) ?_
                refine lv_isub hx hb dX11_misfitOf_305 ?_
                refine lv_topi (fun t61 et61 => ?_)
                have rg62 := fb_rng t59
                have zt61 : t61.toInt = t59.toInt - 1 := by rw [et61]; exact sub_i rfl (by decide) (by omega) (by omega)
                refine lv_aload_n hx hb dX11_misfitOf_306 rfl (lv_at hl 2 rfl) ?_
                refine va_get (D := (dC, dI)) (ci := 11) (v := .ref (r 14)) (C := RX11) (T := TX11) (N := 79) hx hb hts inB_11 hown hE.1 hP 0 rfl rfl 14 (by decide) (hts _ k_1334) (fun _ h9 => h9) rfl dX11_misfitOf_307 ?_
                refine lv_iload hx hb dX11_misfitOf_310 (lv_at hl 1 rfl) ?_
                refine ldI hx hb hE hP 6 rfl (vp_in_iff.mpr ⟨by omega, by omega⟩) rfl rfl dX11_misfitOf_312 ?_
                refine lv_topi (fun t63 et63 => ?_)
                have hat63 : t63.toInt = (f 5 l4_30.toInt.toNat).toInt := by rw [et63, hs5_f30]; rfl
                refine lv_aload_n hx hb dX11_misfitOf_313 rfl (lv_at hl 2 rfl) ?_
                refine va_get (D := (dC, dI)) (ci := 11) (v := .ref (r 16)) (C := RX11) (T := TX11) (N := 79) hx hb hts inB_11 hown hE.1 hP 0 rfl rfl 16 (by decide) (hts _ k_1336) (fun _ h9 => h9) rfl dX11_misfitOf_314 ?_
                refine lv_iload_n hx hb dX11_misfitOf_317 rfl (lv_at hl 0 rfl) ?_
                refine lv_iconst (v := 1) hx hb dX11_misfitOf_318 (by decide) ?_
                refine lv_isub hx hb dX11_misfitOf_319 ?_
                refine tI (y := t61) et61.symm ?_
                refine ldI hx hb hE hP 8 rfl (vp_in_iff.mpr ⟨by omega, by omega⟩) rfl rfl dX11_misfitOf_320 ?_
                refine lv_topi (fun t64 et64 => ?_)
                refine lv_aload_n hx hb dX11_misfitOf_321 rfl (lv_at hl 2 rfl) ?_
                refine va_get (D := (dC, dI)) (ci := 11) (v := .ref (r 16)) (C := RX11) (T := TX11) (N := 79) hx hb hts inB_11 hown hE.1 hP 0 rfl rfl 16 (by decide) (hts _ k_1336) (fun _ h9 => h9) rfl dX11_misfitOf_322 ?_
                refine lv_iload_n hx hb dX11_misfitOf_325 rfl (lv_at hl 0 rfl) ?_
                refine ldI hx hb hE hP 8 rfl (vp_in_iff.mpr ⟨by omega, by omega⟩) rfl rfl dX11_misfitOf_326 ?_
                refine lv_topi (fun t65 et65 => ?_)
                refine cbSi (n := 3) (rest := [.int t61, .ref (r 16)]) hx hb hml hown hts hE hP hD hS hA (sY_X11_done_1 NF l dC dI cy y0 r t63 t64 t65 v30 f30 w30 g30 hIv30 hCf30 hRf30 ) k_1764 k_1765 k_114 k_1766 (by decide +kernel) ⟨Nat.le_of_ble_eq_true rfl, Nat.le_of_ble_eq_true rfl⟩ (rfl) hl.1 rfl (Nat.le_of_ble_eq_true rfl) dX11_misfitOf_327 (fun r66 u H locs hw hP hD hS => ?_)
                have hG67 := hw
                refine stI hx hb hE hP hD hS 8 rfl (vp_in_iff.mpr ⟨by omega, by omega⟩) rfl dX11_misfitOf_330 (fun H locs hP hD hS => ?_)
                obtain ⟨f68, ef68, hP, hD⟩ : ∃ fz9, fz9 = upd2 f30 7 (upd (f30 7) t61.toNatClampNeg r66) ∧ va_P (dC, dI) vwCl (YW cy y0 r v30 fz9 w30 g30) H ∧ va_D A (YW cy y0 r v30 fz9 w30 g30) := ⟨_, rfl, hP, hD⟩
                have hCf68 : YC f68 := by rw [ef68]; exact hCf30
                have hs4_f68 : f68 4 = f 4 := by rw [ef68]; exact hs4_f30
                have hs5_f68 : f68 5 = f 5 := by rw [ef68]; exact hs5_f30
                have hRf68 : progOK (f68 4) (f68 5) (v30 9).toInt.toNat := by rw [ef68]; exact hRf30
                have hA_f68 : KF [7, 8] f68 f := by rw [ef68]; exact KF.up hA_f30 rfl
                obtain ⟨t69, et69⟩ : ∃ y : Int32, y = l4_30 + 1 := ⟨_, rfl⟩
                have zt69 : t69.toInt = l4_30.toInt + 1 := by rw [et69]; exact add_i rfl (by decide) (by omega) (by omega)
                refine lv_iinc (v := t69) (lv' := [(4, .int t69), (3, .int t59), (0, .ref y0), (1, .int p1), (2, .int p2)]) hx hb dX11_misfitOf_331 hl (k := 1) rfl (by rw [et69]; rfl) (by decide) rfl (fun ls hl => ?_)
                refine lv_goto (tgt := 181) hx hb dX11_misfitOf_334 (by decide) ?_
                have rg70 := fb_rng t69
                exact ih30 t59 t69 v30 f68 w30 g30 hIv30 hCf68 hRf68 hq0_v30 hq1_v30 hq2_v30 hq3_v30 hq4_v30 hq5_v30 hq8_v30 hq9_v30 hq10_v30 hq13_v30 hq14_v30 hq15_v30 hq17_v30 hq18_v30 hq24_v30 hq25_v30 hq35_v30 hq36_v30 hq38_v30 hq39_v30 ((gsY_X11_misfitOf_1_q3 c31 et39 c40 c57 c58 et59 et61 et63 et64 et65 hG67.symm ef68 et69).symm.trans hT30) ⟨show (0 : Int) ≤ t59.toInt by omega, show t59.toInt ≤ (64 : Int) by omega⟩ ⟨show (0 : Int) ≤ t69.toInt by omega, show t69.toInt ≤ (2147483647 : Int) by omega⟩ (by rw [show (t69.toInt).toNat = (l4_30.toInt).toNat + 1 by omega]; omega) hs4_f68 hs5_f68 hM_v30 hA_f68 (by show (2147483647 - t69.toInt).toNat < n30; omega) _ _ _ hP hD hS (lv_sub hl [0, 1, 2, 3, 4] rfl)
              · skip
                have zc58 : t39.toInt = 2 := by rw [fa_eq, show (2 : Int32).toInt = 2 from by decide] at c58; exact c58
                refine lv_aload_n hx hb dX11_misfitOf_266 rfl (lv_at hl 2 rfl) ?_
                refine va_get (D := (dC, dI)) (ci := 11) (v := .ref (r 16)) (C := RX11) (T := TX11) (N := 79) hx hb hts inB_11 hown hE.1 hP 0 rfl rfl 16 (by decide) (hts _ k_1336) (fun _ h9 => h9) rfl dX11_misfitOf_267 ?_
                refine lv_iload_n hx hb dX11_misfitOf_270 rfl (lv_at hl 1 rfl) ?_
                refine lv_iconst (v := 1) hx hb dX11_misfitOf_271 (by decide) ?_
                refine lv_isub hx hb dX11_misfitOf_272 ?_
                refine lv_topi (fun t71 et71 => ?_)
                have rg72 := fb_rng l3_30
                have zt71 : t71.toInt = l3_30.toInt - 1 := by rw [et71]; exact sub_i rfl (by decide) (by omega) (by omega)
                refine lv_aload_n hx hb dX11_misfitOf_273 rfl (lv_at hl 2 rfl) ?_
                refine va_get (D := (dC, dI)) (ci := 11) (v := .ref (r 16)) (C := RX11) (T := TX11) (N := 79) hx hb hts inB_11 hown hE.1 hP 0 rfl rfl 16 (by decide) (hts _ k_1336) (fun _ h9 => h9) rfl dX11_misfitOf_274 ?_
                refine lv_iload_n hx hb dX11_misfitOf_277 rfl (lv_at hl 1 rfl) ?_
                refine lv_iconst (v := 1) hx hb dX11_misfitOf_278 (by decide) ?_
                refine lv_isub hx hb dX11_misfitOf_279 ?_
                refine tI (y := t71) et71.symm ?_
                refine ldI hx hb hE hP 8 rfl (vp_in_iff.mpr ⟨by omega, by omega⟩) rfl rfl dX11_misfitOf_280 ?_
                refine lv_topi (fun t73 et73 => ?_)
                refine lv_if_ne (tgt := 288) hx hb dX11_misfitOf_281 (by decide) (fun c74 => ?_) (fun c74 => ?_)
                · skip
                  have zc74 : ¬ (t73.toInt = 0) := by rw [fa_eq, show (0 : Int32).toInt = 0 from by decide] at c74; exact c74
                  refine lv_iconst (v := 0) hx hb dX11_misfitOf_288 (by decide) ?_
                  have lt75 : (0 : Int32).toInt = 0 := by decide
                  refine cbSi (n := 1) (rest := [.int t71, .ref (r 16)]) hx hb hml hown hts hE hP hD hS hA (sY_X11_truth_1 NF l dC dI cy y0 r 0 v30 f30 w30 g30 hIv30 hCf30 hRf30 ) k_1761 k_1762 k_114 k_1763 (by decide +kernel) ⟨Nat.le_of_ble_eq_true rfl, Nat.le_of_ble_eq_true rfl⟩ (rfl) hl.1 rfl (Nat.le_of_ble_eq_true rfl) dX11_misfitOf_289 (fun r76 u H locs hw hP hD hS => ?_)
                  obtain ⟨hG77, hw⟩ := hw
                  refine stI hx hb hE hP hD hS 8 rfl (vp_in_iff.mpr ⟨by omega, by omega⟩) rfl dX11_misfitOf_292 (fun H locs hP hD hS => ?_)
                  obtain ⟨f78, ef78, hP, hD⟩ : ∃ fz9, fz9 = upd2 f30 7 (upd (f30 7) t71.toNatClampNeg r76) ∧ va_P (dC, dI) vwCl (YW cy y0 r v30 fz9 w30 g30) H ∧ va_D A (YW cy y0 r v30 fz9 w30 g30) := ⟨_, rfl, hP, hD⟩
                  have hCf78 : YC f78 := by rw [ef78]; exact hCf30
                  have hs4_f78 : f78 4 = f 4 := by rw [ef78]; exact hs4_f30
                  have hs5_f78 : f78 5 = f 5 := by rw [ef78]; exact hs5_f30
                  have hRf78 : progOK (f78 4) (f78 5) (v30 9).toInt.toNat := by rw [ef78]; exact hRf30
                  have hA_f78 : KF [7, 8] f78 f := by rw [ef78]; exact KF.up hA_f30 rfl
                  refine lv_goto (tgt := 331) hx hb dX11_misfitOf_293 (by decide) ?_
                  obtain ⟨t79, et79⟩ : ∃ y : Int32, y = l4_30 + 1 := ⟨_, rfl⟩
                  have zt79 : t79.toInt = l4_30.toInt + 1 := by rw [et79]; exact add_i rfl (by decide) (by omega) (by omega)
                  refine lv_iinc (v := t79) (lv' := [(4, .int t79), (3, .int l3_30), (0, .ref y0), (1, .int p1), (2, .int p2)]) hx hb dX11_misfitOf_331 hl (k := 0) rfl (by rw [et79]; rfl) (by decide) rfl (fun ls hl => ?_)
                  refine lv_goto (tgt := 181) hx hb dX11_misfitOf_334 (by decide) ?_
                  have rg80 := fb_rng t79
                  exact ih30 l3_30 t79 v30 f78 w30 g30 hIv30 hCf78 hRf78 hq0_v30 hq1_v30 hq2_v30 hq3_v30 hq4_v30 hq5_v30 hq8_v30 hq9_v30 hq10_v30 hq13_v30 hq14_v30 hq15_v30 hq17_v30 hq18_v30 hq24_v30 hq25_v30 hq35_v30 hq36_v30 hq38_v30 hq39_v30 ((gsY_X11_misfitOf_1_q4 c31 et39 c40 c57 c58 et71 et73 c74 hG77.symm ef78 et79).symm.trans hT30) ⟨show (0 : Int) ≤ l3_30.toInt by omega, show l3_30.toInt ≤ (64 : Int) by omega⟩ ⟨show (0 : Int) ≤ t79.toInt by omega, show t79.toInt ≤ (2147483647 : Int) by omega⟩ (by rw [show (t79.toInt).toNat = (l4_30.toInt).toNat + 1 by omega]; omega) hs4_f78 hs5_f78 hM_v30 hA_f78 (by show (2147483647 - t79.toInt).toNat < n30; omega) _ _ _ hP hD hS (lv_sub hl [0, 1, 2, 3, 4] rfl)
                · skip
                  have zc74 : t73.toInt = 0 := by rw [fa_eq, show (0 : Int32).toInt = 0 from by decide] at c74; exact c74
                  refine lv_iconst (v := 1) hx hb dX11_misfitOf_284 (by decide) ?_
                  refine lv_goto (tgt := 289) hx hb dX11_misfitOf_285 (by decide) ?_
                  have lt81 : (1 : Int32).toInt = 1 := by decide
                  refine cbSi (n := 1) (rest := [.int t71, .ref (r 16)]) hx hb hml hown hts hE hP hD hS hA (sY_X11_truth_1 NF l dC dI cy y0 r 1 v30 f30 w30 g30 hIv30 hCf30 hRf30 ) k_1761 k_1762 k_114 k_1763 (by decide +kernel) ⟨Nat.le_of_ble_eq_true rfl, Nat.le_of_ble_eq_true rfl⟩ (rfl) hl.1 rfl (Nat.le_of_ble_eq_true rfl) dX11_misfitOf_289 (fun r82 u H locs hw hP hD hS => ?_)
                  obtain ⟨hG83, hw⟩ := hw
                  refine stI hx hb hE hP hD hS 8 rfl (vp_in_iff.mpr ⟨by omega, by omega⟩) rfl dX11_misfitOf_292 (fun H locs hP hD hS => ?_)
                  obtain ⟨f84, ef84, hP, hD⟩ : ∃ fz9, fz9 = upd2 f30 7 (upd (f30 7) t71.toNatClampNeg r82) ∧ va_P (dC, dI) vwCl (YW cy y0 r v30 fz9 w30 g30) H ∧ va_D A (YW cy y0 r v30 fz9 w30 g30) := ⟨_, rfl, hP, hD⟩
                  have hCf84 : YC f84 := by rw [ef84]; exact hCf30
                  have hs4_f84 : f84 4 = f 4 := by rw [ef84]; exact hs4_f30
                  have hs5_f84 : f84 5 = f 5 := by rw [ef84]; exact hs5_f30
                  have hRf84 : progOK (f84 4) (f84 5) (v30 9).toInt.toNat := by rw [ef84]; exact hRf30
                  have hA_f84 : KF [7, 8] f84 f := by rw [ef84]; exact KF.up hA_f30 rfl
                  refine lv_goto (tgt := 331) hx hb dX11_misfitOf_293 (by decide) ?_
                  obtain ⟨t85, et85⟩ : ∃ y : Int32, y = l4_30 + 1 := ⟨_, rfl⟩
                  have zt85 : t85.toInt = l4_30.toInt + 1 := by rw [et85]; exact add_i rfl (by decide) (by omega) (by omega)
                  refine lv_iinc (v := t85) (lv' := [(4, .int t85), (3, .int l3_30), (0, .ref y0), (1, .int p1), (2, .int p2)]) hx hb dX11_misfitOf_331 hl (k := 0) rfl (by rw [et85]; rfl) (by decide) rfl (fun ls hl => ?_)
                  refine lv_goto (tgt := 181) hx hb dX11_misfitOf_334 (by decide) ?_
                  have rg86 := fb_rng t85
                  exact ih30 l3_30 t85 v30 f84 w30 g30 hIv30 hCf84 hRf84 hq0_v30 hq1_v30 hq2_v30 hq3_v30 hq4_v30 hq5_v30 hq8_v30 hq9_v30 hq10_v30 hq13_v30 hq14_v30 hq15_v30 hq17_v30 hq18_v30 hq24_v30 hq25_v30 hq35_v30 hq36_v30 hq38_v30 hq39_v30 ((gsY_X11_misfitOf_1_q5 c31 et39 c40 c57 c58 et71 et73 c74 hG83.symm ef84 et85).symm.trans hT30) ⟨show (0 : Int) ≤ l3_30.toInt by omega, show l3_30.toInt ≤ (64 : Int) by omega⟩ ⟨show (0 : Int) ≤ t85.toInt by omega, show t85.toInt ≤ (2147483647 : Int) by omega⟩ (by rw [show (t85.toInt).toNat = (l4_30.toInt).toNat + 1 by omega]; omega) hs4_f84 hs5_f84 hM_v30 hA_f84 (by show (2147483647 - t85.toInt).toNat < n30; omega) _ _ _ hP hD hS (lv_sub hl [0, 1, 2, 3, 4] rfl)
            · skip
              have zc57 : t39.toInt = 1 := by rw [fa_eq, show (1 : Int32).toInt = 1 from by decide] at c57; exact c57
              refine lv_aload_n hx hb dX11_misfitOf_211 rfl (lv_at hl 2 rfl) ?_
              refine va_get (D := (dC, dI)) (ci := 11) (v := .ref (r 16)) (C := RX11) (T := TX11) (N := 79) hx hb hts inB_11 hown hE.1 hP 0 rfl rfl 16 (by decide) (hts _ k_1336) (fun _ h9 => h9) rfl dX11_misfitOf_212 ?_
              refine lv_iload_n hx hb dX11_misfitOf_215 rfl (lv_at hl 1 rfl) ?_
              refine lv_aload_n hx hb dX11_misfitOf_216 rfl (lv_at hl 2 rfl) ?_
              refine va_get (D := (dC, dI)) (ci := 11) (v := .ref (r 13)) (C := RX11) (T := TX11) (N := 79) hx hb hts inB_11 hown hE.1 hP 0 rfl rfl 13 (by decide) (hts _ k_1333) (fun _ h9 => h9) rfl dX11_misfitOf_217 ?_
              refine lv_iload hx hb dX11_misfitOf_220 (lv_at hl 0 rfl) ?_
              refine ldI hx hb hE hP 5 rfl (vp_in_iff.mpr ⟨by omega, by omega⟩) rfl rfl dX11_misfitOf_222 ?_
              refine tI (y := t39) et39.symm ?_
              refine lv_if_ne (tgt := 236) hx hb dX11_misfitOf_223 (by decide) (fun c87 => ?_) (fun c87 => ?_)
              · skip
                have zc87 : ¬ (t39.toInt = 0) := by rw [fa_eq, show (0 : Int32).toInt = 0 from by decide] at c87; exact c87
                refine lv_aload_n hx hb dX11_misfitOf_236 rfl (lv_at hl 2 rfl) ?_
                refine va_get (D := (dC, dI)) (ci := 11) (v := .ref (r 26)) (C := RX11) (T := TX11) (N := 79) hx hb hts inB_11 hown hE.1 hP 0 rfl rfl 26 (by decide) (hts _ k_1346) (fun _ h9 => h9) rfl dX11_misfitOf_237 ?_
                refine lv_aload_n hx hb dX11_misfitOf_240 rfl (lv_at hl 2 rfl) ?_
                refine va_get (D := (dC, dI)) (ci := 11) (v := .ref (r 14)) (C := RX11) (T := TX11) (N := 79) hx hb hts inB_11 hown hE.1 hP 0 rfl rfl 14 (by decide) (hts _ k_1334) (fun _ h9 => h9) rfl dX11_misfitOf_241 ?_
                refine lv_iload hx hb dX11_misfitOf_244 (lv_at hl 0 rfl) ?_
                refine ldI hx hb hE hP 6 rfl (vp_in_iff.mpr ⟨by omega, by omega⟩) rfl rfl dX11_misfitOf_246 ?_
                refine lv_topi (fun t88 et88 => ?_)
                have hat88 : t88.toInt = (f 5 l4_30.toInt.toNat).toInt := by rw [et88, hs5_f30]; rfl
                refine ldI hx hb hE hP 9 rfl (vp_in_iff.mpr ⟨by omega, by omega⟩) rfl rfl dX11_misfitOf_247 ?_
                refine lv_topi (fun t89 et89 => ?_)
                refine stI hx hb hE hP hD hS 8 rfl (vp_in_iff.mpr ⟨by omega, by omega⟩) rfl dX11_misfitOf_248 (fun H locs hP hD hS => ?_)
                obtain ⟨f90, ef90, hP, hD⟩ : ∃ fz9, fz9 = upd2 f30 7 (upd (f30 7) l3_30.toNatClampNeg t89) ∧ va_P (dC, dI) vwCl (YW cy y0 r v30 fz9 w30 g30) H ∧ va_D A (YW cy y0 r v30 fz9 w30 g30) := ⟨_, rfl, hP, hD⟩
                have hCf90 : YC f90 := by rw [ef90]; exact hCf30
                have hs4_f90 : f90 4 = f 4 := by rw [ef90]; exact hs4_f30
                have hs5_f90 : f90 5 = f 5 := by rw [ef90]; exact hs5_f30
                have hRf90 : progOK (f90 4) (f90 5) (v30 9).toInt.toNat := by rw [ef90]; exact hRf30
                have hA_f90 : KF [7, 8] f90 f := by rw [ef90]; exact KF.up hA_f30 rfl
                obtain ⟨t91, et91⟩ : ∃ y : Int32, y = l3_30 + 1 := ⟨_, rfl⟩
                have rg92 := fb_rng l3_30
                have zt91 : t91.toInt = l3_30.toInt + 1 := by rw [et91]; exact add_i rfl (by decide) (by omega) (by omega)
                refine lv_iinc (v := t91) (lv' := [(3, .int t91), (4, .int l4_30), (0, .ref y0), (1, .int p1), (2, .int p2)]) hx hb dX11_misfitOf_249 hl (k := 1) rfl (by rw [et91]; rfl) (by decide) rfl (fun ls hl => ?_)
                refine lv_goto (tgt := 331) hx hb dX11_misfitOf_252 (by decide) ?_
                obtain ⟨t93, et93⟩ : ∃ y : Int32, y = l4_30 + 1 := ⟨_, rfl⟩
                have zt93 : t93.toInt = l4_30.toInt + 1 := by rw [et93]; exact add_i rfl (by decide) (by omega) (by omega)
                refine lv_iinc (v := t93) (lv' := [(4, .int t93), (3, .int t91), (0, .ref y0), (1, .int p1), (2, .int p2)]) hx hb dX11_misfitOf_331 hl (k := 1) rfl (by rw [et93]; rfl) (by decide) rfl (fun ls hl => ?_)
                refine lv_goto (tgt := 181) hx hb dX11_misfitOf_334 (by decide) ?_
                have rg94 := fb_rng t91
                have rg95 := fb_rng t93
                exact ih30 t91 t93 v30 f90 w30 g30 hIv30 hCf90 hRf90 hq0_v30 hq1_v30 hq2_v30 hq3_v30 hq4_v30 hq5_v30 hq8_v30 hq9_v30 hq10_v30 hq13_v30 hq14_v30 hq15_v30 hq17_v30 hq18_v30 hq24_v30 hq25_v30 hq35_v30 hq36_v30 hq38_v30 hq39_v30 ((gsY_X11_misfitOf_1_q6 c31 et39 c40 c57 c87 et88 et89 ef90 et91 et93).symm.trans hT30) ⟨show (0 : Int) ≤ t91.toInt by omega, show t91.toInt ≤ (64 : Int) by omega⟩ ⟨show (0 : Int) ≤ t93.toInt by omega, show t93.toInt ≤ (2147483647 : Int) by omega⟩ (by rw [show (t93.toInt).toNat = (l4_30.toInt).toNat + 1 by omega]; omega) hs4_f90 hs5_f90 hM_v30 hA_f90 (by show (2147483647 - t93.toInt).toNat < n30; omega) _ _ _ hP hD hS (lv_sub hl [0, 1, 2, 3, 4] rfl)
              · skip
                have zc87 : t39.toInt = 0 := by rw [fa_eq, show (0 : Int32).toInt = 0 from by decide] at c87; exact c87
                refine lv_aload_n hx hb dX11_misfitOf_226 rfl (lv_at hl 2 rfl) ?_
                refine va_get (D := (dC, dI)) (ci := 11) (v := .ref (r 14)) (C := RX11) (T := TX11) (N := 79) hx hb hts inB_11 hown hE.1 hP 0 rfl rfl 14 (by decide) (hts _ k_1334) (fun _ h9 => h9) rfl dX11_misfitOf_227 ?_
                refine lv_iload hx hb dX11_misfitOf_230 (lv_at hl 0 rfl) ?_
                refine ldI hx hb hE hP 6 rfl (vp_in_iff.mpr ⟨by omega, by omega⟩) rfl rfl dX11_misfitOf_232 ?_
                refine lv_topi (fun t96 et96 => ?_)
                have hat96 : t96.toInt = (f 5 l4_30.toInt.toNat).toInt := by rw [et96, hs5_f30]; rfl
                refine lv_goto (tgt := 248) hx hb dX11_misfitOf_233 (by decide) ?_
                refine stI hx hb hE hP hD hS 8 rfl (vp_in_iff.mpr ⟨by omega, by omega⟩) rfl dX11_misfitOf_248 (fun H locs hP hD hS => ?_)
                obtain ⟨f97, ef97, hP, hD⟩ : ∃ fz9, fz9 = upd2 f30 7 (upd (f30 7) l3_30.toNatClampNeg t96) ∧ va_P (dC, dI) vwCl (YW cy y0 r v30 fz9 w30 g30) H ∧ va_D A (YW cy y0 r v30 fz9 w30 g30) := ⟨_, rfl, hP, hD⟩
                have hCf97 : YC f97 := by rw [ef97]; exact hCf30
                have hs4_f97 : f97 4 = f 4 := by rw [ef97]; exact hs4_f30
                have hs5_f97 : f97 5 = f 5 := by rw [ef97]; exact hs5_f30
                have hRf97 : progOK (f97 4) (f97 5) (v30 9).toInt.toNat := by rw [ef97]; exact hRf30
                have hA_f97 : KF [7, 8] f97 f := by rw [ef97]; exact KF.up hA_f30 rfl
                obtain ⟨t98, et98⟩ : ∃ y : Int32, y = l3_30 + 1 := ⟨_, rfl⟩
                have rg99 := fb_rng l3_30
                have zt98 : t98.toInt = l3_30.toInt + 1 := by rw [et98]; exact add_i rfl (by decide) (by omega) (by omega)
                refine lv_iinc (v := t98) (lv' := [(3, .int t98), (4, .int l4_30), (0, .ref y0), (1, .int p1), (2, .int p2)]) hx hb dX11_misfitOf_249 hl (k := 1) rfl (by rw [et98]; rfl) (by decide) rfl (fun ls hl => ?_)
                refine lv_goto (tgt := 331) hx hb dX11_misfitOf_252 (by decide) ?_
                obtain ⟨t100, et100⟩ : ∃ y : Int32, y = l4_30 + 1 := ⟨_, rfl⟩
                have zt100 : t100.toInt = l4_30.toInt + 1 := by rw [et100]; exact add_i rfl (by decide) (by omega) (by omega)
                refine lv_iinc (v := t100) (lv' := [(4, .int t100), (3, .int t98), (0, .ref y0), (1, .int p1), (2, .int p2)]) hx hb dX11_misfitOf_331 hl (k := 1) rfl (by rw [et100]; rfl) (by decide) rfl (fun ls hl => ?_)
                refine lv_goto (tgt := 181) hx hb dX11_misfitOf_334 (by decide) ?_
                have rg101 := fb_rng t98
                have rg102 := fb_rng t100
                exact ih30 t98 t100 v30 f97 w30 g30 hIv30 hCf97 hRf97 hq0_v30 hq1_v30 hq2_v30 hq3_v30 hq4_v30 hq5_v30 hq8_v30 hq9_v30 hq10_v30 hq13_v30 hq14_v30 hq15_v30 hq17_v30 hq18_v30 hq24_v30 hq25_v30 hq35_v30 hq36_v30 hq38_v30 hq39_v30 ((gsY_X11_misfitOf_1_q7 c31 et39 c40 c57 c87 et96 ef97 et98 et100).symm.trans hT30) ⟨show (0 : Int) ≤ t98.toInt by omega, show t98.toInt ≤ (64 : Int) by omega⟩ ⟨show (0 : Int) ≤ t100.toInt by omega, show t100.toInt ≤ (2147483647 : Int) by omega⟩ (by rw [show (t100.toInt).toNat = (l4_30.toInt).toNat + 1 by omega]; omega) hs4_f97 hs5_f97 hM_v30 hA_f97 (by show (2147483647 - t100.toInt).toNat < n30; omega) _ _ _ hP hD hS (lv_sub hl [0, 1, 2, 3, 4] rfl)
    exact lp30 (4294967296 + NF) 0 0 v f28 w g hIv hCf28 hRf28 rfl rfl rfl rfl rfl rfl rfl rfl rfl rfl rfl rfl rfl rfl rfl rfl rfl rfl rfl rfl (gsY_X11_misfitOf_1_q8 et1 et2 et4 hG6.symm ef7 et8 et9 hG11.symm ef12 et13 et14 et15 hG17.symm ef18 et19 et20 hG22.symm ef23 et24 et25 ef26 et27 ef28 c29).symm ⟨by decide, by decide⟩ ⟨by decide, by decide⟩ rfl hs4_f28 hs5_f28 hM_v hA_f28 (by have q4 : (0 : Int32).toInt = 0 := (by decide); have q3 : (0 : Int32).toInt = 0 := (by decide); show (2147483647 - (0 : Int32).toInt).toNat < 4294967296 + NF; omega) _ _ _ hP hD hS (lv_sub hl [0, 1, 2, 3, 4] rfl)
  · skip
    have zc29 : (v 16).toInt = 0 := by rw [fa_eq, show (0 : Int32).toInt = 0 from by decide] at c29; exact c29
    refine lv_iconst (v := 3) hx hb dX11_misfitOf_131 (by decide) ?_
    refine lv_aload_n hx hb dX11_misfitOf_132 rfl (lv_at hl 0 rfl) ?_
    refine va_get (D := (dC, dI)) (ci := 11) (v := .ref (r 26)) (C := RX11) (T := TX11) (N := 79) hx hb hts inB_11 hown hE.1 hP 0 rfl rfl 26 (by decide) (hts _ k_1346) (fun _ h9 => h9) rfl dX11_misfitOf_133 ?_
    refine lv_iconst (v := 0) hx hb dX11_misfitOf_136 (by decide) ?_
    refine ldI hx hb hE hP 9 rfl (vp_in_nI (n := 0) (by decide) (by decide)) rfl rfl dX11_misfitOf_137 ?_
    refine lv_topi (fun t103 et103 => ?_)
    refine lv_imul hx hb dX11_misfitOf_138 ?_
    refine lv_topi (fun t104 et104 => ?_)
    refine lv_aload_n hx hb dX11_misfitOf_139 rfl (lv_at hl 0 rfl) ?_
    refine va_get (D := (dC, dI)) (ci := 11) (v := .ref (r 26)) (C := RX11) (T := TX11) (N := 79) hx hb hts inB_11 hown hE.1 hP 0 rfl rfl 26 (by decide) (hts _ k_1346) (fun _ h9 => h9) rfl dX11_misfitOf_140 ?_
    refine lv_iconst (v := 1) hx hb dX11_misfitOf_143 (by decide) ?_
    refine ldI hx hb hE hP 9 rfl (vp_in_nI (n := 1) (by decide) (by decide)) rfl rfl dX11_misfitOf_144 ?_
    refine lv_topi (fun t105 et105 => ?_)
    refine lv_iadd hx hb dX11_misfitOf_145 ?_
    refine lv_topi (fun t106 et106 => ?_)
    refine lv_iconst (v := 2) hx hb dX11_misfitOf_146 (by decide) ?_
    refine lv_aload_n hx hb dX11_misfitOf_147 rfl (lv_at hl 0 rfl) ?_
    refine va_get (D := (dC, dI)) (ci := 11) (v := .ref (r 26)) (C := RX11) (T := TX11) (N := 79) hx hb hts inB_11 hown hE.1 hP 0 rfl rfl 26 (by decide) (hts _ k_1346) (fun _ h9 => h9) rfl dX11_misfitOf_148 ?_
    refine lv_iconst (v := 2) hx hb dX11_misfitOf_151 (by decide) ?_
    refine ldI hx hb hE hP 9 rfl (vp_in_nI (n := 2) (by decide) (by decide)) rfl rfl dX11_misfitOf_152 ?_
    refine lv_topi (fun t107 et107 => ?_)
    refine lv_imul hx hb dX11_misfitOf_153 ?_
    refine lv_topi (fun t108 et108 => ?_)
    refine lv_iadd hx hb dX11_misfitOf_154 ?_
    refine lv_topi (fun t109 et109 => ?_)
    refine lv_aload_n hx hb dX11_misfitOf_155 rfl (lv_at hl 0 rfl) ?_
    refine va_get (D := (dC, dI)) (ci := 11) (v := .ref (r 26)) (C := RX11) (T := TX11) (N := 79) hx hb hts inB_11 hown hE.1 hP 0 rfl rfl 26 (by decide) (hts _ k_1346) (fun _ h9 => h9) rfl dX11_misfitOf_156 ?_
    refine lv_iconst (v := 3) hx hb dX11_misfitOf_159 (by decide) ?_
    refine ldI hx hb hE hP 9 rfl (vp_in_nI (n := 3) (by decide) (by decide)) rfl rfl dX11_misfitOf_160 ?_
    refine lv_topi (fun t110 et110 => ?_)
    refine lv_iadd hx hb dX11_misfitOf_161 ?_
    refine lv_topi (fun t111 et111 => ?_)
    refine lv_aload_n hx hb dX11_misfitOf_162 rfl (lv_at hl 0 rfl) ?_
    refine va_get (D := (dC, dI)) (ci := 11) (v := .ref (r 26)) (C := RX11) (T := TX11) (N := 79) hx hb hts inB_11 hown hE.1 hP 0 rfl rfl 26 (by decide) (hts _ k_1346) (fun _ h9 => h9) rfl dX11_misfitOf_163 ?_
    refine lv_iconst (v := 4) hx hb dX11_misfitOf_166 (by decide) ?_
    refine ldI hx hb hE hP 9 rfl (vp_in_nI (n := 4) (by decide) (by decide)) rfl rfl dX11_misfitOf_167 ?_
    refine lv_topi (fun t112 et112 => ?_)
    refine lv_iadd hx hb dX11_misfitOf_168 ?_
    refine lv_topi (fun t113 et113 => ?_)
    refine lv_sipush (v := 999) hx hb dX11_misfitOf_169 (by decide) ?_
    refine cbSi (n := 2) (rest := []) hx hb hml hown hts hE hP hD hS hA (sY_X11_within_1 NF l dC dI cy y0 r t113 999 v f28 w g hIv hCf28 hRf28 ) k_1758 k_1759 k_114 k_1760 (by decide +kernel) ⟨Nat.le_of_ble_eq_true rfl, Nat.le_of_ble_eq_true rfl⟩ (rfl) hl.1 rfl (Nat.le_of_ble_eq_true rfl) dX11_misfitOf_172 (fun r114 u H locs hw hP hD hS => ?_)
    have hG115 := hw
    exact ret r114 (v, f28, w, g) _ _ _ _ _ _ rfl ⟨(gsY_X11_misfitOf_1_q9 et1 et2 et4 hG6.symm ef7 et8 et9 hG11.symm ef12 et13 et14 et15 hG17.symm ef18 et19 et20 hG22.symm ef23 et24 et25 ef26 et27 ef28 c29 et103 et104 et105 et106 et107 et108 et109 et110 et111 et112 et113 hG115.symm), hM_v, hA_f28, hIv, hCf28, hRf28, rfl, rfl, rfl, rfl, rfl, rfl, rfl, rfl, rfl, rfl, rfl, rfl, rfl, rfl, rfl, rfl, rfl, rfl, rfl, rfl⟩ hP hD hS dX11_misfitOf_175 (Nat.le_refl _) (Nat.le_refl _)
