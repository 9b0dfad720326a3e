set_option maxHeartbeats 4000000 in
set_option maxRecDepth 100000 in
theorem sY_X11_undo_1 (l : Launch) (dC : Nat → ClassId) (dI : Nat → Nat → Nat) (cy : Nat → ClassId) (y0 : Nat) (r : Nat → Nat)  (v : Nat → Int32) (f : Nat → Nat → Int32) (w : Int64) (g : Nat → Int64) (hIv : YI v) (hCf : YC f) (hRf : progOK (f 4) (f 5) (v 9).toInt.toNat)  : ctI l (dC, dI) cy yX11_undo cX11_undo 1 .boolean 2 83 0 0 ((Nat → Int32) × (Nat → Nat → Int32) × (Int64) × (Nat → Int64)) [.ref y0] (YW cy y0 r v f w g) (fun r u => KV [35, 36] u.1 v ∧ KF [23, 25] u.2.1 f ∧ YI u.1 ∧ YC u.2.1 ∧ progOK (u.2.1 4) (u.2.1 5) (u.1 9).toInt.toNat ∧ u.1 0 = v 0 ∧ u.1 1 = v 1 ∧ u.1 2 = v 2 ∧ u.1 3 = v 3 ∧ u.1 4 = v 4 ∧ u.1 5 = v 5 ∧ u.1 8 = v 8 ∧ u.1 9 = v 9 ∧ u.1 10 = v 10 ∧ u.1 13 = v 13 ∧ u.1 14 = v 14 ∧ u.1 15 = v 15 ∧ u.1 17 = v 17 ∧ u.1 18 = v 18 ∧ u.1 24 = v 24 ∧ u.1 25 = v 25 ∧ u.1 38 = v 38 ∧ u.1 39 = v 39 ∧ ((r = 1) ∨ (r = 0))) (fun u => YW cy y0 r u.1 u.2.1 u.2.2.1 u.2.2.2) := by
  refine ctI_of (by decide) (Nat.le_of_ble_eq_true rfl) (fun p e s m below meth c A ls Q hx hb hml hts hown hE hP hD hA hl ret => ?_)
  have hUv : (v 35).toInt + (v 36).toInt ≤ 40 := hIv.2
  have hM_v : KV [35, 36] v v := fun _ _ => rfl
  have hA_f : KF [23, 25] f f := fun _ _ => rfl
  have hown : s.vm.findClass RX11 = some m.cls := hown
  have hS : va_S A s.heap s.heap [] := va_S.rf
  have hl : lv_has ls 1 [(0, .ref y0)] := hl
  refine lv_aload_n hx hb dX11_undo_0 rfl (lv_at hl 0 rfl) ?_
  refine va_get (D := (dC, dI)) (ci := 11) (v := .int (v 35)) (C := RX11) (T := TX11) (N := 79) hx hb hts inB_11 hown hE.1 hP 0 rfl rfl 62 (by decide) (hts _ k_1382) (fun _ h9 => h9) rfl dX11_undo_1 ?_
  have b35_v : 0 ≤ (v 35).toInt ∧ (v 35).toInt ≤ 40 := YIb.b hIv.1 35 (by decide)
  refine lv_if_ne (tgt := 9) hx hb dX11_undo_4 (by decide) (fun c1 => ?_) (fun c1 => ?_)
  · skip
    have zc1 : ¬ ((v 35).toInt = 0) := by rw [fa_eq, show (0 : Int32).toInt = 0 from by decide] at c1; exact c1
    refine lv_aload_n hx hb dX11_undo_9 rfl (lv_at hl 0 rfl) ?_
    refine lv_dup hx hb dX11_undo_10 rfl ?_
    refine va_get (D := (dC, dI)) (ci := 11) (v := .int (v 35)) (C := RX11) (T := TX11) (N := 79) hx hb hts inB_11 hown hE.1 hP 0 rfl rfl 62 (by decide) (hts _ k_1382) (fun _ h9 => h9) rfl dX11_undo_11 ?_
    refine lv_iconst (v := 1) hx hb dX11_undo_14 (by decide) ?_
    refine lv_isub hx hb dX11_undo_15 ?_
    refine lv_topi (fun t2 et2 => ?_)
    have rg3 := fb_rng (v 35)
    have zt2 : t2.toInt = (v 35).toInt - 1 := by rw [et2]; exact sub_i rfl (by decide) (by omega) (by omega)
    refine va_put (D := (dC, dI)) (ci := 11) (v := .int t2) (ty := tyX11 62) (C := RX11) (T := TX11) (N := 79) hx hb hts inB_11 tyX11 tyX11_ok nmX11 hown hE.1 hP hD hS 0 rfl rfl 62 (by decide) (hts _ k_1382) (fun _ h9 => h9) rfl (tyX11_ok 62 (by decide)) rfl rfl (Nat.le_of_ble_eq_true rfl) dX11_undo_16 (fun H locs hP hD hS => ?_)
    have hP : va_P (dC, dI) vwCl (YW cy y0 r (upd v 35 t2) f w g) H := hP
    have hD : va_D A (YW cy y0 r (upd v 35 t2) f w g) := hD
    refine lv_aload_n hx hb dX11_undo_19 rfl (lv_at hl 0 rfl) ?_
    refine lv_dup hx hb dX11_undo_20 rfl ?_
    refine va_get (D := (dC, dI)) (ci := 11) (v := .int (v 36)) (C := RX11) (T := TX11) (N := 79) hx hb hts inB_11 hown hE.1 hP 0 rfl rfl 63 (by decide) (hts _ k_1383) (fun _ h9 => h9) rfl dX11_undo_21 ?_
    have b36_v : 0 ≤ (v 36).toInt ∧ (v 36).toInt ≤ 40 := YIb.b hIv.1 36 (by decide)
    refine lv_iconst (v := 1) hx hb dX11_undo_24 (by decide) ?_
    refine lv_iadd hx hb dX11_undo_25 ?_
    refine lv_topi (fun t4 et4 => ?_)
    have rg5 := fb_rng (v 36)
    have zt4 : t4.toInt = (v 36).toInt + 1 := by rw [et4]; exact add_i rfl (by decide) (by omega) (by omega)
    refine va_put (D := (dC, dI)) (ci := 11) (v := .int t4) (ty := tyX11 63) (C := RX11) (T := TX11) (N := 79) hx hb hts inB_11 tyX11 tyX11_ok nmX11 hown hE.1 hP hD hS 0 rfl rfl 63 (by decide) (hts _ k_1383) (fun _ h9 => h9) rfl (tyX11_ok 63 (by decide)) rfl rfl (Nat.le_of_ble_eq_true rfl) dX11_undo_26 (fun H locs hP hD hS => ?_)
    have hP : va_P (dC, dI) vwCl (YW cy y0 r (upd (upd v 35 t2) 36 t4) f w g) H := hP
    have hD : va_D A (YW cy y0 r (upd (upd v 35 t2) 36 t4) f w g) := hD
    refine lv_aload_n hx hb dX11_undo_29 rfl (lv_at hl 0 rfl) ?_
    refine lv_bipush (v := 39) hx hb dX11_undo_30 (by decide) ?_
    refine lv_aload_n hx hb dX11_undo_32 rfl (lv_at hl 0 rfl) ?_
    refine va_get (D := (dC, dI)) (ci := 11) (v := .int t2) (C := RX11) (T := TX11) (N := 79) hx hb hts inB_11 hown hE.1 hP 0 rfl rfl 62 (by decide) (hts _ k_1382) (fun _ h9 => h9) rfl dX11_undo_33 ?_
    refine lv_imul hx hb dX11_undo_36 ?_
    refine lv_topi (fun t6 et6 => ?_)
    have rg7 := fb_rng t2
    have zt6 : t6.toInt = 39 * t2.toInt := by rw [et6]; exact mul_i (by decide) rfl (by omega) (by omega)
    refine cbVv (n := 1) (rest := []) hx hb hml hown hts hE hP hD hS hA (sY_X11_exchange_1 l dC dI cy y0 r t6 (upd (upd v 35 t2) 36 t4) f w g ⟨(YIb.upd (j := 36) (x := t4) (YIb.upd (j := 35) (x := t2) hIv.1 (show (0 : Int) ≤ t2.toInt by omega) (show t2.toInt ≤ (40 : Int) by omega)) (show (0 : Int) ≤ t4.toInt by omega) (show t4.toInt ≤ (40 : Int) by omega)), (by have q9 := hIv.2; show t2.toInt + t4.toInt ≤ 40; omega)⟩ hCf hRf ⟨show (0 : Int) ≤ t6.toInt by omega, show t6.toInt ≤ (1521 : Int) by omega⟩ (by show t6.toInt % 39 = 0; omega)) k_1845 k_1847 k_83 k_114 k_1848 (by decide +kernel) ⟨Nat.le_of_ble_eq_true rfl, Nat.le_of_ble_eq_true rfl⟩ 0 11 rfl rfl (rfl) hl.1 rfl (Nat.le_of_ble_eq_true rfl) dX11_undo_37 (fun u H locs hw hP hD hS => ?_)
    obtain ⟨v8, f9, w10, g11⟩ := u
    obtain ⟨kV_v8, kF_f9, hIv8, hCf9, hRf9, hk0_v8, hk1_v8, hk2_v8, hk3_v8, hk4_v8, hk5_v8, hk8_v8, hk9_v8, hk10_v8, hk13_v8, hk14_v8, hk15_v8, hk17_v8, hk18_v8, hk24_v8, hk25_v8, hk35_v8, hk36_v8, hk38_v8, hk39_v8⟩ := hw
    have hM_v8 : KV [35, 36] v8 v := KV.tr kV_v8 (KV.up (j := 36) (x := t4) (KV.up (j := 35) (x := t2) hM_v rfl) rfl) rfl
    have hA_f9 : KF [23, 25] f9 f := KF.tr kF_f9 hA_f rfl
    have hP : va_P (dC, dI) vwCl (YW cy y0 r v8 f9 w10 g11) H := hP
    have hD : va_D A (YW cy y0 r v8 f9 w10 g11) := hD
    have hUv8 : (v8 35).toInt + (v8 36).toInt ≤ 40 := hIv8.2
    have hq9_v8 : v8 9 = (v 9) := hk9_v8
    have zq9_v8 := congrArg Int32.toInt hq9_v8
    have hq35_v8 : v8 35 = t2 := hk35_v8
    have zq35_v8 := congrArg Int32.toInt hq35_v8
    have hq36_v8 : v8 36 = t4 := hk36_v8
    have zq36_v8 := congrArg Int32.toInt hq36_v8
    refine lv_iconst (v := 1) hx hb dX11_undo_40 (by decide) ?_
    exact ret 1 (v8, f9, w10, g11) _ _ _ _ _ _ rfl ⟨hM_v8, hA_f9, hIv8, hCf9, hRf9, hk0_v8, hk1_v8, hk2_v8, hk3_v8, hk4_v8, hk5_v8, hk8_v8, hk9_v8, hk10_v8, hk13_v8, hk14_v8, hk15_v8, hk17_v8, hk18_v8, hk24_v8, hk25_v8, hk38_v8, hk39_v8, (Or.inl rfl)⟩ hP hD hS dX11_undo_41 (Nat.le_refl _) (Nat.le_refl _)
  · skip
    have zc1 : (v 35).toInt = 0 := by rw [fa_eq, show (0 : Int32).toInt = 0 from by decide] at c1; exact c1
    refine lv_iconst (v := 0) hx hb dX11_undo_7 (by decide) ?_
    exact ret 0 (v, f, w, g) _ _ _ _ _ _ rfl ⟨hM_v, hA_f, hIv, hCf, hRf, rfl, rfl, rfl, rfl, rfl, rfl, rfl, rfl, rfl, rfl, rfl, rfl, rfl, rfl, rfl, rfl, rfl, rfl, (Or.inr rfl)⟩ hP hD hS dX11_undo_8 (Nat.le_refl _) (Nat.le_refl _)
set_option maxHeartbeats 4000000 in
set_option maxRecDepth 100000 in
theorem sY_X11_redo_1 (l : Launch) (dC : Nat → ClassId) (dI : Nat → Nat → Nat) (cy : Nat → ClassId) (y0 : Nat) (r : Nat → Nat)  (v : Nat → Int32) (f : Nat → Nat → Int32) (w : Int64) (g : Nat → Int64) (hIv : YI v) (hCf : YC f) (hRf : progOK (f 4) (f 5) (v 9).toInt.toNat)  : ctI l (dC, dI) cy yX11_redo cX11_redo 1 .boolean 2 83 0 0 ((Nat → Int32) × (Nat → Nat → Int32) × (Int64) × (Nat → Int64)) [.ref y0] (YW cy y0 r v f w g) (fun r u => KV [35, 36] u.1 v ∧ KF [23, 25] u.2.1 f ∧ YI u.1 ∧ YC u.2.1 ∧ progOK (u.2.1 4) (u.2.1 5) (u.1 9).toInt.toNat ∧ u.1 0 = v 0 ∧ u.1 1 = v 1 ∧ u.1 2 = v 2 ∧ u.1 3 = v 3 ∧ u.1 4 = v 4 ∧ u.1 5 = v 5 ∧ u.1 8 = v 8 ∧ u.1 9 = v 9 ∧ u.1 10 = v 10 ∧ u.1 13 = v 13 ∧ u.1 14 = v 14 ∧ u.1 15 = v 15 ∧ u.1 17 = v 17 ∧ u.1 18 = v 18 ∧ u.1 24 = v 24 ∧ u.1 25 = v 25 ∧ u.1 38 = v 38 ∧ u.1 39 = v 39 ∧ ((r = 1) ∨ (r = 0))) (fun u => YW cy y0 r u.1 u.2.1 u.2.2.1 u.2.2.2) := by
  refine ctI_of (by decide) (Nat.le_of_ble_eq_true rfl) (fun p e s m below meth c A ls Q hx hb hml hts hown hE hP hD hA hl ret => ?_)
  have hUv : (v 35).toInt + (v 36).toInt ≤ 40 := hIv.2
  have hM_v : KV [35, 36] v v := fun _ _ => rfl
  have hA_f : KF [23, 25] f f := fun _ _ => rfl
  have hown : s.vm.findClass RX11 = some m.cls := hown
  have hS : va_S A s.heap s.heap [] := va_S.rf
  have hl : lv_has ls 1 [(0, .ref y0)] := hl
  refine lv_aload_n hx hb dX11_redo_0 rfl (lv_at hl 0 rfl) ?_
  refine va_get (D := (dC, dI)) (ci := 11) (v := .int (v 36)) (C := RX11) (T := TX11) (N := 79) hx hb hts inB_11 hown hE.1 hP 0 rfl rfl 63 (by decide) (hts _ k_1383) (fun _ h9 => h9) rfl dX11_redo_1 ?_
  have b36_v : 0 ≤ (v 36).toInt ∧ (v 36).toInt ≤ 40 := YIb.b hIv.1 36 (by decide)
  refine lv_if_ne (tgt := 9) hx hb dX11_redo_4 (by decide) (fun c1 => ?_) (fun c1 => ?_)
  · skip
    have zc1 : ¬ ((v 36).toInt = 0) := by rw [fa_eq, show (0 : Int32).toInt = 0 from by decide] at c1; exact c1
    refine lv_aload_n hx hb dX11_redo_9 rfl (lv_at hl 0 rfl) ?_
    refine lv_bipush (v := 39) hx hb dX11_redo_10 (by decide) ?_
    refine lv_aload_n hx hb dX11_redo_12 rfl (lv_at hl 0 rfl) ?_
    refine va_get (D := (dC, dI)) (ci := 11) (v := .int (v 35)) (C := RX11) (T := TX11) (N := 79) hx hb hts inB_11 hown hE.1 hP 0 rfl rfl 62 (by decide) (hts _ k_1382) (fun _ h9 => h9) rfl dX11_redo_13 ?_
    have b35_v : 0 ≤ (v 35).toInt ∧ (v 35).toInt ≤ 40 := YIb.b hIv.1 35 (by decide)
    refine lv_imul hx hb dX11_redo_16 ?_
    refine lv_topi (fun t2 et2 => ?_)
    have rg3 := fb_rng (v 35)
    have zt2 : t2.toInt = 39 * (v 35).toInt := by rw [et2]; exact mul_i (by decide) rfl (by omega) (by omega)
    refine cbVv (n := 1) (rest := []) hx hb hml hown hts hE hP hD hS hA (sY_X11_exchange_1 l dC dI cy y0 r t2 v f w g hIv hCf hRf ⟨show (0 : Int) ≤ t2.toInt by omega, show t2.toInt ≤ (1521 : Int) by omega⟩ (by show t2.toInt % 39 = 0; omega)) k_1845 k_1847 k_83 k_114 k_1848 (by decide +kernel) ⟨Nat.le_of_ble_eq_true rfl, Nat.le_of_ble_eq_true rfl⟩ 0 11 rfl rfl (rfl) hl.1 rfl (Nat.le_of_ble_eq_true rfl) dX11_redo_17 (fun u H locs hw hP hD hS => ?_)
    obtain ⟨v4, f5, w6, g7⟩ := u
    obtain ⟨kV_v4, kF_f5, hIv4, hCf5, hRf5, hk0_v4, hk1_v4, hk2_v4, hk3_v4, hk4_v4, hk5_v4, hk8_v4, hk9_v4, hk10_v4, hk13_v4, hk14_v4, hk15_v4, hk17_v4, hk18_v4, hk24_v4, hk25_v4, hk35_v4, hk36_v4, hk38_v4, hk39_v4⟩ := hw
    have hM_v4 : KV [35, 36] v4 v := KV.tr kV_v4 hM_v rfl
    have hA_f5 : KF [23, 25] f5 f := KF.tr kF_f5 hA_f rfl
    have hP : va_P (dC, dI) vwCl (YW cy y0 r v4 f5 w6 g7) H := hP
    have hD : va_D A (YW cy y0 r v4 f5 w6 g7) := hD
    have hUv4 : (v4 35).toInt + (v4 36).toInt ≤ 40 := hIv4.2
    have hq9_v4 : v4 9 = (v 9) := hk9_v4
    have zq9_v4 := congrArg Int32.toInt hq9_v4
    have hq35_v4 : v4 35 = (v 35) := hk35_v4
    have zq35_v4 := congrArg Int32.toInt hq35_v4
    have hq36_v4 : v4 36 = (v 36) := hk36_v4
    have zq36_v4 := congrArg Int32.toInt hq36_v4
    refine lv_aload_n hx hb dX11_redo_20 rfl (lv_at hl 0 rfl) ?_
    refine lv_dup hx hb dX11_redo_21 rfl ?_
    refine va_get (D := (dC, dI)) (ci := 11) (v := .int (v4 35)) (C := RX11) (T := TX11) (N := 79) hx hb hts inB_11 hown hE.1 hP 0 rfl rfl 62 (by decide) (hts _ k_1382) (fun _ h9 => h9) rfl dX11_redo_22 ?_
    refine tI (y := (v 35)) hq35_v4 ?_
    have b35_v : 0 ≤ (v 35).toInt ∧ (v 35).toInt ≤ 40 := YIb.b hIv.1 35 (by decide)
    refine lv_iconst (v := 1) hx hb dX11_redo_25 (by decide) ?_
    refine lv_iadd hx hb dX11_redo_26 ?_
    refine lv_topi (fun t8 et8 => ?_)
    have zt8 : t8.toInt = (v 35).toInt + 1 := by rw [et8]; exact add_i rfl (by decide) (by omega) (by omega)
    refine va_put (D := (dC, dI)) (ci := 11) (v := .int t8) (ty := tyX11 62) (C := RX11) (T := TX11) (N := 79) hx hb hts inB_11 tyX11 tyX11_ok nmX11 hown hE.1 hP hD hS 0 rfl rfl 62 (by decide) (hts _ k_1382) (fun _ h9 => h9) rfl (tyX11_ok 62 (by decide)) rfl rfl (Nat.le_of_ble_eq_true rfl) dX11_redo_27 (fun H locs hP hD hS => ?_)
    have hP : va_P (dC, dI) vwCl (YW cy y0 r (upd v4 35 t8) f5 w6 g7) H := hP
    have hD : va_D A (YW cy y0 r (upd v4 35 t8) f5 w6 g7) := hD
    refine lv_aload_n hx hb dX11_redo_30 rfl (lv_at hl 0 rfl) ?_
    refine lv_dup hx hb dX11_redo_31 rfl ?_
    refine va_get (D := (dC, dI)) (ci := 11) (v := .int (v4 36)) (C := RX11) (T := TX11) (N := 79) hx hb hts inB_11 hown hE.1 hP 0 rfl rfl 63 (by decide) (hts _ k_1383) (fun _ h9 => h9) rfl dX11_redo_32 ?_
    refine tI (y := (v 36)) hq36_v4 ?_
    have b36_v : 0 ≤ (v 36).toInt ∧ (v 36).toInt ≤ 40 := YIb.b hIv.1 36 (by decide)
    refine lv_iconst (v := 1) hx hb dX11_redo_35 (by decide) ?_
    refine lv_isub hx hb dX11_redo_36 ?_
    refine lv_topi (fun t9 et9 => ?_)
    have rg10 := fb_rng (v 36)
    have zt9 : t9.toInt = (v 36).toInt - 1 := by rw [et9]; exact sub_i rfl (by decide) (by omega) (by omega)
    refine va_put (D := (dC, dI)) (ci := 11) (v := .int t9) (ty := tyX11 63) (C := RX11) (T := TX11) (N := 79) hx hb hts inB_11 tyX11 tyX11_ok nmX11 hown hE.1 hP hD hS 0 rfl rfl 63 (by decide) (hts _ k_1383) (fun _ h9 => h9) rfl (tyX11_ok 63 (by decide)) rfl rfl (Nat.le_of_ble_eq_true rfl) dX11_redo_37 (fun H locs hP hD hS => ?_)
    have hP : va_P (dC, dI) vwCl (YW cy y0 r (upd (upd v4 35 t8) 36 t9) f5 w6 g7) H := hP
    have hD : va_D A (YW cy y0 r (upd (upd v4 35 t8) 36 t9) f5 w6 g7) := hD
    refine lv_iconst (v := 1) hx hb dX11_redo_40 (by decide) ?_
    exact ret 1 ((upd (upd v4 35 t8) 36 t9), f5, w6, g7) _ _ _ _ _ _ rfl ⟨(KV.up (j := 36) (x := t9) (KV.up (j := 35) (x := t8) hM_v4 rfl) rfl), hA_f5, ⟨(YIb.upd (j := 36) (x := t9) (YIb.upd (j := 35) (x := t8) hIv4.1 (show (0 : Int) ≤ t8.toInt by omega) (show t8.toInt ≤ (40 : Int) by omega)) (show (0 : Int) ≤ t9.toInt by omega) (show t9.toInt ≤ (40 : Int) by omega)), (by have q9 := hIv4.2; show t8.toInt + t9.toInt ≤ 40; omega)⟩, hCf5, hRf5, hk0_v4, hk1_v4, hk2_v4, hk3_v4, hk4_v4, hk5_v4, hk8_v4, hk9_v4, hk10_v4, hk13_v4, hk14_v4, hk15_v4, hk17_v4, hk18_v4, hk24_v4, hk25_v4, hk38_v4, hk39_v4, (Or.inl rfl)⟩ hP hD hS dX11_redo_41 (Nat.le_refl _) (Nat.le_refl _)
  · skip
    have zc1 : (v 36).toInt = 0 := by rw [fa_eq, show (0 : Int32).toInt = 0 from by decide] at c1; exact c1
    refine lv_iconst (v := 0) hx hb dX11_redo_7 (by decide) ?_
    exact ret 0 (v, f, w, g) _ _ _ _ _ _ rfl ⟨hM_v, hA_f, hIv, hCf, hRf, rfl, rfl, rfl, rfl, rfl, rfl, rfl, rfl, rfl, rfl, rfl, rfl, rfl, rfl, rfl, rfl, rfl, rfl, (Or.inr rfl)⟩ hP hD hS dX11_redo_8 (Nat.le_refl _) (Nat.le_refl _)
set_option maxHeartbeats 4000000 in
set_option maxRecDepth 100000 in
theorem sY_X11_will_1 (l : Launch) (dC : Nat → ClassId) (dI : Nat → Nat → Nat) (cy : Nat → ClassId) (y0 : Nat) (r : Nat → Nat) (p1 : Int32) (p2 : Int32) (p3 : Int32) (v : Nat → Int32) (f : Nat → Nat → Int32) (w : Int64) (g : Nat → Int64) (hIv : YI v) (hCf : YC f) (hRf : progOK (f 4) (f 5) (v 9).toInt.toNat)  : ctI l (dC, dI) cy yX11_will cX11_will 5 .int 8 214 0 0 ((Nat → Int32) × (Nat → Nat → Int32) × (Int64) × (Nat → Int64)) [.ref y0, .int p1, .int p2, .int p3] (YW cy y0 r v f w g) (fun r u => KV [] u.1 v ∧ KF [7, 8, 24] u.2.1 f ∧ YI u.1 ∧ YC u.2.1 ∧ progOK (u.2.1 4) (u.2.1 5) (u.1 9).toInt.toNat ∧ u.1 0 = v 0 ∧ u.1 1 = v 1 ∧ u.1 2 = v 2 ∧ u.1 3 = v 3 ∧ u.1 4 = v 4 ∧ u.1 5 = v 5 ∧ u.1 8 = v 8 ∧ u.1 9 = v 9 ∧ u.1 10 = v 10 ∧ u.1 13 = v 13 ∧ u.1 14 = v 14 ∧ u.1 15 = v 15 ∧ u.1 17 = v 17 ∧ u.1 18 = v 18 ∧ u.1 24 = v 24 ∧ u.1 25 = v 25 ∧ u.1 35 = v 35 ∧ u.1 36 = v 36 ∧ u.1 38 = v 38 ∧ u.1 39 = v 39) (fun u => YW cy y0 r u.1 u.2.1 u.2.2.1 u.2.2.2) := by
  refine ctI_of (by decide) (Nat.le_of_ble_eq_true rfl) (fun p e s m below meth c A ls Q hx hb hml hts hown hE hP hD hA hl ret => ?_)
  have hUv : (v 35).toInt + (v 36).toInt ≤ 40 := hIv.2
  have hM_v : KV [] v v := fun _ _ => rfl
  have hA_f : KF [7, 8, 24] f f := fun _ _ => rfl
  have hown : s.vm.findClass RX11 = some m.cls := hown
  have hS : va_S A s.heap s.heap [] := va_S.rf
  have hl : lv_has ls 5 [(0, .ref y0), (1, .int p1), (2, .int p2), (3, .int p3)] := hl
  refine lv_aload_n hx hb dX11_will_0 rfl (lv_at hl 0 rfl) ?_
  refine lv_iload_n hx hb dX11_will_1 rfl (lv_at hl 1 rfl) ?_
  refine cbVi (n := 1) (rest := []) hx hb hml hown hts hE hP hD hS hA (sY_X11_isMan_1 l dC dI cy y0 r p1 v f w g hIv hCf hRf ) k_1732 k_1734 k_70 k_114 k_1735 (by decide +kernel) ⟨Nat.le_of_ble_eq_true rfl, Nat.le_of_ble_eq_true rfl⟩ 0 11 rfl rfl (rfl) hl.1 rfl (Nat.le_of_ble_eq_true rfl) dX11_will_2 (fun r1 u H locs hw hP hD hS => ?_)
  rcases hw with ⟨g2, g2_0, g2_1, g2_2⟩ | ⟨g2⟩
  · skip
    subst g2
    refine lv_if_eq (tgt := 27) hx hb dX11_will_5 (by decide) (fun c0 => absurd c0 (by decide)) (fun _ => ?_)
    refine lv_iload_n hx hb dX11_will_8 rfl (lv_at hl 2 rfl) ?_
    refine lv_iconst (v := 0) hx hb dX11_will_9 (by decide) ?_
    refine lv_bipush (v := 60) hx hb dX11_will_10 (by decide) ?_
    have lt3 : (0 : Int32).toInt = 0 := by decide
    have lt4 : (60 : Int32).toInt = 60 := by decide
    refine cbSi (n := 3) (rest := []) hx hb hml hown hts hE hP hD hS hA (sY_X11_isIn_1 0 l dC dI cy y0 r p2 0 60 v f w g hIv hCf hRf ) k_1736 k_1737 k_114 k_1738 (by decide +kernel) ⟨Nat.le_of_ble_eq_true rfl, Nat.le_of_ble_eq_true rfl⟩ (rfl) hl.1 rfl (Nat.le_of_ble_eq_true rfl) dX11_will_12 (fun r5 u H locs hw hP hD hS => ?_)
    obtain ⟨hG6, hw⟩ := hw
    rcases hw with ⟨g7, g7_0, g7_1⟩ | ⟨g7⟩
    · skip
      subst g7
      refine lv_if_eq (tgt := 27) hx hb dX11_will_15 (by decide) (fun c0 => absurd c0 (by decide)) (fun _ => ?_)
      refine lv_iload_n hx hb dX11_will_18 rfl (lv_at hl 3 rfl) ?_
      refine lv_iconst (v := 0) hx hb dX11_will_19 (by decide) ?_
      refine lv_iconst (v := 1) hx hb dX11_will_20 (by decide) ?_
      have lt8 : (1 : Int32).toInt = 1 := by decide
      refine cbSi (n := 3) (rest := []) hx hb hml hown hts hE hP hD hS hA (sY_X11_isIn_1 0 l dC dI cy y0 r p3 0 1 v f w g hIv hCf hRf ) k_1736 k_1737 k_114 k_1738 (by decide +kernel) ⟨Nat.le_of_ble_eq_true rfl, Nat.le_of_ble_eq_true rfl⟩ (rfl) hl.1 rfl (Nat.le_of_ble_eq_true rfl) dX11_will_21 (fun r9 u H locs hw hP hD hS => ?_)
      obtain ⟨hG10, hw⟩ := hw
      rcases hw with ⟨g11, g11_0, g11_1⟩ | ⟨g11⟩
      · skip
        subst g11
        refine lv_if_ne (tgt := 30) hx hb dX11_will_24 (by decide) (fun _ => ?_) (fun c0 => absurd c0 (by decide))
        refine lv_aload_n hx hb dX11_will_30 rfl (lv_at hl 0 rfl) ?_
        refine cbVv (n := 0) (rest := []) hx hb hml hown hts hE hP hD hS hA (sY_X11_fill_1 l dC dI cy y0 r  v f w g hIv hCf hRf ) k_1739 k_1741 k_71 k_114 k_1742 (by decide +kernel) ⟨Nat.le_of_ble_eq_true rfl, Nat.le_of_ble_eq_true rfl⟩ 0 11 rfl rfl (rfl) hl.1 rfl (Nat.le_of_ble_eq_true rfl) dX11_will_31 (fun u H locs hw hP hD hS => ?_)
        obtain ⟨v12, f13, w14, g15⟩ := u
        obtain ⟨kV_v12, kF_f13, hIv12, hCf13, hRf13, hk0_v12, hk1_v12, hk2_v12, hk3_v12, hk4_v12, hk5_v12, hk8_v12, hk9_v12, hk10_v12, hk13_v12, hk14_v12, hk15_v12, hk17_v12, hk18_v12, hk24_v12, hk25_v12, hk35_v12, hk36_v12, hk38_v12, hk39_v12⟩ := hw
        have hM_v12 : KV [] v12 v := KV.tr kV_v12 hM_v rfl
        have hA_f13 : KF [7, 8, 24] f13 f := KF.tr kF_f13 hA_f rfl
        have hP : va_P (dC, dI) vwCl (YW cy y0 r v12 f13 w14 g15) H := hP
        have hD : va_D A (YW cy y0 r v12 f13 w14 g15) := hD
        have hUv12 : (v12 35).toInt + (v12 36).toInt ≤ 40 := hIv12.2
        have hq0_v12 : v12 0 = (v 0) := hk0_v12
        have hq1_v12 : v12 1 = (v 1) := hk1_v12
        have hq2_v12 : v12 2 = (v 2) := hk2_v12
        have hq3_v12 : v12 3 = (v 3) := hk3_v12
        have hq4_v12 : v12 4 = (v 4) := hk4_v12
        have hq5_v12 : v12 5 = (v 5) := hk5_v12
        have hq8_v12 : v12 8 = (v 8) := hk8_v12
        have hq9_v12 : v12 9 = (v 9) := hk9_v12
        have zq9_v12 := congrArg Int32.toInt hq9_v12
        have hq10_v12 : v12 10 = (v 10) := hk10_v12
        have hq13_v12 : v12 13 = (v 13) := hk13_v12
        have hq14_v12 : v12 14 = (v 14) := hk14_v12
        have hq15_v12 : v12 15 = (v 15) := hk15_v12
        have hq17_v12 : v12 17 = (v 17) := hk17_v12
        have hq18_v12 : v12 18 = (v 18) := hk18_v12
        have hq24_v12 : v12 24 = (v 24) := hk24_v12
        have hq25_v12 : v12 25 = (v 25) := hk25_v12
        have hq35_v12 : v12 35 = (v 35) := hk35_v12
        have hq36_v12 : v12 36 = (v 36) := hk36_v12
        have hq38_v12 : v12 38 = (v 38) := hk38_v12
        have hq39_v12 : v12 39 = (v 39) := hk39_v12
        refine lv_iconst (v := 0) hx hb dX11_will_34 (by decide) ?_
        refine lv_istore (lv' := [(4, .int 0), (0, .ref y0), (1, .int p1), (2, .int p2), (3, .int p3)]) hx hb dX11_will_35 hl (by decide) rfl (fun ls hl => ?_)
        have lp16 : ∀ (n16 : Nat) (l4_16 : Int32) (v16 : Nat → Int32) (f16 : Nat → Nat → Int32) (w16 : Int64) (g16 : Nat → Int64), YI v16 → YC f16 → progOK (f16 4) (f16 5) (v16 9).toInt.toNat → v16 0 = (v 0) → v16 1 = (v 1) → v16 2 = (v 2) → v16 3 = (v 3) → v16 4 = (v 4) → v16 5 = (v 5) → v16 8 = (v 8) → v16 9 = (v 9) → v16 10 = (v 10) → v16 13 = (v 13) → v16 14 = (v 14) → v16 15 = (v 15) → v16 17 = (v 17) → v16 18 = (v 18) → v16 24 = (v 24) → v16 25 = (v 25) → v16 35 = (v 35) → v16 36 = (v 36) → v16 38 = (v 38) → v16 39 = (v 39) → ((0 : Int) ≤ l4_16.toInt ∧ l4_16.toInt ≤ 2147483647) → KV [] v16 v → KF [7, 8, 24] f16 f → (2147483647 - l4_16.toInt).toNat < n16 → ∀ (H : Heap) (locs : List Loc) (ls : Array Slot), va_P (dC, dI) vwCl (YW cy y0 r v16 f16 w16 g16) H → va_D A (YW cy y0 r v16 f16 w16 g16) → va_S A s.heap H locs → lv_has ls 5 [(4, .int l4_16), (0, .ref y0), (1, .int p1), (2, .int p2), (3, .int p3)] → W p l e { frames := 8, cells := 0, slots := 0, locals := 214 } s m ([.ref y0, .int p1, .int p2, .int p3] : List Value).toArray below meth c H locs 0 0 Q (F0 m 37 ls []) := by
          intro n16
          induction n16 with
          | zero => intro l4_16 v16 f16 w16 g16 hIv16 hCf16 hRf16 hq0_v16 hq1_v16 hq2_v16 hq3_v16 hq4_v16 hq5_v16 hq8_v16 hq9_v16 hq10_v16 hq13_v16 hq14_v16 hq15_v16 hq17_v16 hq18_v16 hq24_v16 hq25_v16 hq35_v16 hq36_v16 hq38_v16 hq39_v16 hr4_16 hM_v16 hA_f16 hm; exact absurd hm (Nat.not_lt_zero _)
          | succ n16 ih16 =>
            intro l4_16 v16 f16 w16 g16 hIv16 hCf16 hRf16 hq0_v16 hq1_v16 hq2_v16 hq3_v16 hq4_v16 hq5_v16 hq8_v16 hq9_v16 hq10_v16 hq13_v16 hq14_v16 hq15_v16 hq17_v16 hq18_v16 hq24_v16 hq25_v16 hq35_v16 hq36_v16 hq38_v16 hq39_v16 hr4_16 hM_v16 hA_f16 hm16 H locs ls hP hD hS hl
            have hUv16 : (v16 35).toInt + (v16 36).toInt ≤ 40 := hIv16.2
            have zq9_v16 := congrArg Int32.toInt hq9_v16
            refine lv_iload hx hb dX11_will_37 (lv_at hl 0 rfl) ?_
            refine lv_iload_n hx hb dX11_will_39 rfl (lv_at hl 3 rfl) ?_
            refine lv_icmp_ge (tgt := 71) hx hb dX11_will_40 (by decide) (fun c17 => ?_) (fun c17 => ?_)
            · skip
              have zc17 : p2.toInt ≤ l4_16.toInt := by rw [fa_le] at c17; exact c17
              have rg18 := fb_rng l4_16
              have rg19 := fb_rng p2
              refine lv_aload_n hx hb dX11_will_71 rfl (lv_at hl 1 rfl) ?_
              refine va_get (D := (dC, dI)) (ci := 11) (v := .ref (r 60)) (C := RX11) (T := TX11) (N := 79) hx hb hts inB_11 hown hE.1 hP 0 rfl rfl 60 (by decide) (hts _ k_1380) (fun _ h9 => h9) rfl dX11_will_72 ?_
              refine lv_bipush (v := 6) hx hb dX11_will_75 (by decide) ?_
              refine lv_iload_n hx hb dX11_will_77 rfl (lv_at hl 2 rfl) ?_
              refine lv_iadd hx hb dX11_will_78 ?_
              refine lv_topi (fun t20 et20 => ?_)
              have rg21 := fb_rng p1
              have zt20 : t20.toInt = 6 + p1.toInt := by rw [et20]; exact add_i (by decide) rfl (by omega) (by omega)
              refine ldI hx hb hE hP 25 rfl (vp_in_iff.mpr ⟨by omega, by omega⟩) rfl rfl dX11_will_79 ?_
              refine lv_topi (fun t22 et22 => ?_)
              have zt22 : t20.toInt.toNat % 39 < 6 ∨ 12 ≤ t20.toInt.toNat % 39 ∨ (-1 ≤ t22.toInt ∧ t22.toInt ≤ 5) := by rw [et22]; exact wear_ld hCf16.2.1 (show t20.toInt.toNat < 39 by omega)
              exact ret t22 (v16, f16, w16, g16) _ _ _ _ _ _ rfl ⟨hM_v16, hA_f16, hIv16, hCf16, hRf16, hq0_v16, hq1_v16, hq2_v16, hq3_v16, hq4_v16, hq5_v16, hq8_v16, hq9_v16, hq10_v16, hq13_v16, hq14_v16, hq15_v16, hq17_v16, hq18_v16, hq24_v16, hq25_v16, hq35_v16, hq36_v16, hq38_v16, hq39_v16⟩ hP hD hS dX11_will_80 (Nat.le_refl _) (Nat.le_refl _)
            · skip
              have zc17 : ¬ (p2.toInt ≤ l4_16.toInt) := by rw [fa_le] at c17; exact c17
              have rg23 := fb_rng l4_16
              have rg24 := fb_rng p2
              refine lv_aload_n hx hb dX11_will_43 rfl (lv_at hl 1 rfl) ?_
              refine lv_iload_n hx hb dX11_will_44 rfl (lv_at hl 4 rfl) ?_
              refine lv_iconst (v := 1) hx hb dX11_will_45 (by decide) ?_
              refine lv_icmp_ne (tgt := 60) hx hb dX11_will_46 (by decide) (fun c25 => ?_) (fun c25 => ?_)
              · skip
                have zc25 : ¬ (p3.toInt = 1) := by rw [fa_eq, show (1 : Int32).toInt = 1 from by decide] at c25; exact c25
                refine lv_iconst (v := 0) hx hb dX11_will_60 (by decide) ?_
                refine cbVi (n := 1) (rest := []) hx hb hml hown hts hE hP hD hS hA (sY_X11_goDay_1 l dC dI cy y0 r 0 v16 f16 w16 g16 hIv16 hCf16 hRf16 ) k_1795 k_1797 k_79 k_114 k_1798 (by decide +kernel) ⟨Nat.le_of_ble_eq_true rfl, Nat.le_of_ble_eq_true rfl⟩ 0 11 rfl rfl (rfl) hl.1 rfl (Nat.le_of_ble_eq_true rfl) dX11_will_61 (fun r26 u H locs hw hP hD hS => ?_)
                obtain ⟨v27, f28, w29, g30⟩ := u
                obtain ⟨kV_v27, kF_f28, hIv27, hCf28, hRf28, hk0_v27, hk1_v27, hk2_v27, hk3_v27, hk4_v27, hk5_v27, hk8_v27, hk9_v27, hk10_v27, hk13_v27, hk14_v27, hk15_v27, hk17_v27, hk18_v27, hk24_v27, hk25_v27, hk35_v27, hk36_v27, hk38_v27, hk39_v27⟩ := hw
                have hM_v27 : KV [] v27 v := KV.tr kV_v27 hM_v16 rfl
                have hA_f28 : KF [7, 8, 24] f28 f := KF.tr kF_f28 hA_f16 rfl
                have hP : va_P (dC, dI) vwCl (YW cy y0 r v27 f28 w29 g30) H := hP
                have hD : va_D A (YW cy y0 r v27 f28 w29 g30) := hD
                have hUv27 : (v27 35).toInt + (v27 36).toInt ≤ 40 := hIv27.2
                have hq0_v27 : v27 0 = (v 0) := hk0_v27.trans hq0_v16
                have hq1_v27 : v27 1 = (v 1) := hk1_v27.trans hq1_v16
                have hq2_v27 : v27 2 = (v 2) := hk2_v27.trans hq2_v16
                have hq3_v27 : v27 3 = (v 3) := hk3_v27.trans hq3_v16
                have hq4_v27 : v27 4 = (v 4) := hk4_v27.trans hq4_v16
                have hq5_v27 : v27 5 = (v 5) := hk5_v27.trans hq5_v16
                have hq8_v27 : v27 8 = (v 8) := hk8_v27.trans hq8_v16
                have hq9_v27 : v27 9 = (v 9) := hk9_v27.trans hq9_v16
                have zq9_v27 := congrArg Int32.toInt hq9_v27
                have hq10_v27 : v27 10 = (v 10) := hk10_v27.trans hq10_v16
                have hq13_v27 : v27 13 = (v 13) := hk13_v27.trans hq13_v16
                have hq14_v27 : v27 14 = (v 14) := hk14_v27.trans hq14_v16
                have hq15_v27 : v27 15 = (v 15) := hk15_v27.trans hq15_v16
                have hq17_v27 : v27 17 = (v 17) := hk17_v27.trans hq17_v16
                have hq18_v27 : v27 18 = (v 18) := hk18_v27.trans hq18_v16
                have hq24_v27 : v27 24 = (v 24) := hk24_v27.trans hq24_v16
                have hq25_v27 : v27 25 = (v 25) := hk25_v27.trans hq25_v16
                have hq35_v27 : v27 35 = (v 35) := hk35_v27.trans hq35_v16
                have hq36_v27 : v27 36 = (v 36) := hk36_v27.trans hq36_v16
                have hq38_v27 : v27 38 = (v 38) := hk38_v27.trans hq38_v16
                have hq39_v27 : v27 39 = (v 39) := hk39_v27.trans hq39_v16
                refine lv_pop hx hb dX11_will_64 rfl ?_
                obtain ⟨t31, et31⟩ : ∃ y : Int32, y = l4_16 + 1 := ⟨_, rfl⟩
                have zt31 : t31.toInt = l4_16.toInt + 1 := by rw [et31]; exact add_i rfl (by decide) (by omega) (by omega)
                refine lv_iinc (v := t31) (lv' := [(4, .int t31), (0, .ref y0), (1, .int p1), (2, .int p2), (3, .int p3)]) hx hb dX11_will_65 hl (k := 0) rfl (by rw [et31]; rfl) (by decide) rfl (fun ls hl => ?_)
                refine lv_goto (tgt := 37) hx hb dX11_will_68 (by decide) ?_
                have rg32 := fb_rng t31
                exact ih16 t31 v27 f28 w29 g30 hIv27 hCf28 hRf28 hq0_v27 hq1_v27 hq2_v27 hq3_v27 hq4_v27 hq5_v27 hq8_v27 hq9_v27 hq10_v27 hq13_v27 hq14_v27 hq15_v27 hq17_v27 hq18_v27 hq24_v27 hq25_v27 hq35_v27 hq36_v27 hq38_v27 hq39_v27 ⟨show (0 : Int) ≤ t31.toInt by omega, show t31.toInt ≤ (2147483647 : Int) by omega⟩ hM_v27 hA_f28 (by show (2147483647 - t31.toInt).toNat < n16; omega) _ _ _ hP hD hS (lv_sub hl [0, 1, 2, 3, 4] rfl)
              · skip
                have zc25 : p3.toInt = 1 := by rw [fa_eq, show (1 : Int32).toInt = 1 from by decide] at c25; exact c25
                refine lv_aload_n hx hb dX11_will_49 rfl (lv_at hl 1 rfl) ?_
                refine cbVi (n := 0) (rest := [.ref y0]) hx hb hml hown hts hE hP hD hS hA (sY_X11_drawRain_1 l dC dI cy y0 r  v16 f16 w16 g16 hIv16 hCf16 hRf16 ) k_1791 k_1793 k_78 k_114 k_1794 (by decide +kernel) ⟨Nat.le_of_ble_eq_true rfl, Nat.le_of_ble_eq_true rfl⟩ 0 11 rfl rfl (rfl) hl.1 rfl (Nat.le_of_ble_eq_true rfl) dX11_will_50 (fun r33 u H locs hw hP hD hS => ?_)
                obtain ⟨v34, f35, w36, g37⟩ := u
                obtain ⟨kV_v34, kF_f35, hIv34, hCf35, hRf35, hk0_v34, hk1_v34, hk2_v34, hk3_v34, hk4_v34, hk5_v34, hk8_v34, hk9_v34, hk10_v34, hk13_v34, hk14_v34, hk15_v34, hk17_v34, hk18_v34, hk24_v34, hk25_v34, hk35_v34, hk36_v34, hk38_v34, hk39_v34, hw⟩ := hw
                have hM_v34 : KV [] v34 v := KV.tr kV_v34 hM_v16 rfl
                have hA_f35 : KF [7, 8, 24] f35 f := KF.tr kF_f35 hA_f16 rfl
                have hP : va_P (dC, dI) vwCl (YW cy y0 r v34 f35 w36 g37) H := hP
                have hD : va_D A (YW cy y0 r v34 f35 w36 g37) := hD
                have hUv34 : (v34 35).toInt + (v34 36).toInt ≤ 40 := hIv34.2
                have hq0_v34 : v34 0 = (v 0) := hk0_v34.trans hq0_v16
                have hq1_v34 : v34 1 = (v 1) := hk1_v34.trans hq1_v16
                have hq2_v34 : v34 2 = (v 2) := hk2_v34.trans hq2_v16
                have hq3_v34 : v34 3 = (v 3) := hk3_v34.trans hq3_v16
                have hq4_v34 : v34 4 = (v 4) := hk4_v34.trans hq4_v16
                have hq5_v34 : v34 5 = (v 5) := hk5_v34.trans hq5_v16
                have hq8_v34 : v34 8 = (v 8) := hk8_v34.trans hq8_v16
                have hq9_v34 : v34 9 = (v 9) := hk9_v34.trans hq9_v16
                have zq9_v34 := congrArg Int32.toInt hq9_v34
                have hq10_v34 : v34 10 = (v 10) := hk10_v34.trans hq10_v16
                have hq13_v34 : v34 13 = (v 13) := hk13_v34.trans hq13_v16
                have hq14_v34 : v34 14 = (v 14) := hk14_v34.trans hq14_v16
                have hq15_v34 : v34 15 = (v 15) := hk15_v34.trans hq15_v16
                have hq17_v34 : v34 17 = (v 17) := hk17_v34.trans hq17_v16
                have hq18_v34 : v34 18 = (v 18) := hk18_v34.trans hq18_v16
                have hq24_v34 : v34 24 = (v 24) := hk24_v34.trans hq24_v16
                have hq25_v34 : v34 25 = (v 25) := hk25_v34.trans hq25_v16
                have hq35_v34 : v34 35 = (v 35) := hk35_v34.trans hq35_v16
                have hq36_v34 : v34 36 = (v 36) := hk36_v34.trans hq36_v16
                have hq38_v34 : v34 38 = (v 38) := hk38_v34.trans hq38_v16
                have hq39_v34 : v34 39 = (v 39) := hk39_v34.trans hq39_v16
                rcases hw with ⟨g38⟩ | ⟨g38⟩
                · skip
                  subst g38
                  refine lv_if_eq (tgt := 60) hx hb dX11_will_53 (by decide) (fun c0 => absurd c0 (by decide)) (fun _ => ?_)
                  refine lv_iconst (v := 1) hx hb dX11_will_56 (by decide) ?_
                  refine lv_goto (tgt := 61) hx hb dX11_will_57 (by decide) ?_
                  refine cbVi (n := 1) (rest := []) hx hb hml hown hts hE hP hD hS hA (sY_X11_goDay_1 l dC dI cy y0 r 1 v34 f35 w36 g37 hIv34 hCf35 hRf35 ) k_1795 k_1797 k_79 k_114 k_1798 (by decide +kernel) ⟨Nat.le_of_ble_eq_true rfl, Nat.le_of_ble_eq_true rfl⟩ 0 11 rfl rfl (rfl) hl.1 rfl (Nat.le_of_ble_eq_true rfl) dX11_will_61 (fun r39 u H locs hw hP hD hS => ?_)
                  obtain ⟨v40, f41, w42, g43⟩ := u
                  obtain ⟨kV_v40, kF_f41, hIv40, hCf41, hRf41, hk0_v40, hk1_v40, hk2_v40, hk3_v40, hk4_v40, hk5_v40, hk8_v40, hk9_v40, hk10_v40, hk13_v40, hk14_v40, hk15_v40, hk17_v40, hk18_v40, hk24_v40, hk25_v40, hk35_v40, hk36_v40, hk38_v40, hk39_v40⟩ := hw
                  have hM_v40 : KV [] v40 v := KV.tr kV_v40 hM_v34 rfl
                  have hA_f41 : KF [7, 8, 24] f41 f := KF.tr kF_f41 hA_f35 rfl
                  have hP : va_P (dC, dI) vwCl (YW cy y0 r v40 f41 w42 g43) H := hP
                  have hD : va_D A (YW cy y0 r v40 f41 w42 g43) := hD
                  have hUv40 : (v40 35).toInt + (v40 36).toInt ≤ 40 := hIv40.2
                  have hq0_v40 : v40 0 = (v 0) := hk0_v40.trans hq0_v34
                  have hq1_v40 : v40 1 = (v 1) := hk1_v40.trans hq1_v34
                  have hq2_v40 : v40 2 = (v 2) := hk2_v40.trans hq2_v34
                  have hq3_v40 : v40 3 = (v 3) := hk3_v40.trans hq3_v34
                  have hq4_v40 : v40 4 = (v 4) := hk4_v40.trans hq4_v34
                  have hq5_v40 : v40 5 = (v 5) := hk5_v40.trans hq5_v34
                  have hq8_v40 : v40 8 = (v 8) := hk8_v40.trans hq8_v34
                  have hq9_v40 : v40 9 = (v 9) := hk9_v40.trans hq9_v34
                  have zq9_v40 := congrArg Int32.toInt hq9_v40
                  have hq10_v40 : v40 10 = (v 10) := hk10_v40.trans hq10_v34
                  have hq13_v40 : v40 13 = (v 13) := hk13_v40.trans hq13_v34
                  have hq14_v40 : v40 14 = (v 14) := hk14_v40.trans hq14_v34
                  have hq15_v40 : v40 15 = (v 15) := hk15_v40.trans hq15_v34
                  have hq17_v40 : v40 17 = (v 17) := hk17_v40.trans hq17_v34
                  have hq18_v40 : v40 18 = (v 18) := hk18_v40.trans hq18_v34
                  have hq24_v40 : v40 24 = (v 24) := hk24_v40.trans hq24_v34
                  have hq25_v40 : v40 25 = (v 25) := hk25_v40.trans hq25_v34
                  have hq35_v40 : v40 35 = (v 35) := hk35_v40.trans hq35_v34
                  have hq36_v40 : v40 36 = (v 36) := hk36_v40.trans hq36_v34
                  have hq38_v40 : v40 38 = (v 38) := hk38_v40.trans hq38_v34
                  have hq39_v40 : v40 39 = (v 39) := hk39_v40.trans hq39_v34
                  refine lv_pop hx hb dX11_will_64 rfl ?_
                  obtain ⟨t44, et44⟩ : ∃ y : Int32, y = l4_16 + 1 := ⟨_, rfl⟩
                  have zt44 : t44.toInt = l4_16.toInt + 1 := by rw [et44]; exact add_i rfl (by decide) (by omega) (by omega)
                  refine lv_iinc (v := t44) (lv' := [(4, .int t44), (0, .ref y0), (1, .int p1), (2, .int p2), (3, .int p3)]) hx hb dX11_will_65 hl (k := 0) rfl (by rw [et44]; rfl) (by decide) rfl (fun ls hl => ?_)
                  refine lv_goto (tgt := 37) hx hb dX11_will_68 (by decide) ?_
                  have rg45 := fb_rng t44
                  exact ih16 t44 v40 f41 w42 g43 hIv40 hCf41 hRf41 hq0_v40 hq1_v40 hq2_v40 hq3_v40 hq4_v40 hq5_v40 hq8_v40 hq9_v40 hq10_v40 hq13_v40 hq14_v40 hq15_v40 hq17_v40 hq18_v40 hq24_v40 hq25_v40 hq35_v40 hq36_v40 hq38_v40 hq39_v40 ⟨show (0 : Int) ≤ t44.toInt by omega, show t44.toInt ≤ (2147483647 : Int) by omega⟩ hM_v40 hA_f41 (by show (2147483647 - t44.toInt).toNat < n16; omega) _ _ _ hP hD hS (lv_sub hl [0, 1, 2, 3, 4] rfl)
                · skip
                  subst g38
                  refine lv_if_eq (tgt := 60) hx hb dX11_will_53 (by decide) (fun _ => ?_) (fun c0 => absurd (by decide) c0)
                  refine lv_iconst (v := 0) hx hb dX11_will_60 (by decide) ?_
                  refine cbVi (n := 1) (rest := []) hx hb hml hown hts hE hP hD hS hA (sY_X11_goDay_1 l dC dI cy y0 r 0 v34 f35 w36 g37 hIv34 hCf35 hRf35 ) k_1795 k_1797 k_79 k_114 k_1798 (by decide +kernel) ⟨Nat.le_of_ble_eq_true rfl, Nat.le_of_ble_eq_true rfl⟩ 0 11 rfl rfl (rfl) hl.1 rfl (Nat.le_of_ble_eq_true rfl) dX11_will_61 (fun r46 u H locs hw hP hD hS => ?_)
                  obtain ⟨v47, f48, w49, g50⟩ := u
                  obtain ⟨kV_v47, kF_f48, hIv47, hCf48, hRf48, hk0_v47, hk1_v47, hk2_v47, hk3_v47, hk4_v47, hk5_v47, hk8_v47, hk9_v47, hk10_v47, hk13_v47, hk14_v47, hk15_v47, hk17_v47, hk18_v47, hk24_v47, hk25_v47, hk35_v47, hk36_v47, hk38_v47, hk39_v47⟩ := hw
                  have hM_v47 : KV [] v47 v := KV.tr kV_v47 hM_v34 rfl
                  have hA_f48 : KF [7, 8, 24] f48 f := KF.tr kF_f48 hA_f35 rfl
                  have hP : va_P (dC, dI) vwCl (YW cy y0 r v47 f48 w49 g50) H := hP
                  have hD : va_D A (YW cy y0 r v47 f48 w49 g50) := hD
                  have hUv47 : (v47 35).toInt + (v47 36).toInt ≤ 40 := hIv47.2
                  have hq0_v47 : v47 0 = (v 0) := hk0_v47.trans hq0_v34
                  have hq1_v47 : v47 1 = (v 1) := hk1_v47.trans hq1_v34
                  have hq2_v47 : v47 2 = (v 2) := hk2_v47.trans hq2_v34
                  have hq3_v47 : v47 3 = (v 3) := hk3_v47.trans hq3_v34
                  have hq4_v47 : v47 4 = (v 4) := hk4_v47.trans hq4_v34
                  have hq5_v47 : v47 5 = (v 5) := hk5_v47.trans hq5_v34
                  have hq8_v47 : v47 8 = (v 8) := hk8_v47.trans hq8_v34
                  have hq9_v47 : v47 9 = (v 9) := hk9_v47.trans hq9_v34
                  have zq9_v47 := congrArg Int32.toInt hq9_v47
                  have hq10_v47 : v47 10 = (v 10) := hk10_v47.trans hq10_v34
                  have hq13_v47 : v47 13 = (v 13) := hk13_v47.trans hq13_v34
                  have hq14_v47 : v47 14 = (v 14) := hk14_v47.trans hq14_v34
                  have hq15_v47 : v47 15 = (v 15) := hk15_v47.trans hq15_v34
                  have hq17_v47 : v47 17 = (v 17) := hk17_v47.trans hq17_v34
                  have hq18_v47 : v47 18 = (v 18) := hk18_v47.trans hq18_v34
                  have hq24_v47 : v47 24 = (v 24) := hk24_v47.trans hq24_v34
                  have hq25_v47 : v47 25 = (v 25) := hk25_v47.trans hq25_v34
                  have hq35_v47 : v47 35 = (v 35) := hk35_v47.trans hq35_v34
                  have hq36_v47 : v47 36 = (v 36) := hk36_v47.trans hq36_v34
                  have hq38_v47 : v47 38 = (v 38) := hk38_v47.trans hq38_v34
                  have hq39_v47 : v47 39 = (v 39) := hk39_v47.trans hq39_v34
                  refine lv_pop hx hb dX11_will_64 rfl ?_
                  obtain ⟨t51, et51⟩ : ∃ y : Int32, y = l4_16 + 1 := ⟨_, rfl⟩
                  have zt51 : t51.toInt = l4_16.toInt + 1 := by rw [et51]; exact add_i rfl (by decide) (by omega) (by omega)
                  refine lv_iinc (v := t51) (lv' := [(4, .int t51), (0, .ref y0), (1, .int p1), (2, .int p2), (3, .int p3)]) hx hb dX11_will_65 hl (k := 0) rfl (by rw [et51]; rfl) (by decide) rfl (fun ls hl => ?_)
                  refine lv_goto (tgt := 37) hx hb dX11_will_68 (by decide) ?_
                  have rg52 := fb_rng t51
                  exact ih16 t51 v47 f48 w49 g50 hIv47 hCf48 hRf48 hq0_v47 hq1_v47 hq2_v47 hq3_v47 hq4_v47 hq5_v47 hq8_v47 hq9_v47 hq10_v47 hq13_v47 hq14_v47 hq15_v47 hq17_v47 hq18_v47 hq24_v47 hq25_v47 hq35_v47 hq36_v47 hq38_v47 hq39_v47 ⟨show (0 : Int) ≤ t51.toInt by omega, show t51.toInt ≤ (2147483647 : Int) by omega⟩ hM_v47 hA_f48 (by show (2147483647 - t51.toInt).toNat < n16; omega) _ _ _ hP hD hS (lv_sub hl [0, 1, 2, 3, 4] rfl)
        exact lp16 _ 0 v12 f13 w14 g15 hIv12 hCf13 hRf13 hq0_v12 hq1_v12 hq2_v12 hq3_v12 hq4_v12 hq5_v12 hq8_v12 hq9_v12 hq10_v12 hq13_v12 hq14_v12 hq15_v12 hq17_v12 hq18_v12 hq24_v12 hq25_v12 hq35_v12 hq36_v12 hq38_v12 hq39_v12 ⟨by decide, by decide⟩ hM_v12 hA_f13 (Nat.lt_succ_self _) _ _ _ hP hD hS (lv_sub hl [0, 1, 2, 3, 4] rfl)
      · skip
        subst g11
        refine lv_if_ne (tgt := 30) hx hb dX11_will_24 (by decide) (fun c0 => absurd (by decide) c0) (fun _ => ?_)
        refine lv_bipush (v := (-2)) hx hb dX11_will_27 (by decide) ?_
        exact ret (-2) (v, f, w, g) _ _ _ _ _ _ rfl ⟨hM_v, hA_f, hIv, hCf, hRf, rfl, rfl, rfl, rfl, rfl, rfl, rfl, rfl, rfl, rfl, rfl, rfl, rfl, rfl, rfl, rfl, rfl, rfl, rfl, rfl⟩ hP hD hS dX11_will_29 (Nat.le_refl _) (Nat.le_refl _)
    · skip
      subst g7
      refine lv_if_eq (tgt := 27) hx hb dX11_will_15 (by decide) (fun _ => ?_) (fun c0 => absurd (by decide) c0)
      refine lv_bipush (v := (-2)) hx hb dX11_will_27 (by decide) ?_
      exact ret (-2) (v, f, w, g) _ _ _ _ _ _ rfl ⟨hM_v, hA_f, hIv, hCf, hRf, rfl, rfl, rfl, rfl, rfl, rfl, rfl, rfl, rfl, rfl, rfl, rfl, rfl, rfl, rfl, rfl, rfl, rfl, rfl, rfl⟩ hP hD hS dX11_will_29 (Nat.le_refl _) (Nat.le_refl _)
  · skip
    subst g2
    refine lv_if_eq (tgt := 27) hx hb dX11_will_5 (by decide) (fun _ => ?_) (fun c0 => absurd (by decide) c0)
    refine lv_bipush (v := (-2)) hx hb dX11_will_27 (by decide) ?_
    exact ret (-2) (v, f, w, g) _ _ _ _ _ _ rfl ⟨hM_v, hA_f, hIv, hCf, hRf, rfl, rfl, rfl, rfl, rfl, rfl, rfl, rfl, rfl, rfl, rfl, rfl, rfl, rfl, rfl, rfl, rfl, rfl, rfl, rfl⟩ hP hD hS dX11_will_29 (Nat.le_refl _) (Nat.le_refl _)
set_option maxHeartbeats 4000000 in
set_option maxRecDepth 100000 in
theorem sY_X11_out_1 (l : Launch) (dC : Nat → ClassId) (dI : Nat → Nat → Nat) (cy : Nat → ClassId) (y0 : Nat) (r : Nat → Nat) (p1 : Int32) (v : Nat → Int32) (f : Nat → Nat → Int32) (w : Int64) (g : Nat → Int64) (hIv : YI v) (hCf : YC f) (hRf : progOK (f 4) (f 5) (v 9).toInt.toNat)  : ctI l (dC, dI) cy yX11_out cX11_out 3 .int 8 214 0 0 ((Nat → Int32) × (Nat → Nat → Int32) × (Int64) × (Nat → Int64)) [.ref y0, .int p1] (YW cy y0 r v f w g) (fun r u => KV [] u.1 v ∧ KF [7, 8, 24] u.2.1 f ∧ YI u.1 ∧ YC u.2.1 ∧ progOK (u.2.1 4) (u.2.1 5) (u.1 9).toInt.toNat ∧ u.1 0 = v 0 ∧ u.1 1 = v 1 ∧ u.1 2 = v 2 ∧ u.1 3 = v 3 ∧ u.1 4 = v 4 ∧ u.1 5 = v 5 ∧ u.1 8 = v 8 ∧ u.1 9 = v 9 ∧ u.1 10 = v 10 ∧ u.1 13 = v 13 ∧ u.1 14 = v 14 ∧ u.1 15 = v 15 ∧ u.1 17 = v 17 ∧ u.1 18 = v 18 ∧ u.1 24 = v 24 ∧ u.1 25 = v 25 ∧ u.1 35 = v 35 ∧ u.1 36 = v 36 ∧ u.1 38 = v 38 ∧ u.1 39 = v 39) (fun u => YW cy y0 r u.1 u.2.1 u.2.2.1 u.2.2.2) := by
  refine ctI_of (by decide) (Nat.le_of_ble_eq_true rfl) (fun p e s m below meth c A ls Q hx hb hml hts hown hE hP hD hA hl ret => ?_)
  have hUv : (v 35).toInt + (v 36).toInt ≤ 40 := hIv.2
  have hM_v : KV [] v v := fun _ _ => rfl
  have hA_f : KF [7, 8, 24] f f := fun _ _ => rfl
  have hown : s.vm.findClass RX11 = some m.cls := hown
  have hS : va_S A s.heap s.heap [] := va_S.rf
  have hl : lv_has ls 3 [(0, .ref y0), (1, .int p1)] := hl
  refine lv_aload_n hx hb dX11_out_0 rfl (lv_at hl 0 rfl) ?_
  refine lv_iload_n hx hb dX11_out_1 rfl (lv_at hl 1 rfl) ?_
  refine cbVi (n := 1) (rest := []) hx hb hml hown hts hE hP hD hS hA (sY_X11_isMan_1 l dC dI cy y0 r p1 v f w g hIv hCf hRf ) k_1732 k_1734 k_70 k_114 k_1735 (by decide +kernel) ⟨Nat.le_of_ble_eq_true rfl, Nat.le_of_ble_eq_true rfl⟩ 0 11 rfl rfl (rfl) hl.1 rfl (Nat.le_of_ble_eq_true rfl) dX11_out_2 (fun r1 u H locs hw hP hD hS => ?_)
  rcases hw with ⟨g2, g2_0, g2_1, g2_2⟩ | ⟨g2⟩
  · skip
    subst g2
    refine lv_if_ne (tgt := 10) hx hb dX11_out_5 (by decide) (fun _ => ?_) (fun c0 => absurd c0 (by decide))
    refine lv_aload_n hx hb dX11_out_10 rfl (lv_at hl 0 rfl) ?_
    refine cbVv (n := 0) (rest := []) hx hb hml hown hts hE hP hD hS hA (sY_X11_fill_1 l dC dI cy y0 r  v f w g hIv hCf hRf ) k_1739 k_1741 k_71 k_114 k_1742 (by decide +kernel) ⟨Nat.le_of_ble_eq_true rfl, Nat.le_of_ble_eq_true rfl⟩ 0 11 rfl rfl (rfl) hl.1 rfl (Nat.le_of_ble_eq_true rfl) dX11_out_11 (fun u H locs hw hP hD hS => ?_)
    obtain ⟨v3, f4, w5, g6⟩ := u
    obtain ⟨kV_v3, kF_f4, hIv3, hCf4, hRf4, hk0_v3, hk1_v3, hk2_v3, hk3_v3, hk4_v3, hk5_v3, hk8_v3, hk9_v3, hk10_v3, hk13_v3, hk14_v3, hk15_v3, hk17_v3, hk18_v3, hk24_v3, hk25_v3, hk35_v3, hk36_v3, hk38_v3, hk39_v3⟩ := hw
    have hM_v3 : KV [] v3 v := KV.tr kV_v3 hM_v rfl
    have hA_f4 : KF [7, 8, 24] f4 f := KF.tr kF_f4 hA_f rfl
    have hP : va_P (dC, dI) vwCl (YW cy y0 r v3 f4 w5 g6) H := hP
    have hD : va_D A (YW cy y0 r v3 f4 w5 g6) := hD
    have hUv3 : (v3 35).toInt + (v3 36).toInt ≤ 40 := hIv3.2
    have hq0_v3 : v3 0 = (v 0) := hk0_v3
    have hq1_v3 : v3 1 = (v 1) := hk1_v3
    have hq2_v3 : v3 2 = (v 2) := hk2_v3
    have hq3_v3 : v3 3 = (v 3) := hk3_v3
    have hq4_v3 : v3 4 = (v 4) := hk4_v3
    have hq5_v3 : v3 5 = (v 5) := hk5_v3
    have hq8_v3 : v3 8 = (v 8) := hk8_v3
    have hq9_v3 : v3 9 = (v 9) := hk9_v3
    have zq9_v3 := congrArg Int32.toInt hq9_v3
    have hq10_v3 : v3 10 = (v 10) := hk10_v3
    have hq13_v3 : v3 13 = (v 13) := hk13_v3
    have hq14_v3 : v3 14 = (v 14) := hk14_v3
    have hq15_v3 : v3 15 = (v 15) := hk15_v3
    have hq17_v3 : v3 17 = (v 17) := hk17_v3
    have hq18_v3 : v3 18 = (v 18) := hk18_v3
    have hq24_v3 : v3 24 = (v 24) := hk24_v3
    have hq25_v3 : v3 25 = (v 25) := hk25_v3
    have hq35_v3 : v3 35 = (v 35) := hk35_v3
    have hq36_v3 : v3 36 = (v 36) := hk36_v3
    have hq38_v3 : v3 38 = (v 38) := hk38_v3
    have hq39_v3 : v3 39 = (v 39) := hk39_v3
    refine lv_iconst (v := 0) hx hb dX11_out_14 (by decide) ?_
    refine lv_istore_n (lv' := [(2, .int 0), (0, .ref y0), (1, .int p1)]) hx hb dX11_out_15 rfl hl (by decide) rfl (fun ls hl => ?_)
    have lp7 : ∀ (n7 : Nat) (l2_7 : Int32) (v7 : Nat → Int32) (f7 : Nat → Nat → Int32) (w7 : Int64) (g7 : Nat → Int64), YI v7 → YC f7 → progOK (f7 4) (f7 5) (v7 9).toInt.toNat → v7 0 = (v 0) → v7 1 = (v 1) → v7 2 = (v 2) → v7 3 = (v 3) → v7 4 = (v 4) → v7 5 = (v 5) → v7 8 = (v 8) → v7 9 = (v 9) → v7 10 = (v 10) → v7 13 = (v 13) → v7 14 = (v 14) → v7 15 = (v 15) → v7 17 = (v 17) → v7 18 = (v 18) → v7 24 = (v 24) → v7 25 = (v 25) → v7 35 = (v 35) → v7 36 = (v 36) → v7 38 = (v 38) → v7 39 = (v 39) → ((0 : Int) ≤ l2_7.toInt ∧ l2_7.toInt ≤ 2147483647) → KV [] v7 v → KF [7, 8, 24] f7 f → (2147483647 - l2_7.toInt).toNat < n7 → ∀ (H : Heap) (locs : List Loc) (ls : Array Slot), va_P (dC, dI) vwCl (YW cy y0 r v7 f7 w7 g7) H → va_D A (YW cy y0 r v7 f7 w7 g7) → va_S A s.heap H locs → lv_has ls 3 [(2, .int l2_7), (0, .ref y0), (1, .int p1)] → W p l e { frames := 8, cells := 0, slots := 0, locals := 214 } s m ([.ref y0, .int p1] : List Value).toArray below meth c H locs 0 0 Q (F0 m 16 ls []) := by
      intro n7
      induction n7 with
      | zero => intro l2_7 v7 f7 w7 g7 hIv7 hCf7 hRf7 hq0_v7 hq1_v7 hq2_v7 hq3_v7 hq4_v7 hq5_v7 hq8_v7 hq9_v7 hq10_v7 hq13_v7 hq14_v7 hq15_v7 hq17_v7 hq18_v7 hq24_v7 hq25_v7 hq35_v7 hq36_v7 hq38_v7 hq39_v7 hr2_7 hM_v7 hA_f7 hm; exact absurd hm (Nat.not_lt_zero _)
      | succ n7 ih7 =>
        intro l2_7 v7 f7 w7 g7 hIv7 hCf7 hRf7 hq0_v7 hq1_v7 hq2_v7 hq3_v7 hq4_v7 hq5_v7 hq8_v7 hq9_v7 hq10_v7 hq13_v7 hq14_v7 hq15_v7 hq17_v7 hq18_v7 hq24_v7 hq25_v7 hq35_v7 hq36_v7 hq38_v7 hq39_v7 hr2_7 hM_v7 hA_f7 hm7 H locs ls hP hD hS hl
        have hUv7 : (v7 35).toInt + (v7 36).toInt ≤ 40 := hIv7.2
        have zq9_v7 := congrArg Int32.toInt hq9_v7
        refine lv_iload_n hx hb dX11_out_16 rfl (lv_at hl 0 rfl) ?_
        refine lv_bipush (v := 60) hx hb dX11_out_17 (by decide) ?_
        refine lv_icmp_gt (tgt := 48) hx hb dX11_out_19 (by decide) (fun c8 => ?_) (fun c8 => ?_)
        · skip
          have zc8 : 60 < l2_7.toInt := by rw [fa_lt, show (60 : Int32).toInt = 60 from by decide] at c8; exact c8
          refine lv_iconst (v := (-1)) hx hb dX11_out_48 (by decide) ?_
          exact ret (-1) (v7, f7, w7, g7) _ _ _ _ _ _ rfl ⟨hM_v7, hA_f7, hIv7, hCf7, hRf7, hq0_v7, hq1_v7, hq2_v7, hq3_v7, hq4_v7, hq5_v7, hq8_v7, hq9_v7, hq10_v7, hq13_v7, hq14_v7, hq15_v7, hq17_v7, hq18_v7, hq24_v7, hq25_v7, hq35_v7, hq36_v7, hq38_v7, hq39_v7⟩ hP hD hS dX11_out_49 (Nat.le_refl _) (Nat.le_refl _)
        · skip
          have zc8 : ¬ (60 < l2_7.toInt) := by rw [fa_lt, show (60 : Int32).toInt = 60 from by decide] at c8; exact c8
          refine lv_aload_n hx hb dX11_out_22 rfl (lv_at hl 1 rfl) ?_
          refine va_get (D := (dC, dI)) (ci := 11) (v := .ref (r 60)) (C := RX11) (T := TX11) (N := 79) hx hb hts inB_11 hown hE.1 hP 0 rfl rfl 60 (by decide) (hts _ k_1380) (fun _ h9 => h9) rfl dX11_out_23 ?_
          refine lv_bipush (v := 6) hx hb dX11_out_26 (by decide) ?_
          refine lv_iload_n hx hb dX11_out_28 rfl (lv_at hl 2 rfl) ?_
          refine lv_iadd hx hb dX11_out_29 ?_
          refine lv_topi (fun t9 et9 => ?_)
          have rg10 := fb_rng p1
          have zt9 : t9.toInt = 6 + p1.toInt := by rw [et9]; exact add_i (by decide) rfl (by omega) (by omega)
          refine ldI hx hb hE hP 25 rfl (vp_in_iff.mpr ⟨by omega, by omega⟩) rfl rfl dX11_out_30 ?_
          refine lv_topi (fun t11 et11 => ?_)
          have zt11 : t9.toInt.toNat % 39 < 6 ∨ 12 ≤ t9.toInt.toNat % 39 ∨ (-1 ≤ t11.toInt ∧ t11.toInt ≤ 5) := by rw [et11]; exact wear_ld hCf7.2.1 (show t9.toInt.toNat < 39 by omega)
          refine lv_if_ge (tgt := 36) hx hb dX11_out_31 (by decide) (fun c12 => ?_) (fun c12 => ?_)
          · skip
            have zc12 : 0 ≤ t11.toInt := by rw [fa_le, show (0 : Int32).toInt = 0 from by decide] at c12; exact c12
            refine lv_aload_n hx hb dX11_out_36 rfl (lv_at hl 1 rfl) ?_
            refine lv_iconst (v := 0) hx hb dX11_out_37 (by decide) ?_
            refine cbVi (n := 1) (rest := []) hx hb hml hown hts hE hP hD hS hA (sY_X11_goDay_1 l dC dI cy y0 r 0 v7 f7 w7 g7 hIv7 hCf7 hRf7 ) k_1795 k_1797 k_79 k_114 k_1798 (by decide +kernel) ⟨Nat.le_of_ble_eq_true rfl, Nat.le_of_ble_eq_true rfl⟩ 0 11 rfl rfl (rfl) hl.1 rfl (Nat.le_of_ble_eq_true rfl) dX11_out_38 (fun r13 u H locs hw hP hD hS => ?_)
            obtain ⟨v14, f15, w16, g17⟩ := u
            obtain ⟨kV_v14, kF_f15, hIv14, hCf15, hRf15, hk0_v14, hk1_v14, hk2_v14, hk3_v14, hk4_v14, hk5_v14, hk8_v14, hk9_v14, hk10_v14, hk13_v14, hk14_v14, hk15_v14, hk17_v14, hk18_v14, hk24_v14, hk25_v14, hk35_v14, hk36_v14, hk38_v14, hk39_v14⟩ := hw
            have hM_v14 : KV [] v14 v := KV.tr kV_v14 hM_v7 rfl
            have hA_f15 : KF [7, 8, 24] f15 f := KF.tr kF_f15 hA_f7 rfl
            have hP : va_P (dC, dI) vwCl (YW cy y0 r v14 f15 w16 g17) H := hP
            have hD : va_D A (YW cy y0 r v14 f15 w16 g17) := hD
            have hUv14 : (v14 35).toInt + (v14 36).toInt ≤ 40 := hIv14.2
            have hq0_v14 : v14 0 = (v 0) := hk0_v14.trans hq0_v7
            have hq1_v14 : v14 1 = (v 1) := hk1_v14.trans hq1_v7
            have hq2_v14 : v14 2 = (v 2) := hk2_v14.trans hq2_v7
            have hq3_v14 : v14 3 = (v 3) := hk3_v14.trans hq3_v7
            have hq4_v14 : v14 4 = (v 4) := hk4_v14.trans hq4_v7
            have hq5_v14 : v14 5 = (v 5) := hk5_v14.trans hq5_v7
            have hq8_v14 : v14 8 = (v 8) := hk8_v14.trans hq8_v7
            have hq9_v14 : v14 9 = (v 9) := hk9_v14.trans hq9_v7
            have zq9_v14 := congrArg Int32.toInt hq9_v14
            have hq10_v14 : v14 10 = (v 10) := hk10_v14.trans hq10_v7
            have hq13_v14 : v14 13 = (v 13) := hk13_v14.trans hq13_v7
            have hq14_v14 : v14 14 = (v 14) := hk14_v14.trans hq14_v7
            have hq15_v14 : v14 15 = (v 15) := hk15_v14.trans hq15_v7
            have hq17_v14 : v14 17 = (v 17) := hk17_v14.trans hq17_v7
            have hq18_v14 : v14 18 = (v 18) := hk18_v14.trans hq18_v7
            have hq24_v14 : v14 24 = (v 24) := hk24_v14.trans hq24_v7
            have hq25_v14 : v14 25 = (v 25) := hk25_v14.trans hq25_v7
            have hq35_v14 : v14 35 = (v 35) := hk35_v14.trans hq35_v7
            have hq36_v14 : v14 36 = (v 36) := hk36_v14.trans hq36_v7
            have hq38_v14 : v14 38 = (v 38) := hk38_v14.trans hq38_v7
            have hq39_v14 : v14 39 = (v 39) := hk39_v14.trans hq39_v7
            refine lv_pop hx hb dX11_out_41 rfl ?_
            obtain ⟨t18, et18⟩ : ∃ y : Int32, y = l2_7 + 1 := ⟨_, rfl⟩
            have rg19 := fb_rng l2_7
            have zt18 : t18.toInt = l2_7.toInt + 1 := by rw [et18]; exact add_i rfl (by decide) (by omega) (by omega)
            refine lv_iinc (v := t18) (lv' := [(2, .int t18), (0, .ref y0), (1, .int p1)]) hx hb dX11_out_42 hl (k := 0) rfl (by rw [et18]; rfl) (by decide) rfl (fun ls hl => ?_)
            refine lv_goto (tgt := 16) hx hb dX11_out_45 (by decide) ?_
            have rg20 := fb_rng t18
            exact ih7 t18 v14 f15 w16 g17 hIv14 hCf15 hRf15 hq0_v14 hq1_v14 hq2_v14 hq3_v14 hq4_v14 hq5_v14 hq8_v14 hq9_v14 hq10_v14 hq13_v14 hq14_v14 hq15_v14 hq17_v14 hq18_v14 hq24_v14 hq25_v14 hq35_v14 hq36_v14 hq38_v14 hq39_v14 ⟨show (0 : Int) ≤ t18.toInt by omega, show t18.toInt ≤ (2147483647 : Int) by omega⟩ hM_v14 hA_f15 (by show (2147483647 - t18.toInt).toNat < n7; omega) _ _ _ hP hD hS (lv_sub hl [0, 1, 2] rfl)
          · skip
            have zc12 : ¬ (0 ≤ t11.toInt) := by rw [fa_le, show (0 : Int32).toInt = 0 from by decide] at c12; exact c12
            refine lv_iload_n hx hb dX11_out_34 rfl (lv_at hl 0 rfl) ?_
            exact ret l2_7 (v7, f7, w7, g7) _ _ _ _ _ _ rfl ⟨hM_v7, hA_f7, hIv7, hCf7, hRf7, hq0_v7, hq1_v7, hq2_v7, hq3_v7, hq4_v7, hq5_v7, hq8_v7, hq9_v7, hq10_v7, hq13_v7, hq14_v7, hq15_v7, hq17_v7, hq18_v7, hq24_v7, hq25_v7, hq35_v7, hq36_v7, hq38_v7, hq39_v7⟩ hP hD hS dX11_out_35 (Nat.le_refl _) (Nat.le_refl _)
    exact lp7 _ 0 v3 f4 w5 g6 hIv3 hCf4 hRf4 hq0_v3 hq1_v3 hq2_v3 hq3_v3 hq4_v3 hq5_v3 hq8_v3 hq9_v3 hq10_v3 hq13_v3 hq14_v3 hq15_v3 hq17_v3 hq18_v3 hq24_v3 hq25_v3 hq35_v3 hq36_v3 hq38_v3 hq39_v3 ⟨by decide, by decide⟩ hM_v3 hA_f4 (Nat.lt_succ_self _) _ _ _ hP hD hS (lv_sub hl [0, 1, 2] rfl)
  · skip
    subst g2
    refine lv_if_ne (tgt := 10) hx hb dX11_out_5 (by decide) (fun c0 => absurd (by decide) c0) (fun _ => ?_)
    refine lv_iconst (v := (-1)) hx hb dX11_out_8 (by decide) ?_
    exact ret (-1) (v, f, w, g) _ _ _ _ _ _ rfl ⟨hM_v, hA_f, hIv, hCf, hRf, rfl, rfl, rfl, rfl, rfl, rfl, rfl, rfl, rfl, rfl, rfl, rfl, rfl, rfl, rfl, rfl, rfl, rfl, rfl, rfl⟩ hP hD hS dX11_out_9 (Nat.le_refl _) (Nat.le_refl _)
set_option maxHeartbeats 4000000 in
set_option maxRecDepth 100000 in
theorem sY_X11_fitted_1 (l : Launch) (dC : Nat → ClassId) (dI : Nat → Nat → Nat) (cy : Nat → ClassId) (y0 : Nat) (r : Nat → Nat)  (v : Nat → Int32) (f : Nat → Nat → Int32) (w : Int64) (g : Nat → Int64) (hIv : YI v) (hCf : YC f) (hRf : progOK (f 4) (f 5) (v 9).toInt.toNat)  : ctI l (dC, dI) cy yX11_fitted cX11_fitted 1 .int 7 191 0 0 ((Nat → Int32) × (Nat → Nat → Int32) × (Int64) × (Nat → Int64)) [.ref y0] (YW cy y0 r v f w g) (fun r u => KV [] u.1 v ∧ KF [7, 8, 24] u.2.1 f ∧ YI u.1 ∧ YC u.2.1 ∧ progOK (u.2.1 4) (u.2.1 5) (u.1 9).toInt.toNat ∧ u.1 0 = v 0 ∧ u.1 1 = v 1 ∧ u.1 2 = v 2 ∧ u.1 3 = v 3 ∧ u.1 4 = v 4 ∧ u.1 5 = v 5 ∧ u.1 8 = v 8 ∧ u.1 9 = v 9 ∧ u.1 10 = v 10 ∧ u.1 13 = v 13 ∧ u.1 14 = v 14 ∧ u.1 15 = v 15 ∧ u.1 17 = v 17 ∧ u.1 18 = v 18 ∧ u.1 24 = v 24 ∧ u.1 25 = v 25 ∧ u.1 35 = v 35 ∧ u.1 36 = v 36 ∧ u.1 38 = v 38 ∧ u.1 39 = v 39) (fun u => YW cy y0 r u.1 u.2.1 u.2.2.1 u.2.2.2) := by
  refine ctI_of (by decide) (Nat.le_of_ble_eq_true rfl) (fun p e s m below meth c A ls Q hx hb hml hts hown hE hP hD hA hl ret => ?_)
  have hUv : (v 35).toInt + (v 36).toInt ≤ 40 := hIv.2
  have hM_v : KV [] v v := fun _ _ => rfl
  have hA_f : KF [7, 8, 24] f f := fun _ _ => rfl
  have hown : s.vm.findClass RX11 = some m.cls := hown
  have hS : va_S A s.heap s.heap [] := va_S.rf
  have hl : lv_has ls 1 [(0, .ref y0)] := hl
  refine lv_aload_n hx hb dX11_fitted_0 rfl (lv_at hl 0 rfl) ?_
  refine cbVv (n := 0) (rest := []) hx hb hml hown hts hE hP hD hS hA (sY_X11_fill_1 l dC dI cy y0 r  v f w g hIv hCf hRf ) k_1739 k_1741 k_71 k_114 k_1742 (by decide +kernel) ⟨Nat.le_of_ble_eq_true rfl, Nat.le_of_ble_eq_true rfl⟩ 0 11 rfl rfl (rfl) hl.1 rfl (Nat.le_of_ble_eq_true rfl) dX11_fitted_1 (fun u H locs hw hP hD hS => ?_)
  obtain ⟨v1, f2, w3, g4⟩ := u
  obtain ⟨kV_v1, kF_f2, hIv1, hCf2, hRf2, hk0_v1, hk1_v1, hk2_v1, hk3_v1, hk4_v1, hk5_v1, hk8_v1, hk9_v1, hk10_v1, hk13_v1, hk14_v1, hk15_v1, hk17_v1, hk18_v1, hk24_v1, hk25_v1, hk35_v1, hk36_v1, hk38_v1, hk39_v1⟩ := hw
  have hM_v1 : KV [] v1 v := KV.tr kV_v1 hM_v rfl
  have hA_f2 : KF [7, 8, 24] f2 f := KF.tr kF_f2 hA_f rfl
  have hP : va_P (dC, dI) vwCl (YW cy y0 r v1 f2 w3 g4) H := hP
  have hD : va_D A (YW cy y0 r v1 f2 w3 g4) := hD
  have hUv1 : (v1 35).toInt + (v1 36).toInt ≤ 40 := hIv1.2
  have hq9_v1 : v1 9 = (v 9) := hk9_v1
  have zq9_v1 := congrArg Int32.toInt hq9_v1
  refine lv_aload_n hx hb dX11_fitted_4 rfl (lv_at hl 0 rfl) ?_
  refine cbVi (n := 0) (rest := []) hx hb hml hown hts hE hP hD hS hA (sY_X11_fittedOnes_1 l dC dI cy y0 r  v1 f2 w3 g4 hIv1 hCf2 hRf2 ) k_1809 k_1811 k_81 k_114 k_1812 (by decide +kernel) ⟨Nat.le_of_ble_eq_true rfl, Nat.le_of_ble_eq_true rfl⟩ 0 11 rfl rfl (rfl) hl.1 rfl (Nat.le_of_ble_eq_true rfl) dX11_fitted_5 (fun r5 u H locs hw hP hD hS => ?_)
  obtain ⟨v6, f7, w8, g9⟩ := u
  obtain ⟨kV_v6, kF_f7, hIv6, hCf7, hRf7, hk0_v6, hk1_v6, hk2_v6, hk3_v6, hk4_v6, hk5_v6, hk8_v6, hk9_v6, hk10_v6, hk13_v6, hk14_v6, hk15_v6, hk17_v6, hk18_v6, hk24_v6, hk25_v6, hk35_v6, hk36_v6, hk38_v6, hk39_v6⟩ := hw
  have hM_v6 : KV [] v6 v := KV.tr kV_v6 hM_v1 rfl
  have hA_f7 : KF [7, 8, 24] f7 f := KF.tr kF_f7 hA_f2 rfl
  have hP : va_P (dC, dI) vwCl (YW cy y0 r v6 f7 w8 g9) H := hP
  have hD : va_D A (YW cy y0 r v6 f7 w8 g9) := hD
  have hUv6 : (v6 35).toInt + (v6 36).toInt ≤ 40 := hIv6.2
  have hq9_v6 : v6 9 = (v 9) := hk9_v6.trans hq9_v1
  have zq9_v6 := congrArg Int32.toInt hq9_v6
  exact ret r5 (v6, f7, w8, g9) _ _ _ _ _ _ rfl ⟨hM_v6, hA_f7, hIv6, hCf7, hRf7, (hk0_v6.trans hk0_v1), (hk1_v6.trans hk1_v1), (hk2_v6.trans hk2_v1), (hk3_v6.trans hk3_v1), (hk4_v6.trans hk4_v1), (hk5_v6.trans hk5_v1), (hk8_v6.trans hk8_v1), (hk9_v6.trans hk9_v1), (hk10_v6.trans hk10_v1), (hk13_v6.trans hk13_v1), (hk14_v6.trans hk14_v1), (hk15_v6.trans hk15_v1), (hk17_v6.trans hk17_v1), (hk18_v6.trans hk18_v1), (hk24_v6.trans hk24_v1), (hk25_v6.trans hk25_v1), (hk35_v6.trans hk35_v1), (hk36_v6.trans hk36_v1), (hk38_v6.trans hk38_v1), (hk39_v6.trans hk39_v1)⟩ hP hD hS dX11_fitted_8 (Nat.le_refl _) (Nat.le_refl _)
set_option maxHeartbeats 4000000 in
set_option maxRecDepth 100000 in
theorem sY_X11_layIlls_1 (l : Launch) (dC : Nat → ClassId) (dI : Nat → Nat → Nat) (cy : Nat → ClassId) (y0 : Nat) (r : Nat → Nat)  (v : Nat → Int32) (f : Nat → Nat → Int32) (w : Int64) (g : Nat → Int64) (hIv : YI v) (hCf : YC f) (hRf : progOK (f 4) (f 5) (v 9).toInt.toNat)  : ctV l (dC, dI) cy yX11_layIlls cX11_layIlls 3 4 126 0 0 ((Nat → Int32) × (Nat → Nat → Int32) × (Int64) × (Nat → Int64)) [.ref y0] (YW cy y0 r v f w g) (fun u => KV [] u.1 v ∧ KF [7, 8, 24, 28] u.2.1 f ∧ YI u.1 ∧ YC u.2.1 ∧ progOK (u.2.1 4) (u.2.1 5) (u.1 9).toInt.toNat ∧ u.1 0 = v 0 ∧ u.1 1 = v 1 ∧ u.1 2 = v 2 ∧ u.1 3 = v 3 ∧ u.1 4 = v 4 ∧ u.1 5 = v 5 ∧ u.1 8 = v 8 ∧ u.1 9 = v 9 ∧ u.1 10 = v 10 ∧ u.1 13 = v 13 ∧ u.1 14 = v 14 ∧ u.1 15 = v 15 ∧ u.1 17 = v 17 ∧ u.1 18 = v 18 ∧ u.1 24 = v 24 ∧ u.1 25 = v 25 ∧ u.1 35 = v 35 ∧ u.1 36 = v 36 ∧ u.1 38 = v 38 ∧ u.1 39 = v 39) (fun u => YW cy y0 r u.1 u.2.1 u.2.2.1 u.2.2.2) := by
  refine ctV_of (by decide) (Nat.le_of_ble_eq_true rfl) (fun p e s m below meth c A ls Q hx hb hml hts hown hnm hE hP hD hA hl ret => ?_)
  have hUv : (v 35).toInt + (v 36).toInt ≤ 40 := hIv.2
  have hM_v : KV [] v v := fun _ _ => rfl
  have hA_f : KF [7, 8, 24, 28] f f := fun _ _ => rfl
  have hown : s.vm.findClass RX11 = some m.cls := hown
  have hS : va_S A s.heap s.heap [] := va_S.rf
  have hl : lv_has ls 3 [(0, .ref y0)] := hl
  refine lv_aload_n hx hb dX11_layIlls_0 rfl (lv_at hl 0 rfl) ?_
  refine cbVv (n := 0) (rest := []) hx hb hml hown hts hE hP hD hS hA (sY_X11_fill_1 l dC dI cy y0 r  v f w g hIv hCf hRf ) k_1739 k_1741 k_71 k_114 k_1742 (by decide +kernel) ⟨Nat.le_of_ble_eq_true rfl, Nat.le_of_ble_eq_true rfl⟩ 0 11 rfl rfl (rfl) hl.1 rfl (Nat.le_of_ble_eq_true rfl) dX11_layIlls_1 (fun u H locs hw hP hD hS => ?_)
  obtain ⟨v1, f2, w3, g4⟩ := u
  obtain ⟨kV_v1, kF_f2, hIv1, hCf2, hRf2, hk0_v1, hk1_v1, hk2_v1, hk3_v1, hk4_v1, hk5_v1, hk8_v1, hk9_v1, hk10_v1, hk13_v1, hk14_v1, hk15_v1, hk17_v1, hk18_v1, hk24_v1, hk25_v1, hk35_v1, hk36_v1, hk38_v1, hk39_v1⟩ := hw
  have hM_v1 : KV [] v1 v := KV.tr kV_v1 hM_v rfl
  have hA_f2 : KF [7, 8, 24, 28] f2 f := KF.tr kF_f2 hA_f rfl
  have hP : va_P (dC, dI) vwCl (YW cy y0 r v1 f2 w3 g4) H := hP
  have hD : va_D A (YW cy y0 r v1 f2 w3 g4) := hD
  have hUv1 : (v1 35).toInt + (v1 36).toInt ≤ 40 := hIv1.2
  have hq0_v1 : v1 0 = (v 0) := hk0_v1
  have hq1_v1 : v1 1 = (v 1) := hk1_v1
  have hq2_v1 : v1 2 = (v 2) := hk2_v1
  have hq3_v1 : v1 3 = (v 3) := hk3_v1
  have hq4_v1 : v1 4 = (v 4) := hk4_v1
  have hq5_v1 : v1 5 = (v 5) := hk5_v1
  have hq8_v1 : v1 8 = (v 8) := hk8_v1
  have hq9_v1 : v1 9 = (v 9) := hk9_v1
  have zq9_v1 := congrArg Int32.toInt hq9_v1
  have hq10_v1 : v1 10 = (v 10) := hk10_v1
  have hq13_v1 : v1 13 = (v 13) := hk13_v1
  have hq14_v1 : v1 14 = (v 14) := hk14_v1
  have hq15_v1 : v1 15 = (v 15) := hk15_v1
  have hq17_v1 : v1 17 = (v 17) := hk17_v1
  have hq18_v1 : v1 18 = (v 18) := hk18_v1
  have hq24_v1 : v1 24 = (v 24) := hk24_v1
  have hq25_v1 : v1 25 = (v 25) := hk25_v1
  have hq35_v1 : v1 35 = (v 35) := hk35_v1
  have hq36_v1 : v1 36 = (v 36) := hk36_v1
  have hq38_v1 : v1 38 = (v 38) := hk38_v1
  have hq39_v1 : v1 39 = (v 39) := hk39_v1
  refine lv_iconst (v := 0) hx hb dX11_layIlls_4 (by decide) ?_
  refine lv_istore_n (lv' := [(1, .int 0), (0, .ref y0)]) hx hb dX11_layIlls_5 rfl hl (by decide) rfl (fun ls hl => ?_)
  have lp5 : ∀ (n5 : Nat) (l1_5 : Int32) (v5 : Nat → Int32) (f5 : Nat → Nat → Int32) (w5 : Int64) (g5 : Nat → Int64), YI v5 → YC f5 → progOK (f5 4) (f5 5) (v5 9).toInt.toNat → v5 0 = (v 0) → v5 1 = (v 1) → v5 2 = (v 2) → v5 3 = (v 3) → v5 4 = (v 4) → v5 5 = (v 5) → v5 8 = (v 8) → v5 9 = (v 9) → v5 10 = (v 10) → v5 13 = (v 13) → v5 14 = (v 14) → v5 15 = (v 15) → v5 17 = (v 17) → v5 18 = (v 18) → v5 24 = (v 24) → v5 25 = (v 25) → v5 35 = (v 35) → v5 36 = (v 36) → v5 38 = (v 38) → v5 39 = (v 39) → ((0 : Int) ≤ l1_5.toInt ∧ l1_5.toInt ≤ 2147483647) → KV [] v5 v → KF [7, 8, 24, 28] f5 f → (2147483647 - l1_5.toInt).toNat < n5 → ∀ (H : Heap) (locs : List Loc) (ls : Array Slot), va_P (dC, dI) vwCl (YW cy y0 r v5 f5 w5 g5) H → va_D A (YW cy y0 r v5 f5 w5 g5) → va_S A s.heap H locs → lv_has ls 3 [(1, .int l1_5), (0, .ref y0)] → W p l e { frames := 4, cells := 0, slots := 0, locals := 126 } s m ([.ref y0] : List Value).toArray below meth c H locs 0 0 Q (F0 m 6 ls []) := by
    intro n5
    induction n5 with
    | zero => intro l1_5 v5 f5 w5 g5 hIv5 hCf5 hRf5 hq0_v5 hq1_v5 hq2_v5 hq3_v5 hq4_v5 hq5_v5 hq8_v5 hq9_v5 hq10_v5 hq13_v5 hq14_v5 hq15_v5 hq17_v5 hq18_v5 hq24_v5 hq25_v5 hq35_v5 hq36_v5 hq38_v5 hq39_v5 hr1_5 hM_v5 hA_f5 hm; exact absurd hm (Nat.not_lt_zero _)
    | succ n5 ih5 =>
      intro l1_5 v5 f5 w5 g5 hIv5 hCf5 hRf5 hq0_v5 hq1_v5 hq2_v5 hq3_v5 hq4_v5 hq5_v5 hq8_v5 hq9_v5 hq10_v5 hq13_v5 hq14_v5 hq15_v5 hq17_v5 hq18_v5 hq24_v5 hq25_v5 hq35_v5 hq36_v5 hq38_v5 hq39_v5 hr1_5 hM_v5 hA_f5 hm5 H locs ls hP hD hS hl
      have hUv5 : (v5 35).toInt + (v5 36).toInt ≤ 40 := hIv5.2
      have zq9_v5 := congrArg Int32.toInt hq9_v5
      refine lv_iload_n hx hb dX11_layIlls_6 rfl (lv_at hl 0 rfl) ?_
      refine lv_aload_n hx hb dX11_layIlls_7 rfl (lv_at hl 1 rfl) ?_
      refine va_get (D := (dC, dI)) (ci := 11) (v := .int (v5 24)) (C := RX11) (T := TX11) (N := 79) hx hb hts inB_11 hown hE.1 hP 0 rfl rfl 48 (by decide) (hts _ k_1368) (fun _ h9 => h9) rfl dX11_layIlls_8 ?_
      refine tI (y := (v 24)) hq24_v5 ?_
      have b24_v : 0 ≤ (v 24).toInt ∧ (v 24).toInt ≤ 6 := YIb.b hIv.1 24 (by decide)
      refine lv_icmp_ge (tgt := 53) hx hb dX11_layIlls_11 (by decide) (fun c6 => ?_) (fun c6 => ?_)
      · skip
        have zc6 : (v 24).toInt ≤ l1_5.toInt := by rw [fa_le] at c6; exact c6
        have rg7 := fb_rng l1_5
        have rg8 := fb_rng (v 24)
        exact ret (v5, f5, w5, g5) _ _ _ _ _ _ ⟨hM_v5, hA_f5, hIv5, hCf5, hRf5, hq0_v5, hq1_v5, hq2_v5, hq3_v5, hq4_v5, hq5_v5, hq8_v5, hq9_v5, hq10_v5, hq13_v5, hq14_v5, hq15_v5, hq17_v5, hq18_v5, hq24_v5, hq25_v5, hq35_v5, hq36_v5, hq38_v5, hq39_v5⟩ hP hD hS dX11_layIlls_53 (Nat.le_refl _) (Nat.le_refl _)
      · skip
        have zc6 : ¬ ((v 24).toInt ≤ l1_5.toInt) := by rw [fa_le] at c6; exact c6
        have rg9 := fb_rng l1_5
        have rg10 := fb_rng (v 24)
        refine lv_iconst (v := 0) hx hb dX11_layIlls_14 (by decide) ?_
        refine lv_istore_n (lv' := [(2, .int 0), (1, .int l1_5), (0, .ref y0)]) hx hb dX11_layIlls_15 rfl hl (by decide) rfl (fun ls hl => ?_)
        have lp11 : ∀ (n11 : Nat) (l2_11 : Int32) (v11 : Nat → Int32) (f11 : Nat → Nat → Int32) (w11 : Int64) (g11 : Nat → Int64), YI v11 → YC f11 → progOK (f11 4) (f11 5) (v11 9).toInt.toNat → v11 0 = (v 0) → v11 1 = (v 1) → v11 2 = (v 2) → v11 3 = (v 3) → v11 4 = (v 4) → v11 5 = (v 5) → v11 8 = (v 8) → v11 9 = (v 9) → v11 10 = (v 10) → v11 13 = (v 13) → v11 14 = (v 14) → v11 15 = (v 15) → v11 17 = (v 17) → v11 18 = (v 18) → v11 24 = (v 24) → v11 25 = (v 25) → v11 35 = (v 35) → v11 36 = (v 36) → v11 38 = (v 38) → v11 39 = (v 39) → ((0 : Int) ≤ l2_11.toInt ∧ l2_11.toInt ≤ 2147483647) → KV [] v11 v → KF [7, 8, 24, 28] f11 f → (2147483647 - l2_11.toInt).toNat < n11 → ∀ (H : Heap) (locs : List Loc) (ls : Array Slot), va_P (dC, dI) vwCl (YW cy y0 r v11 f11 w11 g11) H → va_D A (YW cy y0 r v11 f11 w11 g11) → va_S A s.heap H locs → lv_has ls 3 [(2, .int l2_11), (1, .int l1_5), (0, .ref y0)] → W p l e { frames := 4, cells := 0, slots := 0, locals := 126 } s m ([.ref y0] : List Value).toArray below meth c H locs 0 0 Q (F0 m 16 ls []) := by
          intro n11
          induction n11 with
          | zero => intro l2_11 v11 f11 w11 g11 hIv11 hCf11 hRf11 hq0_v11 hq1_v11 hq2_v11 hq3_v11 hq4_v11 hq5_v11 hq8_v11 hq9_v11 hq10_v11 hq13_v11 hq14_v11 hq15_v11 hq17_v11 hq18_v11 hq24_v11 hq25_v11 hq35_v11 hq36_v11 hq38_v11 hq39_v11 hr2_11 hM_v11 hA_f11 hm; exact absurd hm (Nat.not_lt_zero _)
          | succ n11 ih11 =>
            intro l2_11 v11 f11 w11 g11 hIv11 hCf11 hRf11 hq0_v11 hq1_v11 hq2_v11 hq3_v11 hq4_v11 hq5_v11 hq8_v11 hq9_v11 hq10_v11 hq13_v11 hq14_v11 hq15_v11 hq17_v11 hq18_v11 hq24_v11 hq25_v11 hq35_v11 hq36_v11 hq38_v11 hq39_v11 hr2_11 hM_v11 hA_f11 hm11 H locs ls hP hD hS hl
            have hUv11 : (v11 35).toInt + (v11 36).toInt ≤ 40 := hIv11.2
            have zq9_v11 := congrArg Int32.toInt hq9_v11
            refine lv_iload_n hx hb dX11_layIlls_16 rfl (lv_at hl 0 rfl) ?_
            refine lv_aload_n hx hb dX11_layIlls_17 rfl (lv_at hl 2 rfl) ?_
            refine va_get (D := (dC, dI)) (ci := 11) (v := .int (v11 25)) (C := RX11) (T := TX11) (N := 79) hx hb hts inB_11 hown hE.1 hP 0 rfl rfl 49 (by decide) (hts _ k_1369) (fun _ h9 => h9) rfl dX11_layIlls_18 ?_
            refine tI (y := (v 25)) hq25_v11 ?_
            have b25_v : 0 ≤ (v 25).toInt ∧ (v 25).toInt ≤ 6 := YIb.b hIv.1 25 (by decide)
            refine lv_icmp_ge (tgt := 47) hx hb dX11_layIlls_21 (by decide) (fun c12 => ?_) (fun c12 => ?_)
            · skip
              have zc12 : (v 25).toInt ≤ l2_11.toInt := by rw [fa_le] at c12; exact c12
              have rg13 := fb_rng l2_11
              have rg14 := fb_rng (v 25)
              obtain ⟨t15, et15⟩ : ∃ y : Int32, y = l1_5 + 1 := ⟨_, rfl⟩
              have zt15 : t15.toInt = l1_5.toInt + 1 := by rw [et15]; exact add_i rfl (by decide) (by omega) (by omega)
              refine lv_iinc (v := t15) (lv' := [(1, .int t15), (2, .int l2_11), (0, .ref y0)]) hx hb dX11_layIlls_47 hl (k := 1) rfl (by rw [et15]; rfl) (by decide) rfl (fun ls hl => ?_)
              refine lv_goto (tgt := 6) hx hb dX11_layIlls_50 (by decide) ?_
              have rg16 := fb_rng t15
              exact ih5 t15 v11 f11 w11 g11 hIv11 hCf11 hRf11 hq0_v11 hq1_v11 hq2_v11 hq3_v11 hq4_v11 hq5_v11 hq8_v11 hq9_v11 hq10_v11 hq13_v11 hq14_v11 hq15_v11 hq17_v11 hq18_v11 hq24_v11 hq25_v11 hq35_v11 hq36_v11 hq38_v11 hq39_v11 ⟨show (0 : Int) ≤ t15.toInt by omega, show t15.toInt ≤ (2147483647 : Int) by omega⟩ hM_v11 hA_f11 (by show (2147483647 - t15.toInt).toNat < n5; omega) _ _ _ hP hD hS (lv_sub hl [0, 2] rfl)
            · skip
              have zc12 : ¬ ((v 25).toInt ≤ l2_11.toInt) := by rw [fa_le] at c12; exact c12
              have rg17 := fb_rng l2_11
              have rg18 := fb_rng (v 25)
              refine lv_aload_n hx hb dX11_layIlls_24 rfl (lv_at hl 2 rfl) ?_
              refine va_get (D := (dC, dI)) (ci := 11) (v := .ref (r 66)) (C := RX11) (T := TX11) (N := 79) hx hb hts inB_11 hown hE.1 hP 0 rfl rfl 66 (by decide) (hts _ k_1386) (fun _ h9 => h9) rfl dX11_layIlls_25 ?_
              refine lv_bipush (v := 6) hx hb dX11_layIlls_28 (by decide) ?_
              refine lv_iload_n hx hb dX11_layIlls_30 rfl (lv_at hl 1 rfl) ?_
              refine lv_imul hx hb dX11_layIlls_31 ?_
              refine lv_topi (fun t19 et19 => ?_)
              have zt19 : t19.toInt = 6 * l1_5.toInt := by rw [et19]; exact mul_i (by decide) rfl (by omega) (by omega)
              refine lv_iload_n hx hb dX11_layIlls_32 rfl (lv_at hl 0 rfl) ?_
              refine lv_iadd hx hb dX11_layIlls_33 ?_
              refine lv_topi (fun t20 et20 => ?_)
              have rg21 := fb_rng t19
              have zt20 : t20.toInt = t19.toInt + l2_11.toInt := by rw [et20]; exact add_i rfl rfl (by omega) (by omega)
              refine lv_aload_n hx hb dX11_layIlls_34 rfl (lv_at hl 2 rfl) ?_
              refine lv_iload_n hx hb dX11_layIlls_35 rfl (lv_at hl 1 rfl) ?_
              refine lv_iload_n hx hb dX11_layIlls_36 rfl (lv_at hl 0 rfl) ?_
              refine cbVi (n := 2) (rest := [.int t20, .ref (r 66)]) hx hb hml hown hts hE hP hD hS hA (sY_X11_misfitOf_1 l dC dI cy y0 r l1_5 l2_11 v11 f11 w11 g11 hIv11 hCf11 hRf11 ⟨show (0 : Int) ≤ l1_5.toInt by omega, show l1_5.toInt ≤ (5 : Int) by omega⟩ ⟨show (0 : Int) ≤ l2_11.toInt by omega, show l2_11.toInt ≤ (5 : Int) by omega⟩) k_1751 k_1753 k_74 k_114 k_1754 (by decide +kernel) ⟨Nat.le_of_ble_eq_true rfl, Nat.le_of_ble_eq_true rfl⟩ 0 11 rfl rfl (rfl) hl.1 rfl (Nat.le_of_ble_eq_true rfl) dX11_layIlls_37 (fun r22 u H locs hw hP hD hS => ?_)
              obtain ⟨v23, f24, w25, g26⟩ := u
              obtain ⟨kV_v23, kF_f24, hIv23, hCf24, hRf24, hk0_v23, hk1_v23, hk2_v23, hk3_v23, hk4_v23, hk5_v23, hk8_v23, hk9_v23, hk10_v23, hk13_v23, hk14_v23, hk15_v23, hk17_v23, hk18_v23, hk24_v23, hk25_v23, hk35_v23, hk36_v23, hk38_v23, hk39_v23⟩ := hw
              have hM_v23 : KV [] v23 v := KV.tr kV_v23 hM_v11 rfl
              have hA_f24 : KF [7, 8, 24, 28] f24 f := KF.tr kF_f24 hA_f11 rfl
              have hP : va_P (dC, dI) vwCl (YW cy y0 r v23 f24 w25 g26) H := hP
              have hD : va_D A (YW cy y0 r v23 f24 w25 g26) := hD
              have hUv23 : (v23 35).toInt + (v23 36).toInt ≤ 40 := hIv23.2
              have hq0_v23 : v23 0 = (v 0) := hk0_v23.trans hq0_v11
              have hq1_v23 : v23 1 = (v 1) := hk1_v23.trans hq1_v11
              have hq2_v23 : v23 2 = (v 2) := hk2_v23.trans hq2_v11
              have hq3_v23 : v23 3 = (v 3) := hk3_v23.trans hq3_v11
              have hq4_v23 : v23 4 = (v 4) := hk4_v23.trans hq4_v11
              have hq5_v23 : v23 5 = (v 5) := hk5_v23.trans hq5_v11
              have hq8_v23 : v23 8 = (v 8) := hk8_v23.trans hq8_v11
              have hq9_v23 : v23 9 = (v 9) := hk9_v23.trans hq9_v11
              have zq9_v23 := congrArg Int32.toInt hq9_v23
              have hq10_v23 : v23 10 = (v 10) := hk10_v23.trans hq10_v11
              have hq13_v23 : v23 13 = (v 13) := hk13_v23.trans hq13_v11
              have hq14_v23 : v23 14 = (v 14) := hk14_v23.trans hq14_v11
              have hq15_v23 : v23 15 = (v 15) := hk15_v23.trans hq15_v11
              have hq17_v23 : v23 17 = (v 17) := hk17_v23.trans hq17_v11
              have hq18_v23 : v23 18 = (v 18) := hk18_v23.trans hq18_v11
              have hq24_v23 : v23 24 = (v 24) := hk24_v23.trans hq24_v11
              have hq25_v23 : v23 25 = (v 25) := hk25_v23.trans hq25_v11
              have hq35_v23 : v23 35 = (v 35) := hk35_v23.trans hq35_v11
              have hq36_v23 : v23 36 = (v 36) := hk36_v23.trans hq36_v11
              have hq38_v23 : v23 38 = (v 38) := hk38_v23.trans hq38_v11
              have hq39_v23 : v23 39 = (v 39) := hk39_v23.trans hq39_v11
              refine stI hx hb hE hP hD hS 29 rfl (vp_in_iff.mpr ⟨by omega, by omega⟩) rfl dX11_layIlls_40 (fun H locs hP hD hS => ?_)
              obtain ⟨f27, ef27, hP, hD⟩ : ∃ fz9, fz9 = upd2 f24 28 (upd (f24 28) t20.toNatClampNeg r22) ∧ va_P (dC, dI) vwCl (YW cy y0 r v23 fz9 w25 g26) H ∧ va_D A (YW cy y0 r v23 fz9 w25 g26) := ⟨_, rfl, hP, hD⟩
              have hCf27 : YC f27 := by rw [ef27]; exact hCf24
              have hRf27 : progOK (f27 4) (f27 5) (v23 9).toInt.toNat := by rw [ef27]; exact hRf24
              have hA_f27 : KF [7, 8, 24, 28] f27 f := by rw [ef27]; exact KF.up hA_f24 rfl
              obtain ⟨t28, et28⟩ : ∃ y : Int32, y = l2_11 + 1 := ⟨_, rfl⟩
              have zt28 : t28.toInt = l2_11.toInt + 1 := by rw [et28]; exact add_i rfl (by decide) (by omega) (by omega)
              refine lv_iinc (v := t28) (lv' := [(2, .int t28), (1, .int l1_5), (0, .ref y0)]) hx hb dX11_layIlls_41 hl (k := 0) rfl (by rw [et28]; rfl) (by decide) rfl (fun ls hl => ?_)
              refine lv_goto (tgt := 16) hx hb dX11_layIlls_44 (by decide) ?_
              have rg29 := fb_rng t28
              exact ih11 t28 v23 f27 w25 g26 hIv23 hCf27 hRf27 hq0_v23 hq1_v23 hq2_v23 hq3_v23 hq4_v23 hq5_v23 hq8_v23 hq9_v23 hq10_v23 hq13_v23 hq14_v23 hq15_v23 hq17_v23 hq18_v23 hq24_v23 hq25_v23 hq35_v23 hq36_v23 hq38_v23 hq39_v23 ⟨show (0 : Int) ≤ t28.toInt by omega, show t28.toInt ≤ (2147483647 : Int) by omega⟩ hM_v23 hA_f27 (by show (2147483647 - t28.toInt).toNat < n11; omega) _ _ _ hP hD hS (lv_sub hl [0, 1, 2] rfl)
        exact lp11 _ 0 v5 f5 w5 g5 hIv5 hCf5 hRf5 hq0_v5 hq1_v5 hq2_v5 hq3_v5 hq4_v5 hq5_v5 hq8_v5 hq9_v5 hq10_v5 hq13_v5 hq14_v5 hq15_v5 hq17_v5 hq18_v5 hq24_v5 hq25_v5 hq35_v5 hq36_v5 hq38_v5 hq39_v5 ⟨by decide, by decide⟩ hM_v5 hA_f5 (Nat.lt_succ_self _) _ _ _ hP hD hS (lv_sub hl [0, 1, 2] rfl)
  exact lp5 _ 0 v1 f2 w3 g4 hIv1 hCf2 hRf2 hq0_v1 hq1_v1 hq2_v1 hq3_v1 hq4_v1 hq5_v1 hq8_v1 hq9_v1 hq10_v1 hq13_v1 hq14_v1 hq15_v1 hq17_v1 hq18_v1 hq24_v1 hq25_v1 hq35_v1 hq36_v1 hq38_v1 hq39_v1 ⟨by decide, by decide⟩ hM_v1 hA_f2 (Nat.lt_succ_self _) _ _ _ hP hD hS (lv_sub hl [0, 1] rfl)
set_option maxHeartbeats 4000000 in
set_option maxRecDepth 100000 in
theorem sY_X11_layDress_1 (l : Launch) (dC : Nat → ClassId) (dI : Nat → Nat → Nat) (cy : Nat → ClassId) (y0 : Nat) (r : Nat → Nat) (p1 : Int32) (v : Nat → Int32) (f : Nat → Nat → Int32) (w : Int64) (g : Nat → Int64) (hIv : YI v) (hCf : YC f) (hRf : progOK (f 4) (f 5) (v 9).toInt.toNat) (hp1 : (0 : Int) ≤ p1.toInt ∧ p1.toInt ≤ 2147483647) : ctI l (dC, dI) cy yX11_layDress cX11_layDress 7 .int 1 60 0 0 ((Nat → Int32) × (Nat → Nat → Int32) × (Int64) × (Nat → Int64)) [.ref y0, .int p1] (YW cy y0 r v f w g) (fun r u => KV [] u.1 v ∧ KF [27] u.2.1 f ∧ YI u.1 ∧ YC u.2.1 ∧ progOK (u.2.1 4) (u.2.1 5) (u.1 9).toInt.toNat ∧ u.1 0 = v 0 ∧ u.1 1 = v 1 ∧ u.1 2 = v 2 ∧ u.1 3 = v 3 ∧ u.1 4 = v 4 ∧ u.1 5 = v 5 ∧ u.1 8 = v 8 ∧ u.1 9 = v 9 ∧ u.1 10 = v 10 ∧ u.1 13 = v 13 ∧ u.1 14 = v 14 ∧ u.1 15 = v 15 ∧ u.1 17 = v 17 ∧ u.1 18 = v 18 ∧ u.1 24 = v 24 ∧ u.1 25 = v 25 ∧ u.1 35 = v 35 ∧ u.1 36 = v 36 ∧ u.1 38 = v 38 ∧ u.1 39 = v 39) (fun u => YW cy y0 r u.1 u.2.1 u.2.2.1 u.2.2.2) := by
  refine ctI_of (by decide) (Nat.le_of_ble_eq_true rfl) (fun p e s m below meth c A ls Q hx hb hml hts hown hE hP hD hA hl ret => ?_)
  have hUv : (v 35).toInt + (v 36).toInt ≤ 40 := hIv.2
  have hM_v : KV [] v v := fun _ _ => rfl
  have hA_f : KF [27] f f := fun _ _ => rfl
  have hown : s.vm.findClass RX11 = some m.cls := hown
  have hS : va_S A s.heap s.heap [] := va_S.rf
  have hl : lv_has ls 7 [(0, .ref y0), (1, .int p1)] := hl
  refine lv_iload_n hx hb dX11_layDress_0 rfl (lv_at hl 1 rfl) ?_
  refine lv_istore_n (lv' := [(2, .int p1), (0, .ref y0), (1, .int p1)]) hx hb dX11_layDress_1 rfl hl (by decide) rfl (fun ls hl => ?_)
  refine lv_iconst (v := 0) hx hb dX11_layDress_2 (by decide) ?_
  refine lv_istore_n (lv' := [(3, .int 0), (2, .int p1), (0, .ref y0), (1, .int p1)]) hx hb dX11_layDress_3 rfl hl (by decide) rfl (fun ls hl => ?_)
  refine lv_iconst (v := 0) hx hb dX11_layDress_4 (by decide) ?_
  refine lv_istore (lv' := [(4, .int 0), (3, .int 0), (2, .int p1), (0, .ref y0), (1, .int p1)]) hx hb dX11_layDress_5 hl (by decide) rfl (fun ls hl => ?_)
  refine lv_aload_n hx hb dX11_layDress_7 rfl (lv_at hl 3 rfl) ?_
  refine va_get (D := (dC, dI)) (ci := 11) (v := .int (v 24)) (C := RX11) (T := TX11) (N := 79) hx hb hts inB_11 hown hE.1 hP 0 rfl rfl 48 (by decide) (hts _ k_1368) (fun _ h9 => h9) rfl dX11_layDress_8 ?_
  have b24_v : 0 ≤ (v 24).toInt ∧ (v 24).toInt ≤ 6 := YIb.b hIv.1 24 (by decide)
  refine lv_iconst (v := 1) hx hb dX11_layDress_11 (by decide) ?_
  refine lv_isub hx hb dX11_layDress_12 ?_
  refine lv_topi (fun t1 et1 => ?_)
  have rg2 := fb_rng (v 24)
  have zt1 : t1.toInt = (v 24).toInt - 1 := by rw [et1]; exact sub_i rfl (by decide) (by omega) (by omega)
  refine lv_istore (lv' := [(5, .int t1), (4, .int 0), (3, .int 0), (2, .int p1), (0, .ref y0), (1, .int p1)]) hx hb dX11_layDress_13 hl (by decide) rfl (fun ls hl => ?_)
  have lp3 : ∀ (n3 : Nat) (l2_3 : Int32) (l3_3 : Int32) (l4_3 : Int32) (l5_3 : Int32) (v3 : Nat → Int32) (f3 : Nat → Nat → Int32) (w3 : Int64) (g3 : Nat → Int64), YI v3 → YC f3 → progOK (f3 4) (f3 5) (v3 9).toInt.toNat → v3 0 = (v 0) → v3 1 = (v 1) → v3 2 = (v 2) → v3 3 = (v 3) → v3 4 = (v 4) → v3 5 = (v 5) → v3 8 = (v 8) → v3 9 = (v 9) → v3 10 = (v 10) → v3 13 = (v 13) → v3 14 = (v 14) → v3 15 = (v 15) → v3 17 = (v 17) → v3 18 = (v 18) → v3 24 = (v 24) → v3 25 = (v 25) → v3 35 = (v 35) → v3 36 = (v 36) → v3 38 = (v 38) → v3 39 = (v 39) → ((0 : Int) ≤ l2_3.toInt ∧ l2_3.toInt ≤ 2147483647) → ((-2147483648 : Int) ≤ l5_3.toInt ∧ l5_3.toInt ≤ 5) → KV [] v3 v → KF [27] f3 f → (l5_3.toInt + 2147483648).toNat < n3 → ∀ (H : Heap) (locs : List Loc) (ls : Array Slot), va_P (dC, dI) vwCl (YW cy y0 r v3 f3 w3 g3) H → va_D A (YW cy y0 r v3 f3 w3 g3) → va_S A s.heap H locs → lv_has ls 7 [(5, .int l5_3), (4, .int l4_3), (3, .int l3_3), (2, .int l2_3), (0, .ref y0), (1, .int p1)] → W p l e { frames := 1, cells := 0, slots := 0, locals := 60 } s m ([.ref y0, .int p1] : List Value).toArray below meth c H locs 0 0 Q (F0 m 15 ls []) := by
    intro n3
    induction n3 with
    | zero => intro l2_3 l3_3 l4_3 l5_3 v3 f3 w3 g3 hIv3 hCf3 hRf3 hq0_v3 hq1_v3 hq2_v3 hq3_v3 hq4_v3 hq5_v3 hq8_v3 hq9_v3 hq10_v3 hq13_v3 hq14_v3 hq15_v3 hq17_v3 hq18_v3 hq24_v3 hq25_v3 hq35_v3 hq36_v3 hq38_v3 hq39_v3 hr2_3 hr5_3 hM_v3 hA_f3 hm; exact absurd hm (Nat.not_lt_zero _)
    | succ n3 ih3 =>
      intro l2_3 l3_3 l4_3 l5_3 v3 f3 w3 g3 hIv3 hCf3 hRf3 hq0_v3 hq1_v3 hq2_v3 hq3_v3 hq4_v3 hq5_v3 hq8_v3 hq9_v3 hq10_v3 hq13_v3 hq14_v3 hq15_v3 hq17_v3 hq18_v3 hq24_v3 hq25_v3 hq35_v3 hq36_v3 hq38_v3 hq39_v3 hr2_3 hr5_3 hM_v3 hA_f3 hm3 H locs ls hP hD hS hl
      have hUv3 : (v3 35).toInt + (v3 36).toInt ≤ 40 := hIv3.2
      have zq9_v3 := congrArg Int32.toInt hq9_v3
      refine lv_iload hx hb dX11_layDress_15 (lv_at hl 0 rfl) ?_
      refine lv_if_lt (tgt := 121) hx hb dX11_layDress_17 (by decide) (fun c4 => ?_) (fun c4 => ?_)
      · skip
        have zc4 : l5_3.toInt < 0 := by rw [fa_lt, show (0 : Int32).toInt = 0 from by decide] at c4; exact c4
        refine lv_iload hx hb dX11_layDress_121 (lv_at hl 1 rfl) ?_
        exact ret l4_3 (v3, f3, w3, g3) _ _ _ _ _ _ rfl ⟨hM_v3, hA_f3, hIv3, hCf3, hRf3, (show v3 0 = v 0 from hq0_v3), (show v3 1 = v 1 from hq1_v3), (show v3 2 = v 2 from hq2_v3), (show v3 3 = v 3 from hq3_v3), (show v3 4 = v 4 from hq4_v3), (show v3 5 = v 5 from hq5_v3), (show v3 8 = v 8 from hq8_v3), (show v3 9 = v 9 from hq9_v3), (show v3 10 = v 10 from hq10_v3), (show v3 13 = v 13 from hq13_v3), (show v3 14 = v 14 from hq14_v3), (show v3 15 = v 15 from hq15_v3), (show v3 17 = v 17 from hq17_v3), (show v3 18 = v 18 from hq18_v3), (show v3 24 = v 24 from hq24_v3), (show v3 25 = v 25 from hq25_v3), (show v3 35 = v 35 from hq35_v3), (show v3 36 = v 36 from hq36_v3), (show v3 38 = v 38 from hq38_v3), (show v3 39 = v 39 from hq39_v3)⟩ hP hD hS dX11_layDress_123 (Nat.le_refl _) (Nat.le_refl _)
      · skip
        have zc4 : ¬ (l5_3.toInt < 0) := by rw [fa_lt, show (0 : Int32).toInt = 0 from by decide] at c4; exact c4
        refine lv_iload_n hx hb dX11_layDress_20 rfl (lv_at hl 3 rfl) ?_
        refine lv_aload_n hx hb dX11_layDress_21 rfl (lv_at hl 4 rfl) ?_
        refine va_get (D := (dC, dI)) (ci := 11) (v := .int (v3 25)) (C := RX11) (T := TX11) (N := 79) hx hb hts inB_11 hown hE.1 hP 0 rfl rfl 49 (by decide) (hts _ k_1369) (fun _ h9 => h9) rfl dX11_layDress_22 ?_
        refine tI (y := (v 25)) hq25_v3 ?_
        have b25_v : 0 ≤ (v 25).toInt ∧ (v 25).toInt ≤ 6 := YIb.b hIv.1 25 (by decide)
        refine lv_iconst (v := 1) hx hb dX11_layDress_25 (by decide) ?_
        refine lv_iadd hx hb dX11_layDress_26 ?_
        refine lv_topi (fun t5 et5 => ?_)
        have rg6 := fb_rng (v 25)
        have zt5 : t5.toInt = (v 25).toInt + 1 := by rw [et5]; exact add_i rfl (by decide) (by omega) (by omega)
        refine lv_irem hx hb dX11_layDress_27 (ne0 (by omega)) ?_
        refine lv_topi (fun t7 et7 => ?_)
        have zt7 : 0 ≤ t7.toInt ∧ t7.toInt < t5.toInt := by rw [et7]; exact rem_rng (zx := l2_3.toInt) (zy := t5.toInt) rfl rfl (by omega) (by omega)
        refine lv_istore (lv' := [(6, .int t7), (5, .int l5_3), (4, .int l4_3), (3, .int l3_3), (2, .int l2_3), (0, .ref y0), (1, .int p1)]) hx hb dX11_layDress_28 hl (by decide) rfl (fun ls hl => ?_)
        refine lv_iload_n hx hb dX11_layDress_30 rfl (lv_at hl 4 rfl) ?_
        refine lv_aload_n hx hb dX11_layDress_31 rfl (lv_at hl 5 rfl) ?_
        refine va_get (D := (dC, dI)) (ci := 11) (v := .int (v3 25)) (C := RX11) (T := TX11) (N := 79) hx hb hts inB_11 hown hE.1 hP 0 rfl rfl 49 (by decide) (hts _ k_1369) (fun _ h9 => h9) rfl dX11_layDress_32 ?_
        refine tI (y := (v 25)) hq25_v3 ?_
        refine lv_iconst (v := 1) hx hb dX11_layDress_35 (by decide) ?_
        refine lv_iadd hx hb dX11_layDress_36 ?_
        refine tI (y := t5) et5.symm ?_
        refine lv_idiv hx hb dX11_layDress_37 (ne0 (by omega)) ?_
        refine lv_topi (fun t8 et8 => ?_)
        have zt8 : 0 ≤ t8.toInt ∧ t8.toInt ≤ l2_3.toInt := by rw [et8]; exact div_rng (zx := l2_3.toInt) (zy := t5.toInt) rfl rfl (by omega) (by omega)
        refine lv_istore_n (lv' := [(2, .int t8), (6, .int t7), (5, .int l5_3), (4, .int l4_3), (3, .int l3_3), (0, .ref y0), (1, .int p1)]) hx hb dX11_layDress_38 rfl hl (by decide) rfl (fun ls hl => ?_)
        refine lv_aload_n hx hb dX11_layDress_39 rfl (lv_at hl 5 rfl) ?_
        refine va_get (D := (dC, dI)) (ci := 11) (v := .ref (r 65)) (C := RX11) (T := TX11) (N := 79) hx hb hts inB_11 hown hE.1 hP 0 rfl rfl 65 (by decide) (hts _ k_1385) (fun _ h9 => h9) rfl dX11_layDress_40 ?_
        refine lv_iload hx hb dX11_layDress_43 (lv_at hl 2 rfl) ?_
        refine lv_iload hx hb dX11_layDress_45 (lv_at hl 1 rfl) ?_
        refine lv_aload_n hx hb dX11_layDress_47 rfl (lv_at hl 5 rfl) ?_
        refine va_get (D := (dC, dI)) (ci := 11) (v := .int (v3 25)) (C := RX11) (T := TX11) (N := 79) hx hb hts inB_11 hown hE.1 hP 0 rfl rfl 49 (by decide) (hts _ k_1369) (fun _ h9 => h9) rfl dX11_layDress_48 ?_
        refine tI (y := (v 25)) hq25_v3 ?_
        refine lv_icmp_ne (tgt := 58) hx hb dX11_layDress_51 (by decide) (fun c9 => ?_) (fun c9 => ?_)
        · skip
          have zc9 : ¬ (t7.toInt = (v 25).toInt) := by rw [fa_eq] at c9; exact c9
          have rg10 := fb_rng t7
          refine lv_iload hx hb dX11_layDress_58 (lv_at hl 1 rfl) ?_
          refine stI hx hb hE hP hD hS 28 rfl (vp_in_iff.mpr ⟨by omega, by omega⟩) rfl dX11_layDress_60 (fun H locs hP hD hS => ?_)
          obtain ⟨f11, ef11, hP, hD⟩ : ∃ fz9, fz9 = upd2 f3 27 (upd (f3 27) l5_3.toNatClampNeg t7) ∧ va_P (dC, dI) vwCl (YW cy y0 r v3 fz9 w3 g3) H ∧ va_D A (YW cy y0 r v3 fz9 w3 g3) := ⟨_, rfl, hP, hD⟩
          have hCf11 : YC f11 := by rw [ef11]; exact ⟨hCf3.1, hCf3.2.1, hCf3.2.2.1, (rng_st hCf3.2.2.2.1 (by show -1 ≤ t7.toInt ∧ t7.toInt ≤ 5; omega)), hCf3.2.2.2.2.1, hCf3.2.2.2.2.2⟩
          have hRf11 : progOK (f11 4) (f11 5) (v3 9).toInt.toNat := by rw [ef11]; exact hRf3
          have hA_f11 : KF [27] f11 f := by rw [ef11]; exact KF.up hA_f3 rfl
          refine lv_iload hx hb dX11_layDress_61 (lv_at hl 1 rfl) ?_
          refine lv_aload_n hx hb dX11_layDress_63 rfl (lv_at hl 5 rfl) ?_
          refine va_get (D := (dC, dI)) (ci := 11) (v := .int (v3 25)) (C := RX11) (T := TX11) (N := 79) hx hb hts inB_11 hown hE.1 hP 0 rfl rfl 49 (by decide) (hts _ k_1369) (fun _ h9 => h9) rfl dX11_layDress_64 ?_
          refine tI (y := (v 25)) hq25_v3 ?_
          refine lv_icmp_ne (tgt := 73) hx hb dX11_layDress_67 (by decide) (fun c12 => ?_) (fun c12 => ?_)
          · skip
            have zc12 : ¬ (t7.toInt = (v 25).toInt) := by rw [fa_eq] at c12; exact c12
            refine lv_iload_n hx hb dX11_layDress_73 rfl (lv_at hl 4 rfl) ?_
            refine lv_iload hx hb dX11_layDress_74 (lv_at hl 1 rfl) ?_
            refine lv_ishr hx hb dX11_layDress_76 ?_
            refine lv_topi (fun t13 et13 => ?_)
            refine lv_iconst (v := 1) hx hb dX11_layDress_77 (by decide) ?_
            refine lv_iand hx hb dX11_layDress_78 ?_
            refine lv_topi (fun t14 et14 => ?_)
            have zt14 : 0 ≤ t14.toInt ∧ t14.toInt < 2 := by rw [et14]; exact and_rng _ (k := 1) (by decide) (by decide)
            refine lv_iconst (v := 1) hx hb dX11_layDress_79 (by decide) ?_
            refine lv_icmp_eq (tgt := 103) hx hb dX11_layDress_80 (by decide) (fun c15 => ?_) (fun c15 => ?_)
            · skip
              have zc15 : t14.toInt = 1 := by rw [fa_eq, show (1 : Int32).toInt = 1 from by decide] at c15; exact c15
              refine lv_iconst (v := (-1)) hx hb dX11_layDress_103 (by decide) ?_
              exact ret (-1) (v3, f11, w3, g3) _ _ _ _ _ _ rfl ⟨hM_v3, hA_f11, hIv3, hCf11, hRf11, (show v3 0 = v 0 from hq0_v3), (show v3 1 = v 1 from hq1_v3), (show v3 2 = v 2 from hq2_v3), (show v3 3 = v 3 from hq3_v3), (show v3 4 = v 4 from hq4_v3), (show v3 5 = v 5 from hq5_v3), (show v3 8 = v 8 from hq8_v3), (show v3 9 = v 9 from hq9_v3), (show v3 10 = v 10 from hq10_v3), (show v3 13 = v 13 from hq13_v3), (show v3 14 = v 14 from hq14_v3), (show v3 15 = v 15 from hq15_v3), (show v3 17 = v 17 from hq17_v3), (show v3 18 = v 18 from hq18_v3), (show v3 24 = v 24 from hq24_v3), (show v3 25 = v 25 from hq25_v3), (show v3 35 = v 35 from hq35_v3), (show v3 36 = v 36 from hq36_v3), (show v3 38 = v 38 from hq38_v3), (show v3 39 = v 39 from hq39_v3)⟩ hP hD hS dX11_layDress_104 (Nat.le_refl _) (Nat.le_refl _)
            · skip
              have zc15 : ¬ (t14.toInt = 1) := by rw [fa_eq, show (1 : Int32).toInt = 1 from by decide] at c15; exact c15
              refine lv_aload_n hx hb dX11_layDress_83 rfl (lv_at hl 5 rfl) ?_
              refine va_get (D := (dC, dI)) (ci := 11) (v := .ref (r 66)) (C := RX11) (T := TX11) (N := 79) hx hb hts inB_11 hown hE.1 hP 0 rfl rfl 66 (by decide) (hts _ k_1386) (fun _ h9 => h9) rfl dX11_layDress_84 ?_
              refine lv_bipush (v := 6) hx hb dX11_layDress_87 (by decide) ?_
              refine lv_iload hx hb dX11_layDress_89 (lv_at hl 2 rfl) ?_
              refine lv_imul hx hb dX11_layDress_91 ?_
              refine lv_topi (fun t16 et16 => ?_)
              have rg17 := fb_rng l5_3
              have zt16 : t16.toInt = 6 * l5_3.toInt := by rw [et16]; exact mul_i (by decide) rfl (by omega) (by omega)
              refine lv_iload hx hb dX11_layDress_92 (lv_at hl 1 rfl) ?_
              refine lv_iadd hx hb dX11_layDress_94 ?_
              refine lv_topi (fun t18 et18 => ?_)
              have rg19 := fb_rng t16
              have zt18 : t18.toInt = t16.toInt + t7.toInt := by rw [et18]; exact add_i rfl rfl (by omega) (by omega)
              refine ldI hx hb hE hP 29 rfl (vp_in_iff.mpr ⟨by omega, by omega⟩) rfl rfl dX11_layDress_95 ?_
              refine lv_topi (fun t20 et20 => ?_)
              refine lv_aload_n hx hb dX11_layDress_96 rfl (lv_at hl 5 rfl) ?_
              refine va_get (D := (dC, dI)) (ci := 11) (v := .int (v3 26)) (C := RX11) (T := TX11) (N := 79) hx hb hts inB_11 hown hE.1 hP 0 rfl rfl 50 (by decide) (hts _ k_1370) (fun _ h9 => h9) rfl dX11_layDress_97 ?_
              refine lv_icmp_le (tgt := 105) hx hb dX11_layDress_100 (by decide) (fun c21 => ?_) (fun c21 => ?_)
              · skip
                have zc21 : t20.toInt ≤ (v3 26).toInt := by rw [fa_le] at c21; exact c21
                have rg22 := fb_rng t20
                have rg23 := fb_rng (v3 26)
                refine lv_iload_n hx hb dX11_layDress_105 rfl (lv_at hl 4 rfl) ?_
                refine lv_iconst (v := 1) hx hb dX11_layDress_106 (by decide) ?_
                refine lv_iload hx hb dX11_layDress_107 (lv_at hl 1 rfl) ?_
                refine lv_ishl hx hb dX11_layDress_109 ?_
                refine lv_topi (fun t24 et24 => ?_)
                have zt24 : 1 ≤ t24.toInt ∧ t24.toInt ≤ 64 := by rw [et24]; exact shl1_rng6 (by omega) (by omega)
                refine lv_ior hx hb dX11_layDress_110 ?_
                refine lv_topi (fun t25 et25 => ?_)
                refine lv_istore_n (lv' := [(3, .int t25), (2, .int t8), (6, .int t7), (5, .int l5_3), (4, .int l4_3), (0, .ref y0), (1, .int p1)]) hx hb dX11_layDress_111 rfl hl (by decide) rfl (fun ls hl => ?_)
                obtain ⟨t26, et26⟩ : ∃ y : Int32, y = l4_3 + 1 := ⟨_, rfl⟩
                refine lv_iinc (v := t26) (lv' := [(4, .int t26), (3, .int t25), (2, .int t8), (6, .int t7), (5, .int l5_3), (0, .ref y0), (1, .int p1)]) hx hb dX11_layDress_112 hl (k := 4) rfl (by rw [et26]; rfl) (by decide) rfl (fun ls hl => ?_)
                obtain ⟨t27, et27⟩ : ∃ y : Int32, y = l5_3 + (-1) := ⟨_, rfl⟩
                have zt27 : t27.toInt = l5_3.toInt + (-1) := by rw [et27]; exact add_i rfl (by decide) (by omega) (by omega)
                refine lv_iinc (v := t27) (lv' := [(5, .int t27), (4, .int t26), (3, .int t25), (2, .int t8), (6, .int t7), (0, .ref y0), (1, .int p1)]) hx hb dX11_layDress_115 hl (k := 4) rfl (by rw [et27]; rfl) (by decide) rfl (fun ls hl => ?_)
                refine lv_goto (tgt := 15) hx hb dX11_layDress_118 (by decide) ?_
                have rg28 := fb_rng t8
                have rg29 := fb_rng t27
                exact ih3 t8 t25 t26 t27 v3 f11 w3 g3 hIv3 hCf11 hRf11 hq0_v3 hq1_v3 hq2_v3 hq3_v3 hq4_v3 hq5_v3 hq8_v3 hq9_v3 hq10_v3 hq13_v3 hq14_v3 hq15_v3 hq17_v3 hq18_v3 hq24_v3 hq25_v3 hq35_v3 hq36_v3 hq38_v3 hq39_v3 ⟨show (0 : Int) ≤ t8.toInt by omega, show t8.toInt ≤ (2147483647 : Int) by omega⟩ ⟨show (-2147483648 : Int) ≤ t27.toInt by omega, show t27.toInt ≤ (5 : Int) by omega⟩ hM_v3 hA_f11 (by show (t27.toInt + 2147483648).toNat < n3; omega) _ _ _ hP hD hS (lv_sub hl [0, 1, 2, 3, 5, 6] rfl)
              · skip
                have zc21 : ¬ (t20.toInt ≤ (v3 26).toInt) := by rw [fa_le] at c21; exact c21
                have rg30 := fb_rng t20
                have rg31 := fb_rng (v3 26)
                refine lv_iconst (v := (-1)) hx hb dX11_layDress_103 (by decide) ?_
                exact ret (-1) (v3, f11, w3, g3) _ _ _ _ _ _ rfl ⟨hM_v3, hA_f11, hIv3, hCf11, hRf11, (show v3 0 = v 0 from hq0_v3), (show v3 1 = v 1 from hq1_v3), (show v3 2 = v 2 from hq2_v3), (show v3 3 = v 3 from hq3_v3), (show v3 4 = v 4 from hq4_v3), (show v3 5 = v 5 from hq5_v3), (show v3 8 = v 8 from hq8_v3), (show v3 9 = v 9 from hq9_v3), (show v3 10 = v 10 from hq10_v3), (show v3 13 = v 13 from hq13_v3), (show v3 14 = v 14 from hq14_v3), (show v3 15 = v 15 from hq15_v3), (show v3 17 = v 17 from hq17_v3), (show v3 18 = v 18 from hq18_v3), (show v3 24 = v 24 from hq24_v3), (show v3 25 = v 25 from hq25_v3), (show v3 35 = v 35 from hq35_v3), (show v3 36 = v 36 from hq36_v3), (show v3 38 = v 38 from hq38_v3), (show v3 39 = v 39 from hq39_v3)⟩ hP hD hS dX11_layDress_104 (Nat.le_refl _) (Nat.le_refl _)
          · skip
            have zc12 : t7.toInt = (v 25).toInt := by rw [fa_eq] at c12; exact c12
            refine lv_goto (tgt := 115) hx hb dX11_layDress_70 (by decide) ?_
            obtain ⟨t32, et32⟩ : ∃ y : Int32, y = l5_3 + (-1) := ⟨_, rfl⟩
            have rg33 := fb_rng l5_3
            have zt32 : t32.toInt = l5_3.toInt + (-1) := by rw [et32]; exact add_i rfl (by decide) (by omega) (by omega)
            refine lv_iinc (v := t32) (lv' := [(5, .int t32), (2, .int t8), (6, .int t7), (4, .int l4_3), (3, .int l3_3), (0, .ref y0), (1, .int p1)]) hx hb dX11_layDress_115 hl (k := 2) rfl (by rw [et32]; rfl) (by decide) rfl (fun ls hl => ?_)
            refine lv_goto (tgt := 15) hx hb dX11_layDress_118 (by decide) ?_
            have rg34 := fb_rng t8
            have rg35 := fb_rng t32
            exact ih3 t8 l3_3 l4_3 t32 v3 f11 w3 g3 hIv3 hCf11 hRf11 hq0_v3 hq1_v3 hq2_v3 hq3_v3 hq4_v3 hq5_v3 hq8_v3 hq9_v3 hq10_v3 hq13_v3 hq14_v3 hq15_v3 hq17_v3 hq18_v3 hq24_v3 hq25_v3 hq35_v3 hq36_v3 hq38_v3 hq39_v3 ⟨show (0 : Int) ≤ t8.toInt by omega, show t8.toInt ≤ (2147483647 : Int) by omega⟩ ⟨show (-2147483648 : Int) ≤ t32.toInt by omega, show t32.toInt ≤ (5 : Int) by omega⟩ hM_v3 hA_f11 (by show (t32.toInt + 2147483648).toNat < n3; omega) _ _ _ hP hD hS (lv_sub hl [0, 3, 4, 1, 5, 6] rfl)
        · skip
          have zc9 : t7.toInt = (v 25).toInt := by rw [fa_eq] at c9; exact c9
          have rg36 := fb_rng t7
          refine lv_iconst (v := (-1)) hx hb dX11_layDress_54 (by decide) ?_
          refine lv_goto (tgt := 60) hx hb dX11_layDress_55 (by decide) ?_
          refine stI hx hb hE hP hD hS 28 rfl (vp_in_iff.mpr ⟨by omega, by omega⟩) rfl dX11_layDress_60 (fun H locs hP hD hS => ?_)
          obtain ⟨f37, ef37, hP, hD⟩ : ∃ fz9, fz9 = upd2 f3 27 (upd (f3 27) l5_3.toNatClampNeg (-1)) ∧ va_P (dC, dI) vwCl (YW cy y0 r v3 fz9 w3 g3) H ∧ va_D A (YW cy y0 r v3 fz9 w3 g3) := ⟨_, rfl, hP, hD⟩
          have hCf37 : YC f37 := by rw [ef37]; exact ⟨hCf3.1, hCf3.2.1, hCf3.2.2.1, (rng_st hCf3.2.2.2.1 (by have q9 : ((-1) : Int32).toInt = -1 := (by decide); show -1 ≤ ((-1) : Int32).toInt ∧ ((-1) : Int32).toInt ≤ 5; omega)), hCf3.2.2.2.2.1, hCf3.2.2.2.2.2⟩
          have hRf37 : progOK (f37 4) (f37 5) (v3 9).toInt.toNat := by rw [ef37]; exact hRf3
          have hA_f37 : KF [27] f37 f := by rw [ef37]; exact KF.up hA_f3 rfl
          refine lv_iload hx hb dX11_layDress_61 (lv_at hl 1 rfl) ?_
          refine lv_aload_n hx hb dX11_layDress_63 rfl (lv_at hl 5 rfl) ?_
          refine va_get (D := (dC, dI)) (ci := 11) (v := .int (v3 25)) (C := RX11) (T := TX11) (N := 79) hx hb hts inB_11 hown hE.1 hP 0 rfl rfl 49 (by decide) (hts _ k_1369) (fun _ h9 => h9) rfl dX11_layDress_64 ?_
          refine tI (y := (v 25)) hq25_v3 ?_
          refine lv_icmp_ne (tgt := 73) hx hb dX11_layDress_67 (by decide) (fun c38 => ?_) (fun c38 => ?_)
          · skip
            have zc38 : ¬ (t7.toInt = (v 25).toInt) := by rw [fa_eq] at c38; exact c38
            refine lv_iload_n hx hb dX11_layDress_73 rfl (lv_at hl 4 rfl) ?_
            refine lv_iload hx hb dX11_layDress_74 (lv_at hl 1 rfl) ?_
            refine lv_ishr hx hb dX11_layDress_76 ?_
            refine lv_topi (fun t39 et39 => ?_)
            refine lv_iconst (v := 1) hx hb dX11_layDress_77 (by decide) ?_
            refine lv_iand hx hb dX11_layDress_78 ?_
            refine lv_topi (fun t40 et40 => ?_)
            have zt40 : 0 ≤ t40.toInt ∧ t40.toInt < 2 := by rw [et40]; exact and_rng _ (k := 1) (by decide) (by decide)
            refine lv_iconst (v := 1) hx hb dX11_layDress_79 (by decide) ?_
            refine lv_icmp_eq (tgt := 103) hx hb dX11_layDress_80 (by decide) (fun c41 => ?_) (fun c41 => ?_)
            · skip
              have zc41 : t40.toInt = 1 := by rw [fa_eq, show (1 : Int32).toInt = 1 from by decide] at c41; exact c41
              refine lv_iconst (v := (-1)) hx hb dX11_layDress_103 (by decide) ?_
              exact ret (-1) (v3, f37, w3, g3) _ _ _ _ _ _ rfl ⟨hM_v3, hA_f37, hIv3, hCf37, hRf37, (show v3 0 = v 0 from hq0_v3), (show v3 1 = v 1 from hq1_v3), (show v3 2 = v 2 from hq2_v3), (show v3 3 = v 3 from hq3_v3), (show v3 4 = v 4 from hq4_v3), (show v3 5 = v 5 from hq5_v3), (show v3 8 = v 8 from hq8_v3), (show v3 9 = v 9 from hq9_v3), (show v3 10 = v 10 from hq10_v3), (show v3 13 = v 13 from hq13_v3), (show v3 14 = v 14 from hq14_v3), (show v3 15 = v 15 from hq15_v3), (show v3 17 = v 17 from hq17_v3), (show v3 18 = v 18 from hq18_v3), (show v3 24 = v 24 from hq24_v3), (show v3 25 = v 25 from hq25_v3), (show v3 35 = v 35 from hq35_v3), (show v3 36 = v 36 from hq36_v3), (show v3 38 = v 38 from hq38_v3), (show v3 39 = v 39 from hq39_v3)⟩ hP hD hS dX11_layDress_104 (Nat.le_refl _) (Nat.le_refl _)
            · skip
              have zc41 : ¬ (t40.toInt = 1) := by rw [fa_eq, show (1 : Int32).toInt = 1 from by decide] at c41; exact c41
              refine lv_aload_n hx hb dX11_layDress_83 rfl (lv_at hl 5 rfl) ?_
              refine va_get (D := (dC, dI)) (ci := 11) (v := .ref (r 66)) (C := RX11) (T := TX11) (N := 79) hx hb hts inB_11 hown hE.1 hP 0 rfl rfl 66 (by decide) (hts _ k_1386) (fun _ h9 => h9) rfl dX11_layDress_84 ?_
              refine lv_bipush (v := 6) hx hb dX11_layDress_87 (by decide) ?_
              refine lv_iload hx hb dX11_layDress_89 (lv_at hl 2 rfl) ?_
              refine lv_imul hx hb dX11_layDress_91 ?_
              refine lv_topi (fun t42 et42 => ?_)
              have rg43 := fb_rng l5_3
              have zt42 : t42.toInt = 6 * l5_3.toInt := by rw [et42]; exact mul_i (by decide) rfl (by omega) (by omega)
              refine lv_iload hx hb dX11_layDress_92 (lv_at hl 1 rfl) ?_
              refine lv_iadd hx hb dX11_layDress_94 ?_
              refine lv_topi (fun t44 et44 => ?_)
              have rg45 := fb_rng t42
              have zt44 : t44.toInt = t42.toInt + t7.toInt := by rw [et44]; exact add_i rfl rfl (by omega) (by omega)
              refine ldI hx hb hE hP 29 rfl (vp_in_iff.mpr ⟨by omega, by omega⟩) rfl rfl dX11_layDress_95 ?_
              refine lv_topi (fun t46 et46 => ?_)
              refine lv_aload_n hx hb dX11_layDress_96 rfl (lv_at hl 5 rfl) ?_
              refine va_get (D := (dC, dI)) (ci := 11) (v := .int (v3 26)) (C := RX11) (T := TX11) (N := 79) hx hb hts inB_11 hown hE.1 hP 0 rfl rfl 50 (by decide) (hts _ k_1370) (fun _ h9 => h9) rfl dX11_layDress_97 ?_
              refine lv_icmp_le (tgt := 105) hx hb dX11_layDress_100 (by decide) (fun c47 => ?_) (fun c47 => ?_)
              · skip
                have zc47 : t46.toInt ≤ (v3 26).toInt := by rw [fa_le] at c47; exact c47
                have rg48 := fb_rng t46
                have rg49 := fb_rng (v3 26)
                refine lv_iload_n hx hb dX11_layDress_105 rfl (lv_at hl 4 rfl) ?_
                refine lv_iconst (v := 1) hx hb dX11_layDress_106 (by decide) ?_
                refine lv_iload hx hb dX11_layDress_107 (lv_at hl 1 rfl) ?_
                refine lv_ishl hx hb dX11_layDress_109 ?_
                refine lv_topi (fun t50 et50 => ?_)
                have zt50 : 1 ≤ t50.toInt ∧ t50.toInt ≤ 64 := by rw [et50]; exact shl1_rng6 (by omega) (by omega)
                refine lv_ior hx hb dX11_layDress_110 ?_
                refine lv_topi (fun t51 et51 => ?_)
                refine lv_istore_n (lv' := [(3, .int t51), (2, .int t8), (6, .int t7), (5, .int l5_3), (4, .int l4_3), (0, .ref y0), (1, .int p1)]) hx hb dX11_layDress_111 rfl hl (by decide) rfl (fun ls hl => ?_)
                obtain ⟨t52, et52⟩ : ∃ y : Int32, y = l4_3 + 1 := ⟨_, rfl⟩
                refine lv_iinc (v := t52) (lv' := [(4, .int t52), (3, .int t51), (2, .int t8), (6, .int t7), (5, .int l5_3), (0, .ref y0), (1, .int p1)]) hx hb dX11_layDress_112 hl (k := 4) rfl (by rw [et52]; rfl) (by decide) rfl (fun ls hl => ?_)
                obtain ⟨t53, et53⟩ : ∃ y : Int32, y = l5_3 + (-1) := ⟨_, rfl⟩
                have zt53 : t53.toInt = l5_3.toInt + (-1) := by rw [et53]; exact add_i rfl (by decide) (by omega) (by omega)
                refine lv_iinc (v := t53) (lv' := [(5, .int t53), (4, .int t52), (3, .int t51), (2, .int t8), (6, .int t7), (0, .ref y0), (1, .int p1)]) hx hb dX11_layDress_115 hl (k := 4) rfl (by rw [et53]; rfl) (by decide) rfl (fun ls hl => ?_)
                refine lv_goto (tgt := 15) hx hb dX11_layDress_118 (by decide) ?_
                have rg54 := fb_rng t8
                have rg55 := fb_rng t53
                exact ih3 t8 t51 t52 t53 v3 f37 w3 g3 hIv3 hCf37 hRf37 hq0_v3 hq1_v3 hq2_v3 hq3_v3 hq4_v3 hq5_v3 hq8_v3 hq9_v3 hq10_v3 hq13_v3 hq14_v3 hq15_v3 hq17_v3 hq18_v3 hq24_v3 hq25_v3 hq35_v3 hq36_v3 hq38_v3 hq39_v3 ⟨show (0 : Int) ≤ t8.toInt by omega, show t8.toInt ≤ (2147483647 : Int) by omega⟩ ⟨show (-2147483648 : Int) ≤ t53.toInt by omega, show t53.toInt ≤ (5 : Int) by omega⟩ hM_v3 hA_f37 (by show (t53.toInt + 2147483648).toNat < n3; omega) _ _ _ hP hD hS (lv_sub hl [0, 1, 2, 3, 5, 6] rfl)
              · skip
                have zc47 : ¬ (t46.toInt ≤ (v3 26).toInt) := by rw [fa_le] at c47; exact c47
                have rg56 := fb_rng t46
                have rg57 := fb_rng (v3 26)
                refine lv_iconst (v := (-1)) hx hb dX11_layDress_103 (by decide) ?_
                exact ret (-1) (v3, f37, w3, g3) _ _ _ _ _ _ rfl ⟨hM_v3, hA_f37, hIv3, hCf37, hRf37, (show v3 0 = v 0 from hq0_v3), (show v3 1 = v 1 from hq1_v3), (show v3 2 = v 2 from hq2_v3), (show v3 3 = v 3 from hq3_v3), (show v3 4 = v 4 from hq4_v3), (show v3 5 = v 5 from hq5_v3), (show v3 8 = v 8 from hq8_v3), (show v3 9 = v 9 from hq9_v3), (show v3 10 = v 10 from hq10_v3), (show v3 13 = v 13 from hq13_v3), (show v3 14 = v 14 from hq14_v3), (show v3 15 = v 15 from hq15_v3), (show v3 17 = v 17 from hq17_v3), (show v3 18 = v 18 from hq18_v3), (show v3 24 = v 24 from hq24_v3), (show v3 25 = v 25 from hq25_v3), (show v3 35 = v 35 from hq35_v3), (show v3 36 = v 36 from hq36_v3), (show v3 38 = v 38 from hq38_v3), (show v3 39 = v 39 from hq39_v3)⟩ hP hD hS dX11_layDress_104 (Nat.le_refl _) (Nat.le_refl _)
          · skip
            have zc38 : t7.toInt = (v 25).toInt := by rw [fa_eq] at c38; exact c38
            refine lv_goto (tgt := 115) hx hb dX11_layDress_70 (by decide) ?_
            obtain ⟨t58, et58⟩ : ∃ y : Int32, y = l5_3 + (-1) := ⟨_, rfl⟩
            have rg59 := fb_rng l5_3
            have zt58 : t58.toInt = l5_3.toInt + (-1) := by rw [et58]; exact add_i rfl (by decide) (by omega) (by omega)
            refine lv_iinc (v := t58) (lv' := [(5, .int t58), (2, .int t8), (6, .int t7), (4, .int l4_3), (3, .int l3_3), (0, .ref y0), (1, .int p1)]) hx hb dX11_layDress_115 hl (k := 2) rfl (by rw [et58]; rfl) (by decide) rfl (fun ls hl => ?_)
            refine lv_goto (tgt := 15) hx hb dX11_layDress_118 (by decide) ?_
            have rg60 := fb_rng t8
            have rg61 := fb_rng t58
            exact ih3 t8 l3_3 l4_3 t58 v3 f37 w3 g3 hIv3 hCf37 hRf37 hq0_v3 hq1_v3 hq2_v3 hq3_v3 hq4_v3 hq5_v3 hq8_v3 hq9_v3 hq10_v3 hq13_v3 hq14_v3 hq15_v3 hq17_v3 hq18_v3 hq24_v3 hq25_v3 hq35_v3 hq36_v3 hq38_v3 hq39_v3 ⟨show (0 : Int) ≤ t8.toInt by omega, show t8.toInt ≤ (2147483647 : Int) by omega⟩ ⟨show (-2147483648 : Int) ≤ t58.toInt by omega, show t58.toInt ≤ (5 : Int) by omega⟩ hM_v3 hA_f37 (by show (t58.toInt + 2147483648).toNat < n3; omega) _ _ _ hP hD hS (lv_sub hl [0, 3, 4, 1, 5, 6] rfl)
  have rg62 := fb_rng p1
  have rg63 := fb_rng t1
  exact lp3 _ p1 0 0 t1 v f w g hIv hCf hRf rfl rfl rfl rfl rfl rfl rfl rfl rfl rfl rfl rfl rfl rfl rfl rfl rfl rfl rfl rfl ⟨show (0 : Int) ≤ p1.toInt by omega, show p1.toInt ≤ (2147483647 : Int) by omega⟩ ⟨show (-2147483648 : Int) ≤ t1.toInt by omega, show t1.toInt ≤ (5 : Int) by omega⟩ hM_v hA_f (Nat.lt_succ_self _) _ _ _ hP hD hS (lv_sub hl [0, 1, 2, 3, 4, 5] rfl)
set_option maxHeartbeats 4000000 in
set_option maxRecDepth 100000 in
theorem sY_X11_illOfRow_1 (l : Launch) (dC : Nat → ClassId) (dI : Nat → Nat → Nat) (cy : Nat → ClassId) (y0 : Nat) (r : Nat → Nat)  (v : Nat → Int32) (f : Nat → Nat → Int32) (w : Int64) (g : Nat → Int64) (hIv : YI v) (hCf : YC f) (hRf : progOK (f 4) (f 5) (v 9).toInt.toNat)  : ctI l (dC, dI) cy yX11_illOfRow cX11_illOfRow 3 .int 1 60 0 0 Unit [.ref y0] (YW cy y0 r v f w g) (fun r u => True) (fun u => YW cy y0 r v f w g) := by
  refine ctI_of (by decide) (Nat.le_of_ble_eq_true rfl) (fun p e s m below meth c A ls Q hx hb hml hts hown hE hP hD hA hl ret => ?_)
  have hUv : (v 35).toInt + (v 36).toInt ≤ 40 := hIv.2
  have hown : s.vm.findClass RX11 = some m.cls := hown
  have hS : va_S A s.heap s.heap [] := va_S.rf
  have hl : lv_has ls 3 [(0, .ref y0)] := hl
  refine lv_iconst (v := 0) hx hb dX11_illOfRow_0 (by decide) ?_
  refine lv_istore_n (lv' := [(1, .int 0), (0, .ref y0)]) hx hb dX11_illOfRow_1 rfl hl (by decide) rfl (fun ls hl => ?_)
  refine lv_iconst (v := 0) hx hb dX11_illOfRow_2 (by decide) ?_
  refine lv_istore_n (lv' := [(2, .int 0), (1, .int 0), (0, .ref y0)]) hx hb dX11_illOfRow_3 rfl hl (by decide) rfl (fun ls hl => ?_)
  have lp1 : ∀ (n1 : Nat) (l1_1 : Int32) (l2_1 : Int32), ((0 : Int) ≤ l2_1.toInt ∧ l2_1.toInt ≤ 2147483647) → (2147483647 - l2_1.toInt).toNat < n1 → ∀ (H : Heap) (locs : List Loc) (ls : Array Slot), va_P (dC, dI) vwCl (YW cy y0 r v f w g) H → va_D A (YW cy y0 r v f w g) → va_S A s.heap H locs → lv_has ls 3 [(2, .int l2_1), (1, .int l1_1), (0, .ref y0)] → W p l e { frames := 1, cells := 0, slots := 0, locals := 60 } s m ([.ref y0] : List Value).toArray below meth c H locs 0 0 Q (F0 m 4 ls []) := by
    intro n1
    induction n1 with
    | zero => intro l1_1 l2_1 hr2_1 hm; exact absurd hm (Nat.not_lt_zero _)
    | succ n1 ih1 =>
      intro l1_1 l2_1 hr2_1 hm1 H locs ls hP hD hS hl
      refine lv_iload_n hx hb dX11_illOfRow_4 rfl (lv_at hl 0 rfl) ?_
      refine lv_aload_n hx hb dX11_illOfRow_5 rfl (lv_at hl 2 rfl) ?_
      refine va_get (D := (dC, dI)) (ci := 11) (v := .int (v 24)) (C := RX11) (T := TX11) (N := 79) hx hb hts inB_11 hown hE.1 hP 0 rfl rfl 48 (by decide) (hts _ k_1368) (fun _ h9 => h9) rfl dX11_illOfRow_6 ?_
      have b24_v : 0 ≤ (v 24).toInt ∧ (v 24).toInt ≤ 6 := YIb.b hIv.1 24 (by decide)
      refine lv_icmp_ge (tgt := 50) hx hb dX11_illOfRow_9 (by decide) (fun c2 => ?_) (fun c2 => ?_)
      · skip
        have zc2 : (v 24).toInt ≤ l2_1.toInt := by rw [fa_le] at c2; exact c2
        have rg3 := fb_rng l2_1
        have rg4 := fb_rng (v 24)
        refine lv_iload_n hx hb dX11_illOfRow_50 rfl (lv_at hl 1 rfl) ?_
        exact ret l1_1 () _ _ _ _ _ _ rfl trivial hP hD hS dX11_illOfRow_51 (Nat.le_refl _) (Nat.le_refl _)
      · skip
        have zc2 : ¬ ((v 24).toInt ≤ l2_1.toInt) := by rw [fa_le] at c2; exact c2
        have rg5 := fb_rng l2_1
        have rg6 := fb_rng (v 24)
        refine lv_iload_n hx hb dX11_illOfRow_12 rfl (lv_at hl 1 rfl) ?_
        refine lv_aload_n hx hb dX11_illOfRow_13 rfl (lv_at hl 2 rfl) ?_
        refine va_get (D := (dC, dI)) (ci := 11) (v := .ref (r 65)) (C := RX11) (T := TX11) (N := 79) hx hb hts inB_11 hown hE.1 hP 0 rfl rfl 65 (by decide) (hts _ k_1385) (fun _ h9 => h9) rfl dX11_illOfRow_14 ?_
        refine lv_iload_n hx hb dX11_illOfRow_17 rfl (lv_at hl 0 rfl) ?_
        refine ldI hx hb hE hP 28 rfl (vp_in_iff.mpr ⟨by omega, by omega⟩) rfl rfl dX11_illOfRow_18 ?_
        refine lv_topi (fun t7 et7 => ?_)
        have zt7 : -1 ≤ t7.toInt ∧ t7.toInt ≤ 5 := by rw [et7]; exact hCf.2.2.2.1 l2_1.toInt.toNat (show l2_1.toInt.toNat < 6 by omega)
        refine lv_if_ge (tgt := 26) hx hb dX11_illOfRow_19 (by decide) (fun c8 => ?_) (fun c8 => ?_)
        · skip
          have zc8 : 0 ≤ t7.toInt := by rw [fa_le, show (0 : Int32).toInt = 0 from by decide] at c8; exact c8
          refine lv_aload_n hx hb dX11_illOfRow_26 rfl (lv_at hl 2 rfl) ?_
          refine va_get (D := (dC, dI)) (ci := 11) (v := .ref (r 66)) (C := RX11) (T := TX11) (N := 79) hx hb hts inB_11 hown hE.1 hP 0 rfl rfl 66 (by decide) (hts _ k_1386) (fun _ h9 => h9) rfl dX11_illOfRow_27 ?_
          refine lv_bipush (v := 6) hx hb dX11_illOfRow_30 (by decide) ?_
          refine lv_iload_n hx hb dX11_illOfRow_32 rfl (lv_at hl 0 rfl) ?_
          refine lv_imul hx hb dX11_illOfRow_33 ?_
          refine lv_topi (fun t9 et9 => ?_)
          have zt9 : t9.toInt = 6 * l2_1.toInt := by rw [et9]; exact mul_i (by decide) rfl (by omega) (by omega)
          refine lv_aload_n hx hb dX11_illOfRow_34 rfl (lv_at hl 2 rfl) ?_
          refine va_get (D := (dC, dI)) (ci := 11) (v := .ref (r 65)) (C := RX11) (T := TX11) (N := 79) hx hb hts inB_11 hown hE.1 hP 0 rfl rfl 65 (by decide) (hts _ k_1385) (fun _ h9 => h9) rfl dX11_illOfRow_35 ?_
          refine lv_iload_n hx hb dX11_illOfRow_38 rfl (lv_at hl 0 rfl) ?_
          refine ldI hx hb hE hP 28 rfl (vp_in_iff.mpr ⟨by omega, by omega⟩) rfl rfl dX11_illOfRow_39 ?_
          refine tI (y := t7) et7.symm ?_
          refine lv_iadd hx hb dX11_illOfRow_40 ?_
          refine lv_topi (fun t10 et10 => ?_)
          have rg11 := fb_rng t9
          have rg12 := fb_rng t7
          have zt10 : t10.toInt = t9.toInt + t7.toInt := by rw [et10]; exact add_i rfl rfl (by omega) (by omega)
          refine ldI hx hb hE hP 29 rfl (vp_in_iff.mpr ⟨by omega, by omega⟩) rfl rfl dX11_illOfRow_41 ?_
          refine lv_topi (fun t13 et13 => ?_)
          refine lv_iadd hx hb dX11_illOfRow_42 ?_
          refine lv_topi (fun t14 et14 => ?_)
          refine lv_istore_n (lv' := [(1, .int t14), (2, .int l2_1), (0, .ref y0)]) hx hb dX11_illOfRow_43 rfl hl (by decide) rfl (fun ls hl => ?_)
          obtain ⟨t15, et15⟩ : ∃ y : Int32, y = l2_1 + 1 := ⟨_, rfl⟩
          have zt15 : t15.toInt = l2_1.toInt + 1 := by rw [et15]; exact add_i rfl (by decide) (by omega) (by omega)
          refine lv_iinc (v := t15) (lv' := [(2, .int t15), (1, .int t14), (0, .ref y0)]) hx hb dX11_illOfRow_44 hl (k := 1) rfl (by rw [et15]; rfl) (by decide) rfl (fun ls hl => ?_)
          refine lv_goto (tgt := 4) hx hb dX11_illOfRow_47 (by decide) ?_
          have rg16 := fb_rng t15
          exact ih1 t14 t15 ⟨show (0 : Int) ≤ t15.toInt by omega, show t15.toInt ≤ (2147483647 : Int) by omega⟩ (by show (2147483647 - t15.toInt).toNat < n1; omega) _ _ _ hP hD hS (lv_sub hl [0, 1, 2] rfl)
        · skip
          have zc8 : ¬ (0 ≤ t7.toInt) := by rw [fa_le, show (0 : Int32).toInt = 0 from by decide] at c8; exact c8
          refine lv_iconst (v := 0) hx hb dX11_illOfRow_22 (by decide) ?_
          refine lv_goto (tgt := 42) hx hb dX11_illOfRow_23 (by decide) ?_
          refine lv_iadd hx hb dX11_illOfRow_42 ?_
          refine lv_topi (fun t17 et17 => ?_)
          have rg18 := fb_rng l1_1
          have zt17 : t17.toInt = l1_1.toInt + 0 := by rw [et17]; exact add_i rfl (by decide) (by omega) (by omega)
          refine lv_istore_n (lv' := [(1, .int t17), (2, .int l2_1), (0, .ref y0)]) hx hb dX11_illOfRow_43 rfl hl (by decide) rfl (fun ls hl => ?_)
          obtain ⟨t19, et19⟩ : ∃ y : Int32, y = l2_1 + 1 := ⟨_, rfl⟩
          have zt19 : t19.toInt = l2_1.toInt + 1 := by rw [et19]; exact add_i rfl (by decide) (by omega) (by omega)
          refine lv_iinc (v := t19) (lv' := [(2, .int t19), (1, .int t17), (0, .ref y0)]) hx hb dX11_illOfRow_44 hl (k := 1) rfl (by rw [et19]; rfl) (by decide) rfl (fun ls hl => ?_)
          refine lv_goto (tgt := 4) hx hb dX11_illOfRow_47 (by decide) ?_
          have rg20 := fb_rng t19
          exact ih1 t17 t19 ⟨show (0 : Int) ≤ t19.toInt by omega, show t19.toInt ≤ (2147483647 : Int) by omega⟩ (by show (2147483647 - t19.toInt).toNat < n1; omega) _ _ _ hP hD hS (lv_sub hl [0, 1, 2] rfl)
  exact lp1 _ 0 0 ⟨by decide, by decide⟩ (Nat.lt_succ_self _) _ _ _ hP hD hS (lv_sub hl [0, 1, 2] rfl)
set_option maxHeartbeats 4000000 in
set_option maxRecDepth 100000 in
theorem sY_X11_dress_1 (l : Launch) (dC : Nat → ClassId) (dI : Nat → Nat → Nat) (cy : Nat → ClassId) (y0 : Nat) (r : Nat → Nat) (p1 : Int32) (v : Nat → Int32) (f : Nat → Nat → Int32) (w : Int64) (g : Nat → Int64) (hIv : YI v) (hCf : YC f) (hRf : progOK (f 4) (f 5) (v 9).toInt.toNat)  : ctI l (dC, dI) cy yX11_dress cX11_dress 7 .int 5 148 0 0 ((Nat → Int32) × (Nat → Nat → Int32) × (Int64) × (Nat → Int64)) [.ref y0, .int p1] (YW cy y0 r v f w g) (fun r u => KV [37] u.1 v ∧ KF [7, 8, 24, 26, 27, 28] u.2.1 f ∧ YI u.1 ∧ YC u.2.1 ∧ progOK (u.2.1 4) (u.2.1 5) (u.1 9).toInt.toNat ∧ u.1 0 = v 0 ∧ u.1 1 = v 1 ∧ u.1 2 = v 2 ∧ u.1 3 = v 3 ∧ u.1 4 = v 4 ∧ u.1 5 = v 5 ∧ u.1 8 = v 8 ∧ u.1 9 = v 9 ∧ u.1 10 = v 10 ∧ u.1 13 = v 13 ∧ u.1 14 = v 14 ∧ u.1 15 = v 15 ∧ u.1 17 = v 17 ∧ u.1 18 = v 18 ∧ u.1 24 = v 24 ∧ u.1 25 = v 25 ∧ u.1 35 = v 35 ∧ u.1 36 = v 36 ∧ u.1 38 = v 38 ∧ u.1 39 = v 39) (fun u => YW cy y0 r u.1 u.2.1 u.2.2.1 u.2.2.2) := by
  refine ctI_of (by decide) (Nat.le_of_ble_eq_true rfl) (fun p e s m below meth c A ls Q hx hb hml hts hown hE hP hD hA hl ret => ?_)
  have hUv : (v 35).toInt + (v 36).toInt ≤ 40 := hIv.2
  have hM_v : KV [37] v v := fun _ _ => rfl
  have hA_f : KF [7, 8, 24, 26, 27, 28] f f := fun _ _ => rfl
  have hown : s.vm.findClass RX11 = some m.cls := hown
  have hS : va_S A s.heap s.heap [] := va_S.rf
  have hl : lv_has ls 7 [(0, .ref y0), (1, .int p1)] := hl
  refine lv_iload_n hx hb dX11_dress_0 rfl (lv_at hl 1 rfl) ?_
  refine lv_iconst (v := 0) hx hb dX11_dress_1 (by decide) ?_
  refine lv_iconst (v := 1) hx hb dX11_dress_2 (by decide) ?_
  have lt1 : (0 : Int32).toInt = 0 := by decide
  have lt2 : (1 : Int32).toInt = 1 := by decide
  refine cbSi (n := 3) (rest := []) hx hb hml hown hts hE hP hD hS hA (sY_X11_isIn_1 0 l dC dI cy y0 r p1 0 1 v f w g hIv hCf hRf ) k_1736 k_1737 k_114 k_1738 (by decide +kernel) ⟨Nat.le_of_ble_eq_true rfl, Nat.le_of_ble_eq_true rfl⟩ (rfl) hl.1 rfl (Nat.le_of_ble_eq_true rfl) dX11_dress_3 (fun r3 u H locs hw hP hD hS => ?_)
  obtain ⟨hG4, hw⟩ := hw
  rcases hw with ⟨g5, g5_0, g5_1⟩ | ⟨g5⟩
  · skip
    subst g5
    refine lv_if_ne (tgt := 11) hx hb dX11_dress_6 (by decide) (fun _ => ?_) (fun c0 => absurd c0 (by decide))
    refine lv_aload_n hx hb dX11_dress_11 rfl (lv_at hl 0 rfl) ?_
    refine cbVv (n := 0) (rest := []) hx hb hml hown hts hE hP hD hS hA (sY_X11_layIlls_1 l dC dI cy y0 r  v f w g hIv hCf hRf ) k_1873 k_1875 k_84 k_114 k_1876 (by decide +kernel) ⟨Nat.le_of_ble_eq_true rfl, Nat.le_of_ble_eq_true rfl⟩ 0 11 rfl rfl (rfl) hl.1 rfl (Nat.le_of_ble_eq_true rfl) dX11_dress_12 (fun u H locs hw hP hD hS => ?_)
    obtain ⟨v6, f7, w8, g9⟩ := u
    obtain ⟨kV_v6, kF_f7, hIv6, hCf7, hRf7, hk0_v6, hk1_v6, hk2_v6, hk3_v6, hk4_v6, hk5_v6, hk8_v6, hk9_v6, hk10_v6, hk13_v6, hk14_v6, hk15_v6, hk17_v6, hk18_v6, hk24_v6, hk25_v6, hk35_v6, hk36_v6, hk38_v6, hk39_v6⟩ := hw
    have hM_v6 : KV [37] v6 v := KV.tr kV_v6 hM_v rfl
    have hA_f7 : KF [7, 8, 24, 26, 27, 28] f7 f := KF.tr kF_f7 hA_f rfl
    have hP : va_P (dC, dI) vwCl (YW cy y0 r v6 f7 w8 g9) H := hP
    have hD : va_D A (YW cy y0 r v6 f7 w8 g9) := hD
    have hUv6 : (v6 35).toInt + (v6 36).toInt ≤ 40 := hIv6.2
    have hq0_v6 : v6 0 = (v 0) := hk0_v6
    have hq1_v6 : v6 1 = (v 1) := hk1_v6
    have hq2_v6 : v6 2 = (v 2) := hk2_v6
    have hq3_v6 : v6 3 = (v 3) := hk3_v6
    have hq4_v6 : v6 4 = (v 4) := hk4_v6
    have hq5_v6 : v6 5 = (v 5) := hk5_v6
    have hq8_v6 : v6 8 = (v 8) := hk8_v6
    have hq9_v6 : v6 9 = (v 9) := hk9_v6
    have zq9_v6 := congrArg Int32.toInt hq9_v6
    have hq10_v6 : v6 10 = (v 10) := hk10_v6
    have hq13_v6 : v6 13 = (v 13) := hk13_v6
    have hq14_v6 : v6 14 = (v 14) := hk14_v6
    have hq15_v6 : v6 15 = (v 15) := hk15_v6
    have hq17_v6 : v6 17 = (v 17) := hk17_v6
    have hq18_v6 : v6 18 = (v 18) := hk18_v6
    have hq24_v6 : v6 24 = (v 24) := hk24_v6
    have hq25_v6 : v6 25 = (v 25) := hk25_v6
    have hq35_v6 : v6 35 = (v 35) := hk35_v6
    have hq36_v6 : v6 36 = (v 36) := hk36_v6
    have hq38_v6 : v6 38 = (v 38) := hk38_v6
    have hq39_v6 : v6 39 = (v 39) := hk39_v6
    refine lv_iconst (v := (-1)) hx hb dX11_dress_15 (by decide) ?_
    refine lv_istore_n (lv' := [(2, .int (-1)), (0, .ref y0), (1, .int p1)]) hx hb dX11_dress_16 rfl hl (by decide) rfl (fun ls hl => ?_)
    refine lv_iconst (v := 0) hx hb dX11_dress_17 (by decide) ?_
    refine lv_istore_n (lv' := [(3, .int 0), (2, .int (-1)), (0, .ref y0), (1, .int p1)]) hx hb dX11_dress_18 rfl hl (by decide) rfl (fun ls hl => ?_)
    refine lv_iconst (v := 0) hx hb dX11_dress_19 (by decide) ?_
    refine lv_istore (lv' := [(4, .int 0), (3, .int 0), (2, .int (-1)), (0, .ref y0), (1, .int p1)]) hx hb dX11_dress_20 hl (by decide) rfl (fun ls hl => ?_)
    have lp10 : ∀ (n10 : Nat) (l2_10 : Int32) (l3_10 : Int32) (l4_10 : Int32) (v10 : Nat → Int32) (f10 : Nat → Nat → Int32) (w10 : Int64) (g10 : Nat → Int64), YI v10 → YC f10 → progOK (f10 4) (f10 5) (v10 9).toInt.toNat → v10 0 = (v 0) → v10 1 = (v 1) → v10 2 = (v 2) → v10 3 = (v 3) → v10 4 = (v 4) → v10 5 = (v 5) → v10 8 = (v 8) → v10 9 = (v 9) → v10 10 = (v 10) → v10 13 = (v 13) → v10 14 = (v 14) → v10 15 = (v 15) → v10 17 = (v 17) → v10 18 = (v 18) → v10 24 = (v 24) → v10 25 = (v 25) → v10 35 = (v 35) → v10 36 = (v 36) → v10 38 = (v 38) → v10 39 = (v 39) → ((0 : Int) ≤ l4_10.toInt ∧ l4_10.toInt ≤ 2147483647) → KV [37] v10 v → KF [7, 8, 24, 26, 27, 28] f10 f → (2147483647 - l4_10.toInt).toNat < n10 → ∀ (H : Heap) (locs : List Loc) (ls : Array Slot), va_P (dC, dI) vwCl (YW cy y0 r v10 f10 w10 g10) H → va_D A (YW cy y0 r v10 f10 w10 g10) → va_S A s.heap H locs → lv_has ls 7 [(4, .int l4_10), (3, .int l3_10), (2, .int l2_10), (0, .ref y0), (1, .int p1)] → W p l e { frames := 5, cells := 0, slots := 0, locals := 148 } s m ([.ref y0, .int p1] : List Value).toArray below meth c H locs 0 0 Q (F0 m 22 ls []) := by
      intro n10
      induction n10 with
      | zero => intro l2_10 l3_10 l4_10 v10 f10 w10 g10 hIv10 hCf10 hRf10 hq0_v10 hq1_v10 hq2_v10 hq3_v10 hq4_v10 hq5_v10 hq8_v10 hq9_v10 hq10_v10 hq13_v10 hq14_v10 hq15_v10 hq17_v10 hq18_v10 hq24_v10 hq25_v10 hq35_v10 hq36_v10 hq38_v10 hq39_v10 hr4_10 hM_v10 hA_f10 hm; exact absurd hm (Nat.not_lt_zero _)
      | succ n10 ih10 =>
        intro l2_10 l3_10 l4_10 v10 f10 w10 g10 hIv10 hCf10 hRf10 hq0_v10 hq1_v10 hq2_v10 hq3_v10 hq4_v10 hq5_v10 hq8_v10 hq9_v10 hq10_v10 hq13_v10 hq14_v10 hq15_v10 hq17_v10 hq18_v10 hq24_v10 hq25_v10 hq35_v10 hq36_v10 hq38_v10 hq39_v10 hr4_10 hM_v10 hA_f10 hm10 H locs ls hP hD hS hl
        have hUv10 : (v10 35).toInt + (v10 36).toInt ≤ 40 := hIv10.2
        have zq9_v10 := congrArg Int32.toInt hq9_v10
        refine lv_iload hx hb dX11_dress_22 (lv_at hl 0 rfl) ?_
        refine lv_aload_n hx hb dX11_dress_24 rfl (lv_at hl 3 rfl) ?_
        refine va_get (D := (dC, dI)) (ci := 11) (v := .int (v10 25)) (C := RX11) (T := TX11) (N := 79) hx hb hts inB_11 hown hE.1 hP 0 rfl rfl 49 (by decide) (hts _ k_1369) (fun _ h9 => h9) rfl dX11_dress_25 ?_
        refine tI (y := (v 25)) hq25_v10 ?_
        have b25_v : 0 ≤ (v 25).toInt ∧ (v 25).toInt ≤ 6 := YIb.b hIv.1 25 (by decide)
        refine lv_iconst (v := 1) hx hb dX11_dress_28 (by decide) ?_
        refine lv_iadd hx hb dX11_dress_29 ?_
        refine lv_topi (fun t11 et11 => ?_)
        have rg12 := fb_rng (v 25)
        have zt11 : t11.toInt = (v 25).toInt + 1 := by rw [et11]; exact add_i rfl (by decide) (by omega) (by omega)
        refine lv_aload_n hx hb dX11_dress_30 rfl (lv_at hl 3 rfl) ?_
        refine va_get (D := (dC, dI)) (ci := 11) (v := .int (v10 24)) (C := RX11) (T := TX11) (N := 79) hx hb hts inB_11 hown hE.1 hP 0 rfl rfl 48 (by decide) (hts _ k_1368) (fun _ h9 => h9) rfl dX11_dress_31 ?_
        refine tI (y := (v 24)) hq24_v10 ?_
        have b24_v : 0 ≤ (v 24).toInt ∧ (v 24).toInt ≤ 6 := YIb.b hIv.1 24 (by decide)
        refine cbSi (n := 2) (rest := [.int l4_10]) hx hb hml hown hts hE hP hD hS hA (sY_X11_power_1 0 l dC dI cy y0 r t11 (v 24) v10 f10 w10 g10 hIv10 hCf10 hRf10 ) k_1877 k_1878 k_114 k_1879 (by decide +kernel) ⟨Nat.le_of_ble_eq_true rfl, Nat.le_of_ble_eq_true rfl⟩ (rfl) hl.1 rfl (Nat.le_of_ble_eq_true rfl) dX11_dress_34 (fun r13 u H locs hw hP hD hS => ?_)
        have hG14 := hw
        refine lv_icmp_ge (tgt := 122) hx hb dX11_dress_37 (by decide) (fun c15 => ?_) (fun c15 => ?_)
        · skip
          have zc15 : r13.toInt ≤ l4_10.toInt := by rw [fa_le] at c15; exact c15
          have rg16 := fb_rng l4_10
          have rg17 := fb_rng r13
          refine lv_aload_n hx hb dX11_dress_122 rfl (lv_at hl 3 rfl) ?_
          refine lv_aload_n hx hb dX11_dress_123 rfl (lv_at hl 3 rfl) ?_
          refine va_get (D := (dC, dI)) (ci := 11) (v := .int (v10 24)) (C := RX11) (T := TX11) (N := 79) hx hb hts inB_11 hown hE.1 hP 0 rfl rfl 48 (by decide) (hts _ k_1368) (fun _ h9 => h9) rfl dX11_dress_124 ?_
          refine tI (y := (v 24)) hq24_v10 ?_
          refine va_put (D := (dC, dI)) (ci := 11) (v := .int (v 24)) (ty := tyX11 67) (C := RX11) (T := TX11) (N := 79) hx hb hts inB_11 tyX11 tyX11_ok nmX11 hown hE.1 hP hD hS 0 rfl rfl 67 (by decide) (hts _ k_1387) (fun _ h9 => h9) rfl (tyX11_ok 67 (by decide)) rfl rfl (Nat.le_of_ble_eq_true rfl) dX11_dress_127 (fun H locs hP hD hS => ?_)
          have hP : va_P (dC, dI) vwCl (YW cy y0 r (upd v10 37 (v 24)) f10 w10 g10) H := hP
          have hD : va_D A (YW cy y0 r (upd v10 37 (v 24)) f10 w10 g10) := hD
          refine lv_iload_n hx hb dX11_dress_130 rfl (lv_at hl 4 rfl) ?_
          refine lv_if_ne (tgt := 138) hx hb dX11_dress_131 (by decide) (fun c18 => ?_) (fun c18 => ?_)
          · skip
            have zc18 : ¬ (p1.toInt = 0) := by rw [fa_eq, show (0 : Int32).toInt = 0 from by decide] at c18; exact c18
            refine lv_iload_n hx hb dX11_dress_138 rfl (lv_at hl 1 rfl) ?_
            exact ret l3_10 ((upd v10 37 (v 24)), f10, w10, g10) _ _ _ _ _ _ rfl ⟨(KV.up (j := 37) (x := (v 24)) hM_v10 rfl), hA_f10, ⟨(YIb.upd (j := 37) (x := (v 24)) hIv10.1 (show (0 : Int) ≤ (v 24).toInt by omega) (show (v 24).toInt ≤ (6 : Int) by omega)), hIv10.2⟩, hCf10, hRf10, hq0_v10, hq1_v10, hq2_v10, hq3_v10, hq4_v10, hq5_v10, hq8_v10, hq9_v10, hq10_v10, hq13_v10, hq14_v10, hq15_v10, hq17_v10, hq18_v10, hq24_v10, hq25_v10, hq35_v10, hq36_v10, hq38_v10, hq39_v10⟩ hP hD hS dX11_dress_139 (Nat.le_refl _) (Nat.le_refl _)
          · skip
            have zc18 : p1.toInt = 0 := by rw [fa_eq, show (0 : Int32).toInt = 0 from by decide] at c18; exact c18
            refine lv_iload_n hx hb dX11_dress_134 rfl (lv_at hl 2 rfl) ?_
            refine lv_goto (tgt := 139) hx hb dX11_dress_135 (by decide) ?_
            exact ret l2_10 ((upd v10 37 (v 24)), f10, w10, g10) _ _ _ _ _ _ rfl ⟨(KV.up (j := 37) (x := (v 24)) hM_v10 rfl), hA_f10, ⟨(YIb.upd (j := 37) (x := (v 24)) hIv10.1 (show (0 : Int) ≤ (v 24).toInt by omega) (show (v 24).toInt ≤ (6 : Int) by omega)), hIv10.2⟩, hCf10, hRf10, hq0_v10, hq1_v10, hq2_v10, hq3_v10, hq4_v10, hq5_v10, hq8_v10, hq9_v10, hq10_v10, hq13_v10, hq14_v10, hq15_v10, hq17_v10, hq18_v10, hq24_v10, hq25_v10, hq35_v10, hq36_v10, hq38_v10, hq39_v10⟩ hP hD hS dX11_dress_139 (Nat.le_refl _) (Nat.le_refl _)
        · skip
          have zc15 : ¬ (r13.toInt ≤ l4_10.toInt) := by rw [fa_le] at c15; exact c15
          have rg19 := fb_rng l4_10
          have rg20 := fb_rng r13
          refine lv_aload_n hx hb dX11_dress_40 rfl (lv_at hl 3 rfl) ?_
          refine lv_iload hx hb dX11_dress_41 (lv_at hl 0 rfl) ?_
          refine cbVi (n := 1) (rest := []) hx hb hml hown hts hE hP hD hS hA (sY_X11_layDress_1 l dC dI cy y0 r l4_10 v10 f10 w10 g10 hIv10 hCf10 hRf10 ⟨show (0 : Int) ≤ l4_10.toInt by omega, show l4_10.toInt ≤ (2147483647 : Int) by omega⟩) k_1880 k_1882 k_85 k_114 k_1883 (by decide +kernel) ⟨Nat.le_of_ble_eq_true rfl, Nat.le_of_ble_eq_true rfl⟩ 0 11 rfl rfl (rfl) hl.1 rfl (Nat.le_of_ble_eq_true rfl) dX11_dress_43 (fun r21 u H locs hw hP hD hS => ?_)
          obtain ⟨v22, f23, w24, g25⟩ := u
          obtain ⟨kV_v22, kF_f23, hIv22, hCf23, hRf23, hk0_v22, hk1_v22, hk2_v22, hk3_v22, hk4_v22, hk5_v22, hk8_v22, hk9_v22, hk10_v22, hk13_v22, hk14_v22, hk15_v22, hk17_v22, hk18_v22, hk24_v22, hk25_v22, hk35_v22, hk36_v22, hk38_v22, hk39_v22⟩ := hw
          have hM_v22 : KV [37] v22 v := KV.tr kV_v22 hM_v10 rfl
          have hA_f23 : KF [7, 8, 24, 26, 27, 28] f23 f := KF.tr kF_f23 hA_f10 rfl
          have hP : va_P (dC, dI) vwCl (YW cy y0 r v22 f23 w24 g25) H := hP
          have hD : va_D A (YW cy y0 r v22 f23 w24 g25) := hD
          have hUv22 : (v22 35).toInt + (v22 36).toInt ≤ 40 := hIv22.2
          have hq0_v22 : v22 0 = (v 0) := hk0_v22.trans hq0_v10
          have hq1_v22 : v22 1 = (v 1) := hk1_v22.trans hq1_v10
          have hq2_v22 : v22 2 = (v 2) := hk2_v22.trans hq2_v10
          have hq3_v22 : v22 3 = (v 3) := hk3_v22.trans hq3_v10
          have hq4_v22 : v22 4 = (v 4) := hk4_v22.trans hq4_v10
          have hq5_v22 : v22 5 = (v 5) := hk5_v22.trans hq5_v10
          have hq8_v22 : v22 8 = (v 8) := hk8_v22.trans hq8_v10
          have hq9_v22 : v22 9 = (v 9) := hk9_v22.trans hq9_v10
          have zq9_v22 := congrArg Int32.toInt hq9_v22
          have hq10_v22 : v22 10 = (v 10) := hk10_v22.trans hq10_v10
          have hq13_v22 : v22 13 = (v 13) := hk13_v22.trans hq13_v10
          have hq14_v22 : v22 14 = (v 14) := hk14_v22.trans hq14_v10
          have hq15_v22 : v22 15 = (v 15) := hk15_v22.trans hq15_v10
          have hq17_v22 : v22 17 = (v 17) := hk17_v22.trans hq17_v10
          have hq18_v22 : v22 18 = (v 18) := hk18_v22.trans hq18_v10
          have hq24_v22 : v22 24 = (v 24) := hk24_v22.trans hq24_v10
          have hq25_v22 : v22 25 = (v 25) := hk25_v22.trans hq25_v10
          have hq35_v22 : v22 35 = (v 35) := hk35_v22.trans hq35_v10
          have hq36_v22 : v22 36 = (v 36) := hk36_v22.trans hq36_v10
          have hq38_v22 : v22 38 = (v 38) := hk38_v22.trans hq38_v10
          have hq39_v22 : v22 39 = (v 39) := hk39_v22.trans hq39_v10
          refine lv_istore (lv' := [(5, .int r21), (4, .int l4_10), (3, .int l3_10), (2, .int l2_10), (0, .ref y0), (1, .int p1)]) hx hb dX11_dress_46 hl (by decide) rfl (fun ls hl => ?_)
          refine lv_iload hx hb dX11_dress_48 (lv_at hl 0 rfl) ?_
          refine lv_if_lt (tgt := 116) hx hb dX11_dress_50 (by decide) (fun c26 => ?_) (fun c26 => ?_)
          · skip
            have zc26 : r21.toInt < 0 := by rw [fa_lt, show (0 : Int32).toInt = 0 from by decide] at c26; exact c26
            obtain ⟨t27, et27⟩ : ∃ y : Int32, y = l4_10 + 1 := ⟨_, rfl⟩
            have zt27 : t27.toInt = l4_10.toInt + 1 := by rw [et27]; exact add_i rfl (by decide) (by omega) (by omega)
            refine lv_iinc (v := t27) (lv' := [(4, .int t27), (5, .int r21), (3, .int l3_10), (2, .int l2_10), (0, .ref y0), (1, .int p1)]) hx hb dX11_dress_116 hl (k := 1) rfl (by rw [et27]; rfl) (by decide) rfl (fun ls hl => ?_)
            refine lv_goto (tgt := 22) hx hb dX11_dress_119 (by decide) ?_
            have rg28 := fb_rng t27
            exact ih10 l2_10 l3_10 t27 v22 f23 w24 g25 hIv22 hCf23 hRf23 hq0_v22 hq1_v22 hq2_v22 hq3_v22 hq4_v22 hq5_v22 hq8_v22 hq9_v22 hq10_v22 hq13_v22 hq14_v22 hq15_v22 hq17_v22 hq18_v22 hq24_v22 hq25_v22 hq35_v22 hq36_v22 hq38_v22 hq39_v22 ⟨show (0 : Int) ≤ t27.toInt by omega, show t27.toInt ≤ (2147483647 : Int) by omega⟩ hM_v22 hA_f23 (by show (2147483647 - t27.toInt).toNat < n10; omega) _ _ _ hP hD hS (lv_sub hl [0, 2, 3, 4, 5] rfl)
          · skip
            have zc26 : ¬ (r21.toInt < 0) := by rw [fa_lt, show (0 : Int32).toInt = 0 from by decide] at c26; exact c26
            refine lv_iload hx hb dX11_dress_53 (lv_at hl 0 rfl) ?_
            refine lv_iload_n hx hb dX11_dress_55 rfl (lv_at hl 3 rfl) ?_
            refine lv_icmp_lt (tgt := 116) hx hb dX11_dress_56 (by decide) (fun c29 => ?_) (fun c29 => ?_)
            · skip
              have zc29 : r21.toInt < l2_10.toInt := by rw [fa_lt] at c29; exact c29
              have rg30 := fb_rng r21
              have rg31 := fb_rng l2_10
              obtain ⟨t32, et32⟩ : ∃ y : Int32, y = l4_10 + 1 := ⟨_, rfl⟩
              have zt32 : t32.toInt = l4_10.toInt + 1 := by rw [et32]; exact add_i rfl (by decide) (by omega) (by omega)
              refine lv_iinc (v := t32) (lv' := [(4, .int t32), (5, .int r21), (3, .int l3_10), (2, .int l2_10), (0, .ref y0), (1, .int p1)]) hx hb dX11_dress_116 hl (k := 1) rfl (by rw [et32]; rfl) (by decide) rfl (fun ls hl => ?_)
              refine lv_goto (tgt := 22) hx hb dX11_dress_119 (by decide) ?_
              have rg33 := fb_rng t32
              exact ih10 l2_10 l3_10 t32 v22 f23 w24 g25 hIv22 hCf23 hRf23 hq0_v22 hq1_v22 hq2_v22 hq3_v22 hq4_v22 hq5_v22 hq8_v22 hq9_v22 hq10_v22 hq13_v22 hq14_v22 hq15_v22 hq17_v22 hq18_v22 hq24_v22 hq25_v22 hq35_v22 hq36_v22 hq38_v22 hq39_v22 ⟨show (0 : Int) ≤ t32.toInt by omega, show t32.toInt ≤ (2147483647 : Int) by omega⟩ hM_v22 hA_f23 (by show (2147483647 - t32.toInt).toNat < n10; omega) _ _ _ hP hD hS (lv_sub hl [0, 2, 3, 4, 5] rfl)
            · skip
              have zc29 : ¬ (r21.toInt < l2_10.toInt) := by rw [fa_lt] at c29; exact c29
              have rg34 := fb_rng r21
              have rg35 := fb_rng l2_10
              refine lv_iload hx hb dX11_dress_59 (lv_at hl 0 rfl) ?_
              refine lv_iload_n hx hb dX11_dress_61 rfl (lv_at hl 3 rfl) ?_
              refine lv_icmp_ne (tgt := 76) hx hb dX11_dress_62 (by decide) (fun c36 => ?_) (fun c36 => ?_)
              · skip
                have zc36 : ¬ (r21.toInt = l2_10.toInt) := by rw [fa_eq] at c36; exact c36
                refine lv_iload hx hb dX11_dress_76 (lv_at hl 0 rfl) ?_
                refine lv_istore_n (lv' := [(2, .int r21), (5, .int r21), (4, .int l4_10), (3, .int l3_10), (0, .ref y0), (1, .int p1)]) hx hb dX11_dress_78 rfl hl (by decide) rfl (fun ls hl => ?_)
                refine lv_aload_n hx hb dX11_dress_79 rfl (lv_at hl 4 rfl) ?_
                refine cbVi (n := 0) (rest := []) hx hb hml hown hts hE hP hD hS hA (sY_X11_illOfRow_1 l dC dI cy y0 r  v22 f23 w24 g25 hIv22 hCf23 hRf23 ) k_1884 k_1886 k_86 k_114 k_1887 (by decide +kernel) ⟨Nat.le_of_ble_eq_true rfl, Nat.le_of_ble_eq_true rfl⟩ 0 11 rfl rfl (rfl) hl.1 rfl (Nat.le_of_ble_eq_true rfl) dX11_dress_80 (fun r37 u H locs hw hP hD hS => ?_)
                refine lv_istore_n (lv' := [(3, .int r37), (2, .int r21), (5, .int r21), (4, .int l4_10), (0, .ref y0), (1, .int p1)]) hx hb dX11_dress_83 rfl hl (by decide) rfl (fun ls hl => ?_)
                refine lv_iconst (v := 0) hx hb dX11_dress_84 (by decide) ?_
                refine lv_istore (lv' := [(6, .int 0), (3, .int r37), (2, .int r21), (5, .int r21), (4, .int l4_10), (0, .ref y0), (1, .int p1)]) hx hb dX11_dress_85 hl (by decide) rfl (fun ls hl => ?_)
                have lp38 : ∀ (n38 : Nat) (l6_38 : Int32) (v38 : Nat → Int32) (f38 : Nat → Nat → Int32) (w38 : Int64) (g38 : Nat → Int64), YI v38 → YC f38 → progOK (f38 4) (f38 5) (v38 9).toInt.toNat → v38 0 = (v 0) → v38 1 = (v 1) → v38 2 = (v 2) → v38 3 = (v 3) → v38 4 = (v 4) → v38 5 = (v 5) → v38 8 = (v 8) → v38 9 = (v 9) → v38 10 = (v 10) → v38 13 = (v 13) → v38 14 = (v 14) → v38 15 = (v 15) → v38 17 = (v 17) → v38 18 = (v 18) → v38 24 = (v 24) → v38 25 = (v 25) → v38 35 = (v 35) → v38 36 = (v 36) → v38 38 = (v 38) → v38 39 = (v 39) → ((0 : Int) ≤ l6_38.toInt ∧ l6_38.toInt ≤ 2147483647) → KV [37] v38 v → KF [7, 8, 24, 26, 27, 28] f38 f → (2147483647 - l6_38.toInt).toNat < n38 → ∀ (H : Heap) (locs : List Loc) (ls : Array Slot), va_P (dC, dI) vwCl (YW cy y0 r v38 f38 w38 g38) H → va_D A (YW cy y0 r v38 f38 w38 g38) → va_S A s.heap H locs → lv_has ls 7 [(6, .int l6_38), (3, .int r37), (2, .int r21), (5, .int r21), (4, .int l4_10), (0, .ref y0), (1, .int p1)] → W p l e { frames := 5, cells := 0, slots := 0, locals := 148 } s m ([.ref y0, .int p1] : List Value).toArray below meth c H locs 0 0 Q (F0 m 87 ls []) := by
                  intro n38
                  induction n38 with
                  | zero => intro l6_38 v38 f38 w38 g38 hIv38 hCf38 hRf38 hq0_v38 hq1_v38 hq2_v38 hq3_v38 hq4_v38 hq5_v38 hq8_v38 hq9_v38 hq10_v38 hq13_v38 hq14_v38 hq15_v38 hq17_v38 hq18_v38 hq24_v38 hq25_v38 hq35_v38 hq36_v38 hq38_v38 hq39_v38 hr6_38 hM_v38 hA_f38 hm; exact absurd hm (Nat.not_lt_zero _)
                  | succ n38 ih38 =>
                    intro l6_38 v38 f38 w38 g38 hIv38 hCf38 hRf38 hq0_v38 hq1_v38 hq2_v38 hq3_v38 hq4_v38 hq5_v38 hq8_v38 hq9_v38 hq10_v38 hq13_v38 hq14_v38 hq15_v38 hq17_v38 hq18_v38 hq24_v38 hq25_v38 hq35_v38 hq36_v38 hq38_v38 hq39_v38 hr6_38 hM_v38 hA_f38 hm38 H locs ls hP hD hS hl
                    have hUv38 : (v38 35).toInt + (v38 36).toInt ≤ 40 := hIv38.2
                    have zq9_v38 := congrArg Int32.toInt hq9_v38
                    refine lv_iload hx hb dX11_dress_87 (lv_at hl 0 rfl) ?_
                    refine lv_aload_n hx hb dX11_dress_89 rfl (lv_at hl 5 rfl) ?_
                    refine va_get (D := (dC, dI)) (ci := 11) (v := .int (v38 24)) (C := RX11) (T := TX11) (N := 79) hx hb hts inB_11 hown hE.1 hP 0 rfl rfl 48 (by decide) (hts _ k_1368) (fun _ h9 => h9) rfl dX11_dress_90 ?_
                    refine tI (y := (v 24)) hq24_v38 ?_
                    have b24_v : 0 ≤ (v 24).toInt ∧ (v 24).toInt ≤ 6 := YIb.b hIv.1 24 (by decide)
                    refine lv_icmp_ge (tgt := 116) hx hb dX11_dress_93 (by decide) (fun c39 => ?_) (fun c39 => ?_)
                    · skip
                      have zc39 : (v 24).toInt ≤ l6_38.toInt := by rw [fa_le] at c39; exact c39
                      have rg40 := fb_rng l6_38
                      have rg41 := fb_rng (v 24)
                      obtain ⟨t42, et42⟩ : ∃ y : Int32, y = l4_10 + 1 := ⟨_, rfl⟩
                      have zt42 : t42.toInt = l4_10.toInt + 1 := by rw [et42]; exact add_i rfl (by decide) (by omega) (by omega)
                      refine lv_iinc (v := t42) (lv' := [(4, .int t42), (6, .int l6_38), (3, .int r37), (2, .int r21), (5, .int r21), (0, .ref y0), (1, .int p1)]) hx hb dX11_dress_116 hl (k := 4) rfl (by rw [et42]; rfl) (by decide) rfl (fun ls hl => ?_)
                      refine lv_goto (tgt := 22) hx hb dX11_dress_119 (by decide) ?_
                      have rg43 := fb_rng t42
                      exact ih10 r21 r37 t42 v38 f38 w38 g38 hIv38 hCf38 hRf38 hq0_v38 hq1_v38 hq2_v38 hq3_v38 hq4_v38 hq5_v38 hq8_v38 hq9_v38 hq10_v38 hq13_v38 hq14_v38 hq15_v38 hq17_v38 hq18_v38 hq24_v38 hq25_v38 hq35_v38 hq36_v38 hq38_v38 hq39_v38 ⟨show (0 : Int) ≤ t42.toInt by omega, show t42.toInt ≤ (2147483647 : Int) by omega⟩ hM_v38 hA_f38 (by show (2147483647 - t42.toInt).toNat < n10; omega) _ _ _ hP hD hS (lv_sub hl [0, 2, 3, 5, 6] rfl)
                    · skip
                      have zc39 : ¬ ((v 24).toInt ≤ l6_38.toInt) := by rw [fa_le] at c39; exact c39
                      have rg44 := fb_rng l6_38
                      have rg45 := fb_rng (v 24)
                      refine lv_aload_n hx hb dX11_dress_96 rfl (lv_at hl 5 rfl) ?_
                      refine va_get (D := (dC, dI)) (ci := 11) (v := .ref (r 64)) (C := RX11) (T := TX11) (N := 79) hx hb hts inB_11 hown hE.1 hP 0 rfl rfl 64 (by decide) (hts _ k_1384) (fun _ h9 => h9) rfl dX11_dress_97 ?_
                      refine lv_iload hx hb dX11_dress_100 (lv_at hl 0 rfl) ?_
                      refine lv_aload_n hx hb dX11_dress_102 rfl (lv_at hl 5 rfl) ?_
                      refine va_get (D := (dC, dI)) (ci := 11) (v := .ref (r 65)) (C := RX11) (T := TX11) (N := 79) hx hb hts inB_11 hown hE.1 hP 0 rfl rfl 65 (by decide) (hts _ k_1385) (fun _ h9 => h9) rfl dX11_dress_103 ?_
                      refine lv_iload hx hb dX11_dress_106 (lv_at hl 0 rfl) ?_
                      refine ldI hx hb hE hP 28 rfl (vp_in_iff.mpr ⟨by omega, by omega⟩) rfl rfl dX11_dress_108 ?_
                      refine lv_topi (fun t46 et46 => ?_)
                      have zt46 : -1 ≤ t46.toInt ∧ t46.toInt ≤ 5 := by rw [et46]; exact hCf38.2.2.2.1 l6_38.toInt.toNat (show l6_38.toInt.toNat < 6 by omega)
                      refine stI hx hb hE hP hD hS 27 rfl (vp_in_iff.mpr ⟨by omega, by omega⟩) rfl dX11_dress_109 (fun H locs hP hD hS => ?_)
                      obtain ⟨f47, ef47, hP, hD⟩ : ∃ fz9, fz9 = upd2 f38 26 (upd (f38 26) l6_38.toNatClampNeg t46) ∧ va_P (dC, dI) vwCl (YW cy y0 r v38 fz9 w38 g38) H ∧ va_D A (YW cy y0 r v38 fz9 w38 g38) := ⟨_, rfl, hP, hD⟩
                      have hCf47 : YC f47 := by rw [ef47]; exact hCf38
                      have hRf47 : progOK (f47 4) (f47 5) (v38 9).toInt.toNat := by rw [ef47]; exact hRf38
                      have hA_f47 : KF [7, 8, 24, 26, 27, 28] f47 f := by rw [ef47]; exact KF.up hA_f38 rfl
                      obtain ⟨t48, et48⟩ : ∃ y : Int32, y = l6_38 + 1 := ⟨_, rfl⟩
                      have zt48 : t48.toInt = l6_38.toInt + 1 := by rw [et48]; exact add_i rfl (by decide) (by omega) (by omega)
                      refine lv_iinc (v := t48) (lv' := [(6, .int t48), (3, .int r37), (2, .int r21), (5, .int r21), (4, .int l4_10), (0, .ref y0), (1, .int p1)]) hx hb dX11_dress_110 hl (k := 0) rfl (by rw [et48]; rfl) (by decide) rfl (fun ls hl => ?_)
                      refine lv_goto (tgt := 87) hx hb dX11_dress_113 (by decide) ?_
                      have rg49 := fb_rng t48
                      exact ih38 t48 v38 f47 w38 g38 hIv38 hCf47 hRf47 hq0_v38 hq1_v38 hq2_v38 hq3_v38 hq4_v38 hq5_v38 hq8_v38 hq9_v38 hq10_v38 hq13_v38 hq14_v38 hq15_v38 hq17_v38 hq18_v38 hq24_v38 hq25_v38 hq35_v38 hq36_v38 hq38_v38 hq39_v38 ⟨show (0 : Int) ≤ t48.toInt by omega, show t48.toInt ≤ (2147483647 : Int) by omega⟩ hM_v38 hA_f47 (by show (2147483647 - t48.toInt).toNat < n38; omega) _ _ _ hP hD hS (lv_sub hl [0, 1, 2, 3, 4, 5, 6] rfl)
                exact lp38 _ 0 v22 f23 w24 g25 hIv22 hCf23 hRf23 hq0_v22 hq1_v22 hq2_v22 hq3_v22 hq4_v22 hq5_v22 hq8_v22 hq9_v22 hq10_v22 hq13_v22 hq14_v22 hq15_v22 hq17_v22 hq18_v22 hq24_v22 hq25_v22 hq35_v22 hq36_v22 hq38_v22 hq39_v22 ⟨by decide, by decide⟩ hM_v22 hA_f23 (Nat.lt_succ_self _) _ _ _ hP hD hS (lv_sub hl [0, 1, 2, 3, 4, 5, 6] rfl)
              · skip
                have zc36 : r21.toInt = l2_10.toInt := by rw [fa_eq] at c36; exact c36
                refine lv_aload_n hx hb dX11_dress_65 rfl (lv_at hl 4 rfl) ?_
                refine cbVi (n := 0) (rest := []) hx hb hml hown hts hE hP hD hS hA (sY_X11_illOfRow_1 l dC dI cy y0 r  v22 f23 w24 g25 hIv22 hCf23 hRf23 ) k_1884 k_1886 k_86 k_114 k_1887 (by decide +kernel) ⟨Nat.le_of_ble_eq_true rfl, Nat.le_of_ble_eq_true rfl⟩ 0 11 rfl rfl (rfl) hl.1 rfl (Nat.le_of_ble_eq_true rfl) dX11_dress_66 (fun r50 u H locs hw hP hD hS => ?_)
                refine lv_iload_n hx hb dX11_dress_69 rfl (lv_at hl 2 rfl) ?_
                refine lv_icmp_lt (tgt := 76) hx hb dX11_dress_70 (by decide) (fun c51 => ?_) (fun c51 => ?_)
                · skip
                  have zc51 : r50.toInt < l3_10.toInt := by rw [fa_lt] at c51; exact c51
                  have rg52 := fb_rng r50
                  have rg53 := fb_rng l3_10
                  refine lv_iload hx hb dX11_dress_76 (lv_at hl 0 rfl) ?_
                  refine lv_istore_n (lv' := [(2, .int r21), (5, .int r21), (4, .int l4_10), (3, .int l3_10), (0, .ref y0), (1, .int p1)]) hx hb dX11_dress_78 rfl hl (by decide) rfl (fun ls hl => ?_)
                  refine lv_aload_n hx hb dX11_dress_79 rfl (lv_at hl 4 rfl) ?_
                  refine cbVi (n := 0) (rest := []) hx hb hml hown hts hE hP hD hS hA (sY_X11_illOfRow_1 l dC dI cy y0 r  v22 f23 w24 g25 hIv22 hCf23 hRf23 ) k_1884 k_1886 k_86 k_114 k_1887 (by decide +kernel) ⟨Nat.le_of_ble_eq_true rfl, Nat.le_of_ble_eq_true rfl⟩ 0 11 rfl rfl (rfl) hl.1 rfl (Nat.le_of_ble_eq_true rfl) dX11_dress_80 (fun r54 u H locs hw hP hD hS => ?_)
                  refine lv_istore_n (lv' := [(3, .int r54), (2, .int r21), (5, .int r21), (4, .int l4_10), (0, .ref y0), (1, .int p1)]) hx hb dX11_dress_83 rfl hl (by decide) rfl (fun ls hl => ?_)
                  refine lv_iconst (v := 0) hx hb dX11_dress_84 (by decide) ?_
                  refine lv_istore (lv' := [(6, .int 0), (3, .int r54), (2, .int r21), (5, .int r21), (4, .int l4_10), (0, .ref y0), (1, .int p1)]) hx hb dX11_dress_85 hl (by decide) rfl (fun ls hl => ?_)
                  have lp55 : ∀ (n55 : Nat) (l6_55 : Int32) (v55 : Nat → Int32) (f55 : Nat → Nat → Int32) (w55 : Int64) (g55 : Nat → Int64), YI v55 → YC f55 → progOK (f55 4) (f55 5) (v55 9).toInt.toNat → v55 0 = (v 0) → v55 1 = (v 1) → v55 2 = (v 2) → v55 3 = (v 3) → v55 4 = (v 4) → v55 5 = (v 5) → v55 8 = (v 8) → v55 9 = (v 9) → v55 10 = (v 10) → v55 13 = (v 13) → v55 14 = (v 14) → v55 15 = (v 15) → v55 17 = (v 17) → v55 18 = (v 18) → v55 24 = (v 24) → v55 25 = (v 25) → v55 35 = (v 35) → v55 36 = (v 36) → v55 38 = (v 38) → v55 39 = (v 39) → ((0 : Int) ≤ l6_55.toInt ∧ l6_55.toInt ≤ 2147483647) → KV [37] v55 v → KF [7, 8, 24, 26, 27, 28] f55 f → (2147483647 - l6_55.toInt).toNat < n55 → ∀ (H : Heap) (locs : List Loc) (ls : Array Slot), va_P (dC, dI) vwCl (YW cy y0 r v55 f55 w55 g55) H → va_D A (YW cy y0 r v55 f55 w55 g55) → va_S A s.heap H locs → lv_has ls 7 [(6, .int l6_55), (3, .int r54), (2, .int r21), (5, .int r21), (4, .int l4_10), (0, .ref y0), (1, .int p1)] → W p l e { frames := 5, cells := 0, slots := 0, locals := 148 } s m ([.ref y0, .int p1] : List Value).toArray below meth c H locs 0 0 Q (F0 m 87 ls []) := by
                    intro n55
                    induction n55 with
                    | zero => intro l6_55 v55 f55 w55 g55 hIv55 hCf55 hRf55 hq0_v55 hq1_v55 hq2_v55 hq3_v55 hq4_v55 hq5_v55 hq8_v55 hq9_v55 hq10_v55 hq13_v55 hq14_v55 hq15_v55 hq17_v55 hq18_v55 hq24_v55 hq25_v55 hq35_v55 hq36_v55 hq38_v55 hq39_v55 hr6_55 hM_v55 hA_f55 hm; exact absurd hm (Nat.not_lt_zero _)
                    | succ n55 ih55 =>
                      intro l6_55 v55 f55 w55 g55 hIv55 hCf55 hRf55 hq0_v55 hq1_v55 hq2_v55 hq3_v55 hq4_v55 hq5_v55 hq8_v55 hq9_v55 hq10_v55 hq13_v55 hq14_v55 hq15_v55 hq17_v55 hq18_v55 hq24_v55 hq25_v55 hq35_v55 hq36_v55 hq38_v55 hq39_v55 hr6_55 hM_v55 hA_f55 hm55 H locs ls hP hD hS hl
                      have hUv55 : (v55 35).toInt + (v55 36).toInt ≤ 40 := hIv55.2
                      have zq9_v55 := congrArg Int32.toInt hq9_v55
                      refine lv_iload hx hb dX11_dress_87 (lv_at hl 0 rfl) ?_
                      refine lv_aload_n hx hb dX11_dress_89 rfl (lv_at hl 5 rfl) ?_
                      refine va_get (D := (dC, dI)) (ci := 11) (v := .int (v55 24)) (C := RX11) (T := TX11) (N := 79) hx hb hts inB_11 hown hE.1 hP 0 rfl rfl 48 (by decide) (hts _ k_1368) (fun _ h9 => h9) rfl dX11_dress_90 ?_
                      refine tI (y := (v 24)) hq24_v55 ?_
                      have b24_v : 0 ≤ (v 24).toInt ∧ (v 24).toInt ≤ 6 := YIb.b hIv.1 24 (by decide)
                      refine lv_icmp_ge (tgt := 116) hx hb dX11_dress_93 (by decide) (fun c56 => ?_) (fun c56 => ?_)
                      · skip
                        have zc56 : (v 24).toInt ≤ l6_55.toInt := by rw [fa_le] at c56; exact c56
                        have rg57 := fb_rng l6_55
                        have rg58 := fb_rng (v 24)
                        obtain ⟨t59, et59⟩ : ∃ y : Int32, y = l4_10 + 1 := ⟨_, rfl⟩
                        have zt59 : t59.toInt = l4_10.toInt + 1 := by rw [et59]; exact add_i rfl (by decide) (by omega) (by omega)
                        refine lv_iinc (v := t59) (lv' := [(4, .int t59), (6, .int l6_55), (3, .int r54), (2, .int r21), (5, .int r21), (0, .ref y0), (1, .int p1)]) hx hb dX11_dress_116 hl (k := 4) rfl (by rw [et59]; rfl) (by decide) rfl (fun ls hl => ?_)
                        refine lv_goto (tgt := 22) hx hb dX11_dress_119 (by decide) ?_
                        have rg60 := fb_rng t59
                        exact ih10 r21 r54 t59 v55 f55 w55 g55 hIv55 hCf55 hRf55 hq0_v55 hq1_v55 hq2_v55 hq3_v55 hq4_v55 hq5_v55 hq8_v55 hq9_v55 hq10_v55 hq13_v55 hq14_v55 hq15_v55 hq17_v55 hq18_v55 hq24_v55 hq25_v55 hq35_v55 hq36_v55 hq38_v55 hq39_v55 ⟨show (0 : Int) ≤ t59.toInt by omega, show t59.toInt ≤ (2147483647 : Int) by omega⟩ hM_v55 hA_f55 (by show (2147483647 - t59.toInt).toNat < n10; omega) _ _ _ hP hD hS (lv_sub hl [0, 2, 3, 5, 6] rfl)
                      · skip
                        have zc56 : ¬ ((v 24).toInt ≤ l6_55.toInt) := by rw [fa_le] at c56; exact c56
                        have rg61 := fb_rng l6_55
                        have rg62 := fb_rng (v 24)
                        refine lv_aload_n hx hb dX11_dress_96 rfl (lv_at hl 5 rfl) ?_
                        refine va_get (D := (dC, dI)) (ci := 11) (v := .ref (r 64)) (C := RX11) (T := TX11) (N := 79) hx hb hts inB_11 hown hE.1 hP 0 rfl rfl 64 (by decide) (hts _ k_1384) (fun _ h9 => h9) rfl dX11_dress_97 ?_
                        refine lv_iload hx hb dX11_dress_100 (lv_at hl 0 rfl) ?_
                        refine lv_aload_n hx hb dX11_dress_102 rfl (lv_at hl 5 rfl) ?_
                        refine va_get (D := (dC, dI)) (ci := 11) (v := .ref (r 65)) (C := RX11) (T := TX11) (N := 79) hx hb hts inB_11 hown hE.1 hP 0 rfl rfl 65 (by decide) (hts _ k_1385) (fun _ h9 => h9) rfl dX11_dress_103 ?_
                        refine lv_iload hx hb dX11_dress_106 (lv_at hl 0 rfl) ?_
                        refine ldI hx hb hE hP 28 rfl (vp_in_iff.mpr ⟨by omega, by omega⟩) rfl rfl dX11_dress_108 ?_
                        refine lv_topi (fun t63 et63 => ?_)
                        have zt63 : -1 ≤ t63.toInt ∧ t63.toInt ≤ 5 := by rw [et63]; exact hCf55.2.2.2.1 l6_55.toInt.toNat (show l6_55.toInt.toNat < 6 by omega)
                        refine stI hx hb hE hP hD hS 27 rfl (vp_in_iff.mpr ⟨by omega, by omega⟩) rfl dX11_dress_109 (fun H locs hP hD hS => ?_)
                        obtain ⟨f64, ef64, hP, hD⟩ : ∃ fz9, fz9 = upd2 f55 26 (upd (f55 26) l6_55.toNatClampNeg t63) ∧ va_P (dC, dI) vwCl (YW cy y0 r v55 fz9 w55 g55) H ∧ va_D A (YW cy y0 r v55 fz9 w55 g55) := ⟨_, rfl, hP, hD⟩
                        have hCf64 : YC f64 := by rw [ef64]; exact hCf55
                        have hRf64 : progOK (f64 4) (f64 5) (v55 9).toInt.toNat := by rw [ef64]; exact hRf55
                        have hA_f64 : KF [7, 8, 24, 26, 27, 28] f64 f := by rw [ef64]; exact KF.up hA_f55 rfl
                        obtain ⟨t65, et65⟩ : ∃ y : Int32, y = l6_55 + 1 := ⟨_, rfl⟩
                        have zt65 : t65.toInt = l6_55.toInt + 1 := by rw [et65]; exact add_i rfl (by decide) (by omega) (by omega)
                        refine lv_iinc (v := t65) (lv' := [(6, .int t65), (3, .int r54), (2, .int r21), (5, .int r21), (4, .int l4_10), (0, .ref y0), (1, .int p1)]) hx hb dX11_dress_110 hl (k := 0) rfl (by rw [et65]; rfl) (by decide) rfl (fun ls hl => ?_)
                        refine lv_goto (tgt := 87) hx hb dX11_dress_113 (by decide) ?_
                        have rg66 := fb_rng t65
                        exact ih55 t65 v55 f64 w55 g55 hIv55 hCf64 hRf64 hq0_v55 hq1_v55 hq2_v55 hq3_v55 hq4_v55 hq5_v55 hq8_v55 hq9_v55 hq10_v55 hq13_v55 hq14_v55 hq15_v55 hq17_v55 hq18_v55 hq24_v55 hq25_v55 hq35_v55 hq36_v55 hq38_v55 hq39_v55 ⟨show (0 : Int) ≤ t65.toInt by omega, show t65.toInt ≤ (2147483647 : Int) by omega⟩ hM_v55 hA_f64 (by show (2147483647 - t65.toInt).toNat < n55; omega) _ _ _ hP hD hS (lv_sub hl [0, 1, 2, 3, 4, 5, 6] rfl)
                  exact lp55 _ 0 v22 f23 w24 g25 hIv22 hCf23 hRf23 hq0_v22 hq1_v22 hq2_v22 hq3_v22 hq4_v22 hq5_v22 hq8_v22 hq9_v22 hq10_v22 hq13_v22 hq14_v22 hq15_v22 hq17_v22 hq18_v22 hq24_v22 hq25_v22 hq35_v22 hq36_v22 hq38_v22 hq39_v22 ⟨by decide, by decide⟩ hM_v22 hA_f23 (Nat.lt_succ_self _) _ _ _ hP hD hS (lv_sub hl [0, 1, 2, 3, 4, 5, 6] rfl)
                · skip
                  have zc51 : ¬ (r50.toInt < l3_10.toInt) := by rw [fa_lt] at c51; exact c51
                  have rg67 := fb_rng r50
                  have rg68 := fb_rng l3_10
                  refine lv_goto (tgt := 116) hx hb dX11_dress_73 (by decide) ?_
                  obtain ⟨t69, et69⟩ : ∃ y : Int32, y = l4_10 + 1 := ⟨_, rfl⟩
                  have zt69 : t69.toInt = l4_10.toInt + 1 := by rw [et69]; exact add_i rfl (by decide) (by omega) (by omega)
                  refine lv_iinc (v := t69) (lv' := [(4, .int t69), (5, .int r21), (3, .int l3_10), (2, .int l2_10), (0, .ref y0), (1, .int p1)]) hx hb dX11_dress_116 hl (k := 1) rfl (by rw [et69]; rfl) (by decide) rfl (fun ls hl => ?_)
                  refine lv_goto (tgt := 22) hx hb dX11_dress_119 (by decide) ?_
                  have rg70 := fb_rng t69
                  exact ih10 l2_10 l3_10 t69 v22 f23 w24 g25 hIv22 hCf23 hRf23 hq0_v22 hq1_v22 hq2_v22 hq3_v22 hq4_v22 hq5_v22 hq8_v22 hq9_v22 hq10_v22 hq13_v22 hq14_v22 hq15_v22 hq17_v22 hq18_v22 hq24_v22 hq25_v22 hq35_v22 hq36_v22 hq38_v22 hq39_v22 ⟨show (0 : Int) ≤ t69.toInt by omega, show t69.toInt ≤ (2147483647 : Int) by omega⟩ hM_v22 hA_f23 (by show (2147483647 - t69.toInt).toNat < n10; omega) _ _ _ hP hD hS (lv_sub hl [0, 2, 3, 4, 5] rfl)
    exact lp10 _ (-1) 0 0 v6 f7 w8 g9 hIv6 hCf7 hRf7 hq0_v6 hq1_v6 hq2_v6 hq3_v6 hq4_v6 hq5_v6 hq8_v6 hq9_v6 hq10_v6 hq13_v6 hq14_v6 hq15_v6 hq17_v6 hq18_v6 hq24_v6 hq25_v6 hq35_v6 hq36_v6 hq38_v6 hq39_v6 ⟨by decide, by decide⟩ hM_v6 hA_f7 (Nat.lt_succ_self _) _ _ _ hP hD hS (lv_sub hl [0, 1, 2, 3, 4] rfl)
  · skip
    subst g5
    refine lv_if_ne (tgt := 11) hx hb dX11_dress_6 (by decide) (fun c0 => absurd (by decide) c0) (fun _ => ?_)
    refine lv_iconst (v := (-1)) hx hb dX11_dress_9 (by decide) ?_
    exact ret (-1) (v, f, w, g) _ _ _ _ _ _ rfl ⟨hM_v, hA_f, hIv, hCf, hRf, rfl, rfl, rfl, rfl, rfl, rfl, rfl, rfl, rfl, rfl, rfl, rfl, rfl, rfl, rfl, rfl, rfl, rfl, rfl, rfl⟩ hP hD hS dX11_dress_10 (Nat.le_refl _) (Nat.le_refl _)
