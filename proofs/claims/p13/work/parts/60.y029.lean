set_option maxHeartbeats 4000000 in
set_option maxRecDepth 100000 in
theorem sY_X11_hem_1 (NF : Nat) (l : Launch) (dC : Nat → ClassId) (dI : Nat → Nat → Nat) (cy : Nat → ClassId) (y0 : Nat) (r : Nat → Nat) (p1 : Int32) (p2 : Int32) (v : Nat → Int32) (f : Nat → Nat → Int32) (w : Int64) (g : Nat → Int64) (hIv : YI v) (hCf : YC f) (hRf : progOK (f 4) (f 5) (v 9).toInt.toNat)  : ctI l (dC, dI) cy yX11_hem cX11_hem 3 .int 3 103 0 0 ((Nat → Int32) × (Nat → Nat → Int32) × (Int64) × (Nat → Int64)) [.ref y0, .int p1, .int p2] (YW cy y0 r v f w g) (fun r u => gsY_X11_hem_1 NF p1 p2 v f w g = (r, u) ∧ KV [35, 36] u.1 v ∧ KF [23, 24, 25] u.2.1 f ∧ YI u.1 ∧ YC u.2.1 ∧ progOK (u.2.1 4) (u.2.1 5) (u.1 9).toInt.toNat ∧ u.1 0 = v 0 ∧ u.1 1 = v 1 ∧ u.1 2 = v 2 ∧ u.1 3 = v 3 ∧ u.1 4 = v 4 ∧ u.1 5 = v 5 ∧ u.1 8 = v 8 ∧ u.1 9 = v 9 ∧ u.1 10 = v 10 ∧ u.1 13 = v 13 ∧ u.1 14 = v 14 ∧ u.1 15 = v 15 ∧ u.1 17 = v 17 ∧ u.1 18 = v 18 ∧ u.1 24 = v 24 ∧ u.1 25 = v 25 ∧ u.1 38 = v 38 ∧ u.1 39 = v 39) (fun u => YW cy y0 r u.1 u.2.1 u.2.2.1 u.2.2.2) := by
  refine ctI_of (by decide) (Nat.le_of_ble_eq_true rfl) (fun p e s m below meth c A ls Q hx hb hml hts hown hE hP hD hA hl ret => ?_)
  have hUv : (v 35).toInt + (v 36).toInt ≤ 40 := hIv.2
  have hM_v : KV [35, 36] v v := fun _ _ => rfl
  have hA_f : KF [23, 24, 25] f f := fun _ _ => rfl
  have hown : s.vm.findClass RX11 = some m.cls := hown
  have hS : va_S A s.heap s.heap [] := va_S.rf
  have hl : lv_has ls 3 [(0, .ref y0), (1, .int p1), (2, .int p2)] := hl
  refine lv_aload_n hx hb dX11_hem_0 rfl (lv_at hl 0 rfl) ?_
  refine lv_iload_n hx hb dX11_hem_1 rfl (lv_at hl 1 rfl) ?_
  refine cbVi (n := 1) (rest := []) hx hb hml hown hts hE hP hD hS hA (sY_X11_isCoat_1 NF l dC dI cy y0 r p1 v f w g hIv hCf hRf ) k_1771 k_1773 k_75 k_114 k_1774 (by decide +kernel) ⟨Nat.le_of_ble_eq_true rfl, Nat.le_of_ble_eq_true rfl⟩ 0 11 rfl rfl (rfl) hl.1 rfl (Nat.le_of_ble_eq_true rfl) dX11_hem_2 (fun r1 u H locs hw hP hD hS => ?_)
  obtain ⟨hG2, hw⟩ := hw
  rcases hw with ⟨g3, g3_0, g3_1, g3_2⟩ | ⟨g3⟩
  · skip
    subst g3
    refine lv_if_eq (tgt := 25) hx hb dX11_hem_5 (by decide) (fun c0 => absurd c0 (by decide)) (fun _ => ?_)
    refine lv_iload_n hx hb dX11_hem_8 rfl (lv_at hl 2 rfl) ?_
    refine lv_iconst (v := 1) hx hb dX11_hem_9 (by decide) ?_
    refine lv_aload_n hx hb dX11_hem_10 rfl (lv_at hl 0 rfl) ?_
    refine va_get (D := (dC, dI)) (ci := 11) (v := .ref (r 59)) (C := RX11) (T := TX11) (N := 79) hx hb hts inB_11 hown hE.1 hP 0 rfl rfl 59 (by decide) (hts _ k_1379) (fun _ h9 => h9) rfl dX11_hem_11 ?_
    refine lv_bipush (v := 12) hx hb dX11_hem_14 (by decide) ?_
    refine lv_iload_n hx hb dX11_hem_16 rfl (lv_at hl 1 rfl) ?_
    refine lv_iadd hx hb dX11_hem_17 ?_
    refine lv_topi (fun t4 et4 => ?_)
    have rg5 := fb_rng p1
    have zt4 : t4.toInt = 12 + p1.toInt := by rw [et4]; exact add_i (by decide) rfl (by omega) (by omega)
    refine ldI hx hb hE hP 24 rfl (vp_in_iff.mpr ⟨by omega, by omega⟩) rfl rfl dX11_hem_18 ?_
    refine lv_topi (fun t6 et6 => ?_)
    have zt6 : t4.toInt.toNat % 39 < 6 ∨ 12 ≤ t4.toInt.toNat % 39 ∨ (-1 ≤ t6.toInt ∧ t6.toInt ≤ 5) := by rw [et6]; exact wear_ld hCf.1 (show t4.toInt.toNat < 39 by omega)
    have lt7 : (1 : Int32).toInt = 1 := by decide
    refine cbSi (n := 3) (rest := []) hx hb hml hown hts hE hP hD hS hA (sY_X11_isIn_1 NF l dC dI cy y0 r p2 1 t6 v f w g hIv hCf hRf ) k_1736 k_1737 k_114 k_1738 (by decide +kernel) ⟨Nat.le_of_ble_eq_true rfl, Nat.le_of_ble_eq_true rfl⟩ (rfl) hl.1 rfl (Nat.le_of_ble_eq_true rfl) dX11_hem_19 (fun r8 u H locs hw hP hD hS => ?_)
    obtain ⟨hG9, hw⟩ := hw
    rcases hw with ⟨g10, g10_0, g10_1⟩ | ⟨g10⟩
    · skip
      subst g10
      refine lv_if_ne (tgt := 27) hx hb dX11_hem_22 (by decide) (fun _ => ?_) (fun c0 => absurd c0 (by decide))
      refine lv_aload_n hx hb dX11_hem_27 rfl (lv_at hl 0 rfl) ?_
      refine cbVv (n := 0) (rest := []) hx hb hml hown hts hE hP hD hS hA (sY_X11_act_1 NF l dC dI cy y0 r  v f w g hIv hCf hRf ) k_1787 k_1789 k_77 k_114 k_1790 (by decide +kernel) ⟨Nat.le_of_ble_eq_true rfl, Nat.le_of_ble_eq_true rfl⟩ 0 11 rfl rfl (rfl) hl.1 rfl (Nat.le_of_ble_eq_true rfl) dX11_hem_28 (fun u H locs hw hP hD hS => ?_)
      obtain ⟨hG11, hw⟩ := hw
      obtain ⟨v12, f13, w14, g15⟩ := u
      obtain ⟨kV_v12, kF_f13, hIv12, hCf13, hRf13, hk0_v12, hk1_v12, hk2_v12, hk3_v12, hk4_v12, hk5_v12, hk8_v12, hk9_v12, hk10_v12, hk13_v12, hk14_v12, hk15_v12, hk17_v12, hk18_v12, hk24_v12, hk25_v12, hk38_v12, hk39_v12⟩ := hw
      have hM_v12 : KV [35, 36] v12 v := KV.tr kV_v12 hM_v rfl
      have hA_f13 : KF [23, 24, 25] f13 f := KF.tr kF_f13 hA_f rfl
      have hP : va_P (dC, dI) vwCl (YW cy y0 r v12 f13 w14 g15) H := hP
      have hD : va_D A (YW cy y0 r v12 f13 w14 g15) := hD
      have hUv12 : (v12 35).toInt + (v12 36).toInt ≤ 40 := hIv12.2
      have hq9_v12 : v12 9 = (v 9) := hk9_v12
      have zq9_v12 := congrArg Int32.toInt hq9_v12
      refine lv_aload_n hx hb dX11_hem_31 rfl (lv_at hl 0 rfl) ?_
      refine va_get (D := (dC, dI)) (ci := 11) (v := .ref (r 59)) (C := RX11) (T := TX11) (N := 79) hx hb hts inB_11 hown hE.1 hP 0 rfl rfl 59 (by decide) (hts _ k_1379) (fun _ h9 => h9) rfl dX11_hem_32 ?_
      refine lv_bipush (v := 12) hx hb dX11_hem_35 (by decide) ?_
      refine lv_iload_n hx hb dX11_hem_37 rfl (lv_at hl 1 rfl) ?_
      refine lv_iadd hx hb dX11_hem_38 ?_
      refine tI (y := t4) et4.symm ?_
      refine lv_dup2_11 hx hb dX11_hem_39 rfl rfl ?_
      refine ldI hx hb hE hP 24 rfl (vp_in_iff.mpr ⟨by omega, by omega⟩) rfl rfl dX11_hem_40 ?_
      refine lv_topi (fun t16 et16 => ?_)
      have zt16 : t4.toInt.toNat % 39 < 6 ∨ 12 ≤ t4.toInt.toNat % 39 ∨ (-1 ≤ t16.toInt ∧ t16.toInt ≤ 5) := by rw [et16]; exact wear_ld hCf13.1 (show t4.toInt.toNat < 39 by omega)
      refine lv_iload_n hx hb dX11_hem_41 rfl (lv_at hl 2 rfl) ?_
      refine lv_isub hx hb dX11_hem_42 ?_
      refine lv_topi (fun t17 et17 => ?_)
      refine stI hx hb hE hP hD hS 24 rfl (vp_in_iff.mpr ⟨by omega, by omega⟩) rfl dX11_hem_43 (fun H locs hP hD hS => ?_)
      obtain ⟨f18, ef18, hP, hD⟩ : ∃ fz9, fz9 = upd2 f13 23 (upd (f13 23) t4.toNatClampNeg t17) ∧ va_P (dC, dI) vwCl (YW cy y0 r v12 fz9 w14 g15) H ∧ va_D A (YW cy y0 r v12 fz9 w14 g15) := ⟨_, rfl, hP, hD⟩
      have hCf18 : YC f18 := by rw [ef18]; exact ⟨(wear_st hCf13.1 (by show t4.toInt.toNat % 39 < 6 ∨ 12 ≤ t4.toInt.toNat % 39 ∨ (-1 ≤ t17.toInt ∧ t17.toInt ≤ 5); omega)), hCf13.2.1, hCf13.2.2.1, hCf13.2.2.2.1, hCf13.2.2.2.2.1, hCf13.2.2.2.2.2⟩
      have hRf18 : progOK (f18 4) (f18 5) (v12 9).toInt.toNat := by rw [ef18]; exact hRf13
      have hA_f18 : KF [23, 24, 25] f18 f := by rw [ef18]; exact KF.up hA_f13 rfl
      refine lv_aload_n hx hb dX11_hem_44 rfl (lv_at hl 0 rfl) ?_
      refine va_get (D := (dC, dI)) (ci := 11) (v := .ref (r 59)) (C := RX11) (T := TX11) (N := 79) hx hb hts inB_11 hown hE.1 hP 0 rfl rfl 59 (by decide) (hts _ k_1379) (fun _ h9 => h9) rfl dX11_hem_45 ?_
      refine lv_bipush (v := 12) hx hb dX11_hem_48 (by decide) ?_
      refine lv_iload_n hx hb dX11_hem_50 rfl (lv_at hl 1 rfl) ?_
      refine lv_iadd hx hb dX11_hem_51 ?_
      refine tI (y := t4) et4.symm ?_
      refine ldI hx hb hE hP 24 rfl (vp_in_iff.mpr ⟨by omega, by omega⟩) rfl rfl dX11_hem_52 ?_
      refine lv_topi (fun t19 et19 => ?_)
      have zt19 : t4.toInt.toNat % 39 < 6 ∨ 12 ≤ t4.toInt.toNat % 39 ∨ (-1 ≤ t19.toInt ∧ t19.toInt ≤ 5) := by rw [et19]; exact wear_ld hCf18.1 (show t4.toInt.toNat < 39 by omega)
      exact ret t19 (v12, f18, w14, g15) _ _ _ _ _ _ rfl ⟨(gsY_X11_hem_1_q0 hG2 et4 et6 hG9 hG11 et16 et17 ef18 et19), hM_v12, hA_f18, hIv12, hCf18, hRf18, hk0_v12, hk1_v12, hk2_v12, hk3_v12, hk4_v12, hk5_v12, hk8_v12, hk9_v12, hk10_v12, hk13_v12, hk14_v12, hk15_v12, hk17_v12, hk18_v12, hk24_v12, hk25_v12, hk38_v12, hk39_v12⟩ hP hD hS dX11_hem_53 (Nat.le_refl _) (Nat.le_refl _)
    · skip
      subst g10
      refine lv_if_ne (tgt := 27) hx hb dX11_hem_22 (by decide) (fun c0 => absurd (by decide) c0) (fun _ => ?_)
      refine lv_iconst (v := (-1)) hx hb dX11_hem_25 (by decide) ?_
      exact ret (-1) (v, f, w, g) _ _ _ _ _ _ rfl ⟨(gsY_X11_hem_1_q1 hG2 et4 et6 hG9), hM_v, hA_f, hIv, hCf, hRf, rfl, rfl, rfl, rfl, rfl, rfl, rfl, rfl, rfl, rfl, rfl, rfl, rfl, rfl, rfl, rfl, rfl, rfl⟩ hP hD hS dX11_hem_26 (Nat.le_refl _) (Nat.le_refl _)
  · skip
    subst g3
    refine lv_if_eq (tgt := 25) hx hb dX11_hem_5 (by decide) (fun _ => ?_) (fun c0 => absurd (by decide) c0)
    refine lv_iconst (v := (-1)) hx hb dX11_hem_25 (by decide) ?_
    exact ret (-1) (v, f, w, g) _ _ _ _ _ _ rfl ⟨(gsY_X11_hem_1_q2 hG2), hM_v, hA_f, hIv, hCf, hRf, rfl, rfl, rfl, rfl, rfl, rfl, rfl, rfl, rfl, rfl, rfl, rfl, rfl, rfl, rfl, rfl, rfl, rfl⟩ hP hD hS dX11_hem_26 (Nat.le_refl _) (Nat.le_refl _)
set_option maxHeartbeats 4000000 in
set_option maxRecDepth 100000 in
theorem sY_X11_turn_1 (NF : Nat) (l : Launch) (dC : Nat → ClassId) (dI : Nat → Nat → Nat) (cy : Nat → ClassId) (y0 : Nat) (r : Nat → Nat) (p1 : Int32) (v : Nat → Int32) (f : Nat → Nat → Int32) (w : Int64) (g : Nat → Int64) (hIv : YI v) (hCf : YC f) (hRf : progOK (f 4) (f 5) (v 9).toInt.toNat)  : ctI l (dC, dI) cy yX11_turn cX11_turn 3 .int 3 103 0 0 ((Nat → Int32) × (Nat → Nat → Int32) × (Int64) × (Nat → Int64)) [.ref y0, .int p1] (YW cy y0 r v f w g) (fun r u => gsY_X11_turn_1 NF p1 v f w g = (r, u) ∧ KV [35, 36] u.1 v ∧ KF [23, 24, 25] u.2.1 f ∧ YI u.1 ∧ YC u.2.1 ∧ progOK (u.2.1 4) (u.2.1 5) (u.1 9).toInt.toNat ∧ u.1 0 = v 0 ∧ u.1 1 = v 1 ∧ u.1 2 = v 2 ∧ u.1 3 = v 3 ∧ u.1 4 = v 4 ∧ u.1 5 = v 5 ∧ u.1 8 = v 8 ∧ u.1 9 = v 9 ∧ u.1 10 = v 10 ∧ u.1 13 = v 13 ∧ u.1 14 = v 14 ∧ u.1 15 = v 15 ∧ u.1 17 = v 17 ∧ u.1 18 = v 18 ∧ u.1 24 = v 24 ∧ u.1 25 = v 25 ∧ u.1 38 = v 38 ∧ u.1 39 = v 39) (fun u => YW cy y0 r u.1 u.2.1 u.2.2.1 u.2.2.2) := by
  refine ctI_of (by decide) (Nat.le_of_ble_eq_true rfl) (fun p e s m below meth c A ls Q hx hb hml hts hown hE hP hD hA hl ret => ?_)
  have hUv : (v 35).toInt + (v 36).toInt ≤ 40 := hIv.2
  have hM_v : KV [35, 36] v v := fun _ _ => rfl
  have hA_f : KF [23, 24, 25] f f := fun _ _ => rfl
  have hown : s.vm.findClass RX11 = some m.cls := hown
  have hS : va_S A s.heap s.heap [] := va_S.rf
  have hl : lv_has ls 3 [(0, .ref y0), (1, .int p1)] := hl
  refine lv_aload_n hx hb dX11_turn_0 rfl (lv_at hl 0 rfl) ?_
  refine lv_iload_n hx hb dX11_turn_1 rfl (lv_at hl 1 rfl) ?_
  refine cbVi (n := 1) (rest := []) hx hb hml hown hts hE hP hD hS hA (sY_X11_isCoat_1 NF l dC dI cy y0 r p1 v f w g hIv hCf hRf ) k_1771 k_1773 k_75 k_114 k_1774 (by decide +kernel) ⟨Nat.le_of_ble_eq_true rfl, Nat.le_of_ble_eq_true rfl⟩ 0 11 rfl rfl (rfl) hl.1 rfl (Nat.le_of_ble_eq_true rfl) dX11_turn_2 (fun r1 u H locs hw hP hD hS => ?_)
  obtain ⟨hG2, hw⟩ := hw
  rcases hw with ⟨g3, g3_0, g3_1, g3_2⟩ | ⟨g3⟩
  · skip
    subst g3
    refine lv_if_eq (tgt := 23) hx hb dX11_turn_5 (by decide) (fun c0 => absurd c0 (by decide)) (fun _ => ?_)
    refine lv_aload_n hx hb dX11_turn_8 rfl (lv_at hl 0 rfl) ?_
    refine va_get (D := (dC, dI)) (ci := 11) (v := .ref (r 59)) (C := RX11) (T := TX11) (N := 79) hx hb hts inB_11 hown hE.1 hP 0 rfl rfl 59 (by decide) (hts _ k_1379) (fun _ h9 => h9) rfl dX11_turn_9 ?_
    refine lv_bipush (v := 36) hx hb dX11_turn_12 (by decide) ?_
    refine ldI hx hb hE hP 24 rfl (vp_in_nI (n := 36) (by decide) (by decide)) rfl rfl dX11_turn_14 ?_
    refine lv_topi (fun t4 et4 => ?_)
    have zt4 : 36 % 39 < 6 ∨ 12 ≤ 36 % 39 ∨ (-1 ≤ t4.toInt ∧ t4.toInt ≤ 5) := by rw [et4]; exact wear_ld hCf.1 (show 36 < 39 by omega)
    refine lv_iload_n hx hb dX11_turn_15 rfl (lv_at hl 1 rfl) ?_
    refine lv_ishr hx hb dX11_turn_16 ?_
    refine lv_topi (fun t5 et5 => ?_)
    refine lv_iconst (v := 1) hx hb dX11_turn_17 (by decide) ?_
    refine lv_iand hx hb dX11_turn_18 ?_
    refine lv_topi (fun t6 et6 => ?_)
    have zt6 : 0 ≤ t6.toInt ∧ t6.toInt < 2 := by rw [et6]; exact and_rng _ (k := 1) (by decide) (by decide)
    refine lv_iconst (v := 1) hx hb dX11_turn_19 (by decide) ?_
    refine lv_icmp_ne (tgt := 25) hx hb dX11_turn_20 (by decide) (fun c7 => ?_) (fun c7 => ?_)
    · skip
      have zc7 : ¬ (t6.toInt = 1) := by rw [fa_eq, show (1 : Int32).toInt = 1 from by decide] at c7; exact c7
      refine lv_aload_n hx hb dX11_turn_25 rfl (lv_at hl 0 rfl) ?_
      refine cbVv (n := 0) (rest := []) hx hb hml hown hts hE hP hD hS hA (sY_X11_act_1 NF l dC dI cy y0 r  v f w g hIv hCf hRf ) k_1787 k_1789 k_77 k_114 k_1790 (by decide +kernel) ⟨Nat.le_of_ble_eq_true rfl, Nat.le_of_ble_eq_true rfl⟩ 0 11 rfl rfl (rfl) hl.1 rfl (Nat.le_of_ble_eq_true rfl) dX11_turn_26 (fun u H locs hw hP hD hS => ?_)
      obtain ⟨hG8, hw⟩ := hw
      obtain ⟨v9, f10, w11, g12⟩ := u
      obtain ⟨kV_v9, kF_f10, hIv9, hCf10, hRf10, hk0_v9, hk1_v9, hk2_v9, hk3_v9, hk4_v9, hk5_v9, hk8_v9, hk9_v9, hk10_v9, hk13_v9, hk14_v9, hk15_v9, hk17_v9, hk18_v9, hk24_v9, hk25_v9, hk38_v9, hk39_v9⟩ := hw
      have hM_v9 : KV [35, 36] v9 v := KV.tr kV_v9 hM_v rfl
      have hA_f10 : KF [23, 24, 25] f10 f := KF.tr kF_f10 hA_f rfl
      have hP : va_P (dC, dI) vwCl (YW cy y0 r v9 f10 w11 g12) H := hP
      have hD : va_D A (YW cy y0 r v9 f10 w11 g12) := hD
      have hUv9 : (v9 35).toInt + (v9 36).toInt ≤ 40 := hIv9.2
      have hq9_v9 : v9 9 = (v 9) := hk9_v9
      have zq9_v9 := congrArg Int32.toInt hq9_v9
      refine lv_aload_n hx hb dX11_turn_29 rfl (lv_at hl 0 rfl) ?_
      refine va_get (D := (dC, dI)) (ci := 11) (v := .ref (r 59)) (C := RX11) (T := TX11) (N := 79) hx hb hts inB_11 hown hE.1 hP 0 rfl rfl 59 (by decide) (hts _ k_1379) (fun _ h9 => h9) rfl dX11_turn_30 ?_
      refine lv_bipush (v := 30) hx hb dX11_turn_33 (by decide) ?_
      refine lv_iload_n hx hb dX11_turn_35 rfl (lv_at hl 1 rfl) ?_
      refine lv_iadd hx hb dX11_turn_36 ?_
      refine lv_topi (fun t13 et13 => ?_)
      have rg14 := fb_rng p1
      have zt13 : t13.toInt = 30 + p1.toInt := by rw [et13]; exact add_i (by decide) rfl (by omega) (by omega)
      refine ldI hx hb hE hP 24 rfl (vp_in_iff.mpr ⟨by omega, by omega⟩) rfl rfl dX11_turn_37 ?_
      refine lv_topi (fun t15 et15 => ?_)
      have zt15 : t13.toInt.toNat % 39 < 6 ∨ 12 ≤ t13.toInt.toNat % 39 ∨ (-1 ≤ t15.toInt ∧ t15.toInt ≤ 5) := by rw [et15]; exact wear_ld hCf10.1 (show t13.toInt.toNat < 39 by omega)
      refine lv_istore_n (lv' := [(2, .int t15), (0, .ref y0), (1, .int p1)]) hx hb dX11_turn_38 rfl hl (by decide) rfl (fun ls hl => ?_)
      refine lv_aload_n hx hb dX11_turn_39 rfl (lv_at hl 1 rfl) ?_
      refine va_get (D := (dC, dI)) (ci := 11) (v := .ref (r 59)) (C := RX11) (T := TX11) (N := 79) hx hb hts inB_11 hown hE.1 hP 0 rfl rfl 59 (by decide) (hts _ k_1379) (fun _ h9 => h9) rfl dX11_turn_40 ?_
      refine lv_bipush (v := 30) hx hb dX11_turn_43 (by decide) ?_
      refine lv_iload_n hx hb dX11_turn_45 rfl (lv_at hl 2 rfl) ?_
      refine lv_iadd hx hb dX11_turn_46 ?_
      refine tI (y := t13) et13.symm ?_
      refine lv_iconst (v := 0) hx hb dX11_turn_47 (by decide) ?_
      refine stI hx hb hE hP hD hS 24 rfl (vp_in_iff.mpr ⟨by omega, by omega⟩) rfl dX11_turn_48 (fun H locs hP hD hS => ?_)
      obtain ⟨f16, ef16, hP, hD⟩ : ∃ fz9, fz9 = upd2 f10 23 (upd (f10 23) t13.toNatClampNeg 0) ∧ va_P (dC, dI) vwCl (YW cy y0 r v9 fz9 w11 g12) H ∧ va_D A (YW cy y0 r v9 fz9 w11 g12) := ⟨_, rfl, hP, hD⟩
      have hCf16 : YC f16 := by rw [ef16]; exact ⟨(wear_st hCf10.1 (by have q9 : (0 : Int32).toInt = 0 := (by decide); show t13.toInt.toNat % 39 < 6 ∨ 12 ≤ t13.toInt.toNat % 39 ∨ (-1 ≤ (0 : Int32).toInt ∧ (0 : Int32).toInt ≤ 5); omega)), hCf10.2.1, hCf10.2.2.1, hCf10.2.2.2.1, hCf10.2.2.2.2.1, hCf10.2.2.2.2.2⟩
      have hRf16 : progOK (f16 4) (f16 5) (v9 9).toInt.toNat := by rw [ef16]; exact hRf10
      have hA_f16 : KF [23, 24, 25] f16 f := by rw [ef16]; exact KF.up hA_f10 rfl
      refine lv_aload_n hx hb dX11_turn_49 rfl (lv_at hl 1 rfl) ?_
      refine va_get (D := (dC, dI)) (ci := 11) (v := .ref (r 59)) (C := RX11) (T := TX11) (N := 79) hx hb hts inB_11 hown hE.1 hP 0 rfl rfl 59 (by decide) (hts _ k_1379) (fun _ h9 => h9) rfl dX11_turn_50 ?_
      refine lv_bipush (v := 36) hx hb dX11_turn_53 (by decide) ?_
      refine lv_dup2_11 hx hb dX11_turn_55 rfl rfl ?_
      refine ldI hx hb hE hP 24 rfl (vp_in_nI (n := 36) (by decide) (by decide)) rfl rfl dX11_turn_56 ?_
      refine lv_topi (fun t17 et17 => ?_)
      have zt17 : 36 % 39 < 6 ∨ 12 ≤ 36 % 39 ∨ (-1 ≤ t17.toInt ∧ t17.toInt ≤ 5) := by rw [et17]; exact wear_ld hCf16.1 (show 36 < 39 by omega)
      refine lv_iconst (v := 1) hx hb dX11_turn_57 (by decide) ?_
      refine lv_iload_n hx hb dX11_turn_58 rfl (lv_at hl 2 rfl) ?_
      refine lv_ishl hx hb dX11_turn_59 ?_
      refine lv_topi (fun t18 et18 => ?_)
      have zt18 : 1 ≤ t18.toInt ∧ t18.toInt ≤ 32 := by rw [et18]; exact shl1_rng (by omega) (by omega)
      refine lv_ior hx hb dX11_turn_60 ?_
      refine lv_topi (fun t19 et19 => ?_)
      refine stI hx hb hE hP hD hS 24 rfl (vp_in_nI (n := 36) (by decide) (by decide)) rfl dX11_turn_61 (fun H locs hP hD hS => ?_)
      obtain ⟨f20, ef20, hP, hD⟩ : ∃ fz9, fz9 = upd2 f16 23 (upd (f16 23) (36 : Int32).toNatClampNeg t19) ∧ va_P (dC, dI) vwCl (YW cy y0 r v9 fz9 w11 g12) H ∧ va_D A (YW cy y0 r v9 fz9 w11 g12) := ⟨_, rfl, hP, hD⟩
      have hCf20 : YC f20 := by rw [ef20]; exact ⟨(wear_st hCf16.1 (by show 36 % 39 < 6 ∨ 12 ≤ 36 % 39 ∨ (-1 ≤ t19.toInt ∧ t19.toInt ≤ 5); omega)), hCf16.2.1, hCf16.2.2.1, hCf16.2.2.2.1, hCf16.2.2.2.2.1, hCf16.2.2.2.2.2⟩
      have hRf20 : progOK (f20 4) (f20 5) (v9 9).toInt.toNat := by rw [ef20]; exact hRf16
      have hA_f20 : KF [23, 24, 25] f20 f := by rw [ef20]; exact KF.up hA_f16 rfl
      refine lv_iload_n hx hb dX11_turn_62 rfl (lv_at hl 0 rfl) ?_
      exact ret t15 (v9, f20, w11, g12) _ _ _ _ _ _ rfl ⟨(gsY_X11_turn_1_q0 hG2 et4 et5 et6 c7 hG8 et13 et15 ef16 et17 et18 et19 ef20), hM_v9, hA_f20, hIv9, hCf20, hRf20, hk0_v9, hk1_v9, hk2_v9, hk3_v9, hk4_v9, hk5_v9, hk8_v9, hk9_v9, hk10_v9, hk13_v9, hk14_v9, hk15_v9, hk17_v9, hk18_v9, hk24_v9, hk25_v9, hk38_v9, hk39_v9⟩ hP hD hS dX11_turn_63 (Nat.le_refl _) (Nat.le_refl _)
    · skip
      have zc7 : t6.toInt = 1 := by rw [fa_eq, show (1 : Int32).toInt = 1 from by decide] at c7; exact c7
      refine lv_iconst (v := (-1)) hx hb dX11_turn_23 (by decide) ?_
      exact ret (-1) (v, f, w, g) _ _ _ _ _ _ rfl ⟨(gsY_X11_turn_1_q1 hG2 et4 et5 et6 c7), hM_v, hA_f, hIv, hCf, hRf, rfl, rfl, rfl, rfl, rfl, rfl, rfl, rfl, rfl, rfl, rfl, rfl, rfl, rfl, rfl, rfl, rfl, rfl⟩ hP hD hS dX11_turn_24 (Nat.le_refl _) (Nat.le_refl _)
  · skip
    subst g3
    refine lv_if_eq (tgt := 23) hx hb dX11_turn_5 (by decide) (fun _ => ?_) (fun c0 => absurd (by decide) c0)
    refine lv_iconst (v := (-1)) hx hb dX11_turn_23 (by decide) ?_
    exact ret (-1) (v, f, w, g) _ _ _ _ _ _ rfl ⟨(gsY_X11_turn_1_q2 hG2), hM_v, hA_f, hIv, hCf, hRf, rfl, rfl, rfl, rfl, rfl, rfl, rfl, rfl, rfl, rfl, rfl, rfl, rfl, rfl, rfl, rfl, rfl, rfl⟩ hP hD hS dX11_turn_24 (Nat.le_refl _) (Nat.le_refl _)
set_option maxHeartbeats 4000000 in
set_option maxRecDepth 100000 in
theorem sY_X11_exchange_1 (NF : Nat) (l : Launch) (dC : Nat → ClassId) (dI : Nat → Nat → Nat) (cy : Nat → ClassId) (y0 : Nat) (r : Nat → Nat) (p1 : Int32) (v : Nat → Int32) (f : Nat → Nat → Int32) (w : Int64) (g : Nat → Int64) (hIv : YI v) (hCf : YC f) (hRf : progOK (f 4) (f 5) (v 9).toInt.toNat) (hp1 : (0 : Int) ≤ p1.toInt ∧ p1.toInt ≤ 1521) (hf0 : p1.toInt % 39 = 0) : ctV l (dC, dI) cy yX11_exchange cX11_exchange 4 1 60 0 0 ((Nat → Int32) × (Nat → Nat → Int32) × (Int64) × (Nat → Int64)) [.ref y0, .int p1] (YW cy y0 r v f w g) (fun u => gsY_X11_exchange_1 NF p1 v f w g = u ∧ KV [] u.1 v ∧ KF [23, 25] u.2.1 f ∧ YI u.1 ∧ YC u.2.1 ∧ progOK (u.2.1 4) (u.2.1 5) (u.1 9).toInt.toNat ∧ u.1 0 = v 0 ∧ u.1 1 = v 1 ∧ u.1 2 = v 2 ∧ u.1 3 = v 3 ∧ u.1 4 = v 4 ∧ u.1 5 = v 5 ∧ u.1 8 = v 8 ∧ u.1 9 = v 9 ∧ u.1 10 = v 10 ∧ u.1 13 = v 13 ∧ u.1 14 = v 14 ∧ u.1 15 = v 15 ∧ u.1 17 = v 17 ∧ u.1 18 = v 18 ∧ u.1 24 = v 24 ∧ u.1 25 = v 25 ∧ u.1 35 = v 35 ∧ u.1 36 = v 36 ∧ u.1 38 = v 38 ∧ u.1 39 = v 39) (fun u => YW cy y0 r u.1 u.2.1 u.2.2.1 u.2.2.2) := by
  refine ctV_of (by decide) (Nat.le_of_ble_eq_true rfl) (fun p e s m below meth c A ls Q hx hb hml hts hown hnm hE hP hD hA hl ret => ?_)
  have hUv : (v 35).toInt + (v 36).toInt ≤ 40 := hIv.2
  have hM_v : KV [] v v := fun _ _ => rfl
  have hA_f : KF [23, 25] f f := fun _ _ => rfl
  have hown : s.vm.findClass RX11 = some m.cls := hown
  have hS : va_S A s.heap s.heap [] := va_S.rf
  have hl : lv_has ls 4 [(0, .ref y0), (1, .int p1)] := hl
  refine lv_iconst (v := 0) hx hb dX11_exchange_0 (by decide) ?_
  refine lv_istore_n (lv' := [(2, .int 0), (0, .ref y0), (1, .int p1)]) hx hb dX11_exchange_1 rfl hl (by decide) rfl (fun ls hl => ?_)
  have lp1 : ∀ (n1 : Nat) (l2_1 : Int32) (v1 : Nat → Int32) (f1 : Nat → Nat → Int32) (w1 : Int64) (g1 : Nat → Int64), YI v1 → YC f1 → progOK (f1 4) (f1 5) (v1 9).toInt.toNat → v1 0 = (v 0) → v1 1 = (v 1) → v1 2 = (v 2) → v1 3 = (v 3) → v1 4 = (v 4) → v1 5 = (v 5) → v1 8 = (v 8) → v1 9 = (v 9) → v1 10 = (v 10) → v1 13 = (v 13) → v1 14 = (v 14) → v1 15 = (v 15) → v1 17 = (v 17) → v1 18 = (v 18) → v1 24 = (v 24) → v1 25 = (v 25) → v1 35 = (v 35) → v1 36 = (v 36) → v1 38 = (v 38) → v1 39 = (v 39) → gsY_X11_exchange_1_L1 NF p1 n1 l2_1 v1 f1 w1 g1 = (gsY_X11_exchange_1 NF p1 v f w g) → ((0 : Int) ≤ l2_1.toInt ∧ l2_1.toInt ≤ 2147483647) → KV [] v1 v → KF [23, 25] f1 f → (2147483647 - l2_1.toInt).toNat < n1 → ∀ (H : Heap) (locs : List Loc) (ls : Array Slot), va_P (dC, dI) vwCl (YW cy y0 r v1 f1 w1 g1) H → va_D A (YW cy y0 r v1 f1 w1 g1) → va_S A s.heap H locs → lv_has ls 4 [(2, .int l2_1), (0, .ref y0), (1, .int p1)] → W p l e { frames := 1, cells := 0, slots := 0, locals := 60 } s m ([.ref y0, .int p1] : List Value).toArray below meth c H locs 0 0 Q (F0 m 2 ls []) := by
    intro n1
    induction n1 with
    | zero => intro l2_1 v1 f1 w1 g1 hIv1 hCf1 hRf1 hq0_v1 hq1_v1 hq2_v1 hq3_v1 hq4_v1 hq5_v1 hq8_v1 hq9_v1 hq10_v1 hq13_v1 hq14_v1 hq15_v1 hq17_v1 hq18_v1 hq24_v1 hq25_v1 hq35_v1 hq36_v1 hq38_v1 hq39_v1 hT1 hr2_1 hM_v1 hA_f1 hm; exact absurd hm (Nat.not_lt_zero _)
    | succ n1 ih1 =>
      intro l2_1 v1 f1 w1 g1 hIv1 hCf1 hRf1 hq0_v1 hq1_v1 hq2_v1 hq3_v1 hq4_v1 hq5_v1 hq8_v1 hq9_v1 hq10_v1 hq13_v1 hq14_v1 hq15_v1 hq17_v1 hq18_v1 hq24_v1 hq25_v1 hq35_v1 hq36_v1 hq38_v1 hq39_v1 hT1 hr2_1 hM_v1 hA_f1 hm1 H locs ls hP hD hS hl
      have hUv1 : (v1 35).toInt + (v1 36).toInt ≤ 40 := hIv1.2
      have zq9_v1 := congrArg Int32.toInt hq9_v1
      refine lv_iload_n hx hb dX11_exchange_2 rfl (lv_at hl 0 rfl) ?_
      refine lv_bipush (v := 39) hx hb dX11_exchange_3 (by decide) ?_
      refine lv_icmp_ge (tgt := 44) hx hb dX11_exchange_5 (by decide) (fun c2 => ?_) (fun c2 => ?_)
      · skip
        have zc2 : 39 ≤ l2_1.toInt := by rw [fa_le, show (39 : Int32).toInt = 39 from by decide] at c2; exact c2
        exact ret (v1, f1, w1, g1) _ _ _ _ _ _ ⟨(hT1.symm.trans (gsY_X11_exchange_1_q0 c2)), hM_v1, hA_f1, hIv1, hCf1, hRf1, (show v1 0 = v 0 from hq0_v1), (show v1 1 = v 1 from hq1_v1), (show v1 2 = v 2 from hq2_v1), (show v1 3 = v 3 from hq3_v1), (show v1 4 = v 4 from hq4_v1), (show v1 5 = v 5 from hq5_v1), (show v1 8 = v 8 from hq8_v1), (show v1 9 = v 9 from hq9_v1), (show v1 10 = v 10 from hq10_v1), (show v1 13 = v 13 from hq13_v1), (show v1 14 = v 14 from hq14_v1), (show v1 15 = v 15 from hq15_v1), (show v1 17 = v 17 from hq17_v1), (show v1 18 = v 18 from hq18_v1), (show v1 24 = v 24 from hq24_v1), (show v1 25 = v 25 from hq25_v1), (show v1 35 = v 35 from hq35_v1), (show v1 36 = v 36 from hq36_v1), (show v1 38 = v 38 from hq38_v1), (show v1 39 = v 39 from hq39_v1)⟩ hP hD hS dX11_exchange_44 (Nat.le_refl _) (Nat.le_refl _)
      · skip
        have zc2 : ¬ (39 ≤ l2_1.toInt) := by rw [fa_le, show (39 : Int32).toInt = 39 from by decide] at c2; exact c2
        refine lv_aload_n hx hb dX11_exchange_8 rfl (lv_at hl 1 rfl) ?_
        refine va_get (D := (dC, dI)) (ci := 11) (v := .ref (r 61)) (C := RX11) (T := TX11) (N := 79) hx hb hts inB_11 hown hE.1 hP 0 rfl rfl 61 (by decide) (hts _ k_1381) (fun _ h9 => h9) rfl dX11_exchange_9 ?_
        refine lv_iload_n hx hb dX11_exchange_12 rfl (lv_at hl 2 rfl) ?_
        refine lv_iload_n hx hb dX11_exchange_13 rfl (lv_at hl 0 rfl) ?_
        refine lv_iadd hx hb dX11_exchange_14 ?_
        refine lv_topi (fun t3 et3 => ?_)
        have rg4 := fb_rng p1
        have rg5 := fb_rng l2_1
        have zt3 : t3.toInt = p1.toInt + l2_1.toInt := by rw [et3]; exact add_i rfl rfl (by omega) (by omega)
        refine ldI hx hb hE hP 26 rfl (vp_in_iff.mpr ⟨by omega, by omega⟩) rfl rfl dX11_exchange_15 ?_
        refine lv_topi (fun t6 et6 => ?_)
        have zt6 : t3.toInt.toNat % 39 < 6 ∨ 12 ≤ t3.toInt.toNat % 39 ∨ (-1 ≤ t6.toInt ∧ t6.toInt ≤ 5) := by rw [et6]; exact wear_ld hCf1.2.2.1 (show t3.toInt.toNat < 1560 by omega)
        refine lv_istore_n (lv' := [(3, .int t6), (2, .int l2_1), (0, .ref y0), (1, .int p1)]) hx hb dX11_exchange_16 rfl hl (by decide) rfl (fun ls hl => ?_)
        refine lv_aload_n hx hb dX11_exchange_17 rfl (lv_at hl 2 rfl) ?_
        refine va_get (D := (dC, dI)) (ci := 11) (v := .ref (r 61)) (C := RX11) (T := TX11) (N := 79) hx hb hts inB_11 hown hE.1 hP 0 rfl rfl 61 (by decide) (hts _ k_1381) (fun _ h9 => h9) rfl dX11_exchange_18 ?_
        refine lv_iload_n hx hb dX11_exchange_21 rfl (lv_at hl 3 rfl) ?_
        refine lv_iload_n hx hb dX11_exchange_22 rfl (lv_at hl 1 rfl) ?_
        refine lv_iadd hx hb dX11_exchange_23 ?_
        refine tI (y := t3) et3.symm ?_
        refine lv_aload_n hx hb dX11_exchange_24 rfl (lv_at hl 2 rfl) ?_
        refine va_get (D := (dC, dI)) (ci := 11) (v := .ref (r 59)) (C := RX11) (T := TX11) (N := 79) hx hb hts inB_11 hown hE.1 hP 0 rfl rfl 59 (by decide) (hts _ k_1379) (fun _ h9 => h9) rfl dX11_exchange_25 ?_
        refine lv_iload_n hx hb dX11_exchange_28 rfl (lv_at hl 1 rfl) ?_
        refine ldI hx hb hE hP 24 rfl (vp_in_iff.mpr ⟨by omega, by omega⟩) rfl rfl dX11_exchange_29 ?_
        refine lv_topi (fun t7 et7 => ?_)
        have zt7 : l2_1.toInt.toNat % 39 < 6 ∨ 12 ≤ l2_1.toInt.toNat % 39 ∨ (-1 ≤ t7.toInt ∧ t7.toInt ≤ 5) := by rw [et7]; exact wear_ld hCf1.1 (show l2_1.toInt.toNat < 39 by omega)
        refine stI hx hb hE hP hD hS 26 rfl (vp_in_iff.mpr ⟨by omega, by omega⟩) rfl dX11_exchange_30 (fun H locs hP hD hS => ?_)
        obtain ⟨f8, ef8, hP, hD⟩ : ∃ fz9, fz9 = upd2 f1 25 (upd (f1 25) t3.toNatClampNeg t7) ∧ va_P (dC, dI) vwCl (YW cy y0 r v1 fz9 w1 g1) H ∧ va_D A (YW cy y0 r v1 fz9 w1 g1) := ⟨_, rfl, hP, hD⟩
        have hCf8 : YC f8 := by rw [ef8]; exact ⟨hCf1.1, hCf1.2.1, (wear_st hCf1.2.2.1 (by show t3.toInt.toNat % 39 < 6 ∨ 12 ≤ t3.toInt.toNat % 39 ∨ (-1 ≤ t7.toInt ∧ t7.toInt ≤ 5); omega)), hCf1.2.2.2.1, hCf1.2.2.2.2.1, hCf1.2.2.2.2.2⟩
        have hRf8 : progOK (f8 4) (f8 5) (v1 9).toInt.toNat := by rw [ef8]; exact hRf1
        have hA_f8 : KF [23, 25] f8 f := by rw [ef8]; exact KF.up hA_f1 rfl
        refine lv_aload_n hx hb dX11_exchange_31 rfl (lv_at hl 2 rfl) ?_
        refine va_get (D := (dC, dI)) (ci := 11) (v := .ref (r 59)) (C := RX11) (T := TX11) (N := 79) hx hb hts inB_11 hown hE.1 hP 0 rfl rfl 59 (by decide) (hts _ k_1379) (fun _ h9 => h9) rfl dX11_exchange_32 ?_
        refine lv_iload_n hx hb dX11_exchange_35 rfl (lv_at hl 1 rfl) ?_
        refine lv_iload_n hx hb dX11_exchange_36 rfl (lv_at hl 0 rfl) ?_
        refine stI hx hb hE hP hD hS 24 rfl (vp_in_iff.mpr ⟨by omega, by omega⟩) rfl dX11_exchange_37 (fun H locs hP hD hS => ?_)
        obtain ⟨f9, ef9, hP, hD⟩ : ∃ fz9, fz9 = upd2 f8 23 (upd (f8 23) l2_1.toNatClampNeg t6) ∧ va_P (dC, dI) vwCl (YW cy y0 r v1 fz9 w1 g1) H ∧ va_D A (YW cy y0 r v1 fz9 w1 g1) := ⟨_, rfl, hP, hD⟩
        have hCf9 : YC f9 := by rw [ef9]; exact ⟨(wear_st hCf8.1 (by show l2_1.toInt.toNat % 39 < 6 ∨ 12 ≤ l2_1.toInt.toNat % 39 ∨ (-1 ≤ t6.toInt ∧ t6.toInt ≤ 5); omega)), hCf8.2.1, hCf8.2.2.1, hCf8.2.2.2.1, hCf8.2.2.2.2.1, hCf8.2.2.2.2.2⟩
        have hRf9 : progOK (f9 4) (f9 5) (v1 9).toInt.toNat := by rw [ef9]; exact hRf8
        have hA_f9 : KF [23, 25] f9 f := by rw [ef9]; exact KF.up hA_f8 rfl
        obtain ⟨t10, et10⟩ : ∃ y : Int32, y = l2_1 + 1 := ⟨_, rfl⟩
        have zt10 : t10.toInt = l2_1.toInt + 1 := by rw [et10]; exact add_i rfl (by decide) (by omega) (by omega)
        refine lv_iinc (v := t10) (lv' := [(2, .int t10), (3, .int t6), (0, .ref y0), (1, .int p1)]) hx hb dX11_exchange_38 hl (k := 1) rfl (by rw [et10]; rfl) (by decide) rfl (fun ls hl => ?_)
        refine lv_goto (tgt := 2) hx hb dX11_exchange_41 (by decide) ?_
        have rg11 := fb_rng t10
        exact ih1 t10 v1 f9 w1 g1 hIv1 hCf9 hRf9 hq0_v1 hq1_v1 hq2_v1 hq3_v1 hq4_v1 hq5_v1 hq8_v1 hq9_v1 hq10_v1 hq13_v1 hq14_v1 hq15_v1 hq17_v1 hq18_v1 hq24_v1 hq25_v1 hq35_v1 hq36_v1 hq38_v1 hq39_v1 ((gsY_X11_exchange_1_q1 c2 et3 et6 et7 ef8 ef9 et10).symm.trans hT1) ⟨show (0 : Int) ≤ t10.toInt by omega, show t10.toInt ≤ (2147483647 : Int) by omega⟩ hM_v1 hA_f9 (by show (2147483647 - t10.toInt).toNat < n1; omega) _ _ _ hP hD hS (lv_sub hl [0, 2, 3] rfl)
  exact lp1 (4294967296 + NF) 0 v f w g hIv hCf hRf rfl rfl rfl rfl rfl rfl rfl rfl rfl rfl rfl rfl rfl rfl rfl rfl rfl rfl rfl rfl gsY_X11_exchange_1_q2.symm ⟨by decide, by decide⟩ hM_v hA_f (by have q2 : (0 : Int32).toInt = 0 := (by decide); show (2147483647 - (0 : Int32).toInt).toNat < 4294967296 + NF; omega) _ _ _ hP hD hS (lv_sub hl [0, 1, 2] rfl)
set_option maxHeartbeats 4000000 in
set_option maxRecDepth 100000 in
theorem sY_X11_undo_1 (NF : Nat) (l : Launch) (dC : Nat → ClassId) (dI : Nat → Nat → Nat) (cy : Nat → ClassId) (y0 : Nat) (r : Nat → Nat)  (v : Nat → Int32) (f : Nat → Nat → Int32) (w : Int64) (g : Nat → Int64) (hIv : YI v) (hCf : YC f) (hRf : progOK (f 4) (f 5) (v 9).toInt.toNat)  : ctI l (dC, dI) cy yX11_undo cX11_undo 1 .boolean 2 83 0 0 ((Nat → Int32) × (Nat → Nat → Int32) × (Int64) × (Nat → Int64)) [.ref y0] (YW cy y0 r v f w g) (fun r u => gsY_X11_undo_1 NF v f w g = (r, u) ∧ KV [35, 36] u.1 v ∧ KF [23, 25] u.2.1 f ∧ YI u.1 ∧ YC u.2.1 ∧ progOK (u.2.1 4) (u.2.1 5) (u.1 9).toInt.toNat ∧ u.1 0 = v 0 ∧ u.1 1 = v 1 ∧ u.1 2 = v 2 ∧ u.1 3 = v 3 ∧ u.1 4 = v 4 ∧ u.1 5 = v 5 ∧ u.1 8 = v 8 ∧ u.1 9 = v 9 ∧ u.1 10 = v 10 ∧ u.1 13 = v 13 ∧ u.1 14 = v 14 ∧ u.1 15 = v 15 ∧ u.1 17 = v 17 ∧ u.1 18 = v 18 ∧ u.1 24 = v 24 ∧ u.1 25 = v 25 ∧ u.1 38 = v 38 ∧ u.1 39 = v 39 ∧ ((r = 1) ∨ (r = 0))) (fun u => YW cy y0 r u.1 u.2.1 u.2.2.1 u.2.2.2) := by
  refine ctI_of (by decide) (Nat.le_of_ble_eq_true rfl) (fun p e s m below meth c A ls Q hx hb hml hts hown hE hP hD hA hl ret => ?_)
  have hUv : (v 35).toInt + (v 36).toInt ≤ 40 := hIv.2
  have hM_v : KV [35, 36] v v := fun _ _ => rfl
  have hA_f : KF [23, 25] f f := fun _ _ => rfl
  have hown : s.vm.findClass RX11 = some m.cls := hown
  have hS : va_S A s.heap s.heap [] := va_S.rf
  have hl : lv_has ls 1 [(0, .ref y0)] := hl
  refine lv_aload_n hx hb dX11_undo_0 rfl (lv_at hl 0 rfl) ?_
  refine va_get (D := (dC, dI)) (ci := 11) (v := .int (v 35)) (C := RX11) (T := TX11) (N := 79) hx hb hts inB_11 hown hE.1 hP 0 rfl rfl 62 (by decide) (hts _ k_1382) (fun _ h9 => h9) rfl dX11_undo_1 ?_
  have b35_v : 0 ≤ (v 35).toInt ∧ (v 35).toInt ≤ 40 := YIb.b hIv.1 35 (by decide)
  refine lv_if_ne (tgt := 9) hx hb dX11_undo_4 (by decide) (fun c1 => ?_) (fun c1 => ?_)
  · skip
    have zc1 : ¬ ((v 35).toInt = 0) := by rw [fa_eq, show (0 : Int32).toInt = 0 from by decide] at c1; exact c1
    refine lv_aload_n hx hb dX11_undo_9 rfl (lv_at hl 0 rfl) ?_
    refine lv_dup hx hb dX11_undo_10 rfl ?_
    refine va_get (D := (dC, dI)) (ci := 11) (v := .int (v 35)) (C := RX11) (T := TX11) (N := 79) hx hb hts inB_11 hown hE.1 hP 0 rfl rfl 62 (by decide) (hts _ k_1382) (fun _ h9 => h9) rfl dX11_undo_11 ?_
    refine lv_iconst (v := 1) hx hb dX11_undo_14 (by decide) ?_
    refine lv_isub hx hb dX11_undo_15 ?_
    refine lv_topi (fun t2 et2 => ?_)
    have rg3 := fb_rng (v 35)
    have zt2 : t2.toInt = (v 35).toInt - 1 := by rw [et2]; exact sub_i rfl (by decide) (by omega) (by omega)
    refine va_put (D := (dC, dI)) (ci := 11) (v := .int t2) (ty := tyX11 62) (C := RX11) (T := TX11) (N := 79) hx hb hts inB_11 tyX11 tyX11_ok nmX11 hown hE.1 hP hD hS 0 rfl rfl 62 (by decide) (hts _ k_1382) (fun _ h9 => h9) rfl (tyX11_ok 62 (by decide)) rfl rfl (Nat.le_of_ble_eq_true rfl) dX11_undo_16 (fun H locs hP hD hS => ?_)
    have hP : va_P (dC, dI) vwCl (YW cy y0 r (upd v 35 t2) f w g) H := hP
    have hD : va_D A (YW cy y0 r (upd v 35 t2) f w g) := hD
    refine lv_aload_n hx hb dX11_undo_19 rfl (lv_at hl 0 rfl) ?_
    refine lv_dup hx hb dX11_undo_20 rfl ?_
    refine va_get (D := (dC, dI)) (ci := 11) (v := .int (v 36)) (C := RX11) (T := TX11) (N := 79) hx hb hts inB_11 hown hE.1 hP 0 rfl rfl 63 (by decide) (hts _ k_1383) (fun _ h9 => h9) rfl dX11_undo_21 ?_
    have b36_v : 0 ≤ (v 36).toInt ∧ (v 36).toInt ≤ 40 := YIb.b hIv.1 36 (by decide)
    refine lv_iconst (v := 1) hx hb dX11_undo_24 (by decide) ?_
    refine lv_iadd hx hb dX11_undo_25 ?_
    refine lv_topi (fun t4 et4 => ?_)
    have rg5 := fb_rng (v 36)
    have zt4 : t4.toInt = (v 36).toInt + 1 := by rw [et4]; exact add_i rfl (by decide) (by omega) (by omega)
    refine va_put (D := (dC, dI)) (ci := 11) (v := .int t4) (ty := tyX11 63) (C := RX11) (T := TX11) (N := 79) hx hb hts inB_11 tyX11 tyX11_ok nmX11 hown hE.1 hP hD hS 0 rfl rfl 63 (by decide) (hts _ k_1383) (fun _ h9 => h9) rfl (tyX11_ok 63 (by decide)) rfl rfl (Nat.le_of_ble_eq_true rfl) dX11_undo_26 (fun H locs hP hD hS => ?_)
    have hP : va_P (dC, dI) vwCl (YW cy y0 r (upd (upd v 35 t2) 36 t4) f w g) H := hP
    have hD : va_D A (YW cy y0 r (upd (upd v 35 t2) 36 t4) f w g) := hD
    refine lv_aload_n hx hb dX11_undo_29 rfl (lv_at hl 0 rfl) ?_
    refine lv_bipush (v := 39) hx hb dX11_undo_30 (by decide) ?_
    refine lv_aload_n hx hb dX11_undo_32 rfl (lv_at hl 0 rfl) ?_
    refine va_get (D := (dC, dI)) (ci := 11) (v := .int t2) (C := RX11) (T := TX11) (N := 79) hx hb hts inB_11 hown hE.1 hP 0 rfl rfl 62 (by decide) (hts _ k_1382) (fun _ h9 => h9) rfl dX11_undo_33 ?_
    refine lv_imul hx hb dX11_undo_36 ?_
    refine lv_topi (fun t6 et6 => ?_)
    have rg7 := fb_rng t2
    have zt6 : t6.toInt = 39 * t2.toInt := by rw [et6]; exact mul_i (by decide) rfl (by omega) (by omega)
    refine cbVv (n := 1) (rest := []) hx hb hml hown hts hE hP hD hS hA (sY_X11_exchange_1 NF l dC dI cy y0 r t6 (upd (upd v 35 t2) 36 t4) f w g ⟨(YIb.upd (j := 36) (x := t4) (YIb.upd (j := 35) (x := t2) hIv.1 (show (0 : Int) ≤ t2.toInt by omega) (show t2.toInt ≤ (40 : Int) by omega)) (show (0 : Int) ≤ t4.toInt by omega) (show t4.toInt ≤ (40 : Int) by omega)), (by have q9 := hIv.2; show t2.toInt + t4.toInt ≤ 40; omega)⟩ hCf hRf ⟨show (0 : Int) ≤ t6.toInt by omega, show t6.toInt ≤ (1521 : Int) by omega⟩ (by show t6.toInt % 39 = 0; omega)) k_1845 k_1847 k_83 k_114 k_1848 (by decide +kernel) ⟨Nat.le_of_ble_eq_true rfl, Nat.le_of_ble_eq_true rfl⟩ 0 11 rfl rfl (rfl) hl.1 rfl (Nat.le_of_ble_eq_true rfl) dX11_undo_37 (fun u H locs hw hP hD hS => ?_)
    obtain ⟨hG8, hw⟩ := hw
    obtain ⟨v9, f10, w11, g12⟩ := u
    obtain ⟨kV_v9, kF_f10, hIv9, hCf10, hRf10, hk0_v9, hk1_v9, hk2_v9, hk3_v9, hk4_v9, hk5_v9, hk8_v9, hk9_v9, hk10_v9, hk13_v9, hk14_v9, hk15_v9, hk17_v9, hk18_v9, hk24_v9, hk25_v9, hk35_v9, hk36_v9, hk38_v9, hk39_v9⟩ := hw
    have hM_v9 : KV [35, 36] v9 v := KV.tr kV_v9 (KV.up (j := 36) (x := t4) (KV.up (j := 35) (x := t2) hM_v rfl) rfl) rfl
    have hA_f10 : KF [23, 25] f10 f := KF.tr kF_f10 hA_f rfl
    have hP : va_P (dC, dI) vwCl (YW cy y0 r v9 f10 w11 g12) H := hP
    have hD : va_D A (YW cy y0 r v9 f10 w11 g12) := hD
    have hUv9 : (v9 35).toInt + (v9 36).toInt ≤ 40 := hIv9.2
    have hq9_v9 : v9 9 = (v 9) := hk9_v9
    have zq9_v9 := congrArg Int32.toInt hq9_v9
    have hq35_v9 : v9 35 = t2 := hk35_v9
    have zq35_v9 := congrArg Int32.toInt hq35_v9
    have hq36_v9 : v9 36 = t4 := hk36_v9
    have zq36_v9 := congrArg Int32.toInt hq36_v9
    refine lv_iconst (v := 1) hx hb dX11_undo_40 (by decide) ?_
    exact ret 1 (v9, f10, w11, g12) _ _ _ _ _ _ rfl ⟨(gsY_X11_undo_1_q0 c1 et2 et4 et6 hG8), hM_v9, hA_f10, hIv9, hCf10, hRf10, hk0_v9, hk1_v9, hk2_v9, hk3_v9, hk4_v9, hk5_v9, hk8_v9, hk9_v9, hk10_v9, hk13_v9, hk14_v9, hk15_v9, hk17_v9, hk18_v9, hk24_v9, hk25_v9, hk38_v9, hk39_v9, (Or.inl rfl)⟩ hP hD hS dX11_undo_41 (Nat.le_refl _) (Nat.le_refl _)
  · skip
    have zc1 : (v 35).toInt = 0 := by rw [fa_eq, show (0 : Int32).toInt = 0 from by decide] at c1; exact c1
    refine lv_iconst (v := 0) hx hb dX11_undo_7 (by decide) ?_
    exact ret 0 (v, f, w, g) _ _ _ _ _ _ rfl ⟨(gsY_X11_undo_1_q1 c1), hM_v, hA_f, hIv, hCf, hRf, rfl, rfl, rfl, rfl, rfl, rfl, rfl, rfl, rfl, rfl, rfl, rfl, rfl, rfl, rfl, rfl, rfl, rfl, (Or.inr rfl)⟩ hP hD hS dX11_undo_8 (Nat.le_refl _) (Nat.le_refl _)
set_option maxHeartbeats 4000000 in
set_option maxRecDepth 100000 in
theorem sY_X11_redo_1 (NF : Nat) (l : Launch) (dC : Nat → ClassId) (dI : Nat → Nat → Nat) (cy : Nat → ClassId) (y0 : Nat) (r : Nat → Nat)  (v : Nat → Int32) (f : Nat → Nat → Int32) (w : Int64) (g : Nat → Int64) (hIv : YI v) (hCf : YC f) (hRf : progOK (f 4) (f 5) (v 9).toInt.toNat)  : ctI l (dC, dI) cy yX11_redo cX11_redo 1 .boolean 2 83 0 0 ((Nat → Int32) × (Nat → Nat → Int32) × (Int64) × (Nat → Int64)) [.ref y0] (YW cy y0 r v f w g) (fun r u => gsY_X11_redo_1 NF v f w g = (r, u) ∧ KV [35, 36] u.1 v ∧ KF [23, 25] u.2.1 f ∧ YI u.1 ∧ YC u.2.1 ∧ progOK (u.2.1 4) (u.2.1 5) (u.1 9).toInt.toNat ∧ u.1 0 = v 0 ∧ u.1 1 = v 1 ∧ u.1 2 = v 2 ∧ u.1 3 = v 3 ∧ u.1 4 = v 4 ∧ u.1 5 = v 5 ∧ u.1 8 = v 8 ∧ u.1 9 = v 9 ∧ u.1 10 = v 10 ∧ u.1 13 = v 13 ∧ u.1 14 = v 14 ∧ u.1 15 = v 15 ∧ u.1 17 = v 17 ∧ u.1 18 = v 18 ∧ u.1 24 = v 24 ∧ u.1 25 = v 25 ∧ u.1 38 = v 38 ∧ u.1 39 = v 39 ∧ ((r = 1) ∨ (r = 0))) (fun u => YW cy y0 r u.1 u.2.1 u.2.2.1 u.2.2.2) := by
  refine ctI_of (by decide) (Nat.le_of_ble_eq_true rfl) (fun p e s m below meth c A ls Q hx hb hml hts hown hE hP hD hA hl ret => ?_)
  have hUv : (v 35).toInt + (v 36).toInt ≤ 40 := hIv.2
  have hM_v : KV [35, 36] v v := fun _ _ => rfl
  have hA_f : KF [23, 25] f f := fun _ _ => rfl
  have hown : s.vm.findClass RX11 = some m.cls := hown
  have hS : va_S A s.heap s.heap [] := va_S.rf
  have hl : lv_has ls 1 [(0, .ref y0)] := hl
  refine lv_aload_n hx hb dX11_redo_0 rfl (lv_at hl 0 rfl) ?_
  refine va_get (D := (dC, dI)) (ci := 11) (v := .int (v 36)) (C := RX11) (T := TX11) (N := 79) hx hb hts inB_11 hown hE.1 hP 0 rfl rfl 63 (by decide) (hts _ k_1383) (fun _ h9 => h9) rfl dX11_redo_1 ?_
  have b36_v : 0 ≤ (v 36).toInt ∧ (v 36).toInt ≤ 40 := YIb.b hIv.1 36 (by decide)
  refine lv_if_ne (tgt := 9) hx hb dX11_redo_4 (by decide) (fun c1 => ?_) (fun c1 => ?_)
  · skip
    have zc1 : ¬ ((v 36).toInt = 0) := by rw [fa_eq, show (0 : Int32).toInt = 0 from by decide] at c1; exact c1
    refine lv_aload_n hx hb dX11_redo_9 rfl (lv_at hl 0 rfl) ?_
    refine lv_bipush (v := 39) hx hb dX11_redo_10 (by decide) ?_
    refine lv_aload_n hx hb dX11_redo_12 rfl (lv_at hl 0 rfl) ?_
    refine va_get (D := (dC, dI)) (ci := 11) (v := .int (v 35)) (C := RX11) (T := TX11) (N := 79) hx hb hts inB_11 hown hE.1 hP 0 rfl rfl 62 (by decide) (hts _ k_1382) (fun _ h9 => h9) rfl dX11_redo_13 ?_
    have b35_v : 0 ≤ (v 35).toInt ∧ (v 35).toInt ≤ 40 := YIb.b hIv.1 35 (by decide)
    refine lv_imul hx hb dX11_redo_16 ?_
    refine lv_topi (fun t2 et2 => ?_)
    have rg3 := fb_rng (v 35)
    have zt2 : t2.toInt = 39 * (v 35).toInt := by rw [et2]; exact mul_i (by decide) rfl (by omega) (by omega)
    refine cbVv (n := 1) (rest := []) hx hb hml hown hts hE hP hD hS hA (sY_X11_exchange_1 NF l dC dI cy y0 r t2 v f w g hIv hCf hRf ⟨show (0 : Int) ≤ t2.toInt by omega, show t2.toInt ≤ (1521 : Int) by omega⟩ (by show t2.toInt % 39 = 0; omega)) k_1845 k_1847 k_83 k_114 k_1848 (by decide +kernel) ⟨Nat.le_of_ble_eq_true rfl, Nat.le_of_ble_eq_true rfl⟩ 0 11 rfl rfl (rfl) hl.1 rfl (Nat.le_of_ble_eq_true rfl) dX11_redo_17 (fun u H locs hw hP hD hS => ?_)
    obtain ⟨hG4, hw⟩ := hw
    obtain ⟨v5, f6, w7, g8⟩ := u
    obtain ⟨kV_v5, kF_f6, hIv5, hCf6, hRf6, hk0_v5, hk1_v5, hk2_v5, hk3_v5, hk4_v5, hk5_v5, hk8_v5, hk9_v5, hk10_v5, hk13_v5, hk14_v5, hk15_v5, hk17_v5, hk18_v5, hk24_v5, hk25_v5, hk35_v5, hk36_v5, hk38_v5, hk39_v5⟩ := hw
    have hM_v5 : KV [35, 36] v5 v := KV.tr kV_v5 hM_v rfl
    have hA_f6 : KF [23, 25] f6 f := KF.tr kF_f6 hA_f rfl
    have hP : va_P (dC, dI) vwCl (YW cy y0 r v5 f6 w7 g8) H := hP
    have hD : va_D A (YW cy y0 r v5 f6 w7 g8) := hD
    have hUv5 : (v5 35).toInt + (v5 36).toInt ≤ 40 := hIv5.2
    have hq9_v5 : v5 9 = (v 9) := hk9_v5
    have zq9_v5 := congrArg Int32.toInt hq9_v5
    have hq35_v5 : v5 35 = (v 35) := hk35_v5
    have zq35_v5 := congrArg Int32.toInt hq35_v5
    have hq36_v5 : v5 36 = (v 36) := hk36_v5
    have zq36_v5 := congrArg Int32.toInt hq36_v5
    refine lv_aload_n hx hb dX11_redo_20 rfl (lv_at hl 0 rfl) ?_
    refine lv_dup hx hb dX11_redo_21 rfl ?_
    refine va_get (D := (dC, dI)) (ci := 11) (v := .int (v5 35)) (C := RX11) (T := TX11) (N := 79) hx hb hts inB_11 hown hE.1 hP 0 rfl rfl 62 (by decide) (hts _ k_1382) (fun _ h9 => h9) rfl dX11_redo_22 ?_
    refine tI (y := (v 35)) hq35_v5 ?_
    have b35_v : 0 ≤ (v 35).toInt ∧ (v 35).toInt ≤ 40 := YIb.b hIv.1 35 (by decide)
    refine lv_iconst (v := 1) hx hb dX11_redo_25 (by decide) ?_
    refine lv_iadd hx hb dX11_redo_26 ?_
    refine lv_topi (fun t9 et9 => ?_)
    have zt9 : t9.toInt = (v 35).toInt + 1 := by rw [et9]; exact add_i rfl (by decide) (by omega) (by omega)
    refine va_put (D := (dC, dI)) (ci := 11) (v := .int t9) (ty := tyX11 62) (C := RX11) (T := TX11) (N := 79) hx hb hts inB_11 tyX11 tyX11_ok nmX11 hown hE.1 hP hD hS 0 rfl rfl 62 (by decide) (hts _ k_1382) (fun _ h9 => h9) rfl (tyX11_ok 62 (by decide)) rfl rfl (Nat.le_of_ble_eq_true rfl) dX11_redo_27 (fun H locs hP hD hS => ?_)
    have hP : va_P (dC, dI) vwCl (YW cy y0 r (upd v5 35 t9) f6 w7 g8) H := hP
    have hD : va_D A (YW cy y0 r (upd v5 35 t9) f6 w7 g8) := hD
    refine lv_aload_n hx hb dX11_redo_30 rfl (lv_at hl 0 rfl) ?_
    refine lv_dup hx hb dX11_redo_31 rfl ?_
    refine va_get (D := (dC, dI)) (ci := 11) (v := .int (v5 36)) (C := RX11) (T := TX11) (N := 79) hx hb hts inB_11 hown hE.1 hP 0 rfl rfl 63 (by decide) (hts _ k_1383) (fun _ h9 => h9) rfl dX11_redo_32 ?_
    refine tI (y := (v 36)) hq36_v5 ?_
    have b36_v : 0 ≤ (v 36).toInt ∧ (v 36).toInt ≤ 40 := YIb.b hIv.1 36 (by decide)
    refine lv_iconst (v := 1) hx hb dX11_redo_35 (by decide) ?_
    refine lv_isub hx hb dX11_redo_36 ?_
    refine lv_topi (fun t10 et10 => ?_)
    have rg11 := fb_rng (v 36)
    have zt10 : t10.toInt = (v 36).toInt - 1 := by rw [et10]; exact sub_i rfl (by decide) (by omega) (by omega)
    refine va_put (D := (dC, dI)) (ci := 11) (v := .int t10) (ty := tyX11 63) (C := RX11) (T := TX11) (N := 79) hx hb hts inB_11 tyX11 tyX11_ok nmX11 hown hE.1 hP hD hS 0 rfl rfl 63 (by decide) (hts _ k_1383) (fun _ h9 => h9) rfl (tyX11_ok 63 (by decide)) rfl rfl (Nat.le_of_ble_eq_true rfl) dX11_redo_37 (fun H locs hP hD hS => ?_)
    have hP : va_P (dC, dI) vwCl (YW cy y0 r (upd (upd v5 35 t9) 36 t10) f6 w7 g8) H := hP
    have hD : va_D A (YW cy y0 r (upd (upd v5 35 t9) 36 t10) f6 w7 g8) := hD
    refine lv_iconst (v := 1) hx hb dX11_redo_40 (by decide) ?_
    exact ret 1 ((upd (upd v5 35 t9) 36 t10), f6, w7, g8) _ _ _ _ _ _ rfl ⟨(gsY_X11_redo_1_q0 c1 et2 hG4 et9 et10), (KV.up (j := 36) (x := t10) (KV.up (j := 35) (x := t9) hM_v5 rfl) rfl), hA_f6, ⟨(YIb.upd (j := 36) (x := t10) (YIb.upd (j := 35) (x := t9) hIv5.1 (show (0 : Int) ≤ t9.toInt by omega) (show t9.toInt ≤ (40 : Int) by omega)) (show (0 : Int) ≤ t10.toInt by omega) (show t10.toInt ≤ (40 : Int) by omega)), (by have q9 := hIv5.2; show t9.toInt + t10.toInt ≤ 40; omega)⟩, hCf6, hRf6, hk0_v5, hk1_v5, hk2_v5, hk3_v5, hk4_v5, hk5_v5, hk8_v5, hk9_v5, hk10_v5, hk13_v5, hk14_v5, hk15_v5, hk17_v5, hk18_v5, hk24_v5, hk25_v5, hk38_v5, hk39_v5, (Or.inl rfl)⟩ hP hD hS dX11_redo_41 (Nat.le_refl _) (Nat.le_refl _)
  · skip
    have zc1 : (v 36).toInt = 0 := by rw [fa_eq, show (0 : Int32).toInt = 0 from by decide] at c1; exact c1
    refine lv_iconst (v := 0) hx hb dX11_redo_7 (by decide) ?_
    exact ret 0 (v, f, w, g) _ _ _ _ _ _ rfl ⟨(gsY_X11_redo_1_q1 c1), hM_v, hA_f, hIv, hCf, hRf, rfl, rfl, rfl, rfl, rfl, rfl, rfl, rfl, rfl, rfl, rfl, rfl, rfl, rfl, rfl, rfl, rfl, rfl, (Or.inr rfl)⟩ hP hD hS dX11_redo_8 (Nat.le_refl _) (Nat.le_refl _)
