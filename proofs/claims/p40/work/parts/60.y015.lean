set_option maxHeartbeats 4000000 in
set_option maxRecDepth 100000 in
theorem sY_X11_isSewn_1 (l : Launch) (dC : Nat → ClassId) (dI : Nat → Nat → Nat) (cy : Nat → ClassId) (y0 : Nat) (r : Nat → Nat) (p1 : Int32) (p2 : Int32) (p3 : Int32) (p4 : Int32) (v : Nat → Int32) (f : Nat → Nat → Int32) (w : Int64) (g : Nat → Int64) (hIv : YI v) (hCf : YC f) (hRf : progOK (f 4) (f 5) (v 9).toInt.toNat) (hp1 : (0 : Int) ≤ p1.toInt ∧ p1.toInt ≤ 5) (hp2 : (0 : Int) ≤ p2.toInt ∧ p2.toInt ≤ 5) : ctI l (dC, dI) cy yX11_isSewn cX11_isSewn 5 .boolean 4 126 0 0 ((Nat → Int32) × (Nat → Nat → Int32) × (Int64) × (Nat → Int64)) [.ref y0, .int p1, .int p2, .int p3, .int p4] (YW cy y0 r v f w g) (fun r u => KV [] u.1 v ∧ KF [7, 8, 24] u.2.1 f ∧ YI u.1 ∧ YC u.2.1 ∧ progOK (u.2.1 4) (u.2.1 5) (u.1 9).toInt.toNat ∧ u.1 0 = v 0 ∧ u.1 1 = v 1 ∧ u.1 2 = v 2 ∧ u.1 3 = v 3 ∧ u.1 4 = v 4 ∧ u.1 5 = v 5 ∧ u.1 8 = v 8 ∧ u.1 9 = v 9 ∧ u.1 10 = v 10 ∧ u.1 13 = v 13 ∧ u.1 14 = v 14 ∧ u.1 15 = v 15 ∧ u.1 17 = v 17 ∧ u.1 18 = v 18 ∧ u.1 24 = v 24 ∧ u.1 25 = v 25 ∧ u.1 35 = v 35 ∧ u.1 36 = v 36 ∧ u.1 38 = v 38 ∧ u.1 39 = v 39 ∧ ((r = 1) ∨ (r = 0))) (fun u => YW cy y0 r u.1 u.2.1 u.2.2.1 u.2.2.2) := by
  refine ctI_of (by decide) (Nat.le_of_ble_eq_true rfl) (fun p e s m below meth c A ls Q hx hb hml hts hown hE hP hD hA hl ret => ?_)
  have hUv : (v 35).toInt + (v 36).toInt ≤ 40 := hIv.2
  have hM_v : KV [] v v := fun _ _ => rfl
  have hA_f : KF [7, 8, 24] f f := fun _ _ => rfl
  have hown : s.vm.findClass RX11 = some m.cls := hown
  have hS : va_S A s.heap s.heap [] := va_S.rf
  have hl : lv_has ls 5 [(0, .ref y0), (1, .int p1), (2, .int p2), (3, .int p3), (4, .int p4)] := hl
  refine lv_aload_n hx hb dX11_isSewn_0 rfl (lv_at hl 0 rfl) ?_
  refine cbVv (n := 0) (rest := []) hx hb hml hown hts hE hP hD hS hA (sY_X11_fill_1 l dC dI cy y0 r  v f w g hIv hCf hRf ) k_1739 k_1741 k_71 k_114 k_1742 (by decide +kernel) ⟨Nat.le_of_ble_eq_true rfl, Nat.le_of_ble_eq_true rfl⟩ 0 11 rfl rfl (rfl) hl.1 rfl (Nat.le_of_ble_eq_true rfl) dX11_isSewn_1 (fun u H locs hw hP hD hS => ?_)
  obtain ⟨v1, f2, w3, g4⟩ := u
  obtain ⟨kV_v1, kF_f2, hIv1, hCf2, hRf2, hk0_v1, hk1_v1, hk2_v1, hk3_v1, hk4_v1, hk5_v1, hk8_v1, hk9_v1, hk10_v1, hk13_v1, hk14_v1, hk15_v1, hk17_v1, hk18_v1, hk24_v1, hk25_v1, hk35_v1, hk36_v1, hk38_v1, hk39_v1⟩ := hw
  have hM_v1 : KV [] v1 v := KV.tr kV_v1 hM_v rfl
  have hA_f2 : KF [7, 8, 24] f2 f := KF.tr kF_f2 hA_f rfl
  have hP : va_P (dC, dI) vwCl (YW cy y0 r v1 f2 w3 g4) H := hP
  have hD : va_D A (YW cy y0 r v1 f2 w3 g4) := hD
  have hUv1 : (v1 35).toInt + (v1 36).toInt ≤ 40 := hIv1.2
  have hq9_v1 : v1 9 = (v 9) := hk9_v1
  have zq9_v1 := congrArg Int32.toInt hq9_v1
  refine lv_aload_n hx hb dX11_isSewn_4 rfl (lv_at hl 0 rfl) ?_
  refine va_get (D := (dC, dI)) (ci := 11) (v := .ref (r 60)) (C := RX11) (T := TX11) (N := 79) hx hb hts inB_11 hown hE.1 hP 0 rfl rfl 60 (by decide) (hts _ k_1380) (fun _ h9 => h9) rfl dX11_isSewn_5 ?_
  refine lv_bipush (v := 12) hx hb dX11_isSewn_8 (by decide) ?_
  refine lv_iload_n hx hb dX11_isSewn_10 rfl (lv_at hl 1 rfl) ?_
  refine lv_iadd hx hb dX11_isSewn_11 ?_
  refine lv_topi (fun t5 et5 => ?_)
  have rg6 := fb_rng p1
  have zt5 : t5.toInt = 12 + p1.toInt := by rw [et5]; exact add_i (by decide) rfl (by omega) (by omega)
  refine lv_dup2_11 hx hb dX11_isSewn_12 rfl rfl ?_
  refine ldI hx hb hE hP 25 rfl (vp_in_iff.mpr ⟨by omega, by omega⟩) rfl rfl dX11_isSewn_13 ?_
  refine lv_topi (fun t7 et7 => ?_)
  have zt7 : t5.toInt.toNat % 39 < 6 ∨ 12 ≤ t5.toInt.toNat % 39 ∨ (-1 ≤ t7.toInt ∧ t7.toInt ≤ 5) := by rw [et7]; exact wear_ld hCf2.2.1 (show t5.toInt.toNat < 39 by omega)
  refine lv_iload_n hx hb dX11_isSewn_14 rfl (lv_at hl 3 rfl) ?_
  refine lv_isub hx hb dX11_isSewn_15 ?_
  refine lv_topi (fun t8 et8 => ?_)
  refine stI hx hb hE hP hD hS 25 rfl (vp_in_iff.mpr ⟨by omega, by omega⟩) rfl dX11_isSewn_16 (fun H locs hP hD hS => ?_)
  obtain ⟨f9, ef9, hP, hD⟩ : ∃ fz9, fz9 = upd2 f2 24 (upd (f2 24) t5.toNatClampNeg t8) ∧ va_P (dC, dI) vwCl (YW cy y0 r v1 fz9 w3 g4) H ∧ va_D A (YW cy y0 r v1 fz9 w3 g4) := ⟨_, rfl, hP, hD⟩
  have hCf9 : YC f9 := by rw [ef9]; exact ⟨hCf2.1, (wear_st hCf2.2.1 (by show t5.toInt.toNat % 39 < 6 ∨ 12 ≤ t5.toInt.toNat % 39 ∨ (-1 ≤ t8.toInt ∧ t8.toInt ≤ 5); omega)), hCf2.2.2.1, hCf2.2.2.2.1, hCf2.2.2.2.2.1, hCf2.2.2.2.2.2⟩
  have hRf9 : progOK (f9 4) (f9 5) (v1 9).toInt.toNat := by rw [ef9]; exact hRf2
  have hA_f9 : KF [7, 8, 24] f9 f := by rw [ef9]; exact KF.up hA_f2 rfl
  refine lv_aload_n hx hb dX11_isSewn_17 rfl (lv_at hl 0 rfl) ?_
  refine va_get (D := (dC, dI)) (ci := 11) (v := .ref (r 60)) (C := RX11) (T := TX11) (N := 79) hx hb hts inB_11 hown hE.1 hP 0 rfl rfl 60 (by decide) (hts _ k_1380) (fun _ h9 => h9) rfl dX11_isSewn_18 ?_
  refine lv_bipush (v := 18) hx hb dX11_isSewn_21 (by decide) ?_
  refine lv_iload_n hx hb dX11_isSewn_23 rfl (lv_at hl 1 rfl) ?_
  refine lv_iadd hx hb dX11_isSewn_24 ?_
  refine lv_topi (fun t10 et10 => ?_)
  have zt10 : t10.toInt = 18 + p1.toInt := by rw [et10]; exact add_i (by decide) rfl (by omega) (by omega)
  refine lv_dup2_11 hx hb dX11_isSewn_25 rfl rfl ?_
  refine ldI hx hb hE hP 25 rfl (vp_in_iff.mpr ⟨by omega, by omega⟩) rfl rfl dX11_isSewn_26 ?_
  refine lv_topi (fun t11 et11 => ?_)
  have zt11 : t10.toInt.toNat % 39 < 6 ∨ 12 ≤ t10.toInt.toNat % 39 ∨ (-1 ≤ t11.toInt ∧ t11.toInt ≤ 5) := by rw [et11]; exact wear_ld hCf9.2.1 (show t10.toInt.toNat < 39 by omega)
  refine lv_iload hx hb dX11_isSewn_27 (lv_at hl 4 rfl) ?_
  refine lv_isub hx hb dX11_isSewn_29 ?_
  refine lv_topi (fun t12 et12 => ?_)
  refine stI hx hb hE hP hD hS 25 rfl (vp_in_iff.mpr ⟨by omega, by omega⟩) rfl dX11_isSewn_30 (fun H locs hP hD hS => ?_)
  obtain ⟨f13, ef13, hP, hD⟩ : ∃ fz9, fz9 = upd2 f9 24 (upd (f9 24) t10.toNatClampNeg t12) ∧ va_P (dC, dI) vwCl (YW cy y0 r v1 fz9 w3 g4) H ∧ va_D A (YW cy y0 r v1 fz9 w3 g4) := ⟨_, rfl, hP, hD⟩
  have hCf13 : YC f13 := by rw [ef13]; exact ⟨hCf9.1, (wear_st hCf9.2.1 (by show t10.toInt.toNat % 39 < 6 ∨ 12 ≤ t10.toInt.toNat % 39 ∨ (-1 ≤ t12.toInt ∧ t12.toInt ≤ 5); omega)), hCf9.2.2.1, hCf9.2.2.2.1, hCf9.2.2.2.2.1, hCf9.2.2.2.2.2⟩
  have hRf13 : progOK (f13 4) (f13 5) (v1 9).toInt.toNat := by rw [ef13]; exact hRf9
  have hA_f13 : KF [7, 8, 24] f13 f := by rw [ef13]; exact KF.up hA_f9 rfl
  refine lv_aload_n hx hb dX11_isSewn_31 rfl (lv_at hl 0 rfl) ?_
  refine lv_iload_n hx hb dX11_isSewn_32 rfl (lv_at hl 2 rfl) ?_
  refine lv_iload_n hx hb dX11_isSewn_33 rfl (lv_at hl 1 rfl) ?_
  refine cbVi (n := 2) (rest := []) hx hb hml hown hts hE hP hD hS hA (sY_X11_misfitOf_1 l dC dI cy y0 r p2 p1 v1 f13 w3 g4 hIv1 hCf13 hRf13 ⟨show (0 : Int) ≤ p2.toInt by omega, show p2.toInt ≤ (5 : Int) by omega⟩ ⟨show (0 : Int) ≤ p1.toInt by omega, show p1.toInt ≤ (5 : Int) by omega⟩) k_1751 k_1753 k_74 k_114 k_1754 (by decide +kernel) ⟨Nat.le_of_ble_eq_true rfl, Nat.le_of_ble_eq_true rfl⟩ 0 11 rfl rfl (rfl) hl.1 rfl (Nat.le_of_ble_eq_true rfl) dX11_isSewn_34 (fun r14 u H locs hw hP hD hS => ?_)
  obtain ⟨v15, f16, w17, g18⟩ := u
  obtain ⟨kV_v15, kF_f16, hIv15, hCf16, hRf16, hk0_v15, hk1_v15, hk2_v15, hk3_v15, hk4_v15, hk5_v15, hk8_v15, hk9_v15, hk10_v15, hk13_v15, hk14_v15, hk15_v15, hk17_v15, hk18_v15, hk24_v15, hk25_v15, hk35_v15, hk36_v15, hk38_v15, hk39_v15⟩ := hw
  have hM_v15 : KV [] v15 v := KV.tr kV_v15 hM_v1 rfl
  have hA_f16 : KF [7, 8, 24] f16 f := KF.tr kF_f16 hA_f13 rfl
  have hP : va_P (dC, dI) vwCl (YW cy y0 r v15 f16 w17 g18) H := hP
  have hD : va_D A (YW cy y0 r v15 f16 w17 g18) := hD
  have hUv15 : (v15 35).toInt + (v15 36).toInt ≤ 40 := hIv15.2
  have hq9_v15 : v15 9 = (v 9) := hk9_v15.trans hq9_v1
  have zq9_v15 := congrArg Int32.toInt hq9_v15
  refine lv_aload_n hx hb dX11_isSewn_37 rfl (lv_at hl 0 rfl) ?_
  refine va_get (D := (dC, dI)) (ci := 11) (v := .int (v15 26)) (C := RX11) (T := TX11) (N := 79) hx hb hts inB_11 hown hE.1 hP 0 rfl rfl 50 (by decide) (hts _ k_1370) (fun _ h9 => h9) rfl dX11_isSewn_38 ?_
  refine lv_icmp_gt (tgt := 48) hx hb dX11_isSewn_41 (by decide) (fun c19 => ?_) (fun c19 => ?_)
  · skip
    have zc19 : (v15 26).toInt < r14.toInt := by rw [fa_lt] at c19; exact c19
    have rg20 := fb_rng r14
    have rg21 := fb_rng (v15 26)
    refine lv_iconst (v := 0) hx hb dX11_isSewn_48 (by decide) ?_
    exact ret 0 (v15, f16, w17, g18) _ _ _ _ _ _ rfl ⟨hM_v15, hA_f16, hIv15, hCf16, hRf16, (hk0_v15.trans hk0_v1), (hk1_v15.trans hk1_v1), (hk2_v15.trans hk2_v1), (hk3_v15.trans hk3_v1), (hk4_v15.trans hk4_v1), (hk5_v15.trans hk5_v1), (hk8_v15.trans hk8_v1), (hk9_v15.trans hk9_v1), (hk10_v15.trans hk10_v1), (hk13_v15.trans hk13_v1), (hk14_v15.trans hk14_v1), (hk15_v15.trans hk15_v1), (hk17_v15.trans hk17_v1), (hk18_v15.trans hk18_v1), (hk24_v15.trans hk24_v1), (hk25_v15.trans hk25_v1), (hk35_v15.trans hk35_v1), (hk36_v15.trans hk36_v1), (hk38_v15.trans hk38_v1), (hk39_v15.trans hk39_v1), (Or.inr rfl)⟩ hP hD hS dX11_isSewn_49 (Nat.le_refl _) (Nat.le_refl _)
  · skip
    have zc19 : ¬ ((v15 26).toInt < r14.toInt) := by rw [fa_lt] at c19; exact c19
    have rg22 := fb_rng r14
    have rg23 := fb_rng (v15 26)
    refine lv_iconst (v := 1) hx hb dX11_isSewn_44 (by decide) ?_
    refine lv_goto (tgt := 49) hx hb dX11_isSewn_45 (by decide) ?_
    exact ret 1 (v15, f16, w17, g18) _ _ _ _ _ _ rfl ⟨hM_v15, hA_f16, hIv15, hCf16, hRf16, (hk0_v15.trans hk0_v1), (hk1_v15.trans hk1_v1), (hk2_v15.trans hk2_v1), (hk3_v15.trans hk3_v1), (hk4_v15.trans hk4_v1), (hk5_v15.trans hk5_v1), (hk8_v15.trans hk8_v1), (hk9_v15.trans hk9_v1), (hk10_v15.trans hk10_v1), (hk13_v15.trans hk13_v1), (hk14_v15.trans hk14_v1), (hk15_v15.trans hk15_v1), (hk17_v15.trans hk17_v1), (hk18_v15.trans hk18_v1), (hk24_v15.trans hk24_v1), (hk25_v15.trans hk25_v1), (hk35_v15.trans hk35_v1), (hk36_v15.trans hk36_v1), (hk38_v15.trans hk38_v1), (hk39_v15.trans hk39_v1), (Or.inl rfl)⟩ hP hD hS dX11_isSewn_49 (Nat.le_refl _) (Nat.le_refl _)
set_option maxHeartbeats 4000000 in
set_option maxRecDepth 100000 in
theorem sY_X11_sewing_1 (l : Launch) (dC : Nat → ClassId) (dI : Nat → Nat → Nat) (cy : Nat → ClassId) (y0 : Nat) (r : Nat → Nat) (p1 : Int32) (p2 : Int32) (p3 : Int32) (v : Nat → Int32) (f : Nat → Nat → Int32) (w : Int64) (g : Nat → Int64) (hIv : YI v) (hCf : YC f) (hRf : progOK (f 4) (f 5) (v 9).toInt.toNat)  : ctI l (dC, dI) cy yX11_sewing cX11_sewing 10 .int 5 150 0 0 ((Nat → Int32) × (Nat → Nat → Int32) × (Int64) × (Nat → Int64)) [.ref y0, .int p1, .int p2, .int p3] (YW cy y0 r v f w g) (fun r u => KV [] u.1 v ∧ KF [7, 8, 24] u.2.1 f ∧ YI u.1 ∧ YC u.2.1 ∧ progOK (u.2.1 4) (u.2.1 5) (u.1 9).toInt.toNat ∧ u.1 0 = v 0 ∧ u.1 1 = v 1 ∧ u.1 2 = v 2 ∧ u.1 3 = v 3 ∧ u.1 4 = v 4 ∧ u.1 5 = v 5 ∧ u.1 8 = v 8 ∧ u.1 9 = v 9 ∧ u.1 10 = v 10 ∧ u.1 13 = v 13 ∧ u.1 14 = v 14 ∧ u.1 15 = v 15 ∧ u.1 17 = v 17 ∧ u.1 18 = v 18 ∧ u.1 24 = v 24 ∧ u.1 25 = v 25 ∧ u.1 35 = v 35 ∧ u.1 36 = v 36 ∧ u.1 38 = v 38 ∧ u.1 39 = v 39) (fun u => YW cy y0 r u.1 u.2.1 u.2.2.1 u.2.2.2) := by
  refine ctI_of (by decide) (Nat.le_of_ble_eq_true rfl) (fun p e s m below meth c A ls Q hx hb hml hts hown hE hP hD hA hl ret => ?_)
  have hUv : (v 35).toInt + (v 36).toInt ≤ 40 := hIv.2
  have hM_v : KV [] v v := fun _ _ => rfl
  have hA_f : KF [7, 8, 24] f f := fun _ _ => rfl
  have hown : s.vm.findClass RX11 = some m.cls := hown
  have hS : va_S A s.heap s.heap [] := va_S.rf
  have hl : lv_has ls 10 [(0, .ref y0), (1, .int p1), (2, .int p2), (3, .int p3)] := hl
  refine lv_aload_n hx hb dX11_sewing_0 rfl (lv_at hl 0 rfl) ?_
  refine lv_iload_n hx hb dX11_sewing_1 rfl (lv_at hl 1 rfl) ?_
  refine cbVi (n := 1) (rest := []) hx hb hml hown hts hE hP hD hS hA (sY_X11_isCoat_1 l dC dI cy y0 r p1 v f w g hIv hCf hRf ) k_1771 k_1773 k_75 k_114 k_1774 (by decide +kernel) ⟨Nat.le_of_ble_eq_true rfl, Nat.le_of_ble_eq_true rfl⟩ 0 11 rfl rfl (rfl) hl.1 rfl (Nat.le_of_ble_eq_true rfl) dX11_sewing_2 (fun r1 u H locs hw hP hD hS => ?_)
  rcases hw with ⟨g2, g2_0, g2_1, g2_2⟩ | ⟨g2⟩
  · skip
    subst g2
    refine lv_if_eq (tgt := 25) hx hb dX11_sewing_5 (by decide) (fun c0 => absurd c0 (by decide)) (fun _ => ?_)
    refine lv_aload_n hx hb dX11_sewing_8 rfl (lv_at hl 0 rfl) ?_
    refine lv_iload_n hx hb dX11_sewing_9 rfl (lv_at hl 2 rfl) ?_
    refine cbVi (n := 1) (rest := []) hx hb hml hown hts hE hP hD hS hA (sY_X11_isMan_1 l dC dI cy y0 r p2 v f w g hIv hCf hRf ) k_1732 k_1734 k_70 k_114 k_1735 (by decide +kernel) ⟨Nat.le_of_ble_eq_true rfl, Nat.le_of_ble_eq_true rfl⟩ 0 11 rfl rfl (rfl) hl.1 rfl (Nat.le_of_ble_eq_true rfl) dX11_sewing_10 (fun r3 u H locs hw hP hD hS => ?_)
    rcases hw with ⟨g4, g4_0, g4_1, g4_2⟩ | ⟨g4⟩
    · skip
      subst g4
      refine lv_if_eq (tgt := 25) hx hb dX11_sewing_13 (by decide) (fun c0 => absurd c0 (by decide)) (fun _ => ?_)
      refine lv_iload_n hx hb dX11_sewing_16 rfl (lv_at hl 3 rfl) ?_
      refine lv_iconst (v := 0) hx hb dX11_sewing_17 (by decide) ?_
      refine lv_iconst (v := 2) hx hb dX11_sewing_18 (by decide) ?_
      have lt5 : (0 : Int32).toInt = 0 := by decide
      have lt6 : (2 : Int32).toInt = 2 := by decide
      refine cbSi (n := 3) (rest := []) hx hb hml hown hts hE hP hD hS hA (sY_X11_isIn_1 0 l dC dI cy y0 r p3 0 2 v f w g hIv hCf hRf ) k_1736 k_1737 k_114 k_1738 (by decide +kernel) ⟨Nat.le_of_ble_eq_true rfl, Nat.le_of_ble_eq_true rfl⟩ (rfl) hl.1 rfl (Nat.le_of_ble_eq_true rfl) dX11_sewing_19 (fun r7 u H locs hw hP hD hS => ?_)
      obtain ⟨hG8, hw⟩ := hw
      rcases hw with ⟨g9, g9_0, g9_1⟩ | ⟨g9⟩
      · skip
        subst g9
        refine lv_if_ne (tgt := 28) hx hb dX11_sewing_22 (by decide) (fun _ => ?_) (fun c0 => absurd c0 (by decide))
        refine lv_bipush (v := 20) hx hb dX11_sewing_28 (by decide) ?_
        refine lv_aload_n hx hb dX11_sewing_30 rfl (lv_at hl 0 rfl) ?_
        refine va_get (D := (dC, dI)) (ci := 11) (v := .ref (r 59)) (C := RX11) (T := TX11) (N := 79) hx hb hts inB_11 hown hE.1 hP 0 rfl rfl 59 (by decide) (hts _ k_1379) (fun _ h9 => h9) rfl dX11_sewing_31 ?_
        refine lv_bipush (v := 12) hx hb dX11_sewing_34 (by decide) ?_
        refine lv_iload_n hx hb dX11_sewing_36 rfl (lv_at hl 1 rfl) ?_
        refine lv_iadd hx hb dX11_sewing_37 ?_
        refine lv_topi (fun t10 et10 => ?_)
        have rg11 := fb_rng p1
        have zt10 : t10.toInt = 12 + p1.toInt := by rw [et10]; exact add_i (by decide) rfl (by omega) (by omega)
        refine ldI hx hb hE hP 24 rfl (vp_in_iff.mpr ⟨by omega, by omega⟩) rfl rfl dX11_sewing_38 ?_
        refine lv_topi (fun t12 et12 => ?_)
        have zt12 : t10.toInt.toNat % 39 < 6 ∨ 12 ≤ t10.toInt.toNat % 39 ∨ (-1 ≤ t12.toInt ∧ t12.toInt ≤ 5) := by rw [et12]; exact wear_ld hCf.1 (show t10.toInt.toNat < 39 by omega)
        have lt13 : (20 : Int32).toInt = 20 := by decide
        refine cbSi (n := 2) (rest := []) hx hb hml hown hts hE hP hD hS hA (sY_X11_lesser_1 l dC dI cy y0 r 20 t12 v f w g hIv hCf hRf ) k_1799 k_1800 k_114 k_1801 (by decide +kernel) ⟨Nat.le_of_ble_eq_true rfl, Nat.le_of_ble_eq_true rfl⟩ (rfl) hl.1 rfl (Nat.le_of_ble_eq_true rfl) dX11_sewing_39 (fun r14 u H locs hw hP hD hS => ?_)
        obtain ⟨pp15, pp16⟩ := hw
        have pp15 : r14.toInt ≤ (20 : Int32).toInt := pp15
        have pp16 : r14.toInt ≤ t12.toInt := pp16
        refine lv_istore (lv' := [(4, .int r14), (0, .ref y0), (1, .int p1), (2, .int p2), (3, .int p3)]) hx hb dX11_sewing_42 hl (by decide) rfl (fun ls hl => ?_)
        refine lv_bipush (v := 20) hx hb dX11_sewing_44 (by decide) ?_
        refine lv_aload_n hx hb dX11_sewing_46 rfl (lv_at hl 1 rfl) ?_
        refine va_get (D := (dC, dI)) (ci := 11) (v := .ref (r 59)) (C := RX11) (T := TX11) (N := 79) hx hb hts inB_11 hown hE.1 hP 0 rfl rfl 59 (by decide) (hts _ k_1379) (fun _ h9 => h9) rfl dX11_sewing_47 ?_
        refine lv_bipush (v := 18) hx hb dX11_sewing_50 (by decide) ?_
        refine lv_iload_n hx hb dX11_sewing_52 rfl (lv_at hl 2 rfl) ?_
        refine lv_iadd hx hb dX11_sewing_53 ?_
        refine lv_topi (fun t17 et17 => ?_)
        have zt17 : t17.toInt = 18 + p1.toInt := by rw [et17]; exact add_i (by decide) rfl (by omega) (by omega)
        refine ldI hx hb hE hP 24 rfl (vp_in_iff.mpr ⟨by omega, by omega⟩) rfl rfl dX11_sewing_54 ?_
        refine lv_topi (fun t18 et18 => ?_)
        have zt18 : t17.toInt.toNat % 39 < 6 ∨ 12 ≤ t17.toInt.toNat % 39 ∨ (-1 ≤ t18.toInt ∧ t18.toInt ≤ 5) := by rw [et18]; exact wear_ld hCf.1 (show t17.toInt.toNat < 39 by omega)
        refine cbSi (n := 2) (rest := []) hx hb hml hown hts hE hP hD hS hA (sY_X11_lesser_1 l dC dI cy y0 r 20 t18 v f w g hIv hCf hRf ) k_1799 k_1800 k_114 k_1801 (by decide +kernel) ⟨Nat.le_of_ble_eq_true rfl, Nat.le_of_ble_eq_true rfl⟩ (rfl) hl.1 rfl (Nat.le_of_ble_eq_true rfl) dX11_sewing_55 (fun r19 u H locs hw hP hD hS => ?_)
        obtain ⟨pp20, pp21⟩ := hw
        have pp20 : r19.toInt ≤ (20 : Int32).toInt := pp20
        have pp21 : r19.toInt ≤ t18.toInt := pp21
        refine lv_istore (lv' := [(5, .int r19), (4, .int r14), (0, .ref y0), (1, .int p1), (2, .int p2), (3, .int p3)]) hx hb dX11_sewing_58 hl (by decide) rfl (fun ls hl => ?_)
        refine lv_bipush (v := 20) hx hb dX11_sewing_60 (by decide) ?_
        refine lv_aload_n hx hb dX11_sewing_62 rfl (lv_at hl 2 rfl) ?_
        refine va_get (D := (dC, dI)) (ci := 11) (v := .ref (r 59)) (C := RX11) (T := TX11) (N := 79) hx hb hts inB_11 hown hE.1 hP 0 rfl rfl 59 (by decide) (hts _ k_1379) (fun _ h9 => h9) rfl dX11_sewing_63 ?_
        refine lv_bipush (v := 24) hx hb dX11_sewing_66 (by decide) ?_
        refine lv_iload_n hx hb dX11_sewing_68 rfl (lv_at hl 3 rfl) ?_
        refine lv_iadd hx hb dX11_sewing_69 ?_
        refine lv_topi (fun t22 et22 => ?_)
        have zt22 : t22.toInt = 24 + p1.toInt := by rw [et22]; exact add_i (by decide) rfl (by omega) (by omega)
        refine ldI hx hb hE hP 24 rfl (vp_in_iff.mpr ⟨by omega, by omega⟩) rfl rfl dX11_sewing_70 ?_
        refine lv_topi (fun t23 et23 => ?_)
        have zt23 : t22.toInt.toNat % 39 < 6 ∨ 12 ≤ t22.toInt.toNat % 39 ∨ (-1 ≤ t23.toInt ∧ t23.toInt ≤ 5) := by rw [et23]; exact wear_ld hCf.1 (show t22.toInt.toNat < 39 by omega)
        refine cbSi (n := 2) (rest := []) hx hb hml hown hts hE hP hD hS hA (sY_X11_lesser_1 l dC dI cy y0 r 20 t23 v f w g hIv hCf hRf ) k_1799 k_1800 k_114 k_1801 (by decide +kernel) ⟨Nat.le_of_ble_eq_true rfl, Nat.le_of_ble_eq_true rfl⟩ (rfl) hl.1 rfl (Nat.le_of_ble_eq_true rfl) dX11_sewing_71 (fun r24 u H locs hw hP hD hS => ?_)
        obtain ⟨pp25, pp26⟩ := hw
        have pp25 : r24.toInt ≤ (20 : Int32).toInt := pp25
        have pp26 : r24.toInt ≤ t23.toInt := pp26
        refine lv_bipush (v := 99) hx hb dX11_sewing_74 (by decide) ?_
        refine lv_aload_n hx hb dX11_sewing_76 rfl (lv_at hl 2 rfl) ?_
        refine va_get (D := (dC, dI)) (ci := 11) (v := .ref (r 59)) (C := RX11) (T := TX11) (N := 79) hx hb hts inB_11 hown hE.1 hP 0 rfl rfl 59 (by decide) (hts _ k_1379) (fun _ h9 => h9) rfl dX11_sewing_77 ?_
        refine lv_bipush (v := 18) hx hb dX11_sewing_80 (by decide) ?_
        refine lv_iload_n hx hb dX11_sewing_82 rfl (lv_at hl 3 rfl) ?_
        refine lv_iadd hx hb dX11_sewing_83 ?_
        refine tI (y := t17) et17.symm ?_
        refine ldI hx hb hE hP 24 rfl (vp_in_iff.mpr ⟨by omega, by omega⟩) rfl rfl dX11_sewing_84 ?_
        refine tI (y := t18) et18.symm ?_
        refine lv_isub hx hb dX11_sewing_85 ?_
        refine lv_topi (fun t27 et27 => ?_)
        refine cbSi (n := 2) (rest := []) hx hb hml hown hts hE hP hD hS hA (sY_X11_lesser_1 l dC dI cy y0 r r24 t27 v f w g hIv hCf hRf ) k_1799 k_1800 k_114 k_1801 (by decide +kernel) ⟨Nat.le_of_ble_eq_true rfl, Nat.le_of_ble_eq_true rfl⟩ (rfl) hl.1 rfl (Nat.le_of_ble_eq_true rfl) dX11_sewing_86 (fun r28 u H locs hw hP hD hS => ?_)
        obtain ⟨pp29, pp30⟩ := hw
        have pp29 : r28.toInt ≤ r24.toInt := pp29
        have pp30 : r28.toInt ≤ t27.toInt := pp30
        refine lv_istore (lv' := [(6, .int r28), (5, .int r19), (4, .int r14), (0, .ref y0), (1, .int p1), (2, .int p2), (3, .int p3)]) hx hb dX11_sewing_89 hl (by decide) rfl (fun ls hl => ?_)
        refine lv_iconst (v := 0) hx hb dX11_sewing_91 (by decide) ?_
        refine lv_istore (lv' := [(7, .int 0), (6, .int r28), (5, .int r19), (4, .int r14), (0, .ref y0), (1, .int p1), (2, .int p2), (3, .int p3)]) hx hb dX11_sewing_92 hl (by decide) rfl (fun ls hl => ?_)
        have lp31 : ∀ (n31 : Nat) (l7_31 : Int32) (v31 : Nat → Int32) (f31 : Nat → Nat → Int32) (w31 : Int64) (g31 : Nat → Int64), YI v31 → YC f31 → progOK (f31 4) (f31 5) (v31 9).toInt.toNat → v31 0 = (v 0) → v31 1 = (v 1) → v31 2 = (v 2) → v31 3 = (v 3) → v31 4 = (v 4) → v31 5 = (v 5) → v31 8 = (v 8) → v31 9 = (v 9) → v31 10 = (v 10) → v31 13 = (v 13) → v31 14 = (v 14) → v31 15 = (v 15) → v31 17 = (v 17) → v31 18 = (v 18) → v31 24 = (v 24) → v31 25 = (v 25) → v31 35 = (v 35) → v31 36 = (v 36) → v31 38 = (v 38) → v31 39 = (v 39) → ((0 : Int) ≤ l7_31.toInt ∧ l7_31.toInt ≤ 2147483647) → KV [] v31 v → KF [7, 8, 24] f31 f → (2147483647 - l7_31.toInt).toNat < n31 → ∀ (H : Heap) (locs : List Loc) (ls : Array Slot), va_P (dC, dI) vwCl (YW cy y0 r v31 f31 w31 g31) H → va_D A (YW cy y0 r v31 f31 w31 g31) → va_S A s.heap H locs → lv_has ls 10 [(7, .int l7_31), (6, .int r28), (5, .int r19), (4, .int r14), (0, .ref y0), (1, .int p1), (2, .int p2), (3, .int p3)] → W p l e { frames := 5, cells := 0, slots := 0, locals := 150 } s m ([.ref y0, .int p1, .int p2, .int p3] : List Value).toArray below meth c H locs 0 0 Q (F0 m 94 ls []) := by
          intro n31
          induction n31 with
          | zero => intro l7_31 v31 f31 w31 g31 hIv31 hCf31 hRf31 hq0_v31 hq1_v31 hq2_v31 hq3_v31 hq4_v31 hq5_v31 hq8_v31 hq9_v31 hq10_v31 hq13_v31 hq14_v31 hq15_v31 hq17_v31 hq18_v31 hq24_v31 hq25_v31 hq35_v31 hq36_v31 hq38_v31 hq39_v31 hr7_31 hM_v31 hA_f31 hm; exact absurd hm (Nat.not_lt_zero _)
          | succ n31 ih31 =>
            intro l7_31 v31 f31 w31 g31 hIv31 hCf31 hRf31 hq0_v31 hq1_v31 hq2_v31 hq3_v31 hq4_v31 hq5_v31 hq8_v31 hq9_v31 hq10_v31 hq13_v31 hq14_v31 hq15_v31 hq17_v31 hq18_v31 hq24_v31 hq25_v31 hq35_v31 hq36_v31 hq38_v31 hq39_v31 hr7_31 hM_v31 hA_f31 hm31 H locs ls hP hD hS hl
            have hUv31 : (v31 35).toInt + (v31 36).toInt ≤ 40 := hIv31.2
            have zq9_v31 := congrArg Int32.toInt hq9_v31
            refine lv_iload hx hb dX11_sewing_94 (lv_at hl 0 rfl) ?_
            refine lv_bipush (v := 40) hx hb dX11_sewing_96 (by decide) ?_
            refine lv_icmp_gt (tgt := 226) hx hb dX11_sewing_98 (by decide) (fun c32 => ?_) (fun c32 => ?_)
            · skip
              have zc32 : 40 < l7_31.toInt := by rw [fa_lt, show (40 : Int32).toInt = 40 from by decide] at c32; exact c32
              refine lv_bipush (v := (-100)) hx hb dX11_sewing_226 (by decide) ?_
              exact ret (-100) (v31, f31, w31, g31) _ _ _ _ _ _ rfl ⟨hM_v31, hA_f31, hIv31, hCf31, hRf31, (show v31 0 = v 0 from hq0_v31), (show v31 1 = v 1 from hq1_v31), (show v31 2 = v 2 from hq2_v31), (show v31 3 = v 3 from hq3_v31), (show v31 4 = v 4 from hq4_v31), (show v31 5 = v 5 from hq5_v31), (show v31 8 = v 8 from hq8_v31), (show v31 9 = v 9 from hq9_v31), (show v31 10 = v 10 from hq10_v31), (show v31 13 = v 13 from hq13_v31), (show v31 14 = v 14 from hq14_v31), (show v31 15 = v 15 from hq15_v31), (show v31 17 = v 17 from hq17_v31), (show v31 18 = v 18 from hq18_v31), (show v31 24 = v 24 from hq24_v31), (show v31 25 = v 25 from hq25_v31), (show v31 35 = v 35 from hq35_v31), (show v31 36 = v 36 from hq36_v31), (show v31 38 = v 38 from hq38_v31), (show v31 39 = v 39 from hq39_v31)⟩ hP hD hS dX11_sewing_228 (Nat.le_refl _) (Nat.le_refl _)
            · skip
              have zc32 : ¬ (40 < l7_31.toInt) := by rw [fa_lt, show (40 : Int32).toInt = 40 from by decide] at c32; exact c32
              refine lv_iconst (v := 0) hx hb dX11_sewing_101 (by decide) ?_
              refine lv_istore (lv' := [(8, .int 0), (7, .int l7_31), (6, .int r28), (5, .int r19), (4, .int r14), (0, .ref y0), (1, .int p1), (2, .int p2), (3, .int p3)]) hx hb dX11_sewing_102 hl (by decide) rfl (fun ls hl => ?_)
              have lp33 : ∀ (n33 : Nat) (l8_33 : Int32) (v33 : Nat → Int32) (f33 : Nat → Nat → Int32) (w33 : Int64) (g33 : Nat → Int64), YI v33 → YC f33 → progOK (f33 4) (f33 5) (v33 9).toInt.toNat → v33 0 = (v 0) → v33 1 = (v 1) → v33 2 = (v 2) → v33 3 = (v 3) → v33 4 = (v 4) → v33 5 = (v 5) → v33 8 = (v 8) → v33 9 = (v 9) → v33 10 = (v 10) → v33 13 = (v 13) → v33 14 = (v 14) → v33 15 = (v 15) → v33 17 = (v 17) → v33 18 = (v 18) → v33 24 = (v 24) → v33 25 = (v 25) → v33 35 = (v 35) → v33 36 = (v 36) → v33 38 = (v 38) → v33 39 = (v 39) → ((0 : Int) ≤ l8_33.toInt ∧ l8_33.toInt ≤ 2147483647) → KV [] v33 v → KF [7, 8, 24] f33 f → (2147483647 - l8_33.toInt).toNat < n33 → ∀ (H : Heap) (locs : List Loc) (ls : Array Slot), va_P (dC, dI) vwCl (YW cy y0 r v33 f33 w33 g33) H → va_D A (YW cy y0 r v33 f33 w33 g33) → va_S A s.heap H locs → lv_has ls 10 [(8, .int l8_33), (7, .int l7_31), (6, .int r28), (5, .int r19), (4, .int r14), (0, .ref y0), (1, .int p1), (2, .int p2), (3, .int p3)] → W p l e { frames := 5, cells := 0, slots := 0, locals := 150 } s m ([.ref y0, .int p1, .int p2, .int p3] : List Value).toArray below meth c H locs 0 0 Q (F0 m 104 ls []) := by
                intro n33
                induction n33 with
                | zero => intro l8_33 v33 f33 w33 g33 hIv33 hCf33 hRf33 hq0_v33 hq1_v33 hq2_v33 hq3_v33 hq4_v33 hq5_v33 hq8_v33 hq9_v33 hq10_v33 hq13_v33 hq14_v33 hq15_v33 hq17_v33 hq18_v33 hq24_v33 hq25_v33 hq35_v33 hq36_v33 hq38_v33 hq39_v33 hr8_33 hM_v33 hA_f33 hm; exact absurd hm (Nat.not_lt_zero _)
                | succ n33 ih33 =>
                  intro l8_33 v33 f33 w33 g33 hIv33 hCf33 hRf33 hq0_v33 hq1_v33 hq2_v33 hq3_v33 hq4_v33 hq5_v33 hq8_v33 hq9_v33 hq10_v33 hq13_v33 hq14_v33 hq15_v33 hq17_v33 hq18_v33 hq24_v33 hq25_v33 hq35_v33 hq36_v33 hq38_v33 hq39_v33 hr8_33 hM_v33 hA_f33 hm33 H locs ls hP hD hS hl
                  have hUv33 : (v33 35).toInt + (v33 36).toInt ≤ 40 := hIv33.2
                  have zq9_v33 := congrArg Int32.toInt hq9_v33
                  refine lv_iload hx hb dX11_sewing_104 (lv_at hl 0 rfl) ?_
                  refine lv_iload hx hb dX11_sewing_106 (lv_at hl 1 rfl) ?_
                  refine lv_iload hx hb dX11_sewing_108 (lv_at hl 4 rfl) ?_
                  refine cbSi (n := 2) (rest := [.int l8_33]) hx hb hml hown hts hE hP hD hS hA (sY_X11_lesser_1 l dC dI cy y0 r l7_31 r14 v33 f33 w33 g33 hIv33 hCf33 hRf33 ) k_1799 k_1800 k_114 k_1801 (by decide +kernel) ⟨Nat.le_of_ble_eq_true rfl, Nat.le_of_ble_eq_true rfl⟩ (rfl) hl.1 rfl (Nat.le_of_ble_eq_true rfl) dX11_sewing_110 (fun r34 u H locs hw hP hD hS => ?_)
                  obtain ⟨pp35, pp36⟩ := hw
                  have pp35 : r34.toInt ≤ l7_31.toInt := pp35
                  have pp36 : r34.toInt ≤ r14.toInt := pp36
                  refine lv_icmp_gt (tgt := 220) hx hb dX11_sewing_113 (by decide) (fun c37 => ?_) (fun c37 => ?_)
                  · skip
                    have zc37 : r34.toInt < l8_33.toInt := by rw [fa_lt] at c37; exact c37
                    have rg38 := fb_rng l8_33
                    have rg39 := fb_rng r34
                    obtain ⟨t40, et40⟩ : ∃ y : Int32, y = l7_31 + 1 := ⟨_, rfl⟩
                    have rg41 := fb_rng l7_31
                    have zt40 : t40.toInt = l7_31.toInt + 1 := by rw [et40]; exact add_i rfl (by decide) (by omega) (by omega)
                    refine lv_iinc (v := t40) (lv' := [(7, .int t40), (8, .int l8_33), (6, .int r28), (5, .int r19), (4, .int r14), (0, .ref y0), (1, .int p1), (2, .int p2), (3, .int p3)]) hx hb dX11_sewing_220 hl (k := 1) rfl (by rw [et40]; rfl) (by decide) rfl (fun ls hl => ?_)
                    refine lv_goto (tgt := 94) hx hb dX11_sewing_223 (by decide) ?_
                    have rg42 := fb_rng t40
                    exact ih31 t40 v33 f33 w33 g33 hIv33 hCf33 hRf33 hq0_v33 hq1_v33 hq2_v33 hq3_v33 hq4_v33 hq5_v33 hq8_v33 hq9_v33 hq10_v33 hq13_v33 hq14_v33 hq15_v33 hq17_v33 hq18_v33 hq24_v33 hq25_v33 hq35_v33 hq36_v33 hq38_v33 hq39_v33 ⟨show (0 : Int) ≤ t40.toInt by omega, show t40.toInt ≤ (2147483647 : Int) by omega⟩ hM_v33 hA_f33 (by show (2147483647 - t40.toInt).toNat < n31; omega) _ _ _ hP hD hS (lv_sub hl [0, 2, 3, 4, 5, 6, 7, 8] rfl)
                  · skip
                    have zc37 : ¬ (r34.toInt < l8_33.toInt) := by rw [fa_lt] at c37; exact c37
                    have rg43 := fb_rng l8_33
                    have rg44 := fb_rng r34
                    refine lv_iload hx hb dX11_sewing_116 (lv_at hl 1 rfl) ?_
                    refine lv_iload hx hb dX11_sewing_118 (lv_at hl 0 rfl) ?_
                    refine lv_isub hx hb dX11_sewing_120 ?_
                    refine lv_topi (fun t45 et45 => ?_)
                    have rg46 := fb_rng l7_31
                    have zt45 : t45.toInt = l7_31.toInt - l8_33.toInt := by rw [et45]; exact sub_i rfl rfl (by omega) (by omega)
                    refine lv_istore (lv' := [(9, .int t45), (8, .int l8_33), (7, .int l7_31), (6, .int r28), (5, .int r19), (4, .int r14), (0, .ref y0), (1, .int p1), (2, .int p2), (3, .int p3)]) hx hb dX11_sewing_121 hl (by decide) rfl (fun ls hl => ?_)
                    refine lv_iload hx hb dX11_sewing_123 (lv_at hl 0 rfl) ?_
                    refine lv_iload hx hb dX11_sewing_125 (lv_at hl 4 rfl) ?_
                    refine lv_icmp_gt (tgt := 165) hx hb dX11_sewing_127 (by decide) (fun c47 => ?_) (fun c47 => ?_)
                    · skip
                      have zc47 : r19.toInt < t45.toInt := by rw [fa_lt] at c47; exact c47
                      have rg48 := fb_rng t45
                      have rg49 := fb_rng r19
                      refine lv_iload hx hb dX11_sewing_165 (lv_at hl 0 rfl) ?_
                      refine lv_if_le (tgt := 214) hx hb dX11_sewing_167 (by decide) (fun c50 => ?_) (fun c50 => ?_)
                      · skip
                        have zc50 : t45.toInt ≤ 0 := by rw [fa_le, show (0 : Int32).toInt = 0 from by decide] at c50; exact c50
                        obtain ⟨t51, et51⟩ : ∃ y : Int32, y = l8_33 + 1 := ⟨_, rfl⟩
                        have zt51 : t51.toInt = l8_33.toInt + 1 := by rw [et51]; exact add_i rfl (by decide) (by omega) (by omega)
                        refine lv_iinc (v := t51) (lv' := [(8, .int t51), (9, .int t45), (7, .int l7_31), (6, .int r28), (5, .int r19), (4, .int r14), (0, .ref y0), (1, .int p1), (2, .int p2), (3, .int p3)]) hx hb dX11_sewing_214 hl (k := 1) rfl (by rw [et51]; rfl) (by decide) rfl (fun ls hl => ?_)
                        refine lv_goto (tgt := 104) hx hb dX11_sewing_217 (by decide) ?_
                        have rg52 := fb_rng t51
                        exact ih33 t51 v33 f33 w33 g33 hIv33 hCf33 hRf33 hq0_v33 hq1_v33 hq2_v33 hq3_v33 hq4_v33 hq5_v33 hq8_v33 hq9_v33 hq10_v33 hq13_v33 hq14_v33 hq15_v33 hq17_v33 hq18_v33 hq24_v33 hq25_v33 hq35_v33 hq36_v33 hq38_v33 hq39_v33 ⟨show (0 : Int) ≤ t51.toInt by omega, show t51.toInt ≤ (2147483647 : Int) by omega⟩ hM_v33 hA_f33 (by show (2147483647 - t51.toInt).toNat < n33; omega) _ _ _ hP hD hS (lv_sub hl [0, 2, 3, 4, 5, 6, 7, 8, 9] rfl)
                      · skip
                        have zc50 : ¬ (t45.toInt ≤ 0) := by rw [fa_le, show (0 : Int32).toInt = 0 from by decide] at c50; exact c50
                        refine lv_iload hx hb dX11_sewing_170 (lv_at hl 0 rfl) ?_
                        refine lv_iload hx hb dX11_sewing_172 (lv_at hl 3 rfl) ?_
                        refine lv_icmp_gt (tgt := 214) hx hb dX11_sewing_174 (by decide) (fun c53 => ?_) (fun c53 => ?_)
                        · skip
                          have zc53 : r28.toInt < t45.toInt := by rw [fa_lt] at c53; exact c53
                          have rg54 := fb_rng r28
                          obtain ⟨t55, et55⟩ : ∃ y : Int32, y = l8_33 + 1 := ⟨_, rfl⟩
                          have zt55 : t55.toInt = l8_33.toInt + 1 := by rw [et55]; exact add_i rfl (by decide) (by omega) (by omega)
                          refine lv_iinc (v := t55) (lv' := [(8, .int t55), (9, .int t45), (7, .int l7_31), (6, .int r28), (5, .int r19), (4, .int r14), (0, .ref y0), (1, .int p1), (2, .int p2), (3, .int p3)]) hx hb dX11_sewing_214 hl (k := 1) rfl (by rw [et55]; rfl) (by decide) rfl (fun ls hl => ?_)
                          refine lv_goto (tgt := 104) hx hb dX11_sewing_217 (by decide) ?_
                          have rg56 := fb_rng t55
                          exact ih33 t55 v33 f33 w33 g33 hIv33 hCf33 hRf33 hq0_v33 hq1_v33 hq2_v33 hq3_v33 hq4_v33 hq5_v33 hq8_v33 hq9_v33 hq10_v33 hq13_v33 hq14_v33 hq15_v33 hq17_v33 hq18_v33 hq24_v33 hq25_v33 hq35_v33 hq36_v33 hq38_v33 hq39_v33 ⟨show (0 : Int) ≤ t55.toInt by omega, show t55.toInt ≤ (2147483647 : Int) by omega⟩ hM_v33 hA_f33 (by show (2147483647 - t55.toInt).toNat < n33; omega) _ _ _ hP hD hS (lv_sub hl [0, 2, 3, 4, 5, 6, 7, 8, 9] rfl)
                        · skip
                          have zc53 : ¬ (r28.toInt < t45.toInt) := by rw [fa_lt] at c53; exact c53
                          have rg57 := fb_rng r28
                          refine lv_aload_n hx hb dX11_sewing_177 rfl (lv_at hl 6 rfl) ?_
                          refine lv_iload_n hx hb dX11_sewing_178 rfl (lv_at hl 7 rfl) ?_
                          refine lv_iload_n hx hb dX11_sewing_179 rfl (lv_at hl 8 rfl) ?_
                          refine lv_iload hx hb dX11_sewing_180 (lv_at hl 1 rfl) ?_
                          refine lv_iload hx hb dX11_sewing_182 (lv_at hl 0 rfl) ?_
                          refine lv_ineg hx hb dX11_sewing_184 ?_
                          refine lv_topi (fun t58 et58 => ?_)
                          refine cbVi (n := 4) (rest := []) hx hb hml hown hts hE hP hD hS hA (sY_X11_isSewn_1 l dC dI cy y0 r p1 p2 l8_33 t58 v33 f33 w33 g33 hIv33 hCf33 hRf33 ⟨show (0 : Int) ≤ p1.toInt by omega, show p1.toInt ≤ (5 : Int) by omega⟩ ⟨show (0 : Int) ≤ p2.toInt by omega, show p2.toInt ≤ (5 : Int) by omega⟩) k_1892 k_1894 k_87 k_114 k_1895 (by decide +kernel) ⟨Nat.le_of_ble_eq_true rfl, Nat.le_of_ble_eq_true rfl⟩ 0 11 rfl rfl (rfl) hl.1 rfl (Nat.le_of_ble_eq_true rfl) dX11_sewing_185 (fun r59 u H locs hw hP hD hS => ?_)
                          obtain ⟨v60, f61, w62, g63⟩ := u
                          obtain ⟨kV_v60, kF_f61, hIv60, hCf61, hRf61, hk0_v60, hk1_v60, hk2_v60, hk3_v60, hk4_v60, hk5_v60, hk8_v60, hk9_v60, hk10_v60, hk13_v60, hk14_v60, hk15_v60, hk17_v60, hk18_v60, hk24_v60, hk25_v60, hk35_v60, hk36_v60, hk38_v60, hk39_v60, hw⟩ := hw
                          have hM_v60 : KV [] v60 v := KV.tr kV_v60 hM_v33 rfl
                          have hA_f61 : KF [7, 8, 24] f61 f := KF.tr kF_f61 hA_f33 rfl
                          have hP : va_P (dC, dI) vwCl (YW cy y0 r v60 f61 w62 g63) H := hP
                          have hD : va_D A (YW cy y0 r v60 f61 w62 g63) := hD
                          have hUv60 : (v60 35).toInt + (v60 36).toInt ≤ 40 := hIv60.2
                          have hq0_v60 : v60 0 = (v 0) := hk0_v60.trans hq0_v33
                          have hq1_v60 : v60 1 = (v 1) := hk1_v60.trans hq1_v33
                          have hq2_v60 : v60 2 = (v 2) := hk2_v60.trans hq2_v33
                          have hq3_v60 : v60 3 = (v 3) := hk3_v60.trans hq3_v33
                          have hq4_v60 : v60 4 = (v 4) := hk4_v60.trans hq4_v33
                          have hq5_v60 : v60 5 = (v 5) := hk5_v60.trans hq5_v33
                          have hq8_v60 : v60 8 = (v 8) := hk8_v60.trans hq8_v33
                          have hq9_v60 : v60 9 = (v 9) := hk9_v60.trans hq9_v33
                          have zq9_v60 := congrArg Int32.toInt hq9_v60
                          have hq10_v60 : v60 10 = (v 10) := hk10_v60.trans hq10_v33
                          have hq13_v60 : v60 13 = (v 13) := hk13_v60.trans hq13_v33
                          have hq14_v60 : v60 14 = (v 14) := hk14_v60.trans hq14_v33
                          have hq15_v60 : v60 15 = (v 15) := hk15_v60.trans hq15_v33
                          have hq17_v60 : v60 17 = (v 17) := hk17_v60.trans hq17_v33
                          have hq18_v60 : v60 18 = (v 18) := hk18_v60.trans hq18_v33
                          have hq24_v60 : v60 24 = (v 24) := hk24_v60.trans hq24_v33
                          have hq25_v60 : v60 25 = (v 25) := hk25_v60.trans hq25_v33
                          have hq35_v60 : v60 35 = (v 35) := hk35_v60.trans hq35_v33
                          have hq36_v60 : v60 36 = (v 36) := hk36_v60.trans hq36_v33
                          have hq38_v60 : v60 38 = (v 38) := hk38_v60.trans hq38_v33
                          have hq39_v60 : v60 39 = (v 39) := hk39_v60.trans hq39_v33
                          rcases hw with ⟨g64⟩ | ⟨g64⟩
                          · skip
                            subst g64
                            refine lv_if_eq (tgt := 214) hx hb dX11_sewing_188 (by decide) (fun c0 => absurd c0 (by decide)) (fun _ => ?_)
                            refine lv_iload_n hx hb dX11_sewing_191 rfl (lv_at hl 9 rfl) ?_
                            refine lv_if_ne (tgt := 200) hx hb dX11_sewing_192 (by decide) (fun c65 => ?_) (fun c65 => ?_)
                            · skip
                              have zc65 : ¬ (p3.toInt = 0) := by rw [fa_eq, show (0 : Int32).toInt = 0 from by decide] at c65; exact c65
                              refine lv_iload_n hx hb dX11_sewing_200 rfl (lv_at hl 9 rfl) ?_
                              refine lv_iconst (v := 1) hx hb dX11_sewing_201 (by decide) ?_
                              refine lv_icmp_ne (tgt := 210) hx hb dX11_sewing_202 (by decide) (fun c66 => ?_) (fun c66 => ?_)
                              · skip
                                have zc66 : ¬ (p3.toInt = 1) := by rw [fa_eq, show (1 : Int32).toInt = 1 from by decide] at c66; exact c66
                                refine lv_iload hx hb dX11_sewing_210 (lv_at hl 0 rfl) ?_
                                refine lv_ineg hx hb dX11_sewing_212 ?_
                                refine lv_topi (fun t67 et67 => ?_)
                                exact ret t67 (v60, f61, w62, g63) _ _ _ _ _ _ rfl ⟨hM_v60, hA_f61, hIv60, hCf61, hRf61, (hk0_v60.trans hq0_v33), (hk1_v60.trans hq1_v33), (hk2_v60.trans hq2_v33), (hk3_v60.trans hq3_v33), (hk4_v60.trans hq4_v33), (hk5_v60.trans hq5_v33), (hk8_v60.trans hq8_v33), (hk9_v60.trans hq9_v33), (hk10_v60.trans hq10_v33), (hk13_v60.trans hq13_v33), (hk14_v60.trans hq14_v33), (hk15_v60.trans hq15_v33), (hk17_v60.trans hq17_v33), (hk18_v60.trans hq18_v33), (hk24_v60.trans hq24_v33), (hk25_v60.trans hq25_v33), (hk35_v60.trans hq35_v33), (hk36_v60.trans hq36_v33), (hk38_v60.trans hq38_v33), (hk39_v60.trans hq39_v33)⟩ hP hD hS dX11_sewing_213 (Nat.le_refl _) (Nat.le_refl _)
                              · skip
                                have zc66 : p3.toInt = 1 := by rw [fa_eq, show (1 : Int32).toInt = 1 from by decide] at c66; exact c66
                                refine lv_iload hx hb dX11_sewing_205 (lv_at hl 1 rfl) ?_
                                refine lv_goto (tgt := 213) hx hb dX11_sewing_207 (by decide) ?_
                                exact ret l8_33 (v60, f61, w62, g63) _ _ _ _ _ _ rfl ⟨hM_v60, hA_f61, hIv60, hCf61, hRf61, (hk0_v60.trans hq0_v33), (hk1_v60.trans hq1_v33), (hk2_v60.trans hq2_v33), (hk3_v60.trans hq3_v33), (hk4_v60.trans hq4_v33), (hk5_v60.trans hq5_v33), (hk8_v60.trans hq8_v33), (hk9_v60.trans hq9_v33), (hk10_v60.trans hq10_v33), (hk13_v60.trans hq13_v33), (hk14_v60.trans hq14_v33), (hk15_v60.trans hq15_v33), (hk17_v60.trans hq17_v33), (hk18_v60.trans hq18_v33), (hk24_v60.trans hq24_v33), (hk25_v60.trans hq25_v33), (hk35_v60.trans hq35_v33), (hk36_v60.trans hq36_v33), (hk38_v60.trans hq38_v33), (hk39_v60.trans hq39_v33)⟩ hP hD hS dX11_sewing_213 (Nat.le_refl _) (Nat.le_refl _)
                            · skip
                              have zc65 : p3.toInt = 0 := by rw [fa_eq, show (0 : Int32).toInt = 0 from by decide] at c65; exact c65
                              refine lv_iload hx hb dX11_sewing_195 (lv_at hl 2 rfl) ?_
                              refine lv_goto (tgt := 213) hx hb dX11_sewing_197 (by decide) ?_
                              exact ret l7_31 (v60, f61, w62, g63) _ _ _ _ _ _ rfl ⟨hM_v60, hA_f61, hIv60, hCf61, hRf61, (hk0_v60.trans hq0_v33), (hk1_v60.trans hq1_v33), (hk2_v60.trans hq2_v33), (hk3_v60.trans hq3_v33), (hk4_v60.trans hq4_v33), (hk5_v60.trans hq5_v33), (hk8_v60.trans hq8_v33), (hk9_v60.trans hq9_v33), (hk10_v60.trans hq10_v33), (hk13_v60.trans hq13_v33), (hk14_v60.trans hq14_v33), (hk15_v60.trans hq15_v33), (hk17_v60.trans hq17_v33), (hk18_v60.trans hq18_v33), (hk24_v60.trans hq24_v33), (hk25_v60.trans hq25_v33), (hk35_v60.trans hq35_v33), (hk36_v60.trans hq36_v33), (hk38_v60.trans hq38_v33), (hk39_v60.trans hq39_v33)⟩ hP hD hS dX11_sewing_213 (Nat.le_refl _) (Nat.le_refl _)
                          · skip
                            subst g64
                            refine lv_if_eq (tgt := 214) hx hb dX11_sewing_188 (by decide) (fun _ => ?_) (fun c0 => absurd (by decide) c0)
                            obtain ⟨t68, et68⟩ : ∃ y : Int32, y = l8_33 + 1 := ⟨_, rfl⟩
                            have zt68 : t68.toInt = l8_33.toInt + 1 := by rw [et68]; exact add_i rfl (by decide) (by omega) (by omega)
                            refine lv_iinc (v := t68) (lv' := [(8, .int t68), (9, .int t45), (7, .int l7_31), (6, .int r28), (5, .int r19), (4, .int r14), (0, .ref y0), (1, .int p1), (2, .int p2), (3, .int p3)]) hx hb dX11_sewing_214 hl (k := 1) rfl (by rw [et68]; rfl) (by decide) rfl (fun ls hl => ?_)
                            refine lv_goto (tgt := 104) hx hb dX11_sewing_217 (by decide) ?_
                            have rg69 := fb_rng t68
                            exact ih33 t68 v60 f61 w62 g63 hIv60 hCf61 hRf61 hq0_v60 hq1_v60 hq2_v60 hq3_v60 hq4_v60 hq5_v60 hq8_v60 hq9_v60 hq10_v60 hq13_v60 hq14_v60 hq15_v60 hq17_v60 hq18_v60 hq24_v60 hq25_v60 hq35_v60 hq36_v60 hq38_v60 hq39_v60 ⟨show (0 : Int) ≤ t68.toInt by omega, show t68.toInt ≤ (2147483647 : Int) by omega⟩ hM_v60 hA_f61 (by show (2147483647 - t68.toInt).toNat < n33; omega) _ _ _ hP hD hS (lv_sub hl [0, 2, 3, 4, 5, 6, 7, 8, 9] rfl)
                    · skip
                      have zc47 : ¬ (r19.toInt < t45.toInt) := by rw [fa_lt] at c47; exact c47
                      have rg70 := fb_rng t45
                      have rg71 := fb_rng r19
                      refine lv_aload_n hx hb dX11_sewing_130 rfl (lv_at hl 6 rfl) ?_
                      refine lv_iload_n hx hb dX11_sewing_131 rfl (lv_at hl 7 rfl) ?_
                      refine lv_iload_n hx hb dX11_sewing_132 rfl (lv_at hl 8 rfl) ?_
                      refine lv_iload hx hb dX11_sewing_133 (lv_at hl 1 rfl) ?_
                      refine lv_iload hx hb dX11_sewing_135 (lv_at hl 0 rfl) ?_
                      refine cbVi (n := 4) (rest := []) hx hb hml hown hts hE hP hD hS hA (sY_X11_isSewn_1 l dC dI cy y0 r p1 p2 l8_33 t45 v33 f33 w33 g33 hIv33 hCf33 hRf33 ⟨show (0 : Int) ≤ p1.toInt by omega, show p1.toInt ≤ (5 : Int) by omega⟩ ⟨show (0 : Int) ≤ p2.toInt by omega, show p2.toInt ≤ (5 : Int) by omega⟩) k_1892 k_1894 k_87 k_114 k_1895 (by decide +kernel) ⟨Nat.le_of_ble_eq_true rfl, Nat.le_of_ble_eq_true rfl⟩ 0 11 rfl rfl (rfl) hl.1 rfl (Nat.le_of_ble_eq_true rfl) dX11_sewing_137 (fun r72 u H locs hw hP hD hS => ?_)
                      obtain ⟨v73, f74, w75, g76⟩ := u
                      obtain ⟨kV_v73, kF_f74, hIv73, hCf74, hRf74, hk0_v73, hk1_v73, hk2_v73, hk3_v73, hk4_v73, hk5_v73, hk8_v73, hk9_v73, hk10_v73, hk13_v73, hk14_v73, hk15_v73, hk17_v73, hk18_v73, hk24_v73, hk25_v73, hk35_v73, hk36_v73, hk38_v73, hk39_v73, hw⟩ := hw
                      have hM_v73 : KV [] v73 v := KV.tr kV_v73 hM_v33 rfl
                      have hA_f74 : KF [7, 8, 24] f74 f := KF.tr kF_f74 hA_f33 rfl
                      have hP : va_P (dC, dI) vwCl (YW cy y0 r v73 f74 w75 g76) H := hP
                      have hD : va_D A (YW cy y0 r v73 f74 w75 g76) := hD
                      have hUv73 : (v73 35).toInt + (v73 36).toInt ≤ 40 := hIv73.2
                      have hq0_v73 : v73 0 = (v 0) := hk0_v73.trans hq0_v33
                      have hq1_v73 : v73 1 = (v 1) := hk1_v73.trans hq1_v33
                      have hq2_v73 : v73 2 = (v 2) := hk2_v73.trans hq2_v33
                      have hq3_v73 : v73 3 = (v 3) := hk3_v73.trans hq3_v33
                      have hq4_v73 : v73 4 = (v 4) := hk4_v73.trans hq4_v33
                      have hq5_v73 : v73 5 = (v 5) := hk5_v73.trans hq5_v33
                      have hq8_v73 : v73 8 = (v 8) := hk8_v73.trans hq8_v33
                      have hq9_v73 : v73 9 = (v 9) := hk9_v73.trans hq9_v33
                      have zq9_v73 := congrArg Int32.toInt hq9_v73
                      have hq10_v73 : v73 10 = (v 10) := hk10_v73.trans hq10_v33
                      have hq13_v73 : v73 13 = (v 13) := hk13_v73.trans hq13_v33
                      have hq14_v73 : v73 14 = (v 14) := hk14_v73.trans hq14_v33
                      have hq15_v73 : v73 15 = (v 15) := hk15_v73.trans hq15_v33
                      have hq17_v73 : v73 17 = (v 17) := hk17_v73.trans hq17_v33
                      have hq18_v73 : v73 18 = (v 18) := hk18_v73.trans hq18_v33
                      have hq24_v73 : v73 24 = (v 24) := hk24_v73.trans hq24_v33
                      have hq25_v73 : v73 25 = (v 25) := hk25_v73.trans hq25_v33
                      have hq35_v73 : v73 35 = (v 35) := hk35_v73.trans hq35_v33
                      have hq36_v73 : v73 36 = (v 36) := hk36_v73.trans hq36_v33
                      have hq38_v73 : v73 38 = (v 38) := hk38_v73.trans hq38_v33
                      have hq39_v73 : v73 39 = (v 39) := hk39_v73.trans hq39_v33
                      rcases hw with ⟨g77⟩ | ⟨g77⟩
                      · skip
                        subst g77
                        refine lv_if_eq (tgt := 165) hx hb dX11_sewing_140 (by decide) (fun c0 => absurd c0 (by decide)) (fun _ => ?_)
                        refine lv_iload_n hx hb dX11_sewing_143 rfl (lv_at hl 9 rfl) ?_
                        refine lv_if_ne (tgt := 152) hx hb dX11_sewing_144 (by decide) (fun c78 => ?_) (fun c78 => ?_)
                        · skip
                          have zc78 : ¬ (p3.toInt = 0) := by rw [fa_eq, show (0 : Int32).toInt = 0 from by decide] at c78; exact c78
                          refine lv_iload_n hx hb dX11_sewing_152 rfl (lv_at hl 9 rfl) ?_
                          refine lv_iconst (v := 1) hx hb dX11_sewing_153 (by decide) ?_
                          refine lv_icmp_ne (tgt := 162) hx hb dX11_sewing_154 (by decide) (fun c79 => ?_) (fun c79 => ?_)
                          · skip
                            have zc79 : ¬ (p3.toInt = 1) := by rw [fa_eq, show (1 : Int32).toInt = 1 from by decide] at c79; exact c79
                            refine lv_iload hx hb dX11_sewing_162 (lv_at hl 0 rfl) ?_
                            exact ret t45 (v73, f74, w75, g76) _ _ _ _ _ _ rfl ⟨hM_v73, hA_f74, hIv73, hCf74, hRf74, (hk0_v73.trans hq0_v33), (hk1_v73.trans hq1_v33), (hk2_v73.trans hq2_v33), (hk3_v73.trans hq3_v33), (hk4_v73.trans hq4_v33), (hk5_v73.trans hq5_v33), (hk8_v73.trans hq8_v33), (hk9_v73.trans hq9_v33), (hk10_v73.trans hq10_v33), (hk13_v73.trans hq13_v33), (hk14_v73.trans hq14_v33), (hk15_v73.trans hq15_v33), (hk17_v73.trans hq17_v33), (hk18_v73.trans hq18_v33), (hk24_v73.trans hq24_v33), (hk25_v73.trans hq25_v33), (hk35_v73.trans hq35_v33), (hk36_v73.trans hq36_v33), (hk38_v73.trans hq38_v33), (hk39_v73.trans hq39_v33)⟩ hP hD hS dX11_sewing_164 (Nat.le_refl _) (Nat.le_refl _)
                          · skip
                            have zc79 : p3.toInt = 1 := by rw [fa_eq, show (1 : Int32).toInt = 1 from by decide] at c79; exact c79
                            refine lv_iload hx hb dX11_sewing_157 (lv_at hl 1 rfl) ?_
                            refine lv_goto (tgt := 164) hx hb dX11_sewing_159 (by decide) ?_
                            exact ret l8_33 (v73, f74, w75, g76) _ _ _ _ _ _ rfl ⟨hM_v73, hA_f74, hIv73, hCf74, hRf74, (hk0_v73.trans hq0_v33), (hk1_v73.trans hq1_v33), (hk2_v73.trans hq2_v33), (hk3_v73.trans hq3_v33), (hk4_v73.trans hq4_v33), (hk5_v73.trans hq5_v33), (hk8_v73.trans hq8_v33), (hk9_v73.trans hq9_v33), (hk10_v73.trans hq10_v33), (hk13_v73.trans hq13_v33), (hk14_v73.trans hq14_v33), (hk15_v73.trans hq15_v33), (hk17_v73.trans hq17_v33), (hk18_v73.trans hq18_v33), (hk24_v73.trans hq24_v33), (hk25_v73.trans hq25_v33), (hk35_v73.trans hq35_v33), (hk36_v73.trans hq36_v33), (hk38_v73.trans hq38_v33), (hk39_v73.trans hq39_v33)⟩ hP hD hS dX11_sewing_164 (Nat.le_refl _) (Nat.le_refl _)
                        · skip
                          have zc78 : p3.toInt = 0 := by rw [fa_eq, show (0 : Int32).toInt = 0 from by decide] at c78; exact c78
                          refine lv_iload hx hb dX11_sewing_147 (lv_at hl 2 rfl) ?_
                          refine lv_goto (tgt := 164) hx hb dX11_sewing_149 (by decide) ?_
                          exact ret l7_31 (v73, f74, w75, g76) _ _ _ _ _ _ rfl ⟨hM_v73, hA_f74, hIv73, hCf74, hRf74, (hk0_v73.trans hq0_v33), (hk1_v73.trans hq1_v33), (hk2_v73.trans hq2_v33), (hk3_v73.trans hq3_v33), (hk4_v73.trans hq4_v33), (hk5_v73.trans hq5_v33), (hk8_v73.trans hq8_v33), (hk9_v73.trans hq9_v33), (hk10_v73.trans hq10_v33), (hk13_v73.trans hq13_v33), (hk14_v73.trans hq14_v33), (hk15_v73.trans hq15_v33), (hk17_v73.trans hq17_v33), (hk18_v73.trans hq18_v33), (hk24_v73.trans hq24_v33), (hk25_v73.trans hq25_v33), (hk35_v73.trans hq35_v33), (hk36_v73.trans hq36_v33), (hk38_v73.trans hq38_v33), (hk39_v73.trans hq39_v33)⟩ hP hD hS dX11_sewing_164 (Nat.le_refl _) (Nat.le_refl _)
                      · skip
                        subst g77
                        refine lv_if_eq (tgt := 165) hx hb dX11_sewing_140 (by decide) (fun _ => ?_) (fun c0 => absurd (by decide) c0)
                        refine lv_iload hx hb dX11_sewing_165 (lv_at hl 0 rfl) ?_
                        refine lv_if_le (tgt := 214) hx hb dX11_sewing_167 (by decide) (fun c80 => ?_) (fun c80 => ?_)
                        · skip
                          have zc80 : t45.toInt ≤ 0 := by rw [fa_le, show (0 : Int32).toInt = 0 from by decide] at c80; exact c80
                          obtain ⟨t81, et81⟩ : ∃ y : Int32, y = l8_33 + 1 := ⟨_, rfl⟩
                          have zt81 : t81.toInt = l8_33.toInt + 1 := by rw [et81]; exact add_i rfl (by decide) (by omega) (by omega)
                          refine lv_iinc (v := t81) (lv' := [(8, .int t81), (9, .int t45), (7, .int l7_31), (6, .int r28), (5, .int r19), (4, .int r14), (0, .ref y0), (1, .int p1), (2, .int p2), (3, .int p3)]) hx hb dX11_sewing_214 hl (k := 1) rfl (by rw [et81]; rfl) (by decide) rfl (fun ls hl => ?_)
                          refine lv_goto (tgt := 104) hx hb dX11_sewing_217 (by decide) ?_
                          have rg82 := fb_rng t81
                          exact ih33 t81 v73 f74 w75 g76 hIv73 hCf74 hRf74 hq0_v73 hq1_v73 hq2_v73 hq3_v73 hq4_v73 hq5_v73 hq8_v73 hq9_v73 hq10_v73 hq13_v73 hq14_v73 hq15_v73 hq17_v73 hq18_v73 hq24_v73 hq25_v73 hq35_v73 hq36_v73 hq38_v73 hq39_v73 ⟨show (0 : Int) ≤ t81.toInt by omega, show t81.toInt ≤ (2147483647 : Int) by omega⟩ hM_v73 hA_f74 (by show (2147483647 - t81.toInt).toNat < n33; omega) _ _ _ hP hD hS (lv_sub hl [0, 2, 3, 4, 5, 6, 7, 8, 9] rfl)
                        · skip
                          have zc80 : ¬ (t45.toInt ≤ 0) := by rw [fa_le, show (0 : Int32).toInt = 0 from by decide] at c80; exact c80
                          refine lv_iload hx hb dX11_sewing_170 (lv_at hl 0 rfl) ?_
                          refine lv_iload hx hb dX11_sewing_172 (lv_at hl 3 rfl) ?_
                          refine lv_icmp_gt (tgt := 214) hx hb dX11_sewing_174 (by decide) (fun c83 => ?_) (fun c83 => ?_)
                          · skip
                            have zc83 : r28.toInt < t45.toInt := by rw [fa_lt] at c83; exact c83
                            have rg84 := fb_rng r28
                            obtain ⟨t85, et85⟩ : ∃ y : Int32, y = l8_33 + 1 := ⟨_, rfl⟩
                            have zt85 : t85.toInt = l8_33.toInt + 1 := by rw [et85]; exact add_i rfl (by decide) (by omega) (by omega)
                            refine lv_iinc (v := t85) (lv' := [(8, .int t85), (9, .int t45), (7, .int l7_31), (6, .int r28), (5, .int r19), (4, .int r14), (0, .ref y0), (1, .int p1), (2, .int p2), (3, .int p3)]) hx hb dX11_sewing_214 hl (k := 1) rfl (by rw [et85]; rfl) (by decide) rfl (fun ls hl => ?_)
                            refine lv_goto (tgt := 104) hx hb dX11_sewing_217 (by decide) ?_
                            have rg86 := fb_rng t85
                            exact ih33 t85 v73 f74 w75 g76 hIv73 hCf74 hRf74 hq0_v73 hq1_v73 hq2_v73 hq3_v73 hq4_v73 hq5_v73 hq8_v73 hq9_v73 hq10_v73 hq13_v73 hq14_v73 hq15_v73 hq17_v73 hq18_v73 hq24_v73 hq25_v73 hq35_v73 hq36_v73 hq38_v73 hq39_v73 ⟨show (0 : Int) ≤ t85.toInt by omega, show t85.toInt ≤ (2147483647 : Int) by omega⟩ hM_v73 hA_f74 (by show (2147483647 - t85.toInt).toNat < n33; omega) _ _ _ hP hD hS (lv_sub hl [0, 2, 3, 4, 5, 6, 7, 8, 9] rfl)
                          · skip
                            have zc83 : ¬ (r28.toInt < t45.toInt) := by rw [fa_lt] at c83; exact c83
                            have rg87 := fb_rng r28
                            refine lv_aload_n hx hb dX11_sewing_177 rfl (lv_at hl 6 rfl) ?_
                            refine lv_iload_n hx hb dX11_sewing_178 rfl (lv_at hl 7 rfl) ?_
                            refine lv_iload_n hx hb dX11_sewing_179 rfl (lv_at hl 8 rfl) ?_
                            refine lv_iload hx hb dX11_sewing_180 (lv_at hl 1 rfl) ?_
                            refine lv_iload hx hb dX11_sewing_182 (lv_at hl 0 rfl) ?_
                            refine lv_ineg hx hb dX11_sewing_184 ?_
                            refine lv_topi (fun t88 et88 => ?_)
                            refine cbVi (n := 4) (rest := []) hx hb hml hown hts hE hP hD hS hA (sY_X11_isSewn_1 l dC dI cy y0 r p1 p2 l8_33 t88 v73 f74 w75 g76 hIv73 hCf74 hRf74 ⟨show (0 : Int) ≤ p1.toInt by omega, show p1.toInt ≤ (5 : Int) by omega⟩ ⟨show (0 : Int) ≤ p2.toInt by omega, show p2.toInt ≤ (5 : Int) by omega⟩) k_1892 k_1894 k_87 k_114 k_1895 (by decide +kernel) ⟨Nat.le_of_ble_eq_true rfl, Nat.le_of_ble_eq_true rfl⟩ 0 11 rfl rfl (rfl) hl.1 rfl (Nat.le_of_ble_eq_true rfl) dX11_sewing_185 (fun r89 u H locs hw hP hD hS => ?_)
                            obtain ⟨v90, f91, w92, g93⟩ := u
                            obtain ⟨kV_v90, kF_f91, hIv90, hCf91, hRf91, hk0_v90, hk1_v90, hk2_v90, hk3_v90, hk4_v90, hk5_v90, hk8_v90, hk9_v90, hk10_v90, hk13_v90, hk14_v90, hk15_v90, hk17_v90, hk18_v90, hk24_v90, hk25_v90, hk35_v90, hk36_v90, hk38_v90, hk39_v90, hw⟩ := hw
                            have hM_v90 : KV [] v90 v := KV.tr kV_v90 hM_v73 rfl
                            have hA_f91 : KF [7, 8, 24] f91 f := KF.tr kF_f91 hA_f74 rfl
                            have hP : va_P (dC, dI) vwCl (YW cy y0 r v90 f91 w92 g93) H := hP
                            have hD : va_D A (YW cy y0 r v90 f91 w92 g93) := hD
                            have hUv90 : (v90 35).toInt + (v90 36).toInt ≤ 40 := hIv90.2
                            have hq0_v90 : v90 0 = (v 0) := hk0_v90.trans hq0_v73
                            have hq1_v90 : v90 1 = (v 1) := hk1_v90.trans hq1_v73
                            have hq2_v90 : v90 2 = (v 2) := hk2_v90.trans hq2_v73
                            have hq3_v90 : v90 3 = (v 3) := hk3_v90.trans hq3_v73
                            have hq4_v90 : v90 4 = (v 4) := hk4_v90.trans hq4_v73
                            have hq5_v90 : v90 5 = (v 5) := hk5_v90.trans hq5_v73
                            have hq8_v90 : v90 8 = (v 8) := hk8_v90.trans hq8_v73
                            have hq9_v90 : v90 9 = (v 9) := hk9_v90.trans hq9_v73
                            have zq9_v90 := congrArg Int32.toInt hq9_v90
                            have hq10_v90 : v90 10 = (v 10) := hk10_v90.trans hq10_v73
                            have hq13_v90 : v90 13 = (v 13) := hk13_v90.trans hq13_v73
                            have hq14_v90 : v90 14 = (v 14) := hk14_v90.trans hq14_v73
                            have hq15_v90 : v90 15 = (v 15) := hk15_v90.trans hq15_v73
                            have hq17_v90 : v90 17 = (v 17) := hk17_v90.trans hq17_v73
                            have hq18_v90 : v90 18 = (v 18) := hk18_v90.trans hq18_v73
                            have hq24_v90 : v90 24 = (v 24) := hk24_v90.trans hq24_v73
                            have hq25_v90 : v90 25 = (v 25) := hk25_v90.trans hq25_v73
                            have hq35_v90 : v90 35 = (v 35) := hk35_v90.trans hq35_v73
                            have hq36_v90 : v90 36 = (v 36) := hk36_v90.trans hq36_v73
                            have hq38_v90 : v90 38 = (v 38) := hk38_v90.trans hq38_v73
                            have hq39_v90 : v90 39 = (v 39) := hk39_v90.trans hq39_v73
                            rcases hw with ⟨g94⟩ | ⟨g94⟩
                            · skip
                              subst g94
                              refine lv_if_eq (tgt := 214) hx hb dX11_sewing_188 (by decide) (fun c0 => absurd c0 (by decide)) (fun _ => ?_)
                              refine lv_iload_n hx hb dX11_sewing_191 rfl (lv_at hl 9 rfl) ?_
                              refine lv_if_ne (tgt := 200) hx hb dX11_sewing_192 (by decide) (fun c95 => ?_) (fun c95 => ?_)
                              · skip
                                have zc95 : ¬ (p3.toInt = 0) := by rw [fa_eq, show (0 : Int32).toInt = 0 from by decide] at c95; exact c95
                                refine lv_iload_n hx hb dX11_sewing_200 rfl (lv_at hl 9 rfl) ?_
                                refine lv_iconst (v := 1) hx hb dX11_sewing_201 (by decide) ?_
                                refine lv_icmp_ne (tgt := 210) hx hb dX11_sewing_202 (by decide) (fun c96 => ?_) (fun c96 => ?_)
                                · skip
                                  have zc96 : ¬ (p3.toInt = 1) := by rw [fa_eq, show (1 : Int32).toInt = 1 from by decide] at c96; exact c96
                                  refine lv_iload hx hb dX11_sewing_210 (lv_at hl 0 rfl) ?_
                                  refine lv_ineg hx hb dX11_sewing_212 ?_
                                  refine lv_topi (fun t97 et97 => ?_)
                                  exact ret t97 (v90, f91, w92, g93) _ _ _ _ _ _ rfl ⟨hM_v90, hA_f91, hIv90, hCf91, hRf91, (hk0_v90.trans (hk0_v73.trans hq0_v33)), (hk1_v90.trans (hk1_v73.trans hq1_v33)), (hk2_v90.trans (hk2_v73.trans hq2_v33)), (hk3_v90.trans (hk3_v73.trans hq3_v33)), (hk4_v90.trans (hk4_v73.trans hq4_v33)), (hk5_v90.trans (hk5_v73.trans hq5_v33)), (hk8_v90.trans (hk8_v73.trans hq8_v33)), (hk9_v90.trans (hk9_v73.trans hq9_v33)), (hk10_v90.trans (hk10_v73.trans hq10_v33)), (hk13_v90.trans (hk13_v73.trans hq13_v33)), (hk14_v90.trans (hk14_v73.trans hq14_v33)), (hk15_v90.trans (hk15_v73.trans hq15_v33)), (hk17_v90.trans (hk17_v73.trans hq17_v33)), (hk18_v90.trans (hk18_v73.trans hq18_v33)), (hk24_v90.trans (hk24_v73.trans hq24_v33)), (hk25_v90.trans (hk25_v73.trans hq25_v33)), (hk35_v90.trans (hk35_v73.trans hq35_v33)), (hk36_v90.trans (hk36_v73.trans hq36_v33)), (hk38_v90.trans (hk38_v73.trans hq38_v33)), (hk39_v90.trans (hk39_v73.trans hq39_v33))⟩ hP hD hS dX11_sewing_213 (Nat.le_refl _) (Nat.le_refl _)
                                · skip
                                  have zc96 : p3.toInt = 1 := by rw [fa_eq, show (1 : Int32).toInt = 1 from by decide] at c96; exact c96
                                  refine lv_iload hx hb dX11_sewing_205 (lv_at hl 1 rfl) ?_
                                  refine lv_goto (tgt := 213) hx hb dX11_sewing_207 (by decide) ?_
                                  exact ret l8_33 (v90, f91, w92, g93) _ _ _ _ _ _ rfl ⟨hM_v90, hA_f91, hIv90, hCf91, hRf91, (hk0_v90.trans (hk0_v73.trans hq0_v33)), (hk1_v90.trans (hk1_v73.trans hq1_v33)), (hk2_v90.trans (hk2_v73.trans hq2_v33)), (hk3_v90.trans (hk3_v73.trans hq3_v33)), (hk4_v90.trans (hk4_v73.trans hq4_v33)), (hk5_v90.trans (hk5_v73.trans hq5_v33)), (hk8_v90.trans (hk8_v73.trans hq8_v33)), (hk9_v90.trans (hk9_v73.trans hq9_v33)), (hk10_v90.trans (hk10_v73.trans hq10_v33)), (hk13_v90.trans (hk13_v73.trans hq13_v33)), (hk14_v90.trans (hk14_v73.trans hq14_v33)), (hk15_v90.trans (hk15_v73.trans hq15_v33)), (hk17_v90.trans (hk17_v73.trans hq17_v33)), (hk18_v90.trans (hk18_v73.trans hq18_v33)), (hk24_v90.trans (hk24_v73.trans hq24_v33)), (hk25_v90.trans (hk25_v73.trans hq25_v33)), (hk35_v90.trans (hk35_v73.trans hq35_v33)), (hk36_v90.trans (hk36_v73.trans hq36_v33)), (hk38_v90.trans (hk38_v73.trans hq38_v33)), (hk39_v90.trans (hk39_v73.trans hq39_v33))⟩ hP hD hS dX11_sewing_213 (Nat.le_refl _) (Nat.le_refl _)
                              · skip
                                have zc95 : p3.toInt = 0 := by rw [fa_eq, show (0 : Int32).toInt = 0 from by decide] at c95; exact c95
                                refine lv_iload hx hb dX11_sewing_195 (lv_at hl 2 rfl) ?_
                                refine lv_goto (tgt := 213) hx hb dX11_sewing_197 (by decide) ?_
                                exact ret l7_31 (v90, f91, w92, g93) _ _ _ _ _ _ rfl ⟨hM_v90, hA_f91, hIv90, hCf91, hRf91, (hk0_v90.trans (hk0_v73.trans hq0_v33)), (hk1_v90.trans (hk1_v73.trans hq1_v33)), (hk2_v90.trans (hk2_v73.trans hq2_v33)), (hk3_v90.trans (hk3_v73.trans hq3_v33)), (hk4_v90.trans (hk4_v73.trans hq4_v33)), (hk5_v90.trans (hk5_v73.trans hq5_v33)), (hk8_v90.trans (hk8_v73.trans hq8_v33)), (hk9_v90.trans (hk9_v73.trans hq9_v33)), (hk10_v90.trans (hk10_v73.trans hq10_v33)), (hk13_v90.trans (hk13_v73.trans hq13_v33)), (hk14_v90.trans (hk14_v73.trans hq14_v33)), (hk15_v90.trans (hk15_v73.trans hq15_v33)), (hk17_v90.trans (hk17_v73.trans hq17_v33)), (hk18_v90.trans (hk18_v73.trans hq18_v33)), (hk24_v90.trans (hk24_v73.trans hq24_v33)), (hk25_v90.trans (hk25_v73.trans hq25_v33)), (hk35_v90.trans (hk35_v73.trans hq35_v33)), (hk36_v90.trans (hk36_v73.trans hq36_v33)), (hk38_v90.trans (hk38_v73.trans hq38_v33)), (hk39_v90.trans (hk39_v73.trans hq39_v33))⟩ hP hD hS dX11_sewing_213 (Nat.le_refl _) (Nat.le_refl _)
                            · skip
                              subst g94
                              refine lv_if_eq (tgt := 214) hx hb dX11_sewing_188 (by decide) (fun _ => ?_) (fun c0 => absurd (by decide) c0)
                              obtain ⟨t98, et98⟩ : ∃ y : Int32, y = l8_33 + 1 := ⟨_, rfl⟩
                              have zt98 : t98.toInt = l8_33.toInt + 1 := by rw [et98]; exact add_i rfl (by decide) (by omega) (by omega)
                              refine lv_iinc (v := t98) (lv' := [(8, .int t98), (9, .int t45), (7, .int l7_31), (6, .int r28), (5, .int r19), (4, .int r14), (0, .ref y0), (1, .int p1), (2, .int p2), (3, .int p3)]) hx hb dX11_sewing_214 hl (k := 1) rfl (by rw [et98]; rfl) (by decide) rfl (fun ls hl => ?_)
                              refine lv_goto (tgt := 104) hx hb dX11_sewing_217 (by decide) ?_
                              have rg99 := fb_rng t98
                              exact ih33 t98 v90 f91 w92 g93 hIv90 hCf91 hRf91 hq0_v90 hq1_v90 hq2_v90 hq3_v90 hq4_v90 hq5_v90 hq8_v90 hq9_v90 hq10_v90 hq13_v90 hq14_v90 hq15_v90 hq17_v90 hq18_v90 hq24_v90 hq25_v90 hq35_v90 hq36_v90 hq38_v90 hq39_v90 ⟨show (0 : Int) ≤ t98.toInt by omega, show t98.toInt ≤ (2147483647 : Int) by omega⟩ hM_v90 hA_f91 (by show (2147483647 - t98.toInt).toNat < n33; omega) _ _ _ hP hD hS (lv_sub hl [0, 2, 3, 4, 5, 6, 7, 8, 9] rfl)
              exact lp33 _ 0 v31 f31 w31 g31 hIv31 hCf31 hRf31 hq0_v31 hq1_v31 hq2_v31 hq3_v31 hq4_v31 hq5_v31 hq8_v31 hq9_v31 hq10_v31 hq13_v31 hq14_v31 hq15_v31 hq17_v31 hq18_v31 hq24_v31 hq25_v31 hq35_v31 hq36_v31 hq38_v31 hq39_v31 ⟨by decide, by decide⟩ hM_v31 hA_f31 (Nat.lt_succ_self _) _ _ _ hP hD hS (lv_sub hl [0, 1, 2, 3, 4, 5, 6, 7, 8] rfl)
        exact lp31 _ 0 v f w g hIv hCf hRf rfl rfl rfl rfl rfl rfl rfl rfl rfl rfl rfl rfl rfl rfl rfl rfl rfl rfl rfl rfl ⟨by decide, by decide⟩ hM_v hA_f (Nat.lt_succ_self _) _ _ _ hP hD hS (lv_sub hl [0, 1, 2, 3, 4, 5, 6, 7] rfl)
      · skip
        subst g9
        refine lv_if_ne (tgt := 28) hx hb dX11_sewing_22 (by decide) (fun c0 => absurd (by decide) c0) (fun _ => ?_)
        refine lv_bipush (v := (-100)) hx hb dX11_sewing_25 (by decide) ?_
        exact ret (-100) (v, f, w, g) _ _ _ _ _ _ rfl ⟨hM_v, hA_f, hIv, hCf, hRf, rfl, rfl, rfl, rfl, rfl, rfl, rfl, rfl, rfl, rfl, rfl, rfl, rfl, rfl, rfl, rfl, rfl, rfl, rfl, rfl⟩ hP hD hS dX11_sewing_27 (Nat.le_refl _) (Nat.le_refl _)
    · skip
      subst g4
      refine lv_if_eq (tgt := 25) hx hb dX11_sewing_13 (by decide) (fun _ => ?_) (fun c0 => absurd (by decide) c0)
      refine lv_bipush (v := (-100)) hx hb dX11_sewing_25 (by decide) ?_
      exact ret (-100) (v, f, w, g) _ _ _ _ _ _ rfl ⟨hM_v, hA_f, hIv, hCf, hRf, rfl, rfl, rfl, rfl, rfl, rfl, rfl, rfl, rfl, rfl, rfl, rfl, rfl, rfl, rfl, rfl, rfl, rfl, rfl, rfl⟩ hP hD hS dX11_sewing_27 (Nat.le_refl _) (Nat.le_refl _)
  · skip
    subst g2
    refine lv_if_eq (tgt := 25) hx hb dX11_sewing_5 (by decide) (fun _ => ?_) (fun c0 => absurd (by decide) c0)
    refine lv_bipush (v := (-100)) hx hb dX11_sewing_25 (by decide) ?_
    exact ret (-100) (v, f, w, g) _ _ _ _ _ _ rfl ⟨hM_v, hA_f, hIv, hCf, hRf, rfl, rfl, rfl, rfl, rfl, rfl, rfl, rfl, rfl, rfl, rfl, rfl, rfl, rfl, rfl, rfl, rfl, rfl, rfl, rfl⟩ hP hD hS dX11_sewing_27 (Nat.le_refl _) (Nat.le_refl _)
set_option maxHeartbeats 4000000 in
set_option maxRecDepth 100000 in
theorem sY_X11_members_1 (l : Launch) (dC : Nat → ClassId) (dI : Nat → Nat → Nat) (cy : Nat → ClassId) (y0 : Nat) (r : Nat → Nat) (p0 : Int32) (v : Nat → Int32) (f : Nat → Nat → Int32) (w : Int64) (g : Nat → Int64) (hIv : YI v) (hCf : YC f) (hRf : progOK (f 4) (f 5) (v 9).toInt.toNat)  : ctI l (dC, dI) cy yX11_members cX11_members 3 .int 1 60 0 0 Unit [.int p0] (YW cy y0 r v f w g) (fun r u => True) (fun u => YW cy y0 r v f w g) := by
  refine ctI_of (by decide) (Nat.le_of_ble_eq_true rfl) (fun p e s m below meth c A ls Q hx hb hml hts hown hE hP hD hA hl ret => ?_)
  have hUv : (v 35).toInt + (v 36).toInt ≤ 40 := hIv.2
  have hown : s.vm.findClass RX11 = some m.cls := hown
  have hS : va_S A s.heap s.heap [] := va_S.rf
  have hl : lv_has ls 3 [(0, .int p0)] := hl
  refine lv_iconst (v := 0) hx hb dX11_members_0 (by decide) ?_
  refine lv_istore_n (lv' := [(1, .int 0), (0, .int p0)]) hx hb dX11_members_1 rfl hl (by decide) rfl (fun ls hl => ?_)
  refine lv_iconst (v := 0) hx hb dX11_members_2 (by decide) ?_
  refine lv_istore_n (lv' := [(2, .int 0), (1, .int 0), (0, .int p0)]) hx hb dX11_members_3 rfl hl (by decide) rfl (fun ls hl => ?_)
  have lp1 : ∀ (n1 : Nat) (l1_1 : Int32) (l2_1 : Int32), ((0 : Int) ≤ l2_1.toInt ∧ l2_1.toInt ≤ 2147483647) → (2147483647 - l2_1.toInt).toNat < n1 → ∀ (H : Heap) (locs : List Loc) (ls : Array Slot), va_P (dC, dI) vwCl (YW cy y0 r v f w g) H → va_D A (YW cy y0 r v f w g) → va_S A s.heap H locs → lv_has ls 3 [(2, .int l2_1), (1, .int l1_1), (0, .int p0)] → W p l e { frames := 1, cells := 0, slots := 0, locals := 60 } s m ([.int p0] : List Value).toArray below meth c H locs 0 0 Q (F0 m 4 ls []) := by
    intro n1
    induction n1 with
    | zero => intro l1_1 l2_1 hr2_1 hm; exact absurd hm (Nat.not_lt_zero _)
    | succ n1 ih1 =>
      intro l1_1 l2_1 hr2_1 hm1 H locs ls hP hD hS hl
      refine lv_iload_n hx hb dX11_members_4 rfl (lv_at hl 0 rfl) ?_
      refine lv_bipush (v := 6) hx hb dX11_members_5 (by decide) ?_
      refine lv_icmp_ge (tgt := 24) hx hb dX11_members_7 (by decide) (fun c2 => ?_) (fun c2 => ?_)
      · skip
        have zc2 : 6 ≤ l2_1.toInt := by rw [fa_le, show (6 : Int32).toInt = 6 from by decide] at c2; exact c2
        refine lv_iload_n hx hb dX11_members_24 rfl (lv_at hl 1 rfl) ?_
        exact ret l1_1 () _ _ _ _ _ _ rfl trivial hP hD hS dX11_members_25 (Nat.le_refl _) (Nat.le_refl _)
      · skip
        have zc2 : ¬ (6 ≤ l2_1.toInt) := by rw [fa_le, show (6 : Int32).toInt = 6 from by decide] at c2; exact c2
        refine lv_iload_n hx hb dX11_members_10 rfl (lv_at hl 1 rfl) ?_
        refine lv_iload_n hx hb dX11_members_11 rfl (lv_at hl 2 rfl) ?_
        refine lv_iload_n hx hb dX11_members_12 rfl (lv_at hl 0 rfl) ?_
        refine lv_ishr hx hb dX11_members_13 ?_
        refine lv_topi (fun t3 et3 => ?_)
        refine lv_iconst (v := 1) hx hb dX11_members_14 (by decide) ?_
        refine lv_iand hx hb dX11_members_15 ?_
        refine lv_topi (fun t4 et4 => ?_)
        have zt4 : 0 ≤ t4.toInt ∧ t4.toInt < 2 := by rw [et4]; exact and_rng _ (k := 1) (by decide) (by decide)
        refine lv_iadd hx hb dX11_members_16 ?_
        refine lv_topi (fun t5 et5 => ?_)
        refine lv_istore_n (lv' := [(1, .int t5), (2, .int l2_1), (0, .int p0)]) hx hb dX11_members_17 rfl hl (by decide) rfl (fun ls hl => ?_)
        obtain ⟨t6, et6⟩ : ∃ y : Int32, y = l2_1 + 1 := ⟨_, rfl⟩
        have rg7 := fb_rng l2_1
        have zt6 : t6.toInt = l2_1.toInt + 1 := by rw [et6]; exact add_i rfl (by decide) (by omega) (by omega)
        refine lv_iinc (v := t6) (lv' := [(2, .int t6), (1, .int t5), (0, .int p0)]) hx hb dX11_members_18 hl (k := 1) rfl (by rw [et6]; rfl) (by decide) rfl (fun ls hl => ?_)
        refine lv_goto (tgt := 4) hx hb dX11_members_21 (by decide) ?_
        have rg8 := fb_rng t6
        exact ih1 t5 t6 ⟨show (0 : Int) ≤ t6.toInt by omega, show t6.toInt ≤ (2147483647 : Int) by omega⟩ (by show (2147483647 - t6.toInt).toNat < n1; omega) _ _ _ hP hD hS (lv_sub hl [0, 1, 2] rfl)
  exact lp1 _ 0 0 ⟨by decide, by decide⟩ (Nat.lt_succ_self _) _ _ _ hP hD hS (lv_sub hl [0, 1, 2] rfl)
set_option maxHeartbeats 4000000 in
set_option maxRecDepth 100000 in
theorem sY_X11_rota_1 (l : Launch) (dC : Nat → ClassId) (dI : Nat → Nat → Nat) (cy : Nat → ClassId) (y0 : Nat) (r : Nat → Nat) (p1 : Int32) (v : Nat → Int32) (f : Nat → Nat → Int32) (w : Int64) (g : Nat → Int64) (hIv : YI v) (hCf : YC f) (hRf : progOK (f 4) (f 5) (v 9).toInt.toNat)  : ctI l (dC, dI) cy yX11_rota cX11_rota 6 .int 7 191 0 0 ((Nat → Int32) × (Nat → Nat → Int32) × (Int64) × (Nat → Int64)) [.ref y0, .int p1] (YW cy y0 r v f w g) (fun r u => KV [] u.1 v ∧ KF [7, 8, 24] u.2.1 f ∧ YI u.1 ∧ YC u.2.1 ∧ progOK (u.2.1 4) (u.2.1 5) (u.1 9).toInt.toNat ∧ u.1 0 = v 0 ∧ u.1 1 = v 1 ∧ u.1 2 = v 2 ∧ u.1 3 = v 3 ∧ u.1 4 = v 4 ∧ u.1 5 = v 5 ∧ u.1 8 = v 8 ∧ u.1 9 = v 9 ∧ u.1 10 = v 10 ∧ u.1 13 = v 13 ∧ u.1 14 = v 14 ∧ u.1 15 = v 15 ∧ u.1 17 = v 17 ∧ u.1 18 = v 18 ∧ u.1 24 = v 24 ∧ u.1 25 = v 25 ∧ u.1 35 = v 35 ∧ u.1 36 = v 36 ∧ u.1 38 = v 38 ∧ u.1 39 = v 39) (fun u => YW cy y0 r u.1 u.2.1 u.2.2.1 u.2.2.2) := by
  refine ctI_of (by decide) (Nat.le_of_ble_eq_true rfl) (fun p e s m below meth c A ls Q hx hb hml hts hown hE hP hD hA hl ret => ?_)
  have hUv : (v 35).toInt + (v 36).toInt ≤ 40 := hIv.2
  have hM_v : KV [] v v := fun _ _ => rfl
  have hA_f : KF [7, 8, 24] f f := fun _ _ => rfl
  have hown : s.vm.findClass RX11 = some m.cls := hown
  have hS : va_S A s.heap s.heap [] := va_S.rf
  have hl : lv_has ls 6 [(0, .ref y0), (1, .int p1)] := hl
  refine lv_iload_n hx hb dX11_rota_0 rfl (lv_at hl 1 rfl) ?_
  refine lv_iconst (v := 0) hx hb dX11_rota_1 (by decide) ?_
  refine lv_iconst (v := 1) hx hb dX11_rota_2 (by decide) ?_
  have lt1 : (0 : Int32).toInt = 0 := by decide
  have lt2 : (1 : Int32).toInt = 1 := by decide
  refine cbSi (n := 3) (rest := []) hx hb hml hown hts hE hP hD hS hA (sY_X11_isIn_1 0 l dC dI cy y0 r p1 0 1 v f w g hIv hCf hRf ) k_1736 k_1737 k_114 k_1738 (by decide +kernel) ⟨Nat.le_of_ble_eq_true rfl, Nat.le_of_ble_eq_true rfl⟩ (rfl) hl.1 rfl (Nat.le_of_ble_eq_true rfl) dX11_rota_3 (fun r3 u H locs hw hP hD hS => ?_)
  obtain ⟨hG4, hw⟩ := hw
  rcases hw with ⟨g5, g5_0, g5_1⟩ | ⟨g5⟩
  · skip
    subst g5
    refine lv_if_eq (tgt := 16) hx hb dX11_rota_6 (by decide) (fun c0 => absurd c0 (by decide)) (fun _ => ?_)
    refine lv_aload_n hx hb dX11_rota_9 rfl (lv_at hl 0 rfl) ?_
    refine va_get (D := (dC, dI)) (ci := 11) (v := .int (v 24)) (C := RX11) (T := TX11) (N := 79) hx hb hts inB_11 hown hE.1 hP 0 rfl rfl 48 (by decide) (hts _ k_1368) (fun _ h9 => h9) rfl dX11_rota_10 ?_
    have b24_v : 0 ≤ (v 24).toInt ∧ (v 24).toInt ≤ 6 := YIb.b hIv.1 24 (by decide)
    refine lv_if_ne (tgt := 18) hx hb dX11_rota_13 (by decide) (fun c6 => ?_) (fun c6 => ?_)
    · skip
      have zc6 : ¬ ((v 24).toInt = 0) := by rw [fa_eq, show (0 : Int32).toInt = 0 from by decide] at c6; exact c6
      refine lv_iconst (v := 0) hx hb dX11_rota_18 (by decide) ?_
      refine lv_istore_n (lv' := [(2, .int 0), (0, .ref y0), (1, .int p1)]) hx hb dX11_rota_19 rfl hl (by decide) rfl (fun ls hl => ?_)
      refine lv_iconst (v := (-1)) hx hb dX11_rota_20 (by decide) ?_
      refine lv_istore_n (lv' := [(3, .int (-1)), (2, .int 0), (0, .ref y0), (1, .int p1)]) hx hb dX11_rota_21 rfl hl (by decide) rfl (fun ls hl => ?_)
      refine lv_iconst (v := 0) hx hb dX11_rota_22 (by decide) ?_
      refine lv_istore (lv' := [(4, .int 0), (3, .int (-1)), (2, .int 0), (0, .ref y0), (1, .int p1)]) hx hb dX11_rota_23 hl (by decide) rfl (fun ls hl => ?_)
      have lp7 : ∀ (n7 : Nat) (l2_7 : Int32) (l3_7 : Int32) (l4_7 : Int32) (v7 : Nat → Int32) (f7 : Nat → Nat → Int32) (w7 : Int64) (g7 : Nat → Int64), YI v7 → YC f7 → progOK (f7 4) (f7 5) (v7 9).toInt.toNat → v7 0 = (v 0) → v7 1 = (v 1) → v7 2 = (v 2) → v7 3 = (v 3) → v7 4 = (v 4) → v7 5 = (v 5) → v7 8 = (v 8) → v7 9 = (v 9) → v7 10 = (v 10) → v7 13 = (v 13) → v7 14 = (v 14) → v7 15 = (v 15) → v7 17 = (v 17) → v7 18 = (v 18) → v7 24 = (v 24) → v7 25 = (v 25) → v7 35 = (v 35) → v7 36 = (v 36) → v7 38 = (v 38) → v7 39 = (v 39) → ((0 : Int) ≤ l4_7.toInt ∧ l4_7.toInt ≤ 2147483647) → KV [] v7 v → KF [7, 8, 24] f7 f → (2147483647 - l4_7.toInt).toNat < n7 → ∀ (H : Heap) (locs : List Loc) (ls : Array Slot), va_P (dC, dI) vwCl (YW cy y0 r v7 f7 w7 g7) H → va_D A (YW cy y0 r v7 f7 w7 g7) → va_S A s.heap H locs → lv_has ls 6 [(4, .int l4_7), (3, .int l3_7), (2, .int l2_7), (0, .ref y0), (1, .int p1)] → W p l e { frames := 7, cells := 0, slots := 0, locals := 191 } s m ([.ref y0, .int p1] : List Value).toArray below meth c H locs 0 0 Q (F0 m 25 ls []) := by
        intro n7
        induction n7 with
        | zero => intro l2_7 l3_7 l4_7 v7 f7 w7 g7 hIv7 hCf7 hRf7 hq0_v7 hq1_v7 hq2_v7 hq3_v7 hq4_v7 hq5_v7 hq8_v7 hq9_v7 hq10_v7 hq13_v7 hq14_v7 hq15_v7 hq17_v7 hq18_v7 hq24_v7 hq25_v7 hq35_v7 hq36_v7 hq38_v7 hq39_v7 hr4_7 hM_v7 hA_f7 hm; exact absurd hm (Nat.not_lt_zero _)
        | succ n7 ih7 =>
          intro l2_7 l3_7 l4_7 v7 f7 w7 g7 hIv7 hCf7 hRf7 hq0_v7 hq1_v7 hq2_v7 hq3_v7 hq4_v7 hq5_v7 hq8_v7 hq9_v7 hq10_v7 hq13_v7 hq14_v7 hq15_v7 hq17_v7 hq18_v7 hq24_v7 hq25_v7 hq35_v7 hq36_v7 hq38_v7 hq39_v7 hr4_7 hM_v7 hA_f7 hm7 H locs ls hP hD hS hl
          have hUv7 : (v7 35).toInt + (v7 36).toInt ≤ 40 := hIv7.2
          have zq9_v7 := congrArg Int32.toInt hq9_v7
          refine lv_iload hx hb dX11_rota_25 (lv_at hl 0 rfl) ?_
          refine lv_aload_n hx hb dX11_rota_27 rfl (lv_at hl 3 rfl) ?_
          refine va_get (D := (dC, dI)) (ci := 11) (v := .int (v7 24)) (C := RX11) (T := TX11) (N := 79) hx hb hts inB_11 hown hE.1 hP 0 rfl rfl 48 (by decide) (hts _ k_1368) (fun _ h9 => h9) rfl dX11_rota_28 ?_
          refine tI (y := (v 24)) hq24_v7 ?_
          have b24_v : 0 ≤ (v 24).toInt ∧ (v 24).toInt ≤ 6 := YIb.b hIv.1 24 (by decide)
          refine lv_icmp_ge (tgt := 114) hx hb dX11_rota_31 (by decide) (fun c8 => ?_) (fun c8 => ?_)
          · skip
            have zc8 : (v 24).toInt ≤ l4_7.toInt := by rw [fa_le] at c8; exact c8
            have rg9 := fb_rng l4_7
            have rg10 := fb_rng (v 24)
            refine lv_iload_n hx hb dX11_rota_114 rfl (lv_at hl 4 rfl) ?_
            refine lv_if_ne (tgt := 122) hx hb dX11_rota_115 (by decide) (fun c11 => ?_) (fun c11 => ?_)
            · skip
              have zc11 : ¬ (p1.toInt = 0) := by rw [fa_eq, show (0 : Int32).toInt = 0 from by decide] at c11; exact c11
              refine lv_iload_n hx hb dX11_rota_122 rfl (lv_at hl 1 rfl) ?_
              exact ret l3_7 (v7, f7, w7, g7) _ _ _ _ _ _ rfl ⟨hM_v7, hA_f7, hIv7, hCf7, hRf7, (show v7 0 = v 0 from hq0_v7), (show v7 1 = v 1 from hq1_v7), (show v7 2 = v 2 from hq2_v7), (show v7 3 = v 3 from hq3_v7), (show v7 4 = v 4 from hq4_v7), (show v7 5 = v 5 from hq5_v7), (show v7 8 = v 8 from hq8_v7), (show v7 9 = v 9 from hq9_v7), (show v7 10 = v 10 from hq10_v7), (show v7 13 = v 13 from hq13_v7), (show v7 14 = v 14 from hq14_v7), (show v7 15 = v 15 from hq15_v7), (show v7 17 = v 17 from hq17_v7), (show v7 18 = v 18 from hq18_v7), (show v7 24 = v 24 from hq24_v7), (show v7 25 = v 25 from hq25_v7), (show v7 35 = v 35 from hq35_v7), (show v7 36 = v 36 from hq36_v7), (show v7 38 = v 38 from hq38_v7), (show v7 39 = v 39 from hq39_v7)⟩ hP hD hS dX11_rota_123 (Nat.le_refl _) (Nat.le_refl _)
            · skip
              have zc11 : p1.toInt = 0 := by rw [fa_eq, show (0 : Int32).toInt = 0 from by decide] at c11; exact c11
              refine lv_iload_n hx hb dX11_rota_118 rfl (lv_at hl 2 rfl) ?_
              refine lv_goto (tgt := 123) hx hb dX11_rota_119 (by decide) ?_
              exact ret l2_7 (v7, f7, w7, g7) _ _ _ _ _ _ rfl ⟨hM_v7, hA_f7, hIv7, hCf7, hRf7, (show v7 0 = v 0 from hq0_v7), (show v7 1 = v 1 from hq1_v7), (show v7 2 = v 2 from hq2_v7), (show v7 3 = v 3 from hq3_v7), (show v7 4 = v 4 from hq4_v7), (show v7 5 = v 5 from hq5_v7), (show v7 8 = v 8 from hq8_v7), (show v7 9 = v 9 from hq9_v7), (show v7 10 = v 10 from hq10_v7), (show v7 13 = v 13 from hq13_v7), (show v7 14 = v 14 from hq14_v7), (show v7 15 = v 15 from hq15_v7), (show v7 17 = v 17 from hq17_v7), (show v7 18 = v 18 from hq18_v7), (show v7 24 = v 24 from hq24_v7), (show v7 25 = v 25 from hq25_v7), (show v7 35 = v 35 from hq35_v7), (show v7 36 = v 36 from hq36_v7), (show v7 38 = v 38 from hq38_v7), (show v7 39 = v 39 from hq39_v7)⟩ hP hD hS dX11_rota_123 (Nat.le_refl _) (Nat.le_refl _)
          · skip
            have zc8 : ¬ ((v 24).toInt ≤ l4_7.toInt) := by rw [fa_le] at c8; exact c8
            have rg12 := fb_rng l4_7
            have rg13 := fb_rng (v 24)
            refine lv_aload_n hx hb dX11_rota_34 rfl (lv_at hl 3 rfl) ?_
            refine cbVv (n := 0) (rest := []) hx hb hml hown hts hE hP hD hS hA (sY_X11_fill_1 l dC dI cy y0 r  v7 f7 w7 g7 hIv7 hCf7 hRf7 ) k_1739 k_1741 k_71 k_114 k_1742 (by decide +kernel) ⟨Nat.le_of_ble_eq_true rfl, Nat.le_of_ble_eq_true rfl⟩ 0 11 rfl rfl (rfl) hl.1 rfl (Nat.le_of_ble_eq_true rfl) dX11_rota_35 (fun u H locs hw hP hD hS => ?_)
            obtain ⟨v14, f15, w16, g17⟩ := u
            obtain ⟨kV_v14, kF_f15, hIv14, hCf15, hRf15, hk0_v14, hk1_v14, hk2_v14, hk3_v14, hk4_v14, hk5_v14, hk8_v14, hk9_v14, hk10_v14, hk13_v14, hk14_v14, hk15_v14, hk17_v14, hk18_v14, hk24_v14, hk25_v14, hk35_v14, hk36_v14, hk38_v14, hk39_v14⟩ := hw
            have hM_v14 : KV [] v14 v := KV.tr kV_v14 hM_v7 rfl
            have hA_f15 : KF [7, 8, 24] f15 f := KF.tr kF_f15 hA_f7 rfl
            have hP : va_P (dC, dI) vwCl (YW cy y0 r v14 f15 w16 g17) H := hP
            have hD : va_D A (YW cy y0 r v14 f15 w16 g17) := hD
            have hUv14 : (v14 35).toInt + (v14 36).toInt ≤ 40 := hIv14.2
            have hq0_v14 : v14 0 = (v 0) := hk0_v14.trans hq0_v7
            have hq1_v14 : v14 1 = (v 1) := hk1_v14.trans hq1_v7
            have hq2_v14 : v14 2 = (v 2) := hk2_v14.trans hq2_v7
            have hq3_v14 : v14 3 = (v 3) := hk3_v14.trans hq3_v7
            have hq4_v14 : v14 4 = (v 4) := hk4_v14.trans hq4_v7
            have hq5_v14 : v14 5 = (v 5) := hk5_v14.trans hq5_v7
            have hq8_v14 : v14 8 = (v 8) := hk8_v14.trans hq8_v7
            have hq9_v14 : v14 9 = (v 9) := hk9_v14.trans hq9_v7
            have zq9_v14 := congrArg Int32.toInt hq9_v14
            have hq10_v14 : v14 10 = (v 10) := hk10_v14.trans hq10_v7
            have hq13_v14 : v14 13 = (v 13) := hk13_v14.trans hq13_v7
            have hq14_v14 : v14 14 = (v 14) := hk14_v14.trans hq14_v7
            have hq15_v14 : v14 15 = (v 15) := hk15_v14.trans hq15_v7
            have hq17_v14 : v14 17 = (v 17) := hk17_v14.trans hq17_v7
            have hq18_v14 : v14 18 = (v 18) := hk18_v14.trans hq18_v7
            have hq24_v14 : v14 24 = (v 24) := hk24_v14.trans hq24_v7
            have hq25_v14 : v14 25 = (v 25) := hk25_v14.trans hq25_v7
            have hq35_v14 : v14 35 = (v 35) := hk35_v14.trans hq35_v7
            have hq36_v14 : v14 36 = (v 36) := hk36_v14.trans hq36_v7
            have hq38_v14 : v14 38 = (v 38) := hk38_v14.trans hq38_v7
            have hq39_v14 : v14 39 = (v 39) := hk39_v14.trans hq39_v7
            refine lv_iconst (v := 0) hx hb dX11_rota_38 (by decide) ?_
            refine lv_istore (lv' := [(5, .int 0), (4, .int l4_7), (3, .int l3_7), (2, .int l2_7), (0, .ref y0), (1, .int p1)]) hx hb dX11_rota_39 hl (by decide) rfl (fun ls hl => ?_)
            have lp18 : ∀ (n18 : Nat) (l5_18 : Int32) (v18 : Nat → Int32) (f18 : Nat → Nat → Int32) (w18 : Int64) (g18 : Nat → Int64), YI v18 → YC f18 → progOK (f18 4) (f18 5) (v18 9).toInt.toNat → v18 0 = (v 0) → v18 1 = (v 1) → v18 2 = (v 2) → v18 3 = (v 3) → v18 4 = (v 4) → v18 5 = (v 5) → v18 8 = (v 8) → v18 9 = (v 9) → v18 10 = (v 10) → v18 13 = (v 13) → v18 14 = (v 14) → v18 15 = (v 15) → v18 17 = (v 17) → v18 18 = (v 18) → v18 24 = (v 24) → v18 25 = (v 25) → v18 35 = (v 35) → v18 36 = (v 36) → v18 38 = (v 38) → v18 39 = (v 39) → ((0 : Int) ≤ l5_18.toInt ∧ l5_18.toInt ≤ 2147483647) → KV [] v18 v → KF [7, 8, 24] f18 f → (2147483647 - l5_18.toInt).toNat < n18 → ∀ (H : Heap) (locs : List Loc) (ls : Array Slot), va_P (dC, dI) vwCl (YW cy y0 r v18 f18 w18 g18) H → va_D A (YW cy y0 r v18 f18 w18 g18) → va_S A s.heap H locs → lv_has ls 6 [(5, .int l5_18), (4, .int l4_7), (3, .int l3_7), (2, .int l2_7), (0, .ref y0), (1, .int p1)] → W p l e { frames := 7, cells := 0, slots := 0, locals := 191 } s m ([.ref y0, .int p1] : List Value).toArray below meth c H locs 0 0 Q (F0 m 41 ls []) := by
              intro n18
              induction n18 with
              | zero => intro l5_18 v18 f18 w18 g18 hIv18 hCf18 hRf18 hq0_v18 hq1_v18 hq2_v18 hq3_v18 hq4_v18 hq5_v18 hq8_v18 hq9_v18 hq10_v18 hq13_v18 hq14_v18 hq15_v18 hq17_v18 hq18_v18 hq24_v18 hq25_v18 hq35_v18 hq36_v18 hq38_v18 hq39_v18 hr5_18 hM_v18 hA_f18 hm; exact absurd hm (Nat.not_lt_zero _)
              | succ n18 ih18 =>
                intro l5_18 v18 f18 w18 g18 hIv18 hCf18 hRf18 hq0_v18 hq1_v18 hq2_v18 hq3_v18 hq4_v18 hq5_v18 hq8_v18 hq9_v18 hq10_v18 hq13_v18 hq14_v18 hq15_v18 hq17_v18 hq18_v18 hq24_v18 hq25_v18 hq35_v18 hq36_v18 hq38_v18 hq39_v18 hr5_18 hM_v18 hA_f18 hm18 H locs ls hP hD hS hl
                have hUv18 : (v18 35).toInt + (v18 36).toInt ≤ 40 := hIv18.2
                have zq9_v18 := congrArg Int32.toInt hq9_v18
                refine lv_iload hx hb dX11_rota_41 (lv_at hl 0 rfl) ?_
                refine lv_aload_n hx hb dX11_rota_43 rfl (lv_at hl 4 rfl) ?_
                refine va_get (D := (dC, dI)) (ci := 11) (v := .int (v18 24)) (C := RX11) (T := TX11) (N := 79) hx hb hts inB_11 hown hE.1 hP 0 rfl rfl 48 (by decide) (hts _ k_1368) (fun _ h9 => h9) rfl dX11_rota_44 ?_
                refine tI (y := (v 24)) hq24_v18 ?_
                have b24_v : 0 ≤ (v 24).toInt ∧ (v 24).toInt ≤ 6 := YIb.b hIv.1 24 (by decide)
                refine lv_icmp_ge (tgt := 84) hx hb dX11_rota_47 (by decide) (fun c19 => ?_) (fun c19 => ?_)
                · skip
                  have zc19 : (v 24).toInt ≤ l5_18.toInt := by rw [fa_le] at c19; exact c19
                  have rg20 := fb_rng l5_18
                  refine lv_aload_n hx hb dX11_rota_84 rfl (lv_at hl 4 rfl) ?_
                  refine cbVi (n := 0) (rest := []) hx hb hml hown hts hE hP hD hS hA (sY_X11_fittedOnes_1 l dC dI cy y0 r  v18 f18 w18 g18 hIv18 hCf18 hRf18 ) k_1809 k_1811 k_81 k_114 k_1812 (by decide +kernel) ⟨Nat.le_of_ble_eq_true rfl, Nat.le_of_ble_eq_true rfl⟩ 0 11 rfl rfl (rfl) hl.1 rfl (Nat.le_of_ble_eq_true rfl) dX11_rota_85 (fun r21 u H locs hw hP hD hS => ?_)
                  obtain ⟨v22, f23, w24, g25⟩ := u
                  obtain ⟨kV_v22, kF_f23, hIv22, hCf23, hRf23, hk0_v22, hk1_v22, hk2_v22, hk3_v22, hk4_v22, hk5_v22, hk8_v22, hk9_v22, hk10_v22, hk13_v22, hk14_v22, hk15_v22, hk17_v22, hk18_v22, hk24_v22, hk25_v22, hk35_v22, hk36_v22, hk38_v22, hk39_v22⟩ := hw
                  have hM_v22 : KV [] v22 v := KV.tr kV_v22 hM_v18 rfl
                  have hA_f23 : KF [7, 8, 24] f23 f := KF.tr kF_f23 hA_f18 rfl
                  have hP : va_P (dC, dI) vwCl (YW cy y0 r v22 f23 w24 g25) H := hP
                  have hD : va_D A (YW cy y0 r v22 f23 w24 g25) := hD
                  have hUv22 : (v22 35).toInt + (v22 36).toInt ≤ 40 := hIv22.2
                  have hq0_v22 : v22 0 = (v 0) := hk0_v22.trans hq0_v18
                  have hq1_v22 : v22 1 = (v 1) := hk1_v22.trans hq1_v18
                  have hq2_v22 : v22 2 = (v 2) := hk2_v22.trans hq2_v18
                  have hq3_v22 : v22 3 = (v 3) := hk3_v22.trans hq3_v18
                  have hq4_v22 : v22 4 = (v 4) := hk4_v22.trans hq4_v18
                  have hq5_v22 : v22 5 = (v 5) := hk5_v22.trans hq5_v18
                  have hq8_v22 : v22 8 = (v 8) := hk8_v22.trans hq8_v18
                  have hq9_v22 : v22 9 = (v 9) := hk9_v22.trans hq9_v18
                  have zq9_v22 := congrArg Int32.toInt hq9_v22
                  have hq10_v22 : v22 10 = (v 10) := hk10_v22.trans hq10_v18
                  have hq13_v22 : v22 13 = (v 13) := hk13_v22.trans hq13_v18
                  have hq14_v22 : v22 14 = (v 14) := hk14_v22.trans hq14_v18
                  have hq15_v22 : v22 15 = (v 15) := hk15_v22.trans hq15_v18
                  have hq17_v22 : v22 17 = (v 17) := hk17_v22.trans hq17_v18
                  have hq18_v22 : v22 18 = (v 18) := hk18_v22.trans hq18_v18
                  have hq24_v22 : v22 24 = (v 24) := hk24_v22.trans hq24_v18
                  have hq25_v22 : v22 25 = (v 25) := hk25_v22.trans hq25_v18
                  have hq35_v22 : v22 35 = (v 35) := hk35_v22.trans hq35_v18
                  have hq36_v22 : v22 36 = (v 36) := hk36_v22.trans hq36_v18
                  have hq38_v22 : v22 38 = (v 38) := hk38_v22.trans hq38_v18
                  have hq39_v22 : v22 39 = (v 39) := hk39_v22.trans hq39_v18
                  refine cbSi (n := 1) (rest := []) hx hb hml hown hts hE hP hD hS hA (sY_X11_members_1 l dC dI cy y0 r r21 v22 f23 w24 g25 hIv22 hCf23 hRf23 ) k_1900 k_1901 k_114 k_1902 (by decide +kernel) ⟨Nat.le_of_ble_eq_true rfl, Nat.le_of_ble_eq_true rfl⟩ (rfl) hl.1 rfl (Nat.le_of_ble_eq_true rfl) dX11_rota_88 (fun r26 u H locs hw hP hD hS => ?_)
                  refine lv_istore (lv' := [(5, .int r26), (4, .int l4_7), (3, .int l3_7), (2, .int l2_7), (0, .ref y0), (1, .int p1)]) hx hb dX11_rota_91 hl (by decide) rfl (fun ls hl => ?_)
                  refine lv_iload hx hb dX11_rota_93 (lv_at hl 0 rfl) ?_
                  refine lv_iload_n hx hb dX11_rota_95 rfl (lv_at hl 2 rfl) ?_
                  refine lv_icmp_gt (tgt := 102) hx hb dX11_rota_96 (by decide) (fun c27 => ?_) (fun c27 => ?_)
                  · skip
                    have zc27 : l3_7.toInt < r26.toInt := by rw [fa_lt] at c27; exact c27
                    have rg28 := fb_rng r26
                    have rg29 := fb_rng l3_7
                    refine lv_iload hx hb dX11_rota_102 (lv_at hl 1 rfl) ?_
                    refine lv_istore_n (lv' := [(2, .int l4_7), (5, .int r26), (4, .int l4_7), (3, .int l3_7), (0, .ref y0), (1, .int p1)]) hx hb dX11_rota_104 rfl hl (by decide) rfl (fun ls hl => ?_)
                    refine lv_iload hx hb dX11_rota_105 (lv_at hl 1 rfl) ?_
                    refine lv_istore_n (lv' := [(3, .int r26), (2, .int l4_7), (5, .int r26), (4, .int l4_7), (0, .ref y0), (1, .int p1)]) hx hb dX11_rota_107 rfl hl (by decide) rfl (fun ls hl => ?_)
                    obtain ⟨t30, et30⟩ : ∃ y : Int32, y = l4_7 + 1 := ⟨_, rfl⟩
                    have zt30 : t30.toInt = l4_7.toInt + 1 := by rw [et30]; exact add_i rfl (by decide) (by omega) (by omega)
                    refine lv_iinc (v := t30) (lv' := [(4, .int t30), (3, .int r26), (2, .int l4_7), (5, .int r26), (0, .ref y0), (1, .int p1)]) hx hb dX11_rota_108 hl (k := 3) rfl (by rw [et30]; rfl) (by decide) rfl (fun ls hl => ?_)
                    refine lv_goto (tgt := 25) hx hb dX11_rota_111 (by decide) ?_
                    have rg31 := fb_rng t30
                    exact ih7 l4_7 r26 t30 v22 f23 w24 g25 hIv22 hCf23 hRf23 hq0_v22 hq1_v22 hq2_v22 hq3_v22 hq4_v22 hq5_v22 hq8_v22 hq9_v22 hq10_v22 hq13_v22 hq14_v22 hq15_v22 hq17_v22 hq18_v22 hq24_v22 hq25_v22 hq35_v22 hq36_v22 hq38_v22 hq39_v22 ⟨show (0 : Int) ≤ t30.toInt by omega, show t30.toInt ≤ (2147483647 : Int) by omega⟩ hM_v22 hA_f23 (by show (2147483647 - t30.toInt).toNat < n7; omega) _ _ _ hP hD hS (lv_sub hl [0, 1, 2, 4, 5] rfl)
                  · skip
                    have zc27 : ¬ (l3_7.toInt < r26.toInt) := by rw [fa_lt] at c27; exact c27
                    have rg32 := fb_rng r26
                    have rg33 := fb_rng l3_7
                    refine lv_goto (tgt := 108) hx hb dX11_rota_99 (by decide) ?_
                    obtain ⟨t34, et34⟩ : ∃ y : Int32, y = l4_7 + 1 := ⟨_, rfl⟩
                    have zt34 : t34.toInt = l4_7.toInt + 1 := by rw [et34]; exact add_i rfl (by decide) (by omega) (by omega)
                    refine lv_iinc (v := t34) (lv' := [(4, .int t34), (5, .int r26), (3, .int l3_7), (2, .int l2_7), (0, .ref y0), (1, .int p1)]) hx hb dX11_rota_108 hl (k := 1) rfl (by rw [et34]; rfl) (by decide) rfl (fun ls hl => ?_)
                    refine lv_goto (tgt := 25) hx hb dX11_rota_111 (by decide) ?_
                    have rg35 := fb_rng t34
                    exact ih7 l2_7 l3_7 t34 v22 f23 w24 g25 hIv22 hCf23 hRf23 hq0_v22 hq1_v22 hq2_v22 hq3_v22 hq4_v22 hq5_v22 hq8_v22 hq9_v22 hq10_v22 hq13_v22 hq14_v22 hq15_v22 hq17_v22 hq18_v22 hq24_v22 hq25_v22 hq35_v22 hq36_v22 hq38_v22 hq39_v22 ⟨show (0 : Int) ≤ t34.toInt by omega, show t34.toInt ≤ (2147483647 : Int) by omega⟩ hM_v22 hA_f23 (by show (2147483647 - t34.toInt).toNat < n7; omega) _ _ _ hP hD hS (lv_sub hl [0, 2, 3, 4, 5] rfl)
                · skip
                  have zc19 : ¬ ((v 24).toInt ≤ l5_18.toInt) := by rw [fa_le] at c19; exact c19
                  have rg36 := fb_rng l5_18
                  refine lv_aload_n hx hb dX11_rota_50 rfl (lv_at hl 4 rfl) ?_
                  refine va_get (D := (dC, dI)) (ci := 11) (v := .ref (r 60)) (C := RX11) (T := TX11) (N := 79) hx hb hts inB_11 hown hE.1 hP 0 rfl rfl 60 (by decide) (hts _ k_1380) (fun _ h9 => h9) rfl dX11_rota_51 ?_
                  refine lv_bipush (v := 6) hx hb dX11_rota_54 (by decide) ?_
                  refine lv_iload hx hb dX11_rota_56 (lv_at hl 0 rfl) ?_
                  refine lv_iadd hx hb dX11_rota_58 ?_
                  refine lv_topi (fun t37 et37 => ?_)
                  have zt37 : t37.toInt = 6 + l5_18.toInt := by rw [et37]; exact add_i (by decide) rfl (by omega) (by omega)
                  refine lv_aload_n hx hb dX11_rota_59 rfl (lv_at hl 4 rfl) ?_
                  refine va_get (D := (dC, dI)) (ci := 11) (v := .ref (r 59)) (C := RX11) (T := TX11) (N := 79) hx hb hts inB_11 hown hE.1 hP 0 rfl rfl 59 (by decide) (hts _ k_1379) (fun _ h9 => h9) rfl dX11_rota_60 ?_
                  refine lv_bipush (v := 6) hx hb dX11_rota_63 (by decide) ?_
                  refine lv_iload hx hb dX11_rota_65 (lv_at hl 0 rfl) ?_
                  refine lv_iload hx hb dX11_rota_67 (lv_at hl 1 rfl) ?_
                  refine lv_iadd hx hb dX11_rota_69 ?_
                  refine lv_topi (fun t38 et38 => ?_)
                  have zt38 : t38.toInt = l5_18.toInt + l4_7.toInt := by rw [et38]; exact add_i rfl rfl (by omega) (by omega)
                  refine lv_aload_n hx hb dX11_rota_70 rfl (lv_at hl 4 rfl) ?_
                  refine va_get (D := (dC, dI)) (ci := 11) (v := .int (v18 24)) (C := RX11) (T := TX11) (N := 79) hx hb hts inB_11 hown hE.1 hP 0 rfl rfl 48 (by decide) (hts _ k_1368) (fun _ h9 => h9) rfl dX11_rota_71 ?_
                  refine tI (y := (v 24)) hq24_v18 ?_
                  refine lv_irem hx hb dX11_rota_74 (ne0 (by omega)) ?_
                  refine lv_topi (fun t39 et39 => ?_)
                  have zt39 : 0 ≤ t39.toInt ∧ t39.toInt < (v 24).toInt := by rw [et39]; exact rem_rng (zx := t38.toInt) (zy := (v 24).toInt) rfl rfl (by omega) (by omega)
                  refine lv_iadd hx hb dX11_rota_75 ?_
                  refine lv_topi (fun t40 et40 => ?_)
                  have rg41 := fb_rng t39
                  have zt40 : t40.toInt = 6 + t39.toInt := by rw [et40]; exact add_i (by decide) rfl (by omega) (by omega)
                  refine ldI hx hb hE hP 24 rfl (vp_in_iff.mpr ⟨by omega, by omega⟩) rfl rfl dX11_rota_76 ?_
                  refine lv_topi (fun t42 et42 => ?_)
                  have zt42 : t40.toInt.toNat % 39 < 6 ∨ 12 ≤ t40.toInt.toNat % 39 ∨ (-1 ≤ t42.toInt ∧ t42.toInt ≤ 5) := by rw [et42]; exact wear_ld hCf18.1 (show t40.toInt.toNat < 39 by omega)
                  refine stI hx hb hE hP hD hS 25 rfl (vp_in_iff.mpr ⟨by omega, by omega⟩) rfl dX11_rota_77 (fun H locs hP hD hS => ?_)
                  obtain ⟨f43, ef43, hP, hD⟩ : ∃ fz9, fz9 = upd2 f18 24 (upd (f18 24) t37.toNatClampNeg t42) ∧ va_P (dC, dI) vwCl (YW cy y0 r v18 fz9 w18 g18) H ∧ va_D A (YW cy y0 r v18 fz9 w18 g18) := ⟨_, rfl, hP, hD⟩
                  have hCf43 : YC f43 := by rw [ef43]; exact ⟨hCf18.1, (wear_st hCf18.2.1 (by show t37.toInt.toNat % 39 < 6 ∨ 12 ≤ t37.toInt.toNat % 39 ∨ (-1 ≤ t42.toInt ∧ t42.toInt ≤ 5); omega)), hCf18.2.2.1, hCf18.2.2.2.1, hCf18.2.2.2.2.1, hCf18.2.2.2.2.2⟩
                  have hRf43 : progOK (f43 4) (f43 5) (v18 9).toInt.toNat := by rw [ef43]; exact hRf18
                  have hA_f43 : KF [7, 8, 24] f43 f := by rw [ef43]; exact KF.up hA_f18 rfl
                  obtain ⟨t44, et44⟩ : ∃ y : Int32, y = l5_18 + 1 := ⟨_, rfl⟩
                  have zt44 : t44.toInt = l5_18.toInt + 1 := by rw [et44]; exact add_i rfl (by decide) (by omega) (by omega)
                  refine lv_iinc (v := t44) (lv' := [(5, .int t44), (4, .int l4_7), (3, .int l3_7), (2, .int l2_7), (0, .ref y0), (1, .int p1)]) hx hb dX11_rota_78 hl (k := 0) rfl (by rw [et44]; rfl) (by decide) rfl (fun ls hl => ?_)
                  refine lv_goto (tgt := 41) hx hb dX11_rota_81 (by decide) ?_
                  have rg45 := fb_rng t44
                  exact ih18 t44 v18 f43 w18 g18 hIv18 hCf43 hRf43 hq0_v18 hq1_v18 hq2_v18 hq3_v18 hq4_v18 hq5_v18 hq8_v18 hq9_v18 hq10_v18 hq13_v18 hq14_v18 hq15_v18 hq17_v18 hq18_v18 hq24_v18 hq25_v18 hq35_v18 hq36_v18 hq38_v18 hq39_v18 ⟨show (0 : Int) ≤ t44.toInt by omega, show t44.toInt ≤ (2147483647 : Int) by omega⟩ hM_v18 hA_f43 (by show (2147483647 - t44.toInt).toNat < n18; omega) _ _ _ hP hD hS (lv_sub hl [0, 1, 2, 3, 4, 5] rfl)
            exact lp18 _ 0 v14 f15 w16 g17 hIv14 hCf15 hRf15 hq0_v14 hq1_v14 hq2_v14 hq3_v14 hq4_v14 hq5_v14 hq8_v14 hq9_v14 hq10_v14 hq13_v14 hq14_v14 hq15_v14 hq17_v14 hq18_v14 hq24_v14 hq25_v14 hq35_v14 hq36_v14 hq38_v14 hq39_v14 ⟨by decide, by decide⟩ hM_v14 hA_f15 (Nat.lt_succ_self _) _ _ _ hP hD hS (lv_sub hl [0, 1, 2, 3, 4, 5] rfl)
      exact lp7 _ 0 (-1) 0 v f w g hIv hCf hRf rfl rfl rfl rfl rfl rfl rfl rfl rfl rfl rfl rfl rfl rfl rfl rfl rfl rfl rfl rfl ⟨by decide, by decide⟩ hM_v hA_f (Nat.lt_succ_self _) _ _ _ hP hD hS (lv_sub hl [0, 1, 2, 3, 4] rfl)
    · skip
      have zc6 : (v 24).toInt = 0 := by rw [fa_eq, show (0 : Int32).toInt = 0 from by decide] at c6; exact c6
      refine lv_iconst (v := (-1)) hx hb dX11_rota_16 (by decide) ?_
      exact ret (-1) (v, f, w, g) _ _ _ _ _ _ rfl ⟨hM_v, hA_f, hIv, hCf, hRf, rfl, rfl, rfl, rfl, rfl, rfl, rfl, rfl, rfl, rfl, rfl, rfl, rfl, rfl, rfl, rfl, rfl, rfl, rfl, rfl⟩ hP hD hS dX11_rota_17 (Nat.le_refl _) (Nat.le_refl _)
  · skip
    subst g5
    refine lv_if_eq (tgt := 16) hx hb dX11_rota_6 (by decide) (fun _ => ?_) (fun c0 => absurd (by decide) c0)
    refine lv_iconst (v := (-1)) hx hb dX11_rota_16 (by decide) ?_
    exact ret (-1) (v, f, w, g) _ _ _ _ _ _ rfl ⟨hM_v, hA_f, hIv, hCf, hRf, rfl, rfl, rfl, rfl, rfl, rfl, rfl, rfl, rfl, rfl, rfl, rfl, rfl, rfl, rfl, rfl, rfl, rfl, rfl, rfl⟩ hP hD hS dX11_rota_17 (Nat.le_refl _) (Nat.le_refl _)
set_option maxHeartbeats 4000000 in
set_option maxRecDepth 100000 in
theorem sY_X11_change_1 (l : Launch) (dC : Nat → ClassId) (dI : Nat → Nat → Nat) (cy : Nat → ClassId) (y0 : Nat) (r : Nat → Nat) (p1 : Int32) (v : Nat → Int32) (f : Nat → Nat → Int32) (w : Int64) (g : Nat → Int64) (hIv : YI v) (hCf : YC f) (hRf : progOK (f 4) (f 5) (v 9).toInt.toNat)  : ctI l (dC, dI) cy yX11_change cX11_change 7 .int 8 211 0 0 ((Nat → Int32) × (Nat → Nat → Int32) × (Int64) × (Nat → Int64)) [.ref y0, .int p1] (YW cy y0 r v f w g) (fun r u => KV [] u.1 v ∧ KF [7, 8, 24] u.2.1 f ∧ YI u.1 ∧ YC u.2.1 ∧ progOK (u.2.1 4) (u.2.1 5) (u.1 9).toInt.toNat ∧ u.1 0 = v 0 ∧ u.1 1 = v 1 ∧ u.1 2 = v 2 ∧ u.1 3 = v 3 ∧ u.1 4 = v 4 ∧ u.1 5 = v 5 ∧ u.1 8 = v 8 ∧ u.1 9 = v 9 ∧ u.1 10 = v 10 ∧ u.1 13 = v 13 ∧ u.1 14 = v 14 ∧ u.1 15 = v 15 ∧ u.1 17 = v 17 ∧ u.1 18 = v 18 ∧ u.1 24 = v 24 ∧ u.1 25 = v 25 ∧ u.1 35 = v 35 ∧ u.1 36 = v 36 ∧ u.1 38 = v 38 ∧ u.1 39 = v 39) (fun u => YW cy y0 r u.1 u.2.1 u.2.2.1 u.2.2.2) := by
  refine ctI_of (by decide) (Nat.le_of_ble_eq_true rfl) (fun p e s m below meth c A ls Q hx hb hml hts hown hE hP hD hA hl ret => ?_)
  have hUv : (v 35).toInt + (v 36).toInt ≤ 40 := hIv.2
  have hM_v : KV [] v v := fun _ _ => rfl
  have hA_f : KF [7, 8, 24] f f := fun _ _ => rfl
  have hown : s.vm.findClass RX11 = some m.cls := hown
  have hS : va_S A s.heap s.heap [] := va_S.rf
  have hl : lv_has ls 7 [(0, .ref y0), (1, .int p1)] := hl
  refine lv_iload_n hx hb dX11_change_0 rfl (lv_at hl 1 rfl) ?_
  refine lv_iconst (v := 0) hx hb dX11_change_1 (by decide) ?_
  refine lv_iconst (v := 2) hx hb dX11_change_2 (by decide) ?_
  have lt1 : (0 : Int32).toInt = 0 := by decide
  have lt2 : (2 : Int32).toInt = 2 := by decide
  refine cbSi (n := 3) (rest := []) hx hb hml hown hts hE hP hD hS hA (sY_X11_isIn_1 0 l dC dI cy y0 r p1 0 2 v f w g hIv hCf hRf ) k_1736 k_1737 k_114 k_1738 (by decide +kernel) ⟨Nat.le_of_ble_eq_true rfl, Nat.le_of_ble_eq_true rfl⟩ (rfl) hl.1 rfl (Nat.le_of_ble_eq_true rfl) dX11_change_3 (fun r3 u H locs hw hP hD hS => ?_)
  obtain ⟨hG4, hw⟩ := hw
  rcases hw with ⟨g5, g5_0, g5_1⟩ | ⟨g5⟩
  · skip
    subst g5
    refine lv_if_ne (tgt := 11) hx hb dX11_change_6 (by decide) (fun _ => ?_) (fun c0 => absurd c0 (by decide))
    refine lv_aload_n hx hb dX11_change_11 rfl (lv_at hl 0 rfl) ?_
    refine cbVi (n := 0) (rest := []) hx hb hml hown hts hE hP hD hS hA (sY_X11_fitted_1 l dC dI cy y0 r  v f w g hIv hCf hRf ) k_1907 k_1866 k_1867 k_114 k_1868 (by decide +kernel) ⟨Nat.le_of_ble_eq_true rfl, Nat.le_of_ble_eq_true rfl⟩ 0 11 rfl rfl (rfl) hl.1 rfl (Nat.le_of_ble_eq_true rfl) dX11_change_12 (fun r6 u H locs hw hP hD hS => ?_)
    obtain ⟨v7, f8, w9, g10⟩ := u
    obtain ⟨kV_v7, kF_f8, hIv7, hCf8, hRf8, hk0_v7, hk1_v7, hk2_v7, hk3_v7, hk4_v7, hk5_v7, hk8_v7, hk9_v7, hk10_v7, hk13_v7, hk14_v7, hk15_v7, hk17_v7, hk18_v7, hk24_v7, hk25_v7, hk35_v7, hk36_v7, hk38_v7, hk39_v7⟩ := hw
    have hM_v7 : KV [] v7 v := KV.tr kV_v7 hM_v rfl
    have hA_f8 : KF [7, 8, 24] f8 f := KF.tr kF_f8 hA_f rfl
    have hP : va_P (dC, dI) vwCl (YW cy y0 r v7 f8 w9 g10) H := hP
    have hD : va_D A (YW cy y0 r v7 f8 w9 g10) := hD
    have hUv7 : (v7 35).toInt + (v7 36).toInt ≤ 40 := hIv7.2
    have hq0_v7 : v7 0 = (v 0) := hk0_v7
    have hq1_v7 : v7 1 = (v 1) := hk1_v7
    have hq2_v7 : v7 2 = (v 2) := hk2_v7
    have hq3_v7 : v7 3 = (v 3) := hk3_v7
    have hq4_v7 : v7 4 = (v 4) := hk4_v7
    have hq5_v7 : v7 5 = (v 5) := hk5_v7
    have hq8_v7 : v7 8 = (v 8) := hk8_v7
    have hq9_v7 : v7 9 = (v 9) := hk9_v7
    have zq9_v7 := congrArg Int32.toInt hq9_v7
    have hq10_v7 : v7 10 = (v 10) := hk10_v7
    have hq13_v7 : v7 13 = (v 13) := hk13_v7
    have hq14_v7 : v7 14 = (v 14) := hk14_v7
    have hq15_v7 : v7 15 = (v 15) := hk15_v7
    have hq17_v7 : v7 17 = (v 17) := hk17_v7
    have hq18_v7 : v7 18 = (v 18) := hk18_v7
    have hq24_v7 : v7 24 = (v 24) := hk24_v7
    have hq25_v7 : v7 25 = (v 25) := hk25_v7
    have hq35_v7 : v7 35 = (v 35) := hk35_v7
    have hq36_v7 : v7 36 = (v 36) := hk36_v7
    have hq38_v7 : v7 38 = (v 38) := hk38_v7
    have hq39_v7 : v7 39 = (v 39) := hk39_v7
    refine cbSi (n := 1) (rest := []) hx hb hml hown hts hE hP hD hS hA (sY_X11_members_1 l dC dI cy y0 r r6 v7 f8 w9 g10 hIv7 hCf8 hRf8 ) k_1900 k_1901 k_114 k_1902 (by decide +kernel) ⟨Nat.le_of_ble_eq_true rfl, Nat.le_of_ble_eq_true rfl⟩ (rfl) hl.1 rfl (Nat.le_of_ble_eq_true rfl) dX11_change_15 (fun r11 u H locs hw hP hD hS => ?_)
    refine lv_istore_n (lv' := [(2, .int r11), (0, .ref y0), (1, .int p1)]) hx hb dX11_change_18 rfl hl (by decide) rfl (fun ls hl => ?_)
    refine lv_iconst (v := (-1)) hx hb dX11_change_19 (by decide) ?_
    refine lv_istore_n (lv' := [(3, .int (-1)), (2, .int r11), (0, .ref y0), (1, .int p1)]) hx hb dX11_change_20 rfl hl (by decide) rfl (fun ls hl => ?_)
    refine lv_iconst (v := 0) hx hb dX11_change_21 (by decide) ?_
    refine lv_istore (lv' := [(4, .int 0), (3, .int (-1)), (2, .int r11), (0, .ref y0), (1, .int p1)]) hx hb dX11_change_22 hl (by decide) rfl (fun ls hl => ?_)
    have lp12 : ∀ (n12 : Nat) (l2_12 : Int32) (l3_12 : Int32) (l4_12 : Int32) (v12 : Nat → Int32) (f12 : Nat → Nat → Int32) (w12 : Int64) (g12 : Nat → Int64), YI v12 → YC f12 → progOK (f12 4) (f12 5) (v12 9).toInt.toNat → v12 0 = (v 0) → v12 1 = (v 1) → v12 2 = (v 2) → v12 3 = (v 3) → v12 4 = (v 4) → v12 5 = (v 5) → v12 8 = (v 8) → v12 9 = (v 9) → v12 10 = (v 10) → v12 13 = (v 13) → v12 14 = (v 14) → v12 15 = (v 15) → v12 17 = (v 17) → v12 18 = (v 18) → v12 24 = (v 24) → v12 25 = (v 25) → v12 35 = (v 35) → v12 36 = (v 36) → v12 38 = (v 38) → v12 39 = (v 39) → ((0 : Int) ≤ l4_12.toInt ∧ l4_12.toInt ≤ 2147483647) → KV [] v12 v → KF [7, 8, 24] f12 f → (2147483647 - l4_12.toInt).toNat < n12 → ∀ (H : Heap) (locs : List Loc) (ls : Array Slot), va_P (dC, dI) vwCl (YW cy y0 r v12 f12 w12 g12) H → va_D A (YW cy y0 r v12 f12 w12 g12) → va_S A s.heap H locs → lv_has ls 7 [(4, .int l4_12), (3, .int l3_12), (2, .int l2_12), (0, .ref y0), (1, .int p1)] → W p l e { frames := 8, cells := 0, slots := 0, locals := 211 } s m ([.ref y0, .int p1] : List Value).toArray below meth c H locs 0 0 Q (F0 m 24 ls []) := by
      intro n12
      induction n12 with
      | zero => intro l2_12 l3_12 l4_12 v12 f12 w12 g12 hIv12 hCf12 hRf12 hq0_v12 hq1_v12 hq2_v12 hq3_v12 hq4_v12 hq5_v12 hq8_v12 hq9_v12 hq10_v12 hq13_v12 hq14_v12 hq15_v12 hq17_v12 hq18_v12 hq24_v12 hq25_v12 hq35_v12 hq36_v12 hq38_v12 hq39_v12 hr4_12 hM_v12 hA_f12 hm; exact absurd hm (Nat.not_lt_zero _)
      | succ n12 ih12 =>
        intro l2_12 l3_12 l4_12 v12 f12 w12 g12 hIv12 hCf12 hRf12 hq0_v12 hq1_v12 hq2_v12 hq3_v12 hq4_v12 hq5_v12 hq8_v12 hq9_v12 hq10_v12 hq13_v12 hq14_v12 hq15_v12 hq17_v12 hq18_v12 hq24_v12 hq25_v12 hq35_v12 hq36_v12 hq38_v12 hq39_v12 hr4_12 hM_v12 hA_f12 hm12 H locs ls hP hD hS hl
        have hUv12 : (v12 35).toInt + (v12 36).toInt ≤ 40 := hIv12.2
        have zq9_v12 := congrArg Int32.toInt hq9_v12
        refine lv_iload hx hb dX11_change_24 (lv_at hl 0 rfl) ?_
        refine lv_aload_n hx hb dX11_change_26 rfl (lv_at hl 3 rfl) ?_
        refine va_get (D := (dC, dI)) (ci := 11) (v := .int (v12 24)) (C := RX11) (T := TX11) (N := 79) hx hb hts inB_11 hown hE.1 hP 0 rfl rfl 48 (by decide) (hts _ k_1368) (fun _ h9 => h9) rfl dX11_change_27 ?_
        refine tI (y := (v 24)) hq24_v12 ?_
        have b24_v : 0 ≤ (v 24).toInt ∧ (v 24).toInt ≤ 6 := YIb.b hIv.1 24 (by decide)
        refine lv_icmp_ge (tgt := 134) hx hb dX11_change_30 (by decide) (fun c13 => ?_) (fun c13 => ?_)
        · skip
          have zc13 : (v 24).toInt ≤ l4_12.toInt := by rw [fa_le] at c13; exact c13
          have rg14 := fb_rng l4_12
          have rg15 := fb_rng (v 24)
          refine lv_iload_n hx hb dX11_change_134 rfl (lv_at hl 1 rfl) ?_
          refine lv_if_ge (tgt := 142) hx hb dX11_change_135 (by decide) (fun c16 => ?_) (fun c16 => ?_)
          · skip
            have zc16 : 0 ≤ l3_12.toInt := by rw [fa_le, show (0 : Int32).toInt = 0 from by decide] at c16; exact c16
            refine lv_iload_n hx hb dX11_change_142 rfl (lv_at hl 4 rfl) ?_
            refine lv_if_ne (tgt := 153) hx hb dX11_change_143 (by decide) (fun c17 => ?_) (fun c17 => ?_)
            · skip
              have zc17 : ¬ (p1.toInt = 0) := by rw [fa_eq, show (0 : Int32).toInt = 0 from by decide] at c17; exact c17
              refine lv_iload_n hx hb dX11_change_153 rfl (lv_at hl 4 rfl) ?_
              refine lv_iconst (v := 1) hx hb dX11_change_154 (by decide) ?_
              refine lv_icmp_ne (tgt := 165) hx hb dX11_change_155 (by decide) (fun c18 => ?_) (fun c18 => ?_)
              · skip
                have zc18 : ¬ (p1.toInt = 1) := by rw [fa_eq, show (1 : Int32).toInt = 1 from by decide] at c18; exact c18
                refine lv_iload_n hx hb dX11_change_165 rfl (lv_at hl 2 rfl) ?_
                exact ret l2_12 (v12, f12, w12, g12) _ _ _ _ _ _ rfl ⟨hM_v12, hA_f12, hIv12, hCf12, hRf12, hq0_v12, hq1_v12, hq2_v12, hq3_v12, hq4_v12, hq5_v12, hq8_v12, hq9_v12, hq10_v12, hq13_v12, hq14_v12, hq15_v12, hq17_v12, hq18_v12, hq24_v12, hq25_v12, hq35_v12, hq36_v12, hq38_v12, hq39_v12⟩ hP hD hS dX11_change_166 (Nat.le_refl _) (Nat.le_refl _)
              · skip
                have zc18 : p1.toInt = 1 := by rw [fa_eq, show (1 : Int32).toInt = 1 from by decide] at c18; exact c18
                refine lv_iload_n hx hb dX11_change_158 rfl (lv_at hl 1 rfl) ?_
                refine lv_bipush (v := 6) hx hb dX11_change_159 (by decide) ?_
                refine lv_irem hx hb dX11_change_161 (by decide) ?_
                refine lv_topi (fun t19 et19 => ?_)
                have zt19 : 0 ≤ t19.toInt ∧ t19.toInt < 6 := by rw [et19]; exact rem_rng (zx := l3_12.toInt) (zy := 6) rfl (by decide) (by omega) (by omega)
                refine lv_goto (tgt := 166) hx hb dX11_change_162 (by decide) ?_
                exact ret t19 (v12, f12, w12, g12) _ _ _ _ _ _ rfl ⟨hM_v12, hA_f12, hIv12, hCf12, hRf12, hq0_v12, hq1_v12, hq2_v12, hq3_v12, hq4_v12, hq5_v12, hq8_v12, hq9_v12, hq10_v12, hq13_v12, hq14_v12, hq15_v12, hq17_v12, hq18_v12, hq24_v12, hq25_v12, hq35_v12, hq36_v12, hq38_v12, hq39_v12⟩ hP hD hS dX11_change_166 (Nat.le_refl _) (Nat.le_refl _)
            · skip
              have zc17 : p1.toInt = 0 := by rw [fa_eq, show (0 : Int32).toInt = 0 from by decide] at c17; exact c17
              refine lv_iload_n hx hb dX11_change_146 rfl (lv_at hl 1 rfl) ?_
              refine lv_bipush (v := 6) hx hb dX11_change_147 (by decide) ?_
              refine lv_idiv hx hb dX11_change_149 (by decide) ?_
              refine lv_topi (fun t20 et20 => ?_)
              have zt20 : 0 ≤ t20.toInt ∧ t20.toInt ≤ l3_12.toInt := by rw [et20]; exact div_rng (zx := l3_12.toInt) (zy := 6) rfl (by decide) (by omega) (by omega)
              refine lv_goto (tgt := 166) hx hb dX11_change_150 (by decide) ?_
              exact ret t20 (v12, f12, w12, g12) _ _ _ _ _ _ rfl ⟨hM_v12, hA_f12, hIv12, hCf12, hRf12, hq0_v12, hq1_v12, hq2_v12, hq3_v12, hq4_v12, hq5_v12, hq8_v12, hq9_v12, hq10_v12, hq13_v12, hq14_v12, hq15_v12, hq17_v12, hq18_v12, hq24_v12, hq25_v12, hq35_v12, hq36_v12, hq38_v12, hq39_v12⟩ hP hD hS dX11_change_166 (Nat.le_refl _) (Nat.le_refl _)
          · skip
            have zc16 : ¬ (0 ≤ l3_12.toInt) := by rw [fa_le, show (0 : Int32).toInt = 0 from by decide] at c16; exact c16
            refine lv_iconst (v := (-1)) hx hb dX11_change_138 (by decide) ?_
            refine lv_goto (tgt := 166) hx hb dX11_change_139 (by decide) ?_
            exact ret (-1) (v12, f12, w12, g12) _ _ _ _ _ _ rfl ⟨hM_v12, hA_f12, hIv12, hCf12, hRf12, hq0_v12, hq1_v12, hq2_v12, hq3_v12, hq4_v12, hq5_v12, hq8_v12, hq9_v12, hq10_v12, hq13_v12, hq14_v12, hq15_v12, hq17_v12, hq18_v12, hq24_v12, hq25_v12, hq35_v12, hq36_v12, hq38_v12, hq39_v12⟩ hP hD hS dX11_change_166 (Nat.le_refl _) (Nat.le_refl _)
        · skip
          have zc13 : ¬ ((v 24).toInt ≤ l4_12.toInt) := by rw [fa_le] at c13; exact c13
          have rg21 := fb_rng l4_12
          have rg22 := fb_rng (v 24)
          refine lv_iload hx hb dX11_change_33 (lv_at hl 0 rfl) ?_
          refine lv_iconst (v := 1) hx hb dX11_change_35 (by decide) ?_
          refine lv_iadd hx hb dX11_change_36 ?_
          refine lv_topi (fun t23 et23 => ?_)
          have zt23 : t23.toInt = l4_12.toInt + 1 := by rw [et23]; exact add_i rfl (by decide) (by omega) (by omega)
          refine lv_istore (lv' := [(5, .int t23), (4, .int l4_12), (3, .int l3_12), (2, .int l2_12), (0, .ref y0), (1, .int p1)]) hx hb dX11_change_37 hl (by decide) rfl (fun ls hl => ?_)
          have lp24 : ∀ (n24 : Nat) (l2_24 : Int32) (l3_24 : Int32) (l5_24 : Int32) (v24 : Nat → Int32) (f24 : Nat → Nat → Int32) (w24 : Int64) (g24 : Nat → Int64), YI v24 → YC f24 → progOK (f24 4) (f24 5) (v24 9).toInt.toNat → v24 0 = (v 0) → v24 1 = (v 1) → v24 2 = (v 2) → v24 3 = (v 3) → v24 4 = (v 4) → v24 5 = (v 5) → v24 8 = (v 8) → v24 9 = (v 9) → v24 10 = (v 10) → v24 13 = (v 13) → v24 14 = (v 14) → v24 15 = (v 15) → v24 17 = (v 17) → v24 18 = (v 18) → v24 24 = (v 24) → v24 25 = (v 25) → v24 35 = (v 35) → v24 36 = (v 36) → v24 38 = (v 38) → v24 39 = (v 39) → ((1 : Int) ≤ l5_24.toInt ∧ l5_24.toInt ≤ 2147483647) → KV [] v24 v → KF [7, 8, 24] f24 f → (2147483647 - l5_24.toInt).toNat < n24 → ∀ (H : Heap) (locs : List Loc) (ls : Array Slot), va_P (dC, dI) vwCl (YW cy y0 r v24 f24 w24 g24) H → va_D A (YW cy y0 r v24 f24 w24 g24) → va_S A s.heap H locs → lv_has ls 7 [(5, .int l5_24), (4, .int l4_12), (3, .int l3_24), (2, .int l2_24), (0, .ref y0), (1, .int p1)] → W p l e { frames := 8, cells := 0, slots := 0, locals := 211 } s m ([.ref y0, .int p1] : List Value).toArray below meth c H locs 0 0 Q (F0 m 39 ls []) := by
            intro n24
            induction n24 with
            | zero => intro l2_24 l3_24 l5_24 v24 f24 w24 g24 hIv24 hCf24 hRf24 hq0_v24 hq1_v24 hq2_v24 hq3_v24 hq4_v24 hq5_v24 hq8_v24 hq9_v24 hq10_v24 hq13_v24 hq14_v24 hq15_v24 hq17_v24 hq18_v24 hq24_v24 hq25_v24 hq35_v24 hq36_v24 hq38_v24 hq39_v24 hr5_24 hM_v24 hA_f24 hm; exact absurd hm (Nat.not_lt_zero _)
            | succ n24 ih24 =>
              intro l2_24 l3_24 l5_24 v24 f24 w24 g24 hIv24 hCf24 hRf24 hq0_v24 hq1_v24 hq2_v24 hq3_v24 hq4_v24 hq5_v24 hq8_v24 hq9_v24 hq10_v24 hq13_v24 hq14_v24 hq15_v24 hq17_v24 hq18_v24 hq24_v24 hq25_v24 hq35_v24 hq36_v24 hq38_v24 hq39_v24 hr5_24 hM_v24 hA_f24 hm24 H locs ls hP hD hS hl
              have hUv24 : (v24 35).toInt + (v24 36).toInt ≤ 40 := hIv24.2
              have zq9_v24 := congrArg Int32.toInt hq9_v24
              refine lv_iload hx hb dX11_change_39 (lv_at hl 0 rfl) ?_
              refine lv_aload_n hx hb dX11_change_41 rfl (lv_at hl 4 rfl) ?_
              refine va_get (D := (dC, dI)) (ci := 11) (v := .int (v24 24)) (C := RX11) (T := TX11) (N := 79) hx hb hts inB_11 hown hE.1 hP 0 rfl rfl 48 (by decide) (hts _ k_1368) (fun _ h9 => h9) rfl dX11_change_42 ?_
              refine tI (y := (v 24)) hq24_v24 ?_
              have b24_v : 0 ≤ (v 24).toInt ∧ (v 24).toInt ≤ 6 := YIb.b hIv.1 24 (by decide)
              refine lv_icmp_ge (tgt := 128) hx hb dX11_change_45 (by decide) (fun c25 => ?_) (fun c25 => ?_)
              · skip
                have zc25 : (v 24).toInt ≤ l5_24.toInt := by rw [fa_le] at c25; exact c25
                have rg26 := fb_rng l5_24
                obtain ⟨t27, et27⟩ : ∃ y : Int32, y = l4_12 + 1 := ⟨_, rfl⟩
                have zt27 : t27.toInt = l4_12.toInt + 1 := by rw [et27]; exact add_i rfl (by decide) (by omega) (by omega)
                refine lv_iinc (v := t27) (lv' := [(4, .int t27), (5, .int l5_24), (3, .int l3_24), (2, .int l2_24), (0, .ref y0), (1, .int p1)]) hx hb dX11_change_128 hl (k := 1) rfl (by rw [et27]; rfl) (by decide) rfl (fun ls hl => ?_)
                refine lv_goto (tgt := 24) hx hb dX11_change_131 (by decide) ?_
                have rg28 := fb_rng t27
                exact ih12 l2_24 l3_24 t27 v24 f24 w24 g24 hIv24 hCf24 hRf24 hq0_v24 hq1_v24 hq2_v24 hq3_v24 hq4_v24 hq5_v24 hq8_v24 hq9_v24 hq10_v24 hq13_v24 hq14_v24 hq15_v24 hq17_v24 hq18_v24 hq24_v24 hq25_v24 hq35_v24 hq36_v24 hq38_v24 hq39_v24 ⟨show (0 : Int) ≤ t27.toInt by omega, show t27.toInt ≤ (2147483647 : Int) by omega⟩ hM_v24 hA_f24 (by show (2147483647 - t27.toInt).toNat < n12; omega) _ _ _ hP hD hS (lv_sub hl [0, 2, 3, 4, 5] rfl)
              · skip
                have zc25 : ¬ ((v 24).toInt ≤ l5_24.toInt) := by rw [fa_le] at c25; exact c25
                have rg29 := fb_rng l5_24
                refine lv_aload_n hx hb dX11_change_48 rfl (lv_at hl 4 rfl) ?_
                refine cbVv (n := 0) (rest := []) hx hb hml hown hts hE hP hD hS hA (sY_X11_fill_1 l dC dI cy y0 r  v24 f24 w24 g24 hIv24 hCf24 hRf24 ) k_1739 k_1741 k_71 k_114 k_1742 (by decide +kernel) ⟨Nat.le_of_ble_eq_true rfl, Nat.le_of_ble_eq_true rfl⟩ 0 11 rfl rfl (rfl) hl.1 rfl (Nat.le_of_ble_eq_true rfl) dX11_change_49 (fun u H locs hw hP hD hS => ?_)
                obtain ⟨v30, f31, w32, g33⟩ := u
                obtain ⟨kV_v30, kF_f31, hIv30, hCf31, hRf31, hk0_v30, hk1_v30, hk2_v30, hk3_v30, hk4_v30, hk5_v30, hk8_v30, hk9_v30, hk10_v30, hk13_v30, hk14_v30, hk15_v30, hk17_v30, hk18_v30, hk24_v30, hk25_v30, hk35_v30, hk36_v30, hk38_v30, hk39_v30⟩ := hw
                have hM_v30 : KV [] v30 v := KV.tr kV_v30 hM_v24 rfl
                have hA_f31 : KF [7, 8, 24] f31 f := KF.tr kF_f31 hA_f24 rfl
                have hP : va_P (dC, dI) vwCl (YW cy y0 r v30 f31 w32 g33) H := hP
                have hD : va_D A (YW cy y0 r v30 f31 w32 g33) := hD
                have hUv30 : (v30 35).toInt + (v30 36).toInt ≤ 40 := hIv30.2
                have hq0_v30 : v30 0 = (v 0) := hk0_v30.trans hq0_v24
                have hq1_v30 : v30 1 = (v 1) := hk1_v30.trans hq1_v24
                have hq2_v30 : v30 2 = (v 2) := hk2_v30.trans hq2_v24
                have hq3_v30 : v30 3 = (v 3) := hk3_v30.trans hq3_v24
                have hq4_v30 : v30 4 = (v 4) := hk4_v30.trans hq4_v24
                have hq5_v30 : v30 5 = (v 5) := hk5_v30.trans hq5_v24
                have hq8_v30 : v30 8 = (v 8) := hk8_v30.trans hq8_v24
                have hq9_v30 : v30 9 = (v 9) := hk9_v30.trans hq9_v24
                have zq9_v30 := congrArg Int32.toInt hq9_v30
                have hq10_v30 : v30 10 = (v 10) := hk10_v30.trans hq10_v24
                have hq13_v30 : v30 13 = (v 13) := hk13_v30.trans hq13_v24
                have hq14_v30 : v30 14 = (v 14) := hk14_v30.trans hq14_v24
                have hq15_v30 : v30 15 = (v 15) := hk15_v30.trans hq15_v24
                have hq17_v30 : v30 17 = (v 17) := hk17_v30.trans hq17_v24
                have hq18_v30 : v30 18 = (v 18) := hk18_v30.trans hq18_v24
                have hq24_v30 : v30 24 = (v 24) := hk24_v30.trans hq24_v24
                have hq25_v30 : v30 25 = (v 25) := hk25_v30.trans hq25_v24
                have hq35_v30 : v30 35 = (v 35) := hk35_v30.trans hq35_v24
                have hq36_v30 : v30 36 = (v 36) := hk36_v30.trans hq36_v24
                have hq38_v30 : v30 38 = (v 38) := hk38_v30.trans hq38_v24
                have hq39_v30 : v30 39 = (v 39) := hk39_v30.trans hq39_v24
                refine lv_aload_n hx hb dX11_change_52 rfl (lv_at hl 4 rfl) ?_
                refine va_get (D := (dC, dI)) (ci := 11) (v := .ref (r 60)) (C := RX11) (T := TX11) (N := 79) hx hb hts inB_11 hown hE.1 hP 0 rfl rfl 60 (by decide) (hts _ k_1380) (fun _ h9 => h9) rfl dX11_change_53 ?_
                refine lv_bipush (v := 6) hx hb dX11_change_56 (by decide) ?_
                refine lv_iload hx hb dX11_change_58 (lv_at hl 1 rfl) ?_
                refine lv_iadd hx hb dX11_change_60 ?_
                refine lv_topi (fun t34 et34 => ?_)
                have zt34 : t34.toInt = 6 + l4_12.toInt := by rw [et34]; exact add_i (by decide) rfl (by omega) (by omega)
                refine lv_aload_n hx hb dX11_change_61 rfl (lv_at hl 4 rfl) ?_
                refine va_get (D := (dC, dI)) (ci := 11) (v := .ref (r 59)) (C := RX11) (T := TX11) (N := 79) hx hb hts inB_11 hown hE.1 hP 0 rfl rfl 59 (by decide) (hts _ k_1379) (fun _ h9 => h9) rfl dX11_change_62 ?_
                refine lv_bipush (v := 6) hx hb dX11_change_65 (by decide) ?_
                refine lv_iload hx hb dX11_change_67 (lv_at hl 0 rfl) ?_
                refine lv_iadd hx hb dX11_change_69 ?_
                refine lv_topi (fun t35 et35 => ?_)
                have zt35 : t35.toInt = 6 + l5_24.toInt := by rw [et35]; exact add_i (by decide) rfl (by omega) (by omega)
                refine ldI hx hb hE hP 24 rfl (vp_in_iff.mpr ⟨by omega, by omega⟩) rfl rfl dX11_change_70 ?_
                refine lv_topi (fun t36 et36 => ?_)
                have zt36 : t35.toInt.toNat % 39 < 6 ∨ 12 ≤ t35.toInt.toNat % 39 ∨ (-1 ≤ t36.toInt ∧ t36.toInt ≤ 5) := by rw [et36]; exact wear_ld hCf31.1 (show t35.toInt.toNat < 39 by omega)
                refine stI hx hb hE hP hD hS 25 rfl (vp_in_iff.mpr ⟨by omega, by omega⟩) rfl dX11_change_71 (fun H locs hP hD hS => ?_)
                obtain ⟨f37, ef37, hP, hD⟩ : ∃ fz9, fz9 = upd2 f31 24 (upd (f31 24) t34.toNatClampNeg t36) ∧ va_P (dC, dI) vwCl (YW cy y0 r v30 fz9 w32 g33) H ∧ va_D A (YW cy y0 r v30 fz9 w32 g33) := ⟨_, rfl, hP, hD⟩
                have hCf37 : YC f37 := by rw [ef37]; exact ⟨hCf31.1, (wear_st hCf31.2.1 (by show t34.toInt.toNat % 39 < 6 ∨ 12 ≤ t34.toInt.toNat % 39 ∨ (-1 ≤ t36.toInt ∧ t36.toInt ≤ 5); omega)), hCf31.2.2.1, hCf31.2.2.2.1, hCf31.2.2.2.2.1, hCf31.2.2.2.2.2⟩
                have hRf37 : progOK (f37 4) (f37 5) (v30 9).toInt.toNat := by rw [ef37]; exact hRf31
                have hA_f37 : KF [7, 8, 24] f37 f := by rw [ef37]; exact KF.up hA_f31 rfl
                refine lv_aload_n hx hb dX11_change_72 rfl (lv_at hl 4 rfl) ?_
                refine va_get (D := (dC, dI)) (ci := 11) (v := .ref (r 60)) (C := RX11) (T := TX11) (N := 79) hx hb hts inB_11 hown hE.1 hP 0 rfl rfl 60 (by decide) (hts _ k_1380) (fun _ h9 => h9) rfl dX11_change_73 ?_
                refine lv_bipush (v := 6) hx hb dX11_change_76 (by decide) ?_
                refine lv_iload hx hb dX11_change_78 (lv_at hl 0 rfl) ?_
                refine lv_iadd hx hb dX11_change_80 ?_
                refine tI (y := t35) et35.symm ?_
                refine lv_aload_n hx hb dX11_change_81 rfl (lv_at hl 4 rfl) ?_
                refine va_get (D := (dC, dI)) (ci := 11) (v := .ref (r 59)) (C := RX11) (T := TX11) (N := 79) hx hb hts inB_11 hown hE.1 hP 0 rfl rfl 59 (by decide) (hts _ k_1379) (fun _ h9 => h9) rfl dX11_change_82 ?_
                refine lv_bipush (v := 6) hx hb dX11_change_85 (by decide) ?_
                refine lv_iload hx hb dX11_change_87 (lv_at hl 1 rfl) ?_
                refine lv_iadd hx hb dX11_change_89 ?_
                refine tI (y := t34) et34.symm ?_
                refine ldI hx hb hE hP 24 rfl (vp_in_iff.mpr ⟨by omega, by omega⟩) rfl rfl dX11_change_90 ?_
                refine lv_topi (fun t38 et38 => ?_)
                have zt38 : t34.toInt.toNat % 39 < 6 ∨ 12 ≤ t34.toInt.toNat % 39 ∨ (-1 ≤ t38.toInt ∧ t38.toInt ≤ 5) := by rw [et38]; exact wear_ld hCf37.1 (show t34.toInt.toNat < 39 by omega)
                refine stI hx hb hE hP hD hS 25 rfl (vp_in_iff.mpr ⟨by omega, by omega⟩) rfl dX11_change_91 (fun H locs hP hD hS => ?_)
                obtain ⟨f39, ef39, hP, hD⟩ : ∃ fz9, fz9 = upd2 f37 24 (upd (f37 24) t35.toNatClampNeg t38) ∧ va_P (dC, dI) vwCl (YW cy y0 r v30 fz9 w32 g33) H ∧ va_D A (YW cy y0 r v30 fz9 w32 g33) := ⟨_, rfl, hP, hD⟩
                have hCf39 : YC f39 := by rw [ef39]; exact ⟨hCf37.1, (wear_st hCf37.2.1 (by show t35.toInt.toNat % 39 < 6 ∨ 12 ≤ t35.toInt.toNat % 39 ∨ (-1 ≤ t38.toInt ∧ t38.toInt ≤ 5); omega)), hCf37.2.2.1, hCf37.2.2.2.1, hCf37.2.2.2.2.1, hCf37.2.2.2.2.2⟩
                have hRf39 : progOK (f39 4) (f39 5) (v30 9).toInt.toNat := by rw [ef39]; exact hRf37
                have hA_f39 : KF [7, 8, 24] f39 f := by rw [ef39]; exact KF.up hA_f37 rfl
                refine lv_aload_n hx hb dX11_change_92 rfl (lv_at hl 4 rfl) ?_
                refine cbVi (n := 0) (rest := []) hx hb hml hown hts hE hP hD hS hA (sY_X11_fittedOnes_1 l dC dI cy y0 r  v30 f39 w32 g33 hIv30 hCf39 hRf39 ) k_1809 k_1811 k_81 k_114 k_1812 (by decide +kernel) ⟨Nat.le_of_ble_eq_true rfl, Nat.le_of_ble_eq_true rfl⟩ 0 11 rfl rfl (rfl) hl.1 rfl (Nat.le_of_ble_eq_true rfl) dX11_change_93 (fun r40 u H locs hw hP hD hS => ?_)
                obtain ⟨v41, f42, w43, g44⟩ := u
                obtain ⟨kV_v41, kF_f42, hIv41, hCf42, hRf42, hk0_v41, hk1_v41, hk2_v41, hk3_v41, hk4_v41, hk5_v41, hk8_v41, hk9_v41, hk10_v41, hk13_v41, hk14_v41, hk15_v41, hk17_v41, hk18_v41, hk24_v41, hk25_v41, hk35_v41, hk36_v41, hk38_v41, hk39_v41⟩ := hw
                have hM_v41 : KV [] v41 v := KV.tr kV_v41 hM_v30 rfl
                have hA_f42 : KF [7, 8, 24] f42 f := KF.tr kF_f42 hA_f39 rfl
                have hP : va_P (dC, dI) vwCl (YW cy y0 r v41 f42 w43 g44) H := hP
                have hD : va_D A (YW cy y0 r v41 f42 w43 g44) := hD
                have hUv41 : (v41 35).toInt + (v41 36).toInt ≤ 40 := hIv41.2
                have hq0_v41 : v41 0 = (v 0) := hk0_v41.trans hq0_v30
                have hq1_v41 : v41 1 = (v 1) := hk1_v41.trans hq1_v30
                have hq2_v41 : v41 2 = (v 2) := hk2_v41.trans hq2_v30
                have hq3_v41 : v41 3 = (v 3) := hk3_v41.trans hq3_v30
                have hq4_v41 : v41 4 = (v 4) := hk4_v41.trans hq4_v30
                have hq5_v41 : v41 5 = (v 5) := hk5_v41.trans hq5_v30
                have hq8_v41 : v41 8 = (v 8) := hk8_v41.trans hq8_v30
                have hq9_v41 : v41 9 = (v 9) := hk9_v41.trans hq9_v30
                have zq9_v41 := congrArg Int32.toInt hq9_v41
                have hq10_v41 : v41 10 = (v 10) := hk10_v41.trans hq10_v30
                have hq13_v41 : v41 13 = (v 13) := hk13_v41.trans hq13_v30
                have hq14_v41 : v41 14 = (v 14) := hk14_v41.trans hq14_v30
                have hq15_v41 : v41 15 = (v 15) := hk15_v41.trans hq15_v30
                have hq17_v41 : v41 17 = (v 17) := hk17_v41.trans hq17_v30
                have hq18_v41 : v41 18 = (v 18) := hk18_v41.trans hq18_v30
                have hq24_v41 : v41 24 = (v 24) := hk24_v41.trans hq24_v30
                have hq25_v41 : v41 25 = (v 25) := hk25_v41.trans hq25_v30
                have hq35_v41 : v41 35 = (v 35) := hk35_v41.trans hq35_v30
                have hq36_v41 : v41 36 = (v 36) := hk36_v41.trans hq36_v30
                have hq38_v41 : v41 38 = (v 38) := hk38_v41.trans hq38_v30
                have hq39_v41 : v41 39 = (v 39) := hk39_v41.trans hq39_v30
                refine cbSi (n := 1) (rest := []) hx hb hml hown hts hE hP hD hS hA (sY_X11_members_1 l dC dI cy y0 r r40 v41 f42 w43 g44 hIv41 hCf42 hRf42 ) k_1900 k_1901 k_114 k_1902 (by decide +kernel) ⟨Nat.le_of_ble_eq_true rfl, Nat.le_of_ble_eq_true rfl⟩ (rfl) hl.1 rfl (Nat.le_of_ble_eq_true rfl) dX11_change_96 (fun r45 u H locs hw hP hD hS => ?_)
                refine lv_istore (lv' := [(6, .int r45), (5, .int l5_24), (4, .int l4_12), (3, .int l3_24), (2, .int l2_24), (0, .ref y0), (1, .int p1)]) hx hb dX11_change_99 hl (by decide) rfl (fun ls hl => ?_)
                refine lv_iload hx hb dX11_change_101 (lv_at hl 0 rfl) ?_
                refine lv_iload_n hx hb dX11_change_103 rfl (lv_at hl 4 rfl) ?_
                refine lv_icmp_gt (tgt := 110) hx hb dX11_change_104 (by decide) (fun c46 => ?_) (fun c46 => ?_)
                · skip
                  have zc46 : l2_24.toInt < r45.toInt := by rw [fa_lt] at c46; exact c46
                  have rg47 := fb_rng r45
                  have rg48 := fb_rng l2_24
                  refine lv_iload hx hb dX11_change_110 (lv_at hl 0 rfl) ?_
                  refine lv_istore_n (lv' := [(2, .int r45), (6, .int r45), (5, .int l5_24), (4, .int l4_12), (3, .int l3_24), (0, .ref y0), (1, .int p1)]) hx hb dX11_change_112 rfl hl (by decide) rfl (fun ls hl => ?_)
                  refine lv_bipush (v := 6) hx hb dX11_change_113 (by decide) ?_
                  refine lv_iload hx hb dX11_change_115 (lv_at hl 3 rfl) ?_
                  refine lv_imul hx hb dX11_change_117 ?_
                  refine lv_topi (fun t49 et49 => ?_)
                  have zt49 : t49.toInt = 6 * l4_12.toInt := by rw [et49]; exact mul_i (by decide) rfl (by omega) (by omega)
                  refine lv_iload hx hb dX11_change_118 (lv_at hl 2 rfl) ?_
                  refine lv_iadd hx hb dX11_change_120 ?_
                  refine lv_topi (fun t50 et50 => ?_)
                  have rg51 := fb_rng t49
                  have zt50 : t50.toInt = t49.toInt + l5_24.toInt := by rw [et50]; exact add_i rfl rfl (by omega) (by omega)
                  refine lv_istore_n (lv' := [(3, .int t50), (2, .int r45), (6, .int r45), (5, .int l5_24), (4, .int l4_12), (0, .ref y0), (1, .int p1)]) hx hb dX11_change_121 rfl hl (by decide) rfl (fun ls hl => ?_)
                  obtain ⟨t52, et52⟩ : ∃ y : Int32, y = l5_24 + 1 := ⟨_, rfl⟩
                  have zt52 : t52.toInt = l5_24.toInt + 1 := by rw [et52]; exact add_i rfl (by decide) (by omega) (by omega)
                  refine lv_iinc (v := t52) (lv' := [(5, .int t52), (3, .int t50), (2, .int r45), (6, .int r45), (4, .int l4_12), (0, .ref y0), (1, .int p1)]) hx hb dX11_change_122 hl (k := 3) rfl (by rw [et52]; rfl) (by decide) rfl (fun ls hl => ?_)
                  refine lv_goto (tgt := 39) hx hb dX11_change_125 (by decide) ?_
                  have rg53 := fb_rng t52
                  exact ih24 r45 t50 t52 v41 f42 w43 g44 hIv41 hCf42 hRf42 hq0_v41 hq1_v41 hq2_v41 hq3_v41 hq4_v41 hq5_v41 hq8_v41 hq9_v41 hq10_v41 hq13_v41 hq14_v41 hq15_v41 hq17_v41 hq18_v41 hq24_v41 hq25_v41 hq35_v41 hq36_v41 hq38_v41 hq39_v41 ⟨show (1 : Int) ≤ t52.toInt by omega, show t52.toInt ≤ (2147483647 : Int) by omega⟩ hM_v41 hA_f42 (by show (2147483647 - t52.toInt).toNat < n24; omega) _ _ _ hP hD hS (lv_sub hl [0, 4, 1, 2, 5, 6] rfl)
                · skip
                  have zc46 : ¬ (l2_24.toInt < r45.toInt) := by rw [fa_lt] at c46; exact c46
                  have rg54 := fb_rng r45
                  have rg55 := fb_rng l2_24
                  refine lv_goto (tgt := 122) hx hb dX11_change_107 (by decide) ?_
                  obtain ⟨t56, et56⟩ : ∃ y : Int32, y = l5_24 + 1 := ⟨_, rfl⟩
                  have zt56 : t56.toInt = l5_24.toInt + 1 := by rw [et56]; exact add_i rfl (by decide) (by omega) (by omega)
                  refine lv_iinc (v := t56) (lv' := [(5, .int t56), (6, .int r45), (4, .int l4_12), (3, .int l3_24), (2, .int l2_24), (0, .ref y0), (1, .int p1)]) hx hb dX11_change_122 hl (k := 1) rfl (by rw [et56]; rfl) (by decide) rfl (fun ls hl => ?_)
                  refine lv_goto (tgt := 39) hx hb dX11_change_125 (by decide) ?_
                  have rg57 := fb_rng t56
                  exact ih24 l2_24 l3_24 t56 v41 f42 w43 g44 hIv41 hCf42 hRf42 hq0_v41 hq1_v41 hq2_v41 hq3_v41 hq4_v41 hq5_v41 hq8_v41 hq9_v41 hq10_v41 hq13_v41 hq14_v41 hq15_v41 hq17_v41 hq18_v41 hq24_v41 hq25_v41 hq35_v41 hq36_v41 hq38_v41 hq39_v41 ⟨show (1 : Int) ≤ t56.toInt by omega, show t56.toInt ≤ (2147483647 : Int) by omega⟩ hM_v41 hA_f42 (by show (2147483647 - t56.toInt).toNat < n24; omega) _ _ _ hP hD hS (lv_sub hl [0, 2, 3, 4, 5, 6] rfl)
          have rg58 := fb_rng t23
          exact lp24 _ l2_12 l3_12 t23 v12 f12 w12 g12 hIv12 hCf12 hRf12 hq0_v12 hq1_v12 hq2_v12 hq3_v12 hq4_v12 hq5_v12 hq8_v12 hq9_v12 hq10_v12 hq13_v12 hq14_v12 hq15_v12 hq17_v12 hq18_v12 hq24_v12 hq25_v12 hq35_v12 hq36_v12 hq38_v12 hq39_v12 ⟨show (1 : Int) ≤ t23.toInt by omega, show t23.toInt ≤ (2147483647 : Int) by omega⟩ hM_v12 hA_f12 (Nat.lt_succ_self _) _ _ _ hP hD hS (lv_sub hl [0, 1, 2, 3, 4, 5] rfl)
    exact lp12 _ r11 (-1) 0 v7 f8 w9 g10 hIv7 hCf8 hRf8 hq0_v7 hq1_v7 hq2_v7 hq3_v7 hq4_v7 hq5_v7 hq8_v7 hq9_v7 hq10_v7 hq13_v7 hq14_v7 hq15_v7 hq17_v7 hq18_v7 hq24_v7 hq25_v7 hq35_v7 hq36_v7 hq38_v7 hq39_v7 ⟨by decide, by decide⟩ hM_v7 hA_f8 (Nat.lt_succ_self _) _ _ _ hP hD hS (lv_sub hl [0, 1, 2, 3, 4] rfl)
  · skip
    subst g5
    refine lv_if_ne (tgt := 11) hx hb dX11_change_6 (by decide) (fun c0 => absurd (by decide) c0) (fun _ => ?_)
    refine lv_iconst (v := (-1)) hx hb dX11_change_9 (by decide) ?_
    exact ret (-1) (v, f, w, g) _ _ _ _ _ _ rfl ⟨hM_v, hA_f, hIv, hCf, hRf, rfl, rfl, rfl, rfl, rfl, rfl, rfl, rfl, rfl, rfl, rfl, rfl, rfl, rfl, rfl, rfl, rfl, rfl, rfl, rfl⟩ hP hD hS dX11_change_10 (Nat.le_refl _) (Nat.le_refl _)
