set_option maxHeartbeats 4000000 in
set_option maxRecDepth 100000 in
theorem sY_X11_coat_1 (l : Launch) (dC : Nat → ClassId) (dI : Nat → Nat → Nat) (cy : Nat → ClassId) (y0 : Nat) (r : Nat → Nat) (p1 : Int32) (p2 : Int32) (v : Nat → Int32) (f : Nat → Nat → Int32) (w : Int64) (g : Nat → Int64) (hIv : YI v) (hCf : YC f) (hRf : progOK (f 4) (f 5) (v 9).toInt.toNat)  : ctI l (dC, dI) cy yX11_coat cX11_coat 3 .int 3 103 0 0 ((Nat → Int32) × (Nat → Nat → Int32) × (Int64) × (Nat → Int64)) [.ref y0, .int p1, .int p2] (YW cy y0 r v f w g) (fun r u => KV [] u.1 v ∧ KF [24] u.2.1 f ∧ YI u.1 ∧ YC u.2.1 ∧ progOK (u.2.1 4) (u.2.1 5) (u.1 9).toInt.toNat ∧ u.1 0 = v 0 ∧ u.1 1 = v 1 ∧ u.1 2 = v 2 ∧ u.1 3 = v 3 ∧ u.1 4 = v 4 ∧ u.1 5 = v 5 ∧ u.1 8 = v 8 ∧ u.1 9 = v 9 ∧ u.1 10 = v 10 ∧ u.1 13 = v 13 ∧ u.1 14 = v 14 ∧ u.1 15 = v 15 ∧ u.1 17 = v 17 ∧ u.1 18 = v 18 ∧ u.1 24 = v 24 ∧ u.1 25 = v 25 ∧ u.1 35 = v 35 ∧ u.1 36 = v 36 ∧ u.1 38 = v 38 ∧ u.1 39 = v 39) (fun u => YW cy y0 r u.1 u.2.1 u.2.2.1 u.2.2.2) := by
  refine ctI_of (by decide) (Nat.le_of_ble_eq_true rfl) (fun p e s m below meth c A ls Q hx hb hml hts hown hE hP hD hA hl ret => ?_)
  have hUv : (v 35).toInt + (v 36).toInt ≤ 40 := hIv.2
  have hM_v : KV [] v v := fun _ _ => rfl
  have hA_f : KF [24] f f := fun _ _ => rfl
  have hown : s.vm.findClass RX11 = some m.cls := hown
  have hS : va_S A s.heap s.heap [] := va_S.rf
  have hl : lv_has ls 3 [(0, .ref y0), (1, .int p1), (2, .int p2)] := hl
  refine lv_aload_n hx hb dX11_coat_0 rfl (lv_at hl 0 rfl) ?_
  refine lv_iload_n hx hb dX11_coat_1 rfl (lv_at hl 1 rfl) ?_
  refine cbVi (n := 1) (rest := []) hx hb hml hown hts hE hP hD hS hA (sY_X11_isCoat_1 0 l dC dI cy y0 r p1 v f w g hIv hCf hRf ) k_1771 k_1773 k_75 k_114 k_1774 (by decide +kernel) ⟨Nat.le_of_ble_eq_true rfl, Nat.le_of_ble_eq_true rfl⟩ 0 11 rfl rfl (rfl) hl.1 rfl (Nat.le_of_ble_eq_true rfl) dX11_coat_2 (fun r1 u H locs hw hP hD hS => ?_)
  obtain ⟨hG2, hw⟩ := hw
  rcases hw with ⟨g3, g3_0, g3_1, g3_2⟩ | ⟨g3⟩
  · skip
    subst g3
    refine lv_if_ne (tgt := 11) hx hb dX11_coat_5 (by decide) (fun _ => ?_) (fun c0 => absurd c0 (by decide))
    refine lv_aload_n hx hb dX11_coat_11 rfl (lv_at hl 0 rfl) ?_
    refine cbVv (n := 0) (rest := []) hx hb hml hown hts hE hP hD hS hA (sY_X11_fill_1 0 l dC dI cy y0 r  v f w g hIv hCf hRf ) k_1739 k_1741 k_71 k_114 k_1742 (by decide +kernel) ⟨Nat.le_of_ble_eq_true rfl, Nat.le_of_ble_eq_true rfl⟩ 0 11 rfl rfl (rfl) hl.1 rfl (Nat.le_of_ble_eq_true rfl) dX11_coat_12 (fun u H locs hw hP hD hS => ?_)
    obtain ⟨hG4, hw⟩ := hw
    obtain ⟨v5, f6, w7, g8⟩ := u
    obtain ⟨kV_v5, kF_f6, hIv5, hCf6, hRf6, hk0_v5, hk1_v5, hk2_v5, hk3_v5, hk4_v5, hk5_v5, hk8_v5, hk9_v5, hk10_v5, hk13_v5, hk14_v5, hk15_v5, hk17_v5, hk18_v5, hk24_v5, hk25_v5, hk35_v5, hk36_v5, hk38_v5, hk39_v5⟩ := hw
    have hM_v5 : KV [] v5 v := KV.tr kV_v5 hM_v rfl
    have hA_f6 : KF [24] f6 f := KF.tr kF_f6 hA_f rfl
    have hP : va_P (dC, dI) vwCl (YW cy y0 r v5 f6 w7 g8) H := hP
    have hD : va_D A (YW cy y0 r v5 f6 w7 g8) := hD
    have hUv5 : (v5 35).toInt + (v5 36).toInt ≤ 40 := hIv5.2
    have hq9_v5 : v5 9 = (v 9) := hk9_v5
    have zq9_v5 := congrArg Int32.toInt hq9_v5
    refine lv_iload_n hx hb dX11_coat_15 rfl (lv_at hl 2 rfl) ?_
    by_cases c9 : p2 = 0
    · skip
      refine lv_tableIn (off := 40) (tgt := 56) hx hb dX11_coat_16 (by rw [c9]; decide) (by rw [c9]; decide) (by rw [c9]; decide) (by decide) ?_
      have zc9 : p2.toInt = 0 := by rw [fa_eq, show (0 : Int32).toInt = 0 from by decide] at c9; exact c9
      refine lv_aload_n hx hb dX11_coat_56 rfl (lv_at hl 0 rfl) ?_
      refine va_get (D := (dC, dI)) (ci := 11) (v := .ref (r 60)) (C := RX11) (T := TX11) (N := 79) hx hb hts inB_11 hown hE.1 hP 0 rfl rfl 60 (by decide) (hts _ k_1380) (fun _ h9 => h9) rfl dX11_coat_57 ?_
      refine lv_bipush (v := 12) hx hb dX11_coat_60 (by decide) ?_
      refine lv_iload_n hx hb dX11_coat_62 rfl (lv_at hl 1 rfl) ?_
      refine lv_iadd hx hb dX11_coat_63 ?_
      refine lv_topi (fun t10 et10 => ?_)
      have rg11 := fb_rng p1
      have zt10 : t10.toInt = 12 + p1.toInt := by rw [et10]; exact add_i (by decide) rfl (by omega) (by omega)
      refine ldI hx hb hE hP 25 rfl (vp_in_iff.mpr ⟨by omega, by omega⟩) rfl rfl dX11_coat_64 ?_
      refine lv_topi (fun t12 et12 => ?_)
      have zt12 : t10.toInt.toNat % 39 < 6 ∨ 12 ≤ t10.toInt.toNat % 39 ∨ (-1 ≤ t12.toInt ∧ t12.toInt ≤ 5) := by rw [et12]; exact wear_ld hCf6.2.1 (show t10.toInt.toNat < 39 by omega)
      exact ret t12 (v5, f6, w7, g8) _ _ _ _ _ _ rfl ⟨hM_v5, hA_f6, hIv5, hCf6, hRf6, hk0_v5, hk1_v5, hk2_v5, hk3_v5, hk4_v5, hk5_v5, hk8_v5, hk9_v5, hk10_v5, hk13_v5, hk14_v5, hk15_v5, hk17_v5, hk18_v5, hk24_v5, hk25_v5, hk35_v5, hk36_v5, hk38_v5, hk39_v5⟩ hP hD hS dX11_coat_65 (Nat.le_refl _) (Nat.le_refl _)
    · skip
      have zc9 : ¬ (p2.toInt = 0) := by rw [fa_eq, show (0 : Int32).toInt = 0 from by decide] at c9; exact c9
      by_cases c13 : p2 = 1
      · skip
        refine lv_tableIn (off := 50) (tgt := 66) hx hb dX11_coat_16 (by rw [c13]; decide) (by rw [c13]; decide) (by rw [c13]; decide) (by decide) ?_
        have zc13 : p2.toInt = 1 := by rw [fa_eq, show (1 : Int32).toInt = 1 from by decide] at c13; exact c13
        refine lv_aload_n hx hb dX11_coat_66 rfl (lv_at hl 0 rfl) ?_
        refine va_get (D := (dC, dI)) (ci := 11) (v := .ref (r 60)) (C := RX11) (T := TX11) (N := 79) hx hb hts inB_11 hown hE.1 hP 0 rfl rfl 60 (by decide) (hts _ k_1380) (fun _ h9 => h9) rfl dX11_coat_67 ?_
        refine lv_bipush (v := 18) hx hb dX11_coat_70 (by decide) ?_
        refine lv_iload_n hx hb dX11_coat_72 rfl (lv_at hl 1 rfl) ?_
        refine lv_iadd hx hb dX11_coat_73 ?_
        refine lv_topi (fun t14 et14 => ?_)
        have rg15 := fb_rng p1
        have zt14 : t14.toInt = 18 + p1.toInt := by rw [et14]; exact add_i (by decide) rfl (by omega) (by omega)
        refine ldI hx hb hE hP 25 rfl (vp_in_iff.mpr ⟨by omega, by omega⟩) rfl rfl dX11_coat_74 ?_
        refine lv_topi (fun t16 et16 => ?_)
        have zt16 : t14.toInt.toNat % 39 < 6 ∨ 12 ≤ t14.toInt.toNat % 39 ∨ (-1 ≤ t16.toInt ∧ t16.toInt ≤ 5) := by rw [et16]; exact wear_ld hCf6.2.1 (show t14.toInt.toNat < 39 by omega)
        exact ret t16 (v5, f6, w7, g8) _ _ _ _ _ _ rfl ⟨hM_v5, hA_f6, hIv5, hCf6, hRf6, hk0_v5, hk1_v5, hk2_v5, hk3_v5, hk4_v5, hk5_v5, hk8_v5, hk9_v5, hk10_v5, hk13_v5, hk14_v5, hk15_v5, hk17_v5, hk18_v5, hk24_v5, hk25_v5, hk35_v5, hk36_v5, hk38_v5, hk39_v5⟩ hP hD hS dX11_coat_75 (Nat.le_refl _) (Nat.le_refl _)
      · skip
        have zc13 : ¬ (p2.toInt = 1) := by rw [fa_eq, show (1 : Int32).toInt = 1 from by decide] at c13; exact c13
        by_cases c17 : p2 = 2
        · skip
          refine lv_tableIn (off := 60) (tgt := 76) hx hb dX11_coat_16 (by rw [c17]; decide) (by rw [c17]; decide) (by rw [c17]; decide) (by decide) ?_
          have zc17 : p2.toInt = 2 := by rw [fa_eq, show (2 : Int32).toInt = 2 from by decide] at c17; exact c17
          refine lv_aload_n hx hb dX11_coat_76 rfl (lv_at hl 0 rfl) ?_
          refine va_get (D := (dC, dI)) (ci := 11) (v := .ref (r 60)) (C := RX11) (T := TX11) (N := 79) hx hb hts inB_11 hown hE.1 hP 0 rfl rfl 60 (by decide) (hts _ k_1380) (fun _ h9 => h9) rfl dX11_coat_77 ?_
          refine lv_bipush (v := 24) hx hb dX11_coat_80 (by decide) ?_
          refine lv_iload_n hx hb dX11_coat_82 rfl (lv_at hl 1 rfl) ?_
          refine lv_iadd hx hb dX11_coat_83 ?_
          refine lv_topi (fun t18 et18 => ?_)
          have rg19 := fb_rng p1
          have zt18 : t18.toInt = 24 + p1.toInt := by rw [et18]; exact add_i (by decide) rfl (by omega) (by omega)
          refine ldI hx hb hE hP 25 rfl (vp_in_iff.mpr ⟨by omega, by omega⟩) rfl rfl dX11_coat_84 ?_
          refine lv_topi (fun t20 et20 => ?_)
          have zt20 : t18.toInt.toNat % 39 < 6 ∨ 12 ≤ t18.toInt.toNat % 39 ∨ (-1 ≤ t20.toInt ∧ t20.toInt ≤ 5) := by rw [et20]; exact wear_ld hCf6.2.1 (show t18.toInt.toNat < 39 by omega)
          exact ret t20 (v5, f6, w7, g8) _ _ _ _ _ _ rfl ⟨hM_v5, hA_f6, hIv5, hCf6, hRf6, hk0_v5, hk1_v5, hk2_v5, hk3_v5, hk4_v5, hk5_v5, hk8_v5, hk9_v5, hk10_v5, hk13_v5, hk14_v5, hk15_v5, hk17_v5, hk18_v5, hk24_v5, hk25_v5, hk35_v5, hk36_v5, hk38_v5, hk39_v5⟩ hP hD hS dX11_coat_85 (Nat.le_refl _) (Nat.le_refl _)
        · skip
          have zc17 : ¬ (p2.toInt = 2) := by rw [fa_eq, show (2 : Int32).toInt = 2 from by decide] at c17; exact c17
          by_cases c21 : p2 = 3
          · skip
            refine lv_tableIn (off := 70) (tgt := 86) hx hb dX11_coat_16 (by rw [c21]; decide) (by rw [c21]; decide) (by rw [c21]; decide) (by decide) ?_
            have zc21 : p2.toInt = 3 := by rw [fa_eq, show (3 : Int32).toInt = 3 from by decide] at c21; exact c21
            refine lv_aload_n hx hb dX11_coat_86 rfl (lv_at hl 0 rfl) ?_
            refine va_get (D := (dC, dI)) (ci := 11) (v := .ref (r 60)) (C := RX11) (T := TX11) (N := 79) hx hb hts inB_11 hown hE.1 hP 0 rfl rfl 60 (by decide) (hts _ k_1380) (fun _ h9 => h9) rfl dX11_coat_87 ?_
            refine lv_bipush (v := 30) hx hb dX11_coat_90 (by decide) ?_
            refine lv_iload_n hx hb dX11_coat_92 rfl (lv_at hl 1 rfl) ?_
            refine lv_iadd hx hb dX11_coat_93 ?_
            refine lv_topi (fun t22 et22 => ?_)
            have rg23 := fb_rng p1
            have zt22 : t22.toInt = 30 + p1.toInt := by rw [et22]; exact add_i (by decide) rfl (by omega) (by omega)
            refine ldI hx hb hE hP 25 rfl (vp_in_iff.mpr ⟨by omega, by omega⟩) rfl rfl dX11_coat_94 ?_
            refine lv_topi (fun t24 et24 => ?_)
            have zt24 : t22.toInt.toNat % 39 < 6 ∨ 12 ≤ t22.toInt.toNat % 39 ∨ (-1 ≤ t24.toInt ∧ t24.toInt ≤ 5) := by rw [et24]; exact wear_ld hCf6.2.1 (show t22.toInt.toNat < 39 by omega)
            exact ret t24 (v5, f6, w7, g8) _ _ _ _ _ _ rfl ⟨hM_v5, hA_f6, hIv5, hCf6, hRf6, hk0_v5, hk1_v5, hk2_v5, hk3_v5, hk4_v5, hk5_v5, hk8_v5, hk9_v5, hk10_v5, hk13_v5, hk14_v5, hk15_v5, hk17_v5, hk18_v5, hk24_v5, hk25_v5, hk35_v5, hk36_v5, hk38_v5, hk39_v5⟩ hP hD hS dX11_coat_95 (Nat.le_refl _) (Nat.le_refl _)
          · skip
            have zc21 : ¬ (p2.toInt = 3) := by rw [fa_eq, show (3 : Int32).toInt = 3 from by decide] at c21; exact c21
            by_cases c25 : p2 = 4
            · skip
              refine lv_tableIn (off := 80) (tgt := 96) hx hb dX11_coat_16 (by rw [c25]; decide) (by rw [c25]; decide) (by rw [c25]; decide) (by decide) ?_
              have zc25 : p2.toInt = 4 := by rw [fa_eq, show (4 : Int32).toInt = 4 from by decide] at c25; exact c25
              refine lv_aload_n hx hb dX11_coat_96 rfl (lv_at hl 0 rfl) ?_
              refine va_get (D := (dC, dI)) (ci := 11) (v := .ref (r 60)) (C := RX11) (T := TX11) (N := 79) hx hb hts inB_11 hown hE.1 hP 0 rfl rfl 60 (by decide) (hts _ k_1380) (fun _ h9 => h9) rfl dX11_coat_97 ?_
              refine lv_bipush (v := 36) hx hb dX11_coat_100 (by decide) ?_
              refine ldI hx hb hE hP 25 rfl (vp_in_nI (n := 36) (by decide) (by decide)) rfl rfl dX11_coat_102 ?_
              refine lv_topi (fun t26 et26 => ?_)
              have zt26 : 36 % 39 < 6 ∨ 12 ≤ 36 % 39 ∨ (-1 ≤ t26.toInt ∧ t26.toInt ≤ 5) := by rw [et26]; exact wear_ld hCf6.2.1 (show 36 < 39 by omega)
              refine lv_iload_n hx hb dX11_coat_103 rfl (lv_at hl 1 rfl) ?_
              refine lv_ishr hx hb dX11_coat_104 ?_
              refine lv_topi (fun t27 et27 => ?_)
              refine lv_iconst (v := 1) hx hb dX11_coat_105 (by decide) ?_
              refine lv_iand hx hb dX11_coat_106 ?_
              refine lv_topi (fun t28 et28 => ?_)
              have zt28 : 0 ≤ t28.toInt ∧ t28.toInt < 2 := by rw [et28]; exact and_rng _ (k := 1) (by decide) (by decide)
              exact ret t28 (v5, f6, w7, g8) _ _ _ _ _ _ rfl ⟨hM_v5, hA_f6, hIv5, hCf6, hRf6, hk0_v5, hk1_v5, hk2_v5, hk3_v5, hk4_v5, hk5_v5, hk8_v5, hk9_v5, hk10_v5, hk13_v5, hk14_v5, hk15_v5, hk17_v5, hk18_v5, hk24_v5, hk25_v5, hk35_v5, hk36_v5, hk38_v5, hk39_v5⟩ hP hD hS dX11_coat_107 (Nat.le_refl _) (Nat.le_refl _)
            · skip
              have zc25 : ¬ (p2.toInt = 4) := by rw [fa_eq, show (4 : Int32).toInt = 4 from by decide] at c25; exact c25
              by_cases c29 : p2 = 5
              · skip
                refine lv_tableIn (off := 92) (tgt := 108) hx hb dX11_coat_16 (by rw [c29]; decide) (by rw [c29]; decide) (by rw [c29]; decide) (by decide) ?_
                have zc29 : p2.toInt = 5 := by rw [fa_eq, show (5 : Int32).toInt = 5 from by decide] at c29; exact c29
                refine lv_aload_n hx hb dX11_coat_108 rfl (lv_at hl 0 rfl) ?_
                refine lv_iload_n hx hb dX11_coat_109 rfl (lv_at hl 1 rfl) ?_
                refine cbVi (n := 1) (rest := []) hx hb hml hown hts hE hP hD hS hA (sY_X11_wearer_1 0 l dC dI cy y0 r p1 v5 f6 w7 g8 hIv5 hCf6 hRf6 ) k_1775 k_1777 k_76 k_114 k_1778 (by decide +kernel) ⟨Nat.le_of_ble_eq_true rfl, Nat.le_of_ble_eq_true rfl⟩ 0 11 rfl rfl (rfl) hl.1 rfl (Nat.le_of_ble_eq_true rfl) dX11_coat_110 (fun r30 u H locs hw hP hD hS => ?_)
                have hG31 := hw
                exact ret r30 (v5, f6, w7, g8) _ _ _ _ _ _ rfl ⟨hM_v5, hA_f6, hIv5, hCf6, hRf6, hk0_v5, hk1_v5, hk2_v5, hk3_v5, hk4_v5, hk5_v5, hk8_v5, hk9_v5, hk10_v5, hk13_v5, hk14_v5, hk15_v5, hk17_v5, hk18_v5, hk24_v5, hk25_v5, hk35_v5, hk36_v5, hk38_v5, hk39_v5⟩ hP hD hS dX11_coat_113 (Nat.le_refl _) (Nat.le_refl _)
              · skip
                have zc29 : ¬ (p2.toInt = 5) := by rw [fa_eq, show (5 : Int32).toInt = 5 from by decide] at c29; exact c29
                refine lv_tableOut (tgt := 114) hx hb dX11_coat_16 (by omega) (by decide) ?_
                refine lv_bipush (v := (-2)) hx hb dX11_coat_114 (by decide) ?_
                exact ret (-2) (v5, f6, w7, g8) _ _ _ _ _ _ rfl ⟨hM_v5, hA_f6, hIv5, hCf6, hRf6, hk0_v5, hk1_v5, hk2_v5, hk3_v5, hk4_v5, hk5_v5, hk8_v5, hk9_v5, hk10_v5, hk13_v5, hk14_v5, hk15_v5, hk17_v5, hk18_v5, hk24_v5, hk25_v5, hk35_v5, hk36_v5, hk38_v5, hk39_v5⟩ hP hD hS dX11_coat_116 (Nat.le_refl _) (Nat.le_refl _)
  · skip
    subst g3
    refine lv_if_ne (tgt := 11) hx hb dX11_coat_5 (by decide) (fun c0 => absurd (by decide) c0) (fun _ => ?_)
    refine lv_bipush (v := (-2)) hx hb dX11_coat_8 (by decide) ?_
    exact ret (-2) (v, f, w, g) _ _ _ _ _ _ rfl ⟨hM_v, hA_f, hIv, hCf, hRf, rfl, rfl, rfl, rfl, rfl, rfl, rfl, rfl, rfl, rfl, rfl, rfl, rfl, rfl, rfl, rfl, rfl, rfl, rfl, rfl⟩ hP hD hS dX11_coat_10 (Nat.le_refl _) (Nat.le_refl _)
