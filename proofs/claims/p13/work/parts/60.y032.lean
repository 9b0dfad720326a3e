set_option maxHeartbeats 4000000 in
set_option maxRecDepth 100000 in
theorem sY_X11_will_1 (l : Launch) (dC : Nat → ClassId) (dI : Nat → Nat → Nat) (cy : Nat → ClassId) (y0 : Nat) (r : Nat → Nat) (p1 : Int32) (p2 : Int32) (p3 : Int32) (v : Nat → Int32) (f : Nat → Nat → Int32) (w : Int64) (g : Nat → Int64) (hIv : YI v) (hCf : YC f) (hRf : progOK (f 4) (f 5) (v 9).toInt.toNat)  : ctI l (dC, dI) cy yX11_will cX11_will 5 .int 8 214 0 0 ((Nat → Int32) × (Nat → Nat → Int32) × (Int64) × (Nat → Int64)) [.ref y0, .int p1, .int p2, .int p3] (YW cy y0 r v f w g) (fun r u => KV [] u.1 v ∧ KF [7, 8, 24] u.2.1 f ∧ YI u.1 ∧ YC u.2.1 ∧ progOK (u.2.1 4) (u.2.1 5) (u.1 9).toInt.toNat ∧ u.1 0 = v 0 ∧ u.1 1 = v 1 ∧ u.1 2 = v 2 ∧ u.1 3 = v 3 ∧ u.1 4 = v 4 ∧ u.1 5 = v 5 ∧ u.1 8 = v 8 ∧ u.1 9 = v 9 ∧ u.1 10 = v 10 ∧ u.1 13 = v 13 ∧ u.1 14 = v 14 ∧ u.1 15 = v 15 ∧ u.1 17 = v 17 ∧ u.1 18 = v 18 ∧ u.1 24 = v 24 ∧ u.1 25 = v 25 ∧ u.1 35 = v 35 ∧ u.1 36 = v 36 ∧ u.1 38 = v 38 ∧ u.1 39 = v 39) (fun u => YW cy y0 r u.1 u.2.1 u.2.2.1 u.2.2.2) := by
  refine ctI_of (by decide) (Nat.le_of_ble_eq_true rfl) (fun p e s m below meth c A ls Q hx hb hml hts hown hE hP hD hA hl ret => ?_)
  have hUv : (v 35).toInt + (v 36).toInt ≤ 40 := hIv.2
  have hM_v : KV [] v v := fun _ _ => rfl
  have hA_f : KF [7, 8, 24] f f := fun _ _ => rfl
  have hown : s.vm.findClass RX11 = some m.cls := hown
  have hS : va_S A s.heap s.heap [] := va_S.rf
  have hl : lv_has ls 5 [(0, .ref y0), (1, .int p1), (2, .int p2), (3, .int p3)] := hl
  refine lv_aload_n hx hb dX11_will_0 rfl (lv_at hl 0 rfl) ?_
  refine lv_iload_n hx hb dX11_will_1 rfl (lv_at hl 1 rfl) ?_
  refine cbVi (n := 1) (rest := []) hx hb hml hown hts hE hP hD hS hA (sY_X11_isMan_1 0 l dC dI cy y0 r p1 v f w g hIv hCf hRf ) k_1732 k_1734 k_70 k_114 k_1735 (by decide +kernel) ⟨Nat.le_of_ble_eq_true rfl, Nat.le_of_ble_eq_true rfl⟩ 0 11 rfl rfl (rfl) hl.1 rfl (Nat.le_of_ble_eq_true rfl) dX11_will_2 (fun r1 u H locs hw hP hD hS => ?_)
  obtain ⟨hG2, hw⟩ := hw
  rcases hw with ⟨g3, g3_0, g3_1, g3_2⟩ | ⟨g3⟩
  · skip
    subst g3
    refine lv_if_eq (tgt := 27) hx hb dX11_will_5 (by decide) (fun c0 => absurd c0 (by decide)) (fun _ => ?_)
    refine lv_iload_n hx hb dX11_will_8 rfl (lv_at hl 2 rfl) ?_
    refine lv_iconst (v := 0) hx hb dX11_will_9 (by decide) ?_
    refine lv_bipush (v := 60) hx hb dX11_will_10 (by decide) ?_
    have lt4 : (0 : Int32).toInt = 0 := by decide
    have lt5 : (60 : Int32).toInt = 60 := by decide
    refine cbSi (n := 3) (rest := []) hx hb hml hown hts hE hP hD hS hA (sY_X11_isIn_1 0 l dC dI cy y0 r p2 0 60 v f w g hIv hCf hRf ) k_1736 k_1737 k_114 k_1738 (by decide +kernel) ⟨Nat.le_of_ble_eq_true rfl, Nat.le_of_ble_eq_true rfl⟩ (rfl) hl.1 rfl (Nat.le_of_ble_eq_true rfl) dX11_will_12 (fun r6 u H locs hw hP hD hS => ?_)
    obtain ⟨hG7, hw⟩ := hw
    rcases hw with ⟨g8, g8_0, g8_1⟩ | ⟨g8⟩
    · skip
      subst g8
      refine lv_if_eq (tgt := 27) hx hb dX11_will_15 (by decide) (fun c0 => absurd c0 (by decide)) (fun _ => ?_)
      refine lv_iload_n hx hb dX11_will_18 rfl (lv_at hl 3 rfl) ?_
      refine lv_iconst (v := 0) hx hb dX11_will_19 (by decide) ?_
      refine lv_iconst (v := 1) hx hb dX11_will_20 (by decide) ?_
      have lt9 : (1 : Int32).toInt = 1 := by decide
      refine cbSi (n := 3) (rest := []) hx hb hml hown hts hE hP hD hS hA (sY_X11_isIn_1 0 l dC dI cy y0 r p3 0 1 v f w g hIv hCf hRf ) k_1736 k_1737 k_114 k_1738 (by decide +kernel) ⟨Nat.le_of_ble_eq_true rfl, Nat.le_of_ble_eq_true rfl⟩ (rfl) hl.1 rfl (Nat.le_of_ble_eq_true rfl) dX11_will_21 (fun r10 u H locs hw hP hD hS => ?_)
      obtain ⟨hG11, hw⟩ := hw
      rcases hw with ⟨g12, g12_0, g12_1⟩ | ⟨g12⟩
      · skip
        subst g12
        refine lv_if_ne (tgt := 30) hx hb dX11_will_24 (by decide) (fun _ => ?_) (fun c0 => absurd c0 (by decide))
        refine lv_aload_n hx hb dX11_will_30 rfl (lv_at hl 0 rfl) ?_
        refine cbVv (n := 0) (rest := []) hx hb hml hown hts hE hP hD hS hA (sY_X11_fill_1 0 l dC dI cy y0 r  v f w g hIv hCf hRf ) k_1739 k_1741 k_71 k_114 k_1742 (by decide +kernel) ⟨Nat.le_of_ble_eq_true rfl, Nat.le_of_ble_eq_true rfl⟩ 0 11 rfl rfl (rfl) hl.1 rfl (Nat.le_of_ble_eq_true rfl) dX11_will_31 (fun u H locs hw hP hD hS => ?_)
        obtain ⟨hG13, hw⟩ := hw
        obtain ⟨v14, f15, w16, g17⟩ := u
        obtain ⟨kV_v14, kF_f15, hIv14, hCf15, hRf15, hk0_v14, hk1_v14, hk2_v14, hk3_v14, hk4_v14, hk5_v14, hk8_v14, hk9_v14, hk10_v14, hk13_v14, hk14_v14, hk15_v14, hk17_v14, hk18_v14, hk24_v14, hk25_v14, hk35_v14, hk36_v14, hk38_v14, hk39_v14⟩ := hw
        have hM_v14 : KV [] v14 v := KV.tr kV_v14 hM_v rfl
        have hA_f15 : KF [7, 8, 24] f15 f := KF.tr kF_f15 hA_f rfl
        have hP : va_P (dC, dI) vwCl (YW cy y0 r v14 f15 w16 g17) H := hP
        have hD : va_D A (YW cy y0 r v14 f15 w16 g17) := hD
        have hUv14 : (v14 35).toInt + (v14 36).toInt ≤ 40 := hIv14.2
        have hq0_v14 : v14 0 = (v 0) := hk0_v14
        have hq1_v14 : v14 1 = (v 1) := hk1_v14
        have hq2_v14 : v14 2 = (v 2) := hk2_v14
        have hq3_v14 : v14 3 = (v 3) := hk3_v14
        have hq4_v14 : v14 4 = (v 4) := hk4_v14
        have hq5_v14 : v14 5 = (v 5) := hk5_v14
        have hq8_v14 : v14 8 = (v 8) := hk8_v14
        have hq9_v14 : v14 9 = (v 9) := hk9_v14
        have zq9_v14 := congrArg Int32.toInt hq9_v14
        have hq10_v14 : v14 10 = (v 10) := hk10_v14
        have hq13_v14 : v14 13 = (v 13) := hk13_v14
        have hq14_v14 : v14 14 = (v 14) := hk14_v14
        have hq15_v14 : v14 15 = (v 15) := hk15_v14
        have hq17_v14 : v14 17 = (v 17) := hk17_v14
        have hq18_v14 : v14 18 = (v 18) := hk18_v14
        have hq24_v14 : v14 24 = (v 24) := hk24_v14
        have hq25_v14 : v14 25 = (v 25) := hk25_v14
        have hq35_v14 : v14 35 = (v 35) := hk35_v14
        have hq36_v14 : v14 36 = (v 36) := hk36_v14
        have hq38_v14 : v14 38 = (v 38) := hk38_v14
        have hq39_v14 : v14 39 = (v 39) := hk39_v14
        refine lv_iconst (v := 0) hx hb dX11_will_34 (by decide) ?_
        refine lv_istore (lv' := [(4, .int 0), (0, .ref y0), (1, .int p1), (2, .int p2), (3, .int p3)]) hx hb dX11_will_35 hl (by decide) rfl (fun ls hl => ?_)
        have lp18 : ∀ (n18 : Nat) (l4_18 : Int32) (v18 : Nat → Int32) (f18 : Nat → Nat → Int32) (w18 : Int64) (g18 : Nat → Int64), YI v18 → YC f18 → progOK (f18 4) (f18 5) (v18 9).toInt.toNat → v18 0 = (v 0) → v18 1 = (v 1) → v18 2 = (v 2) → v18 3 = (v 3) → v18 4 = (v 4) → v18 5 = (v 5) → v18 8 = (v 8) → v18 9 = (v 9) → v18 10 = (v 10) → v18 13 = (v 13) → v18 14 = (v 14) → v18 15 = (v 15) → v18 17 = (v 17) → v18 18 = (v 18) → v18 24 = (v 24) → v18 25 = (v 25) → v18 35 = (v 35) → v18 36 = (v 36) → v18 38 = (v 38) → v18 39 = (v 39) → ((0 : Int) ≤ l4_18.toInt ∧ l4_18.toInt ≤ 2147483647) → KV [] v18 v → KF [7, 8, 24] f18 f → (2147483647 - l4_18.toInt).toNat < n18 → ∀ (H : Heap) (locs : List Loc) (ls : Array Slot), va_P (dC, dI) vwCl (YW cy y0 r v18 f18 w18 g18) H → va_D A (YW cy y0 r v18 f18 w18 g18) → va_S A s.heap H locs → lv_has ls 5 [(4, .int l4_18), (0, .ref y0), (1, .int p1), (2, .int p2), (3, .int p3)] → W p l e { frames := 8, cells := 0, slots := 0, locals := 214 } s m ([.ref y0, .int p1, .int p2, .int p3] : List Value).toArray below meth c H locs 0 0 Q (F0 m 37 ls []) := by
          intro n18
          induction n18 with
          | zero => intro l4_18 v18 f18 w18 g18 hIv18 hCf18 hRf18 hq0_v18 hq1_v18 hq2_v18 hq3_v18 hq4_v18 hq5_v18 hq8_v18 hq9_v18 hq10_v18 hq13_v18 hq14_v18 hq15_v18 hq17_v18 hq18_v18 hq24_v18 hq25_v18 hq35_v18 hq36_v18 hq38_v18 hq39_v18 hr4_18 hM_v18 hA_f18 hm; exact absurd hm (Nat.not_lt_zero _)
          | succ n18 ih18 =>
            intro l4_18 v18 f18 w18 g18 hIv18 hCf18 hRf18 hq0_v18 hq1_v18 hq2_v18 hq3_v18 hq4_v18 hq5_v18 hq8_v18 hq9_v18 hq10_v18 hq13_v18 hq14_v18 hq15_v18 hq17_v18 hq18_v18 hq24_v18 hq25_v18 hq35_v18 hq36_v18 hq38_v18 hq39_v18 hr4_18 hM_v18 hA_f18 hm18 H locs ls hP hD hS hl
            have hUv18 : (v18 35).toInt + (v18 36).toInt ≤ 40 := hIv18.2
            have zq9_v18 := congrArg Int32.toInt hq9_v18
            refine lv_iload hx hb dX11_will_37 (lv_at hl 0 rfl) ?_
            refine lv_iload_n hx hb dX11_will_39 rfl (lv_at hl 3 rfl) ?_
            refine lv_icmp_ge (tgt := 71) hx hb dX11_will_40 (by decide) (fun c19 => ?_) (fun c19 => ?_)
            · skip
              have zc19 : p2.toInt ≤ l4_18.toInt := by rw [fa_le] at c19; exact c19
              have rg20 := fb_rng l4_18
              have rg21 := fb_rng p2
              refine lv_aload_n hx hb dX11_will_71 rfl (lv_at hl 1 rfl) ?_
              refine va_get (D := (dC, dI)) (ci := 11) (v := .ref (r 60)) (C := RX11) (T := TX11) (N := 79) hx hb hts inB_11 hown hE.1 hP 0 rfl rfl 60 (by decide) (hts _ k_1380) (fun _ h9 => h9) rfl dX11_will_72 ?_
              refine lv_bipush (v := 6) hx hb dX11_will_75 (by decide) ?_
              refine lv_iload_n hx hb dX11_will_77 rfl (lv_at hl 2 rfl) ?_
              refine lv_iadd hx hb dX11_will_78 ?_
              refine lv_topi (fun t22 et22 => ?_)
              have rg23 := fb_rng p1
              have zt22 : t22.toInt = 6 + p1.toInt := by rw [et22]; exact add_i (by decide) rfl (by omega) (by omega)
              refine ldI hx hb hE hP 25 rfl (vp_in_iff.mpr ⟨by omega, by omega⟩) rfl rfl dX11_will_79 ?_
              refine lv_topi (fun t24 et24 => ?_)
              have zt24 : t22.toInt.toNat % 39 < 6 ∨ 12 ≤ t22.toInt.toNat % 39 ∨ (-1 ≤ t24.toInt ∧ t24.toInt ≤ 5) := by rw [et24]; exact wear_ld hCf18.2.1 (show t22.toInt.toNat < 39 by omega)
              exact ret t24 (v18, f18, w18, g18) _ _ _ _ _ _ rfl ⟨hM_v18, hA_f18, hIv18, hCf18, hRf18, hq0_v18, hq1_v18, hq2_v18, hq3_v18, hq4_v18, hq5_v18, hq8_v18, hq9_v18, hq10_v18, hq13_v18, hq14_v18, hq15_v18, hq17_v18, hq18_v18, hq24_v18, hq25_v18, hq35_v18, hq36_v18, hq38_v18, hq39_v18⟩ hP hD hS dX11_will_80 (Nat.le_refl _) (Nat.le_refl _)
            · skip
              have zc19 : ¬ (p2.toInt ≤ l4_18.toInt) := by rw [fa_le] at c19; exact c19
              have rg25 := fb_rng l4_18
              have rg26 := fb_rng p2
              refine lv_aload_n hx hb dX11_will_43 rfl (lv_at hl 1 rfl) ?_
              refine lv_iload_n hx hb dX11_will_44 rfl (lv_at hl 4 rfl) ?_
              refine lv_iconst (v := 1) hx hb dX11_will_45 (by decide) ?_
              refine lv_icmp_ne (tgt := 60) hx hb dX11_will_46 (by decide) (fun c27 => ?_) (fun c27 => ?_)
              · skip
                have zc27 : ¬ (p3.toInt = 1) := by rw [fa_eq, show (1 : Int32).toInt = 1 from by decide] at c27; exact c27
                refine lv_iconst (v := 0) hx hb dX11_will_60 (by decide) ?_
                refine cbVi (n := 1) (rest := []) hx hb hml hown hts hE hP hD hS hA (sY_X11_goDay_1 0 l dC dI cy y0 r 0 v18 f18 w18 g18 hIv18 hCf18 hRf18 ) k_1795 k_1797 k_79 k_114 k_1798 (by decide +kernel) ⟨Nat.le_of_ble_eq_true rfl, Nat.le_of_ble_eq_true rfl⟩ 0 11 rfl rfl (rfl) hl.1 rfl (Nat.le_of_ble_eq_true rfl) dX11_will_61 (fun r28 u H locs hw hP hD hS => ?_)
                obtain ⟨hG29, hw⟩ := hw
                obtain ⟨v30, f31, w32, g33⟩ := u
                obtain ⟨kV_v30, kF_f31, hIv30, hCf31, hRf31, hk0_v30, hk1_v30, hk2_v30, hk3_v30, hk4_v30, hk5_v30, hk8_v30, hk9_v30, hk10_v30, hk13_v30, hk14_v30, hk15_v30, hk17_v30, hk18_v30, hk24_v30, hk25_v30, hk35_v30, hk36_v30, hk38_v30, hk39_v30⟩ := hw
                have hM_v30 : KV [] v30 v := KV.tr kV_v30 hM_v18 rfl
                have hA_f31 : KF [7, 8, 24] f31 f := KF.tr kF_f31 hA_f18 rfl
                have hP : va_P (dC, dI) vwCl (YW cy y0 r v30 f31 w32 g33) H := hP
                have hD : va_D A (YW cy y0 r v30 f31 w32 g33) := hD
                have hUv30 : (v30 35).toInt + (v30 36).toInt ≤ 40 := hIv30.2
                have hq0_v30 : v30 0 = (v 0) := hk0_v30.trans hq0_v18
                have hq1_v30 : v30 1 = (v 1) := hk1_v30.trans hq1_v18
                have hq2_v30 : v30 2 = (v 2) := hk2_v30.trans hq2_v18
                have hq3_v30 : v30 3 = (v 3) := hk3_v30.trans hq3_v18
                have hq4_v30 : v30 4 = (v 4) := hk4_v30.trans hq4_v18
                have hq5_v30 : v30 5 = (v 5) := hk5_v30.trans hq5_v18
                have hq8_v30 : v30 8 = (v 8) := hk8_v30.trans hq8_v18
                have hq9_v30 : v30 9 = (v 9) := hk9_v30.trans hq9_v18
                have zq9_v30 := congrArg Int32.toInt hq9_v30
                have hq10_v30 : v30 10 = (v 10) := hk10_v30.trans hq10_v18
                have hq13_v30 : v30 13 = (v 13) := hk13_v30.trans hq13_v18
                have hq14_v30 : v30 14 = (v 14) := hk14_v30.trans hq14_v18
                have hq15_v30 : v30 15 = (v 15) := hk15_v30.trans hq15_v18
                have hq17_v30 : v30 17 = (v 17) := hk17_v30.trans hq17_v18
                have hq18_v30 : v30 18 = (v 18) := hk18_v30.trans hq18_v18
                have hq24_v30 : v30 24 = (v 24) := hk24_v30.trans hq24_v18
                have hq25_v30 : v30 25 = (v 25) := hk25_v30.trans hq25_v18
                have hq35_v30 : v30 35 = (v 35) := hk35_v30.trans hq35_v18
                have hq36_v30 : v30 36 = (v 36) := hk36_v30.trans hq36_v18
                have hq38_v30 : v30 38 = (v 38) := hk38_v30.trans hq38_v18
                have hq39_v30 : v30 39 = (v 39) := hk39_v30.trans hq39_v18
                refine lv_pop hx hb dX11_will_64 rfl ?_
                obtain ⟨t34, et34⟩ : ∃ y : Int32, y = l4_18 + 1 := ⟨_, rfl⟩
                have zt34 : t34.toInt = l4_18.toInt + 1 := by rw [et34]; exact add_i rfl (by decide) (by omega) (by omega)
                refine lv_iinc (v := t34) (lv' := [(4, .int t34), (0, .ref y0), (1, .int p1), (2, .int p2), (3, .int p3)]) hx hb dX11_will_65 hl (k := 0) rfl (by rw [et34]; rfl) (by decide) rfl (fun ls hl => ?_)
                refine lv_goto (tgt := 37) hx hb dX11_will_68 (by decide) ?_
                have rg35 := fb_rng t34
                exact ih18 t34 v30 f31 w32 g33 hIv30 hCf31 hRf31 hq0_v30 hq1_v30 hq2_v30 hq3_v30 hq4_v30 hq5_v30 hq8_v30 hq9_v30 hq10_v30 hq13_v30 hq14_v30 hq15_v30 hq17_v30 hq18_v30 hq24_v30 hq25_v30 hq35_v30 hq36_v30 hq38_v30 hq39_v30 ⟨show (0 : Int) ≤ t34.toInt by omega, show t34.toInt ≤ (2147483647 : Int) by omega⟩ hM_v30 hA_f31 (by show (2147483647 - t34.toInt).toNat < n18; omega) _ _ _ hP hD hS (lv_sub hl [0, 1, 2, 3, 4] rfl)
              · skip
                have zc27 : p3.toInt = 1 := by rw [fa_eq, show (1 : Int32).toInt = 1 from by decide] at c27; exact c27
                refine lv_aload_n hx hb dX11_will_49 rfl (lv_at hl 1 rfl) ?_
                refine cbVi (n := 0) (rest := [.ref y0]) hx hb hml hown hts hE hP hD hS hA (sY_X11_drawRain_1 0 l dC dI cy y0 r  v18 f18 w18 g18 hIv18 hCf18 hRf18 ) k_1791 k_1793 k_78 k_114 k_1794 (by decide +kernel) ⟨Nat.le_of_ble_eq_true rfl, Nat.le_of_ble_eq_true rfl⟩ 0 11 rfl rfl (rfl) hl.1 rfl (Nat.le_of_ble_eq_true rfl) dX11_will_50 (fun r36 u H locs hw hP hD hS => ?_)
                obtain ⟨hG37, hw⟩ := hw
                obtain ⟨v38, f39, w40, g41⟩ := u
                obtain ⟨kV_v38, kF_f39, hIv38, hCf39, hRf39, hk0_v38, hk1_v38, hk2_v38, hk3_v38, hk4_v38, hk5_v38, hk8_v38, hk9_v38, hk10_v38, hk13_v38, hk14_v38, hk15_v38, hk17_v38, hk18_v38, hk24_v38, hk25_v38, hk35_v38, hk36_v38, hk38_v38, hk39_v38, hw⟩ := hw
                have hM_v38 : KV [] v38 v := KV.tr kV_v38 hM_v18 rfl
                have hA_f39 : KF [7, 8, 24] f39 f := KF.tr kF_f39 hA_f18 rfl
                have hP : va_P (dC, dI) vwCl (YW cy y0 r v38 f39 w40 g41) H := hP
                have hD : va_D A (YW cy y0 r v38 f39 w40 g41) := hD
                have hUv38 : (v38 35).toInt + (v38 36).toInt ≤ 40 := hIv38.2
                have hq0_v38 : v38 0 = (v 0) := hk0_v38.trans hq0_v18
                have hq1_v38 : v38 1 = (v 1) := hk1_v38.trans hq1_v18
                have hq2_v38 : v38 2 = (v 2) := hk2_v38.trans hq2_v18
                have hq3_v38 : v38 3 = (v 3) := hk3_v38.trans hq3_v18
                have hq4_v38 : v38 4 = (v 4) := hk4_v38.trans hq4_v18
                have hq5_v38 : v38 5 = (v 5) := hk5_v38.trans hq5_v18
                have hq8_v38 : v38 8 = (v 8) := hk8_v38.trans hq8_v18
                have hq9_v38 : v38 9 = (v 9) := hk9_v38.trans hq9_v18
                have zq9_v38 := congrArg Int32.toInt hq9_v38
                have hq10_v38 : v38 10 = (v 10) := hk10_v38.trans hq10_v18
                have hq13_v38 : v38 13 = (v 13) := hk13_v38.trans hq13_v18
                have hq14_v38 : v38 14 = (v 14) := hk14_v38.trans hq14_v18
                have hq15_v38 : v38 15 = (v 15) := hk15_v38.trans hq15_v18
                have hq17_v38 : v38 17 = (v 17) := hk17_v38.trans hq17_v18
                have hq18_v38 : v38 18 = (v 18) := hk18_v38.trans hq18_v18
                have hq24_v38 : v38 24 = (v 24) := hk24_v38.trans hq24_v18
                have hq25_v38 : v38 25 = (v 25) := hk25_v38.trans hq25_v18
                have hq35_v38 : v38 35 = (v 35) := hk35_v38.trans hq35_v18
                have hq36_v38 : v38 36 = (v 36) := hk36_v38.trans hq36_v18
                have hq38_v38 : v38 38 = (v 38) := hk38_v38.trans hq38_v18
                have hq39_v38 : v38 39 = (v 39) := hk39_v38.trans hq39_v18
                rcases hw with ⟨g42⟩ | ⟨g42⟩
                · skip
                  subst g42
                  refine lv_if_eq (tgt := 60) hx hb dX11_will_53 (by decide) (fun c0 => absurd c0 (by decide)) (fun _ => ?_)
                  refine lv_iconst (v := 1) hx hb dX11_will_56 (by decide) ?_
                  refine lv_goto (tgt := 61) hx hb dX11_will_57 (by decide) ?_
                  refine cbVi (n := 1) (rest := []) hx hb hml hown hts hE hP hD hS hA (sY_X11_goDay_1 0 l dC dI cy y0 r 1 v38 f39 w40 g41 hIv38 hCf39 hRf39 ) k_1795 k_1797 k_79 k_114 k_1798 (by decide +kernel) ⟨Nat.le_of_ble_eq_true rfl, Nat.le_of_ble_eq_true rfl⟩ 0 11 rfl rfl (rfl) hl.1 rfl (Nat.le_of_ble_eq_true rfl) dX11_will_61 (fun r43 u H locs hw hP hD hS => ?_)
                  obtain ⟨hG44, hw⟩ := hw
                  obtain ⟨v45, f46, w47, g48⟩ := u
                  obtain ⟨kV_v45, kF_f46, hIv45, hCf46, hRf46, hk0_v45, hk1_v45, hk2_v45, hk3_v45, hk4_v45, hk5_v45, hk8_v45, hk9_v45, hk10_v45, hk13_v45, hk14_v45, hk15_v45, hk17_v45, hk18_v45, hk24_v45, hk25_v45, hk35_v45, hk36_v45, hk38_v45, hk39_v45⟩ := hw
                  have hM_v45 : KV [] v45 v := KV.tr kV_v45 hM_v38 rfl
                  have hA_f46 : KF [7, 8, 24] f46 f := KF.tr kF_f46 hA_f39 rfl
                  have hP : va_P (dC, dI) vwCl (YW cy y0 r v45 f46 w47 g48) H := hP
                  have hD : va_D A (YW cy y0 r v45 f46 w47 g48) := hD
                  have hUv45 : (v45 35).toInt + (v45 36).toInt ≤ 40 := hIv45.2
                  have hq0_v45 : v45 0 = (v 0) := hk0_v45.trans hq0_v38
                  have hq1_v45 : v45 1 = (v 1) := hk1_v45.trans hq1_v38
                  have hq2_v45 : v45 2 = (v 2) := hk2_v45.trans hq2_v38
                  have hq3_v45 : v45 3 = (v 3) := hk3_v45.trans hq3_v38
                  have hq4_v45 : v45 4 = (v 4) := hk4_v45.trans hq4_v38
                  have hq5_v45 : v45 5 = (v 5) := hk5_v45.trans hq5_v38
                  have hq8_v45 : v45 8 = (v 8) := hk8_v45.trans hq8_v38
                  have hq9_v45 : v45 9 = (v 9) := hk9_v45.trans hq9_v38
                  have zq9_v45 := congrArg Int32.toInt hq9_v45
                  have hq10_v45 : v45 10 = (v 10) := hk10_v45.trans hq10_v38
                  have hq13_v45 : v45 13 = (v 13) := hk13_v45.trans hq13_v38
                  have hq14_v45 : v45 14 = (v 14) := hk14_v45.trans hq14_v38
                  have hq15_v45 : v45 15 = (v 15) := hk15_v45.trans hq15_v38
                  have hq17_v45 : v45 17 = (v 17) := hk17_v45.trans hq17_v38
                  have hq18_v45 : v45 18 = (v 18) := hk18_v45.trans hq18_v38
                  have hq24_v45 : v45 24 = (v 24) := hk24_v45.trans hq24_v38
                  have hq25_v45 : v45 25 = (v 25) := hk25_v45.trans hq25_v38
                  have hq35_v45 : v45 35 = (v 35) := hk35_v45.trans hq35_v38
                  have hq36_v45 : v45 36 = (v 36) := hk36_v45.trans hq36_v38
                  have hq38_v45 : v45 38 = (v 38) := hk38_v45.trans hq38_v38
                  have hq39_v45 : v45 39 = (v 39) := hk39_v45.trans hq39_v38
                  refine lv_pop hx hb dX11_will_64 rfl ?_
                  obtain ⟨t49, et49⟩ : ∃ y : Int32, y = l4_18 + 1 := ⟨_, rfl⟩
                  have zt49 : t49.toInt = l4_18.toInt + 1 := by rw [et49]; exact add_i rfl (by decide) (by omega) (by omega)
                  refine lv_iinc (v := t49) (lv' := [(4, .int t49), (0, .ref y0), (1, .int p1), (2, .int p2), (3, .int p3)]) hx hb dX11_will_65 hl (k := 0) rfl (by rw [et49]; rfl) (by decide) rfl (fun ls hl => ?_)
                  refine lv_goto (tgt := 37) hx hb dX11_will_68 (by decide) ?_
                  have rg50 := fb_rng t49
                  exact ih18 t49 v45 f46 w47 g48 hIv45 hCf46 hRf46 hq0_v45 hq1_v45 hq2_v45 hq3_v45 hq4_v45 hq5_v45 hq8_v45 hq9_v45 hq10_v45 hq13_v45 hq14_v45 hq15_v45 hq17_v45 hq18_v45 hq24_v45 hq25_v45 hq35_v45 hq36_v45 hq38_v45 hq39_v45 ⟨show (0 : Int) ≤ t49.toInt by omega, show t49.toInt ≤ (2147483647 : Int) by omega⟩ hM_v45 hA_f46 (by show (2147483647 - t49.toInt).toNat < n18; omega) _ _ _ hP hD hS (lv_sub hl [0, 1, 2, 3, 4] rfl)
                · skip
                  subst g42
                  refine lv_if_eq (tgt := 60) hx hb dX11_will_53 (by decide) (fun _ => ?_) (fun c0 => absurd (by decide) c0)
                  refine lv_iconst (v := 0) hx hb dX11_will_60 (by decide) ?_
                  refine cbVi (n := 1) (rest := []) hx hb hml hown hts hE hP hD hS hA (sY_X11_goDay_1 0 l dC dI cy y0 r 0 v38 f39 w40 g41 hIv38 hCf39 hRf39 ) k_1795 k_1797 k_79 k_114 k_1798 (by decide +kernel) ⟨Nat.le_of_ble_eq_true rfl, Nat.le_of_ble_eq_true rfl⟩ 0 11 rfl rfl (rfl) hl.1 rfl (Nat.le_of_ble_eq_true rfl) dX11_will_61 (fun r51 u H locs hw hP hD hS => ?_)
                  obtain ⟨hG52, hw⟩ := hw
                  obtain ⟨v53, f54, w55, g56⟩ := u
                  obtain ⟨kV_v53, kF_f54, hIv53, hCf54, hRf54, hk0_v53, hk1_v53, hk2_v53, hk3_v53, hk4_v53, hk5_v53, hk8_v53, hk9_v53, hk10_v53, hk13_v53, hk14_v53, hk15_v53, hk17_v53, hk18_v53, hk24_v53, hk25_v53, hk35_v53, hk36_v53, hk38_v53, hk39_v53⟩ := hw
                  have hM_v53 : KV [] v53 v := KV.tr kV_v53 hM_v38 rfl
                  have hA_f54 : KF [7, 8, 24] f54 f := KF.tr kF_f54 hA_f39 rfl
                  have hP : va_P (dC, dI) vwCl (YW cy y0 r v53 f54 w55 g56) H := hP
                  have hD : va_D A (YW cy y0 r v53 f54 w55 g56) := hD
                  have hUv53 : (v53 35).toInt + (v53 36).toInt ≤ 40 := hIv53.2
                  have hq0_v53 : v53 0 = (v 0) := hk0_v53.trans hq0_v38
                  have hq1_v53 : v53 1 = (v 1) := hk1_v53.trans hq1_v38
                  have hq2_v53 : v53 2 = (v 2) := hk2_v53.trans hq2_v38
                  have hq3_v53 : v53 3 = (v 3) := hk3_v53.trans hq3_v38
                  have hq4_v53 : v53 4 = (v 4) := hk4_v53.trans hq4_v38
                  have hq5_v53 : v53 5 = (v 5) := hk5_v53.trans hq5_v38
                  have hq8_v53 : v53 8 = (v 8) := hk8_v53.trans hq8_v38
                  have hq9_v53 : v53 9 = (v 9) := hk9_v53.trans hq9_v38
                  have zq9_v53 := congrArg Int32.toInt hq9_v53
                  have hq10_v53 : v53 10 = (v 10) := hk10_v53.trans hq10_v38
                  have hq13_v53 : v53 13 = (v 13) := hk13_v53.trans hq13_v38
                  have hq14_v53 : v53 14 = (v 14) := hk14_v53.trans hq14_v38
                  have hq15_v53 : v53 15 = (v 15) := hk15_v53.trans hq15_v38
                  have hq17_v53 : v53 17 = (v 17) := hk17_v53.trans hq17_v38
                  have hq18_v53 : v53 18 = (v 18) := hk18_v53.trans hq18_v38
                  have hq24_v53 : v53 24 = (v 24) := hk24_v53.trans hq24_v38
                  have hq25_v53 : v53 25 = (v 25) := hk25_v53.trans hq25_v38
                  have hq35_v53 : v53 35 = (v 35) := hk35_v53.trans hq35_v38
                  have hq36_v53 : v53 36 = (v 36) := hk36_v53.trans hq36_v38
                  have hq38_v53 : v53 38 = (v 38) := hk38_v53.trans hq38_v38
                  have hq39_v53 : v53 39 = (v 39) := hk39_v53.trans hq39_v38
                  refine lv_pop hx hb dX11_will_64 rfl ?_
                  obtain ⟨t57, et57⟩ : ∃ y : Int32, y = l4_18 + 1 := ⟨_, rfl⟩
                  have zt57 : t57.toInt = l4_18.toInt + 1 := by rw [et57]; exact add_i rfl (by decide) (by omega) (by omega)
                  refine lv_iinc (v := t57) (lv' := [(4, .int t57), (0, .ref y0), (1, .int p1), (2, .int p2), (3, .int p3)]) hx hb dX11_will_65 hl (k := 0) rfl (by rw [et57]; rfl) (by decide) rfl (fun ls hl => ?_)
                  refine lv_goto (tgt := 37) hx hb dX11_will_68 (by decide) ?_
                  have rg58 := fb_rng t57
                  exact ih18 t57 v53 f54 w55 g56 hIv53 hCf54 hRf54 hq0_v53 hq1_v53 hq2_v53 hq3_v53 hq4_v53 hq5_v53 hq8_v53 hq9_v53 hq10_v53 hq13_v53 hq14_v53 hq15_v53 hq17_v53 hq18_v53 hq24_v53 hq25_v53 hq35_v53 hq36_v53 hq38_v53 hq39_v53 ⟨show (0 : Int) ≤ t57.toInt by omega, show t57.toInt ≤ (2147483647 : Int) by omega⟩ hM_v53 hA_f54 (by show (2147483647 - t57.toInt).toNat < n18; omega) _ _ _ hP hD hS (lv_sub hl [0, 1, 2, 3, 4] rfl)
        exact lp18 _ 0 v14 f15 w16 g17 hIv14 hCf15 hRf15 hq0_v14 hq1_v14 hq2_v14 hq3_v14 hq4_v14 hq5_v14 hq8_v14 hq9_v14 hq10_v14 hq13_v14 hq14_v14 hq15_v14 hq17_v14 hq18_v14 hq24_v14 hq25_v14 hq35_v14 hq36_v14 hq38_v14 hq39_v14 ⟨by decide, by decide⟩ hM_v14 hA_f15 (Nat.lt_succ_self _) _ _ _ hP hD hS (lv_sub hl [0, 1, 2, 3, 4] rfl)
      · skip
        subst g12
        refine lv_if_ne (tgt := 30) hx hb dX11_will_24 (by decide) (fun c0 => absurd (by decide) c0) (fun _ => ?_)
        refine lv_bipush (v := (-2)) hx hb dX11_will_27 (by decide) ?_
        exact ret (-2) (v, f, w, g) _ _ _ _ _ _ rfl ⟨hM_v, hA_f, hIv, hCf, hRf, rfl, rfl, rfl, rfl, rfl, rfl, rfl, rfl, rfl, rfl, rfl, rfl, rfl, rfl, rfl, rfl, rfl, rfl, rfl, rfl⟩ hP hD hS dX11_will_29 (Nat.le_refl _) (Nat.le_refl _)
    · skip
      subst g8
      refine lv_if_eq (tgt := 27) hx hb dX11_will_15 (by decide) (fun _ => ?_) (fun c0 => absurd (by decide) c0)
      refine lv_bipush (v := (-2)) hx hb dX11_will_27 (by decide) ?_
      exact ret (-2) (v, f, w, g) _ _ _ _ _ _ rfl ⟨hM_v, hA_f, hIv, hCf, hRf, rfl, rfl, rfl, rfl, rfl, rfl, rfl, rfl, rfl, rfl, rfl, rfl, rfl, rfl, rfl, rfl, rfl, rfl, rfl, rfl⟩ hP hD hS dX11_will_29 (Nat.le_refl _) (Nat.le_refl _)
  · skip
    subst g3
    refine lv_if_eq (tgt := 27) hx hb dX11_will_5 (by decide) (fun _ => ?_) (fun c0 => absurd (by decide) c0)
    refine lv_bipush (v := (-2)) hx hb dX11_will_27 (by decide) ?_
    exact ret (-2) (v, f, w, g) _ _ _ _ _ _ rfl ⟨hM_v, hA_f, hIv, hCf, hRf, rfl, rfl, rfl, rfl, rfl, rfl, rfl, rfl, rfl, rfl, rfl, rfl, rfl, rfl, rfl, rfl, rfl, rfl, rfl, rfl⟩ hP hD hS dX11_will_29 (Nat.le_refl _) (Nat.le_refl _)
set_option maxHeartbeats 4000000 in
set_option maxRecDepth 100000 in
theorem sY_X11_out_1 (l : Launch) (dC : Nat → ClassId) (dI : Nat → Nat → Nat) (cy : Nat → ClassId) (y0 : Nat) (r : Nat → Nat) (p1 : Int32) (v : Nat → Int32) (f : Nat → Nat → Int32) (w : Int64) (g : Nat → Int64) (hIv : YI v) (hCf : YC f) (hRf : progOK (f 4) (f 5) (v 9).toInt.toNat)  : ctI l (dC, dI) cy yX11_out cX11_out 3 .int 8 214 0 0 ((Nat → Int32) × (Nat → Nat → Int32) × (Int64) × (Nat → Int64)) [.ref y0, .int p1] (YW cy y0 r v f w g) (fun r u => KV [] u.1 v ∧ KF [7, 8, 24] u.2.1 f ∧ YI u.1 ∧ YC u.2.1 ∧ progOK (u.2.1 4) (u.2.1 5) (u.1 9).toInt.toNat ∧ u.1 0 = v 0 ∧ u.1 1 = v 1 ∧ u.1 2 = v 2 ∧ u.1 3 = v 3 ∧ u.1 4 = v 4 ∧ u.1 5 = v 5 ∧ u.1 8 = v 8 ∧ u.1 9 = v 9 ∧ u.1 10 = v 10 ∧ u.1 13 = v 13 ∧ u.1 14 = v 14 ∧ u.1 15 = v 15 ∧ u.1 17 = v 17 ∧ u.1 18 = v 18 ∧ u.1 24 = v 24 ∧ u.1 25 = v 25 ∧ u.1 35 = v 35 ∧ u.1 36 = v 36 ∧ u.1 38 = v 38 ∧ u.1 39 = v 39) (fun u => YW cy y0 r u.1 u.2.1 u.2.2.1 u.2.2.2) := by
  refine ctI_of (by decide) (Nat.le_of_ble_eq_true rfl) (fun p e s m below meth c A ls Q hx hb hml hts hown hE hP hD hA hl ret => ?_)
  have hUv : (v 35).toInt + (v 36).toInt ≤ 40 := hIv.2
  have hM_v : KV [] v v := fun _ _ => rfl
  have hA_f : KF [7, 8, 24] f f := fun _ _ => rfl
  have hown : s.vm.findClass RX11 = some m.cls := hown
  have hS : va_S A s.heap s.heap [] := va_S.rf
  have hl : lv_has ls 3 [(0, .ref y0), (1, .int p1)] := hl
  refine lv_aload_n hx hb dX11_out_0 rfl (lv_at hl 0 rfl) ?_
  refine lv_iload_n hx hb dX11_out_1 rfl (lv_at hl 1 rfl) ?_
  refine cbVi (n := 1) (rest := []) hx hb hml hown hts hE hP hD hS hA (sY_X11_isMan_1 0 l dC dI cy y0 r p1 v f w g hIv hCf hRf ) k_1732 k_1734 k_70 k_114 k_1735 (by decide +kernel) ⟨Nat.le_of_ble_eq_true rfl, Nat.le_of_ble_eq_true rfl⟩ 0 11 rfl rfl (rfl) hl.1 rfl (Nat.le_of_ble_eq_true rfl) dX11_out_2 (fun r1 u H locs hw hP hD hS => ?_)
  obtain ⟨hG2, hw⟩ := hw
  rcases hw with ⟨g3, g3_0, g3_1, g3_2⟩ | ⟨g3⟩
  · skip
    subst g3
    refine lv_if_ne (tgt := 10) hx hb dX11_out_5 (by decide) (fun _ => ?_) (fun c0 => absurd c0 (by decide))
    refine lv_aload_n hx hb dX11_out_10 rfl (lv_at hl 0 rfl) ?_
    refine cbVv (n := 0) (rest := []) hx hb hml hown hts hE hP hD hS hA (sY_X11_fill_1 0 l dC dI cy y0 r  v f w g hIv hCf hRf ) k_1739 k_1741 k_71 k_114 k_1742 (by decide +kernel) ⟨Nat.le_of_ble_eq_true rfl, Nat.le_of_ble_eq_true rfl⟩ 0 11 rfl rfl (rfl) hl.1 rfl (Nat.le_of_ble_eq_true rfl) dX11_out_11 (fun u H locs hw hP hD hS => ?_)
    obtain ⟨hG4, hw⟩ := hw
    obtain ⟨v5, f6, w7, g8⟩ := u
    obtain ⟨kV_v5, kF_f6, hIv5, hCf6, hRf6, hk0_v5, hk1_v5, hk2_v5, hk3_v5, hk4_v5, hk5_v5, hk8_v5, hk9_v5, hk10_v5, hk13_v5, hk14_v5, hk15_v5, hk17_v5, hk18_v5, hk24_v5, hk25_v5, hk35_v5, hk36_v5, hk38_v5, hk39_v5⟩ := hw
    have hM_v5 : KV [] v5 v := KV.tr kV_v5 hM_v rfl
    have hA_f6 : KF [7, 8, 24] f6 f := KF.tr kF_f6 hA_f rfl
    have hP : va_P (dC, dI) vwCl (YW cy y0 r v5 f6 w7 g8) H := hP
    have hD : va_D A (YW cy y0 r v5 f6 w7 g8) := hD
    have hUv5 : (v5 35).toInt + (v5 36).toInt ≤ 40 := hIv5.2
    have hq0_v5 : v5 0 = (v 0) := hk0_v5
    have hq1_v5 : v5 1 = (v 1) := hk1_v5
    have hq2_v5 : v5 2 = (v 2) := hk2_v5
    have hq3_v5 : v5 3 = (v 3) := hk3_v5
    have hq4_v5 : v5 4 = (v 4) := hk4_v5
    have hq5_v5 : v5 5 = (v 5) := hk5_v5
    have hq8_v5 : v5 8 = (v 8) := hk8_v5
    have hq9_v5 : v5 9 = (v 9) := hk9_v5
    have zq9_v5 := congrArg Int32.toInt hq9_v5
    have hq10_v5 : v5 10 = (v 10) := hk10_v5
    have hq13_v5 : v5 13 = (v 13) := hk13_v5
    have hq14_v5 : v5 14 = (v 14) := hk14_v5
    have hq15_v5 : v5 15 = (v 15) := hk15_v5
    have hq17_v5 : v5 17 = (v 17) := hk17_v5
    have hq18_v5 : v5 18 = (v 18) := hk18_v5
    have hq24_v5 : v5 24 = (v 24) := hk24_v5
    have hq25_v5 : v5 25 = (v 25) := hk25_v5
    have hq35_v5 : v5 35 = (v 35) := hk35_v5
    have hq36_v5 : v5 36 = (v 36) := hk36_v5
    have hq38_v5 : v5 38 = (v 38) := hk38_v5
    have hq39_v5 : v5 39 = (v 39) := hk39_v5
    refine lv_iconst (v := 0) hx hb dX11_out_14 (by decide) ?_
    refine lv_istore_n (lv' := [(2, .int 0), (0, .ref y0), (1, .int p1)]) hx hb dX11_out_15 rfl hl (by decide) rfl (fun ls hl => ?_)
    have lp9 : ∀ (n9 : Nat) (l2_9 : Int32) (v9 : Nat → Int32) (f9 : Nat → Nat → Int32) (w9 : Int64) (g9 : Nat → Int64), YI v9 → YC f9 → progOK (f9 4) (f9 5) (v9 9).toInt.toNat → v9 0 = (v 0) → v9 1 = (v 1) → v9 2 = (v 2) → v9 3 = (v 3) → v9 4 = (v 4) → v9 5 = (v 5) → v9 8 = (v 8) → v9 9 = (v 9) → v9 10 = (v 10) → v9 13 = (v 13) → v9 14 = (v 14) → v9 15 = (v 15) → v9 17 = (v 17) → v9 18 = (v 18) → v9 24 = (v 24) → v9 25 = (v 25) → v9 35 = (v 35) → v9 36 = (v 36) → v9 38 = (v 38) → v9 39 = (v 39) → ((0 : Int) ≤ l2_9.toInt ∧ l2_9.toInt ≤ 2147483647) → KV [] v9 v → KF [7, 8, 24] f9 f → (2147483647 - l2_9.toInt).toNat < n9 → ∀ (H : Heap) (locs : List Loc) (ls : Array Slot), va_P (dC, dI) vwCl (YW cy y0 r v9 f9 w9 g9) H → va_D A (YW cy y0 r v9 f9 w9 g9) → va_S A s.heap H locs → lv_has ls 3 [(2, .int l2_9), (0, .ref y0), (1, .int p1)] → W p l e { frames := 8, cells := 0, slots := 0, locals := 214 } s m ([.ref y0, .int p1] : List Value).toArray below meth c H locs 0 0 Q (F0 m 16 ls []) := by
      intro n9
      induction n9 with
      | zero => intro l2_9 v9 f9 w9 g9 hIv9 hCf9 hRf9 hq0_v9 hq1_v9 hq2_v9 hq3_v9 hq4_v9 hq5_v9 hq8_v9 hq9_v9 hq10_v9 hq13_v9 hq14_v9 hq15_v9 hq17_v9 hq18_v9 hq24_v9 hq25_v9 hq35_v9 hq36_v9 hq38_v9 hq39_v9 hr2_9 hM_v9 hA_f9 hm; exact absurd hm (Nat.not_lt_zero _)
      | succ n9 ih9 =>
        intro l2_9 v9 f9 w9 g9 hIv9 hCf9 hRf9 hq0_v9 hq1_v9 hq2_v9 hq3_v9 hq4_v9 hq5_v9 hq8_v9 hq9_v9 hq10_v9 hq13_v9 hq14_v9 hq15_v9 hq17_v9 hq18_v9 hq24_v9 hq25_v9 hq35_v9 hq36_v9 hq38_v9 hq39_v9 hr2_9 hM_v9 hA_f9 hm9 H locs ls hP hD hS hl
        have hUv9 : (v9 35).toInt + (v9 36).toInt ≤ 40 := hIv9.2
        have zq9_v9 := congrArg Int32.toInt hq9_v9
        refine lv_iload_n hx hb dX11_out_16 rfl (lv_at hl 0 rfl) ?_
        refine lv_bipush (v := 60) hx hb dX11_out_17 (by decide) ?_
        refine lv_icmp_gt (tgt := 48) hx hb dX11_out_19 (by decide) (fun c10 => ?_) (fun c10 => ?_)
        · skip
          have zc10 : 60 < l2_9.toInt := by rw [fa_lt, show (60 : Int32).toInt = 60 from by decide] at c10; exact c10
          refine lv_iconst (v := (-1)) hx hb dX11_out_48 (by decide) ?_
          exact ret (-1) (v9, f9, w9, g9) _ _ _ _ _ _ rfl ⟨hM_v9, hA_f9, hIv9, hCf9, hRf9, hq0_v9, hq1_v9, hq2_v9, hq3_v9, hq4_v9, hq5_v9, hq8_v9, hq9_v9, hq10_v9, hq13_v9, hq14_v9, hq15_v9, hq17_v9, hq18_v9, hq24_v9, hq25_v9, hq35_v9, hq36_v9, hq38_v9, hq39_v9⟩ hP hD hS dX11_out_49 (Nat.le_refl _) (Nat.le_refl _)
        · skip
          have zc10 : ¬ (60 < l2_9.toInt) := by rw [fa_lt, show (60 : Int32).toInt = 60 from by decide] at c10; exact c10
          refine lv_aload_n hx hb dX11_out_22 rfl (lv_at hl 1 rfl) ?_
          refine va_get (D := (dC, dI)) (ci := 11) (v := .ref (r 60)) (C := RX11) (T := TX11) (N := 79) hx hb hts inB_11 hown hE.1 hP 0 rfl rfl 60 (by decide) (hts _ k_1380) (fun _ h9 => h9) rfl dX11_out_23 ?_
          refine lv_bipush (v := 6) hx hb dX11_out_26 (by decide) ?_
          refine lv_iload_n hx hb dX11_out_28 rfl (lv_at hl 2 rfl) ?_
          refine lv_iadd hx hb dX11_out_29 ?_
          refine lv_topi (fun t11 et11 => ?_)
          have rg12 := fb_rng p1
          have zt11 : t11.toInt = 6 + p1.toInt := by rw [et11]; exact add_i (by decide) rfl (by omega) (by omega)
          refine ldI hx hb hE hP 25 rfl (vp_in_iff.mpr ⟨by omega, by omega⟩) rfl rfl dX11_out_30 ?_
          refine lv_topi (fun t13 et13 => ?_)
          have zt13 : t11.toInt.toNat % 39 < 6 ∨ 12 ≤ t11.toInt.toNat % 39 ∨ (-1 ≤ t13.toInt ∧ t13.toInt ≤ 5) := by rw [et13]; exact wear_ld hCf9.2.1 (show t11.toInt.toNat < 39 by omega)
          refine lv_if_ge (tgt := 36) hx hb dX11_out_31 (by decide) (fun c14 => ?_) (fun c14 => ?_)
          · skip
            have zc14 : 0 ≤ t13.toInt := by rw [fa_le, show (0 : Int32).toInt = 0 from by decide] at c14; exact c14
            refine lv_aload_n hx hb dX11_out_36 rfl (lv_at hl 1 rfl) ?_
            refine lv_iconst (v := 0) hx hb dX11_out_37 (by decide) ?_
            refine cbVi (n := 1) (rest := []) hx hb hml hown hts hE hP hD hS hA (sY_X11_goDay_1 0 l dC dI cy y0 r 0 v9 f9 w9 g9 hIv9 hCf9 hRf9 ) k_1795 k_1797 k_79 k_114 k_1798 (by decide +kernel) ⟨Nat.le_of_ble_eq_true rfl, Nat.le_of_ble_eq_true rfl⟩ 0 11 rfl rfl (rfl) hl.1 rfl (Nat.le_of_ble_eq_true rfl) dX11_out_38 (fun r15 u H locs hw hP hD hS => ?_)
            obtain ⟨hG16, hw⟩ := hw
            obtain ⟨v17, f18, w19, g20⟩ := u
            obtain ⟨kV_v17, kF_f18, hIv17, hCf18, hRf18, hk0_v17, hk1_v17, hk2_v17, hk3_v17, hk4_v17, hk5_v17, hk8_v17, hk9_v17, hk10_v17, hk13_v17, hk14_v17, hk15_v17, hk17_v17, hk18_v17, hk24_v17, hk25_v17, hk35_v17, hk36_v17, hk38_v17, hk39_v17⟩ := hw
            have hM_v17 : KV [] v17 v := KV.tr kV_v17 hM_v9 rfl
            have hA_f18 : KF [7, 8, 24] f18 f := KF.tr kF_f18 hA_f9 rfl
            have hP : va_P (dC, dI) vwCl (YW cy y0 r v17 f18 w19 g20) H := hP
            have hD : va_D A (YW cy y0 r v17 f18 w19 g20) := hD
            have hUv17 : (v17 35).toInt + (v17 36).toInt ≤ 40 := hIv17.2
            have hq0_v17 : v17 0 = (v 0) := hk0_v17.trans hq0_v9
            have hq1_v17 : v17 1 = (v 1) := hk1_v17.trans hq1_v9
            have hq2_v17 : v17 2 = (v 2) := hk2_v17.trans hq2_v9
            have hq3_v17 : v17 3 = (v 3) := hk3_v17.trans hq3_v9
            have hq4_v17 : v17 4 = (v 4) := hk4_v17.trans hq4_v9
            have hq5_v17 : v17 5 = (v 5) := hk5_v17.trans hq5_v9
            have hq8_v17 : v17 8 = (v 8) := hk8_v17.trans hq8_v9
            have hq9_v17 : v17 9 = (v 9) := hk9_v17.trans hq9_v9
            have zq9_v17 := congrArg Int32.toInt hq9_v17
            have hq10_v17 : v17 10 = (v 10) := hk10_v17.trans hq10_v9
            have hq13_v17 : v17 13 = (v 13) := hk13_v17.trans hq13_v9
            have hq14_v17 : v17 14 = (v 14) := hk14_v17.trans hq14_v9
            have hq15_v17 : v17 15 = (v 15) := hk15_v17.trans hq15_v9
            have hq17_v17 : v17 17 = (v 17) := hk17_v17.trans hq17_v9
            have hq18_v17 : v17 18 = (v 18) := hk18_v17.trans hq18_v9
            have hq24_v17 : v17 24 = (v 24) := hk24_v17.trans hq24_v9
            have hq25_v17 : v17 25 = (v 25) := hk25_v17.trans hq25_v9
            have hq35_v17 : v17 35 = (v 35) := hk35_v17.trans hq35_v9
            have hq36_v17 : v17 36 = (v 36) := hk36_v17.trans hq36_v9
            have hq38_v17 : v17 38 = (v 38) := hk38_v17.trans hq38_v9
            have hq39_v17 : v17 39 = (v 39) := hk39_v17.trans hq39_v9
            refine lv_pop hx hb dX11_out_41 rfl ?_
            obtain ⟨t21, et21⟩ : ∃ y : Int32, y = l2_9 + 1 := ⟨_, rfl⟩
            have rg22 := fb_rng l2_9
            have zt21 : t21.toInt = l2_9.toInt + 1 := by rw [et21]; exact add_i rfl (by decide) (by omega) (by omega)
            refine lv_iinc (v := t21) (lv' := [(2, .int t21), (0, .ref y0), (1, .int p1)]) hx hb dX11_out_42 hl (k := 0) rfl (by rw [et21]; rfl) (by decide) rfl (fun ls hl => ?_)
            refine lv_goto (tgt := 16) hx hb dX11_out_45 (by decide) ?_
            have rg23 := fb_rng t21
            exact ih9 t21 v17 f18 w19 g20 hIv17 hCf18 hRf18 hq0_v17 hq1_v17 hq2_v17 hq3_v17 hq4_v17 hq5_v17 hq8_v17 hq9_v17 hq10_v17 hq13_v17 hq14_v17 hq15_v17 hq17_v17 hq18_v17 hq24_v17 hq25_v17 hq35_v17 hq36_v17 hq38_v17 hq39_v17 ⟨show (0 : Int) ≤ t21.toInt by omega, show t21.toInt ≤ (2147483647 : Int) by omega⟩ hM_v17 hA_f18 (by show (2147483647 - t21.toInt).toNat < n9; omega) _ _ _ hP hD hS (lv_sub hl [0, 1, 2] rfl)
          · skip
            have zc14 : ¬ (0 ≤ t13.toInt) := by rw [fa_le, show (0 : Int32).toInt = 0 from by decide] at c14; exact c14
            refine lv_iload_n hx hb dX11_out_34 rfl (lv_at hl 0 rfl) ?_
            exact ret l2_9 (v9, f9, w9, g9) _ _ _ _ _ _ rfl ⟨hM_v9, hA_f9, hIv9, hCf9, hRf9, hq0_v9, hq1_v9, hq2_v9, hq3_v9, hq4_v9, hq5_v9, hq8_v9, hq9_v9, hq10_v9, hq13_v9, hq14_v9, hq15_v9, hq17_v9, hq18_v9, hq24_v9, hq25_v9, hq35_v9, hq36_v9, hq38_v9, hq39_v9⟩ hP hD hS dX11_out_35 (Nat.le_refl _) (Nat.le_refl _)
    exact lp9 _ 0 v5 f6 w7 g8 hIv5 hCf6 hRf6 hq0_v5 hq1_v5 hq2_v5 hq3_v5 hq4_v5 hq5_v5 hq8_v5 hq9_v5 hq10_v5 hq13_v5 hq14_v5 hq15_v5 hq17_v5 hq18_v5 hq24_v5 hq25_v5 hq35_v5 hq36_v5 hq38_v5 hq39_v5 ⟨by decide, by decide⟩ hM_v5 hA_f6 (Nat.lt_succ_self _) _ _ _ hP hD hS (lv_sub hl [0, 1, 2] rfl)
  · skip
    subst g3
    refine lv_if_ne (tgt := 10) hx hb dX11_out_5 (by decide) (fun c0 => absurd (by decide) c0) (fun _ => ?_)
    refine lv_iconst (v := (-1)) hx hb dX11_out_8 (by decide) ?_
    exact ret (-1) (v, f, w, g) _ _ _ _ _ _ rfl ⟨hM_v, hA_f, hIv, hCf, hRf, rfl, rfl, rfl, rfl, rfl, rfl, rfl, rfl, rfl, rfl, rfl, rfl, rfl, rfl, rfl, rfl, rfl, rfl, rfl, rfl⟩ hP hD hS dX11_out_9 (Nat.le_refl _) (Nat.le_refl _)
set_option maxHeartbeats 4000000 in
set_option maxRecDepth 100000 in
theorem sY_X11_fitted_1 (l : Launch) (dC : Nat → ClassId) (dI : Nat → Nat → Nat) (cy : Nat → ClassId) (y0 : Nat) (r : Nat → Nat)  (v : Nat → Int32) (f : Nat → Nat → Int32) (w : Int64) (g : Nat → Int64) (hIv : YI v) (hCf : YC f) (hRf : progOK (f 4) (f 5) (v 9).toInt.toNat)  : ctI l (dC, dI) cy yX11_fitted cX11_fitted 1 .int 7 191 0 0 ((Nat → Int32) × (Nat → Nat → Int32) × (Int64) × (Nat → Int64)) [.ref y0] (YW cy y0 r v f w g) (fun r u => KV [] u.1 v ∧ KF [7, 8, 24] u.2.1 f ∧ YI u.1 ∧ YC u.2.1 ∧ progOK (u.2.1 4) (u.2.1 5) (u.1 9).toInt.toNat ∧ u.1 0 = v 0 ∧ u.1 1 = v 1 ∧ u.1 2 = v 2 ∧ u.1 3 = v 3 ∧ u.1 4 = v 4 ∧ u.1 5 = v 5 ∧ u.1 8 = v 8 ∧ u.1 9 = v 9 ∧ u.1 10 = v 10 ∧ u.1 13 = v 13 ∧ u.1 14 = v 14 ∧ u.1 15 = v 15 ∧ u.1 17 = v 17 ∧ u.1 18 = v 18 ∧ u.1 24 = v 24 ∧ u.1 25 = v 25 ∧ u.1 35 = v 35 ∧ u.1 36 = v 36 ∧ u.1 38 = v 38 ∧ u.1 39 = v 39) (fun u => YW cy y0 r u.1 u.2.1 u.2.2.1 u.2.2.2) := by
  refine ctI_of (by decide) (Nat.le_of_ble_eq_true rfl) (fun p e s m below meth c A ls Q hx hb hml hts hown hE hP hD hA hl ret => ?_)
  have hUv : (v 35).toInt + (v 36).toInt ≤ 40 := hIv.2
  have hM_v : KV [] v v := fun _ _ => rfl
  have hA_f : KF [7, 8, 24] f f := fun _ _ => rfl
  have hown : s.vm.findClass RX11 = some m.cls := hown
  have hS : va_S A s.heap s.heap [] := va_S.rf
  have hl : lv_has ls 1 [(0, .ref y0)] := hl
  refine lv_aload_n hx hb dX11_fitted_0 rfl (lv_at hl 0 rfl) ?_
  refine cbVv (n := 0) (rest := []) hx hb hml hown hts hE hP hD hS hA (sY_X11_fill_1 0 l dC dI cy y0 r  v f w g hIv hCf hRf ) k_1739 k_1741 k_71 k_114 k_1742 (by decide +kernel) ⟨Nat.le_of_ble_eq_true rfl, Nat.le_of_ble_eq_true rfl⟩ 0 11 rfl rfl (rfl) hl.1 rfl (Nat.le_of_ble_eq_true rfl) dX11_fitted_1 (fun u H locs hw hP hD hS => ?_)
  obtain ⟨hG1, hw⟩ := hw
  obtain ⟨v2, f3, w4, g5⟩ := u
  obtain ⟨kV_v2, kF_f3, hIv2, hCf3, hRf3, hk0_v2, hk1_v2, hk2_v2, hk3_v2, hk4_v2, hk5_v2, hk8_v2, hk9_v2, hk10_v2, hk13_v2, hk14_v2, hk15_v2, hk17_v2, hk18_v2, hk24_v2, hk25_v2, hk35_v2, hk36_v2, hk38_v2, hk39_v2⟩ := hw
  have hM_v2 : KV [] v2 v := KV.tr kV_v2 hM_v rfl
  have hA_f3 : KF [7, 8, 24] f3 f := KF.tr kF_f3 hA_f rfl
  have hP : va_P (dC, dI) vwCl (YW cy y0 r v2 f3 w4 g5) H := hP
  have hD : va_D A (YW cy y0 r v2 f3 w4 g5) := hD
  have hUv2 : (v2 35).toInt + (v2 36).toInt ≤ 40 := hIv2.2
  have hq9_v2 : v2 9 = (v 9) := hk9_v2
  have zq9_v2 := congrArg Int32.toInt hq9_v2
  refine lv_aload_n hx hb dX11_fitted_4 rfl (lv_at hl 0 rfl) ?_
  refine cbVi (n := 0) (rest := []) hx hb hml hown hts hE hP hD hS hA (sY_X11_fittedOnes_1 0 l dC dI cy y0 r  v2 f3 w4 g5 hIv2 hCf3 hRf3 ) k_1809 k_1811 k_81 k_114 k_1812 (by decide +kernel) ⟨Nat.le_of_ble_eq_true rfl, Nat.le_of_ble_eq_true rfl⟩ 0 11 rfl rfl (rfl) hl.1 rfl (Nat.le_of_ble_eq_true rfl) dX11_fitted_5 (fun r6 u H locs hw hP hD hS => ?_)
  obtain ⟨hG7, hw⟩ := hw
  obtain ⟨v8, f9, w10, g11⟩ := u
  obtain ⟨kV_v8, kF_f9, hIv8, hCf9, hRf9, hk0_v8, hk1_v8, hk2_v8, hk3_v8, hk4_v8, hk5_v8, hk8_v8, hk9_v8, hk10_v8, hk13_v8, hk14_v8, hk15_v8, hk17_v8, hk18_v8, hk24_v8, hk25_v8, hk35_v8, hk36_v8, hk38_v8, hk39_v8⟩ := hw
  have hM_v8 : KV [] v8 v := KV.tr kV_v8 hM_v2 rfl
  have hA_f9 : KF [7, 8, 24] f9 f := KF.tr kF_f9 hA_f3 rfl
  have hP : va_P (dC, dI) vwCl (YW cy y0 r v8 f9 w10 g11) H := hP
  have hD : va_D A (YW cy y0 r v8 f9 w10 g11) := hD
  have hUv8 : (v8 35).toInt + (v8 36).toInt ≤ 40 := hIv8.2
  have hq9_v8 : v8 9 = (v 9) := hk9_v8.trans hq9_v2
  have zq9_v8 := congrArg Int32.toInt hq9_v8
  exact ret r6 (v8, f9, w10, g11) _ _ _ _ _ _ rfl ⟨hM_v8, hA_f9, hIv8, hCf9, hRf9, (hk0_v8.trans hk0_v2), (hk1_v8.trans hk1_v2), (hk2_v8.trans hk2_v2), (hk3_v8.trans hk3_v2), (hk4_v8.trans hk4_v2), (hk5_v8.trans hk5_v2), (hk8_v8.trans hk8_v2), (hk9_v8.trans hk9_v2), (hk10_v8.trans hk10_v2), (hk13_v8.trans hk13_v2), (hk14_v8.trans hk14_v2), (hk15_v8.trans hk15_v2), (hk17_v8.trans hk17_v2), (hk18_v8.trans hk18_v2), (hk24_v8.trans hk24_v2), (hk25_v8.trans hk25_v2), (hk35_v8.trans hk35_v2), (hk36_v8.trans hk36_v2), (hk38_v8.trans hk38_v2), (hk39_v8.trans hk39_v2)⟩ hP hD hS dX11_fitted_8 (Nat.le_refl _) (Nat.le_refl _)
