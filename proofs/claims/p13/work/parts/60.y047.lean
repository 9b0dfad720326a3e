set_option maxHeartbeats 4000000 in
set_option maxRecDepth 100000 in
theorem sY_X11_ownIll_1 (l : Launch) (dC : Nat → ClassId) (dI : Nat → Nat → Nat) (cy : Nat → ClassId) (y0 : Nat) (r : Nat → Nat) (p1 : Int32) (v : Nat → Int32) (f : Nat → Nat → Int32) (w : Int64) (g : Nat → Int64) (hIv : YI v) (hCf : YC f) (hRf : progOK (f 4) (f 5) (v 9).toInt.toNat) (hp1 : (0 : Int) ≤ p1.toInt ∧ p1.toInt ≤ 5) : ctI l (dC, dI) cy yX11_ownIll cX11_ownIll 2 .int 4 126 0 0 ((Nat → Int32) × (Nat → Nat → Int32) × (Int64) × (Nat → Int64)) [.ref y0, .int p1] (YW cy y0 r v f w g) (fun r u => KV [] u.1 v ∧ KF [7, 8] u.2.1 f ∧ YI u.1 ∧ YC u.2.1 ∧ progOK (u.2.1 4) (u.2.1 5) (u.1 9).toInt.toNat ∧ u.1 0 = v 0 ∧ u.1 1 = v 1 ∧ u.1 2 = v 2 ∧ u.1 3 = v 3 ∧ u.1 4 = v 4 ∧ u.1 5 = v 5 ∧ u.1 8 = v 8 ∧ u.1 9 = v 9 ∧ u.1 10 = v 10 ∧ u.1 13 = v 13 ∧ u.1 14 = v 14 ∧ u.1 15 = v 15 ∧ u.1 17 = v 17 ∧ u.1 18 = v 18 ∧ u.1 24 = v 24 ∧ u.1 25 = v 25 ∧ u.1 35 = v 35 ∧ u.1 36 = v 36 ∧ u.1 38 = v 38 ∧ u.1 39 = v 39) (fun u => YW cy y0 r u.1 u.2.1 u.2.2.1 u.2.2.2) := by
  refine ctI_of (by decide) (Nat.le_of_ble_eq_true rfl) (fun p e s m below meth c A ls Q hx hb hml hts hown hE hP hD hA hl ret => ?_)
  have hUv : (v 35).toInt + (v 36).toInt ≤ 40 := hIv.2
  have hM_v : KV [] v v := fun _ _ => rfl
  have hA_f : KF [7, 8] f f := fun _ _ => rfl
  have hown : s.vm.findClass RX11 = some m.cls := hown
  have hS : va_S A s.heap s.heap [] := va_S.rf
  have hl : lv_has ls 2 [(0, .ref y0), (1, .int p1)] := hl
  refine lv_aload_n hx hb dX11_ownIll_0 rfl (lv_at hl 0 rfl) ?_
  refine va_get (D := (dC, dI)) (ci := 11) (v := .ref (r 60)) (C := RX11) (T := TX11) (N := 79) hx hb hts inB_11 hown hE.1 hP 0 rfl rfl 60 (by decide) (hts _ k_1380) (fun _ h9 => h9) rfl dX11_ownIll_1 ?_
  refine lv_bipush (v := 6) hx hb dX11_ownIll_4 (by decide) ?_
  refine lv_iload_n hx hb dX11_ownIll_6 rfl (lv_at hl 1 rfl) ?_
  refine lv_iadd hx hb dX11_ownIll_7 ?_
  refine lv_topi (fun t1 et1 => ?_)
  have rg2 := fb_rng p1
  have zt1 : t1.toInt = 6 + p1.toInt := by rw [et1]; exact add_i (by decide) rfl (by omega) (by omega)
  refine ldI hx hb hE hP 25 rfl (vp_in_iff.mpr ⟨by omega, by omega⟩) rfl rfl dX11_ownIll_8 ?_
  refine lv_topi (fun t3 et3 => ?_)
  have zt3 : t1.toInt.toNat % 39 < 6 ∨ 12 ≤ t1.toInt.toNat % 39 ∨ (-1 ≤ t3.toInt ∧ t3.toInt ≤ 5) := by rw [et3]; exact wear_ld hCf.2.1 (show t1.toInt.toNat < 39 by omega)
  refine lv_if_ge (tgt := 16) hx hb dX11_ownIll_9 (by decide) (fun c4 => ?_) (fun c4 => ?_)
  · skip
    have zc4 : 0 ≤ t3.toInt := by rw [fa_le, show (0 : Int32).toInt = 0 from by decide] at c4; exact c4
    refine lv_aload_n hx hb dX11_ownIll_16 rfl (lv_at hl 0 rfl) ?_
    refine lv_iload_n hx hb dX11_ownIll_17 rfl (lv_at hl 1 rfl) ?_
    refine lv_aload_n hx hb dX11_ownIll_18 rfl (lv_at hl 0 rfl) ?_
    refine va_get (D := (dC, dI)) (ci := 11) (v := .ref (r 60)) (C := RX11) (T := TX11) (N := 79) hx hb hts inB_11 hown hE.1 hP 0 rfl rfl 60 (by decide) (hts _ k_1380) (fun _ h9 => h9) rfl dX11_ownIll_19 ?_
    refine lv_bipush (v := 6) hx hb dX11_ownIll_22 (by decide) ?_
    refine lv_iload_n hx hb dX11_ownIll_24 rfl (lv_at hl 1 rfl) ?_
    refine lv_iadd hx hb dX11_ownIll_25 ?_
    refine tI (y := t1) et1.symm ?_
    refine ldI hx hb hE hP 25 rfl (vp_in_iff.mpr ⟨by omega, by omega⟩) rfl rfl dX11_ownIll_26 ?_
    refine tI (y := t3) et3.symm ?_
    refine cbVi (n := 2) (rest := []) hx hb hml hown hts hE hP hD hS hA (sY_X11_misfitOf_1 0 l dC dI cy y0 r p1 t3 v f w g hIv hCf hRf ⟨show (0 : Int) ≤ p1.toInt by omega, show p1.toInt ≤ (5 : Int) by omega⟩ ⟨show (0 : Int) ≤ t3.toInt by omega, show t3.toInt ≤ (5 : Int) by omega⟩) k_1751 k_1753 k_74 k_114 k_1754 (by decide +kernel) ⟨Nat.le_of_ble_eq_true rfl, Nat.le_of_ble_eq_true rfl⟩ 0 11 rfl rfl (rfl) hl.1 rfl (Nat.le_of_ble_eq_true rfl) dX11_ownIll_27 (fun r5 u H locs hw hP hD hS => ?_)
    obtain ⟨hG6, hw⟩ := hw
    obtain ⟨v7, f8, w9, g10⟩ := u
    obtain ⟨kV_v7, kF_f8, hIv7, hCf8, hRf8, hk0_v7, hk1_v7, hk2_v7, hk3_v7, hk4_v7, hk5_v7, hk8_v7, hk9_v7, hk10_v7, hk13_v7, hk14_v7, hk15_v7, hk17_v7, hk18_v7, hk24_v7, hk25_v7, hk35_v7, hk36_v7, hk38_v7, hk39_v7⟩ := hw
    have hM_v7 : KV [] v7 v := KV.tr kV_v7 hM_v rfl
    have hA_f8 : KF [7, 8] f8 f := KF.tr kF_f8 hA_f rfl
    have hP : va_P (dC, dI) vwCl (YW cy y0 r v7 f8 w9 g10) H := hP
    have hD : va_D A (YW cy y0 r v7 f8 w9 g10) := hD
    have hUv7 : (v7 35).toInt + (v7 36).toInt ≤ 40 := hIv7.2
    have hq9_v7 : v7 9 = (v 9) := hk9_v7
    have zq9_v7 := congrArg Int32.toInt hq9_v7
    exact ret r5 (v7, f8, w9, g10) _ _ _ _ _ _ rfl ⟨hM_v7, hA_f8, hIv7, hCf8, hRf8, hk0_v7, hk1_v7, hk2_v7, hk3_v7, hk4_v7, hk5_v7, hk8_v7, hk9_v7, hk10_v7, hk13_v7, hk14_v7, hk15_v7, hk17_v7, hk18_v7, hk24_v7, hk25_v7, hk35_v7, hk36_v7, hk38_v7, hk39_v7⟩ hP hD hS dX11_ownIll_30 (Nat.le_refl _) (Nat.le_refl _)
  · skip
    have zc4 : ¬ (0 ≤ t3.toInt) := by rw [fa_le, show (0 : Int32).toInt = 0 from by decide] at c4; exact c4
    refine lv_iconst (v := (-1)) hx hb dX11_ownIll_12 (by decide) ?_
    refine lv_goto (tgt := 30) hx hb dX11_ownIll_13 (by decide) ?_
    exact ret (-1) (v, f, w, g) _ _ _ _ _ _ rfl ⟨hM_v, hA_f, hIv, hCf, hRf, rfl, rfl, rfl, rfl, rfl, rfl, rfl, rfl, rfl, rfl, rfl, rfl, rfl, rfl, rfl, rfl, rfl, rfl, rfl, rfl⟩ hP hD hS dX11_ownIll_30 (Nat.le_refl _) (Nat.le_refl _)
set_option maxHeartbeats 4000000 in
set_option maxRecDepth 100000 in
theorem sY_X11_law_1 (l : Launch) (dC : Nat → ClassId) (dI : Nat → Nat → Nat) (cy : Nat → ClassId) (y0 : Nat) (r : Nat → Nat) (p1 : Int32) (v : Nat → Int32) (f : Nat → Nat → Int32) (w : Int64) (g : Nat → Int64) (hIv : YI v) (hCf : YC f) (hRf : progOK (f 4) (f 5) (v 9).toInt.toNat)  : ctI l (dC, dI) cy yX11_law cX11_law 4 .int 5 147 0 0 ((Nat → Int32) × (Nat → Nat → Int32) × (Int64) × (Nat → Int64)) [.ref y0, .int p1] (YW cy y0 r v f w g) (fun r u => KV [] u.1 v ∧ KF [7, 8, 24] u.2.1 f ∧ YI u.1 ∧ YC u.2.1 ∧ progOK (u.2.1 4) (u.2.1 5) (u.1 9).toInt.toNat ∧ u.1 0 = v 0 ∧ u.1 1 = v 1 ∧ u.1 2 = v 2 ∧ u.1 3 = v 3 ∧ u.1 4 = v 4 ∧ u.1 5 = v 5 ∧ u.1 8 = v 8 ∧ u.1 9 = v 9 ∧ u.1 10 = v 10 ∧ u.1 13 = v 13 ∧ u.1 14 = v 14 ∧ u.1 15 = v 15 ∧ u.1 17 = v 17 ∧ u.1 18 = v 18 ∧ u.1 24 = v 24 ∧ u.1 25 = v 25 ∧ u.1 35 = v 35 ∧ u.1 36 = v 36 ∧ u.1 38 = v 38 ∧ u.1 39 = v 39) (fun u => YW cy y0 r u.1 u.2.1 u.2.2.1 u.2.2.2) := by
  refine ctI_of (by decide) (Nat.le_of_ble_eq_true rfl) (fun p e s m below meth c A ls Q hx hb hml hts hown hE hP hD hA hl ret => ?_)
  have hUv : (v 35).toInt + (v 36).toInt ≤ 40 := hIv.2
  have hM_v : KV [] v v := fun _ _ => rfl
  have hA_f : KF [7, 8, 24] f f := fun _ _ => rfl
  have hown : s.vm.findClass RX11 = some m.cls := hown
  have hS : va_S A s.heap s.heap [] := va_S.rf
  have hl : lv_has ls 4 [(0, .ref y0), (1, .int p1)] := hl
  refine lv_iload_n hx hb dX11_law_0 rfl (lv_at hl 1 rfl) ?_
  refine lv_iconst (v := 0) hx hb dX11_law_1 (by decide) ?_
  refine lv_sipush (v := 999) hx hb dX11_law_2 (by decide) ?_
  have lt1 : (0 : Int32).toInt = 0 := by decide
  have lt2 : (999 : Int32).toInt = 999 := by decide
  refine cbSi (n := 3) (rest := []) hx hb hml hown hts hE hP hD hS hA (sY_X11_isIn_1 0 l dC dI cy y0 r p1 0 999 v f w g hIv hCf hRf ) k_1736 k_1737 k_114 k_1738 (by decide +kernel) ⟨Nat.le_of_ble_eq_true rfl, Nat.le_of_ble_eq_true rfl⟩ (rfl) hl.1 rfl (Nat.le_of_ble_eq_true rfl) dX11_law_5 (fun r3 u H locs hw hP hD hS => ?_)
  obtain ⟨hG4, hw⟩ := hw
  rcases hw with ⟨g5, g5_0, g5_1⟩ | ⟨g5⟩
  · skip
    subst g5
    refine lv_if_ne (tgt := 13) hx hb dX11_law_8 (by decide) (fun _ => ?_) (fun c0 => absurd c0 (by decide))
    refine lv_aload_n hx hb dX11_law_13 rfl (lv_at hl 0 rfl) ?_
    refine cbVv (n := 0) (rest := []) hx hb hml hown hts hE hP hD hS hA (sY_X11_fill_1 0 l dC dI cy y0 r  v f w g hIv hCf hRf ) k_1739 k_1741 k_71 k_114 k_1742 (by decide +kernel) ⟨Nat.le_of_ble_eq_true rfl, Nat.le_of_ble_eq_true rfl⟩ 0 11 rfl rfl (rfl) hl.1 rfl (Nat.le_of_ble_eq_true rfl) dX11_law_14 (fun u H locs hw hP hD hS => ?_)
    obtain ⟨hG6, hw⟩ := hw
    obtain ⟨v7, f8, w9, g10⟩ := u
    obtain ⟨kV_v7, kF_f8, hIv7, hCf8, hRf8, hk0_v7, hk1_v7, hk2_v7, hk3_v7, hk4_v7, hk5_v7, hk8_v7, hk9_v7, hk10_v7, hk13_v7, hk14_v7, hk15_v7, hk17_v7, hk18_v7, hk24_v7, hk25_v7, hk35_v7, hk36_v7, hk38_v7, hk39_v7⟩ := hw
    have hM_v7 : KV [] v7 v := KV.tr kV_v7 hM_v rfl
    have hA_f8 : KF [7, 8, 24] f8 f := KF.tr kF_f8 hA_f rfl
    have hP : va_P (dC, dI) vwCl (YW cy y0 r v7 f8 w9 g10) H := hP
    have hD : va_D A (YW cy y0 r v7 f8 w9 g10) := hD
    have hUv7 : (v7 35).toInt + (v7 36).toInt ≤ 40 := hIv7.2
    have hq0_v7 : v7 0 = (v 0) := hk0_v7
    have hq1_v7 : v7 1 = (v 1) := hk1_v7
    have hq2_v7 : v7 2 = (v 2) := hk2_v7
    have hq3_v7 : v7 3 = (v 3) := hk3_v7
    have hq4_v7 : v7 4 = (v 4) := hk4_v7
    have hq5_v7 : v7 5 = (v 5) := hk5_v7
    have hq8_v7 : v7 8 = (v 8) := hk8_v7
    have hq9_v7 : v7 9 = (v 9) := hk9_v7
    have zq9_v7 := congrArg Int32.toInt hq9_v7
    have hq10_v7 : v7 10 = (v 10) := hk10_v7
    have hq13_v7 : v7 13 = (v 13) := hk13_v7
    have hq14_v7 : v7 14 = (v 14) := hk14_v7
    have hq15_v7 : v7 15 = (v 15) := hk15_v7
    have hq17_v7 : v7 17 = (v 17) := hk17_v7
    have hq18_v7 : v7 18 = (v 18) := hk18_v7
    have hq24_v7 : v7 24 = (v 24) := hk24_v7
    have hq25_v7 : v7 25 = (v 25) := hk25_v7
    have hq35_v7 : v7 35 = (v 35) := hk35_v7
    have hq36_v7 : v7 36 = (v 36) := hk36_v7
    have hq38_v7 : v7 38 = (v 38) := hk38_v7
    have hq39_v7 : v7 39 = (v 39) := hk39_v7
    refine lv_iconst (v := 0) hx hb dX11_law_17 (by decide) ?_
    refine lv_istore_n (lv' := [(2, .int 0), (0, .ref y0), (1, .int p1)]) hx hb dX11_law_18 rfl hl (by decide) rfl (fun ls hl => ?_)
    refine lv_iconst (v := 0) hx hb dX11_law_19 (by decide) ?_
    refine lv_istore_n (lv' := [(3, .int 0), (2, .int 0), (0, .ref y0), (1, .int p1)]) hx hb dX11_law_20 rfl hl (by decide) rfl (fun ls hl => ?_)
    have lp11 : ∀ (n11 : Nat) (l2_11 : Int32) (l3_11 : Int32) (v11 : Nat → Int32) (f11 : Nat → Nat → Int32) (w11 : Int64) (g11 : Nat → Int64), YI v11 → YC f11 → progOK (f11 4) (f11 5) (v11 9).toInt.toNat → v11 0 = (v 0) → v11 1 = (v 1) → v11 2 = (v 2) → v11 3 = (v 3) → v11 4 = (v 4) → v11 5 = (v 5) → v11 8 = (v 8) → v11 9 = (v 9) → v11 10 = (v 10) → v11 13 = (v 13) → v11 14 = (v 14) → v11 15 = (v 15) → v11 17 = (v 17) → v11 18 = (v 18) → v11 24 = (v 24) → v11 25 = (v 25) → v11 35 = (v 35) → v11 36 = (v 36) → v11 38 = (v 38) → v11 39 = (v 39) → ((0 : Int) ≤ l3_11.toInt ∧ l3_11.toInt ≤ 2147483647) → KV [] v11 v → KF [7, 8, 24] f11 f → (2147483647 - l3_11.toInt).toNat < n11 → ∀ (H : Heap) (locs : List Loc) (ls : Array Slot), va_P (dC, dI) vwCl (YW cy y0 r v11 f11 w11 g11) H → va_D A (YW cy y0 r v11 f11 w11 g11) → va_S A s.heap H locs → lv_has ls 4 [(3, .int l3_11), (2, .int l2_11), (0, .ref y0), (1, .int p1)] → W p l e { frames := 5, cells := 0, slots := 0, locals := 147 } s m ([.ref y0, .int p1] : List Value).toArray below meth c H locs 0 0 Q (F0 m 21 ls []) := by
      intro n11
      induction n11 with
      | zero => intro l2_11 l3_11 v11 f11 w11 g11 hIv11 hCf11 hRf11 hq0_v11 hq1_v11 hq2_v11 hq3_v11 hq4_v11 hq5_v11 hq8_v11 hq9_v11 hq10_v11 hq13_v11 hq14_v11 hq15_v11 hq17_v11 hq18_v11 hq24_v11 hq25_v11 hq35_v11 hq36_v11 hq38_v11 hq39_v11 hr3_11 hM_v11 hA_f11 hm; exact absurd hm (Nat.not_lt_zero _)
      | succ n11 ih11 =>
        intro l2_11 l3_11 v11 f11 w11 g11 hIv11 hCf11 hRf11 hq0_v11 hq1_v11 hq2_v11 hq3_v11 hq4_v11 hq5_v11 hq8_v11 hq9_v11 hq10_v11 hq13_v11 hq14_v11 hq15_v11 hq17_v11 hq18_v11 hq24_v11 hq25_v11 hq35_v11 hq36_v11 hq38_v11 hq39_v11 hr3_11 hM_v11 hA_f11 hm11 H locs ls hP hD hS hl
        have hUv11 : (v11 35).toInt + (v11 36).toInt ≤ 40 := hIv11.2
        have zq9_v11 := congrArg Int32.toInt hq9_v11
        refine lv_iload_n hx hb dX11_law_21 rfl (lv_at hl 0 rfl) ?_
        refine lv_aload_n hx hb dX11_law_22 rfl (lv_at hl 2 rfl) ?_
        refine va_get (D := (dC, dI)) (ci := 11) (v := .int (v11 24)) (C := RX11) (T := TX11) (N := 79) hx hb hts inB_11 hown hE.1 hP 0 rfl rfl 48 (by decide) (hts _ k_1368) (fun _ h9 => h9) rfl dX11_law_23 ?_
        refine tI (y := (v 24)) hq24_v11 ?_
        have b24_v : 0 ≤ (v 24).toInt ∧ (v 24).toInt ≤ 6 := YIb.b hIv.1 24 (by decide)
        refine lv_icmp_ge (tgt := 63) hx hb dX11_law_26 (by decide) (fun c12 => ?_) (fun c12 => ?_)
        · skip
          have zc12 : (v 24).toInt ≤ l3_11.toInt := by rw [fa_le] at c12; exact c12
          have rg13 := fb_rng l3_11
          have rg14 := fb_rng (v 24)
          refine lv_iload_n hx hb dX11_law_63 rfl (lv_at hl 1 rfl) ?_
          exact ret l2_11 (v11, f11, w11, g11) _ _ _ _ _ _ rfl ⟨hM_v11, hA_f11, hIv11, hCf11, hRf11, hq0_v11, hq1_v11, hq2_v11, hq3_v11, hq4_v11, hq5_v11, hq8_v11, hq9_v11, hq10_v11, hq13_v11, hq14_v11, hq15_v11, hq17_v11, hq18_v11, hq24_v11, hq25_v11, hq35_v11, hq36_v11, hq38_v11, hq39_v11⟩ hP hD hS dX11_law_64 (Nat.le_refl _) (Nat.le_refl _)
        · skip
          have zc12 : ¬ ((v 24).toInt ≤ l3_11.toInt) := by rw [fa_le] at c12; exact c12
          have rg15 := fb_rng l3_11
          have rg16 := fb_rng (v 24)
          refine lv_iload_n hx hb dX11_law_29 rfl (lv_at hl 1 rfl) ?_
          refine lv_aload_n hx hb dX11_law_30 rfl (lv_at hl 2 rfl) ?_
          refine lv_iload_n hx hb dX11_law_31 rfl (lv_at hl 0 rfl) ?_
          refine cbVi (n := 1) (rest := [.int l2_11]) hx hb hml hown hts hE hP hD hS hA (sY_X11_ownIll_1 l dC dI cy y0 r l3_11 v11 f11 w11 g11 hIv11 hCf11 hRf11 ⟨show (0 : Int) ≤ l3_11.toInt by omega, show l3_11.toInt ≤ (5 : Int) by omega⟩) k_1984 k_1986 k_96 k_114 k_1987 (by decide +kernel) ⟨Nat.le_of_ble_eq_true rfl, Nat.le_of_ble_eq_true rfl⟩ 0 11 rfl rfl (rfl) hl.1 rfl (Nat.le_of_ble_eq_true rfl) dX11_law_32 (fun r17 u H locs hw hP hD hS => ?_)
          obtain ⟨v18, f19, w20, g21⟩ := u
          obtain ⟨kV_v18, kF_f19, hIv18, hCf19, hRf19, hk0_v18, hk1_v18, hk2_v18, hk3_v18, hk4_v18, hk5_v18, hk8_v18, hk9_v18, hk10_v18, hk13_v18, hk14_v18, hk15_v18, hk17_v18, hk18_v18, hk24_v18, hk25_v18, hk35_v18, hk36_v18, hk38_v18, hk39_v18⟩ := hw
          have hM_v18 : KV [] v18 v := KV.tr kV_v18 hM_v11 rfl
          have hA_f19 : KF [7, 8, 24] f19 f := KF.tr kF_f19 hA_f11 rfl
          have hP : va_P (dC, dI) vwCl (YW cy y0 r v18 f19 w20 g21) H := hP
          have hD : va_D A (YW cy y0 r v18 f19 w20 g21) := hD
          have hUv18 : (v18 35).toInt + (v18 36).toInt ≤ 40 := hIv18.2
          have hq0_v18 : v18 0 = (v 0) := hk0_v18.trans hq0_v11
          have hq1_v18 : v18 1 = (v 1) := hk1_v18.trans hq1_v11
          have hq2_v18 : v18 2 = (v 2) := hk2_v18.trans hq2_v11
          have hq3_v18 : v18 3 = (v 3) := hk3_v18.trans hq3_v11
          have hq4_v18 : v18 4 = (v 4) := hk4_v18.trans hq4_v11
          have hq5_v18 : v18 5 = (v 5) := hk5_v18.trans hq5_v11
          have hq8_v18 : v18 8 = (v 8) := hk8_v18.trans hq8_v11
          have hq9_v18 : v18 9 = (v 9) := hk9_v18.trans hq9_v11
          have zq9_v18 := congrArg Int32.toInt hq9_v18
          have hq10_v18 : v18 10 = (v 10) := hk10_v18.trans hq10_v11
          have hq13_v18 : v18 13 = (v 13) := hk13_v18.trans hq13_v11
          have hq14_v18 : v18 14 = (v 14) := hk14_v18.trans hq14_v11
          have hq15_v18 : v18 15 = (v 15) := hk15_v18.trans hq15_v11
          have hq17_v18 : v18 17 = (v 17) := hk17_v18.trans hq17_v11
          have hq18_v18 : v18 18 = (v 18) := hk18_v18.trans hq18_v11
          have hq24_v18 : v18 24 = (v 24) := hk24_v18.trans hq24_v11
          have hq25_v18 : v18 25 = (v 25) := hk25_v18.trans hq25_v11
          have hq35_v18 : v18 35 = (v 35) := hk35_v18.trans hq35_v11
          have hq36_v18 : v18 36 = (v 36) := hk36_v18.trans hq36_v11
          have hq38_v18 : v18 38 = (v 38) := hk38_v18.trans hq38_v11
          have hq39_v18 : v18 39 = (v 39) := hk39_v18.trans hq39_v11
          refine lv_if_lt (tgt := 51) hx hb dX11_law_35 (by decide) (fun c22 => ?_) (fun c22 => ?_)
          · skip
            have zc22 : r17.toInt < 0 := by rw [fa_lt, show (0 : Int32).toInt = 0 from by decide] at c22; exact c22
            refine lv_iconst (v := 0) hx hb dX11_law_51 (by decide) ?_
            have lt23 : (0 : Int32).toInt = 0 := by decide
            refine cbSi (n := 1) (rest := [.int l2_11]) hx hb hml hown hts hE hP hD hS hA (sY_X11_truth_1 0 l dC dI cy y0 r 0 v18 f19 w20 g21 hIv18 hCf19 hRf19 ) k_1761 k_1762 k_114 k_1763 (by decide +kernel) ⟨Nat.le_of_ble_eq_true rfl, Nat.le_of_ble_eq_true rfl⟩ (rfl) hl.1 rfl (Nat.le_of_ble_eq_true rfl) dX11_law_52 (fun r24 u H locs hw hP hD hS => ?_)
            obtain ⟨hG25, hw⟩ := hw
            refine lv_iadd hx hb dX11_law_55 ?_
            refine lv_topi (fun t26 et26 => ?_)
            refine lv_istore_n (lv' := [(2, .int t26), (3, .int l3_11), (0, .ref y0), (1, .int p1)]) hx hb dX11_law_56 rfl hl (by decide) rfl (fun ls hl => ?_)
            obtain ⟨t27, et27⟩ : ∃ y : Int32, y = l3_11 + 1 := ⟨_, rfl⟩
            have zt27 : t27.toInt = l3_11.toInt + 1 := by rw [et27]; exact add_i rfl (by decide) (by omega) (by omega)
            refine lv_iinc (v := t27) (lv' := [(3, .int t27), (2, .int t26), (0, .ref y0), (1, .int p1)]) hx hb dX11_law_57 hl (k := 1) rfl (by rw [et27]; rfl) (by decide) rfl (fun ls hl => ?_)
            refine lv_goto (tgt := 21) hx hb dX11_law_60 (by decide) ?_
            have rg28 := fb_rng t27
            exact ih11 t26 t27 v18 f19 w20 g21 hIv18 hCf19 hRf19 hq0_v18 hq1_v18 hq2_v18 hq3_v18 hq4_v18 hq5_v18 hq8_v18 hq9_v18 hq10_v18 hq13_v18 hq14_v18 hq15_v18 hq17_v18 hq18_v18 hq24_v18 hq25_v18 hq35_v18 hq36_v18 hq38_v18 hq39_v18 ⟨show (0 : Int) ≤ t27.toInt by omega, show t27.toInt ≤ (2147483647 : Int) by omega⟩ hM_v18 hA_f19 (by show (2147483647 - t27.toInt).toNat < n11; omega) _ _ _ hP hD hS (lv_sub hl [0, 1, 2, 3] rfl)
          · skip
            have zc22 : ¬ (r17.toInt < 0) := by rw [fa_lt, show (0 : Int32).toInt = 0 from by decide] at c22; exact c22
            refine lv_aload_n hx hb dX11_law_38 rfl (lv_at hl 2 rfl) ?_
            refine lv_iload_n hx hb dX11_law_39 rfl (lv_at hl 0 rfl) ?_
            refine cbVi (n := 1) (rest := [.int l2_11]) hx hb hml hown hts hE hP hD hS hA (sY_X11_ownIll_1 l dC dI cy y0 r l3_11 v18 f19 w20 g21 hIv18 hCf19 hRf19 ⟨show (0 : Int) ≤ l3_11.toInt by omega, show l3_11.toInt ≤ (5 : Int) by omega⟩) k_1984 k_1986 k_96 k_114 k_1987 (by decide +kernel) ⟨Nat.le_of_ble_eq_true rfl, Nat.le_of_ble_eq_true rfl⟩ 0 11 rfl rfl (rfl) hl.1 rfl (Nat.le_of_ble_eq_true rfl) dX11_law_40 (fun r29 u H locs hw hP hD hS => ?_)
            obtain ⟨v30, f31, w32, g33⟩ := u
            obtain ⟨kV_v30, kF_f31, hIv30, hCf31, hRf31, hk0_v30, hk1_v30, hk2_v30, hk3_v30, hk4_v30, hk5_v30, hk8_v30, hk9_v30, hk10_v30, hk13_v30, hk14_v30, hk15_v30, hk17_v30, hk18_v30, hk24_v30, hk25_v30, hk35_v30, hk36_v30, hk38_v30, hk39_v30⟩ := hw
            have hM_v30 : KV [] v30 v := KV.tr kV_v30 hM_v18 rfl
            have hA_f31 : KF [7, 8, 24] f31 f := KF.tr kF_f31 hA_f19 rfl
            have hP : va_P (dC, dI) vwCl (YW cy y0 r v30 f31 w32 g33) H := hP
            have hD : va_D A (YW cy y0 r v30 f31 w32 g33) := hD
            have hUv30 : (v30 35).toInt + (v30 36).toInt ≤ 40 := hIv30.2
            have hq0_v30 : v30 0 = (v 0) := hk0_v30.trans hq0_v18
            have hq1_v30 : v30 1 = (v 1) := hk1_v30.trans hq1_v18
            have hq2_v30 : v30 2 = (v 2) := hk2_v30.trans hq2_v18
            have hq3_v30 : v30 3 = (v 3) := hk3_v30.trans hq3_v18
            have hq4_v30 : v30 4 = (v 4) := hk4_v30.trans hq4_v18
            have hq5_v30 : v30 5 = (v 5) := hk5_v30.trans hq5_v18
            have hq8_v30 : v30 8 = (v 8) := hk8_v30.trans hq8_v18
            have hq9_v30 : v30 9 = (v 9) := hk9_v30.trans hq9_v18
            have zq9_v30 := congrArg Int32.toInt hq9_v30
            have hq10_v30 : v30 10 = (v 10) := hk10_v30.trans hq10_v18
            have hq13_v30 : v30 13 = (v 13) := hk13_v30.trans hq13_v18
            have hq14_v30 : v30 14 = (v 14) := hk14_v30.trans hq14_v18
            have hq15_v30 : v30 15 = (v 15) := hk15_v30.trans hq15_v18
            have hq17_v30 : v30 17 = (v 17) := hk17_v30.trans hq17_v18
            have hq18_v30 : v30 18 = (v 18) := hk18_v30.trans hq18_v18
            have hq24_v30 : v30 24 = (v 24) := hk24_v30.trans hq24_v18
            have hq25_v30 : v30 25 = (v 25) := hk25_v30.trans hq25_v18
            have hq35_v30 : v30 35 = (v 35) := hk35_v30.trans hq35_v18
            have hq36_v30 : v30 36 = (v 36) := hk36_v30.trans hq36_v18
            have hq38_v30 : v30 38 = (v 38) := hk38_v30.trans hq38_v18
            have hq39_v30 : v30 39 = (v 39) := hk39_v30.trans hq39_v18
            refine lv_iload_n hx hb dX11_law_43 rfl (lv_at hl 3 rfl) ?_
            refine lv_icmp_gt (tgt := 51) hx hb dX11_law_44 (by decide) (fun c34 => ?_) (fun c34 => ?_)
            · skip
              have zc34 : p1.toInt < r29.toInt := by rw [fa_lt] at c34; exact c34
              have rg35 := fb_rng r29
              have rg36 := fb_rng p1
              refine lv_iconst (v := 0) hx hb dX11_law_51 (by decide) ?_
              have lt37 : (0 : Int32).toInt = 0 := by decide
              refine cbSi (n := 1) (rest := [.int l2_11]) hx hb hml hown hts hE hP hD hS hA (sY_X11_truth_1 0 l dC dI cy y0 r 0 v30 f31 w32 g33 hIv30 hCf31 hRf31 ) k_1761 k_1762 k_114 k_1763 (by decide +kernel) ⟨Nat.le_of_ble_eq_true rfl, Nat.le_of_ble_eq_true rfl⟩ (rfl) hl.1 rfl (Nat.le_of_ble_eq_true rfl) dX11_law_52 (fun r38 u H locs hw hP hD hS => ?_)
              obtain ⟨hG39, hw⟩ := hw
              refine lv_iadd hx hb dX11_law_55 ?_
              refine lv_topi (fun t40 et40 => ?_)
              refine lv_istore_n (lv' := [(2, .int t40), (3, .int l3_11), (0, .ref y0), (1, .int p1)]) hx hb dX11_law_56 rfl hl (by decide) rfl (fun ls hl => ?_)
              obtain ⟨t41, et41⟩ : ∃ y : Int32, y = l3_11 + 1 := ⟨_, rfl⟩
              have zt41 : t41.toInt = l3_11.toInt + 1 := by rw [et41]; exact add_i rfl (by decide) (by omega) (by omega)
              refine lv_iinc (v := t41) (lv' := [(3, .int t41), (2, .int t40), (0, .ref y0), (1, .int p1)]) hx hb dX11_law_57 hl (k := 1) rfl (by rw [et41]; rfl) (by decide) rfl (fun ls hl => ?_)
              refine lv_goto (tgt := 21) hx hb dX11_law_60 (by decide) ?_
              have rg42 := fb_rng t41
              exact ih11 t40 t41 v30 f31 w32 g33 hIv30 hCf31 hRf31 hq0_v30 hq1_v30 hq2_v30 hq3_v30 hq4_v30 hq5_v30 hq8_v30 hq9_v30 hq10_v30 hq13_v30 hq14_v30 hq15_v30 hq17_v30 hq18_v30 hq24_v30 hq25_v30 hq35_v30 hq36_v30 hq38_v30 hq39_v30 ⟨show (0 : Int) ≤ t41.toInt by omega, show t41.toInt ≤ (2147483647 : Int) by omega⟩ hM_v30 hA_f31 (by show (2147483647 - t41.toInt).toNat < n11; omega) _ _ _ hP hD hS (lv_sub hl [0, 1, 2, 3] rfl)
            · skip
              have zc34 : ¬ (p1.toInt < r29.toInt) := by rw [fa_lt] at c34; exact c34
              have rg43 := fb_rng r29
              have rg44 := fb_rng p1
              refine lv_iconst (v := 1) hx hb dX11_law_47 (by decide) ?_
              refine lv_goto (tgt := 52) hx hb dX11_law_48 (by decide) ?_
              have lt45 : (1 : Int32).toInt = 1 := by decide
              refine cbSi (n := 1) (rest := [.int l2_11]) hx hb hml hown hts hE hP hD hS hA (sY_X11_truth_1 0 l dC dI cy y0 r 1 v30 f31 w32 g33 hIv30 hCf31 hRf31 ) k_1761 k_1762 k_114 k_1763 (by decide +kernel) ⟨Nat.le_of_ble_eq_true rfl, Nat.le_of_ble_eq_true rfl⟩ (rfl) hl.1 rfl (Nat.le_of_ble_eq_true rfl) dX11_law_52 (fun r46 u H locs hw hP hD hS => ?_)
              obtain ⟨hG47, hw⟩ := hw
              refine lv_iadd hx hb dX11_law_55 ?_
              refine lv_topi (fun t48 et48 => ?_)
              refine lv_istore_n (lv' := [(2, .int t48), (3, .int l3_11), (0, .ref y0), (1, .int p1)]) hx hb dX11_law_56 rfl hl (by decide) rfl (fun ls hl => ?_)
              obtain ⟨t49, et49⟩ : ∃ y : Int32, y = l3_11 + 1 := ⟨_, rfl⟩
              have zt49 : t49.toInt = l3_11.toInt + 1 := by rw [et49]; exact add_i rfl (by decide) (by omega) (by omega)
              refine lv_iinc (v := t49) (lv' := [(3, .int t49), (2, .int t48), (0, .ref y0), (1, .int p1)]) hx hb dX11_law_57 hl (k := 1) rfl (by rw [et49]; rfl) (by decide) rfl (fun ls hl => ?_)
              refine lv_goto (tgt := 21) hx hb dX11_law_60 (by decide) ?_
              have rg50 := fb_rng t49
              exact ih11 t48 t49 v30 f31 w32 g33 hIv30 hCf31 hRf31 hq0_v30 hq1_v30 hq2_v30 hq3_v30 hq4_v30 hq5_v30 hq8_v30 hq9_v30 hq10_v30 hq13_v30 hq14_v30 hq15_v30 hq17_v30 hq18_v30 hq24_v30 hq25_v30 hq35_v30 hq36_v30 hq38_v30 hq39_v30 ⟨show (0 : Int) ≤ t49.toInt by omega, show t49.toInt ≤ (2147483647 : Int) by omega⟩ hM_v30 hA_f31 (by show (2147483647 - t49.toInt).toNat < n11; omega) _ _ _ hP hD hS (lv_sub hl [0, 1, 2, 3] rfl)
    exact lp11 _ 0 0 v7 f8 w9 g10 hIv7 hCf8 hRf8 hq0_v7 hq1_v7 hq2_v7 hq3_v7 hq4_v7 hq5_v7 hq8_v7 hq9_v7 hq10_v7 hq13_v7 hq14_v7 hq15_v7 hq17_v7 hq18_v7 hq24_v7 hq25_v7 hq35_v7 hq36_v7 hq38_v7 hq39_v7 ⟨by decide, by decide⟩ hM_v7 hA_f8 (Nat.lt_succ_self _) _ _ _ hP hD hS (lv_sub hl [0, 1, 2, 3] rfl)
  · skip
    subst g5
    refine lv_if_ne (tgt := 13) hx hb dX11_law_8 (by decide) (fun c0 => absurd (by decide) c0) (fun _ => ?_)
    refine lv_iconst (v := (-1)) hx hb dX11_law_11 (by decide) ?_
    exact ret (-1) (v, f, w, g) _ _ _ _ _ _ rfl ⟨hM_v, hA_f, hIv, hCf, hRf, rfl, rfl, rfl, rfl, rfl, rfl, rfl, rfl, rfl, rfl, rfl, rfl, rfl, rfl, rfl, rfl, rfl, rfl, rfl, rfl⟩ hP hD hS dX11_law_12 (Nat.le_refl _) (Nat.le_refl _)
set_option maxHeartbeats 4000000 in
set_option maxRecDepth 100000 in
theorem sY_X11_ease_1 (l : Launch) (dC : Nat → ClassId) (dI : Nat → Nat → Nat) (cy : Nat → ClassId) (y0 : Nat) (r : Nat → Nat)  (v : Nat → Int32) (f : Nat → Nat → Int32) (w : Int64) (g : Nat → Int64) (hIv : YI v) (hCf : YC f) (hRf : progOK (f 4) (f 5) (v 9).toInt.toNat)  : ctI l (dC, dI) cy yX11_ease cX11_ease 3 .int 5 147 0 0 ((Nat → Int32) × (Nat → Nat → Int32) × (Int64) × (Nat → Int64)) [.ref y0] (YW cy y0 r v f w g) (fun r u => KV [] u.1 v ∧ KF [7, 8, 24] u.2.1 f ∧ YI u.1 ∧ YC u.2.1 ∧ progOK (u.2.1 4) (u.2.1 5) (u.1 9).toInt.toNat ∧ u.1 0 = v 0 ∧ u.1 1 = v 1 ∧ u.1 2 = v 2 ∧ u.1 3 = v 3 ∧ u.1 4 = v 4 ∧ u.1 5 = v 5 ∧ u.1 8 = v 8 ∧ u.1 9 = v 9 ∧ u.1 10 = v 10 ∧ u.1 13 = v 13 ∧ u.1 14 = v 14 ∧ u.1 15 = v 15 ∧ u.1 17 = v 17 ∧ u.1 18 = v 18 ∧ u.1 24 = v 24 ∧ u.1 25 = v 25 ∧ u.1 35 = v 35 ∧ u.1 36 = v 36 ∧ u.1 38 = v 38 ∧ u.1 39 = v 39) (fun u => YW cy y0 r u.1 u.2.1 u.2.2.1 u.2.2.2) := by
  refine ctI_of (by decide) (Nat.le_of_ble_eq_true rfl) (fun p e s m below meth c A ls Q hx hb hml hts hown hE hP hD hA hl ret => ?_)
  have hUv : (v 35).toInt + (v 36).toInt ≤ 40 := hIv.2
  have hM_v : KV [] v v := fun _ _ => rfl
  have hA_f : KF [7, 8, 24] f f := fun _ _ => rfl
  have hown : s.vm.findClass RX11 = some m.cls := hown
  have hS : va_S A s.heap s.heap [] := va_S.rf
  have hl : lv_has ls 3 [(0, .ref y0)] := hl
  refine lv_aload_n hx hb dX11_ease_0 rfl (lv_at hl 0 rfl) ?_
  refine cbVv (n := 0) (rest := []) hx hb hml hown hts hE hP hD hS hA (sY_X11_fill_1 0 l dC dI cy y0 r  v f w g hIv hCf hRf ) k_1739 k_1741 k_71 k_114 k_1742 (by decide +kernel) ⟨Nat.le_of_ble_eq_true rfl, Nat.le_of_ble_eq_true rfl⟩ 0 11 rfl rfl (rfl) hl.1 rfl (Nat.le_of_ble_eq_true rfl) dX11_ease_1 (fun u H locs hw hP hD hS => ?_)
  obtain ⟨hG1, hw⟩ := hw
  obtain ⟨v2, f3, w4, g5⟩ := u
  obtain ⟨kV_v2, kF_f3, hIv2, hCf3, hRf3, hk0_v2, hk1_v2, hk2_v2, hk3_v2, hk4_v2, hk5_v2, hk8_v2, hk9_v2, hk10_v2, hk13_v2, hk14_v2, hk15_v2, hk17_v2, hk18_v2, hk24_v2, hk25_v2, hk35_v2, hk36_v2, hk38_v2, hk39_v2⟩ := hw
  have hM_v2 : KV [] v2 v := KV.tr kV_v2 hM_v rfl
  have hA_f3 : KF [7, 8, 24] f3 f := KF.tr kF_f3 hA_f rfl
  have hP : va_P (dC, dI) vwCl (YW cy y0 r v2 f3 w4 g5) H := hP
  have hD : va_D A (YW cy y0 r v2 f3 w4 g5) := hD
  have hUv2 : (v2 35).toInt + (v2 36).toInt ≤ 40 := hIv2.2
  have hq0_v2 : v2 0 = (v 0) := hk0_v2
  have hq1_v2 : v2 1 = (v 1) := hk1_v2
  have hq2_v2 : v2 2 = (v 2) := hk2_v2
  have hq3_v2 : v2 3 = (v 3) := hk3_v2
  have hq4_v2 : v2 4 = (v 4) := hk4_v2
  have hq5_v2 : v2 5 = (v 5) := hk5_v2
  have hq8_v2 : v2 8 = (v 8) := hk8_v2
  have hq9_v2 : v2 9 = (v 9) := hk9_v2
  have zq9_v2 := congrArg Int32.toInt hq9_v2
  have hq10_v2 : v2 10 = (v 10) := hk10_v2
  have hq13_v2 : v2 13 = (v 13) := hk13_v2
  have hq14_v2 : v2 14 = (v 14) := hk14_v2
  have hq15_v2 : v2 15 = (v 15) := hk15_v2
  have hq17_v2 : v2 17 = (v 17) := hk17_v2
  have hq18_v2 : v2 18 = (v 18) := hk18_v2
  have hq24_v2 : v2 24 = (v 24) := hk24_v2
  have hq25_v2 : v2 25 = (v 25) := hk25_v2
  have hq35_v2 : v2 35 = (v 35) := hk35_v2
  have hq36_v2 : v2 36 = (v 36) := hk36_v2
  have hq38_v2 : v2 38 = (v 38) := hk38_v2
  have hq39_v2 : v2 39 = (v 39) := hk39_v2
  refine lv_iconst (v := 0) hx hb dX11_ease_4 (by decide) ?_
  refine lv_istore_n (lv' := [(1, .int 0), (0, .ref y0)]) hx hb dX11_ease_5 rfl hl (by decide) rfl (fun ls hl => ?_)
  refine lv_iconst (v := 0) hx hb dX11_ease_6 (by decide) ?_
  refine lv_istore_n (lv' := [(2, .int 0), (1, .int 0), (0, .ref y0)]) hx hb dX11_ease_7 rfl hl (by decide) rfl (fun ls hl => ?_)
  have lp6 : ∀ (n6 : Nat) (l1_6 : Int32) (l2_6 : Int32) (v6 : Nat → Int32) (f6 : Nat → Nat → Int32) (w6 : Int64) (g6 : Nat → Int64), YI v6 → YC f6 → progOK (f6 4) (f6 5) (v6 9).toInt.toNat → v6 0 = (v 0) → v6 1 = (v 1) → v6 2 = (v 2) → v6 3 = (v 3) → v6 4 = (v 4) → v6 5 = (v 5) → v6 8 = (v 8) → v6 9 = (v 9) → v6 10 = (v 10) → v6 13 = (v 13) → v6 14 = (v 14) → v6 15 = (v 15) → v6 17 = (v 17) → v6 18 = (v 18) → v6 24 = (v 24) → v6 25 = (v 25) → v6 35 = (v 35) → v6 36 = (v 36) → v6 38 = (v 38) → v6 39 = (v 39) → ((0 : Int) ≤ l2_6.toInt ∧ l2_6.toInt ≤ 2147483647) → KV [] v6 v → KF [7, 8, 24] f6 f → (2147483647 - l2_6.toInt).toNat < n6 → ∀ (H : Heap) (locs : List Loc) (ls : Array Slot), va_P (dC, dI) vwCl (YW cy y0 r v6 f6 w6 g6) H → va_D A (YW cy y0 r v6 f6 w6 g6) → va_S A s.heap H locs → lv_has ls 3 [(2, .int l2_6), (1, .int l1_6), (0, .ref y0)] → W p l e { frames := 5, cells := 0, slots := 0, locals := 147 } s m ([.ref y0] : List Value).toArray below meth c H locs 0 0 Q (F0 m 8 ls []) := by
    intro n6
    induction n6 with
    | zero => intro l1_6 l2_6 v6 f6 w6 g6 hIv6 hCf6 hRf6 hq0_v6 hq1_v6 hq2_v6 hq3_v6 hq4_v6 hq5_v6 hq8_v6 hq9_v6 hq10_v6 hq13_v6 hq14_v6 hq15_v6 hq17_v6 hq18_v6 hq24_v6 hq25_v6 hq35_v6 hq36_v6 hq38_v6 hq39_v6 hr2_6 hM_v6 hA_f6 hm; exact absurd hm (Nat.not_lt_zero _)
    | succ n6 ih6 =>
      intro l1_6 l2_6 v6 f6 w6 g6 hIv6 hCf6 hRf6 hq0_v6 hq1_v6 hq2_v6 hq3_v6 hq4_v6 hq5_v6 hq8_v6 hq9_v6 hq10_v6 hq13_v6 hq14_v6 hq15_v6 hq17_v6 hq18_v6 hq24_v6 hq25_v6 hq35_v6 hq36_v6 hq38_v6 hq39_v6 hr2_6 hM_v6 hA_f6 hm6 H locs ls hP hD hS hl
      have hUv6 : (v6 35).toInt + (v6 36).toInt ≤ 40 := hIv6.2
      have zq9_v6 := congrArg Int32.toInt hq9_v6
      refine lv_iload_n hx hb dX11_ease_8 rfl (lv_at hl 0 rfl) ?_
      refine lv_aload_n hx hb dX11_ease_9 rfl (lv_at hl 2 rfl) ?_
      refine va_get (D := (dC, dI)) (ci := 11) (v := .int (v6 24)) (C := RX11) (T := TX11) (N := 79) hx hb hts inB_11 hown hE.1 hP 0 rfl rfl 48 (by decide) (hts _ k_1368) (fun _ h9 => h9) rfl dX11_ease_10 ?_
      refine tI (y := (v 24)) hq24_v6 ?_
      have b24_v : 0 ≤ (v 24).toInt ∧ (v 24).toInt ≤ 6 := YIb.b hIv.1 24 (by decide)
      refine lv_icmp_ge (tgt := 32) hx hb dX11_ease_13 (by decide) (fun c7 => ?_) (fun c7 => ?_)
      · skip
        have zc7 : (v 24).toInt ≤ l2_6.toInt := by rw [fa_le] at c7; exact c7
        have rg8 := fb_rng l2_6
        have rg9 := fb_rng (v 24)
        refine lv_iload_n hx hb dX11_ease_32 rfl (lv_at hl 1 rfl) ?_
        exact ret l1_6 (v6, f6, w6, g6) _ _ _ _ _ _ rfl ⟨hM_v6, hA_f6, hIv6, hCf6, hRf6, hq0_v6, hq1_v6, hq2_v6, hq3_v6, hq4_v6, hq5_v6, hq8_v6, hq9_v6, hq10_v6, hq13_v6, hq14_v6, hq15_v6, hq17_v6, hq18_v6, hq24_v6, hq25_v6, hq35_v6, hq36_v6, hq38_v6, hq39_v6⟩ hP hD hS dX11_ease_33 (Nat.le_refl _) (Nat.le_refl _)
      · skip
        have zc7 : ¬ ((v 24).toInt ≤ l2_6.toInt) := by rw [fa_le] at c7; exact c7
        have rg10 := fb_rng l2_6
        have rg11 := fb_rng (v 24)
        refine lv_iload_n hx hb dX11_ease_16 rfl (lv_at hl 1 rfl) ?_
        refine lv_aload_n hx hb dX11_ease_17 rfl (lv_at hl 2 rfl) ?_
        refine lv_iload_n hx hb dX11_ease_18 rfl (lv_at hl 0 rfl) ?_
        refine cbVi (n := 1) (rest := [.int l1_6]) hx hb hml hown hts hE hP hD hS hA (sY_X11_ownIll_1 l dC dI cy y0 r l2_6 v6 f6 w6 g6 hIv6 hCf6 hRf6 ⟨show (0 : Int) ≤ l2_6.toInt by omega, show l2_6.toInt ≤ (5 : Int) by omega⟩) k_1984 k_1986 k_96 k_114 k_1987 (by decide +kernel) ⟨Nat.le_of_ble_eq_true rfl, Nat.le_of_ble_eq_true rfl⟩ 0 11 rfl rfl (rfl) hl.1 rfl (Nat.le_of_ble_eq_true rfl) dX11_ease_19 (fun r12 u H locs hw hP hD hS => ?_)
        obtain ⟨v13, f14, w15, g16⟩ := u
        obtain ⟨kV_v13, kF_f14, hIv13, hCf14, hRf14, hk0_v13, hk1_v13, hk2_v13, hk3_v13, hk4_v13, hk5_v13, hk8_v13, hk9_v13, hk10_v13, hk13_v13, hk14_v13, hk15_v13, hk17_v13, hk18_v13, hk24_v13, hk25_v13, hk35_v13, hk36_v13, hk38_v13, hk39_v13⟩ := hw
        have hM_v13 : KV [] v13 v := KV.tr kV_v13 hM_v6 rfl
        have hA_f14 : KF [7, 8, 24] f14 f := KF.tr kF_f14 hA_f6 rfl
        have hP : va_P (dC, dI) vwCl (YW cy y0 r v13 f14 w15 g16) H := hP
        have hD : va_D A (YW cy y0 r v13 f14 w15 g16) := hD
        have hUv13 : (v13 35).toInt + (v13 36).toInt ≤ 40 := hIv13.2
        have hq0_v13 : v13 0 = (v 0) := hk0_v13.trans hq0_v6
        have hq1_v13 : v13 1 = (v 1) := hk1_v13.trans hq1_v6
        have hq2_v13 : v13 2 = (v 2) := hk2_v13.trans hq2_v6
        have hq3_v13 : v13 3 = (v 3) := hk3_v13.trans hq3_v6
        have hq4_v13 : v13 4 = (v 4) := hk4_v13.trans hq4_v6
        have hq5_v13 : v13 5 = (v 5) := hk5_v13.trans hq5_v6
        have hq8_v13 : v13 8 = (v 8) := hk8_v13.trans hq8_v6
        have hq9_v13 : v13 9 = (v 9) := hk9_v13.trans hq9_v6
        have zq9_v13 := congrArg Int32.toInt hq9_v13
        have hq10_v13 : v13 10 = (v 10) := hk10_v13.trans hq10_v6
        have hq13_v13 : v13 13 = (v 13) := hk13_v13.trans hq13_v6
        have hq14_v13 : v13 14 = (v 14) := hk14_v13.trans hq14_v6
        have hq15_v13 : v13 15 = (v 15) := hk15_v13.trans hq15_v6
        have hq17_v13 : v13 17 = (v 17) := hk17_v13.trans hq17_v6
        have hq18_v13 : v13 18 = (v 18) := hk18_v13.trans hq18_v6
        have hq24_v13 : v13 24 = (v 24) := hk24_v13.trans hq24_v6
        have hq25_v13 : v13 25 = (v 25) := hk25_v13.trans hq25_v6
        have hq35_v13 : v13 35 = (v 35) := hk35_v13.trans hq35_v6
        have hq36_v13 : v13 36 = (v 36) := hk36_v13.trans hq36_v6
        have hq38_v13 : v13 38 = (v 38) := hk38_v13.trans hq38_v6
        have hq39_v13 : v13 39 = (v 39) := hk39_v13.trans hq39_v6
        refine cbSi (n := 2) (rest := []) hx hb hml hown hts hE hP hD hS hA (sY_X11_greater_1 0 l dC dI cy y0 r l1_6 r12 v13 f14 w15 g16 hIv13 hCf14 hRf14 ) k_1802 k_1803 k_114 k_1804 (by decide +kernel) ⟨Nat.le_of_ble_eq_true rfl, Nat.le_of_ble_eq_true rfl⟩ (rfl) hl.1 rfl (Nat.le_of_ble_eq_true rfl) dX11_ease_22 (fun r17 u H locs hw hP hD hS => ?_)
        have hG18 := hw
        refine lv_istore_n (lv' := [(1, .int r17), (2, .int l2_6), (0, .ref y0)]) hx hb dX11_ease_25 rfl hl (by decide) rfl (fun ls hl => ?_)
        obtain ⟨t19, et19⟩ : ∃ y : Int32, y = l2_6 + 1 := ⟨_, rfl⟩
        have zt19 : t19.toInt = l2_6.toInt + 1 := by rw [et19]; exact add_i rfl (by decide) (by omega) (by omega)
        refine lv_iinc (v := t19) (lv' := [(2, .int t19), (1, .int r17), (0, .ref y0)]) hx hb dX11_ease_26 hl (k := 1) rfl (by rw [et19]; rfl) (by decide) rfl (fun ls hl => ?_)
        refine lv_goto (tgt := 8) hx hb dX11_ease_29 (by decide) ?_
        have rg20 := fb_rng t19
        exact ih6 r17 t19 v13 f14 w15 g16 hIv13 hCf14 hRf14 hq0_v13 hq1_v13 hq2_v13 hq3_v13 hq4_v13 hq5_v13 hq8_v13 hq9_v13 hq10_v13 hq13_v13 hq14_v13 hq15_v13 hq17_v13 hq18_v13 hq24_v13 hq25_v13 hq35_v13 hq36_v13 hq38_v13 hq39_v13 ⟨show (0 : Int) ≤ t19.toInt by omega, show t19.toInt ≤ (2147483647 : Int) by omega⟩ hM_v13 hA_f14 (by show (2147483647 - t19.toInt).toNat < n6; omega) _ _ _ hP hD hS (lv_sub hl [0, 1, 2] rfl)
  exact lp6 _ 0 0 v2 f3 w4 g5 hIv2 hCf3 hRf3 hq0_v2 hq1_v2 hq2_v2 hq3_v2 hq4_v2 hq5_v2 hq8_v2 hq9_v2 hq10_v2 hq13_v2 hq14_v2 hq15_v2 hq17_v2 hq18_v2 hq24_v2 hq25_v2 hq35_v2 hq36_v2 hq38_v2 hq39_v2 ⟨by decide, by decide⟩ hM_v2 hA_f3 (Nat.lt_succ_self _) _ _ _ hP hD hS (lv_sub hl [0, 1, 2] rfl)
set_option maxHeartbeats 4000000 in
set_option maxRecDepth 100000 in
theorem sY_X11_breadth_1 (l : Launch) (dC : Nat → ClassId) (dI : Nat → Nat → Nat) (cy : Nat → ClassId) (y0 : Nat) (r : Nat → Nat)  (v : Nat → Int32) (f : Nat → Nat → Int32) (w : Int64) (g : Nat → Int64) (hIv : YI v) (hCf : YC f) (hRf : progOK (f 4) (f 5) (v 9).toInt.toNat)  : ctI l (dC, dI) cy yX11_breadth cX11_breadth 1 .int 3 102 0 0 ((Nat → Int32) × (Nat → Nat → Int32) × (Int64) × (Nat → Int64)) [.ref y0] (YW cy y0 r v f w g) (fun r u => KV [] u.1 v ∧ KF [24] u.2.1 f ∧ YI u.1 ∧ YC u.2.1 ∧ progOK (u.2.1 4) (u.2.1 5) (u.1 9).toInt.toNat ∧ u.1 0 = v 0 ∧ u.1 1 = v 1 ∧ u.1 2 = v 2 ∧ u.1 3 = v 3 ∧ u.1 4 = v 4 ∧ u.1 5 = v 5 ∧ u.1 8 = v 8 ∧ u.1 9 = v 9 ∧ u.1 10 = v 10 ∧ u.1 13 = v 13 ∧ u.1 14 = v 14 ∧ u.1 15 = v 15 ∧ u.1 17 = v 17 ∧ u.1 18 = v 18 ∧ u.1 24 = v 24 ∧ u.1 25 = v 25 ∧ u.1 35 = v 35 ∧ u.1 36 = v 36 ∧ u.1 38 = v 38 ∧ u.1 39 = v 39) (fun u => YW cy y0 r u.1 u.2.1 u.2.2.1 u.2.2.2) := by
  refine ctI_of (by decide) (Nat.le_of_ble_eq_true rfl) (fun p e s m below meth c A ls Q hx hb hml hts hown hE hP hD hA hl ret => ?_)
  have hUv : (v 35).toInt + (v 36).toInt ≤ 40 := hIv.2
  have hM_v : KV [] v v := fun _ _ => rfl
  have hA_f : KF [24] f f := fun _ _ => rfl
  have hown : s.vm.findClass RX11 = some m.cls := hown
  have hS : va_S A s.heap s.heap [] := va_S.rf
  have hl : lv_has ls 1 [(0, .ref y0)] := hl
  refine lv_aload_n hx hb dX11_breadth_0 rfl (lv_at hl 0 rfl) ?_
  refine cbVv (n := 0) (rest := []) hx hb hml hown hts hE hP hD hS hA (sY_X11_fill_1 0 l dC dI cy y0 r  v f w g hIv hCf hRf ) k_1739 k_1741 k_71 k_114 k_1742 (by decide +kernel) ⟨Nat.le_of_ble_eq_true rfl, Nat.le_of_ble_eq_true rfl⟩ 0 11 rfl rfl (rfl) hl.1 rfl (Nat.le_of_ble_eq_true rfl) dX11_breadth_1 (fun u H locs hw hP hD hS => ?_)
  obtain ⟨hG1, hw⟩ := hw
  obtain ⟨v2, f3, w4, g5⟩ := u
  obtain ⟨kV_v2, kF_f3, hIv2, hCf3, hRf3, hk0_v2, hk1_v2, hk2_v2, hk3_v2, hk4_v2, hk5_v2, hk8_v2, hk9_v2, hk10_v2, hk13_v2, hk14_v2, hk15_v2, hk17_v2, hk18_v2, hk24_v2, hk25_v2, hk35_v2, hk36_v2, hk38_v2, hk39_v2⟩ := hw
  have hM_v2 : KV [] v2 v := KV.tr kV_v2 hM_v rfl
  have hA_f3 : KF [24] f3 f := KF.tr kF_f3 hA_f rfl
  have hP : va_P (dC, dI) vwCl (YW cy y0 r v2 f3 w4 g5) H := hP
  have hD : va_D A (YW cy y0 r v2 f3 w4 g5) := hD
  have hUv2 : (v2 35).toInt + (v2 36).toInt ≤ 40 := hIv2.2
  have hq9_v2 : v2 9 = (v 9) := hk9_v2
  have zq9_v2 := congrArg Int32.toInt hq9_v2
  refine lv_aload_n hx hb dX11_breadth_4 rfl (lv_at hl 0 rfl) ?_
  refine lv_aload_n hx hb dX11_breadth_5 rfl (lv_at hl 0 rfl) ?_
  refine cbVi (n := 0) (rest := [.ref y0]) hx hb hml hown hts hE hP hD hS hA (sY_X11_wearers_1 0 l dC dI cy y0 r  v2 f3 w4 g5 hIv2 hCf3 hRf3 ) k_1805 k_1807 k_80 k_114 k_1808 (by decide +kernel) ⟨Nat.le_of_ble_eq_true rfl, Nat.le_of_ble_eq_true rfl⟩ 0 11 rfl rfl (rfl) hl.1 rfl (Nat.le_of_ble_eq_true rfl) dX11_breadth_6 (fun r6 u H locs hw hP hD hS => ?_)
  obtain ⟨hG7, hw⟩ := hw
  refine cbVi (n := 1) (rest := []) hx hb hml hown hts hE hP hD hS hA (sY_X11_wideOf_1 l dC dI cy y0 r r6 v2 f3 w4 g5 hIv2 hCf3 hRf3 ) k_1912 k_1914 k_88 k_114 k_1915 (by decide +kernel) ⟨Nat.le_of_ble_eq_true rfl, Nat.le_of_ble_eq_true rfl⟩ 0 11 rfl rfl (rfl) hl.1 rfl (Nat.le_of_ble_eq_true rfl) dX11_breadth_9 (fun r8 u H locs hw hP hD hS => ?_)
  exact ret r8 (v2, f3, w4, g5) _ _ _ _ _ _ rfl ⟨hM_v2, hA_f3, hIv2, hCf3, hRf3, hk0_v2, hk1_v2, hk2_v2, hk3_v2, hk4_v2, hk5_v2, hk8_v2, hk9_v2, hk10_v2, hk13_v2, hk14_v2, hk15_v2, hk17_v2, hk18_v2, hk24_v2, hk25_v2, hk35_v2, hk36_v2, hk38_v2, hk39_v2⟩ hP hD hS dX11_breadth_12 (Nat.le_refl _) (Nat.le_refl _)
set_option maxHeartbeats 4000000 in
set_option maxRecDepth 100000 in
theorem sY_X11_rout_1 (l : Launch) (dC : Nat → ClassId) (dI : Nat → Nat → Nat) (cy : Nat → ClassId) (y0 : Nat) (r : Nat → Nat)  (v : Nat → Int32) (f : Nat → Nat → Int32) (w : Int64) (g : Nat → Int64) (hIv : YI v) (hCf : YC f) (hRf : progOK (f 4) (f 5) (v 9).toInt.toNat)  : ctI l (dC, dI) cy yX11_rout cX11_rout 2 .int 8 214 0 0 ((Nat → Int32) × (Nat → Nat → Int32) × (Int64) × (Nat → Int64)) [.ref y0] (YW cy y0 r v f w g) (fun r u => KV [] u.1 v ∧ KF [7, 8, 24] u.2.1 f ∧ YI u.1 ∧ YC u.2.1 ∧ progOK (u.2.1 4) (u.2.1 5) (u.1 9).toInt.toNat ∧ u.1 0 = v 0 ∧ u.1 1 = v 1 ∧ u.1 2 = v 2 ∧ u.1 3 = v 3 ∧ u.1 4 = v 4 ∧ u.1 5 = v 5 ∧ u.1 8 = v 8 ∧ u.1 9 = v 9 ∧ u.1 10 = v 10 ∧ u.1 13 = v 13 ∧ u.1 14 = v 14 ∧ u.1 15 = v 15 ∧ u.1 17 = v 17 ∧ u.1 18 = v 18 ∧ u.1 24 = v 24 ∧ u.1 25 = v 25 ∧ u.1 35 = v 35 ∧ u.1 36 = v 36 ∧ u.1 38 = v 38 ∧ u.1 39 = v 39) (fun u => YW cy y0 r u.1 u.2.1 u.2.2.1 u.2.2.2) := by
  refine ctI_of (by decide) (Nat.le_of_ble_eq_true rfl) (fun p e s m below meth c A ls Q hx hb hml hts hown hE hP hD hA hl ret => ?_)
  have hUv : (v 35).toInt + (v 36).toInt ≤ 40 := hIv.2
  have hM_v : KV [] v v := fun _ _ => rfl
  have hA_f : KF [7, 8, 24] f f := fun _ _ => rfl
  have hown : s.vm.findClass RX11 = some m.cls := hown
  have hS : va_S A s.heap s.heap [] := va_S.rf
  have hl : lv_has ls 2 [(0, .ref y0)] := hl
  refine lv_aload_n hx hb dX11_rout_0 rfl (lv_at hl 0 rfl) ?_
  refine cbVv (n := 0) (rest := []) hx hb hml hown hts hE hP hD hS hA (sY_X11_fill_1 0 l dC dI cy y0 r  v f w g hIv hCf hRf ) k_1739 k_1741 k_71 k_114 k_1742 (by decide +kernel) ⟨Nat.le_of_ble_eq_true rfl, Nat.le_of_ble_eq_true rfl⟩ 0 11 rfl rfl (rfl) hl.1 rfl (Nat.le_of_ble_eq_true rfl) dX11_rout_1 (fun u H locs hw hP hD hS => ?_)
  obtain ⟨hG1, hw⟩ := hw
  obtain ⟨v2, f3, w4, g5⟩ := u
  obtain ⟨kV_v2, kF_f3, hIv2, hCf3, hRf3, hk0_v2, hk1_v2, hk2_v2, hk3_v2, hk4_v2, hk5_v2, hk8_v2, hk9_v2, hk10_v2, hk13_v2, hk14_v2, hk15_v2, hk17_v2, hk18_v2, hk24_v2, hk25_v2, hk35_v2, hk36_v2, hk38_v2, hk39_v2⟩ := hw
  have hM_v2 : KV [] v2 v := KV.tr kV_v2 hM_v rfl
  have hA_f3 : KF [7, 8, 24] f3 f := KF.tr kF_f3 hA_f rfl
  have hP : va_P (dC, dI) vwCl (YW cy y0 r v2 f3 w4 g5) H := hP
  have hD : va_D A (YW cy y0 r v2 f3 w4 g5) := hD
  have hUv2 : (v2 35).toInt + (v2 36).toInt ≤ 40 := hIv2.2
  have hq0_v2 : v2 0 = (v 0) := hk0_v2
  have hq1_v2 : v2 1 = (v 1) := hk1_v2
  have hq2_v2 : v2 2 = (v 2) := hk2_v2
  have hq3_v2 : v2 3 = (v 3) := hk3_v2
  have hq4_v2 : v2 4 = (v 4) := hk4_v2
  have hq5_v2 : v2 5 = (v 5) := hk5_v2
  have hq8_v2 : v2 8 = (v 8) := hk8_v2
  have hq9_v2 : v2 9 = (v 9) := hk9_v2
  have zq9_v2 := congrArg Int32.toInt hq9_v2
  have hq10_v2 : v2 10 = (v 10) := hk10_v2
  have hq13_v2 : v2 13 = (v 13) := hk13_v2
  have hq14_v2 : v2 14 = (v 14) := hk14_v2
  have hq15_v2 : v2 15 = (v 15) := hk15_v2
  have hq17_v2 : v2 17 = (v 17) := hk17_v2
  have hq18_v2 : v2 18 = (v 18) := hk18_v2
  have hq24_v2 : v2 24 = (v 24) := hk24_v2
  have hq25_v2 : v2 25 = (v 25) := hk25_v2
  have hq35_v2 : v2 35 = (v 35) := hk35_v2
  have hq36_v2 : v2 36 = (v 36) := hk36_v2
  have hq38_v2 : v2 38 = (v 38) := hk38_v2
  have hq39_v2 : v2 39 = (v 39) := hk39_v2
  refine lv_iconst (v := 0) hx hb dX11_rout_4 (by decide) ?_
  refine lv_istore_n (lv' := [(1, .int 0), (0, .ref y0)]) hx hb dX11_rout_5 rfl hl (by decide) rfl (fun ls hl => ?_)
  have lp6 : ∀ (n6 : Nat) (l1_6 : Int32) (v6 : Nat → Int32) (f6 : Nat → Nat → Int32) (w6 : Int64) (g6 : Nat → Int64), YI v6 → YC f6 → progOK (f6 4) (f6 5) (v6 9).toInt.toNat → v6 0 = (v 0) → v6 1 = (v 1) → v6 2 = (v 2) → v6 3 = (v 3) → v6 4 = (v 4) → v6 5 = (v 5) → v6 8 = (v 8) → v6 9 = (v 9) → v6 10 = (v 10) → v6 13 = (v 13) → v6 14 = (v 14) → v6 15 = (v 15) → v6 17 = (v 17) → v6 18 = (v 18) → v6 24 = (v 24) → v6 25 = (v 25) → v6 35 = (v 35) → v6 36 = (v 36) → v6 38 = (v 38) → v6 39 = (v 39) → ((0 : Int) ≤ l1_6.toInt ∧ l1_6.toInt ≤ 2147483647) → KV [] v6 v → KF [7, 8, 24] f6 f → (2147483647 - l1_6.toInt).toNat < n6 → ∀ (H : Heap) (locs : List Loc) (ls : Array Slot), va_P (dC, dI) vwCl (YW cy y0 r v6 f6 w6 g6) H → va_D A (YW cy y0 r v6 f6 w6 g6) → va_S A s.heap H locs → lv_has ls 2 [(1, .int l1_6), (0, .ref y0)] → W p l e { frames := 8, cells := 0, slots := 0, locals := 214 } s m ([.ref y0] : List Value).toArray below meth c H locs 0 0 Q (F0 m 6 ls []) := by
    intro n6
    induction n6 with
    | zero => intro l1_6 v6 f6 w6 g6 hIv6 hCf6 hRf6 hq0_v6 hq1_v6 hq2_v6 hq3_v6 hq4_v6 hq5_v6 hq8_v6 hq9_v6 hq10_v6 hq13_v6 hq14_v6 hq15_v6 hq17_v6 hq18_v6 hq24_v6 hq25_v6 hq35_v6 hq36_v6 hq38_v6 hq39_v6 hr1_6 hM_v6 hA_f6 hm; exact absurd hm (Nat.not_lt_zero _)
    | succ n6 ih6 =>
      intro l1_6 v6 f6 w6 g6 hIv6 hCf6 hRf6 hq0_v6 hq1_v6 hq2_v6 hq3_v6 hq4_v6 hq5_v6 hq8_v6 hq9_v6 hq10_v6 hq13_v6 hq14_v6 hq15_v6 hq17_v6 hq18_v6 hq24_v6 hq25_v6 hq35_v6 hq36_v6 hq38_v6 hq39_v6 hr1_6 hM_v6 hA_f6 hm6 H locs ls hP hD hS hl
      have hUv6 : (v6 35).toInt + (v6 36).toInt ≤ 40 := hIv6.2
      have zq9_v6 := congrArg Int32.toInt hq9_v6
      refine lv_iload_n hx hb dX11_rout_6 rfl (lv_at hl 0 rfl) ?_
      refine lv_bipush (v := 60) hx hb dX11_rout_7 (by decide) ?_
      refine lv_icmp_gt (tgt := 33) hx hb dX11_rout_9 (by decide) (fun c7 => ?_) (fun c7 => ?_)
      · skip
        have zc7 : 60 < l1_6.toInt := by rw [fa_lt, show (60 : Int32).toInt = 60 from by decide] at c7; exact c7
        refine lv_iconst (v := (-1)) hx hb dX11_rout_33 (by decide) ?_
        exact ret (-1) (v6, f6, w6, g6) _ _ _ _ _ _ rfl ⟨hM_v6, hA_f6, hIv6, hCf6, hRf6, hq0_v6, hq1_v6, hq2_v6, hq3_v6, hq4_v6, hq5_v6, hq8_v6, hq9_v6, hq10_v6, hq13_v6, hq14_v6, hq15_v6, hq17_v6, hq18_v6, hq24_v6, hq25_v6, hq35_v6, hq36_v6, hq38_v6, hq39_v6⟩ hP hD hS dX11_rout_34 (Nat.le_refl _) (Nat.le_refl _)
      · skip
        have zc7 : ¬ (60 < l1_6.toInt) := by rw [fa_lt, show (60 : Int32).toInt = 60 from by decide] at c7; exact c7
        refine lv_aload_n hx hb dX11_rout_12 rfl (lv_at hl 1 rfl) ?_
        refine cbVi (n := 0) (rest := []) hx hb hml hown hts hE hP hD hS hA (sY_X11_wearers_1 0 l dC dI cy y0 r  v6 f6 w6 g6 hIv6 hCf6 hRf6 ) k_1805 k_1807 k_80 k_114 k_1808 (by decide +kernel) ⟨Nat.le_of_ble_eq_true rfl, Nat.le_of_ble_eq_true rfl⟩ 0 11 rfl rfl (rfl) hl.1 rfl (Nat.le_of_ble_eq_true rfl) dX11_rout_13 (fun r8 u H locs hw hP hD hS => ?_)
        obtain ⟨hG9, hw⟩ := hw
        refine lv_if_ne (tgt := 21) hx hb dX11_rout_16 (by decide) (fun c10 => ?_) (fun c10 => ?_)
        · skip
          have zc10 : ¬ (r8.toInt = 0) := by rw [fa_eq, show (0 : Int32).toInt = 0 from by decide] at c10; exact c10
          refine lv_aload_n hx hb dX11_rout_21 rfl (lv_at hl 1 rfl) ?_
          refine lv_iconst (v := 0) hx hb dX11_rout_22 (by decide) ?_
          refine cbVi (n := 1) (rest := []) hx hb hml hown hts hE hP hD hS hA (sY_X11_goDay_1 0 l dC dI cy y0 r 0 v6 f6 w6 g6 hIv6 hCf6 hRf6 ) k_1795 k_1797 k_79 k_114 k_1798 (by decide +kernel) ⟨Nat.le_of_ble_eq_true rfl, Nat.le_of_ble_eq_true rfl⟩ 0 11 rfl rfl (rfl) hl.1 rfl (Nat.le_of_ble_eq_true rfl) dX11_rout_23 (fun r11 u H locs hw hP hD hS => ?_)
          obtain ⟨hG12, hw⟩ := hw
          obtain ⟨v13, f14, w15, g16⟩ := u
          obtain ⟨kV_v13, kF_f14, hIv13, hCf14, hRf14, hk0_v13, hk1_v13, hk2_v13, hk3_v13, hk4_v13, hk5_v13, hk8_v13, hk9_v13, hk10_v13, hk13_v13, hk14_v13, hk15_v13, hk17_v13, hk18_v13, hk24_v13, hk25_v13, hk35_v13, hk36_v13, hk38_v13, hk39_v13⟩ := hw
          have hM_v13 : KV [] v13 v := KV.tr kV_v13 hM_v6 rfl
          have hA_f14 : KF [7, 8, 24] f14 f := KF.tr kF_f14 hA_f6 rfl
          have hP : va_P (dC, dI) vwCl (YW cy y0 r v13 f14 w15 g16) H := hP
          have hD : va_D A (YW cy y0 r v13 f14 w15 g16) := hD
          have hUv13 : (v13 35).toInt + (v13 36).toInt ≤ 40 := hIv13.2
          have hq0_v13 : v13 0 = (v 0) := hk0_v13.trans hq0_v6
          have hq1_v13 : v13 1 = (v 1) := hk1_v13.trans hq1_v6
          have hq2_v13 : v13 2 = (v 2) := hk2_v13.trans hq2_v6
          have hq3_v13 : v13 3 = (v 3) := hk3_v13.trans hq3_v6
          have hq4_v13 : v13 4 = (v 4) := hk4_v13.trans hq4_v6
          have hq5_v13 : v13 5 = (v 5) := hk5_v13.trans hq5_v6
          have hq8_v13 : v13 8 = (v 8) := hk8_v13.trans hq8_v6
          have hq9_v13 : v13 9 = (v 9) := hk9_v13.trans hq9_v6
          have zq9_v13 := congrArg Int32.toInt hq9_v13
          have hq10_v13 : v13 10 = (v 10) := hk10_v13.trans hq10_v6
          have hq13_v13 : v13 13 = (v 13) := hk13_v13.trans hq13_v6
          have hq14_v13 : v13 14 = (v 14) := hk14_v13.trans hq14_v6
          have hq15_v13 : v13 15 = (v 15) := hk15_v13.trans hq15_v6
          have hq17_v13 : v13 17 = (v 17) := hk17_v13.trans hq17_v6
          have hq18_v13 : v13 18 = (v 18) := hk18_v13.trans hq18_v6
          have hq24_v13 : v13 24 = (v 24) := hk24_v13.trans hq24_v6
          have hq25_v13 : v13 25 = (v 25) := hk25_v13.trans hq25_v6
          have hq35_v13 : v13 35 = (v 35) := hk35_v13.trans hq35_v6
          have hq36_v13 : v13 36 = (v 36) := hk36_v13.trans hq36_v6
          have hq38_v13 : v13 38 = (v 38) := hk38_v13.trans hq38_v6
          have hq39_v13 : v13 39 = (v 39) := hk39_v13.trans hq39_v6
          refine lv_pop hx hb dX11_rout_26 rfl ?_
          obtain ⟨t17, et17⟩ : ∃ y : Int32, y = l1_6 + 1 := ⟨_, rfl⟩
          have rg18 := fb_rng l1_6
          have zt17 : t17.toInt = l1_6.toInt + 1 := by rw [et17]; exact add_i rfl (by decide) (by omega) (by omega)
          refine lv_iinc (v := t17) (lv' := [(1, .int t17), (0, .ref y0)]) hx hb dX11_rout_27 hl (k := 0) rfl (by rw [et17]; rfl) (by decide) rfl (fun ls hl => ?_)
          refine lv_goto (tgt := 6) hx hb dX11_rout_30 (by decide) ?_
          have rg19 := fb_rng t17
          exact ih6 t17 v13 f14 w15 g16 hIv13 hCf14 hRf14 hq0_v13 hq1_v13 hq2_v13 hq3_v13 hq4_v13 hq5_v13 hq8_v13 hq9_v13 hq10_v13 hq13_v13 hq14_v13 hq15_v13 hq17_v13 hq18_v13 hq24_v13 hq25_v13 hq35_v13 hq36_v13 hq38_v13 hq39_v13 ⟨show (0 : Int) ≤ t17.toInt by omega, show t17.toInt ≤ (2147483647 : Int) by omega⟩ hM_v13 hA_f14 (by show (2147483647 - t17.toInt).toNat < n6; omega) _ _ _ hP hD hS (lv_sub hl [0, 1] rfl)
        · skip
          have zc10 : r8.toInt = 0 := by rw [fa_eq, show (0 : Int32).toInt = 0 from by decide] at c10; exact c10
          refine lv_iload_n hx hb dX11_rout_19 rfl (lv_at hl 0 rfl) ?_
          exact ret l1_6 (v6, f6, w6, g6) _ _ _ _ _ _ rfl ⟨hM_v6, hA_f6, hIv6, hCf6, hRf6, hq0_v6, hq1_v6, hq2_v6, hq3_v6, hq4_v6, hq5_v6, hq8_v6, hq9_v6, hq10_v6, hq13_v6, hq14_v6, hq15_v6, hq17_v6, hq18_v6, hq24_v6, hq25_v6, hq35_v6, hq36_v6, hq38_v6, hq39_v6⟩ hP hD hS dX11_rout_20 (Nat.le_refl _) (Nat.le_refl _)
  exact lp6 _ 0 v2 f3 w4 g5 hIv2 hCf3 hRf3 hq0_v2 hq1_v2 hq2_v2 hq3_v2 hq4_v2 hq5_v2 hq8_v2 hq9_v2 hq10_v2 hq13_v2 hq14_v2 hq15_v2 hq17_v2 hq18_v2 hq24_v2 hq25_v2 hq35_v2 hq36_v2 hq38_v2 hq39_v2 ⟨by decide, by decide⟩ hM_v2 hA_f3 (Nat.lt_succ_self _) _ _ _ hP hD hS (lv_sub hl [0, 1] rfl)
