set_option maxHeartbeats 4000000 in
set_option maxRecDepth 100000 in
theorem sY_X11_change_1 (l : Launch) (dC : Nat → ClassId) (dI : Nat → Nat → Nat) (cy : Nat → ClassId) (y0 : Nat) (r : Nat → Nat) (p1 : Int32) (v : Nat → Int32) (f : Nat → Nat → Int32) (w : Int64) (g : Nat → Int64) (hIv : YI v) (hCf : YC f) (hRf : progOK (f 4) (f 5) (v 9).toInt.toNat)  : ctI l (dC, dI) cy yX11_change cX11_change 7 .int 8 211 0 0 ((Nat → Int32) × (Nat → Nat → Int32) × (Int64) × (Nat → Int64)) [.ref y0, .int p1] (YW cy y0 r v f w g) (fun r u => KV [] u.1 v ∧ KF [7, 8, 24] u.2.1 f ∧ YI u.1 ∧ YC u.2.1 ∧ progOK (u.2.1 4) (u.2.1 5) (u.1 9).toInt.toNat ∧ u.1 0 = v 0 ∧ u.1 1 = v 1 ∧ u.1 2 = v 2 ∧ u.1 3 = v 3 ∧ u.1 4 = v 4 ∧ u.1 5 = v 5 ∧ u.1 8 = v 8 ∧ u.1 9 = v 9 ∧ u.1 10 = v 10 ∧ u.1 13 = v 13 ∧ u.1 14 = v 14 ∧ u.1 15 = v 15 ∧ u.1 17 = v 17 ∧ u.1 18 = v 18 ∧ u.1 24 = v 24 ∧ u.1 25 = v 25 ∧ u.1 35 = v 35 ∧ u.1 36 = v 36 ∧ u.1 38 = v 38 ∧ u.1 39 = v 39) (fun u => YW cy y0 r u.1 u.2.1 u.2.2.1 u.2.2.2) := by
  refine ctI_of (by decide) (Nat.le_of_ble_eq_true rfl) (fun p e s m below meth c A ls Q hx hb hml hts hown hE hP hD hA hl ret => ?_)
  have hUv : (v 35).toInt + (v 36).toInt ≤ 40 := hIv.2
  have hM_v : KV [] v v := fun _ _ => rfl
  have hA_f : KF [7, 8, 24] f f := fun _ _ => rfl
  have hown : s.vm.findClass RX11 = some m.cls := hown
  have hS : va_S A s.heap s.heap [] := va_S.rf
  have hl : lv_has ls 7 [(0, .ref y0), (1, .int p1)] := hl
  refine lv_iload_n hx hb dX11_change_0 rfl (lv_at hl 1 rfl) ?_
  refine lv_iconst (v := 0) hx hb dX11_change_1 (by decide) ?_
  refine lv_iconst (v := 2) hx hb dX11_change_2 (by decide) ?_
  have lt1 : (0 : Int32).toInt = 0 := by decide
  have lt2 : (2 : Int32).toInt = 2 := by decide
  refine cbSi (n := 3) (rest := []) hx hb hml hown hts hE hP hD hS hA (sY_X11_isIn_1 0 l dC dI cy y0 r p1 0 2 v f w g hIv hCf hRf ) k_1736 k_1737 k_114 k_1738 (by decide +kernel) ⟨Nat.le_of_ble_eq_true rfl, Nat.le_of_ble_eq_true rfl⟩ (rfl) hl.1 rfl (Nat.le_of_ble_eq_true rfl) dX11_change_3 (fun r3 u H locs hw hP hD hS => ?_)
  obtain ⟨hG4, hw⟩ := hw
  rcases hw with ⟨g5, g5_0, g5_1⟩ | ⟨g5⟩
  · skip
    subst g5
    refine lv_if_ne (tgt := 11) hx hb dX11_change_6 (by decide) (fun _ => ?_) (fun c0 => absurd c0 (by decide))
    refine lv_aload_n hx hb dX11_change_11 rfl (lv_at hl 0 rfl) ?_
    refine cbVi (n := 0) (rest := []) hx hb hml hown hts hE hP hD hS hA (sY_X11_fitted_1 l dC dI cy y0 r  v f w g hIv hCf hRf ) k_1907 k_1866 k_1867 k_114 k_1868 (by decide +kernel) ⟨Nat.le_of_ble_eq_true rfl, Nat.le_of_ble_eq_true rfl⟩ 0 11 rfl rfl (rfl) hl.1 rfl (Nat.le_of_ble_eq_true rfl) dX11_change_12 (fun r6 u H locs hw hP hD hS => ?_)
    obtain ⟨v7, f8, w9, g10⟩ := u
    obtain ⟨kV_v7, kF_f8, hIv7, hCf8, hRf8, hk0_v7, hk1_v7, hk2_v7, hk3_v7, hk4_v7, hk5_v7, hk8_v7, hk9_v7, hk10_v7, hk13_v7, hk14_v7, hk15_v7, hk17_v7, hk18_v7, hk24_v7, hk25_v7, hk35_v7, hk36_v7, hk38_v7, hk39_v7⟩ := hw
    have hM_v7 : KV [] v7 v := KV.tr kV_v7 hM_v rfl
    have hA_f8 : KF [7, 8, 24] f8 f := KF.tr kF_f8 hA_f rfl
    have hP : va_P (dC, dI) vwCl (YW cy y0 r v7 f8 w9 g10) H := hP
    have hD : va_D A (YW cy y0 r v7 f8 w9 g10) := hD
    have hUv7 : (v7 35).toInt + (v7 36).toInt ≤ 40 := hIv7.2
    have hq0_v7 : v7 0 = (v 0) := hk0_v7
    have hq1_v7 : v7 1 = (v 1) := hk1_v7
    have hq2_v7 : v7 2 = (v 2) := hk2_v7
    have hq3_v7 : v7 3 = (v 3) := hk3_v7
    have hq4_v7 : v7 4 = (v 4) := hk4_v7
    have hq5_v7 : v7 5 = (v 5) := hk5_v7
    have hq8_v7 : v7 8 = (v 8) := hk8_v7
    have hq9_v7 : v7 9 = (v 9) := hk9_v7
    have zq9_v7 := congrArg Int32.toInt hq9_v7
    have hq10_v7 : v7 10 = (v 10) := hk10_v7
    have hq13_v7 : v7 13 = (v 13) := hk13_v7
    have hq14_v7 : v7 14 = (v 14) := hk14_v7
    have hq15_v7 : v7 15 = (v 15) := hk15_v7
    have hq17_v7 : v7 17 = (v 17) := hk17_v7
    have hq18_v7 : v7 18 = (v 18) := hk18_v7
    have hq24_v7 : v7 24 = (v 24) := hk24_v7
    have hq25_v7 : v7 25 = (v 25) := hk25_v7
    have hq35_v7 : v7 35 = (v 35) := hk35_v7
    have hq36_v7 : v7 36 = (v 36) := hk36_v7
    have hq38_v7 : v7 38 = (v 38) := hk38_v7
    have hq39_v7 : v7 39 = (v 39) := hk39_v7
    refine cbSi (n := 1) (rest := []) hx hb hml hown hts hE hP hD hS hA (sY_X11_members_1 l dC dI cy y0 r r6 v7 f8 w9 g10 hIv7 hCf8 hRf8 ) k_1900 k_1901 k_114 k_1902 (by decide +kernel) ⟨Nat.le_of_ble_eq_true rfl, Nat.le_of_ble_eq_true rfl⟩ (rfl) hl.1 rfl (Nat.le_of_ble_eq_true rfl) dX11_change_15 (fun r11 u H locs hw hP hD hS => ?_)
    refine lv_istore_n (lv' := [(2, .int r11), (0, .ref y0), (1, .int p1)]) hx hb dX11_change_18 rfl hl (by decide) rfl (fun ls hl => ?_)
    refine lv_iconst (v := (-1)) hx hb dX11_change_19 (by decide) ?_
    refine lv_istore_n (lv' := [(3, .int (-1)), (2, .int r11), (0, .ref y0), (1, .int p1)]) hx hb dX11_change_20 rfl hl (by decide) rfl (fun ls hl => ?_)
    refine lv_iconst (v := 0) hx hb dX11_change_21 (by decide) ?_
    refine lv_istore (lv' := [(4, .int 0), (3, .int (-1)), (2, .int r11), (0, .ref y0), (1, .int p1)]) hx hb dX11_change_22 hl (by decide) rfl (fun ls hl => ?_)
    have lp12 : ∀ (n12 : Nat) (l2_12 : Int32) (l3_12 : Int32) (l4_12 : Int32) (v12 : Nat → Int32) (f12 : Nat → Nat → Int32) (w12 : Int64) (g12 : Nat → Int64), YI v12 → YC f12 → progOK (f12 4) (f12 5) (v12 9).toInt.toNat → v12 0 = (v 0) → v12 1 = (v 1) → v12 2 = (v 2) → v12 3 = (v 3) → v12 4 = (v 4) → v12 5 = (v 5) → v12 8 = (v 8) → v12 9 = (v 9) → v12 10 = (v 10) → v12 13 = (v 13) → v12 14 = (v 14) → v12 15 = (v 15) → v12 17 = (v 17) → v12 18 = (v 18) → v12 24 = (v 24) → v12 25 = (v 25) → v12 35 = (v 35) → v12 36 = (v 36) → v12 38 = (v 38) → v12 39 = (v 39) → ((0 : Int) ≤ l4_12.toInt ∧ l4_12.toInt ≤ 2147483647) → KV [] v12 v → KF [7, 8, 24] f12 f → (2147483647 - l4_12.toInt).toNat < n12 → ∀ (H : Heap) (locs : List Loc) (ls : Array Slot), va_P (dC, dI) vwCl (YW cy y0 r v12 f12 w12 g12) H → va_D A (YW cy y0 r v12 f12 w12 g12) → va_S A s.heap H locs → lv_has ls 7 [(4, .int l4_12), (3, .int l3_12), (2, .int l2_12), (0, .ref y0), (1, .int p1)] → W p l e { frames := 8, cells := 0, slots := 0, locals := 211 } s m ([.ref y0, .int p1] : List Value).toArray below meth c H locs 0 0 Q (F0 m 24 ls []) := by
      intro n12
      induction n12 with
      | zero => intro l2_12 l3_12 l4_12 v12 f12 w12 g12 hIv12 hCf12 hRf12 hq0_v12 hq1_v12 hq2_v12 hq3_v12 hq4_v12 hq5_v12 hq8_v12 hq9_v12 hq10_v12 hq13_v12 hq14_v12 hq15_v12 hq17_v12 hq18_v12 hq24_v12 hq25_v12 hq35_v12 hq36_v12 hq38_v12 hq39_v12 hr4_12 hM_v12 hA_f12 hm; exact absurd hm (Nat.not_lt_zero _)
      | succ n12 ih12 =>
        intro l2_12 l3_12 l4_12 v12 f12 w12 g12 hIv12 hCf12 hRf12 hq0_v12 hq1_v12 hq2_v12 hq3_v12 hq4_v12 hq5_v12 hq8_v12 hq9_v12 hq10_v12 hq13_v12 hq14_v12 hq15_v12 hq17_v12 hq18_v12 hq24_v12 hq25_v12 hq35_v12 hq36_v12 hq38_v12 hq39_v12 hr4_12 hM_v12 hA_f12 hm12 H locs ls hP hD hS hl
        have hUv12 : (v12 35).toInt + (v12 36).toInt ≤ 40 := hIv12.2
        have zq9_v12 := congrArg Int32.toInt hq9_v12
        refine lv_iload hx hb dX11_change_24 (lv_at hl 0 rfl) ?_
        refine lv_aload_n hx hb dX11_change_26 rfl (lv_at hl 3 rfl) ?_
        refine va_get (D := (dC, dI)) (ci := 11) (v := .int (v12 24)) (C := RX11) (T := TX11) (N := 79) hx hb hts inB_11 hown hE.1 hP 0 rfl rfl 48 (by decide) (hts _ k_1368) (fun _ h9 => h9) rfl dX11_change_27 ?_
        refine tI (y := (v 24)) hq24_v12 ?_
        have b24_v : 0 ≤ (v 24).toInt ∧ (v 24).toInt ≤ 6 := YIb.b hIv.1 24 (by decide)
        refine lv_icmp_ge (tgt := 134) hx hb dX11_change_30 (by decide) (fun c13 => ?_) (fun c13 => ?_)
        · skip
          have zc13 : (v 24).toInt ≤ l4_12.toInt := by rw [fa_le] at c13; exact c13
          have rg14 := fb_rng l4_12
          have rg15 := fb_rng (v 24)
          refine lv_iload_n hx hb dX11_change_134 rfl (lv_at hl 1 rfl) ?_
          refine lv_if_ge (tgt := 142) hx hb dX11_change_135 (by decide) (fun c16 => ?_) (fun c16 => ?_)
          · skip
            have zc16 : 0 ≤ l3_12.toInt := by rw [fa_le, show (0 : Int32).toInt = 0 from by decide] at c16; exact c16
            refine lv_iload_n hx hb dX11_change_142 rfl (lv_at hl 4 rfl) ?_
            refine lv_if_ne (tgt := 153) hx hb dX11_change_143 (by decide) (fun c17 => ?_) (fun c17 => ?_)
            · skip
              have zc17 : ¬ (p1.toInt = 0) := by rw [fa_eq, show (0 : Int32).toInt = 0 from by decide] at c17; exact c17
              refine lv_iload_n hx hb dX11_change_153 rfl (lv_at hl 4 rfl) ?_
              refine lv_iconst (v := 1) hx hb dX11_change_154 (by decide) ?_
              refine lv_icmp_ne (tgt := 165) hx hb dX11_change_155 (by decide) (fun c18 => ?_) (fun c18 => ?_)
              · skip
                have zc18 : ¬ (p1.toInt = 1) := by rw [fa_eq, show (1 : Int32).toInt = 1 from by decide] at c18; exact c18
                refine lv_iload_n hx hb dX11_change_165 rfl (lv_at hl 2 rfl) ?_
                exact ret l2_12 (v12, f12, w12, g12) _ _ _ _ _ _ rfl ⟨hM_v12, hA_f12, hIv12, hCf12, hRf12, hq0_v12, hq1_v12, hq2_v12, hq3_v12, hq4_v12, hq5_v12, hq8_v12, hq9_v12, hq10_v12, hq13_v12, hq14_v12, hq15_v12, hq17_v12, hq18_v12, hq24_v12, hq25_v12, hq35_v12, hq36_v12, hq38_v12, hq39_v12⟩ hP hD hS dX11_change_166 (Nat.le_refl _) (Nat.le_refl _)
              · skip
                have zc18 : p1.toInt = 1 := by rw [fa_eq, show (1 : Int32).toInt = 1 from by decide] at c18; exact c18
                refine lv_iload_n hx hb dX11_change_158 rfl (lv_at hl 1 rfl) ?_
                refine lv_bipush (v := 6) hx hb dX11_change_159 (by decide) ?_
                refine lv_irem hx hb dX11_change_161 (by decide) ?_
                refine lv_topi (fun t19 et19 => ?_)
                have zt19 : 0 ≤ t19.toInt ∧ t19.toInt < 6 := by rw [et19]; exact rem_rng (zx := l3_12.toInt) (zy := 6) rfl (by decide) (by omega) (by omega)
                refine lv_goto (tgt := 166) hx hb dX11_change_162 (by decide) ?_
                exact ret t19 (v12, f12, w12, g12) _ _ _ _ _ _ rfl ⟨hM_v12, hA_f12, hIv12, hCf12, hRf12, hq0_v12, hq1_v12, hq2_v12, hq3_v12, hq4_v12, hq5_v12, hq8_v12, hq9_v12, hq10_v12, hq13_v12, hq14_v12, hq15_v12, hq17_v12, hq18_v12, hq24_v12, hq25_v12, hq35_v12, hq36_v12, hq38_v12, hq39_v12⟩ hP hD hS dX11_change_166 (Nat.le_refl _) (Nat.le_refl _)
            · skip
              have zc17 : p1.toInt = 0 := by rw [fa_eq, show (0 : Int32).toInt = 0 from by decide] at c17; exact c17
              refine lv_iload_n hx hb dX11_change_146 rfl (lv_at hl 1 rfl) ?_
              refine lv_bipush (v := 6) hx hb dX11_change_147 (by decide) ?_
              refine lv_idiv hx hb dX11_change_149 (by decide) ?_
              refine lv_topi (fun t20 et20 => ?_)
              have zt20 : 0 ≤ t20.toInt ∧ t20.toInt ≤ l3_12.toInt := by rw [et20]; exact div_rng (zx := l3_12.toInt) (zy := 6) rfl (by decide) (by omega) (by omega)
              refine lv_goto (tgt := 166) hx hb dX11_change_150 (by decide) ?_
              exact ret t20 (v12, f12, w12, g12) _ _ _ _ _ _ rfl ⟨hM_v12, hA_f12, hIv12, hCf12, hRf12, hq0_v12, hq1_v12, hq2_v12, hq3_v12, hq4_v12, hq5_v12, hq8_v12, hq9_v12, hq10_v12, hq13_v12, hq14_v12, hq15_v12, hq17_v12, hq18_v12, hq24_v12, hq25_v12, hq35_v12, hq36_v12, hq38_v12, hq39_v12⟩ hP hD hS dX11_change_166 (Nat.le_refl _) (Nat.le_refl _)
          · skip
            have zc16 : ¬ (0 ≤ l3_12.toInt) := by rw [fa_le, show (0 : Int32).toInt = 0 from by decide] at c16; exact c16
            refine lv_iconst (v := (-1)) hx hb dX11_change_138 (by decide) ?_
            refine lv_goto (tgt := 166) hx hb dX11_change_139 (by decide) ?_
            exact ret (-1) (v12, f12, w12, g12) _ _ _ _ _ _ rfl ⟨hM_v12, hA_f12, hIv12, hCf12, hRf12, hq0_v12, hq1_v12, hq2_v12, hq3_v12, hq4_v12, hq5_v12, hq8_v12, hq9_v12, hq10_v12, hq13_v12, hq14_v12, hq15_v12, hq17_v12, hq18_v12, hq24_v12, hq25_v12, hq35_v12, hq36_v12, hq38_v12, hq39_v12⟩ hP hD hS dX11_change_166 (Nat.le_refl _) (Nat.le_refl _)
        · skip
          have zc13 : ¬ ((v 24).toInt ≤ l4_12.toInt) := by rw [fa_le] at c13; exact c13
          have rg21 := fb_rng l4_12
          have rg22 := fb_rng (v 24)
          refine lv_iload hx hb dX11_change_33 (lv_at hl 0 rfl) ?_
          refine lv_iconst (v := 1) hx hb dX11_change_35 (by decide) ?_
          refine lv_iadd hx hb dX11_change_36 ?_
          refine lv_topi (fun t23 et23 => ?_)
          have zt23 : t23.toInt = l4_12.toInt + 1 := by rw [et23]; exact add_i rfl (by decide) (by omega) (by omega)
          refine lv_istore (lv' := [(5, .int t23), (4, .int l4_12), (3, .int l3_12), (2, .int l2_12), (0, .ref y0), (1, .int p1)]) hx hb dX11_change_37 hl (by decide) rfl (fun ls hl => ?_)
          have lp24 : ∀ (n24 : Nat) (l2_24 : Int32) (l3_24 : Int32) (l5_24 : Int32) (v24 : Nat → Int32) (f24 : Nat → Nat → Int32) (w24 : Int64) (g24 : Nat → Int64), YI v24 → YC f24 → progOK (f24 4) (f24 5) (v24 9).toInt.toNat → v24 0 = (v 0) → v24 1 = (v 1) → v24 2 = (v 2) → v24 3 = (v 3) → v24 4 = (v 4) → v24 5 = (v 5) → v24 8 = (v 8) → v24 9 = (v 9) → v24 10 = (v 10) → v24 13 = (v 13) → v24 14 = (v 14) → v24 15 = (v 15) → v24 17 = (v 17) → v24 18 = (v 18) → v24 24 = (v 24) → v24 25 = (v 25) → v24 35 = (v 35) → v24 36 = (v 36) → v24 38 = (v 38) → v24 39 = (v 39) → ((1 : Int) ≤ l5_24.toInt ∧ l5_24.toInt ≤ 2147483647) → KV [] v24 v → KF [7, 8, 24] f24 f → (2147483647 - l5_24.toInt).toNat < n24 → ∀ (H : Heap) (locs : List Loc) (ls : Array Slot), va_P (dC, dI) vwCl (YW cy y0 r v24 f24 w24 g24) H → va_D A (YW cy y0 r v24 f24 w24 g24) → va_S A s.heap H locs → lv_has ls 7 [(5, .int l5_24), (4, .int l4_12), (3, .int l3_24), (2, .int l2_24), (0, .ref y0), (1, .int p1)] → W p l e { frames := 8, cells := 0, slots := 0, locals := 211 } s m ([.ref y0, .int p1] : List Value).toArray below meth c H locs 0 0 Q (F0 m 39 ls []) := by
            intro n24
            induction n24 with
            | zero => intro l2_24 l3_24 l5_24 v24 f24 w24 g24 hIv24 hCf24 hRf24 hq0_v24 hq1_v24 hq2_v24 hq3_v24 hq4_v24 hq5_v24 hq8_v24 hq9_v24 hq10_v24 hq13_v24 hq14_v24 hq15_v24 hq17_v24 hq18_v24 hq24_v24 hq25_v24 hq35_v24 hq36_v24 hq38_v24 hq39_v24 hr5_24 hM_v24 hA_f24 hm; exact absurd hm (Nat.not_lt_zero _)
            | succ n24 ih24 =>
              intro l2_24 l3_24 l5_24 v24 f24 w24 g24 hIv24 hCf24 hRf24 hq0_v24 hq1_v24 hq2_v24 hq3_v24 hq4_v24 hq5_v24 hq8_v24 hq9_v24 hq10_v24 hq13_v24 hq14_v24 hq15_v24 hq17_v24 hq18_v24 hq24_v24 hq25_v24 hq35_v24 hq36_v24 hq38_v24 hq39_v24 hr5_24 hM_v24 hA_f24 hm24 H locs ls hP hD hS hl
              have hUv24 : (v24 35).toInt + (v24 36).toInt ≤ 40 := hIv24.2
              have zq9_v24 := congrArg Int32.toInt hq9_v24
              refine lv_iload hx hb dX11_change_39 (lv_at hl 0 rfl) ?_
              refine lv_aload_n hx hb dX11_change_41 rfl (lv_at hl 4 rfl) ?_
              refine va_get (D := (dC, dI)) (ci := 11) (v := .int (v24 24)) (C := RX11) (T := TX11) (N := 79) hx hb hts inB_11 hown hE.1 hP 0 rfl rfl 48 (by decide) (hts _ k_1368) (fun _ h9 => h9) rfl dX11_change_42 ?_
              refine tI (y := (v 24)) hq24_v24 ?_
              have b24_v : 0 ≤ (v 24).toInt ∧ (v 24).toInt ≤ 6 := YIb.b hIv.1 24 (by decide)
              refine lv_icmp_ge (tgt := 128) hx hb dX11_change_45 (by decide) (fun c25 => ?_) (fun c25 => ?_)
              · skip
                have zc25 : (v 24).toInt ≤ l5_24.toInt := by rw [fa_le] at c25; exact c25
                have rg26 := fb_rng l5_24
                obtain ⟨t27, et27⟩ : ∃ y : Int32, y = l4_12 + 1 := ⟨_, rfl⟩
                have zt27 : t27.toInt = l4_12.toInt + 1 := by rw [et27]; exact add_i rfl (by decide) (by omega) (by omega)
                refine lv_iinc (v := t27) (lv' := [(4, .int t27), (5, .int l5_24), (3, .int l3_24), (2, .int l2_24), (0, .ref y0), (1, .int p1)]) hx hb dX11_change_128 hl (k := 1) rfl (by rw [et27]; rfl) (by decide) rfl (fun ls hl => ?_)
                refine lv_goto (tgt := 24) hx hb dX11_change_131 (by decide) ?_
                have rg28 := fb_rng t27
                exact ih12 l2_24 l3_24 t27 v24 f24 w24 g24 hIv24 hCf24 hRf24 hq0_v24 hq1_v24 hq2_v24 hq3_v24 hq4_v24 hq5_v24 hq8_v24 hq9_v24 hq10_v24 hq13_v24 hq14_v24 hq15_v24 hq17_v24 hq18_v24 hq24_v24 hq25_v24 hq35_v24 hq36_v24 hq38_v24 hq39_v24 ⟨show (0 : Int) ≤ t27.toInt by omega, show t27.toInt ≤ (2147483647 : Int) by omega⟩ hM_v24 hA_f24 (by show (2147483647 - t27.toInt).toNat < n12; omega) _ _ _ hP hD hS (lv_sub hl [0, 2, 3, 4, 5] rfl)
              · skip
                have zc25 : ¬ ((v 24).toInt ≤ l5_24.toInt) := by rw [fa_le] at c25; exact c25
                have rg29 := fb_rng l5_24
                refine lv_aload_n hx hb dX11_change_48 rfl (lv_at hl 4 rfl) ?_
                refine cbVv (n := 0) (rest := []) hx hb hml hown hts hE hP hD hS hA (sY_X11_fill_1 0 l dC dI cy y0 r  v24 f24 w24 g24 hIv24 hCf24 hRf24 ) k_1739 k_1741 k_71 k_114 k_1742 (by decide +kernel) ⟨Nat.le_of_ble_eq_true rfl, Nat.le_of_ble_eq_true rfl⟩ 0 11 rfl rfl (rfl) hl.1 rfl (Nat.le_of_ble_eq_true rfl) dX11_change_49 (fun u H locs hw hP hD hS => ?_)
                obtain ⟨hG30, hw⟩ := hw
                obtain ⟨v31, f32, w33, g34⟩ := u
                obtain ⟨kV_v31, kF_f32, hIv31, hCf32, hRf32, hk0_v31, hk1_v31, hk2_v31, hk3_v31, hk4_v31, hk5_v31, hk8_v31, hk9_v31, hk10_v31, hk13_v31, hk14_v31, hk15_v31, hk17_v31, hk18_v31, hk24_v31, hk25_v31, hk35_v31, hk36_v31, hk38_v31, hk39_v31⟩ := hw
                have hM_v31 : KV [] v31 v := KV.tr kV_v31 hM_v24 rfl
                have hA_f32 : KF [7, 8, 24] f32 f := KF.tr kF_f32 hA_f24 rfl
                have hP : va_P (dC, dI) vwCl (YW cy y0 r v31 f32 w33 g34) H := hP
                have hD : va_D A (YW cy y0 r v31 f32 w33 g34) := hD
                have hUv31 : (v31 35).toInt + (v31 36).toInt ≤ 40 := hIv31.2
                have hq0_v31 : v31 0 = (v 0) := hk0_v31.trans hq0_v24
                have hq1_v31 : v31 1 = (v 1) := hk1_v31.trans hq1_v24
                have hq2_v31 : v31 2 = (v 2) := hk2_v31.trans hq2_v24
                have hq3_v31 : v31 3 = (v 3) := hk3_v31.trans hq3_v24
                have hq4_v31 : v31 4 = (v 4) := hk4_v31.trans hq4_v24
                have hq5_v31 : v31 5 = (v 5) := hk5_v31.trans hq5_v24
                have hq8_v31 : v31 8 = (v 8) := hk8_v31.trans hq8_v24
                have hq9_v31 : v31 9 = (v 9) := hk9_v31.trans hq9_v24
                have zq9_v31 := congrArg Int32.toInt hq9_v31
                have hq10_v31 : v31 10 = (v 10) := hk10_v31.trans hq10_v24
                have hq13_v31 : v31 13 = (v 13) := hk13_v31.trans hq13_v24
                have hq14_v31 : v31 14 = (v 14) := hk14_v31.trans hq14_v24
                have hq15_v31 : v31 15 = (v 15) := hk15_v31.trans hq15_v24
                have hq17_v31 : v31 17 = (v 17) := hk17_v31.trans hq17_v24
                have hq18_v31 : v31 18 = (v 18) := hk18_v31.trans hq18_v24
                have hq24_v31 : v31 24 = (v 24) := hk24_v31.trans hq24_v24
                have hq25_v31 : v31 25 = (v 25) := hk25_v31.trans hq25_v24
                have hq35_v31 : v31 35 = (v 35) := hk35_v31.trans hq35_v24
                have hq36_v31 : v31 36 = (v 36) := hk36_v31.trans hq36_v24
                have hq38_v31 : v31 38 = (v 38) := hk38_v31.trans hq38_v24
                have hq39_v31 : v31 39 = (v 39) := hk39_v31.trans hq39_v24
                refine lv_aload_n hx hb dX11_change_52 rfl (lv_at hl 4 rfl) ?_
                refine va_get (D := (dC, dI)) (ci := 11) (v := .ref (r 60)) (C := RX11) (T := TX11) (N := 79) hx hb hts inB_11 hown hE.1 hP 0 rfl rfl 60 (by decide) (hts _ k_1380) (fun _ h9 => h9) rfl dX11_change_53 ?_
                refine lv_bipush (v := 6) hx hb dX11_change_56 (by decide) ?_
                refine lv_iload hx hb dX11_change_58 (lv_at hl 1 rfl) ?_
                refine lv_iadd hx hb dX11_change_60 ?_
                refine lv_topi (fun t35 et35 => ?_)
                have zt35 : t35.toInt = 6 + l4_12.toInt := by rw [et35]; exact add_i (by decide) rfl (by omega) (by omega)
                refine lv_aload_n hx hb dX11_change_61 rfl (lv_at hl 4 rfl) ?_
                refine va_get (D := (dC, dI)) (ci := 11) (v := .ref (r 59)) (C := RX11) (T := TX11) (N := 79) hx hb hts inB_11 hown hE.1 hP 0 rfl rfl 59 (by decide) (hts _ k_1379) (fun _ h9 => h9) rfl dX11_change_62 ?_
                refine lv_bipush (v := 6) hx hb dX11_change_65 (by decide) ?_
                refine lv_iload hx hb dX11_change_67 (lv_at hl 0 rfl) ?_
                refine lv_iadd hx hb dX11_change_69 ?_
                refine lv_topi (fun t36 et36 => ?_)
                have zt36 : t36.toInt = 6 + l5_24.toInt := by rw [et36]; exact add_i (by decide) rfl (by omega) (by omega)
                refine ldI hx hb hE hP 24 rfl (vp_in_iff.mpr ⟨by omega, by omega⟩) rfl rfl dX11_change_70 ?_
                refine lv_topi (fun t37 et37 => ?_)
                have zt37 : t36.toInt.toNat % 39 < 6 ∨ 12 ≤ t36.toInt.toNat % 39 ∨ (-1 ≤ t37.toInt ∧ t37.toInt ≤ 5) := by rw [et37]; exact wear_ld hCf32.1 (show t36.toInt.toNat < 39 by omega)
                refine stI hx hb hE hP hD hS 25 rfl (vp_in_iff.mpr ⟨by omega, by omega⟩) rfl dX11_change_71 (fun H locs hP hD hS => ?_)
                obtain ⟨f38, ef38, hP, hD⟩ : ∃ fz9, fz9 = upd2 f32 24 (upd (f32 24) t35.toNatClampNeg t37) ∧ va_P (dC, dI) vwCl (YW cy y0 r v31 fz9 w33 g34) H ∧ va_D A (YW cy y0 r v31 fz9 w33 g34) := ⟨_, rfl, hP, hD⟩
                have hCf38 : YC f38 := by rw [ef38]; exact ⟨hCf32.1, (wear_st hCf32.2.1 (by show t35.toInt.toNat % 39 < 6 ∨ 12 ≤ t35.toInt.toNat % 39 ∨ (-1 ≤ t37.toInt ∧ t37.toInt ≤ 5); omega)), hCf32.2.2.1, hCf32.2.2.2.1, hCf32.2.2.2.2.1, hCf32.2.2.2.2.2⟩
                have hRf38 : progOK (f38 4) (f38 5) (v31 9).toInt.toNat := by rw [ef38]; exact hRf32
                have hA_f38 : KF [7, 8, 24] f38 f := by rw [ef38]; exact KF.up hA_f32 rfl
                refine lv_aload_n hx hb dX11_change_72 rfl (lv_at hl 4 rfl) ?_
                refine va_get (D := (dC, dI)) (ci := 11) (v := .ref (r 60)) (C := RX11) (T := TX11) (N := 79) hx hb hts inB_11 hown hE.1 hP 0 rfl rfl 60 (by decide) (hts _ k_1380) (fun _ h9 => h9) rfl dX11_change_73 ?_
                refine lv_bipush (v := 6) hx hb dX11_change_76 (by decide) ?_
                refine lv_iload hx hb dX11_change_78 (lv_at hl 0 rfl) ?_
                refine lv_iadd hx hb dX11_change_80 ?_
                refine tI (y := t36) et36.symm ?_
                refine lv_aload_n hx hb dX11_change_81 rfl (lv_at hl 4 rfl) ?_
                refine va_get (D := (dC, dI)) (ci := 11) (v := .ref (r 59)) (C := RX11) (T := TX11) (N := 79) hx hb hts inB_11 hown hE.1 hP 0 rfl rfl 59 (by decide) (hts _ k_1379) (fun _ h9 => h9) rfl dX11_change_82 ?_
                refine lv_bipush (v := 6) hx hb dX11_change_85 (by decide) ?_
                refine lv_iload hx hb dX11_change_87 (lv_at hl 1 rfl) ?_
                refine lv_iadd hx hb dX11_change_89 ?_
                refine tI (y := t35) et35.symm ?_
                refine ldI hx hb hE hP 24 rfl (vp_in_iff.mpr ⟨by omega, by omega⟩) rfl rfl dX11_change_90 ?_
                refine lv_topi (fun t39 et39 => ?_)
                have zt39 : t35.toInt.toNat % 39 < 6 ∨ 12 ≤ t35.toInt.toNat % 39 ∨ (-1 ≤ t39.toInt ∧ t39.toInt ≤ 5) := by rw [et39]; exact wear_ld hCf38.1 (show t35.toInt.toNat < 39 by omega)
                refine stI hx hb hE hP hD hS 25 rfl (vp_in_iff.mpr ⟨by omega, by omega⟩) rfl dX11_change_91 (fun H locs hP hD hS => ?_)
                obtain ⟨f40, ef40, hP, hD⟩ : ∃ fz9, fz9 = upd2 f38 24 (upd (f38 24) t36.toNatClampNeg t39) ∧ va_P (dC, dI) vwCl (YW cy y0 r v31 fz9 w33 g34) H ∧ va_D A (YW cy y0 r v31 fz9 w33 g34) := ⟨_, rfl, hP, hD⟩
                have hCf40 : YC f40 := by rw [ef40]; exact ⟨hCf38.1, (wear_st hCf38.2.1 (by show t36.toInt.toNat % 39 < 6 ∨ 12 ≤ t36.toInt.toNat % 39 ∨ (-1 ≤ t39.toInt ∧ t39.toInt ≤ 5); omega)), hCf38.2.2.1, hCf38.2.2.2.1, hCf38.2.2.2.2.1, hCf38.2.2.2.2.2⟩
                have hRf40 : progOK (f40 4) (f40 5) (v31 9).toInt.toNat := by rw [ef40]; exact hRf38
                have hA_f40 : KF [7, 8, 24] f40 f := by rw [ef40]; exact KF.up hA_f38 rfl
                refine lv_aload_n hx hb dX11_change_92 rfl (lv_at hl 4 rfl) ?_
                refine cbVi (n := 0) (rest := []) hx hb hml hown hts hE hP hD hS hA (sY_X11_fittedOnes_1 0 l dC dI cy y0 r  v31 f40 w33 g34 hIv31 hCf40 hRf40 ) k_1809 k_1811 k_81 k_114 k_1812 (by decide +kernel) ⟨Nat.le_of_ble_eq_true rfl, Nat.le_of_ble_eq_true rfl⟩ 0 11 rfl rfl (rfl) hl.1 rfl (Nat.le_of_ble_eq_true rfl) dX11_change_93 (fun r41 u H locs hw hP hD hS => ?_)
                obtain ⟨hG42, hw⟩ := hw
                obtain ⟨v43, f44, w45, g46⟩ := u
                obtain ⟨kV_v43, kF_f44, hIv43, hCf44, hRf44, hk0_v43, hk1_v43, hk2_v43, hk3_v43, hk4_v43, hk5_v43, hk8_v43, hk9_v43, hk10_v43, hk13_v43, hk14_v43, hk15_v43, hk17_v43, hk18_v43, hk24_v43, hk25_v43, hk35_v43, hk36_v43, hk38_v43, hk39_v43⟩ := hw
                have hM_v43 : KV [] v43 v := KV.tr kV_v43 hM_v31 rfl
                have hA_f44 : KF [7, 8, 24] f44 f := KF.tr kF_f44 hA_f40 rfl
                have hP : va_P (dC, dI) vwCl (YW cy y0 r v43 f44 w45 g46) H := hP
                have hD : va_D A (YW cy y0 r v43 f44 w45 g46) := hD
                have hUv43 : (v43 35).toInt + (v43 36).toInt ≤ 40 := hIv43.2
                have hq0_v43 : v43 0 = (v 0) := hk0_v43.trans hq0_v31
                have hq1_v43 : v43 1 = (v 1) := hk1_v43.trans hq1_v31
                have hq2_v43 : v43 2 = (v 2) := hk2_v43.trans hq2_v31
                have hq3_v43 : v43 3 = (v 3) := hk3_v43.trans hq3_v31
                have hq4_v43 : v43 4 = (v 4) := hk4_v43.trans hq4_v31
                have hq5_v43 : v43 5 = (v 5) := hk5_v43.trans hq5_v31
                have hq8_v43 : v43 8 = (v 8) := hk8_v43.trans hq8_v31
                have hq9_v43 : v43 9 = (v 9) := hk9_v43.trans hq9_v31
                have zq9_v43 := congrArg Int32.toInt hq9_v43
                have hq10_v43 : v43 10 = (v 10) := hk10_v43.trans hq10_v31
                have hq13_v43 : v43 13 = (v 13) := hk13_v43.trans hq13_v31
                have hq14_v43 : v43 14 = (v 14) := hk14_v43.trans hq14_v31
                have hq15_v43 : v43 15 = (v 15) := hk15_v43.trans hq15_v31
                have hq17_v43 : v43 17 = (v 17) := hk17_v43.trans hq17_v31
                have hq18_v43 : v43 18 = (v 18) := hk18_v43.trans hq18_v31
                have hq24_v43 : v43 24 = (v 24) := hk24_v43.trans hq24_v31
                have hq25_v43 : v43 25 = (v 25) := hk25_v43.trans hq25_v31
                have hq35_v43 : v43 35 = (v 35) := hk35_v43.trans hq35_v31
                have hq36_v43 : v43 36 = (v 36) := hk36_v43.trans hq36_v31
                have hq38_v43 : v43 38 = (v 38) := hk38_v43.trans hq38_v31
                have hq39_v43 : v43 39 = (v 39) := hk39_v43.trans hq39_v31
                refine cbSi (n := 1) (rest := []) hx hb hml hown hts hE hP hD hS hA (sY_X11_members_1 l dC dI cy y0 r r41 v43 f44 w45 g46 hIv43 hCf44 hRf44 ) k_1900 k_1901 k_114 k_1902 (by decide +kernel) ⟨Nat.le_of_ble_eq_true rfl, Nat.le_of_ble_eq_true rfl⟩ (rfl) hl.1 rfl (Nat.le_of_ble_eq_true rfl) dX11_change_96 (fun r47 u H locs hw hP hD hS => ?_)
                refine lv_istore (lv' := [(6, .int r47), (5, .int l5_24), (4, .int l4_12), (3, .int l3_24), (2, .int l2_24), (0, .ref y0), (1, .int p1)]) hx hb dX11_change_99 hl (by decide) rfl (fun ls hl => ?_)
                refine lv_iload hx hb dX11_change_101 (lv_at hl 0 rfl) ?_
                refine lv_iload_n hx hb dX11_change_103 rfl (lv_at hl 4 rfl) ?_
                refine lv_icmp_gt (tgt := 110) hx hb dX11_change_104 (by decide) (fun c48 => ?_) (fun c48 => ?_)
                · skip
                  have zc48 : l2_24.toInt < r47.toInt := by rw [fa_lt] at c48; exact c48
                  have rg49 := fb_rng r47
                  have rg50 := fb_rng l2_24
                  refine lv_iload hx hb dX11_change_110 (lv_at hl 0 rfl) ?_
                  refine lv_istore_n (lv' := [(2, .int r47), (6, .int r47), (5, .int l5_24), (4, .int l4_12), (3, .int l3_24), (0, .ref y0), (1, .int p1)]) hx hb dX11_change_112 rfl hl (by decide) rfl (fun ls hl => ?_)
                  refine lv_bipush (v := 6) hx hb dX11_change_113 (by decide) ?_
                  refine lv_iload hx hb dX11_change_115 (lv_at hl 3 rfl) ?_
                  refine lv_imul hx hb dX11_change_117 ?_
                  refine lv_topi (fun t51 et51 => ?_)
                  have zt51 : t51.toInt = 6 * l4_12.toInt := by rw [et51]; exact mul_i (by decide) rfl (by omega) (by omega)
                  refine lv_iload hx hb dX11_change_118 (lv_at hl 2 rfl) ?_
                  refine lv_iadd hx hb dX11_change_120 ?_
                  refine lv_topi (fun t52 et52 => ?_)
                  have rg53 := fb_rng t51
                  have zt52 : t52.toInt = t51.toInt + l5_24.toInt := by rw [et52]; exact add_i rfl rfl (by omega) (by omega)
                  refine lv_istore_n (lv' := [(3, .int t52), (2, .int r47), (6, .int r47), (5, .int l5_24), (4, .int l4_12), (0, .ref y0), (1, .int p1)]) hx hb dX11_change_121 rfl hl (by decide) rfl (fun ls hl => ?_)
                  obtain ⟨t54, et54⟩ : ∃ y : Int32, y = l5_24 + 1 := ⟨_, rfl⟩
                  have zt54 : t54.toInt = l5_24.toInt + 1 := by rw [et54]; exact add_i rfl (by decide) (by omega) (by omega)
                  refine lv_iinc (v := t54) (lv' := [(5, .int t54), (3, .int t52), (2, .int r47), (6, .int r47), (4, .int l4_12), (0, .ref y0), (1, .int p1)]) hx hb dX11_change_122 hl (k := 3) rfl (by rw [et54]; rfl) (by decide) rfl (fun ls hl => ?_)
                  refine lv_goto (tgt := 39) hx hb dX11_change_125 (by decide) ?_
                  have rg55 := fb_rng t54
                  exact ih24 r47 t52 t54 v43 f44 w45 g46 hIv43 hCf44 hRf44 hq0_v43 hq1_v43 hq2_v43 hq3_v43 hq4_v43 hq5_v43 hq8_v43 hq9_v43 hq10_v43 hq13_v43 hq14_v43 hq15_v43 hq17_v43 hq18_v43 hq24_v43 hq25_v43 hq35_v43 hq36_v43 hq38_v43 hq39_v43 ⟨show (1 : Int) ≤ t54.toInt by omega, show t54.toInt ≤ (2147483647 : Int) by omega⟩ hM_v43 hA_f44 (by show (2147483647 - t54.toInt).toNat < n24; omega) _ _ _ hP hD hS (lv_sub hl [0, 4, 1, 2, 5, 6] rfl)
                · skip
                  have zc48 : ¬ (l2_24.toInt < r47.toInt) := by rw [fa_lt] at c48; exact c48
                  have rg56 := fb_rng r47
                  have rg57 := fb_rng l2_24
                  refine lv_goto (tgt := 122) hx hb dX11_change_107 (by decide) ?_
                  obtain ⟨t58, et58⟩ : ∃ y : Int32, y = l5_24 + 1 := ⟨_, rfl⟩
                  have zt58 : t58.toInt = l5_24.toInt + 1 := by rw [et58]; exact add_i rfl (by decide) (by omega) (by omega)
                  refine lv_iinc (v := t58) (lv' := [(5, .int t58), (6, .int r47), (4, .int l4_12), (3, .int l3_24), (2, .int l2_24), (0, .ref y0), (1, .int p1)]) hx hb dX11_change_122 hl (k := 1) rfl (by rw [et58]; rfl) (by decide) rfl (fun ls hl => ?_)
                  refine lv_goto (tgt := 39) hx hb dX11_change_125 (by decide) ?_
                  have rg59 := fb_rng t58
                  exact ih24 l2_24 l3_24 t58 v43 f44 w45 g46 hIv43 hCf44 hRf44 hq0_v43 hq1_v43 hq2_v43 hq3_v43 hq4_v43 hq5_v43 hq8_v43 hq9_v43 hq10_v43 hq13_v43 hq14_v43 hq15_v43 hq17_v43 hq18_v43 hq24_v43 hq25_v43 hq35_v43 hq36_v43 hq38_v43 hq39_v43 ⟨show (1 : Int) ≤ t58.toInt by omega, show t58.toInt ≤ (2147483647 : Int) by omega⟩ hM_v43 hA_f44 (by show (2147483647 - t58.toInt).toNat < n24; omega) _ _ _ hP hD hS (lv_sub hl [0, 2, 3, 4, 5, 6] rfl)
          have rg60 := fb_rng t23
          exact lp24 _ l2_12 l3_12 t23 v12 f12 w12 g12 hIv12 hCf12 hRf12 hq0_v12 hq1_v12 hq2_v12 hq3_v12 hq4_v12 hq5_v12 hq8_v12 hq9_v12 hq10_v12 hq13_v12 hq14_v12 hq15_v12 hq17_v12 hq18_v12 hq24_v12 hq25_v12 hq35_v12 hq36_v12 hq38_v12 hq39_v12 ⟨show (1 : Int) ≤ t23.toInt by omega, show t23.toInt ≤ (2147483647 : Int) by omega⟩ hM_v12 hA_f12 (Nat.lt_succ_self _) _ _ _ hP hD hS (lv_sub hl [0, 1, 2, 3, 4, 5] rfl)
    exact lp12 _ r11 (-1) 0 v7 f8 w9 g10 hIv7 hCf8 hRf8 hq0_v7 hq1_v7 hq2_v7 hq3_v7 hq4_v7 hq5_v7 hq8_v7 hq9_v7 hq10_v7 hq13_v7 hq14_v7 hq15_v7 hq17_v7 hq18_v7 hq24_v7 hq25_v7 hq35_v7 hq36_v7 hq38_v7 hq39_v7 ⟨by decide, by decide⟩ hM_v7 hA_f8 (Nat.lt_succ_self _) _ _ _ hP hD hS (lv_sub hl [0, 1, 2, 3, 4] rfl)
  · skip
    subst g5
    refine lv_if_ne (tgt := 11) hx hb dX11_change_6 (by decide) (fun c0 => absurd (by decide) c0) (fun _ => ?_)
    refine lv_iconst (v := (-1)) hx hb dX11_change_9 (by decide) ?_
    exact ret (-1) (v, f, w, g) _ _ _ _ _ _ rfl ⟨hM_v, hA_f, hIv, hCf, hRf, rfl, rfl, rfl, rfl, rfl, rfl, rfl, rfl, rfl, rfl, rfl, rfl, rfl, rfl, rfl, rfl, rfl, rfl, rfl, rfl⟩ hP hD hS dX11_change_10 (Nat.le_refl _) (Nat.le_refl _)
set_option maxHeartbeats 4000000 in
set_option maxRecDepth 100000 in
theorem sY_X11_wideOf_1 (l : Launch) (dC : Nat → ClassId) (dI : Nat → Nat → Nat) (cy : Nat → ClassId) (y0 : Nat) (r : Nat → Nat) (p1 : Int32) (v : Nat → Int32) (f : Nat → Nat → Int32) (w : Int64) (g : Nat → Int64) (hIv : YI v) (hCf : YC f) (hRf : progOK (f 4) (f 5) (v 9).toInt.toNat)  : ctI l (dC, dI) cy yX11_wideOf cX11_wideOf 4 .int 1 60 0 0 Unit [.ref y0, .int p1] (YW cy y0 r v f w g) (fun r u => True) (fun u => YW cy y0 r v f w g) := by
  refine ctI_of (by decide) (Nat.le_of_ble_eq_true rfl) (fun p e s m below meth c A ls Q hx hb hml hts hown hE hP hD hA hl ret => ?_)
  have hUv : (v 35).toInt + (v 36).toInt ≤ 40 := hIv.2
  have hown : s.vm.findClass RX11 = some m.cls := hown
  have hS : va_S A s.heap s.heap [] := va_S.rf
  have hl : lv_has ls 4 [(0, .ref y0), (1, .int p1)] := hl
  refine lv_iconst (v := 0) hx hb dX11_wideOf_0 (by decide) ?_
  refine lv_istore_n (lv' := [(2, .int 0), (0, .ref y0), (1, .int p1)]) hx hb dX11_wideOf_1 rfl hl (by decide) rfl (fun ls hl => ?_)
  refine lv_iconst (v := 0) hx hb dX11_wideOf_2 (by decide) ?_
  refine lv_istore_n (lv' := [(3, .int 0), (2, .int 0), (0, .ref y0), (1, .int p1)]) hx hb dX11_wideOf_3 rfl hl (by decide) rfl (fun ls hl => ?_)
  have lp1 : ∀ (n1 : Nat) (l2_1 : Int32) (l3_1 : Int32), ((0 : Int) ≤ l3_1.toInt ∧ l3_1.toInt ≤ 2147483647) → (2147483647 - l3_1.toInt).toNat < n1 → ∀ (H : Heap) (locs : List Loc) (ls : Array Slot), va_P (dC, dI) vwCl (YW cy y0 r v f w g) H → va_D A (YW cy y0 r v f w g) → va_S A s.heap H locs → lv_has ls 4 [(3, .int l3_1), (2, .int l2_1), (0, .ref y0), (1, .int p1)] → W p l e { frames := 1, cells := 0, slots := 0, locals := 60 } s m ([.ref y0, .int p1] : List Value).toArray below meth c H locs 0 0 Q (F0 m 4 ls []) := by
    intro n1
    induction n1 with
    | zero => intro l2_1 l3_1 hr3_1 hm; exact absurd hm (Nat.not_lt_zero _)
    | succ n1 ih1 =>
      intro l2_1 l3_1 hr3_1 hm1 H locs ls hP hD hS hl
      refine lv_iload_n hx hb dX11_wideOf_4 rfl (lv_at hl 0 rfl) ?_
      refine lv_aload_n hx hb dX11_wideOf_5 rfl (lv_at hl 2 rfl) ?_
      refine va_get (D := (dC, dI)) (ci := 11) (v := .int (v 24)) (C := RX11) (T := TX11) (N := 79) hx hb hts inB_11 hown hE.1 hP 0 rfl rfl 48 (by decide) (hts _ k_1368) (fun _ h9 => h9) rfl dX11_wideOf_6 ?_
      have b24_v : 0 ≤ (v 24).toInt ∧ (v 24).toInt ≤ 6 := YIb.b hIv.1 24 (by decide)
      refine lv_icmp_ge (tgt := 51) hx hb dX11_wideOf_9 (by decide) (fun c2 => ?_) (fun c2 => ?_)
      · skip
        have zc2 : (v 24).toInt ≤ l3_1.toInt := by rw [fa_le] at c2; exact c2
        have rg3 := fb_rng l3_1
        have rg4 := fb_rng (v 24)
        refine lv_iload_n hx hb dX11_wideOf_51 rfl (lv_at hl 1 rfl) ?_
        exact ret l2_1 () _ _ _ _ _ _ rfl trivial hP hD hS dX11_wideOf_52 (Nat.le_refl _) (Nat.le_refl _)
      · skip
        have zc2 : ¬ ((v 24).toInt ≤ l3_1.toInt) := by rw [fa_le] at c2; exact c2
        have rg5 := fb_rng l3_1
        have rg6 := fb_rng (v 24)
        refine lv_iload_n hx hb dX11_wideOf_12 rfl (lv_at hl 1 rfl) ?_
        refine lv_iload_n hx hb dX11_wideOf_13 rfl (lv_at hl 3 rfl) ?_
        refine lv_iload_n hx hb dX11_wideOf_14 rfl (lv_at hl 0 rfl) ?_
        refine lv_ishr hx hb dX11_wideOf_15 ?_
        refine lv_topi (fun t7 et7 => ?_)
        refine lv_iconst (v := 1) hx hb dX11_wideOf_16 (by decide) ?_
        refine lv_iand hx hb dX11_wideOf_17 ?_
        refine lv_topi (fun t8 et8 => ?_)
        have zt8 : 0 ≤ t8.toInt ∧ t8.toInt < 2 := by rw [et8]; exact and_rng _ (k := 1) (by decide) (by decide)
        refine lv_iconst (v := 1) hx hb dX11_wideOf_18 (by decide) ?_
        refine lv_icmp_ne (tgt := 42) hx hb dX11_wideOf_19 (by decide) (fun c9 => ?_) (fun c9 => ?_)
        · skip
          have zc9 : ¬ (t8.toInt = 1) := by rw [fa_eq, show (1 : Int32).toInt = 1 from by decide] at c9; exact c9
          refine lv_iconst (v := 0) hx hb dX11_wideOf_42 (by decide) ?_
          refine lv_iadd hx hb dX11_wideOf_43 ?_
          refine lv_topi (fun t10 et10 => ?_)
          have rg11 := fb_rng l2_1
          have zt10 : t10.toInt = l2_1.toInt + 0 := by rw [et10]; exact add_i rfl (by decide) (by omega) (by omega)
          refine lv_istore_n (lv' := [(2, .int t10), (3, .int l3_1), (0, .ref y0), (1, .int p1)]) hx hb dX11_wideOf_44 rfl hl (by decide) rfl (fun ls hl => ?_)
          obtain ⟨t12, et12⟩ : ∃ y : Int32, y = l3_1 + 1 := ⟨_, rfl⟩
          have zt12 : t12.toInt = l3_1.toInt + 1 := by rw [et12]; exact add_i rfl (by decide) (by omega) (by omega)
          refine lv_iinc (v := t12) (lv' := [(3, .int t12), (2, .int t10), (0, .ref y0), (1, .int p1)]) hx hb dX11_wideOf_45 hl (k := 1) rfl (by rw [et12]; rfl) (by decide) rfl (fun ls hl => ?_)
          refine lv_goto (tgt := 4) hx hb dX11_wideOf_48 (by decide) ?_
          have rg13 := fb_rng t12
          exact ih1 t10 t12 ⟨show (0 : Int) ≤ t12.toInt by omega, show t12.toInt ≤ (2147483647 : Int) by omega⟩ (by show (2147483647 - t12.toInt).toNat < n1; omega) _ _ _ hP hD hS (lv_sub hl [0, 1, 2, 3] rfl)
        · skip
          have zc9 : t8.toInt = 1 := by rw [fa_eq, show (1 : Int32).toInt = 1 from by decide] at c9; exact c9
          refine lv_aload_n hx hb dX11_wideOf_22 rfl (lv_at hl 2 rfl) ?_
          refine va_get (D := (dC, dI)) (ci := 11) (v := .ref (r 60)) (C := RX11) (T := TX11) (N := 79) hx hb hts inB_11 hown hE.1 hP 0 rfl rfl 60 (by decide) (hts _ k_1380) (fun _ h9 => h9) rfl dX11_wideOf_23 ?_
          refine lv_bipush (v := 18) hx hb dX11_wideOf_26 (by decide) ?_
          refine lv_aload_n hx hb dX11_wideOf_28 rfl (lv_at hl 2 rfl) ?_
          refine va_get (D := (dC, dI)) (ci := 11) (v := .ref (r 60)) (C := RX11) (T := TX11) (N := 79) hx hb hts inB_11 hown hE.1 hP 0 rfl rfl 60 (by decide) (hts _ k_1380) (fun _ h9 => h9) rfl dX11_wideOf_29 ?_
          refine lv_bipush (v := 6) hx hb dX11_wideOf_32 (by decide) ?_
          refine lv_iload_n hx hb dX11_wideOf_34 rfl (lv_at hl 0 rfl) ?_
          refine lv_iadd hx hb dX11_wideOf_35 ?_
          refine lv_topi (fun t14 et14 => ?_)
          have zt14 : t14.toInt = 6 + l3_1.toInt := by rw [et14]; exact add_i (by decide) rfl (by omega) (by omega)
          refine ldI hx hb hE hP 25 rfl (vp_in_iff.mpr ⟨by omega, by omega⟩) rfl rfl dX11_wideOf_36 ?_
          refine lv_topi (fun t15 et15 => ?_)
          have zt15 : t14.toInt.toNat % 39 < 6 ∨ 12 ≤ t14.toInt.toNat % 39 ∨ (-1 ≤ t15.toInt ∧ t15.toInt ≤ 5) := by rw [et15]; exact wear_ld hCf.2.1 (show t14.toInt.toNat < 39 by omega)
          refine lv_iadd hx hb dX11_wideOf_37 ?_
          refine lv_topi (fun t16 et16 => ?_)
          have rg17 := fb_rng t15
          have zt16 : t16.toInt = 18 + t15.toInt := by rw [et16]; exact add_i (by decide) rfl (by omega) (by omega)
          refine ldI hx hb hE hP 25 rfl (vp_in_iff.mpr ⟨by omega, by omega⟩) rfl rfl dX11_wideOf_38 ?_
          refine lv_topi (fun t18 et18 => ?_)
          have zt18 : t16.toInt.toNat % 39 < 6 ∨ 12 ≤ t16.toInt.toNat % 39 ∨ (-1 ≤ t18.toInt ∧ t18.toInt ≤ 5) := by rw [et18]; exact wear_ld hCf.2.1 (show t16.toInt.toNat < 39 by omega)
          refine lv_goto (tgt := 43) hx hb dX11_wideOf_39 (by decide) ?_
          refine lv_iadd hx hb dX11_wideOf_43 ?_
          refine lv_topi (fun t19 et19 => ?_)
          refine lv_istore_n (lv' := [(2, .int t19), (3, .int l3_1), (0, .ref y0), (1, .int p1)]) hx hb dX11_wideOf_44 rfl hl (by decide) rfl (fun ls hl => ?_)
          obtain ⟨t20, et20⟩ : ∃ y : Int32, y = l3_1 + 1 := ⟨_, rfl⟩
          have zt20 : t20.toInt = l3_1.toInt + 1 := by rw [et20]; exact add_i rfl (by decide) (by omega) (by omega)
          refine lv_iinc (v := t20) (lv' := [(3, .int t20), (2, .int t19), (0, .ref y0), (1, .int p1)]) hx hb dX11_wideOf_45 hl (k := 1) rfl (by rw [et20]; rfl) (by decide) rfl (fun ls hl => ?_)
          refine lv_goto (tgt := 4) hx hb dX11_wideOf_48 (by decide) ?_
          have rg21 := fb_rng t20
          exact ih1 t19 t20 ⟨show (0 : Int) ≤ t20.toInt by omega, show t20.toInt ≤ (2147483647 : Int) by omega⟩ (by show (2147483647 - t20.toInt).toNat < n1; omega) _ _ _ hP hD hS (lv_sub hl [0, 1, 2, 3] rfl)
  exact lp1 _ 0 0 ⟨by decide, by decide⟩ (Nat.lt_succ_self _) _ _ _ hP hD hS (lv_sub hl [0, 1, 2, 3] rfl)
