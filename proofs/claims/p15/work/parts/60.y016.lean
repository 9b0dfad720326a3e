set_option maxHeartbeats 4000000 in
set_option maxRecDepth 100000 in
theorem sY_X11_change_1 (l : Launch) (dC : Nat → ClassId) (dI : Nat → Nat → Nat) (cy : Nat → ClassId) (y0 : Nat) (r : Nat → Nat) (p1 : Int32) (v : Nat → Int32) (f : Nat → Nat → Int32) (w : Int64) (g : Nat → Int64) (hIv : YI v) (hCf : YC f) (hRf : progOK (f 4) (f 5) (v 9).toInt.toNat)  : ctI l (dC, dI) cy yX11_change cX11_change 7 .int 8 211 0 0 ((Nat → Int32) × (Nat → Nat → Int32) × (Int64) × (Nat → Int64)) [.ref y0, .int p1] (YW cy y0 r v f w g) (fun r u => KV [] u.1 v ∧ KF [7, 8, 24] u.2.1 f ∧ YI u.1 ∧ YC u.2.1 ∧ progOK (u.2.1 4) (u.2.1 5) (u.1 9).toInt.toNat ∧ u.1 0 = v 0 ∧ u.1 1 = v 1 ∧ u.1 2 = v 2 ∧ u.1 3 = v 3 ∧ u.1 4 = v 4 ∧ u.1 5 = v 5 ∧ u.1 8 = v 8 ∧ u.1 9 = v 9 ∧ u.1 10 = v 10 ∧ u.1 13 = v 13 ∧ u.1 14 = v 14 ∧ u.1 15 = v 15 ∧ u.1 17 = v 17 ∧ u.1 18 = v 18 ∧ u.1 24 = v 24 ∧ u.1 25 = v 25 ∧ u.1 35 = v 35 ∧ u.1 36 = v 36 ∧ u.1 38 = v 38 ∧ u.1 39 = v 39) (fun u => YW cy y0 r u.1 u.2.1 u.2.2.1 u.2.2.2) := by
  refine ctI_of (by decide) (Nat.le_of_ble_eq_true rfl) (fun p e s m below meth c A ls Q hx hb hml hts hown hE hP hD hA hl ret => ?_)
  have hUv : (v 35).toInt + (v 36).toInt ≤ 40 := hIv.2
  have hM_v : KV [] v v := fun _ _ => rfl
  have hA_f : KF [7, 8, 24] f f := fun _ _ => rfl
  have hown : s.vm.findClass RX11 = some m.cls := hown
  have hS : va_S A s.heap s.heap [] := va_S.rf
  have hl : lv_has ls 7 [(0, .ref y0), (1, .int p1)] := hl
  refine lv_iload_n hx hb dX11_change_0 rfl (lv_at hl 1 rfl) ?_
  refine lv_iconst (v := 0) hx hb dX11_change_1 (by decide) ?_
  refine lv_iconst (v := 2) hx hb dX11_change_2 (by decide) ?_
  have lt1 : (0 : Int32).toInt = 0 := by decide
  have lt2 : (2 : Int32).toInt = 2 := by decide
  refine cbSi (n := 3) (rest := []) hx hb hml hown hts hE hP hD hS hA (sY_X11_isIn_1 0 l dC dI cy y0 r p1 0 2 v f w g hIv hCf hRf ) k_1736 k_1737 k_114 k_1738 (by decide +kernel) ⟨Nat.le_of_ble_eq_true rfl, Nat.le_of_ble_eq_true rfl⟩ (rfl) hl.1 rfl (Nat.le_of_ble_eq_true rfl) dX11_change_3 (fun r3 u H locs hw hP hD hS => ?_)
  obtain ⟨hG4, hw⟩ := hw
  rcases hw with ⟨g5, g5_0, g5_1⟩ | ⟨g5⟩
  · skip
    subst g5
    refine lv_if_ne (tgt := 11) hx hb dX11_change_6 (by decide) (fun _ => ?_) (fun c0 => absurd c0 (by decide))
    refine lv_aload_n hx hb dX11_change_11 rfl (lv_at hl 0 rfl) ?_
    refine cbVi (n := 0) (rest := []) hx hb hml hown hts hE hP hD hS hA (sY_X11_fitted_1 l dC dI cy y0 r  v f w g hIv hCf hRf ) k_1907 k_1866 k_1867 k_114 k_1868 (by decide +kernel) ⟨Nat.le_of_ble_eq_true rfl, Nat.le_of_ble_eq_true rfl⟩ 0 11 rfl rfl (rfl) hl.1 rfl (Nat.le_of_ble_eq_true rfl) dX11_change_12 (fun r6 u H locs hw hP hD hS => ?_)
    obtain ⟨v7, f8, w9, g10⟩ := u
    obtain ⟨kV_v7, kF_f8, hIv7, hCf8, hRf8, hk0_v7, hk1_v7, hk2_v7, hk3_v7, hk4_v7, hk5_v7, hk8_v7, hk9_v7, hk10_v7, hk13_v7, hk14_v7, hk15_v7, hk17_v7, hk18_v7, hk24_v7, hk25_v7, hk35_v7, hk36_v7, hk38_v7, hk39_v7⟩ := hw
    have hM_v7 : KV [] v7 v := KV.tr kV_v7 hM_v rfl
    have hA_f8 : KF [7, 8, 24] f8 f := KF.tr kF_f8 hA_f rfl
    have hP : va_P (dC, dI) vwCl (YW cy y0 r v7 f8 w9 g10) H := hP
    have hD : va_D A (YW cy y0 r v7 f8 w9 g10) := hD
    have hUv7 : (v7 35).toInt + (v7 36).toInt ≤ 40 := hIv7.2
    have hq0_v7 : v7 0 = (v 0) := hk0_v7
    have hq1_v7 : v7 1 = (v 1) := hk1_v7
    have hq2_v7 : v7 2 = (v 2) := hk2_v7
    have hq3_v7 : v7 3 = (v 3) := hk3_v7
    have hq4_v7 : v7 4 = (v 4) := hk4_v7
    have hq5_v7 : v7 5 = (v 5) := hk5_v7
    have hq8_v7 : v7 8 = (v 8) := hk8_v7
    have hq9_v7 : v7 9 = (v 9) := hk9_v7
    have zq9_v7 := congrArg Int32.toInt hq9_v7
    have hq10_v7 : v7 10 = (v 10) := hk10_v7
    have hq13_v7 : v7 13 = (v 13) := hk13_v7
    have hq14_v7 : v7 14 = (v 14) := hk14_v7
    have hq15_v7 : v7 15 = (v 15) := hk15_v7
    have hq17_v7 : v7 17 = (v 17) := hk17_v7
    have hq18_v7 : v7 18 = (v 18) := hk18_v7
    have hq24_v7 : v7 24 = (v 24) := hk24_v7
    have hq25_v7 : v7 25 = (v 25) := hk25_v7
    have hq35_v7 : v7 35 = (v 35) := hk35_v7
    have hq36_v7 : v7 36 = (v 36) := hk36_v7
    have hq38_v7 : v7 38 = (v 38) := hk38_v7
    have hq39_v7 : v7 39 = (v 39) := hk39_v7
    refine cbSi (n := 1) (rest := []) hx hb hml hown hts hE hP hD hS hA (sY_X11_members_1 l dC dI cy y0 r r6 v7 f8 w9 g10 hIv7 hCf8 hRf8 ) k_1900 k_1901 k_114 k_1902 (by decide +kernel) ⟨Nat.le_of_ble_eq_true rfl, Nat.le_of_ble_eq_true rfl⟩ (rfl) hl.1 rfl (Nat.le_of_ble_eq_true rfl) dX11_change_15 (fun r11 u H locs hw hP hD hS => ?_)
    refine lv_istore_n (lv' := [(2, .int r11), (0, .ref y0), (1, .int p1)]) hx hb dX11_change_18 rfl hl (by decide) rfl (fun ls hl => ?_)
    refine lv_iconst (v := (-1)) hx hb dX11_change_19 (by decide) ?_
    refine lv_istore_n (lv' := [(3, .int (-1)), (2, .int r11), (0, .ref y0), (1, .int p1)]) hx hb dX11_change_20 rfl hl (by decide) rfl (fun ls hl => ?_)
    refine lv_iconst (v := 0) hx hb dX11_change_21 (by decide) ?_
    refine lv_istore (lv' := [(4, .int 0), (3, .int (-1)), (2, .int r11), (0, .ref y0), (1, .int p1)]) hx hb dX11_change_22 hl (by decide) rfl (fun ls hl => ?_)
    have lp12 : ∀ (n12 : Nat) (l2_12 : Int32) (l3_12 : Int32) (l4_12 : Int32) (v12 : Nat → Int32) (f12 : Nat → Nat → Int32) (w12 : Int64) (g12 : Nat → Int64), YI v12 → YC f12 → progOK (f12 4) (f12 5) (v12 9).toInt.toNat → v12 0 = (v 0) → v12 1 = (v 1) → v12 2 = (v 2) → v12 3 = (v 3) → v12 4 = (v 4) → v12 5 = (v 5) → v12 8 = (v 8) → v12 9 = (v 9) → v12 10 = (v 10) → v12 13 = (v 13) → v12 14 = (v 14) → v12 15 = (v 15) → v12 17 = (v 17) → v12 18 = (v 18) → v12 24 = (v 24) → v12 25 = (v 25) → v12 35 = (v 35) → v12 36 = (v 36) → v12 38 = (v 38) → v12 39 = (v 39) → ((0 : Int) ≤ l4_12.toInt ∧ l4_12.toInt ≤ 2147483647) → KV [] v12 v → KF [7, 8, 24] f12 f → (2147483647 - l4_12.toInt).toNat < n12 → ∀ (H : Heap) (locs : List Loc) (ls : Array Slot), va_P (dC, dI) vwCl (YW cy y0 r v12 f12 w12 g12) H → va_D A (YW cy y0 r v12 f12 w12 g12) → va_S A s.heap H locs → lv_has ls 7 [(4, .int l4_12), (3, .int l3_12), (2, .int l2_12), (0, .ref y0), (1, .int p1)] → W p l e { frames := 8, cells := 0, slots := 0, locals := 211 } s m ([.ref y0, .int p1] : List Value).toArray below meth c H locs 0 0 Q (F0 m 24 ls []) := by
      intro n12
      induction n12 with
      | zero => intro l2_12 l3_12 l4_12 v12 f12 w12 g12 hIv12 hCf12 hRf12 hq0_v12 hq1_v12 hq2_v12 hq3_v12 hq4_v12 hq5_v12 hq8_v12 hq9_v12 hq10_v12 hq13_v12 hq14_v12 hq15_v12 hq17_v12 hq18_v12 hq24_v12 hq25_v12 hq35_v12 hq36_v12 hq38_v12 hq39_v12 hr4_12 hM_v12 hA_f12 hm; exact absurd hm (Nat.not_lt_zero _)
      | succ n12 ih12 =>
        intro l2_12 l3_12 l4_12 v12 f12 w12 g12 hIv12 hCf12 hRf12 hq0_v12 hq1_v12 hq2_v12 hq3_v12 hq4_v12 hq5_v12 hq8_v12 hq9_v12 hq10_v12 hq13_v12 hq14_v12 hq15_v12 hq17_v12 hq18_v12 hq24_v12 hq25_v12 hq35_v12 hq36_v12 hq38_v12 hq39_v12 hr4_12 hM_v12 hA_f12 hm12 H locs ls hP hD hS hl
        have hUv12 : (v12 35).toInt + (v12 36).toInt ≤ 40 := hIv12.2
        have zq9_v12 := congrArg Int32.toInt hq9_v12
        refine lv_iload hx hb dX11_change_24 (lv_at hl 0 rfl) ?_
        refine lv_aload_n hx hb dX11_change_26 rfl (lv_at hl 3 rfl) ?_
        refine va_get (D := (dC, dI)) (ci := 11) (v := .int (v12 24)) (C := RX11) (T := TX11) (N := 79) hx hb hts inB_11 hown hE.1 hP 0 rfl rfl 48 (by decide) (hts _ k_1368) (fun _ h9 => h9) rfl dX11_change_27 ?_
        refine tI (y := (v 24)) hq24_v12 ?_
        have b24_v : 0 ≤ (v 24).toInt ∧ (v 24).toInt ≤ 6 := YIb.b hIv.1 24 (by decide)
        refine lv_icmp_ge (tgt := 134) hx hb dX11_change_30 (by decide) (fun c13 => ?_) (fun c13 => ?_)
        · skip
          have zc13 : (v 24).toInt ≤ l4_12.toInt := by rw [fa_le] at c13; exact c13
          have rg14 := fb_rng l4_12
          have rg15 := fb_rng (v 24)
          refine lv_iload_n hx hb dX11_change_134 rfl (lv_at hl 1 rfl) ?_
          refine lv_if_ge (tgt := 142) hx hb dX11_change_135 (by decide) (fun c16 => ?_) (fun c16 => ?_)
          · skip
            have zc16 : 0 ≤ l3_12.toInt := by rw [fa_le, show (0 : Int32).toInt = 0 from by decide] at c16; exact c16
            refine lv_iload_n hx hb dX11_change_142 rfl (lv_at hl 4 rfl) ?_
            refine lv_if_ne (tgt := 153) hx hb dX11_change_143 (by decide) (fun c17 => ?_) (fun c17 => ?_)
            · skip
              have zc17 : ¬ (p1.toInt = 0) := by rw [fa_eq, show (0 : Int32).toInt = 0 from by decide] at c17; exact c17
              refine lv_iload_n hx hb dX11_change_153 rfl (lv_at hl 4 rfl) ?_
              refine lv_iconst (v := 1) hx hb dX11_change_154 (by decide) ?_
              refine lv_icmp_ne (tgt := 165) hx hb dX11_change_155 (by decide) (fun c18 => ?_) (fun c18 => ?_)
              · skip
                have zc18 : ¬ (p1.toInt = 1) := by rw [fa_eq, show (1 : Int32).toInt = 1 from by decide] at c18; exact c18
                refine lv_iload_n hx hb dX11_change_165 rfl (lv_at hl 2 rfl) ?_
                exact ret l2_12 (v12, f12, w12, g12) _ _ _ _ _ _ rfl ⟨hM_v12, hA_f12, hIv12, hCf12, hRf12, hq0_v12, hq1_v12, hq2_v12, hq3_v12, hq4_v12, hq5_v12, hq8_v12, hq9_v12, hq10_v12, hq13_v12, hq14_v12, hq15_v12, hq17_v12, hq18_v12, hq24_v12, hq25_v12, hq35_v12, hq36_v12, hq38_v12, hq39_v12⟩ hP hD hS dX11_change_166 (Nat.le_refl _) (Nat.le_refl _)
              · skip
                have zc18 : p1.toInt = 1 := by rw [fa_eq, show (1 : Int32).toInt = 1 from by decide] at c18; exact c18
                refine lv_iload_n hx hb dX11_change_158 rfl (lv_at hl 1 rfl) ?_
                refine lv_bipush (v := 6) hx hb dX11_change_159 (by decide) ?_
                refine lv_irem hx hb dX11_change_161 (by decide) ?_
                refine lv_topi (fun t19 et19 => ?_)
                have zt19 : 0 ≤ t19.toInt ∧ t19.toInt < 6 := by rw [et19]; exact rem_rng (zx := l3_12.toInt) (zy := 6) rfl (by decide) (by omega) (by omega)
                refine lv_goto (tgt := 166) hx hb dX11_change_162 (by decide) ?_
                exact ret t19 (v12, f12, w12, g12) _ _ _ _ _ _ rfl ⟨hM_v12, hA_f12, hIv12, hCf12, hRf12, hq0_v12, hq1_v12, hq2_v12, hq3_v12, hq4_v12, hq5_v12, hq8_v12, hq9_v12, hq10_v12, hq13_v12, hq14_v12, hq15_v12, hq17_v12, hq18_v12, hq24_v12, hq25_v12, hq35_v12, hq36_v12, hq38_v12, hq39_v12⟩ hP hD hS dX11_change_166 (Nat.le_refl _) (Nat.le_refl _)
            · skip
              have zc17 : p1.toInt = 0 := by rw [fa_eq, show (0 : Int32).toInt = 0 from by decide] at c17; exact c17
              refine lv_iload_n hx hb dX11_change_146 rfl (lv_at hl 1 rfl) ?_
              refine lv_bipush (v := 6) hx hb dX11_change_147 (by decide) ?_
              refine lv_idiv hx hb dX11_change_149 (by decide) ?_
              refine lv_topi (fun t20 et20 => ?_)
              have zt20 : 0 ≤ t20.toInt ∧ t20.toInt ≤ l3_12.toInt := by rw [et20]; exact div_rng (zx := l3_12.toInt) (zy := 6) rfl (by decide) (by omega) (by omega)
              refine lv_goto (tgt := 166) hx hb dX11_change_150 (by decide) ?_
              exact ret t20 (v12, f12, w12, g12) _ _ _ _ _ _ rfl ⟨hM_v12, hA_f12, hIv12, hCf12, hRf12, hq0_v12, hq1_v12, hq2_v12, hq3_v12, hq4_v12, hq5_v12, hq8_v12, hq9_v12, hq10_v12, hq13_v12, hq14_v12, hq15_v12, hq17_v12, hq18_v12, hq24_v12, hq25_v12, hq35_v12, hq36_v12, hq38_v12, hq39_v12⟩ hP hD hS dX11_change_166 (Nat.le_refl _) (Nat.le_refl _)
          · skip
            have zc16 : ¬ (0 ≤ l3_12.toInt) := by rw [fa_le, show (0 : Int32).toInt = 0 from by decide] at c16; exact c16
            refine lv_iconst (v := (-1)) hx hb dX11_change_138 (by decide) ?_
            refine lv_goto (tgt := 166) hx hb dX11_change_139 (by decide) ?_
            exact ret (-1) (v12, f12, w12, g12) _ _ _ _ _ _ rfl ⟨hM_v12, hA_f12, hIv12, hCf12, hRf12, hq0_v12, hq1_v12, hq2_v12, hq3_v12, hq4_v12, hq5_v12, hq8_v12, hq9_v12, hq10_v12, hq13_v12, hq14_v12, hq15_v12, hq17_v12, hq18_v12, hq24_v12, hq25_v12, hq35_v12, hq36_v12, hq38_v12, hq39_v12⟩ hP hD hS dX11_change_166 (Nat.le_refl _) (Nat.le_refl _)
        · skip
          have zc13 : ¬ ((v 24).toInt ≤ l4_12.toInt) := by rw [fa_le] at c13; exact c13
          have rg21 := fb_rng l4_12
          have rg22 := fb_rng (v 24)
          refine lv_iload hx hb dX11_change_33 (lv_at hl 0 rfl) ?_
          refine lv_iconst (v := 1) hx hb dX11_change_35 (by decide) ?_
          refine lv_iadd hx hb dX11_change_36 ?_
          refine lv_topi (fun t23 et23 => ?_)
          have zt23 : t23.toInt = l4_12.toInt + 1 := by rw [et23]; exact add_i rfl (by decide) (by omega) (by omega)
          refine lv_istore (lv' := [(5, .int t23), (4, .int l4_12), (3, .int l3_12), (2, .int l2_12), (0, .ref y0), (1, .int p1)]) hx hb dX11_change_37 hl (by decide) rfl (fun ls hl => ?_)
          have lp24 : ∀ (n24 : Nat) (l2_24 : Int32) (l3_24 : Int32) (l5_24 : Int32) (v24 : Nat → Int32) (f24 : Nat → Nat → Int32) (w24 : Int64) (g24 : Nat → Int64), YI v24 → YC f24 → progOK (f24 4) (f24 5) (v24 9).toInt.toNat → v24 0 = (v 0) → v24 1 = (v 1) → v24 2 = (v 2) → v24 3 = (v 3) → v24 4 = (v 4) → v24 5 = (v 5) → v24 8 = (v 8) → v24 9 = (v 9) → v24 10 = (v 10) → v24 13 = (v 13) → v24 14 = (v 14) → v24 15 = (v 15) → v24 17 = (v 17) → v24 18 = (v 18) → v24 24 = (v 24) → v24 25 = (v 25) → v24 35 = (v 35) → v24 36 = (v 36) → v24 38 = (v 38) → v24 39 = (v 39) → ((1 : Int) ≤ l5_24.toInt ∧ l5_24.toInt ≤ 2147483647) → KV [] v24 v → KF [7, 8, 24] f24 f → (2147483647 - l5_24.toInt).toNat < n24 → ∀ (H : Heap) (locs : List Loc) (ls : Array Slot), va_P (dC, dI) vwCl (YW cy y0 r v24 f24 w24 g24) H → va_D A (YW cy y0 r v24 f24 w24 g24) → va_S A s.heap H locs → lv_has ls 7 [(5, .int l5_24), (4, .int l4_12), (3, .int l3_24), (2, .int l2_24), (0, .ref y0), (1, .int p1)] → W p l e { frames := 8, cells := 0, slots := 0, locals := 211 } s m ([.ref y0, .int p1] : List Value).toArray below meth c H locs 0 0 Q (F0 m 39 ls []) := by
            intro n24
            induction n24 with
            | zero => intro l2_24 l3_24 l5_24 v24 f24 w24 g24 hIv24 hCf24 hRf24 hq0_v24 hq1_v24 hq2_v24 hq3_v24 hq4_v24 hq5_v24 hq8_v24 hq9_v24 hq10_v24 hq13_v24 hq14_v24 hq15_v24 hq17_v24 hq18_v24 hq24_v24 hq25_v24 hq35_v24 hq36_v24 hq38_v24 hq39_v24 hr5_24 hM_v24 hA_f24 hm; exact absurd hm (Nat.not_lt_zero _)
            | succ n24 ih24 =>
              intro l2_24 l3_24 l5_24 v24 f24 w24 g24 hIv24 hCf24 hRf24 hq0_v24 hq1_v24 hq2_v24 hq3_v24 hq4_v24 hq5_v24 hq8_v24 hq9_v24 hq10_v24 hq13_v24 hq14_v24 hq15_v24 hq17_v24 hq18_v24 hq24_v24 hq25_v24 hq35_v24 hq36_v24 hq38_v24 hq39_v24 hr5_24 hM_v24 hA_f24 hm24 H locs ls hP hD hS hl
              have hUv24 : (v24 35).toInt + (v24 36).toInt ≤ 40 := hIv24.2
              have zq9_v24 := congrArg Int32.toInt hq9_v24
              refine lv_iload hx hb dX11_change_39 (lv_at hl 0 rfl) ?_
              refine lv_aload_n hx hb dX11_change_41 rfl (lv_at hl 4 rfl) ?_
              refine va_get (D := (dC, dI)) (ci := 11) (v := .int (v24 24)) (C := RX11) (T := TX11) (N := 79) hx hb hts inB_11 hown hE.1 hP 0 rfl rfl 48 (by decide) (hts _ k_1368) (fun _ h9 => h9) rfl dX11_change_42 ?_
              refine tI (y := (v 24)) hq24_v24 ?_
              have b24_v : 0 ≤ (v 24).toInt ∧ (v 24).toInt ≤ 6 := YIb.b hIv.1 24 (by decide)
              refine lv_icmp_ge (tgt := 128) hx hb dX11_change_45 (by decide) (fun c25 => ?_) (fun c25 => ?_)
              · skip
                have zc25 : (v 24).toInt ≤ l5_24.toInt := by rw [fa_le] at c25; exact c25
                have rg26 := fb_rng l5_24
                obtain ⟨t27, et27⟩ : ∃ y : Int32, y = l4_12 + 1 := ⟨_, rfl⟩
                have zt27 : t27.toInt = l4_12.toInt + 1 := by rw [et27]; exact add_i rfl (by decide) (by omega) (by omega)
                refine lv_iinc (v := t27) (lv' := [(4, .int t27), (5, .int l5_24), (3, .int l3_24), (2, .int l2_24), (0, .ref y0), (1, .int p1)]) hx hb dX11_change_128 hl (k := 1) rfl (by rw [et27]; rfl) (by decide) rfl (fun ls hl => ?_)
                refine lv_goto (tgt := 24) hx hb dX11_change_131 (by decide) ?_
                have rg28 := fb_rng t27
                exact ih12 l2_24 l3_24 t27 v24 f24 w24 g24 hIv24 hCf24 hRf24 hq0_v24 hq1_v24 hq2_v24 hq3_v24 hq4_v24 hq5_v24 hq8_v24 hq9_v24 hq10_v24 hq13_v24 hq14_v24 hq15_v24 hq17_v24 hq18_v24 hq24_v24 hq25_v24 hq35_v24 hq36_v24 hq38_v24 hq39_v24 ⟨show (0 : Int) ≤ t27.toInt by omega, show t27.toInt ≤ (2147483647 : Int) by omega⟩ hM_v24 hA_f24 (by show (2147483647 - t27.toInt).toNat < n12; omega) _ _ _ hP hD hS (lv_sub hl [0, 2, 3, 4, 5] rfl)
              · skip
                have zc25 : ¬ ((v 24).toInt ≤ l5_24.toInt) := by rw [fa_le] at c25; exact c25
                have rg29 := fb_rng l5_24
                refine lv_aload_n hx hb dX11_change_48 rfl (lv_at hl 4 rfl) ?_
                refine cbVv (n := 0) (rest := []) hx hb hml hown hts hE hP hD hS hA (sY_X11_fill_1 0 l dC dI cy y0 r  v24 f24 w24 g24 hIv24 hCf24 hRf24 ) k_1739 k_1741 k_71 k_114 k_1742 (by decide +kernel) ⟨Nat.le_of_ble_eq_true rfl, Nat.le_of_ble_eq_true rfl⟩ 0 11 rfl rfl (rfl) hl.1 rfl (Nat.le_of_ble_eq_true rfl) dX11_change_49 (fun u H locs hw hP hD hS => ?_)
                obtain ⟨hG30, hw⟩ := hw
                obtain ⟨v31, f32, w33, g34⟩ := u
                obtain ⟨kV_v31, kF_f32, hIv31, hCf32, hRf32, hk0_v31, hk1_v31, hk2_v31, hk3_v31, hk4_v31, hk5_v31, hk8_v31, hk9_v31, hk10_v31, hk13_v31, hk14_v31, hk15_v31, hk17_v31, hk18_v31, hk24_v31, hk25_v31, hk35_v31, hk36_v31, hk38_v31, hk39_v31⟩ := hw
                have hM_v31 : KV [] v31 v := KV.tr kV_v31 hM_v24 rfl
                have hA_f32 : KF [7, 8, 24] f32 f := KF.tr kF_f32 hA_f24 rfl
                have hP : va_P (dC, dI) vwCl (YW cy y0 r v31 f32 w33 g34) H := hP
                have hD : va_D A (YW cy y0 r v31 f32 w33 g34) := hD
                have hUv31 : (v31 35).toInt + (v31 36).toInt ≤ 40 := hIv31.2
                have hq0_v31 : v31 0 = (v 0) := hk0_v31.trans hq0_v24
                have hq1_v31 : v31 1 = (v 1) := hk1_v31.trans hq1_v24
                have hq2_v31 : v31 2 = (v 2) := hk2_v31.trans hq2_v24
                have hq3_v31 : v31 3 = (v 3) := hk3_v31.trans hq3_v24
                have hq4_v31 : v31 4 = (v 4) := hk4_v31.trans hq4_v24
                have hq5_v31 : v31 5 = (v 5) := hk5_v31.trans hq5_v24
                have hq8_v31 : v31 8 = (v 8) := hk8_v31.trans hq8_v24
                have hq9_v31 : v31 9 = (v 9) := hk9_v31.trans hq9_v24
                have zq9_v31 := congrArg Int32.toInt hq9_v31
                have hq10_v31 : v31 10 = (v 10) := hk10_v31.trans hq10_v24
                have hq13_v31 : v31 13 = (v 13) := hk13_v31.trans hq13_v24
                have hq14_v31 : v31 14 = (v 14) := hk14_v31.trans hq14_v24
                have hq15_v31 : v31 15 = (v 15) := hk15_v31.trans hq15_v24
                have hq17_v31 : v31 17 = (v 17) := hk17_v31.trans hq17_v24
                have hq18_v31 : v31 18 = (v 18) := hk18_v31.trans hq18_v24
                have hq24_v31 : v31 24 = (v 24) := hk24_v31.trans hq24_v24
                have hq25_v31 : v31 25 = (v 25) := hk25_v31.trans hq25_v24
                have hq35_v31 : v31 35 = (v 35) := hk35_v31.trans hq35_v24
                have hq36_v31 : v31 36 = (v 36) := hk36_v31.trans hq36_v24
                have hq38_v31 : v31 38 = (v 38) := hk38_v31.trans hq38_v24
                have hq39_v31 : v31 39 = (v 39) := hk39_v31.trans hq39_v24
                refine lv_aload_n hx hb dX11_change_52 rfl (lv_at hl 4 rfl) ?_
                refine va_get (D := (dC, dI)) (ci := 11) (v := .ref (r 60)) (C := RX11) (T := TX11) (N := 79) hx hb hts inB_11 hown hE.1 hP 0 rfl rfl 60 (by decide) (hts _ k_1380) (fun _ h9 => h9) rfl dX11_change_53 ?_
                refine lv_bipush (v := 6) hx hb dX11_change_56 (by decide) ?_
                refine lv_iload hx hb dX11_change_58 (lv_at hl 1 rfl) ?_
                refine lv_iadd hx hb dX11_change_60 ?_
                refine lv_topi (fun t35 et35 => ?_)
                have zt35 : t35.toInt = 6 + l4_12.toInt := by rw [et35]; exact add_i (by decide) rfl (by omega) (by omega)
                refine lv_aload_n hx hb dX11_change_61 rfl (lv_at hl 4 rfl) ?_
                refine va_get (D := (dC, dI)) (ci := 11) (v := .ref (r 59)) (C := RX11) (T := TX11) (N := 79) hx hb hts inB_11 hown hE.1 hP 0 rfl rfl 59 (by decide) (hts _ k_1379) (fun _ h9 => h9) rfl dX11_change_62 ?_
                refine lv_bipush (v := 6) hx hb dX11_change_65 (by decide) ?_
                refine lv_iload hx hb dX11_change_67 (lv_at hl 0 rfl) ?_
                refine lv_iadd hx hb dX11_change_69 ?_
                refine lv_topi (fun t36 et36 => ?_)
                have zt36 : t36.toInt = 6 + l5_24.toInt := by rw [et36]; exact add_i (by decide) rfl (by omega) (by omega)
                refine ldI hx hb hE hP 24 rfl (vp_in_iff.mpr ⟨by omega, by omega⟩) rfl rfl dX11_change_70 ?_
                refine lv_topi (fun t37 et37 => ?_)
                have zt37 : t36.toInt.toNat % 39 < 6 ∨ 12 ≤ t36.toInt.toNat % 39 ∨ (-1 ≤ t37.toInt ∧ t37.toInt ≤ 5) := by rw [et37]; exact wear_ld hCf32.1 (show t36.toInt.toNat < 39 by omega)
                refine stI hx hb hE hP hD hS 25 rfl (vp_in_iff.mpr ⟨by omega, by omega⟩) rfl dX11_change_71 (fun H locs hP hD hS => ?_)
                obtain ⟨f38, ef38, hP, hD⟩ : ∃ fz9, fz9 = upd2 f32 24 (upd (f32 24) t35.toNatClampNeg t37) ∧ va_P (dC, dI) vwCl (YW cy y0 r v31 fz9 w33 g34) H ∧ va_D A (YW cy y0 r v31 fz9 w33 g34) := ⟨_, rfl, hP, hD⟩
                have hCf38 : YC f38 := by rw [ef38]; exact ⟨hCf32.1, (wear_st hCf32.2.1 (by show t35.toInt.toNat % 39 < 6 ∨ 12 ≤ t35.toInt.toNat % 39 ∨ (-1 ≤ t37.toInt ∧ t37.toInt ≤ 5); omega)), hCf32.2.2.1, hCf32.2.2.2.1, hCf32.2.2.2.2.1, hCf32.2.2.2.2.2⟩
                have hRf38 : progOK (f38 4) (f38 5) (v31 9).toInt.toNat := by rw [ef38]; exact hRf32
                have hA_f38 : KF [7, 8, 24] f38 f := by rw [ef38]; exact KF.up hA_f32 rfl
                refine lv_aload_n hx hb dX11_change_72 rfl (lv_at hl 4 rfl) ?_
                refine va_get (D := (dC, dI)) (ci := 11) (v := .ref (r 60)) (C := RX11) (T := TX11) (N := 79) hx hb hts inB_11 hown hE.1 hP 0 rfl rfl 60 (by decide) (hts _ k_1380) (fun _ h9 => h9) rfl dX11_change_73 ?_
                refine lv_bipush (v := 6) hx hb dX11_change_76 (by decide) ?_
                refine lv_iload hx hb dX11_change_78 (lv_at hl 0 rfl) ?_
                refine lv_iadd hx hb dX11_change_80 ?_
                refine tI (y := t36) et36.symm ?_
                refine lv_aload_n hx hb dX11_change_81 rfl (lv_at hl 4 rfl) ?_
                refine va_get (D := (dC, dI)) (ci := 11) (v := .ref (r 59)) (C := RX11) (T := TX11) (N := 79) hx hb hts inB_11 hown hE.1 hP 0 rfl rfl 59 (by decide) (hts _ k_1379) (fun _ h9 => h9) rfl dX11_change_82 ?_
                refine lv_bipush (v := 6) hx hb dX11_change_85 (by decide) ?_
                refine lv_iload hx hb dX11_change_87 (lv_at hl 1 rfl) ?_
                refine lv_iadd hx hb dX11_change_89 ?_
                refine tI (y := t35) et35.symm ?_
                refine ldI hx hb hE hP 24 rfl (vp_in_iff.mpr ⟨by omega, by omega⟩) rfl rfl dX11_change_90 ?_
                refine lv_topi (fun t39 et39 => ?_)
                have zt39 : t35.toInt.toNat % 39 < 6 ∨ 12 ≤ t35.toInt.toNat % 39 ∨ (-1 ≤ t39.toInt ∧ t39.toInt ≤ 5) := by rw [et39]; exact wear_ld hCf38.1 (show t35.toInt.toNat < 39 by omega)
                refine stI hx hb hE hP hD hS 25 rfl (vp_in_iff.mpr ⟨by omega, by omega⟩) rfl dX11_change_91 (fun H locs hP hD hS => ?_)
                obtain ⟨f40, ef40, hP, hD⟩ : ∃ fz9, fz9 = upd2 f38 24 (upd (f38 24) t36.toNatClampNeg t39) ∧ va_P (dC, dI) vwCl (YW cy y0 r v31 fz9 w33 g34) H ∧ va_D A (YW cy y0 r v31 fz9 w33 g34) := ⟨_, rfl, hP, hD⟩
                have hCf40 : YC f40 := by rw [ef40]; exact ⟨hCf38.1, (wear_st hCf38.2.1 (by show t36.toInt.toNat % 39 < 6 ∨ 12 ≤ t36.toInt.toNat % 39 ∨ (-1 ≤ t39.toInt ∧ t39.toInt ≤ 5); omega)), hCf38.2.2.1, hCf38.2.2.2.1, hCf38.2.2.2.2.1, hCf38.2.2.2.2.2⟩
                have hRf40 : progOK (f40 4) (f40 5) (v31 9).toInt.toNat := by rw [ef40]; exact hRf38
                have hA_f40 : KF [7, 8, 24] f40 f := by rw [ef40]; exact KF.up hA_f38 rfl
                refine lv_aload_n hx hb dX11_change_92 rfl (lv_at hl 4 rfl) ?_
                refine cbVi (n := 0) (rest := []) hx hb hml hown hts hE hP hD hS hA (sY_X11_fittedOnes_1 0 l dC dI cy y0 r  v31 f40 w33 g34 hIv31 hCf40 hRf40 ) k_1809 k_1811 k_81 k_114 k_1812 (by decide +kernel) ⟨Nat.le_of_ble_eq_true rfl, Nat.le_of_ble_eq_true rfl⟩ 0 11 rfl rfl (rfl) hl.1 rfl (Nat.le_of_ble_eq_true rfl) dX11_change_93 (fun r41 u H locs hw hP hD hS => ?_)
                obtain ⟨hG42, hw⟩ := hw
                obtain ⟨v43, f44, w45, g46⟩ := u
                obtain ⟨kV_v43, kF_f44, hIv43, hCf44, hRf44, hk0_v43, hk1_v43, hk2_v43, hk3_v43, hk4_v43, hk5_v43, hk8_v43, hk9_v43, hk10_v43, hk13_v43, hk14_v43, hk15_v43, hk17_v43, hk18_v43, hk24_v43, hk25_v43, hk35_v43, hk36_v43, hk38_v43, hk39_v43⟩ := hw
                have hM_v43 : KV [] v43 v := KV.tr kV_v43 hM_v31 rfl
                have hA_f44 : KF [7, 8, 24] f44 f := KF.tr kF_f44 hA_f40 rfl
                have hP : va_P (dC, dI) vwCl (YW cy y0 r v43 f44 w45 g46) H := hP
                have hD : va_D A (YW cy y0 r v43 f44 w45 g46) := hD
                have hUv43 : (v43 35).toInt + (v43 36).toInt ≤ 40 := hIv43.2
                have hq0_v43 : v43 0 = (v 0) := hk0_v43.trans hq0_v31
                have hq1_v43 : v43 1 = (v 1) := hk1_v43.trans hq1_v31
                have hq2_v43 : v43 2 = (v 2) := hk2_v43.trans hq2_v31
                have hq3_v43 : v43 3 = (v 3) := hk3_v43.trans hq3_v31
                have hq4_v43 : v43 4 = (v 4) := hk4_v43.trans hq4_v31
                have hq5_v43 : v43 5 = (v 5) := hk5_v43.trans hq5_v31
                have hq8_v43 : v43 8 = (v 8) := hk8_v43.trans hq8_v31
                have hq9_v43 : v43 9 = (v 9) := hk9_v43.trans hq9_v31
                have zq9_v43 := congrArg Int32.toInt hq9_v43
                have hq10_v43 : v43 10 = (v 10) := hk10_v43.trans hq10_v31
                have hq13_v43 : v43 13 = (v 13) := hk13_v43.trans hq13_v31
                have hq14_v43 : v43 14 = (v 14) := hk14_v43.trans hq14_v31
                have hq15_v43 : v43 15 = (v 15) := hk15_v43.trans hq15_v31
                have hq17_v43 : v43 17 = (v 17) := hk17_v43.trans hq17_v31
                have hq18_v43 : v43 18 = (v 18) := hk18_v43.trans hq18_v31
                have hq24_v43 : v43 24 = (v 24) := hk24_v43.trans hq24_v31
                have hq25_v43 : v43 25 = (v 25) := hk25_v43.trans hq25_v31
                have hq35_v43 : v43 35 = (v 35) := hk35_v43.trans hq35_v31
                have hq36_v43 : v43 36 = (v 36) := hk36_v43.trans hq36_v31
                have hq38_v43 : v43 38 = (v 38) := hk38_v43.trans hq38_v31
                have hq39_v43 : v43 39 = (v 39) := hk39_v43.trans hq39_v31
                refine cbSi (n := 1) (rest := []) hx hb hml hown hts hE hP hD hS hA (sY_X11_members_1 l dC dI cy y0 r r41 v43 f44 w45 g46 hIv43 hCf44 hRf44 ) k_1900 k_1901 k_114 k_1902 (by decide +kernel) ⟨Nat.le_of_ble_eq_true rfl, Nat.le_of_ble_eq_true rfl⟩ (rfl) hl.1 rfl (Nat.le_of_ble_eq_true rfl) dX11_change_96 (fun r47 u H locs hw hP hD hS => ?_)
                refine lv_istore (lv' := [(6, .int r47), (5, .int l5_24), (4, .int l4_12), (3, .int l3_24), (2, .int l2_24), (0, .ref y0), (1, .int p1)]) hx hb dX11_change_99 hl (by decide) rfl (fun ls hl => ?_)
                refine lv_iload hx hb dX11_change_101 (lv_at hl 0 rfl) ?_
                refine lv_iload_n hx hb dX11_change_103 rfl (lv_at hl 4 rfl) ?_
                refine lv_icmp_gt (tgt := 110) hx hb dX11_change_104 (by decide) (fun c48 => ?_) (fun c48 => ?_)
                · skip
                  have zc48 : l2_24.toInt < r47.toInt := by rw [fa_lt] at c48; exact c48
                  have rg49 := fb_rng r47
                  have rg50 := fb_rng l2_24
                  refine lv_iload hx hb dX11_change_110 (lv_at hl 0 rfl) ?_
                  refine lv_istore_n (lv' := [(2, .int r47), (6, .int r47), (5, .int l5_24), (4, .int l4_12), (3, .int l3_24), (0, .ref y0), (1, .int p1)]) hx hb dX11_change_112 rfl hl (by decide) rfl (fun ls hl => ?_)
                  refine lv_bipush (v := 6) hx hb dX11_change_113 (by decide) ?_
                  refine lv_iload hx hb dX11_change_115 (lv_at hl 3 rfl) ?_
                  refine lv_imul hx hb dX11_change_117 ?_
                  refine lv_topi (fun t51 et51 => ?_)
                  have zt51 : t51.toInt = 6 * l4_12.toInt := by rw [et51]; exact mul_i (by decide) rfl (by omega) (by omega)
                  refine lv_iload hx hb dX11_change_118 (lv_at hl 2 rfl) ?_
                  refine lv_iadd hx hb dX11_change_120 ?_
                  refine lv_topi (fun t52 et52 => ?_)
                  have rg53 := fb_rng t51
                  have zt52 : t52.toInt = t51.toInt + l5_24.toInt := by rw [et52]; exact add_i rfl rfl (by omega) (by omega)
                  refine lv_istore_n (lv' := [(3, .int t52), (2, .int r47), (6, .int r47), (5, .int l5_24), (4, .int l4_12), (0, .ref y0), (1, .int p1)]) hx hb dX11_change_121 rfl hl (by decide) rfl (fun ls hl => ?_)
                  obtain ⟨t54, et54⟩ : ∃ y : Int32, y = l5_24 + 1 := ⟨_, rfl⟩
                  have zt54 : t54.toInt = l5_24.toInt + 1 := by rw [et54]; exact add_i rfl (by decide) (by omega) (by omega)
                  refine lv_iinc (v := t54) (lv' := [(5, .int t54), (3, .int t52), (2, .int r47), (6, .int r47), (4, .int l4_12), (0, .ref y0), (1, .int p1)]) hx hb dX11_change_122 hl (k := 3) rfl (by rw [et54]; rfl) (by decide) rfl (fun ls hl => ?_)
                  refine lv_goto (tgt := 39) hx hb dX11_change_125 (by decide) ?_
                  have rg55 := fb_rng t54
                  exact ih24 r47 t52 t54 v43 f44 w45 g46 hIv43 hCf44 hRf44 hq0_v43 hq1_v43 hq2_v43 hq3_v43 hq4_v43 hq5_v43 hq8_v43 hq9_v43 hq10_v43 hq13_v43 hq14_v43 hq15_v43 hq17_v43 hq18_v43 hq24_v43 hq25_v43 hq35_v43 hq36_v43 hq38_v43 hq39_v43 ⟨show (1 : Int) ≤ t54.toInt by omega, show t54.toInt ≤ (2147483647 : Int) by omega⟩ hM_v43 hA_f44 (by show (2147483647 - t54.toInt).toNat < n24; omega) _ _ _ hP hD hS (lv_sub hl [0, 4, 1, 2, 5, 6] rfl)
                · skip
                  have zc48 : ¬ (l2_24.toInt < r47.toInt) := by rw [fa_lt] at c48; exact c48
                  have rg56 := fb_rng r47
                  have rg57 := fb_rng l2_24
                  refine lv_goto (tgt := 122) hx hb dX11_change_107 (by decide) ?_
                  obtain ⟨t58, et58⟩ : ∃ y : Int32, y = l5_24 + 1 := ⟨_, rfl⟩
                  have zt58 : t58.toInt = l5_24.toInt + 1 := by rw [et58]; exact add_i rfl (by decide) (by omega) (by omega)
                  refine lv_iinc (v := t58) (lv' := [(5, .int t58), (6, .int r47), (4, .int l4_12), (3, .int l3_24), (2, .int l2_24), (0, .ref y0), (1, .int p1)]) hx hb dX11_change_122 hl (k := 1) rfl (by rw [et58]; rfl) (by decide) rfl (fun ls hl => ?_)
                  refine lv_goto (tgt := 39) hx hb dX11_change_125 (by decide) ?_
                  have rg59 := fb_rng t58
                  exact ih24 l2_24 l3_24 t58 v43 f44 w45 g46 hIv43 hCf44 hRf44 hq0_v43 hq1_v43 hq2_v43 hq3_v43 hq4_v43 hq5_v43 hq8_v43 hq9_v43 hq10_v43 hq13_v43 hq14_v43 hq15_v43 hq17_v43 hq18_v43 hq24_v43 hq25_v43 hq35_v43 hq36_v43 hq38_v43 hq39_v43 ⟨show (1 : Int) ≤ t58.toInt by omega, show t58.toInt ≤ (2147483647 : Int) by omega⟩ hM_v43 hA_f44 (by show (2147483647 - t58.toInt).toNat < n24; omega) _ _ _ hP hD hS (lv_sub hl [0, 2, 3, 4, 5, 6] rfl)
          have rg60 := fb_rng t23
          exact lp24 _ l2_12 l3_12 t23 v12 f12 w12 g12 hIv12 hCf12 hRf12 hq0_v12 hq1_v12 hq2_v12 hq3_v12 hq4_v12 hq5_v12 hq8_v12 hq9_v12 hq10_v12 hq13_v12 hq14_v12 hq15_v12 hq17_v12 hq18_v12 hq24_v12 hq25_v12 hq35_v12 hq36_v12 hq38_v12 hq39_v12 ⟨show (1 : Int) ≤ t23.toInt by omega, show t23.toInt ≤ (2147483647 : Int) by omega⟩ hM_v12 hA_f12 (Nat.lt_succ_self _) _ _ _ hP hD hS (lv_sub hl [0, 1, 2, 3, 4, 5] rfl)
    exact lp12 _ r11 (-1) 0 v7 f8 w9 g10 hIv7 hCf8 hRf8 hq0_v7 hq1_v7 hq2_v7 hq3_v7 hq4_v7 hq5_v7 hq8_v7 hq9_v7 hq10_v7 hq13_v7 hq14_v7 hq15_v7 hq17_v7 hq18_v7 hq24_v7 hq25_v7 hq35_v7 hq36_v7 hq38_v7 hq39_v7 ⟨by decide, by decide⟩ hM_v7 hA_f8 (Nat.lt_succ_self _) _ _ _ hP hD hS (lv_sub hl [0, 1, 2, 3, 4] rfl)
  · skip
    subst g5
    refine lv_if_ne (tgt := 11) hx hb dX11_change_6 (by decide) (fun c0 => absurd (by decide) c0) (fun _ => ?_)
    refine lv_iconst (v := (-1)) hx hb dX11_change_9 (by decide) ?_
    exact ret (-1) (v, f, w, g) _ _ _ _ _ _ rfl ⟨hM_v, hA_f, hIv, hCf, hRf, rfl, rfl, rfl, rfl, rfl, rfl, rfl, rfl, rfl, rfl, rfl, rfl, rfl, rfl, rfl, rfl, rfl, rfl, rfl, rfl⟩ hP hD hS dX11_change_10 (Nat.le_refl _) (Nat.le_refl _)
set_option maxHeartbeats 4000000 in
set_option maxRecDepth 100000 in
theorem sY_X11_wideOf_1 (l : Launch) (dC : Nat → ClassId) (dI : Nat → Nat → Nat) (cy : Nat → ClassId) (y0 : Nat) (r : Nat → Nat) (p1 : Int32) (v : Nat → Int32) (f : Nat → Nat → Int32) (w : Int64) (g : Nat → Int64) (hIv : YI v) (hCf : YC f) (hRf : progOK (f 4) (f 5) (v 9).toInt.toNat)  : ctI l (dC, dI) cy yX11_wideOf cX11_wideOf 4 .int 1 60 0 0 Unit [.ref y0, .int p1] (YW cy y0 r v f w g) (fun r u => True) (fun u => YW cy y0 r v f w g) := by
  refine ctI_of (by decide) (Nat.le_of_ble_eq_true rfl) (fun p e s m below meth c A ls Q hx hb hml hts hown hE hP hD hA hl ret => ?_)
  have hUv : (v 35).toInt + (v 36).toInt ≤ 40 := hIv.2
  have hown : s.vm.findClass RX11 = some m.cls := hown
  have hS : va_S A s.heap s.heap [] := va_S.rf
  have hl : lv_has ls 4 [(0, .ref y0), (1, .int p1)] := hl
  refine lv_iconst (v := 0) hx hb dX11_wideOf_0 (by decide) ?_
  refine lv_istore_n (lv' := [(2, .int 0), (0, .ref y0), (1, .int p1)]) hx hb dX11_wideOf_1 rfl hl (by decide) rfl (fun ls hl => ?_)
  refine lv_iconst (v := 0) hx hb dX11_wideOf_2 (by decide) ?_
  refine lv_istore_n (lv' := [(3, .int 0), (2, .int 0), (0, .ref y0), (1, .int p1)]) hx hb dX11_wideOf_3 rfl hl (by decide) rfl (fun ls hl => ?_)
  have lp1 : ∀ (n1 : Nat) (l2_1 : Int32) (l3_1 : Int32), ((0 : Int) ≤ l3_1.toInt ∧ l3_1.toInt ≤ 2147483647) → (2147483647 - l3_1.toInt).toNat < n1 → ∀ (H : Heap) (locs : List Loc) (ls : Array Slot), va_P (dC, dI) vwCl (YW cy y0 r v f w g) H → va_D A (YW cy y0 r v f w g) → va_S A s.heap H locs → lv_has ls 4 [(3, .int l3_1), (2, .int l2_1), (0, .ref y0), (1, .int p1)] → W p l e { frames := 1, cells := 0, slots := 0, locals := 60 } s m ([.ref y0, .int p1] : List Value).toArray below meth c H locs 0 0 Q (F0 m 4 ls []) := by
    intro n1
    induction n1 with
    | zero => intro l2_1 l3_1 hr3_1 hm; exact absurd hm (Nat.not_lt_zero _)
    | succ n1 ih1 =>
      intro l2_1 l3_1 hr3_1 hm1 H locs ls hP hD hS hl
      refine lv_iload_n hx hb dX11_wideOf_4 rfl (lv_at hl 0 rfl) ?_
      refine lv_aload_n hx hb dX11_wideOf_5 rfl (lv_at hl 2 rfl) ?_
      refine va_get (D := (dC, dI)) (ci := 11) (v := .int (v 24)) (C := RX11) (T := TX11) (N := 79) hx hb hts inB_11 hown hE.1 hP 0 rfl rfl 48 (by decide) (hts _ k_1368) (fun _ h9 => h9) rfl dX11_wideOf_6 ?_
      have b24_v : 0 ≤ (v 24).toInt ∧ (v 24).toInt ≤ 6 := YIb.b hIv.1 24 (by decide)
      refine lv_icmp_ge (tgt := 51) hx hb dX11_wideOf_9 (by decide) (fun c2 => ?_) (fun c2 => ?_)
      · skip
        have zc2 : (v 24).toInt ≤ l3_1.toInt := by rw [fa_le] at c2; exact c2
        have rg3 := fb_rng l3_1
        have rg4 := fb_rng (v 24)
        refine lv_iload_n hx hb dX11_wideOf_51 rfl (lv_at hl 1 rfl) ?_
        exact ret l2_1 () _ _ _ _ _ _ rfl trivial hP hD hS dX11_wideOf_52 (Nat.le_refl _) (Nat.le_refl _)
      · skip
        have zc2 : ¬ ((v 24).toInt ≤ l3_1.toInt) := by rw [fa_le] at c2; exact c2
        have rg5 := fb_rng l3_1
        have rg6 := fb_rng (v 24)
        refine lv_iload_n hx hb dX11_wideOf_12 rfl (lv_at hl 1 rfl) ?_
        refine lv_iload_n hx hb dX11_wideOf_13 rfl (lv_at hl 3 rfl) ?_
        refine lv_iload_n hx hb dX11_wideOf_14 rfl (lv_at hl 0 rfl) ?_
        refine lv_ishr hx hb dX11_wideOf_15 ?_
        refine lv_topi (fun t7 et7 => ?_)
        refine lv_iconst (v := 1) hx hb dX11_wideOf_16 (by decide) ?_
        refine lv_iand hx hb dX11_wideOf_17 ?_
        refine lv_topi (fun t8 et8 => ?_)
        have zt8 : 0 ≤ t8.toInt ∧ t8.toInt < 2 := by rw [et8]; exact and_rng _ (k := 1) (by decide) (by decide)
        refine lv_iconst (v := 1) hx hb dX11_wideOf_18 (by decide) ?_
        refine lv_icmp_ne (tgt := 42) hx hb dX11_wideOf_19 (by decide) (fun c9 => ?_) (fun c9 => ?_)
        · skip
          have zc9 : ¬ (t8.toInt = 1) := by rw [fa_eq, show (1 : Int32).toInt = 1 from by decide] at c9; exact c9
          refine lv_iconst (v := 0) hx hb dX11_wideOf_42 (by decide) ?_
          refine lv_iadd hx hb dX11_wideOf_43 ?_
          refine lv_topi (fun t10 et10 => ?_)
          have rg11 := fb_rng l2_1
          have zt10 : t10.toInt = l2_1.toInt + 0 := by rw [et10]; exact add_i rfl (by decide) (by omega) (by omega)
          refine lv_istore_n (lv' := [(2, .int t10), (3, .int l3_1), (0, .ref y0), (1, .int p1)]) hx hb dX11_wideOf_44 rfl hl (by decide) rfl (fun ls hl => ?_)
          obtain ⟨t12, et12⟩ : ∃ y : Int32, y = l3_1 + 1 := ⟨_, rfl⟩
          have zt12 : t12.toInt = l3_1.toInt + 1 := by rw [et12]; exact add_i rfl (by decide) (by omega) (by omega)
          refine lv_iinc (v := t12) (lv' := [(3, .int t12), (2, .int t10), (0, .ref y0), (1, .int p1)]) hx hb dX11_wideOf_45 hl (k := 1) rfl (by rw [et12]; rfl) (by decide) rfl (fun ls hl => ?_)
          refine lv_goto (tgt := 4) hx hb dX11_wideOf_48 (by decide) ?_
          have rg13 := fb_rng t12
          exact ih1 t10 t12 ⟨show (0 : Int) ≤ t12.toInt by omega, show t12.toInt ≤ (2147483647 : Int) by omega⟩ (by show (2147483647 - t12.toInt).toNat < n1; omega) _ _ _ hP hD hS (lv_sub hl [0, 1, 2, 3] rfl)
        · skip
          have zc9 : t8.toInt = 1 := by rw [fa_eq, show (1 : Int32).toInt = 1 from by decide] at c9; exact c9
          refine lv_aload_n hx hb dX11_wideOf_22 rfl (lv_at hl 2 rfl) ?_
          refine va_get (D := (dC, dI)) (ci := 11) (v := .ref (r 60)) (C := RX11) (T := TX11) (N := 79) hx hb hts inB_11 hown hE.1 hP 0 rfl rfl 60 (by decide) (hts _ k_1380) (fun _ h9 => h9) rfl dX11_wideOf_23 ?_
          refine lv_bipush (v := 18) hx hb dX11_wideOf_26 (by decide) ?_
          refine lv_aload_n hx hb dX11_wideOf_28 rfl (lv_at hl 2 rfl) ?_
          refine va_get (D := (dC, dI)) (ci := 11) (v := .ref (r 60)) (C := RX11) (T := TX11) (N := 79) hx hb hts inB_11 hown hE.1 hP 0 rfl rfl 60 (by decide) (hts _ k_1380) (fun _ h9 => h9) rfl dX11_wideOf_29 ?_
          refine lv_bipush (v := 6) hx hb dX11_wideOf_32 (by decide) ?_
          refine lv_iload_n hx hb dX11_wideOf_34 rfl (lv_at hl 0 rfl) ?_
          refine lv_iadd hx hb dX11_wideOf_35 ?_
          refine lv_topi (fun t14 et14 => ?_)
          have zt14 : t14.toInt = 6 + l3_1.toInt := by rw [et14]; exact add_i (by decide) rfl (by omega) (by omega)
          refine ldI hx hb hE hP 25 rfl (vp_in_iff.mpr ⟨by omega, by omega⟩) rfl rfl dX11_wideOf_36 ?_
          refine lv_topi (fun t15 et15 => ?_)
          have zt15 : t14.toInt.toNat % 39 < 6 ∨ 12 ≤ t14.toInt.toNat % 39 ∨ (-1 ≤ t15.toInt ∧ t15.toInt ≤ 5) := by rw [et15]; exact wear_ld hCf.2.1 (show t14.toInt.toNat < 39 by omega)
          refine lv_iadd hx hb dX11_wideOf_37 ?_
          refine lv_topi (fun t16 et16 => ?_)
          have rg17 := fb_rng t15
          have zt16 : t16.toInt = 18 + t15.toInt := by rw [et16]; exact add_i (by decide) rfl (by omega) (by omega)
          refine ldI hx hb hE hP 25 rfl (vp_in_iff.mpr ⟨by omega, by omega⟩) rfl rfl dX11_wideOf_38 ?_
          refine lv_topi (fun t18 et18 => ?_)
          have zt18 : t16.toInt.toNat % 39 < 6 ∨ 12 ≤ t16.toInt.toNat % 39 ∨ (-1 ≤ t18.toInt ∧ t18.toInt ≤ 5) := by rw [et18]; exact wear_ld hCf.2.1 (show t16.toInt.toNat < 39 by omega)
          refine lv_goto (tgt := 43) hx hb dX11_wideOf_39 (by decide) ?_
          refine lv_iadd hx hb dX11_wideOf_43 ?_
          refine lv_topi (fun t19 et19 => ?_)
          refine lv_istore_n (lv' := [(2, .int t19), (3, .int l3_1), (0, .ref y0), (1, .int p1)]) hx hb dX11_wideOf_44 rfl hl (by decide) rfl (fun ls hl => ?_)
          obtain ⟨t20, et20⟩ : ∃ y : Int32, y = l3_1 + 1 := ⟨_, rfl⟩
          have zt20 : t20.toInt = l3_1.toInt + 1 := by rw [et20]; exact add_i rfl (by decide) (by omega) (by omega)
          refine lv_iinc (v := t20) (lv' := [(3, .int t20), (2, .int t19), (0, .ref y0), (1, .int p1)]) hx hb dX11_wideOf_45 hl (k := 1) rfl (by rw [et20]; rfl) (by decide) rfl (fun ls hl => ?_)
          refine lv_goto (tgt := 4) hx hb dX11_wideOf_48 (by decide) ?_
          have rg21 := fb_rng t20
          exact ih1 t19 t20 ⟨show (0 : Int) ≤ t20.toInt by omega, show t20.toInt ≤ (2147483647 : Int) by omega⟩ (by show (2147483647 - t20.toInt).toNat < n1; omega) _ _ _ hP hD hS (lv_sub hl [0, 1, 2, 3] rfl)
  exact lp1 _ 0 0 ⟨by decide, by decide⟩ (Nat.lt_succ_self _) _ _ _ hP hD hS (lv_sub hl [0, 1, 2, 3] rfl)
set_option maxHeartbeats 4000000 in
set_option maxRecDepth 100000 in
theorem sY_X11_front_1 (l : Launch) (dC : Nat → ClassId) (dI : Nat → Nat → Nat) (cy : Nat → ClassId) (y0 : Nat) (r : Nat → Nat) (p1 : Int32) (p2 : Int32) (v : Nat → Int32) (f : Nat → Nat → Int32) (w : Int64) (g : Nat → Int64) (hIv : YI v) (hCf : YC f) (hRf : progOK (f 4) (f 5) (v 9).toInt.toNat)  : ctI l (dC, dI) cy yX11_front cX11_front 6 .int 3 102 0 0 ((Nat → Int32) × (Nat → Nat → Int32) × (Int64) × (Nat → Int64)) [.ref y0, .int p1, .int p2] (YW cy y0 r v f w g) (fun r u => KV [] u.1 v ∧ KF [24] u.2.1 f ∧ YI u.1 ∧ YC u.2.1 ∧ progOK (u.2.1 4) (u.2.1 5) (u.1 9).toInt.toNat ∧ u.1 0 = v 0 ∧ u.1 1 = v 1 ∧ u.1 2 = v 2 ∧ u.1 3 = v 3 ∧ u.1 4 = v 4 ∧ u.1 5 = v 5 ∧ u.1 8 = v 8 ∧ u.1 9 = v 9 ∧ u.1 10 = v 10 ∧ u.1 13 = v 13 ∧ u.1 14 = v 14 ∧ u.1 15 = v 15 ∧ u.1 17 = v 17 ∧ u.1 18 = v 18 ∧ u.1 24 = v 24 ∧ u.1 25 = v 25 ∧ u.1 35 = v 35 ∧ u.1 36 = v 36 ∧ u.1 38 = v 38 ∧ u.1 39 = v 39) (fun u => YW cy y0 r u.1 u.2.1 u.2.2.1 u.2.2.2) := by
  refine ctI_of (by decide) (Nat.le_of_ble_eq_true rfl) (fun p e s m below meth c A ls Q hx hb hml hts hown hE hP hD hA hl ret => ?_)
  have hUv : (v 35).toInt + (v 36).toInt ≤ 40 := hIv.2
  have hM_v : KV [] v v := fun _ _ => rfl
  have hA_f : KF [24] f f := fun _ _ => rfl
  have hown : s.vm.findClass RX11 = some m.cls := hown
  have hS : va_S A s.heap s.heap [] := va_S.rf
  have hl : lv_has ls 6 [(0, .ref y0), (1, .int p1), (2, .int p2)] := hl
  refine lv_iload_n hx hb dX11_front_0 rfl (lv_at hl 1 rfl) ?_
  refine lv_iconst (v := 0) hx hb dX11_front_1 (by decide) ?_
  refine lv_sipush (v := 999) hx hb dX11_front_2 (by decide) ?_
  have lt1 : (0 : Int32).toInt = 0 := by decide
  have lt2 : (999 : Int32).toInt = 999 := by decide
  refine cbSi (n := 3) (rest := []) hx hb hml hown hts hE hP hD hS hA (sY_X11_isIn_1 0 l dC dI cy y0 r p1 0 999 v f w g hIv hCf hRf ) k_1736 k_1737 k_114 k_1738 (by decide +kernel) ⟨Nat.le_of_ble_eq_true rfl, Nat.le_of_ble_eq_true rfl⟩ (rfl) hl.1 rfl (Nat.le_of_ble_eq_true rfl) dX11_front_5 (fun r3 u H locs hw hP hD hS => ?_)
  obtain ⟨hG4, hw⟩ := hw
  rcases hw with ⟨g5, g5_0, g5_1⟩ | ⟨g5⟩
  · skip
    subst g5
    refine lv_if_eq (tgt := 20) hx hb dX11_front_8 (by decide) (fun c0 => absurd c0 (by decide)) (fun _ => ?_)
    refine lv_iload_n hx hb dX11_front_11 rfl (lv_at hl 2 rfl) ?_
    refine lv_iconst (v := 0) hx hb dX11_front_12 (by decide) ?_
    refine lv_iconst (v := 1) hx hb dX11_front_13 (by decide) ?_
    have lt6 : (1 : Int32).toInt = 1 := by decide
    refine cbSi (n := 3) (rest := []) hx hb hml hown hts hE hP hD hS hA (sY_X11_isIn_1 0 l dC dI cy y0 r p2 0 1 v f w g hIv hCf hRf ) k_1736 k_1737 k_114 k_1738 (by decide +kernel) ⟨Nat.le_of_ble_eq_true rfl, Nat.le_of_ble_eq_true rfl⟩ (rfl) hl.1 rfl (Nat.le_of_ble_eq_true rfl) dX11_front_14 (fun r7 u H locs hw hP hD hS => ?_)
    obtain ⟨hG8, hw⟩ := hw
    rcases hw with ⟨g9, g9_0, g9_1⟩ | ⟨g9⟩
    · skip
      subst g9
      refine lv_if_ne (tgt := 22) hx hb dX11_front_17 (by decide) (fun _ => ?_) (fun c0 => absurd c0 (by decide))
      refine lv_aload_n hx hb dX11_front_22 rfl (lv_at hl 0 rfl) ?_
      refine cbVv (n := 0) (rest := []) hx hb hml hown hts hE hP hD hS hA (sY_X11_fill_1 0 l dC dI cy y0 r  v f w g hIv hCf hRf ) k_1739 k_1741 k_71 k_114 k_1742 (by decide +kernel) ⟨Nat.le_of_ble_eq_true rfl, Nat.le_of_ble_eq_true rfl⟩ 0 11 rfl rfl (rfl) hl.1 rfl (Nat.le_of_ble_eq_true rfl) dX11_front_23 (fun u H locs hw hP hD hS => ?_)
      obtain ⟨hG10, hw⟩ := hw
      obtain ⟨v11, f12, w13, g14⟩ := u
      obtain ⟨kV_v11, kF_f12, hIv11, hCf12, hRf12, hk0_v11, hk1_v11, hk2_v11, hk3_v11, hk4_v11, hk5_v11, hk8_v11, hk9_v11, hk10_v11, hk13_v11, hk14_v11, hk15_v11, hk17_v11, hk18_v11, hk24_v11, hk25_v11, hk35_v11, hk36_v11, hk38_v11, hk39_v11⟩ := hw
      have hM_v11 : KV [] v11 v := KV.tr kV_v11 hM_v rfl
      have hA_f12 : KF [24] f12 f := KF.tr kF_f12 hA_f rfl
      have hP : va_P (dC, dI) vwCl (YW cy y0 r v11 f12 w13 g14) H := hP
      have hD : va_D A (YW cy y0 r v11 f12 w13 g14) := hD
      have hUv11 : (v11 35).toInt + (v11 36).toInt ≤ 40 := hIv11.2
      have hq9_v11 : v11 9 = (v 9) := hk9_v11
      have zq9_v11 := congrArg Int32.toInt hq9_v11
      refine lv_aload_n hx hb dX11_front_26 rfl (lv_at hl 0 rfl) ?_
      refine cbVi (n := 0) (rest := []) hx hb hml hown hts hE hP hD hS hA (sY_X11_wearers_1 0 l dC dI cy y0 r  v11 f12 w13 g14 hIv11 hCf12 hRf12 ) k_1805 k_1807 k_80 k_114 k_1808 (by decide +kernel) ⟨Nat.le_of_ble_eq_true rfl, Nat.le_of_ble_eq_true rfl⟩ 0 11 rfl rfl (rfl) hl.1 rfl (Nat.le_of_ble_eq_true rfl) dX11_front_27 (fun r15 u H locs hw hP hD hS => ?_)
      obtain ⟨hG16, hw⟩ := hw
      refine lv_istore_n (lv' := [(3, .int r15), (0, .ref y0), (1, .int p1), (2, .int p2)]) hx hb dX11_front_30 rfl hl (by decide) rfl (fun ls hl => ?_)
      refine lv_iconst (v := (-1)) hx hb dX11_front_31 (by decide) ?_
      refine lv_istore (lv' := [(4, .int (-1)), (3, .int r15), (0, .ref y0), (1, .int p1), (2, .int p2)]) hx hb dX11_front_32 hl (by decide) rfl (fun ls hl => ?_)
      refine lv_iconst (v := 0) hx hb dX11_front_34 (by decide) ?_
      refine lv_istore (lv' := [(5, .int 0), (4, .int (-1)), (3, .int r15), (0, .ref y0), (1, .int p1), (2, .int p2)]) hx hb dX11_front_35 hl (by decide) rfl (fun ls hl => ?_)
      have lp17 : ∀ (n17 : Nat) (l4_17 : Int32) (l5_17 : Int32), ((0 : Int) ≤ l5_17.toInt ∧ l5_17.toInt ≤ 2147483647) → (2147483647 - l5_17.toInt).toNat < n17 → ∀ (H : Heap) (locs : List Loc) (ls : Array Slot), va_P (dC, dI) vwCl (YW cy y0 r v11 f12 w13 g14) H → va_D A (YW cy y0 r v11 f12 w13 g14) → va_S A s.heap H locs → lv_has ls 6 [(5, .int l5_17), (4, .int l4_17), (3, .int r15), (0, .ref y0), (1, .int p1), (2, .int p2)] → W p l e { frames := 3, cells := 0, slots := 0, locals := 102 } s m ([.ref y0, .int p1, .int p2] : List Value).toArray below meth c H locs 0 0 Q (F0 m 37 ls []) := by
        intro n17
        induction n17 with
        | zero => intro l4_17 l5_17 hr5_17 hm; exact absurd hm (Nat.not_lt_zero _)
        | succ n17 ih17 =>
          intro l4_17 l5_17 hr5_17 hm17 H locs ls hP hD hS hl
          refine lv_iload hx hb dX11_front_37 (lv_at hl 0 rfl) ?_
          refine lv_iload_n hx hb dX11_front_39 rfl (lv_at hl 2 rfl) ?_
          refine lv_icmp_gt (tgt := 90) hx hb dX11_front_40 (by decide) (fun c18 => ?_) (fun c18 => ?_)
          · skip
            have zc18 : r15.toInt < l5_17.toInt := by rw [fa_lt] at c18; exact c18
            have rg19 := fb_rng l5_17
            have rg20 := fb_rng r15
            refine lv_iload hx hb dX11_front_90 (lv_at hl 1 rfl) ?_
            refine lv_if_ge (tgt := 99) hx hb dX11_front_92 (by decide) (fun c21 => ?_) (fun c21 => ?_)
            · skip
              have zc21 : 0 ≤ l4_17.toInt := by rw [fa_le, show (0 : Int32).toInt = 0 from by decide] at c21; exact c21
              refine lv_iload_n hx hb dX11_front_99 rfl (lv_at hl 5 rfl) ?_
              refine lv_if_ne (tgt := 111) hx hb dX11_front_100 (by decide) (fun c22 => ?_) (fun c22 => ?_)
              · skip
                have zc22 : ¬ (p2.toInt = 0) := by rw [fa_eq, show (0 : Int32).toInt = 0 from by decide] at c22; exact c22
                refine lv_iload hx hb dX11_front_111 (lv_at hl 1 rfl) ?_
                exact ret l4_17 (v11, f12, w13, g14) _ _ _ _ _ _ rfl ⟨hM_v11, hA_f12, hIv11, hCf12, hRf12, hk0_v11, hk1_v11, hk2_v11, hk3_v11, hk4_v11, hk5_v11, hk8_v11, hk9_v11, hk10_v11, hk13_v11, hk14_v11, hk15_v11, hk17_v11, hk18_v11, hk24_v11, hk25_v11, hk35_v11, hk36_v11, hk38_v11, hk39_v11⟩ hP hD hS dX11_front_113 (Nat.le_refl _) (Nat.le_refl _)
              · skip
                have zc22 : p2.toInt = 0 := by rw [fa_eq, show (0 : Int32).toInt = 0 from by decide] at c22; exact c22
                refine lv_iload hx hb dX11_front_103 (lv_at hl 1 rfl) ?_
                refine cbSi (n := 1) (rest := []) hx hb hml hown hts hE hP hD hS hA (sY_X11_members_1 l dC dI cy y0 r l4_17 v11 f12 w13 g14 hIv11 hCf12 hRf12 ) k_1900 k_1901 k_114 k_1902 (by decide +kernel) ⟨Nat.le_of_ble_eq_true rfl, Nat.le_of_ble_eq_true rfl⟩ (rfl) hl.1 rfl (Nat.le_of_ble_eq_true rfl) dX11_front_105 (fun r23 u H locs hw hP hD hS => ?_)
                refine lv_goto (tgt := 113) hx hb dX11_front_108 (by decide) ?_
                exact ret r23 (v11, f12, w13, g14) _ _ _ _ _ _ rfl ⟨hM_v11, hA_f12, hIv11, hCf12, hRf12, hk0_v11, hk1_v11, hk2_v11, hk3_v11, hk4_v11, hk5_v11, hk8_v11, hk9_v11, hk10_v11, hk13_v11, hk14_v11, hk15_v11, hk17_v11, hk18_v11, hk24_v11, hk25_v11, hk35_v11, hk36_v11, hk38_v11, hk39_v11⟩ hP hD hS dX11_front_113 (Nat.le_refl _) (Nat.le_refl _)
            · skip
              have zc21 : ¬ (0 ≤ l4_17.toInt) := by rw [fa_le, show (0 : Int32).toInt = 0 from by decide] at c21; exact c21
              refine lv_iconst (v := (-1)) hx hb dX11_front_95 (by decide) ?_
              refine lv_goto (tgt := 113) hx hb dX11_front_96 (by decide) ?_
              exact ret (-1) (v11, f12, w13, g14) _ _ _ _ _ _ rfl ⟨hM_v11, hA_f12, hIv11, hCf12, hRf12, hk0_v11, hk1_v11, hk2_v11, hk3_v11, hk4_v11, hk5_v11, hk8_v11, hk9_v11, hk10_v11, hk13_v11, hk14_v11, hk15_v11, hk17_v11, hk18_v11, hk24_v11, hk25_v11, hk35_v11, hk36_v11, hk38_v11, hk39_v11⟩ hP hD hS dX11_front_113 (Nat.le_refl _) (Nat.le_refl _)
          · skip
            have zc18 : ¬ (r15.toInt < l5_17.toInt) := by rw [fa_lt] at c18; exact c18
            have rg24 := fb_rng l5_17
            have rg25 := fb_rng r15
            refine lv_iload hx hb dX11_front_43 (lv_at hl 0 rfl) ?_
            refine lv_iload_n hx hb dX11_front_45 rfl (lv_at hl 2 rfl) ?_
            refine lv_iconst (v := (-1)) hx hb dX11_front_46 (by decide) ?_
            refine lv_ixor hx hb dX11_front_47 ?_
            refine lv_topi (fun t26 et26 => ?_)
            refine lv_iand hx hb dX11_front_48 ?_
            refine lv_topi (fun t27 et27 => ?_)
            have zt27 : 0 ≤ t27.toInt ∧ t27.toInt ≤ 63 := by rw [et27]; exact and_left (by omega) (by omega)
            refine lv_if_ne (tgt := 84) hx hb dX11_front_49 (by decide) (fun c28 => ?_) (fun c28 => ?_)
            · skip
              have zc28 : ¬ (t27.toInt = 0) := by rw [fa_eq, show (0 : Int32).toInt = 0 from by decide] at c28; exact c28
              obtain ⟨t29, et29⟩ : ∃ y : Int32, y = l5_17 + 1 := ⟨_, rfl⟩
              have zt29 : t29.toInt = l5_17.toInt + 1 := by rw [et29]; exact add_i rfl (by decide) (by omega) (by omega)
              refine lv_iinc (v := t29) (lv' := [(5, .int t29), (4, .int l4_17), (3, .int r15), (0, .ref y0), (1, .int p1), (2, .int p2)]) hx hb dX11_front_84 hl (k := 0) rfl (by rw [et29]; rfl) (by decide) rfl (fun ls hl => ?_)
              refine lv_goto (tgt := 37) hx hb dX11_front_87 (by decide) ?_
              have rg30 := fb_rng t29
              exact ih17 l4_17 t29 ⟨show (0 : Int) ≤ t29.toInt by omega, show t29.toInt ≤ (2147483647 : Int) by omega⟩ (by show (2147483647 - t29.toInt).toNat < n17; omega) _ _ _ hP hD hS (lv_sub hl [0, 1, 2, 3, 4, 5] rfl)
            · skip
              have zc28 : t27.toInt = 0 := by rw [fa_eq, show (0 : Int32).toInt = 0 from by decide] at c28; exact c28
              refine lv_aload_n hx hb dX11_front_52 rfl (lv_at hl 3 rfl) ?_
              refine lv_iload hx hb dX11_front_53 (lv_at hl 0 rfl) ?_
              refine cbVi (n := 1) (rest := []) hx hb hml hown hts hE hP hD hS hA (sY_X11_wideOf_1 l dC dI cy y0 r l5_17 v11 f12 w13 g14 hIv11 hCf12 hRf12 ) k_1912 k_1914 k_88 k_114 k_1915 (by decide +kernel) ⟨Nat.le_of_ble_eq_true rfl, Nat.le_of_ble_eq_true rfl⟩ 0 11 rfl rfl (rfl) hl.1 rfl (Nat.le_of_ble_eq_true rfl) dX11_front_55 (fun r31 u H locs hw hP hD hS => ?_)
              refine lv_iload_n hx hb dX11_front_58 rfl (lv_at hl 4 rfl) ?_
              refine lv_icmp_lt (tgt := 84) hx hb dX11_front_59 (by decide) (fun c32 => ?_) (fun c32 => ?_)
              · skip
                have zc32 : r31.toInt < p1.toInt := by rw [fa_lt] at c32; exact c32
                have rg33 := fb_rng r31
                have rg34 := fb_rng p1
                obtain ⟨t35, et35⟩ : ∃ y : Int32, y = l5_17 + 1 := ⟨_, rfl⟩
                have zt35 : t35.toInt = l5_17.toInt + 1 := by rw [et35]; exact add_i rfl (by decide) (by omega) (by omega)
                refine lv_iinc (v := t35) (lv' := [(5, .int t35), (4, .int l4_17), (3, .int r15), (0, .ref y0), (1, .int p1), (2, .int p2)]) hx hb dX11_front_84 hl (k := 0) rfl (by rw [et35]; rfl) (by decide) rfl (fun ls hl => ?_)
                refine lv_goto (tgt := 37) hx hb dX11_front_87 (by decide) ?_
                have rg36 := fb_rng t35
                exact ih17 l4_17 t35 ⟨show (0 : Int) ≤ t35.toInt by omega, show t35.toInt ≤ (2147483647 : Int) by omega⟩ (by show (2147483647 - t35.toInt).toNat < n17; omega) _ _ _ hP hD hS (lv_sub hl [0, 1, 2, 3, 4, 5] rfl)
              · skip
                have zc32 : ¬ (r31.toInt < p1.toInt) := by rw [fa_lt] at c32; exact c32
                have rg37 := fb_rng r31
                have rg38 := fb_rng p1
                refine lv_iload hx hb dX11_front_62 (lv_at hl 1 rfl) ?_
                refine lv_if_lt (tgt := 80) hx hb dX11_front_64 (by decide) (fun c39 => ?_) (fun c39 => ?_)
                · skip
                  have zc39 : l4_17.toInt < 0 := by rw [fa_lt, show (0 : Int32).toInt = 0 from by decide] at c39; exact c39
                  refine lv_iload hx hb dX11_front_80 (lv_at hl 0 rfl) ?_
                  refine lv_istore (lv' := [(4, .int l5_17), (5, .int l5_17), (3, .int r15), (0, .ref y0), (1, .int p1), (2, .int p2)]) hx hb dX11_front_82 hl (by decide) rfl (fun ls hl => ?_)
                  obtain ⟨t40, et40⟩ : ∃ y : Int32, y = l5_17 + 1 := ⟨_, rfl⟩
                  have zt40 : t40.toInt = l5_17.toInt + 1 := by rw [et40]; exact add_i rfl (by decide) (by omega) (by omega)
                  refine lv_iinc (v := t40) (lv' := [(5, .int t40), (4, .int l5_17), (3, .int r15), (0, .ref y0), (1, .int p1), (2, .int p2)]) hx hb dX11_front_84 hl (k := 1) rfl (by rw [et40]; rfl) (by decide) rfl (fun ls hl => ?_)
                  refine lv_goto (tgt := 37) hx hb dX11_front_87 (by decide) ?_
                  have rg41 := fb_rng t40
                  exact ih17 l5_17 t40 ⟨show (0 : Int) ≤ t40.toInt by omega, show t40.toInt ≤ (2147483647 : Int) by omega⟩ (by show (2147483647 - t40.toInt).toNat < n17; omega) _ _ _ hP hD hS (lv_sub hl [0, 1, 2, 3, 4, 5] rfl)
                · skip
                  have zc39 : ¬ (l4_17.toInt < 0) := by rw [fa_lt, show (0 : Int32).toInt = 0 from by decide] at c39; exact c39
                  refine lv_iload hx hb dX11_front_67 (lv_at hl 0 rfl) ?_
                  refine cbSi (n := 1) (rest := []) hx hb hml hown hts hE hP hD hS hA (sY_X11_members_1 l dC dI cy y0 r l5_17 v11 f12 w13 g14 hIv11 hCf12 hRf12 ) k_1900 k_1901 k_114 k_1902 (by decide +kernel) ⟨Nat.le_of_ble_eq_true rfl, Nat.le_of_ble_eq_true rfl⟩ (rfl) hl.1 rfl (Nat.le_of_ble_eq_true rfl) dX11_front_69 (fun r42 u H locs hw hP hD hS => ?_)
                  refine lv_iload hx hb dX11_front_72 (lv_at hl 1 rfl) ?_
                  refine cbSi (n := 1) (rest := [.int r42]) hx hb hml hown hts hE hP hD hS hA (sY_X11_members_1 l dC dI cy y0 r l4_17 v11 f12 w13 g14 hIv11 hCf12 hRf12 ) k_1900 k_1901 k_114 k_1902 (by decide +kernel) ⟨Nat.le_of_ble_eq_true rfl, Nat.le_of_ble_eq_true rfl⟩ (rfl) hl.1 rfl (Nat.le_of_ble_eq_true rfl) dX11_front_74 (fun r43 u H locs hw hP hD hS => ?_)
                  refine lv_icmp_ge (tgt := 84) hx hb dX11_front_77 (by decide) (fun c44 => ?_) (fun c44 => ?_)
                  · skip
                    have zc44 : r43.toInt ≤ r42.toInt := by rw [fa_le] at c44; exact c44
                    have rg45 := fb_rng r42
                    have rg46 := fb_rng r43
                    obtain ⟨t47, et47⟩ : ∃ y : Int32, y = l5_17 + 1 := ⟨_, rfl⟩
                    have zt47 : t47.toInt = l5_17.toInt + 1 := by rw [et47]; exact add_i rfl (by decide) (by omega) (by omega)
                    refine lv_iinc (v := t47) (lv' := [(5, .int t47), (4, .int l4_17), (3, .int r15), (0, .ref y0), (1, .int p1), (2, .int p2)]) hx hb dX11_front_84 hl (k := 0) rfl (by rw [et47]; rfl) (by decide) rfl (fun ls hl => ?_)
                    refine lv_goto (tgt := 37) hx hb dX11_front_87 (by decide) ?_
                    have rg48 := fb_rng t47
                    exact ih17 l4_17 t47 ⟨show (0 : Int) ≤ t47.toInt by omega, show t47.toInt ≤ (2147483647 : Int) by omega⟩ (by show (2147483647 - t47.toInt).toNat < n17; omega) _ _ _ hP hD hS (lv_sub hl [0, 1, 2, 3, 4, 5] rfl)
                  · skip
                    have zc44 : ¬ (r43.toInt ≤ r42.toInt) := by rw [fa_le] at c44; exact c44
                    have rg49 := fb_rng r42
                    have rg50 := fb_rng r43
                    refine lv_iload hx hb dX11_front_80 (lv_at hl 0 rfl) ?_
                    refine lv_istore (lv' := [(4, .int l5_17), (5, .int l5_17), (3, .int r15), (0, .ref y0), (1, .int p1), (2, .int p2)]) hx hb dX11_front_82 hl (by decide) rfl (fun ls hl => ?_)
                    obtain ⟨t51, et51⟩ : ∃ y : Int32, y = l5_17 + 1 := ⟨_, rfl⟩
                    have zt51 : t51.toInt = l5_17.toInt + 1 := by rw [et51]; exact add_i rfl (by decide) (by omega) (by omega)
                    refine lv_iinc (v := t51) (lv' := [(5, .int t51), (4, .int l5_17), (3, .int r15), (0, .ref y0), (1, .int p1), (2, .int p2)]) hx hb dX11_front_84 hl (k := 1) rfl (by rw [et51]; rfl) (by decide) rfl (fun ls hl => ?_)
                    refine lv_goto (tgt := 37) hx hb dX11_front_87 (by decide) ?_
                    have rg52 := fb_rng t51
                    exact ih17 l5_17 t51 ⟨show (0 : Int) ≤ t51.toInt by omega, show t51.toInt ≤ (2147483647 : Int) by omega⟩ (by show (2147483647 - t51.toInt).toNat < n17; omega) _ _ _ hP hD hS (lv_sub hl [0, 1, 2, 3, 4, 5] rfl)
      exact lp17 _ (-1) 0 ⟨by decide, by decide⟩ (Nat.lt_succ_self _) _ _ _ hP hD hS (lv_sub hl [0, 1, 2, 3, 4, 5] rfl)
    · skip
      subst g9
      refine lv_if_ne (tgt := 22) hx hb dX11_front_17 (by decide) (fun c0 => absurd (by decide) c0) (fun _ => ?_)
      refine lv_iconst (v := (-1)) hx hb dX11_front_20 (by decide) ?_
      exact ret (-1) (v, f, w, g) _ _ _ _ _ _ rfl ⟨hM_v, hA_f, hIv, hCf, hRf, rfl, rfl, rfl, rfl, rfl, rfl, rfl, rfl, rfl, rfl, rfl, rfl, rfl, rfl, rfl, rfl, rfl, rfl, rfl, rfl⟩ hP hD hS dX11_front_21 (Nat.le_refl _) (Nat.le_refl _)
  · skip
    subst g5
    refine lv_if_eq (tgt := 20) hx hb dX11_front_8 (by decide) (fun _ => ?_) (fun c0 => absurd (by decide) c0)
    refine lv_iconst (v := (-1)) hx hb dX11_front_20 (by decide) ?_
    exact ret (-1) (v, f, w, g) _ _ _ _ _ _ rfl ⟨hM_v, hA_f, hIv, hCf, hRf, rfl, rfl, rfl, rfl, rfl, rfl, rfl, rfl, rfl, rfl, rfl, rfl, rfl, rfl, rfl, rfl, rfl, rfl, rfl, rfl⟩ hP hD hS dX11_front_21 (Nat.le_refl _) (Nat.le_refl _)
set_option maxHeartbeats 4000000 in
set_option maxRecDepth 100000 in
theorem sY_X11_plain_1 (l : Launch) (dC : Nat → ClassId) (dI : Nat → Nat → Nat) (cy : Nat → ClassId) (y0 : Nat) (r : Nat → Nat) (p0 : Int32) (v : Nat → Int32) (f : Nat → Nat → Int32) (w : Int64) (g : Nat → Int64) (hIv : YI v) (hCf : YC f) (hRf : progOK (f 4) (f 5) (v 9).toInt.toNat)  : ctI l (dC, dI) cy yX11_plain cX11_plain 1 .int 1 60 0 0 Unit [.int p0] (YW cy y0 r v f w g) (fun r u => True) (fun u => YW cy y0 r v f w g) := by
  refine ctI_of (by decide) (Nat.le_of_ble_eq_true rfl) (fun p e s m below meth c A ls Q hx hb hml hts hown hE hP hD hA hl ret => ?_)
  have hUv : (v 35).toInt + (v 36).toInt ≤ 40 := hIv.2
  have hown : s.vm.findClass RX11 = some m.cls := hown
  have hS : va_S A s.heap s.heap [] := va_S.rf
  have hl : lv_has ls 1 [(0, .int p0)] := hl
  refine lv_iload_n hx hb dX11_plain_0 rfl (lv_at hl 0 rfl) ?_
  refine lv_if_ge (tgt := 9) hx hb dX11_plain_1 (by decide) (fun c1 => ?_) (fun c1 => ?_)
  · skip
    have zc1 : 0 ≤ p0.toInt := by rw [fa_le, show (0 : Int32).toInt = 0 from by decide] at c1; exact c1
    refine lv_iload_n hx hb dX11_plain_9 rfl (lv_at hl 0 rfl) ?_
    exact ret p0 () _ _ _ _ _ _ rfl trivial hP hD hS dX11_plain_10 (Nat.le_refl _) (Nat.le_refl _)
  · skip
    have zc1 : ¬ (0 ≤ p0.toInt) := by rw [fa_le, show (0 : Int32).toInt = 0 from by decide] at c1; exact c1
    refine lv_iload_n hx hb dX11_plain_4 rfl (lv_at hl 0 rfl) ?_
    refine lv_ineg hx hb dX11_plain_5 ?_
    refine lv_topi (fun t2 et2 => ?_)
    refine lv_goto (tgt := 10) hx hb dX11_plain_6 (by decide) ?_
    exact ret t2 () _ _ _ _ _ _ rfl trivial hP hD hS dX11_plain_10 (Nat.le_refl _) (Nat.le_refl _)
set_option maxHeartbeats 4000000 in
set_option maxRecDepth 100000 in
theorem sY_X11_wings_1 (l : Launch) (dC : Nat → ClassId) (dI : Nat → Nat → Nat) (cy : Nat → ClassId) (y0 : Nat) (r : Nat → Nat) (p1 : Int32) (v : Nat → Int32) (f : Nat → Nat → Int32) (w : Int64) (g : Nat → Int64) (hIv : YI v) (hCf : YC f) (hRf : progOK (f 4) (f 5) (v 9).toInt.toNat)  : ctI l (dC, dI) cy yX11_wings cX11_wings 8 .int 3 102 0 0 ((Nat → Int32) × (Nat → Nat → Int32) × (Int64) × (Nat → Int64)) [.ref y0, .int p1] (YW cy y0 r v f w g) (fun r u => KV [] u.1 v ∧ KF [24] u.2.1 f ∧ YI u.1 ∧ YC u.2.1 ∧ progOK (u.2.1 4) (u.2.1 5) (u.1 9).toInt.toNat ∧ u.1 0 = v 0 ∧ u.1 1 = v 1 ∧ u.1 2 = v 2 ∧ u.1 3 = v 3 ∧ u.1 4 = v 4 ∧ u.1 5 = v 5 ∧ u.1 8 = v 8 ∧ u.1 9 = v 9 ∧ u.1 10 = v 10 ∧ u.1 13 = v 13 ∧ u.1 14 = v 14 ∧ u.1 15 = v 15 ∧ u.1 17 = v 17 ∧ u.1 18 = v 18 ∧ u.1 24 = v 24 ∧ u.1 25 = v 25 ∧ u.1 35 = v 35 ∧ u.1 36 = v 36 ∧ u.1 38 = v 38 ∧ u.1 39 = v 39) (fun u => YW cy y0 r u.1 u.2.1 u.2.2.1 u.2.2.2) := by
  refine ctI_of (by decide) (Nat.le_of_ble_eq_true rfl) (fun p e s m below meth c A ls Q hx hb hml hts hown hE hP hD hA hl ret => ?_)
  have hUv : (v 35).toInt + (v 36).toInt ≤ 40 := hIv.2
  have hM_v : KV [] v v := fun _ _ => rfl
  have hA_f : KF [24] f f := fun _ _ => rfl
  have hown : s.vm.findClass RX11 = some m.cls := hown
  have hS : va_S A s.heap s.heap [] := va_S.rf
  have hl : lv_has ls 8 [(0, .ref y0), (1, .int p1)] := hl
  refine lv_iload_n hx hb dX11_wings_0 rfl (lv_at hl 1 rfl) ?_
  refine lv_iconst (v := 0) hx hb dX11_wings_1 (by decide) ?_
  refine lv_iconst (v := 1) hx hb dX11_wings_2 (by decide) ?_
  have lt1 : (0 : Int32).toInt = 0 := by decide
  have lt2 : (1 : Int32).toInt = 1 := by decide
  refine cbSi (n := 3) (rest := []) hx hb hml hown hts hE hP hD hS hA (sY_X11_isIn_1 0 l dC dI cy y0 r p1 0 1 v f w g hIv hCf hRf ) k_1736 k_1737 k_114 k_1738 (by decide +kernel) ⟨Nat.le_of_ble_eq_true rfl, Nat.le_of_ble_eq_true rfl⟩ (rfl) hl.1 rfl (Nat.le_of_ble_eq_true rfl) dX11_wings_3 (fun r3 u H locs hw hP hD hS => ?_)
  obtain ⟨hG4, hw⟩ := hw
  rcases hw with ⟨g5, g5_0, g5_1⟩ | ⟨g5⟩
  · skip
    subst g5
    refine lv_if_ne (tgt := 11) hx hb dX11_wings_6 (by decide) (fun _ => ?_) (fun c0 => absurd c0 (by decide))
    refine lv_aload_n hx hb dX11_wings_11 rfl (lv_at hl 0 rfl) ?_
    refine cbVv (n := 0) (rest := []) hx hb hml hown hts hE hP hD hS hA (sY_X11_fill_1 0 l dC dI cy y0 r  v f w g hIv hCf hRf ) k_1739 k_1741 k_71 k_114 k_1742 (by decide +kernel) ⟨Nat.le_of_ble_eq_true rfl, Nat.le_of_ble_eq_true rfl⟩ 0 11 rfl rfl (rfl) hl.1 rfl (Nat.le_of_ble_eq_true rfl) dX11_wings_12 (fun u H locs hw hP hD hS => ?_)
    obtain ⟨hG6, hw⟩ := hw
    obtain ⟨v7, f8, w9, g10⟩ := u
    obtain ⟨kV_v7, kF_f8, hIv7, hCf8, hRf8, hk0_v7, hk1_v7, hk2_v7, hk3_v7, hk4_v7, hk5_v7, hk8_v7, hk9_v7, hk10_v7, hk13_v7, hk14_v7, hk15_v7, hk17_v7, hk18_v7, hk24_v7, hk25_v7, hk35_v7, hk36_v7, hk38_v7, hk39_v7⟩ := hw
    have hM_v7 : KV [] v7 v := KV.tr kV_v7 hM_v rfl
    have hA_f8 : KF [24] f8 f := KF.tr kF_f8 hA_f rfl
    have hP : va_P (dC, dI) vwCl (YW cy y0 r v7 f8 w9 g10) H := hP
    have hD : va_D A (YW cy y0 r v7 f8 w9 g10) := hD
    have hUv7 : (v7 35).toInt + (v7 36).toInt ≤ 40 := hIv7.2
    have hq9_v7 : v7 9 = (v 9) := hk9_v7
    have zq9_v7 := congrArg Int32.toInt hq9_v7
    refine lv_aload_n hx hb dX11_wings_15 rfl (lv_at hl 0 rfl) ?_
    refine cbVi (n := 0) (rest := []) hx hb hml hown hts hE hP hD hS hA (sY_X11_wearers_1 0 l dC dI cy y0 r  v7 f8 w9 g10 hIv7 hCf8 hRf8 ) k_1805 k_1807 k_80 k_114 k_1808 (by decide +kernel) ⟨Nat.le_of_ble_eq_true rfl, Nat.le_of_ble_eq_true rfl⟩ 0 11 rfl rfl (rfl) hl.1 rfl (Nat.le_of_ble_eq_true rfl) dX11_wings_16 (fun r11 u H locs hw hP hD hS => ?_)
    obtain ⟨hG12, hw⟩ := hw
    refine lv_istore_n (lv' := [(2, .int r11), (0, .ref y0), (1, .int p1)]) hx hb dX11_wings_19 rfl hl (by decide) rfl (fun ls hl => ?_)
    refine lv_iconst (v := 0) hx hb dX11_wings_20 (by decide) ?_
    refine lv_istore_n (lv' := [(3, .int 0), (2, .int r11), (0, .ref y0), (1, .int p1)]) hx hb dX11_wings_21 rfl hl (by decide) rfl (fun ls hl => ?_)
    refine lv_iconst (v := 5) hx hb dX11_wings_22 (by decide) ?_
    refine lv_istore (lv' := [(4, .int 5), (3, .int 0), (2, .int r11), (0, .ref y0), (1, .int p1)]) hx hb dX11_wings_23 hl (by decide) rfl (fun ls hl => ?_)
    have lp13 : ∀ (n13 : Nat) (l3_13 : Int32) (l4_13 : Int32), ((-2147483648 : Int) ≤ l4_13.toInt ∧ l4_13.toInt ≤ 5) → (l4_13.toInt + 2147483648).toNat < n13 → ∀ (H : Heap) (locs : List Loc) (ls : Array Slot), va_P (dC, dI) vwCl (YW cy y0 r v7 f8 w9 g10) H → va_D A (YW cy y0 r v7 f8 w9 g10) → va_S A s.heap H locs → lv_has ls 8 [(4, .int l4_13), (3, .int l3_13), (2, .int r11), (0, .ref y0), (1, .int p1)] → W p l e { frames := 3, cells := 0, slots := 0, locals := 102 } s m ([.ref y0, .int p1] : List Value).toArray below meth c H locs 0 0 Q (F0 m 25 ls []) := by
      intro n13
      induction n13 with
      | zero => intro l3_13 l4_13 hr4_13 hm; exact absurd hm (Nat.not_lt_zero _)
      | succ n13 ih13 =>
        intro l3_13 l4_13 hr4_13 hm13 H locs ls hP hD hS hl
        refine lv_iload hx hb dX11_wings_25 (lv_at hl 0 rfl) ?_
        refine lv_if_lt (tgt := 55) hx hb dX11_wings_27 (by decide) (fun c14 => ?_) (fun c14 => ?_)
        · skip
          have zc14 : l4_13.toInt < 0 := by rw [fa_lt, show (0 : Int32).toInt = 0 from by decide] at c14; exact c14
          refine lv_iload_n hx hb dX11_wings_55 rfl (lv_at hl 2 rfl) ?_
          refine lv_istore (lv' := [(4, .int r11), (3, .int l3_13), (2, .int r11), (0, .ref y0), (1, .int p1)]) hx hb dX11_wings_56 hl (by decide) rfl (fun ls hl => ?_)
          refine lv_aload_n hx hb dX11_wings_58 rfl (lv_at hl 3 rfl) ?_
          refine lv_iload_n hx hb dX11_wings_59 rfl (lv_at hl 2 rfl) ?_
          refine cbVi (n := 1) (rest := []) hx hb hml hown hts hE hP hD hS hA (sY_X11_wideOf_1 l dC dI cy y0 r r11 v7 f8 w9 g10 hIv7 hCf8 hRf8 ) k_1912 k_1914 k_88 k_114 k_1915 (by decide +kernel) ⟨Nat.le_of_ble_eq_true rfl, Nat.le_of_ble_eq_true rfl⟩ 0 11 rfl rfl (rfl) hl.1 rfl (Nat.le_of_ble_eq_true rfl) dX11_wings_60 (fun r15 u H locs hw hP hD hS => ?_)
          refine lv_istore (lv' := [(5, .int r15), (4, .int r11), (3, .int l3_13), (2, .int r11), (0, .ref y0), (1, .int p1)]) hx hb dX11_wings_63 hl (by decide) rfl (fun ls hl => ?_)
          refine lv_iconst (v := 0) hx hb dX11_wings_65 (by decide) ?_
          refine lv_istore (lv' := [(6, .int 0), (5, .int r15), (4, .int r11), (3, .int l3_13), (2, .int r11), (0, .ref y0), (1, .int p1)]) hx hb dX11_wings_66 hl (by decide) rfl (fun ls hl => ?_)
          have lp16 : ∀ (n16 : Nat) (l4_16 : Int32) (l5_16 : Int32) (l6_16 : Int32), ((0 : Int) ≤ l6_16.toInt ∧ l6_16.toInt ≤ 2147483647) → (2147483647 - l6_16.toInt).toNat < n16 → ∀ (H : Heap) (locs : List Loc) (ls : Array Slot), va_P (dC, dI) vwCl (YW cy y0 r v7 f8 w9 g10) H → va_D A (YW cy y0 r v7 f8 w9 g10) → va_S A s.heap H locs → lv_has ls 8 [(6, .int l6_16), (5, .int l5_16), (4, .int l4_16), (3, .int l3_13), (2, .int r11), (0, .ref y0), (1, .int p1)] → W p l e { frames := 3, cells := 0, slots := 0, locals := 102 } s m ([.ref y0, .int p1] : List Value).toArray below meth c H locs 0 0 Q (F0 m 68 ls []) := by
            intro n16
            induction n16 with
            | zero => intro l4_16 l5_16 l6_16 hr6_16 hm; exact absurd hm (Nat.not_lt_zero _)
            | succ n16 ih16 =>
              intro l4_16 l5_16 l6_16 hr6_16 hm16 H locs ls hP hD hS hl
              refine lv_iload hx hb dX11_wings_68 (lv_at hl 0 rfl) ?_
              refine lv_iload_n hx hb dX11_wings_70 rfl (lv_at hl 4 rfl) ?_
              refine lv_icmp_gt (tgt := 154) hx hb dX11_wings_71 (by decide) (fun c17 => ?_) (fun c17 => ?_)
              · skip
                have zc17 : r11.toInt < l6_16.toInt := by rw [fa_lt] at c17; exact c17
                have rg18 := fb_rng l6_16
                have rg19 := fb_rng r11
                refine lv_iload_n hx hb dX11_wings_154 rfl (lv_at hl 6 rfl) ?_
                refine lv_if_ne (tgt := 163) hx hb dX11_wings_155 (by decide) (fun c20 => ?_) (fun c20 => ?_)
                · skip
                  have zc20 : ¬ (p1.toInt = 0) := by rw [fa_eq, show (0 : Int32).toInt = 0 from by decide] at c20; exact c20
                  refine lv_iload hx hb dX11_wings_163 (lv_at hl 2 rfl) ?_
                  exact ret l4_16 (v7, f8, w9, g10) _ _ _ _ _ _ rfl ⟨hM_v7, hA_f8, hIv7, hCf8, hRf8, hk0_v7, hk1_v7, hk2_v7, hk3_v7, hk4_v7, hk5_v7, hk8_v7, hk9_v7, hk10_v7, hk13_v7, hk14_v7, hk15_v7, hk17_v7, hk18_v7, hk24_v7, hk25_v7, hk35_v7, hk36_v7, hk38_v7, hk39_v7⟩ hP hD hS dX11_wings_165 (Nat.le_refl _) (Nat.le_refl _)
                · skip
                  have zc20 : p1.toInt = 0 := by rw [fa_eq, show (0 : Int32).toInt = 0 from by decide] at c20; exact c20
                  refine lv_iload hx hb dX11_wings_158 (lv_at hl 1 rfl) ?_
                  refine lv_goto (tgt := 165) hx hb dX11_wings_160 (by decide) ?_
                  exact ret l5_16 (v7, f8, w9, g10) _ _ _ _ _ _ rfl ⟨hM_v7, hA_f8, hIv7, hCf8, hRf8, hk0_v7, hk1_v7, hk2_v7, hk3_v7, hk4_v7, hk5_v7, hk8_v7, hk9_v7, hk10_v7, hk13_v7, hk14_v7, hk15_v7, hk17_v7, hk18_v7, hk24_v7, hk25_v7, hk35_v7, hk36_v7, hk38_v7, hk39_v7⟩ hP hD hS dX11_wings_165 (Nat.le_refl _) (Nat.le_refl _)
              · skip
                have zc17 : ¬ (r11.toInt < l6_16.toInt) := by rw [fa_lt] at c17; exact c17
                have rg21 := fb_rng l6_16
                have rg22 := fb_rng r11
                refine lv_iload hx hb dX11_wings_74 (lv_at hl 0 rfl) ?_
                refine lv_iload_n hx hb dX11_wings_76 rfl (lv_at hl 4 rfl) ?_
                refine lv_iconst (v := (-1)) hx hb dX11_wings_77 (by decide) ?_
                refine lv_ixor hx hb dX11_wings_78 ?_
                refine lv_topi (fun t23 et23 => ?_)
                refine lv_iand hx hb dX11_wings_79 ?_
                refine lv_topi (fun t24 et24 => ?_)
                have zt24 : 0 ≤ t24.toInt ∧ t24.toInt ≤ 63 := by rw [et24]; exact and_left (by omega) (by omega)
                refine lv_if_ne (tgt := 148) hx hb dX11_wings_80 (by decide) (fun c25 => ?_) (fun c25 => ?_)
                · skip
                  have zc25 : ¬ (t24.toInt = 0) := by rw [fa_eq, show (0 : Int32).toInt = 0 from by decide] at c25; exact c25
                  obtain ⟨t26, et26⟩ : ∃ y : Int32, y = l6_16 + 1 := ⟨_, rfl⟩
                  have zt26 : t26.toInt = l6_16.toInt + 1 := by rw [et26]; exact add_i rfl (by decide) (by omega) (by omega)
                  refine lv_iinc (v := t26) (lv' := [(6, .int t26), (5, .int l5_16), (4, .int l4_16), (3, .int l3_13), (2, .int r11), (0, .ref y0), (1, .int p1)]) hx hb dX11_wings_148 hl (k := 0) rfl (by rw [et26]; rfl) (by decide) rfl (fun ls hl => ?_)
                  refine lv_goto (tgt := 68) hx hb dX11_wings_151 (by decide) ?_
                  have rg27 := fb_rng t26
                  exact ih16 l4_16 l5_16 t26 ⟨show (0 : Int) ≤ t26.toInt by omega, show t26.toInt ≤ (2147483647 : Int) by omega⟩ (by show (2147483647 - t26.toInt).toNat < n16; omega) _ _ _ hP hD hS (lv_sub hl [0, 1, 2, 3, 4, 5, 6] rfl)
                · skip
                  have zc25 : t24.toInt = 0 := by rw [fa_eq, show (0 : Int32).toInt = 0 from by decide] at c25; exact c25
                  refine lv_iload hx hb dX11_wings_83 (lv_at hl 0 rfl) ?_
                  refine lv_iload_n hx hb dX11_wings_85 rfl (lv_at hl 3 rfl) ?_
                  refine lv_iand hx hb dX11_wings_86 ?_
                  refine lv_topi (fun t28 et28 => ?_)
                  have zt28 : 0 ≤ t28.toInt ∧ t28.toInt ≤ 63 := by rw [et28]; exact and_left (by omega) (by omega)
                  refine lv_iload_n hx hb dX11_wings_87 rfl (lv_at hl 3 rfl) ?_
                  refine lv_icmp_eq (tgt := 94) hx hb dX11_wings_88 (by decide) (fun c29 => ?_) (fun c29 => ?_)
                  · skip
                    have zc29 : t28.toInt = l3_13.toInt := by rw [fa_eq] at c29; exact c29
                    have rg30 := fb_rng t28
                    have rg31 := fb_rng l3_13
                    refine lv_aload_n hx hb dX11_wings_94 rfl (lv_at hl 5 rfl) ?_
                    refine lv_iload hx hb dX11_wings_95 (lv_at hl 0 rfl) ?_
                    refine cbVi (n := 1) (rest := []) hx hb hml hown hts hE hP hD hS hA (sY_X11_wideOf_1 l dC dI cy y0 r l6_16 v7 f8 w9 g10 hIv7 hCf8 hRf8 ) k_1912 k_1914 k_88 k_114 k_1915 (by decide +kernel) ⟨Nat.le_of_ble_eq_true rfl, Nat.le_of_ble_eq_true rfl⟩ 0 11 rfl rfl (rfl) hl.1 rfl (Nat.le_of_ble_eq_true rfl) dX11_wings_97 (fun r32 u H locs hw hP hD hS => ?_)
                    refine lv_aload_n hx hb dX11_wings_100 rfl (lv_at hl 5 rfl) ?_
                    refine lv_iload_n hx hb dX11_wings_101 rfl (lv_at hl 4 rfl) ?_
                    refine lv_iload hx hb dX11_wings_102 (lv_at hl 0 rfl) ?_
                    refine lv_iconst (v := (-1)) hx hb dX11_wings_104 (by decide) ?_
                    refine lv_ixor hx hb dX11_wings_105 ?_
                    refine lv_topi (fun t33 et33 => ?_)
                    refine lv_iand hx hb dX11_wings_106 ?_
                    refine lv_topi (fun t34 et34 => ?_)
                    have zt34 : 0 ≤ t34.toInt ∧ t34.toInt ≤ 63 := by rw [et34]; exact and_left (by omega) (by omega)
                    refine cbVi (n := 1) (rest := [.int r32]) hx hb hml hown hts hE hP hD hS hA (sY_X11_wideOf_1 l dC dI cy y0 r t34 v7 f8 w9 g10 hIv7 hCf8 hRf8 ) k_1912 k_1914 k_88 k_114 k_1915 (by decide +kernel) ⟨Nat.le_of_ble_eq_true rfl, Nat.le_of_ble_eq_true rfl⟩ 0 11 rfl rfl (rfl) hl.1 rfl (Nat.le_of_ble_eq_true rfl) dX11_wings_107 (fun r35 u H locs hw hP hD hS => ?_)
                    refine lv_isub hx hb dX11_wings_110 ?_
                    refine lv_topi (fun t36 et36 => ?_)
                    refine cbSi (n := 1) (rest := []) hx hb hml hown hts hE hP hD hS hA (sY_X11_plain_1 l dC dI cy y0 r t36 v7 f8 w9 g10 hIv7 hCf8 hRf8 ) k_1920 k_1921 k_114 k_1922 (by decide +kernel) ⟨Nat.le_of_ble_eq_true rfl, Nat.le_of_ble_eq_true rfl⟩ (rfl) hl.1 rfl (Nat.le_of_ble_eq_true rfl) dX11_wings_111 (fun r37 u H locs hw hP hD hS => ?_)
                    refine lv_istore (lv' := [(7, .int r37), (6, .int l6_16), (5, .int l5_16), (4, .int l4_16), (3, .int l3_13), (2, .int r11), (0, .ref y0), (1, .int p1)]) hx hb dX11_wings_114 hl (by decide) rfl (fun ls hl => ?_)
                    refine lv_iload hx hb dX11_wings_116 (lv_at hl 0 rfl) ?_
                    refine lv_iload hx hb dX11_wings_118 (lv_at hl 2 rfl) ?_
                    refine lv_icmp_gt (tgt := 148) hx hb dX11_wings_120 (by decide) (fun c38 => ?_) (fun c38 => ?_)
                    · skip
                      have zc38 : l5_16.toInt < r37.toInt := by rw [fa_lt] at c38; exact c38
                      have rg39 := fb_rng r37
                      have rg40 := fb_rng l5_16
                      obtain ⟨t41, et41⟩ : ∃ y : Int32, y = l6_16 + 1 := ⟨_, rfl⟩
                      have zt41 : t41.toInt = l6_16.toInt + 1 := by rw [et41]; exact add_i rfl (by decide) (by omega) (by omega)
                      refine lv_iinc (v := t41) (lv' := [(6, .int t41), (7, .int r37), (5, .int l5_16), (4, .int l4_16), (3, .int l3_13), (2, .int r11), (0, .ref y0), (1, .int p1)]) hx hb dX11_wings_148 hl (k := 1) rfl (by rw [et41]; rfl) (by decide) rfl (fun ls hl => ?_)
                      refine lv_goto (tgt := 68) hx hb dX11_wings_151 (by decide) ?_
                      have rg42 := fb_rng t41
                      exact ih16 l4_16 l5_16 t41 ⟨show (0 : Int) ≤ t41.toInt by omega, show t41.toInt ≤ (2147483647 : Int) by omega⟩ (by show (2147483647 - t41.toInt).toNat < n16; omega) _ _ _ hP hD hS (lv_sub hl [0, 2, 3, 4, 5, 6, 7] rfl)
                    · skip
                      have zc38 : ¬ (l5_16.toInt < r37.toInt) := by rw [fa_lt] at c38; exact c38
                      have rg43 := fb_rng r37
                      have rg44 := fb_rng l5_16
                      refine lv_iload hx hb dX11_wings_123 (lv_at hl 0 rfl) ?_
                      refine lv_iload hx hb dX11_wings_125 (lv_at hl 2 rfl) ?_
                      refine lv_icmp_ne (tgt := 140) hx hb dX11_wings_127 (by decide) (fun c45 => ?_) (fun c45 => ?_)
                      · skip
                        have zc45 : ¬ (r37.toInt = l5_16.toInt) := by rw [fa_eq] at c45; exact c45
                        refine lv_iload hx hb dX11_wings_140 (lv_at hl 0 rfl) ?_
                        refine lv_istore (lv' := [(5, .int r37), (7, .int r37), (6, .int l6_16), (4, .int l4_16), (3, .int l3_13), (2, .int r11), (0, .ref y0), (1, .int p1)]) hx hb dX11_wings_142 hl (by decide) rfl (fun ls hl => ?_)
                        refine lv_iload hx hb dX11_wings_144 (lv_at hl 2 rfl) ?_
                        refine lv_istore (lv' := [(4, .int l6_16), (5, .int r37), (7, .int r37), (6, .int l6_16), (3, .int l3_13), (2, .int r11), (0, .ref y0), (1, .int p1)]) hx hb dX11_wings_146 hl (by decide) rfl (fun ls hl => ?_)
                        obtain ⟨t46, et46⟩ : ∃ y : Int32, y = l6_16 + 1 := ⟨_, rfl⟩
                        have zt46 : t46.toInt = l6_16.toInt + 1 := by rw [et46]; exact add_i rfl (by decide) (by omega) (by omega)
                        refine lv_iinc (v := t46) (lv' := [(6, .int t46), (4, .int l6_16), (5, .int r37), (7, .int r37), (3, .int l3_13), (2, .int r11), (0, .ref y0), (1, .int p1)]) hx hb dX11_wings_148 hl (k := 3) rfl (by rw [et46]; rfl) (by decide) rfl (fun ls hl => ?_)
                        refine lv_goto (tgt := 68) hx hb dX11_wings_151 (by decide) ?_
                        have rg47 := fb_rng t46
                        exact ih16 l6_16 r37 t46 ⟨show (0 : Int) ≤ t46.toInt by omega, show t46.toInt ≤ (2147483647 : Int) by omega⟩ (by show (2147483647 - t46.toInt).toNat < n16; omega) _ _ _ hP hD hS (lv_sub hl [0, 2, 1, 4, 5, 6, 7] rfl)
                      · skip
                        have zc45 : r37.toInt = l5_16.toInt := by rw [fa_eq] at c45; exact c45
                        refine lv_iload hx hb dX11_wings_130 (lv_at hl 1 rfl) ?_
                        refine lv_iload hx hb dX11_wings_132 (lv_at hl 3 rfl) ?_
                        refine lv_icmp_lt (tgt := 140) hx hb dX11_wings_134 (by decide) (fun c48 => ?_) (fun c48 => ?_)
                        · skip
                          have zc48 : l6_16.toInt < l4_16.toInt := by rw [fa_lt] at c48; exact c48
                          have rg49 := fb_rng l4_16
                          refine lv_iload hx hb dX11_wings_140 (lv_at hl 0 rfl) ?_
                          refine lv_istore (lv' := [(5, .int r37), (7, .int r37), (6, .int l6_16), (4, .int l4_16), (3, .int l3_13), (2, .int r11), (0, .ref y0), (1, .int p1)]) hx hb dX11_wings_142 hl (by decide) rfl (fun ls hl => ?_)
                          refine lv_iload hx hb dX11_wings_144 (lv_at hl 2 rfl) ?_
                          refine lv_istore (lv' := [(4, .int l6_16), (5, .int r37), (7, .int r37), (6, .int l6_16), (3, .int l3_13), (2, .int r11), (0, .ref y0), (1, .int p1)]) hx hb dX11_wings_146 hl (by decide) rfl (fun ls hl => ?_)
                          obtain ⟨t50, et50⟩ : ∃ y : Int32, y = l6_16 + 1 := ⟨_, rfl⟩
                          have zt50 : t50.toInt = l6_16.toInt + 1 := by rw [et50]; exact add_i rfl (by decide) (by omega) (by omega)
                          refine lv_iinc (v := t50) (lv' := [(6, .int t50), (4, .int l6_16), (5, .int r37), (7, .int r37), (3, .int l3_13), (2, .int r11), (0, .ref y0), (1, .int p1)]) hx hb dX11_wings_148 hl (k := 3) rfl (by rw [et50]; rfl) (by decide) rfl (fun ls hl => ?_)
                          refine lv_goto (tgt := 68) hx hb dX11_wings_151 (by decide) ?_
                          have rg51 := fb_rng t50
                          exact ih16 l6_16 r37 t50 ⟨show (0 : Int) ≤ t50.toInt by omega, show t50.toInt ≤ (2147483647 : Int) by omega⟩ (by show (2147483647 - t50.toInt).toNat < n16; omega) _ _ _ hP hD hS (lv_sub hl [0, 2, 1, 4, 5, 6, 7] rfl)
                        · skip
                          have zc48 : ¬ (l6_16.toInt < l4_16.toInt) := by rw [fa_lt] at c48; exact c48
                          have rg52 := fb_rng l4_16
                          refine lv_goto (tgt := 148) hx hb dX11_wings_137 (by decide) ?_
                          obtain ⟨t53, et53⟩ : ∃ y : Int32, y = l6_16 + 1 := ⟨_, rfl⟩
                          have zt53 : t53.toInt = l6_16.toInt + 1 := by rw [et53]; exact add_i rfl (by decide) (by omega) (by omega)
                          refine lv_iinc (v := t53) (lv' := [(6, .int t53), (7, .int r37), (5, .int l5_16), (4, .int l4_16), (3, .int l3_13), (2, .int r11), (0, .ref y0), (1, .int p1)]) hx hb dX11_wings_148 hl (k := 1) rfl (by rw [et53]; rfl) (by decide) rfl (fun ls hl => ?_)
                          refine lv_goto (tgt := 68) hx hb dX11_wings_151 (by decide) ?_
                          have rg54 := fb_rng t53
                          exact ih16 l4_16 l5_16 t53 ⟨show (0 : Int) ≤ t53.toInt by omega, show t53.toInt ≤ (2147483647 : Int) by omega⟩ (by show (2147483647 - t53.toInt).toNat < n16; omega) _ _ _ hP hD hS (lv_sub hl [0, 2, 3, 4, 5, 6, 7] rfl)
                  · skip
                    have zc29 : ¬ (t28.toInt = l3_13.toInt) := by rw [fa_eq] at c29; exact c29
                    have rg55 := fb_rng t28
                    have rg56 := fb_rng l3_13
                    refine lv_goto (tgt := 148) hx hb dX11_wings_91 (by decide) ?_
                    obtain ⟨t57, et57⟩ : ∃ y : Int32, y = l6_16 + 1 := ⟨_, rfl⟩
                    have zt57 : t57.toInt = l6_16.toInt + 1 := by rw [et57]; exact add_i rfl (by decide) (by omega) (by omega)
                    refine lv_iinc (v := t57) (lv' := [(6, .int t57), (5, .int l5_16), (4, .int l4_16), (3, .int l3_13), (2, .int r11), (0, .ref y0), (1, .int p1)]) hx hb dX11_wings_148 hl (k := 0) rfl (by rw [et57]; rfl) (by decide) rfl (fun ls hl => ?_)
                    refine lv_goto (tgt := 68) hx hb dX11_wings_151 (by decide) ?_
                    have rg58 := fb_rng t57
                    exact ih16 l4_16 l5_16 t57 ⟨show (0 : Int) ≤ t57.toInt by omega, show t57.toInt ≤ (2147483647 : Int) by omega⟩ (by show (2147483647 - t57.toInt).toNat < n16; omega) _ _ _ hP hD hS (lv_sub hl [0, 1, 2, 3, 4, 5, 6] rfl)
          exact lp16 _ r11 r15 0 ⟨by decide, by decide⟩ (Nat.lt_succ_self _) _ _ _ hP hD hS (lv_sub hl [0, 1, 2, 3, 4, 5, 6] rfl)
        · skip
          have zc14 : ¬ (l4_13.toInt < 0) := by rw [fa_lt, show (0 : Int32).toInt = 0 from by decide] at c14; exact c14
          refine lv_iload_n hx hb dX11_wings_30 rfl (lv_at hl 2 rfl) ?_
          refine lv_iload hx hb dX11_wings_31 (lv_at hl 0 rfl) ?_
          refine lv_ishr hx hb dX11_wings_33 ?_
          refine lv_topi (fun t59 et59 => ?_)
          refine lv_iconst (v := 1) hx hb dX11_wings_34 (by decide) ?_
          refine lv_iand hx hb dX11_wings_35 ?_
          refine lv_topi (fun t60 et60 => ?_)
          have zt60 : 0 ≤ t60.toInt ∧ t60.toInt < 2 := by rw [et60]; exact and_rng _ (k := 1) (by decide) (by decide)
          refine lv_iconst (v := 1) hx hb dX11_wings_36 (by decide) ?_
          refine lv_icmp_ne (tgt := 47) hx hb dX11_wings_37 (by decide) (fun c61 => ?_) (fun c61 => ?_)
          · skip
            have zc61 : ¬ (t60.toInt = 1) := by rw [fa_eq, show (1 : Int32).toInt = 1 from by decide] at c61; exact c61
            refine lv_iload_n hx hb dX11_wings_47 rfl (lv_at hl 1 rfl) ?_
            refine lv_istore_n (lv' := [(3, .int l3_13), (4, .int l4_13), (2, .int r11), (0, .ref y0), (1, .int p1)]) hx hb dX11_wings_48 rfl hl (by decide) rfl (fun ls hl => ?_)
            obtain ⟨t62, et62⟩ : ∃ y : Int32, y = l4_13 + (-1) := ⟨_, rfl⟩
            have rg63 := fb_rng l4_13
            have zt62 : t62.toInt = l4_13.toInt + (-1) := by rw [et62]; exact add_i rfl (by decide) (by omega) (by omega)
            refine lv_iinc (v := t62) (lv' := [(4, .int t62), (3, .int l3_13), (2, .int r11), (0, .ref y0), (1, .int p1)]) hx hb dX11_wings_49 hl (k := 1) rfl (by rw [et62]; rfl) (by decide) rfl (fun ls hl => ?_)
            refine lv_goto (tgt := 25) hx hb dX11_wings_52 (by decide) ?_
            have rg64 := fb_rng t62
            exact ih13 l3_13 t62 ⟨show (-2147483648 : Int) ≤ t62.toInt by omega, show t62.toInt ≤ (5 : Int) by omega⟩ (by show (t62.toInt + 2147483648).toNat < n13; omega) _ _ _ hP hD hS (lv_sub hl [0, 1, 2, 3, 4] rfl)
          · skip
            have zc61 : t60.toInt = 1 := by rw [fa_eq, show (1 : Int32).toInt = 1 from by decide] at c61; exact c61
            refine lv_iconst (v := 1) hx hb dX11_wings_40 (by decide) ?_
            refine lv_iload hx hb dX11_wings_41 (lv_at hl 0 rfl) ?_
            refine lv_ishl hx hb dX11_wings_43 ?_
            refine lv_topi (fun t65 et65 => ?_)
            have zt65 : 1 ≤ t65.toInt ∧ t65.toInt ≤ 32 := by rw [et65]; exact shl1_rng (by omega) (by omega)
            refine lv_goto (tgt := 48) hx hb dX11_wings_44 (by decide) ?_
            refine lv_istore_n (lv' := [(3, .int t65), (4, .int l4_13), (2, .int r11), (0, .ref y0), (1, .int p1)]) hx hb dX11_wings_48 rfl hl (by decide) rfl (fun ls hl => ?_)
            obtain ⟨t66, et66⟩ : ∃ y : Int32, y = l4_13 + (-1) := ⟨_, rfl⟩
            have rg67 := fb_rng l4_13
            have zt66 : t66.toInt = l4_13.toInt + (-1) := by rw [et66]; exact add_i rfl (by decide) (by omega) (by omega)
            refine lv_iinc (v := t66) (lv' := [(4, .int t66), (3, .int t65), (2, .int r11), (0, .ref y0), (1, .int p1)]) hx hb dX11_wings_49 hl (k := 1) rfl (by rw [et66]; rfl) (by decide) rfl (fun ls hl => ?_)
            refine lv_goto (tgt := 25) hx hb dX11_wings_52 (by decide) ?_
            have rg68 := fb_rng t66
            exact ih13 t65 t66 ⟨show (-2147483648 : Int) ≤ t66.toInt by omega, show t66.toInt ≤ (5 : Int) by omega⟩ (by show (t66.toInt + 2147483648).toNat < n13; omega) _ _ _ hP hD hS (lv_sub hl [0, 1, 2, 3, 4] rfl)
    exact lp13 _ 0 5 ⟨by decide, by decide⟩ (Nat.lt_succ_self _) _ _ _ hP hD hS (lv_sub hl [0, 1, 2, 3, 4] rfl)
  · skip
    subst g5
    refine lv_if_ne (tgt := 11) hx hb dX11_wings_6 (by decide) (fun c0 => absurd (by decide) c0) (fun _ => ?_)
    refine lv_iconst (v := (-1)) hx hb dX11_wings_9 (by decide) ?_
    exact ret (-1) (v, f, w, g) _ _ _ _ _ _ rfl ⟨hM_v, hA_f, hIv, hCf, hRf, rfl, rfl, rfl, rfl, rfl, rfl, rfl, rfl, rfl, rfl, rfl, rfl, rfl, rfl, rfl, rfl, rfl, rfl, rfl, rfl⟩ hP hD hS dX11_wings_10 (Nat.le_refl _) (Nat.le_refl _)
set_option maxHeartbeats 4000000 in
set_option maxRecDepth 100000 in
theorem sY_X11_rowOf_1 (l : Launch) (dC : Nat → ClassId) (dI : Nat → Nat → Nat) (cy : Nat → ClassId) (y0 : Nat) (r : Nat → Nat) (p1 : Int32) (v : Nat → Int32) (f : Nat → Nat → Int32) (w : Int64) (g : Nat → Int64) (hIv : YI v) (hCf : YC f) (hRf : progOK (f 4) (f 5) (v 9).toInt.toNat)  : ctI l (dC, dI) cy yX11_rowOf cX11_rowOf 5 .int 2 81 0 0 Unit [.ref y0, .int p1] (YW cy y0 r v f w g) (fun r u => True) (fun u => YW cy y0 r v f w g) := by
  refine ctI_of (by decide) (Nat.le_of_ble_eq_true rfl) (fun p e s m below meth c A ls Q hx hb hml hts hown hE hP hD hA hl ret => ?_)
  have hUv : (v 35).toInt + (v 36).toInt ≤ 40 := hIv.2
  have hown : s.vm.findClass RX11 = some m.cls := hown
  have hS : va_S A s.heap s.heap [] := va_S.rf
  have hl : lv_has ls 5 [(0, .ref y0), (1, .int p1)] := hl
  refine lv_iconst (v := 0) hx hb dX11_rowOf_0 (by decide) ?_
  refine lv_istore_n (lv' := [(2, .int 0), (0, .ref y0), (1, .int p1)]) hx hb dX11_rowOf_1 rfl hl (by decide) rfl (fun ls hl => ?_)
  refine lv_iconst (v := 0) hx hb dX11_rowOf_2 (by decide) ?_
  refine lv_istore_n (lv' := [(3, .int 0), (2, .int 0), (0, .ref y0), (1, .int p1)]) hx hb dX11_rowOf_3 rfl hl (by decide) rfl (fun ls hl => ?_)
  refine lv_iconst (v := 0) hx hb dX11_rowOf_4 (by decide) ?_
  refine lv_istore (lv' := [(4, .int 0), (3, .int 0), (2, .int 0), (0, .ref y0), (1, .int p1)]) hx hb dX11_rowOf_5 hl (by decide) rfl (fun ls hl => ?_)
  have lp1 : ∀ (n1 : Nat) (l2_1 : Int32) (l3_1 : Int32) (l4_1 : Int32), ((0 : Int) ≤ l4_1.toInt ∧ l4_1.toInt ≤ 2147483647) → (2147483647 - l4_1.toInt).toNat < n1 → ∀ (H : Heap) (locs : List Loc) (ls : Array Slot), va_P (dC, dI) vwCl (YW cy y0 r v f w g) H → va_D A (YW cy y0 r v f w g) → va_S A s.heap H locs → lv_has ls 5 [(4, .int l4_1), (3, .int l3_1), (2, .int l2_1), (0, .ref y0), (1, .int p1)] → W p l e { frames := 2, cells := 0, slots := 0, locals := 81 } s m ([.ref y0, .int p1] : List Value).toArray below meth c H locs 0 0 Q (F0 m 7 ls []) := by
    intro n1
    induction n1 with
    | zero => intro l2_1 l3_1 l4_1 hr4_1 hm; exact absurd hm (Nat.not_lt_zero _)
    | succ n1 ih1 =>
      intro l2_1 l3_1 l4_1 hr4_1 hm1 H locs ls hP hD hS hl
      refine lv_iload hx hb dX11_rowOf_7 (lv_at hl 0 rfl) ?_
      refine lv_aload_n hx hb dX11_rowOf_9 rfl (lv_at hl 3 rfl) ?_
      refine va_get (D := (dC, dI)) (ci := 11) (v := .int (v 25)) (C := RX11) (T := TX11) (N := 79) hx hb hts inB_11 hown hE.1 hP 0 rfl rfl 49 (by decide) (hts _ k_1369) (fun _ h9 => h9) rfl dX11_rowOf_10 ?_
      have b25_v : 0 ≤ (v 25).toInt ∧ (v 25).toInt ≤ 6 := YIb.b hIv.1 25 (by decide)
      refine lv_icmp_ge (tgt := 62) hx hb dX11_rowOf_13 (by decide) (fun c2 => ?_) (fun c2 => ?_)
      · skip
        have zc2 : (v 25).toInt ≤ l4_1.toInt := by rw [fa_le] at c2; exact c2
        have rg3 := fb_rng l4_1
        have rg4 := fb_rng (v 25)
        refine lv_iload_n hx hb dX11_rowOf_62 rfl (lv_at hl 2 rfl) ?_
        refine lv_aload_n hx hb dX11_rowOf_63 rfl (lv_at hl 3 rfl) ?_
        refine va_get (D := (dC, dI)) (ci := 11) (v := .int (v 27)) (C := RX11) (T := TX11) (N := 79) hx hb hts inB_11 hown hE.1 hP 0 rfl rfl 51 (by decide) (hts _ k_1371) (fun _ h9 => h9) rfl dX11_rowOf_64 ?_
        refine lv_icmp_le (tgt := 76) hx hb dX11_rowOf_67 (by decide) (fun c5 => ?_) (fun c5 => ?_)
        · skip
          have zc5 : l2_1.toInt ≤ (v 27).toInt := by rw [fa_le] at c5; exact c5
          have rg6 := fb_rng l2_1
          have rg7 := fb_rng (v 27)
          refine lv_iload_n hx hb dX11_rowOf_76 rfl (lv_at hl 1 rfl) ?_
          exact ret l3_1 () _ _ _ _ _ _ rfl trivial hP hD hS dX11_rowOf_77 (Nat.le_refl _) (Nat.le_refl _)
        · skip
          have zc5 : ¬ (l2_1.toInt ≤ (v 27).toInt) := by rw [fa_le] at c5; exact c5
          have rg8 := fb_rng l2_1
          have rg9 := fb_rng (v 27)
          refine lv_ldcw (v := 1000000) hx hb hown (hts _ k_1927) dX11_rowOf_70 ?_
          refine lv_goto (tgt := 77) hx hb dX11_rowOf_73 (by decide) ?_
          exact ret 1000000 () _ _ _ _ _ _ rfl trivial hP hD hS dX11_rowOf_77 (Nat.le_refl _) (Nat.le_refl _)
      · skip
        have zc2 : ¬ ((v 25).toInt ≤ l4_1.toInt) := by rw [fa_le] at c2; exact c2
        have rg10 := fb_rng l4_1
        have rg11 := fb_rng (v 25)
        refine lv_iload_n hx hb dX11_rowOf_16 rfl (lv_at hl 4 rfl) ?_
        refine lv_iload hx hb dX11_rowOf_17 (lv_at hl 0 rfl) ?_
        refine lv_ishr hx hb dX11_rowOf_19 ?_
        refine lv_topi (fun t12 et12 => ?_)
        refine lv_iconst (v := 1) hx hb dX11_rowOf_20 (by decide) ?_
        refine lv_iand hx hb dX11_rowOf_21 ?_
        refine lv_topi (fun t13 et13 => ?_)
        have zt13 : 0 ≤ t13.toInt ∧ t13.toInt < 2 := by rw [et13]; exact and_rng _ (k := 1) (by decide) (by decide)
        refine lv_if_ne (tgt := 28) hx hb dX11_rowOf_22 (by decide) (fun c14 => ?_) (fun c14 => ?_)
        · skip
          have zc14 : ¬ (t13.toInt = 0) := by rw [fa_eq, show (0 : Int32).toInt = 0 from by decide] at c14; exact c14
          refine lv_iload_n hx hb dX11_rowOf_28 rfl (lv_at hl 2 rfl) ?_
          refine lv_aload_n hx hb dX11_rowOf_29 rfl (lv_at hl 3 rfl) ?_
          refine va_get (D := (dC, dI)) (ci := 11) (v := .ref (r 59)) (C := RX11) (T := TX11) (N := 79) hx hb hts inB_11 hown hE.1 hP 0 rfl rfl 59 (by decide) (hts _ k_1379) (fun _ h9 => h9) rfl dX11_rowOf_30 ?_
          refine lv_bipush (v := 18) hx hb dX11_rowOf_33 (by decide) ?_
          refine lv_iload hx hb dX11_rowOf_35 (lv_at hl 0 rfl) ?_
          refine lv_iadd hx hb dX11_rowOf_37 ?_
          refine lv_topi (fun t15 et15 => ?_)
          have zt15 : t15.toInt = 18 + l4_1.toInt := by rw [et15]; exact add_i (by decide) rfl (by omega) (by omega)
          refine ldI hx hb hE hP 24 rfl (vp_in_iff.mpr ⟨by omega, by omega⟩) rfl rfl dX11_rowOf_38 ?_
          refine lv_topi (fun t16 et16 => ?_)
          have zt16 : t15.toInt.toNat % 39 < 6 ∨ 12 ≤ t15.toInt.toNat % 39 ∨ (-1 ≤ t16.toInt ∧ t16.toInt ≤ 5) := by rw [et16]; exact wear_ld hCf.1 (show t15.toInt.toNat < 39 by omega)
          refine lv_iadd hx hb dX11_rowOf_39 ?_
          refine lv_topi (fun t17 et17 => ?_)
          refine lv_istore_n (lv' := [(2, .int t17), (4, .int l4_1), (3, .int l3_1), (0, .ref y0), (1, .int p1)]) hx hb dX11_rowOf_40 rfl hl (by decide) rfl (fun ls hl => ?_)
          refine lv_iload_n hx hb dX11_rowOf_41 rfl (lv_at hl 2 rfl) ?_
          refine lv_aload_n hx hb dX11_rowOf_42 rfl (lv_at hl 3 rfl) ?_
          refine va_get (D := (dC, dI)) (ci := 11) (v := .ref (r 59)) (C := RX11) (T := TX11) (N := 79) hx hb hts inB_11 hown hE.1 hP 0 rfl rfl 59 (by decide) (hts _ k_1379) (fun _ h9 => h9) rfl dX11_rowOf_43 ?_
          refine lv_bipush (v := 12) hx hb dX11_rowOf_46 (by decide) ?_
          refine lv_iload hx hb dX11_rowOf_48 (lv_at hl 1 rfl) ?_
          refine lv_iadd hx hb dX11_rowOf_50 ?_
          refine lv_topi (fun t18 et18 => ?_)
          have zt18 : t18.toInt = 12 + l4_1.toInt := by rw [et18]; exact add_i (by decide) rfl (by omega) (by omega)
          refine ldI hx hb hE hP 24 rfl (vp_in_iff.mpr ⟨by omega, by omega⟩) rfl rfl dX11_rowOf_51 ?_
          refine lv_topi (fun t19 et19 => ?_)
          have zt19 : t18.toInt.toNat % 39 < 6 ∨ 12 ≤ t18.toInt.toNat % 39 ∨ (-1 ≤ t19.toInt ∧ t19.toInt ≤ 5) := by rw [et19]; exact wear_ld hCf.1 (show t18.toInt.toNat < 39 by omega)
          refine cbSi (n := 2) (rest := []) hx hb hml hown hts hE hP hD hS hA (sY_X11_greater_1 0 l dC dI cy y0 r l3_1 t19 v f w g hIv hCf hRf ) k_1802 k_1803 k_114 k_1804 (by decide +kernel) ⟨Nat.le_of_ble_eq_true rfl, Nat.le_of_ble_eq_true rfl⟩ (rfl) hl.1 rfl (Nat.le_of_ble_eq_true rfl) dX11_rowOf_52 (fun r20 u H locs hw hP hD hS => ?_)
          have hG21 := hw
          refine lv_istore_n (lv' := [(3, .int r20), (2, .int t17), (4, .int l4_1), (0, .ref y0), (1, .int p1)]) hx hb dX11_rowOf_55 rfl hl (by decide) rfl (fun ls hl => ?_)
          obtain ⟨t22, et22⟩ : ∃ y : Int32, y = l4_1 + 1 := ⟨_, rfl⟩
          have zt22 : t22.toInt = l4_1.toInt + 1 := by rw [et22]; exact add_i rfl (by decide) (by omega) (by omega)
          refine lv_iinc (v := t22) (lv' := [(4, .int t22), (3, .int r20), (2, .int t17), (0, .ref y0), (1, .int p1)]) hx hb dX11_rowOf_56 hl (k := 2) rfl (by rw [et22]; rfl) (by decide) rfl (fun ls hl => ?_)
          refine lv_goto (tgt := 7) hx hb dX11_rowOf_59 (by decide) ?_
          have rg23 := fb_rng t22
          exact ih1 t17 r20 t22 ⟨show (0 : Int) ≤ t22.toInt by omega, show t22.toInt ≤ (2147483647 : Int) by omega⟩ (by show (2147483647 - t22.toInt).toNat < n1; omega) _ _ _ hP hD hS (lv_sub hl [0, 1, 2, 3, 4] rfl)
        · skip
          have zc14 : t13.toInt = 0 := by rw [fa_eq, show (0 : Int32).toInt = 0 from by decide] at c14; exact c14
          refine lv_goto (tgt := 56) hx hb dX11_rowOf_25 (by decide) ?_
          obtain ⟨t24, et24⟩ : ∃ y : Int32, y = l4_1 + 1 := ⟨_, rfl⟩
          have zt24 : t24.toInt = l4_1.toInt + 1 := by rw [et24]; exact add_i rfl (by decide) (by omega) (by omega)
          refine lv_iinc (v := t24) (lv' := [(4, .int t24), (3, .int l3_1), (2, .int l2_1), (0, .ref y0), (1, .int p1)]) hx hb dX11_rowOf_56 hl (k := 0) rfl (by rw [et24]; rfl) (by decide) rfl (fun ls hl => ?_)
          refine lv_goto (tgt := 7) hx hb dX11_rowOf_59 (by decide) ?_
          have rg25 := fb_rng t24
          exact ih1 l2_1 l3_1 t24 ⟨show (0 : Int) ≤ t24.toInt by omega, show t24.toInt ≤ (2147483647 : Int) by omega⟩ (by show (2147483647 - t24.toInt).toNat < n1; omega) _ _ _ hP hD hS (lv_sub hl [0, 1, 2, 3, 4] rfl)
  exact lp1 _ 0 0 0 ⟨by decide, by decide⟩ (Nat.lt_succ_self _) _ _ _ hP hD hS (lv_sub hl [0, 1, 2, 3, 4] rfl)
set_option maxHeartbeats 4000000 in
set_option maxRecDepth 100000 in
theorem sY_X11_cloth_1 (l : Launch) (dC : Nat → ClassId) (dI : Nat → Nat → Nat) (cy : Nat → ClassId) (y0 : Nat) (r : Nat → Nat)  (v : Nat → Int32) (f : Nat → Nat → Int32) (w : Int64) (g : Nat → Int64) (hIv : YI v) (hCf : YC f) (hRf : progOK (f 4) (f 5) (v 9).toInt.toNat)  : ctI l (dC, dI) cy yX11_cloth cX11_cloth 3 .int 3 105 0 0 ((Nat → Int32) × (Nat → Nat → Int32) × (Int64) × (Nat → Int64)) [.ref y0] (YW cy y0 r v f w g) (fun r u => KV [] u.1 v ∧ KF [29] u.2.1 f ∧ YI u.1 ∧ YC u.2.1 ∧ progOK (u.2.1 4) (u.2.1 5) (u.1 9).toInt.toNat ∧ u.1 0 = v 0 ∧ u.1 1 = v 1 ∧ u.1 2 = v 2 ∧ u.1 3 = v 3 ∧ u.1 4 = v 4 ∧ u.1 5 = v 5 ∧ u.1 8 = v 8 ∧ u.1 9 = v 9 ∧ u.1 10 = v 10 ∧ u.1 13 = v 13 ∧ u.1 14 = v 14 ∧ u.1 15 = v 15 ∧ u.1 17 = v 17 ∧ u.1 18 = v 18 ∧ u.1 24 = v 24 ∧ u.1 25 = v 25 ∧ u.1 35 = v 35 ∧ u.1 36 = v 36 ∧ u.1 38 = v 38 ∧ u.1 39 = v 39) (fun u => YW cy y0 r u.1 u.2.1 u.2.2.1 u.2.2.2) := by
  refine ctI_of (by decide) (Nat.le_of_ble_eq_true rfl) (fun p e s m below meth c A ls Q hx hb hml hts hown hE hP hD hA hl ret => ?_)
  have hUv : (v 35).toInt + (v 36).toInt ≤ 40 := hIv.2
  have hM_v : KV [] v v := fun _ _ => rfl
  have hA_f : KF [29] f f := fun _ _ => rfl
  have hown : s.vm.findClass RX11 = some m.cls := hown
  have hS : va_S A s.heap s.heap [] := va_S.rf
  have hl : lv_has ls 3 [(0, .ref y0)] := hl
  refine lv_aload_n hx hb dX11_cloth_0 rfl (lv_at hl 0 rfl) ?_
  refine va_get (D := (dC, dI)) (ci := 11) (v := .ref (r 68)) (C := RX11) (T := TX11) (N := 79) hx hb hts inB_11 hown hE.1 hP 0 rfl rfl 68 (by decide) (hts _ k_1388) (fun _ h9 => h9) rfl dX11_cloth_1 ?_
  refine lv_iconst (v := 0) hx hb dX11_cloth_4 (by decide) ?_
  refine lv_iconst (v := 0) hx hb dX11_cloth_5 (by decide) ?_
  refine stI hx hb hE hP hD hS 30 rfl (vp_in_nI (n := 0) (by decide) (by decide)) rfl dX11_cloth_6 (fun H locs hP hD hS => ?_)
  obtain ⟨f1, ef1, hP, hD⟩ : ∃ fz9, fz9 = upd2 f 29 (upd (f 29) (0 : Int32).toNatClampNeg 0) ∧ va_P (dC, dI) vwCl (YW cy y0 r v fz9 w g) H ∧ va_D A (YW cy y0 r v fz9 w g) := ⟨_, rfl, hP, hD⟩
  have hCf1 : YC f1 := by rw [ef1]; exact hCf
  have hRf1 : progOK (f1 4) (f1 5) (v 9).toInt.toNat := by rw [ef1]; exact hRf
  have hA_f1 : KF [29] f1 f := by rw [ef1]; exact KF.up hA_f rfl
  refine lv_iconst (v := 1) hx hb dX11_cloth_7 (by decide) ?_
  refine lv_istore_n (lv' := [(1, .int 1), (0, .ref y0)]) hx hb dX11_cloth_8 rfl hl (by decide) rfl (fun ls hl => ?_)
  have lp2 : ∀ (n2 : Nat) (l1_2 : Int32) (v2 : Nat → Int32) (f2 : Nat → Nat → Int32) (w2 : Int64) (g2 : Nat → Int64), YI v2 → YC f2 → progOK (f2 4) (f2 5) (v2 9).toInt.toNat → v2 0 = (v 0) → v2 1 = (v 1) → v2 2 = (v 2) → v2 3 = (v 3) → v2 4 = (v 4) → v2 5 = (v 5) → v2 8 = (v 8) → v2 9 = (v 9) → v2 10 = (v 10) → v2 13 = (v 13) → v2 14 = (v 14) → v2 15 = (v 15) → v2 17 = (v 17) → v2 18 = (v 18) → v2 24 = (v 24) → v2 25 = (v 25) → v2 35 = (v 35) → v2 36 = (v 36) → v2 38 = (v 38) → v2 39 = (v 39) → ((1 : Int) ≤ l1_2.toInt ∧ l1_2.toInt ≤ 2147483647) → KV [] v2 v → KF [29] f2 f → (2147483647 - l1_2.toInt).toNat < n2 → ∀ (H : Heap) (locs : List Loc) (ls : Array Slot), va_P (dC, dI) vwCl (YW cy y0 r v2 f2 w2 g2) H → va_D A (YW cy y0 r v2 f2 w2 g2) → va_S A s.heap H locs → lv_has ls 3 [(1, .int l1_2), (0, .ref y0)] → W p l e { frames := 3, cells := 0, slots := 0, locals := 105 } s m ([.ref y0] : List Value).toArray below meth c H locs 0 0 Q (F0 m 9 ls []) := by
    intro n2
    induction n2 with
    | zero => intro l1_2 v2 f2 w2 g2 hIv2 hCf2 hRf2 hq0_v2 hq1_v2 hq2_v2 hq3_v2 hq4_v2 hq5_v2 hq8_v2 hq9_v2 hq10_v2 hq13_v2 hq14_v2 hq15_v2 hq17_v2 hq18_v2 hq24_v2 hq25_v2 hq35_v2 hq36_v2 hq38_v2 hq39_v2 hr1_2 hM_v2 hA_f2 hm; exact absurd hm (Nat.not_lt_zero _)
    | succ n2 ih2 =>
      intro l1_2 v2 f2 w2 g2 hIv2 hCf2 hRf2 hq0_v2 hq1_v2 hq2_v2 hq3_v2 hq4_v2 hq5_v2 hq8_v2 hq9_v2 hq10_v2 hq13_v2 hq14_v2 hq15_v2 hq17_v2 hq18_v2 hq24_v2 hq25_v2 hq35_v2 hq36_v2 hq38_v2 hq39_v2 hr1_2 hM_v2 hA_f2 hm2 H locs ls hP hD hS hl
      have hUv2 : (v2 35).toInt + (v2 36).toInt ≤ 40 := hIv2.2
      have zq9_v2 := congrArg Int32.toInt hq9_v2
      refine lv_iload_n hx hb dX11_cloth_9 rfl (lv_at hl 0 rfl) ?_
      refine lv_iconst (v := 1) hx hb dX11_cloth_10 (by decide) ?_
      refine lv_aload_n hx hb dX11_cloth_11 rfl (lv_at hl 1 rfl) ?_
      refine va_get (D := (dC, dI)) (ci := 11) (v := .int (v2 25)) (C := RX11) (T := TX11) (N := 79) hx hb hts inB_11 hown hE.1 hP 0 rfl rfl 49 (by decide) (hts _ k_1369) (fun _ h9 => h9) rfl dX11_cloth_12 ?_
      refine tI (y := (v 25)) hq25_v2 ?_
      have b25_v : 0 ≤ (v 25).toInt ∧ (v 25).toInt ≤ 6 := YIb.b hIv.1 25 (by decide)
      refine lv_ishl hx hb dX11_cloth_15 ?_
      refine lv_topi (fun t3 et3 => ?_)
      have zt3 : 1 ≤ t3.toInt ∧ t3.toInt ≤ 64 := by rw [et3]; exact shl1_rng6 (by omega) (by omega)
      refine lv_icmp_ge (tgt := 86) hx hb dX11_cloth_16 (by decide) (fun c4 => ?_) (fun c4 => ?_)
      · skip
        have zc4 : t3.toInt ≤ l1_2.toInt := by rw [fa_le] at c4; exact c4
        have rg5 := fb_rng l1_2
        have rg6 := fb_rng t3
        refine lv_aload_n hx hb dX11_cloth_86 rfl (lv_at hl 1 rfl) ?_
        refine va_get (D := (dC, dI)) (ci := 11) (v := .ref (r 68)) (C := RX11) (T := TX11) (N := 79) hx hb hts inB_11 hown hE.1 hP 0 rfl rfl 68 (by decide) (hts _ k_1388) (fun _ h9 => h9) rfl dX11_cloth_87 ?_
        refine lv_iconst (v := 1) hx hb dX11_cloth_90 (by decide) ?_
        refine lv_aload_n hx hb dX11_cloth_91 rfl (lv_at hl 1 rfl) ?_
        refine va_get (D := (dC, dI)) (ci := 11) (v := .int (v2 25)) (C := RX11) (T := TX11) (N := 79) hx hb hts inB_11 hown hE.1 hP 0 rfl rfl 49 (by decide) (hts _ k_1369) (fun _ h9 => h9) rfl dX11_cloth_92 ?_
        refine tI (y := (v 25)) hq25_v2 ?_
        refine lv_ishl hx hb dX11_cloth_95 ?_
        refine tI (y := t3) et3.symm ?_
        refine lv_iconst (v := 1) hx hb dX11_cloth_96 (by decide) ?_
        refine lv_isub hx hb dX11_cloth_97 ?_
        refine lv_topi (fun t7 et7 => ?_)
        have zt7 : t7.toInt = t3.toInt - 1 := by rw [et7]; exact sub_i rfl (by decide) (by omega) (by omega)
        refine ldI hx hb hE hP 30 rfl (vp_in_iff.mpr ⟨by omega, by omega⟩) rfl rfl dX11_cloth_98 ?_
        refine lv_topi (fun t8 et8 => ?_)
        refine lv_istore_n (lv' := [(1, .int t8), (0, .ref y0)]) hx hb dX11_cloth_99 rfl hl (by decide) rfl (fun ls hl => ?_)
        refine lv_iload_n hx hb dX11_cloth_100 rfl (lv_at hl 0 rfl) ?_
        refine lv_ldcw (v := 1000000) hx hb hown (hts _ k_1927) dX11_cloth_101 ?_
        refine lv_icmp_lt (tgt := 111) hx hb dX11_cloth_104 (by decide) (fun c9 => ?_) (fun c9 => ?_)
        · skip
          have zc9 : t8.toInt < 1000000 := by rw [fa_lt, show (1000000 : Int32).toInt = 1000000 from by decide] at c9; exact c9
          refine lv_iload_n hx hb dX11_cloth_111 rfl (lv_at hl 0 rfl) ?_
          exact ret t8 (v2, f2, w2, g2) _ _ _ _ _ _ rfl ⟨hM_v2, hA_f2, hIv2, hCf2, hRf2, (show v2 0 = v 0 from hq0_v2), (show v2 1 = v 1 from hq1_v2), (show v2 2 = v 2 from hq2_v2), (show v2 3 = v 3 from hq3_v2), (show v2 4 = v 4 from hq4_v2), (show v2 5 = v 5 from hq5_v2), (show v2 8 = v 8 from hq8_v2), (show v2 9 = v 9 from hq9_v2), (show v2 10 = v 10 from hq10_v2), (show v2 13 = v 13 from hq13_v2), (show v2 14 = v 14 from hq14_v2), (show v2 15 = v 15 from hq15_v2), (show v2 17 = v 17 from hq17_v2), (show v2 18 = v 18 from hq18_v2), (show v2 24 = v 24 from hq24_v2), (show v2 25 = v 25 from hq25_v2), (show v2 35 = v 35 from hq35_v2), (show v2 36 = v 36 from hq36_v2), (show v2 38 = v 38 from hq38_v2), (show v2 39 = v 39 from hq39_v2)⟩ hP hD hS dX11_cloth_112 (Nat.le_refl _) (Nat.le_refl _)
        · skip
          have zc9 : ¬ (t8.toInt < 1000000) := by rw [fa_lt, show (1000000 : Int32).toInt = 1000000 from by decide] at c9; exact c9
          refine lv_iconst (v := (-1)) hx hb dX11_cloth_107 (by decide) ?_
          refine lv_goto (tgt := 112) hx hb dX11_cloth_108 (by decide) ?_
          exact ret (-1) (v2, f2, w2, g2) _ _ _ _ _ _ rfl ⟨hM_v2, hA_f2, hIv2, hCf2, hRf2, (show v2 0 = v 0 from hq0_v2), (show v2 1 = v 1 from hq1_v2), (show v2 2 = v 2 from hq2_v2), (show v2 3 = v 3 from hq3_v2), (show v2 4 = v 4 from hq4_v2), (show v2 5 = v 5 from hq5_v2), (show v2 8 = v 8 from hq8_v2), (show v2 9 = v 9 from hq9_v2), (show v2 10 = v 10 from hq10_v2), (show v2 13 = v 13 from hq13_v2), (show v2 14 = v 14 from hq14_v2), (show v2 15 = v 15 from hq15_v2), (show v2 17 = v 17 from hq17_v2), (show v2 18 = v 18 from hq18_v2), (show v2 24 = v 24 from hq24_v2), (show v2 25 = v 25 from hq25_v2), (show v2 35 = v 35 from hq35_v2), (show v2 36 = v 36 from hq36_v2), (show v2 38 = v 38 from hq38_v2), (show v2 39 = v 39 from hq39_v2)⟩ hP hD hS dX11_cloth_112 (Nat.le_refl _) (Nat.le_refl _)
      · skip
        have zc4 : ¬ (t3.toInt ≤ l1_2.toInt) := by rw [fa_le] at c4; exact c4
        have rg10 := fb_rng l1_2
        have rg11 := fb_rng t3
        refine lv_aload_n hx hb dX11_cloth_19 rfl (lv_at hl 1 rfl) ?_
        refine va_get (D := (dC, dI)) (ci := 11) (v := .ref (r 68)) (C := RX11) (T := TX11) (N := 79) hx hb hts inB_11 hown hE.1 hP 0 rfl rfl 68 (by decide) (hts _ k_1388) (fun _ h9 => h9) rfl dX11_cloth_20 ?_
        refine lv_iload_n hx hb dX11_cloth_23 rfl (lv_at hl 0 rfl) ?_
        refine lv_ldcw (v := 1000000) hx hb hown (hts _ k_1927) dX11_cloth_24 ?_
        refine stI hx hb hE hP hD hS 30 rfl (vp_in_iff.mpr ⟨by omega, by omega⟩) rfl dX11_cloth_27 (fun H locs hP hD hS => ?_)
        obtain ⟨f12, ef12, hP, hD⟩ : ∃ fz9, fz9 = upd2 f2 29 (upd (f2 29) l1_2.toNatClampNeg 1000000) ∧ va_P (dC, dI) vwCl (YW cy y0 r v2 fz9 w2 g2) H ∧ va_D A (YW cy y0 r v2 fz9 w2 g2) := ⟨_, rfl, hP, hD⟩
        have hCf12 : YC f12 := by rw [ef12]; exact hCf2
        have hRf12 : progOK (f12 4) (f12 5) (v2 9).toInt.toNat := by rw [ef12]; exact hRf2
        have hA_f12 : KF [29] f12 f := by rw [ef12]; exact KF.up hA_f2 rfl
        refine lv_iconst (v := 1) hx hb dX11_cloth_28 (by decide) ?_
        refine lv_istore_n (lv' := [(2, .int 1), (1, .int l1_2), (0, .ref y0)]) hx hb dX11_cloth_29 rfl hl (by decide) rfl (fun ls hl => ?_)
        have lp13 : ∀ (n13 : Nat) (l2_13 : Int32) (v13 : Nat → Int32) (f13 : Nat → Nat → Int32) (w13 : Int64) (g13 : Nat → Int64), YI v13 → YC f13 → progOK (f13 4) (f13 5) (v13 9).toInt.toNat → v13 0 = (v 0) → v13 1 = (v 1) → v13 2 = (v 2) → v13 3 = (v 3) → v13 4 = (v 4) → v13 5 = (v 5) → v13 8 = (v 8) → v13 9 = (v 9) → v13 10 = (v 10) → v13 13 = (v 13) → v13 14 = (v 14) → v13 15 = (v 15) → v13 17 = (v 17) → v13 18 = (v 18) → v13 24 = (v 24) → v13 25 = (v 25) → v13 35 = (v 35) → v13 36 = (v 36) → v13 38 = (v 38) → v13 39 = (v 39) → ((1 : Int) ≤ l2_13.toInt ∧ l2_13.toInt ≤ 2147483647) → KV [] v13 v → KF [29] f13 f → (2147483647 - l2_13.toInt).toNat < n13 → ∀ (H : Heap) (locs : List Loc) (ls : Array Slot), va_P (dC, dI) vwCl (YW cy y0 r v13 f13 w13 g13) H → va_D A (YW cy y0 r v13 f13 w13 g13) → va_S A s.heap H locs → lv_has ls 3 [(2, .int l2_13), (1, .int l1_2), (0, .ref y0)] → W p l e { frames := 3, cells := 0, slots := 0, locals := 105 } s m ([.ref y0] : List Value).toArray below meth c H locs 0 0 Q (F0 m 30 ls []) := by
          intro n13
          induction n13 with
          | zero => intro l2_13 v13 f13 w13 g13 hIv13 hCf13 hRf13 hq0_v13 hq1_v13 hq2_v13 hq3_v13 hq4_v13 hq5_v13 hq8_v13 hq9_v13 hq10_v13 hq13_v13 hq14_v13 hq15_v13 hq17_v13 hq18_v13 hq24_v13 hq25_v13 hq35_v13 hq36_v13 hq38_v13 hq39_v13 hr2_13 hM_v13 hA_f13 hm; exact absurd hm (Nat.not_lt_zero _)
          | succ n13 ih13 =>
            intro l2_13 v13 f13 w13 g13 hIv13 hCf13 hRf13 hq0_v13 hq1_v13 hq2_v13 hq3_v13 hq4_v13 hq5_v13 hq8_v13 hq9_v13 hq10_v13 hq13_v13 hq14_v13 hq15_v13 hq17_v13 hq18_v13 hq24_v13 hq25_v13 hq35_v13 hq36_v13 hq38_v13 hq39_v13 hr2_13 hM_v13 hA_f13 hm13 H locs ls hP hD hS hl
            have hUv13 : (v13 35).toInt + (v13 36).toInt ≤ 40 := hIv13.2
            have zq9_v13 := congrArg Int32.toInt hq9_v13
            refine lv_iload_n hx hb dX11_cloth_30 rfl (lv_at hl 0 rfl) ?_
            refine lv_iload_n hx hb dX11_cloth_31 rfl (lv_at hl 1 rfl) ?_
            refine lv_icmp_gt (tgt := 80) hx hb dX11_cloth_32 (by decide) (fun c14 => ?_) (fun c14 => ?_)
            · skip
              have zc14 : l1_2.toInt < l2_13.toInt := by rw [fa_lt] at c14; exact c14
              have rg15 := fb_rng l2_13
              obtain ⟨t16, et16⟩ : ∃ y : Int32, y = l1_2 + 1 := ⟨_, rfl⟩
              have zt16 : t16.toInt = l1_2.toInt + 1 := by rw [et16]; exact add_i rfl (by decide) (by omega) (by omega)
              refine lv_iinc (v := t16) (lv' := [(1, .int t16), (2, .int l2_13), (0, .ref y0)]) hx hb dX11_cloth_80 hl (k := 1) rfl (by rw [et16]; rfl) (by decide) rfl (fun ls hl => ?_)
              refine lv_goto (tgt := 9) hx hb dX11_cloth_83 (by decide) ?_
              have rg17 := fb_rng t16
              exact ih2 t16 v13 f13 w13 g13 hIv13 hCf13 hRf13 hq0_v13 hq1_v13 hq2_v13 hq3_v13 hq4_v13 hq5_v13 hq8_v13 hq9_v13 hq10_v13 hq13_v13 hq14_v13 hq15_v13 hq17_v13 hq18_v13 hq24_v13 hq25_v13 hq35_v13 hq36_v13 hq38_v13 hq39_v13 ⟨show (1 : Int) ≤ t16.toInt by omega, show t16.toInt ≤ (2147483647 : Int) by omega⟩ hM_v13 hA_f13 (by show (2147483647 - t16.toInt).toNat < n2; omega) _ _ _ hP hD hS (lv_sub hl [0, 2] rfl)
            · skip
              have zc14 : ¬ (l1_2.toInt < l2_13.toInt) := by rw [fa_lt] at c14; exact c14
              have rg18 := fb_rng l2_13
              refine lv_iload_n hx hb dX11_cloth_35 rfl (lv_at hl 0 rfl) ?_
              refine lv_iload_n hx hb dX11_cloth_36 rfl (lv_at hl 1 rfl) ?_
              refine lv_iconst (v := (-1)) hx hb dX11_cloth_37 (by decide) ?_
              refine lv_ixor hx hb dX11_cloth_38 ?_
              refine lv_topi (fun t19 et19 => ?_)
              refine lv_iand hx hb dX11_cloth_39 ?_
              refine lv_topi (fun t20 et20 => ?_)
              have zt20 : 0 ≤ t20.toInt ∧ t20.toInt ≤ 63 := by rw [et20]; exact and_left (by omega) (by omega)
              refine lv_if_ne (tgt := 74) hx hb dX11_cloth_40 (by decide) (fun c21 => ?_) (fun c21 => ?_)
              · skip
                have zc21 : ¬ (t20.toInt = 0) := by rw [fa_eq, show (0 : Int32).toInt = 0 from by decide] at c21; exact c21
                obtain ⟨t22, et22⟩ : ∃ y : Int32, y = l2_13 + 1 := ⟨_, rfl⟩
                have zt22 : t22.toInt = l2_13.toInt + 1 := by rw [et22]; exact add_i rfl (by decide) (by omega) (by omega)
                refine lv_iinc (v := t22) (lv' := [(2, .int t22), (1, .int l1_2), (0, .ref y0)]) hx hb dX11_cloth_74 hl (k := 0) rfl (by rw [et22]; rfl) (by decide) rfl (fun ls hl => ?_)
                refine lv_goto (tgt := 30) hx hb dX11_cloth_77 (by decide) ?_
                have rg23 := fb_rng t22
                exact ih13 t22 v13 f13 w13 g13 hIv13 hCf13 hRf13 hq0_v13 hq1_v13 hq2_v13 hq3_v13 hq4_v13 hq5_v13 hq8_v13 hq9_v13 hq10_v13 hq13_v13 hq14_v13 hq15_v13 hq17_v13 hq18_v13 hq24_v13 hq25_v13 hq35_v13 hq36_v13 hq38_v13 hq39_v13 ⟨show (1 : Int) ≤ t22.toInt by omega, show t22.toInt ≤ (2147483647 : Int) by omega⟩ hM_v13 hA_f13 (by show (2147483647 - t22.toInt).toNat < n13; omega) _ _ _ hP hD hS (lv_sub hl [0, 1, 2] rfl)
              · skip
                have zc21 : t20.toInt = 0 := by rw [fa_eq, show (0 : Int32).toInt = 0 from by decide] at c21; exact c21
                refine lv_aload_n hx hb dX11_cloth_43 rfl (lv_at hl 2 rfl) ?_
                refine va_get (D := (dC, dI)) (ci := 11) (v := .ref (r 68)) (C := RX11) (T := TX11) (N := 79) hx hb hts inB_11 hown hE.1 hP 0 rfl rfl 68 (by decide) (hts _ k_1388) (fun _ h9 => h9) rfl dX11_cloth_44 ?_
                refine lv_iload_n hx hb dX11_cloth_47 rfl (lv_at hl 1 rfl) ?_
                refine lv_aload_n hx hb dX11_cloth_48 rfl (lv_at hl 2 rfl) ?_
                refine va_get (D := (dC, dI)) (ci := 11) (v := .ref (r 68)) (C := RX11) (T := TX11) (N := 79) hx hb hts inB_11 hown hE.1 hP 0 rfl rfl 68 (by decide) (hts _ k_1388) (fun _ h9 => h9) rfl dX11_cloth_49 ?_
                refine lv_iload_n hx hb dX11_cloth_52 rfl (lv_at hl 1 rfl) ?_
                refine ldI hx hb hE hP 30 rfl (vp_in_iff.mpr ⟨by omega, by omega⟩) rfl rfl dX11_cloth_53 ?_
                refine lv_topi (fun t24 et24 => ?_)
                refine lv_aload_n hx hb dX11_cloth_54 rfl (lv_at hl 2 rfl) ?_
                refine lv_iload_n hx hb dX11_cloth_55 rfl (lv_at hl 0 rfl) ?_
                refine cbVi (n := 1) (rest := [.int t24, .int l1_2, .ref (r 68)]) hx hb hml hown hts hE hP hD hS hA (sY_X11_rowOf_1 l dC dI cy y0 r l2_13 v13 f13 w13 g13 hIv13 hCf13 hRf13 ) k_1928 k_1930 k_89 k_114 k_1931 (by decide +kernel) ⟨Nat.le_of_ble_eq_true rfl, Nat.le_of_ble_eq_true rfl⟩ 0 11 rfl rfl (rfl) hl.1 rfl (Nat.le_of_ble_eq_true rfl) dX11_cloth_56 (fun r25 u H locs hw hP hD hS => ?_)
                refine lv_aload_n hx hb dX11_cloth_59 rfl (lv_at hl 2 rfl) ?_
                refine va_get (D := (dC, dI)) (ci := 11) (v := .ref (r 68)) (C := RX11) (T := TX11) (N := 79) hx hb hts inB_11 hown hE.1 hP 0 rfl rfl 68 (by decide) (hts _ k_1388) (fun _ h9 => h9) rfl dX11_cloth_60 ?_
                refine lv_iload_n hx hb dX11_cloth_63 rfl (lv_at hl 1 rfl) ?_
                refine lv_iload_n hx hb dX11_cloth_64 rfl (lv_at hl 0 rfl) ?_
                refine lv_iconst (v := (-1)) hx hb dX11_cloth_65 (by decide) ?_
                refine lv_ixor hx hb dX11_cloth_66 ?_
                refine lv_topi (fun t26 et26 => ?_)
                refine lv_iand hx hb dX11_cloth_67 ?_
                refine lv_topi (fun t27 et27 => ?_)
                have zt27 : 0 ≤ t27.toInt ∧ t27.toInt ≤ 63 := by rw [et27]; exact and_left (by omega) (by omega)
                refine ldI hx hb hE hP 30 rfl (vp_in_iff.mpr ⟨by omega, by omega⟩) rfl rfl dX11_cloth_68 ?_
                refine lv_topi (fun t28 et28 => ?_)
                refine lv_iadd hx hb dX11_cloth_69 ?_
                refine lv_topi (fun t29 et29 => ?_)
                refine cbSi (n := 2) (rest := [.int l1_2, .ref (r 68)]) hx hb hml hown hts hE hP hD hS hA (sY_X11_lesser_1 0 l dC dI cy y0 r t24 t29 v13 f13 w13 g13 hIv13 hCf13 hRf13 ) k_1799 k_1800 k_114 k_1801 (by decide +kernel) ⟨Nat.le_of_ble_eq_true rfl, Nat.le_of_ble_eq_true rfl⟩ (rfl) hl.1 rfl (Nat.le_of_ble_eq_true rfl) dX11_cloth_70 (fun r30 u H locs hw hP hD hS => ?_)
                obtain ⟨hG31, hw⟩ := hw
                obtain ⟨pp32, pp33⟩ := hw
                have pp32 : r30.toInt ≤ t24.toInt := pp32
                have pp33 : r30.toInt ≤ t29.toInt := pp33
                refine stI hx hb hE hP hD hS 30 rfl (vp_in_iff.mpr ⟨by omega, by omega⟩) rfl dX11_cloth_73 (fun H locs hP hD hS => ?_)
                obtain ⟨f34, ef34, hP, hD⟩ : ∃ fz9, fz9 = upd2 f13 29 (upd (f13 29) l1_2.toNatClampNeg r30) ∧ va_P (dC, dI) vwCl (YW cy y0 r v13 fz9 w13 g13) H ∧ va_D A (YW cy y0 r v13 fz9 w13 g13) := ⟨_, rfl, hP, hD⟩
                have hCf34 : YC f34 := by rw [ef34]; exact hCf13
                have hRf34 : progOK (f34 4) (f34 5) (v13 9).toInt.toNat := by rw [ef34]; exact hRf13
                have hA_f34 : KF [29] f34 f := by rw [ef34]; exact KF.up hA_f13 rfl
                obtain ⟨t35, et35⟩ : ∃ y : Int32, y = l2_13 + 1 := ⟨_, rfl⟩
                have zt35 : t35.toInt = l2_13.toInt + 1 := by rw [et35]; exact add_i rfl (by decide) (by omega) (by omega)
                refine lv_iinc (v := t35) (lv' := [(2, .int t35), (1, .int l1_2), (0, .ref y0)]) hx hb dX11_cloth_74 hl (k := 0) rfl (by rw [et35]; rfl) (by decide) rfl (fun ls hl => ?_)
                refine lv_goto (tgt := 30) hx hb dX11_cloth_77 (by decide) ?_
                have rg36 := fb_rng t35
                exact ih13 t35 v13 f34 w13 g13 hIv13 hCf34 hRf34 hq0_v13 hq1_v13 hq2_v13 hq3_v13 hq4_v13 hq5_v13 hq8_v13 hq9_v13 hq10_v13 hq13_v13 hq14_v13 hq15_v13 hq17_v13 hq18_v13 hq24_v13 hq25_v13 hq35_v13 hq36_v13 hq38_v13 hq39_v13 ⟨show (1 : Int) ≤ t35.toInt by omega, show t35.toInt ≤ (2147483647 : Int) by omega⟩ hM_v13 hA_f34 (by show (2147483647 - t35.toInt).toNat < n13; omega) _ _ _ hP hD hS (lv_sub hl [0, 1, 2] rfl)
        exact lp13 _ 1 v2 f12 w2 g2 hIv2 hCf12 hRf12 hq0_v2 hq1_v2 hq2_v2 hq3_v2 hq4_v2 hq5_v2 hq8_v2 hq9_v2 hq10_v2 hq13_v2 hq14_v2 hq15_v2 hq17_v2 hq18_v2 hq24_v2 hq25_v2 hq35_v2 hq36_v2 hq38_v2 hq39_v2 ⟨by decide, by decide⟩ hM_v2 hA_f12 (Nat.lt_succ_self _) _ _ _ hP hD hS (lv_sub hl [0, 1, 2] rfl)
  exact lp2 _ 1 v f1 w g hIv hCf1 hRf1 rfl rfl rfl rfl rfl rfl rfl rfl rfl rfl rfl rfl rfl rfl rfl rfl rfl rfl rfl rfl ⟨by decide, by decide⟩ hM_v hA_f1 (Nat.lt_succ_self _) _ _ _ hP hD hS (lv_sub hl [0, 1] rfl)
set_option maxHeartbeats 4000000 in
set_option maxRecDepth 100000 in
theorem sY_X11_areTaken_1 (l : Launch) (dC : Nat → ClassId) (dI : Nat → Nat → Nat) (cy : Nat → ClassId) (y0 : Nat) (r : Nat → Nat) (p1 : Int32) (p2 : Int32) (v : Nat → Int32) (f : Nat → Nat → Int32) (w : Int64) (g : Nat → Int64) (hIv : YI v) (hCf : YC f) (hRf : progOK (f 4) (f 5) (v 9).toInt.toNat) (hp1 : (0 : Int) ≤ p1.toInt ∧ p1.toInt ≤ 5) (hp2 : (0 : Int) ≤ p2.toInt ∧ p2.toInt ≤ 5) : ctI l (dC, dI) cy yX11_areTaken cX11_areTaken 3 .boolean 2 80 0 0 Unit [.ref y0, .int p1, .int p2] (YW cy y0 r v f w g) (fun r u => ((r = 1) ∨ (r = 0))) (fun u => YW cy y0 r v f w g) := by
  refine ctI_of (by decide) (Nat.le_of_ble_eq_true rfl) (fun p e s m below meth c A ls Q hx hb hml hts hown hE hP hD hA hl ret => ?_)
  have hUv : (v 35).toInt + (v 36).toInt ≤ 40 := hIv.2
  have hown : s.vm.findClass RX11 = some m.cls := hown
  have hS : va_S A s.heap s.heap [] := va_S.rf
  have hl : lv_has ls 3 [(0, .ref y0), (1, .int p1), (2, .int p2)] := hl
  refine lv_aload_n hx hb dX11_areTaken_0 rfl (lv_at hl 0 rfl) ?_
  refine va_get (D := (dC, dI)) (ci := 11) (v := .ref (r 34)) (C := RX11) (T := TX11) (N := 79) hx hb hts inB_11 hown hE.1 hP 0 rfl rfl 34 (by decide) (hts _ k_1354) (fun _ h9 => h9) rfl dX11_areTaken_1 ?_
  refine lv_iload_n hx hb dX11_areTaken_4 rfl (lv_at hl 1 rfl) ?_
  refine ldI hx hb hE hP 17 rfl (vp_in_iff.mpr ⟨by omega, by omega⟩) rfl rfl dX11_areTaken_5 ?_
  refine lv_topi (fun t1 et1 => ?_)
  refine lv_aload_n hx hb dX11_areTaken_6 rfl (lv_at hl 0 rfl) ?_
  refine va_get (D := (dC, dI)) (ci := 11) (v := .ref (r 34)) (C := RX11) (T := TX11) (N := 79) hx hb hts inB_11 hown hE.1 hP 0 rfl rfl 34 (by decide) (hts _ k_1354) (fun _ h9 => h9) rfl dX11_areTaken_7 ?_
  refine lv_iload_n hx hb dX11_areTaken_10 rfl (lv_at hl 2 rfl) ?_
  refine ldI hx hb hE hP 17 rfl (vp_in_iff.mpr ⟨by omega, by omega⟩) rfl rfl dX11_areTaken_11 ?_
  refine lv_topi (fun t2 et2 => ?_)
  refine lv_isub hx hb dX11_areTaken_12 ?_
  refine lv_topi (fun t3 et3 => ?_)
  refine cbSi (n := 1) (rest := []) hx hb hml hown hts hE hP hD hS hA (sY_X11_plain_1 l dC dI cy y0 r t3 v f w g hIv hCf hRf ) k_1920 k_1921 k_114 k_1922 (by decide +kernel) ⟨Nat.le_of_ble_eq_true rfl, Nat.le_of_ble_eq_true rfl⟩ (rfl) hl.1 rfl (Nat.le_of_ble_eq_true rfl) dX11_areTaken_13 (fun r4 u H locs hw hP hD hS => ?_)
  refine lv_aload_n hx hb dX11_areTaken_16 rfl (lv_at hl 0 rfl) ?_
  refine va_get (D := (dC, dI)) (ci := 11) (v := .int (v 28)) (C := RX11) (T := TX11) (N := 79) hx hb hts inB_11 hown hE.1 hP 0 rfl rfl 52 (by decide) (hts _ k_1372) (fun _ h9 => h9) rfl dX11_areTaken_17 ?_
  refine lv_icmp_gt (tgt := 27) hx hb dX11_areTaken_20 (by decide) (fun c5 => ?_) (fun c5 => ?_)
  · skip
    have zc5 : (v 28).toInt < r4.toInt := by rw [fa_lt] at c5; exact c5
    have rg6 := fb_rng r4
    have rg7 := fb_rng (v 28)
    refine lv_iconst (v := 0) hx hb dX11_areTaken_27 (by decide) ?_
    exact ret 0 () _ _ _ _ _ _ rfl (Or.inr rfl) hP hD hS dX11_areTaken_28 (Nat.le_refl _) (Nat.le_refl _)
  · skip
    have zc5 : ¬ ((v 28).toInt < r4.toInt) := by rw [fa_lt] at c5; exact c5
    have rg8 := fb_rng r4
    have rg9 := fb_rng (v 28)
    refine lv_iconst (v := 1) hx hb dX11_areTaken_23 (by decide) ?_
    refine lv_goto (tgt := 28) hx hb dX11_areTaken_24 (by decide) ?_
    exact ret 1 () _ _ _ _ _ _ rfl (Or.inl rfl) hP hD hS dX11_areTaken_28 (Nat.le_refl _) (Nat.le_refl _)
