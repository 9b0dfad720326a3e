set_option maxHeartbeats 4000000 in
set_option maxRecDepth 100000 in
theorem sY_X11_change_1 (l : Launch) (dC : Nat → ClassId) (dI : Nat → Nat → Nat) (cy : Nat → ClassId) (y0 : Nat) (r : Nat → Nat) (p1 : Int32) (v : Nat → Int32) (f : Nat → Nat → Int32) (w : Int64) (g : Nat → Int64) (hIv : YI v) (hCf : YC f) (hRf : progOK (f 4) (f 5) (v 9).toInt.toNat)  : ctI l (dC, dI) cy yX11_change cX11_change 7 .int 8 211 0 0 ((Nat → Int32) × (Nat → Nat → Int32) × (Int64) × (Nat → Int64)) [.ref y0, .int p1] (YW cy y0 r v f w g) (fun r u => u.2.1 0 = f 0 ∧ YI u.1 ∧ YC u.2.1 ∧ progOK (u.2.1 4) (u.2.1 5) (u.1 9).toInt.toNat ∧ u.1 0 = v 0 ∧ u.1 1 = v 1 ∧ u.1 2 = v 2 ∧ u.1 3 = v 3 ∧ u.1 4 = v 4 ∧ u.1 5 = v 5 ∧ u.1 8 = v 8 ∧ u.1 9 = v 9 ∧ u.1 10 = v 10 ∧ u.1 13 = v 13 ∧ u.1 14 = v 14 ∧ u.1 15 = v 15 ∧ u.1 17 = v 17 ∧ u.1 18 = v 18 ∧ u.1 24 = v 24 ∧ u.1 25 = v 25 ∧ u.1 35 = v 35 ∧ u.1 36 = v 36 ∧ u.1 38 = v 38 ∧ u.1 39 = v 39) (fun u => YW cy y0 r u.1 u.2.1 u.2.2.1 u.2.2.2) := by
  refine ctI_of (by decide) (Nat.le_of_ble_eq_true rfl) (fun p e s m below meth c A ls Q hx hb hml hts hown hE hP hD hA hl ret => ?_)
  have hUv : (v 35).toInt + (v 36).toInt ≤ 40 := hIv.2
  have ha0_f : f 0 = f 0 := rfl
  have hown : s.vm.findClass RX11 = some m.cls := hown
  have hS : va_S A s.heap s.heap [] := va_S.rf
  have hl : lv_has ls 7 [(0, .ref y0), (1, .int p1)] := hl
  refine lv_iload_n hx hb dX11_change_0 rfl (lv_at hl 1 rfl) ?_
  refine lv_iconst (v := 0) hx hb dX11_change_1 (by decide) ?_
  refine lv_iconst (v := 2) hx hb dX11_change_2 (by decide) ?_
  have lt1 : (0 : Int32).toInt = 0 := by decide
  have lt2 : (2 : Int32).toInt = 2 := by decide
  refine cbSi (n := 3) (rest := []) hx hb hml hown hts hE hP hD hS hA (sY_X11_isIn_1 l dC dI cy y0 r p1 0 2 v f w g hIv hCf hRf ) k_1736 k_1737 k_114 k_1738 (by decide +kernel) ⟨Nat.le_of_ble_eq_true rfl, Nat.le_of_ble_eq_true rfl⟩ (rfl) hl.1 rfl (Nat.le_of_ble_eq_true rfl) dX11_change_3 (fun r3 u H locs hw hP hD hS => ?_)
  rcases hw with ⟨g4, g4_0, g4_1⟩ | ⟨g4⟩
  · skip
    subst g4
    refine lv_if_ne (tgt := 11) hx hb dX11_change_6 (by decide) (fun _ => ?_) (fun c0 => absurd c0 (by decide))
    refine lv_aload_n hx hb dX11_change_11 rfl (lv_at hl 0 rfl) ?_
    refine cbVi (n := 0) (rest := []) hx hb hml hown hts hE hP hD hS hA (sY_X11_fitted_1 l dC dI cy y0 r  v f w g hIv hCf hRf ) k_1907 k_1866 k_1867 k_114 k_1868 (by decide +kernel) ⟨Nat.le_of_ble_eq_true rfl, Nat.le_of_ble_eq_true rfl⟩ 0 11 rfl rfl (rfl) hl.1 rfl (Nat.le_of_ble_eq_true rfl) dX11_change_12 (fun r5 u H locs hw hP hD hS => ?_)
    obtain ⟨v6, f7, w8, g9⟩ := u
    obtain ⟨ka0_f7, hIv6, hCf7, hRf7, hk0_v6, hk1_v6, hk2_v6, hk3_v6, hk4_v6, hk5_v6, hk8_v6, hk9_v6, hk10_v6, hk13_v6, hk14_v6, hk15_v6, hk17_v6, hk18_v6, hk24_v6, hk25_v6, hk35_v6, hk36_v6, hk38_v6, hk39_v6⟩ := hw
    have ha0_f7 : f7 0 = f 0 := ka0_f7.trans ha0_f
    have hP : va_P (dC, dI) vwCl (YW cy y0 r v6 f7 w8 g9) H := hP
    have hD : va_D A (YW cy y0 r v6 f7 w8 g9) := hD
    have hUv6 : (v6 35).toInt + (v6 36).toInt ≤ 40 := hIv6.2
    have hq0_v6 : v6 0 = (v 0) := hk0_v6
    have hq1_v6 : v6 1 = (v 1) := hk1_v6
    have hq2_v6 : v6 2 = (v 2) := hk2_v6
    have hq3_v6 : v6 3 = (v 3) := hk3_v6
    have zq3_v6 := congrArg Int32.toInt hq3_v6
    have hq4_v6 : v6 4 = (v 4) := hk4_v6
    have zq4_v6 := congrArg Int32.toInt hq4_v6
    have hq5_v6 : v6 5 = (v 5) := hk5_v6
    have zq5_v6 := congrArg Int32.toInt hq5_v6
    have hq8_v6 : v6 8 = (v 8) := hk8_v6
    have hq9_v6 : v6 9 = (v 9) := hk9_v6
    have zq9_v6 := congrArg Int32.toInt hq9_v6
    have hq10_v6 : v6 10 = (v 10) := hk10_v6
    have hq13_v6 : v6 13 = (v 13) := hk13_v6
    have hq14_v6 : v6 14 = (v 14) := hk14_v6
    have hq15_v6 : v6 15 = (v 15) := hk15_v6
    have hq17_v6 : v6 17 = (v 17) := hk17_v6
    have hq18_v6 : v6 18 = (v 18) := hk18_v6
    have hq24_v6 : v6 24 = (v 24) := hk24_v6
    have hq25_v6 : v6 25 = (v 25) := hk25_v6
    have hq35_v6 : v6 35 = (v 35) := hk35_v6
    have zq35_v6 := congrArg Int32.toInt hq35_v6
    have hq36_v6 : v6 36 = (v 36) := hk36_v6
    have zq36_v6 := congrArg Int32.toInt hq36_v6
    have hq38_v6 : v6 38 = (v 38) := hk38_v6
    have hq39_v6 : v6 39 = (v 39) := hk39_v6
    refine cbSi (n := 1) (rest := []) hx hb hml hown hts hE hP hD hS hA (sY_X11_members_1 l dC dI cy y0 r r5 v6 f7 w8 g9 hIv6 hCf7 hRf7 ) k_1900 k_1901 k_114 k_1902 (by decide +kernel) ⟨Nat.le_of_ble_eq_true rfl, Nat.le_of_ble_eq_true rfl⟩ (rfl) hl.1 rfl (Nat.le_of_ble_eq_true rfl) dX11_change_15 (fun r10 u H locs hw hP hD hS => ?_)
    refine lv_istore_n (lv' := [(2, .int r10), (0, .ref y0), (1, .int p1)]) hx hb dX11_change_18 rfl hl (by decide) rfl (fun ls hl => ?_)
    refine lv_iconst (v := (-1)) hx hb dX11_change_19 (by decide) ?_
    refine lv_istore_n (lv' := [(3, .int (-1)), (2, .int r10), (0, .ref y0), (1, .int p1)]) hx hb dX11_change_20 rfl hl (by decide) rfl (fun ls hl => ?_)
    refine lv_iconst (v := 0) hx hb dX11_change_21 (by decide) ?_
    refine lv_istore (lv' := [(4, .int 0), (3, .int (-1)), (2, .int r10), (0, .ref y0), (1, .int p1)]) hx hb dX11_change_22 hl (by decide) rfl (fun ls hl => ?_)
    have lp11 : ∀ (n11 : Nat) (l2_11 : Int32) (l3_11 : Int32) (l4_11 : Int32) (v11 : Nat → Int32) (f11 : Nat → Nat → Int32) (w11 : Int64) (g11 : Nat → Int64), YI v11 → YC f11 → progOK (f11 4) (f11 5) (v11 9).toInt.toNat → v11 0 = (v 0) → v11 1 = (v 1) → v11 2 = (v 2) → v11 3 = (v 3) → v11 4 = (v 4) → v11 5 = (v 5) → v11 8 = (v 8) → v11 9 = (v 9) → v11 10 = (v 10) → v11 13 = (v 13) → v11 14 = (v 14) → v11 15 = (v 15) → v11 17 = (v 17) → v11 18 = (v 18) → v11 24 = (v 24) → v11 25 = (v 25) → v11 35 = (v 35) → v11 36 = (v 36) → v11 38 = (v 38) → v11 39 = (v 39) → ((0 : Int) ≤ l4_11.toInt ∧ l4_11.toInt ≤ 2147483647) → f11 0 = f 0 → (2147483647 - l4_11.toInt).toNat < n11 → ∀ (H : Heap) (locs : List Loc) (ls : Array Slot), va_P (dC, dI) vwCl (YW cy y0 r v11 f11 w11 g11) H → va_D A (YW cy y0 r v11 f11 w11 g11) → va_S A s.heap H locs → lv_has ls 7 [(4, .int l4_11), (3, .int l3_11), (2, .int l2_11), (0, .ref y0), (1, .int p1)] → W p l e { frames := 8, cells := 0, slots := 0, locals := 211 } s m ([.ref y0, .int p1] : List Value).toArray below meth c H locs 0 0 Q (F0 m 24 ls []) := by
      intro n11
      induction n11 with
      | zero => intro l2_11 l3_11 l4_11 v11 f11 w11 g11 hIv11 hCf11 hRf11 hq0_v11 hq1_v11 hq2_v11 hq3_v11 hq4_v11 hq5_v11 hq8_v11 hq9_v11 hq10_v11 hq13_v11 hq14_v11 hq15_v11 hq17_v11 hq18_v11 hq24_v11 hq25_v11 hq35_v11 hq36_v11 hq38_v11 hq39_v11 hr4_11 ha0_f11 hm; exact absurd hm (Nat.not_lt_zero _)
      | succ n11 ih11 =>
        intro l2_11 l3_11 l4_11 v11 f11 w11 g11 hIv11 hCf11 hRf11 hq0_v11 hq1_v11 hq2_v11 hq3_v11 hq4_v11 hq5_v11 hq8_v11 hq9_v11 hq10_v11 hq13_v11 hq14_v11 hq15_v11 hq17_v11 hq18_v11 hq24_v11 hq25_v11 hq35_v11 hq36_v11 hq38_v11 hq39_v11 hr4_11 ha0_f11 hm11 H locs ls hP hD hS hl
        have hUv11 : (v11 35).toInt + (v11 36).toInt ≤ 40 := hIv11.2
        have zq3_v11 := congrArg Int32.toInt hq3_v11
        have zq4_v11 := congrArg Int32.toInt hq4_v11
        have zq5_v11 := congrArg Int32.toInt hq5_v11
        have zq9_v11 := congrArg Int32.toInt hq9_v11
        have zq35_v11 := congrArg Int32.toInt hq35_v11
        have zq36_v11 := congrArg Int32.toInt hq36_v11
        refine lv_iload hx hb dX11_change_24 (lv_at hl 0 rfl) ?_
        refine lv_aload_n hx hb dX11_change_26 rfl (lv_at hl 3 rfl) ?_
        refine va_get (D := (dC, dI)) (ci := 11) (v := .int (v11 24)) (C := RX11) (T := TX11) (N := 79) hx hb hts inB_11 hown hE.1 hP 0 rfl rfl 48 (by decide) (hts _ k_1368) (fun _ h9 => h9) rfl dX11_change_27 ?_
        refine tI (y := (v 24)) hq24_v11 ?_
        have b24_v : 0 ≤ (v 24).toInt ∧ (v 24).toInt ≤ 6 := YIb.b hIv.1 24 (by decide)
        refine lv_icmp_ge (tgt := 134) hx hb dX11_change_30 (by decide) (fun c12 => ?_) (fun c12 => ?_)
        · skip
          have zc12 : (v 24).toInt ≤ l4_11.toInt := by rw [fa_le] at c12; exact c12
          have rg13 := fb_rng l4_11
          have rg14 := fb_rng (v 24)
          refine lv_iload_n hx hb dX11_change_134 rfl (lv_at hl 1 rfl) ?_
          refine lv_if_ge (tgt := 142) hx hb dX11_change_135 (by decide) (fun c15 => ?_) (fun c15 => ?_)
          · skip
            have zc15 : 0 ≤ l3_11.toInt := by rw [fa_le, show (0 : Int32).toInt = 0 from by decide] at c15; exact c15
            refine lv_iload_n hx hb dX11_change_142 rfl (lv_at hl 4 rfl) ?_
            refine lv_if_ne (tgt := 153) hx hb dX11_change_143 (by decide) (fun c16 => ?_) (fun c16 => ?_)
            · skip
              have zc16 : ¬ (p1.toInt = 0) := by rw [fa_eq, show (0 : Int32).toInt = 0 from by decide] at c16; exact c16
              refine lv_iload_n hx hb dX11_change_153 rfl (lv_at hl 4 rfl) ?_
              refine lv_iconst (v := 1) hx hb dX11_change_154 (by decide) ?_
              refine lv_icmp_ne (tgt := 165) hx hb dX11_change_155 (by decide) (fun c17 => ?_) (fun c17 => ?_)
              · skip
                have zc17 : ¬ (p1.toInt = 1) := by rw [fa_eq, show (1 : Int32).toInt = 1 from by decide] at c17; exact c17
                refine lv_iload_n hx hb dX11_change_165 rfl (lv_at hl 2 rfl) ?_
                exact ret l2_11 (v11, f11, w11, g11) _ _ _ _ _ _ rfl ⟨ha0_f11, hIv11, hCf11, hRf11, hq0_v11, hq1_v11, hq2_v11, hq3_v11, hq4_v11, hq5_v11, hq8_v11, hq9_v11, hq10_v11, hq13_v11, hq14_v11, hq15_v11, hq17_v11, hq18_v11, hq24_v11, hq25_v11, hq35_v11, hq36_v11, hq38_v11, hq39_v11⟩ hP hD hS dX11_change_166 (Nat.le_refl _) (Nat.le_refl _)
              · skip
                have zc17 : p1.toInt = 1 := by rw [fa_eq, show (1 : Int32).toInt = 1 from by decide] at c17; exact c17
                refine lv_iload_n hx hb dX11_change_158 rfl (lv_at hl 1 rfl) ?_
                refine lv_bipush (v := 6) hx hb dX11_change_159 (by decide) ?_
                refine lv_irem hx hb dX11_change_161 (by decide) ?_
                refine lv_topi (fun t18 et18 => ?_)
                have zt18 : 0 ≤ t18.toInt ∧ t18.toInt < 6 := by rw [et18]; exact rem_rng (zx := l3_11.toInt) (zy := 6) rfl (by decide) (by omega) (by omega)
                refine lv_goto (tgt := 166) hx hb dX11_change_162 (by decide) ?_
                exact ret t18 (v11, f11, w11, g11) _ _ _ _ _ _ rfl ⟨ha0_f11, hIv11, hCf11, hRf11, hq0_v11, hq1_v11, hq2_v11, hq3_v11, hq4_v11, hq5_v11, hq8_v11, hq9_v11, hq10_v11, hq13_v11, hq14_v11, hq15_v11, hq17_v11, hq18_v11, hq24_v11, hq25_v11, hq35_v11, hq36_v11, hq38_v11, hq39_v11⟩ hP hD hS dX11_change_166 (Nat.le_refl _) (Nat.le_refl _)
            · skip
              have zc16 : p1.toInt = 0 := by rw [fa_eq, show (0 : Int32).toInt = 0 from by decide] at c16; exact c16
              refine lv_iload_n hx hb dX11_change_146 rfl (lv_at hl 1 rfl) ?_
              refine lv_bipush (v := 6) hx hb dX11_change_147 (by decide) ?_
              refine lv_idiv hx hb dX11_change_149 (by decide) ?_
              refine lv_topi (fun t19 et19 => ?_)
              have zt19 : 0 ≤ t19.toInt ∧ t19.toInt ≤ l3_11.toInt := by rw [et19]; exact div_rng (zx := l3_11.toInt) (zy := 6) rfl (by decide) (by omega) (by omega)
              refine lv_goto (tgt := 166) hx hb dX11_change_150 (by decide) ?_
              exact ret t19 (v11, f11, w11, g11) _ _ _ _ _ _ rfl ⟨ha0_f11, hIv11, hCf11, hRf11, hq0_v11, hq1_v11, hq2_v11, hq3_v11, hq4_v11, hq5_v11, hq8_v11, hq9_v11, hq10_v11, hq13_v11, hq14_v11, hq15_v11, hq17_v11, hq18_v11, hq24_v11, hq25_v11, hq35_v11, hq36_v11, hq38_v11, hq39_v11⟩ hP hD hS dX11_change_166 (Nat.le_refl _) (Nat.le_refl _)
          · skip
            have zc15 : ¬ (0 ≤ l3_11.toInt) := by rw [fa_le, show (0 : Int32).toInt = 0 from by decide] at c15; exact c15
            refine lv_iconst (v := (-1)) hx hb dX11_change_138 (by decide) ?_
            refine lv_goto (tgt := 166) hx hb dX11_change_139 (by decide) ?_
            exact ret (-1) (v11, f11, w11, g11) _ _ _ _ _ _ rfl ⟨ha0_f11, hIv11, hCf11, hRf11, hq0_v11, hq1_v11, hq2_v11, hq3_v11, hq4_v11, hq5_v11, hq8_v11, hq9_v11, hq10_v11, hq13_v11, hq14_v11, hq15_v11, hq17_v11, hq18_v11, hq24_v11, hq25_v11, hq35_v11, hq36_v11, hq38_v11, hq39_v11⟩ hP hD hS dX11_change_166 (Nat.le_refl _) (Nat.le_refl _)
        · skip
          have zc12 : ¬ ((v 24).toInt ≤ l4_11.toInt) := by rw [fa_le] at c12; exact c12
          have rg20 := fb_rng l4_11
          have rg21 := fb_rng (v 24)
          refine lv_iload hx hb dX11_change_33 (lv_at hl 0 rfl) ?_
          refine lv_iconst (v := 1) hx hb dX11_change_35 (by decide) ?_
          refine lv_iadd hx hb dX11_change_36 ?_
          refine lv_topi (fun t22 et22 => ?_)
          have zt22 : t22.toInt = l4_11.toInt + 1 := by rw [et22]; exact add_i rfl (by decide) (by omega) (by omega)
          refine lv_istore (lv' := [(5, .int t22), (4, .int l4_11), (3, .int l3_11), (2, .int l2_11), (0, .ref y0), (1, .int p1)]) hx hb dX11_change_37 hl (by decide) rfl (fun ls hl => ?_)
          have lp23 : ∀ (n23 : Nat) (l2_23 : Int32) (l3_23 : Int32) (l5_23 : Int32) (v23 : Nat → Int32) (f23 : Nat → Nat → Int32) (w23 : Int64) (g23 : Nat → Int64), YI v23 → YC f23 → progOK (f23 4) (f23 5) (v23 9).toInt.toNat → v23 0 = (v 0) → v23 1 = (v 1) → v23 2 = (v 2) → v23 3 = (v 3) → v23 4 = (v 4) → v23 5 = (v 5) → v23 8 = (v 8) → v23 9 = (v 9) → v23 10 = (v 10) → v23 13 = (v 13) → v23 14 = (v 14) → v23 15 = (v 15) → v23 17 = (v 17) → v23 18 = (v 18) → v23 24 = (v 24) → v23 25 = (v 25) → v23 35 = (v 35) → v23 36 = (v 36) → v23 38 = (v 38) → v23 39 = (v 39) → ((1 : Int) ≤ l5_23.toInt ∧ l5_23.toInt ≤ 2147483647) → f23 0 = f 0 → (2147483647 - l5_23.toInt).toNat < n23 → ∀ (H : Heap) (locs : List Loc) (ls : Array Slot), va_P (dC, dI) vwCl (YW cy y0 r v23 f23 w23 g23) H → va_D A (YW cy y0 r v23 f23 w23 g23) → va_S A s.heap H locs → lv_has ls 7 [(5, .int l5_23), (4, .int l4_11), (3, .int l3_23), (2, .int l2_23), (0, .ref y0), (1, .int p1)] → W p l e { frames := 8, cells := 0, slots := 0, locals := 211 } s m ([.ref y0, .int p1] : List Value).toArray below meth c H locs 0 0 Q (F0 m 39 ls []) := by
            intro n23
            induction n23 with
            | zero => intro l2_23 l3_23 l5_23 v23 f23 w23 g23 hIv23 hCf23 hRf23 hq0_v23 hq1_v23 hq2_v23 hq3_v23 hq4_v23 hq5_v23 hq8_v23 hq9_v23 hq10_v23 hq13_v23 hq14_v23 hq15_v23 hq17_v23 hq18_v23 hq24_v23 hq25_v23 hq35_v23 hq36_v23 hq38_v23 hq39_v23 hr5_23 ha0_f23 hm; exact absurd hm (Nat.not_lt_zero _)
            | succ n23 ih23 =>
              intro l2_23 l3_23 l5_23 v23 f23 w23 g23 hIv23 hCf23 hRf23 hq0_v23 hq1_v23 hq2_v23 hq3_v23 hq4_v23 hq5_v23 hq8_v23 hq9_v23 hq10_v23 hq13_v23 hq14_v23 hq15_v23 hq17_v23 hq18_v23 hq24_v23 hq25_v23 hq35_v23 hq36_v23 hq38_v23 hq39_v23 hr5_23 ha0_f23 hm23 H locs ls hP hD hS hl
              have hUv23 : (v23 35).toInt + (v23 36).toInt ≤ 40 := hIv23.2
              have zq3_v23 := congrArg Int32.toInt hq3_v23
              have zq4_v23 := congrArg Int32.toInt hq4_v23
              have zq5_v23 := congrArg Int32.toInt hq5_v23
              have zq9_v23 := congrArg Int32.toInt hq9_v23
              have zq35_v23 := congrArg Int32.toInt hq35_v23
              have zq36_v23 := congrArg Int32.toInt hq36_v23
              refine lv_iload hx hb dX11_change_39 (lv_at hl 0 rfl) ?_
              refine lv_aload_n hx hb dX11_change_41 rfl (lv_at hl 4 rfl) ?_
              refine va_get (D := (dC, dI)) (ci := 11) (v := .int (v23 24)) (C := RX11) (T := TX11) (N := 79) hx hb hts inB_11 hown hE.1 hP 0 rfl rfl 48 (by decide) (hts _ k_1368) (fun _ h9 => h9) rfl dX11_change_42 ?_
              refine tI (y := (v 24)) hq24_v23 ?_
              have b24_v : 0 ≤ (v 24).toInt ∧ (v 24).toInt ≤ 6 := YIb.b hIv.1 24 (by decide)
              refine lv_icmp_ge (tgt := 128) hx hb dX11_change_45 (by decide) (fun c24 => ?_) (fun c24 => ?_)
              · skip
                have zc24 : (v 24).toInt ≤ l5_23.toInt := by rw [fa_le] at c24; exact c24
                have rg25 := fb_rng l5_23
                obtain ⟨t26, et26⟩ : ∃ y : Int32, y = l4_11 + 1 := ⟨_, rfl⟩
                have zt26 : t26.toInt = l4_11.toInt + 1 := by rw [et26]; exact add_i rfl (by decide) (by omega) (by omega)
                refine lv_iinc (v := t26) (lv' := [(4, .int t26), (5, .int l5_23), (3, .int l3_23), (2, .int l2_23), (0, .ref y0), (1, .int p1)]) hx hb dX11_change_128 hl (k := 1) rfl (by rw [et26]; rfl) (by decide) rfl (fun ls hl => ?_)
                refine lv_goto (tgt := 24) hx hb dX11_change_131 (by decide) ?_
                have rg27 := fb_rng t26
                exact ih11 l2_23 l3_23 t26 v23 f23 w23 g23 hIv23 hCf23 hRf23 hq0_v23 hq1_v23 hq2_v23 hq3_v23 hq4_v23 hq5_v23 hq8_v23 hq9_v23 hq10_v23 hq13_v23 hq14_v23 hq15_v23 hq17_v23 hq18_v23 hq24_v23 hq25_v23 hq35_v23 hq36_v23 hq38_v23 hq39_v23 ⟨show (0 : Int) ≤ t26.toInt by omega, show t26.toInt ≤ (2147483647 : Int) by omega⟩ ha0_f23 (by show (2147483647 - t26.toInt).toNat < n11; omega) _ _ _ hP hD hS (lv_sub hl [0, 2, 3, 4, 5] rfl)
              · skip
                have zc24 : ¬ ((v 24).toInt ≤ l5_23.toInt) := by rw [fa_le] at c24; exact c24
                have rg28 := fb_rng l5_23
                refine lv_aload_n hx hb dX11_change_48 rfl (lv_at hl 4 rfl) ?_
                refine cbVv (n := 0) (rest := []) hx hb hml hown hts hE hP hD hS hA (sY_X11_fill_1 l dC dI cy y0 r  v23 f23 w23 g23 hIv23 hCf23 hRf23 ) k_1739 k_1741 k_71 k_114 k_1742 (by decide +kernel) ⟨Nat.le_of_ble_eq_true rfl, Nat.le_of_ble_eq_true rfl⟩ 0 11 rfl rfl (rfl) hl.1 rfl (Nat.le_of_ble_eq_true rfl) dX11_change_49 (fun u H locs hw hP hD hS => ?_)
                obtain ⟨v29, f30, w31, g32⟩ := u
                obtain ⟨ka0_f30, hIv29, hCf30, hRf30, hk0_v29, hk1_v29, hk2_v29, hk3_v29, hk4_v29, hk5_v29, hk8_v29, hk9_v29, hk10_v29, hk13_v29, hk14_v29, hk15_v29, hk17_v29, hk18_v29, hk24_v29, hk25_v29, hk35_v29, hk36_v29, hk38_v29, hk39_v29⟩ := hw
                have ha0_f30 : f30 0 = f 0 := ka0_f30.trans ha0_f23
                have hP : va_P (dC, dI) vwCl (YW cy y0 r v29 f30 w31 g32) H := hP
                have hD : va_D A (YW cy y0 r v29 f30 w31 g32) := hD
                have hUv29 : (v29 35).toInt + (v29 36).toInt ≤ 40 := hIv29.2
                have hq0_v29 : v29 0 = (v 0) := hk0_v29.trans hq0_v23
                have hq1_v29 : v29 1 = (v 1) := hk1_v29.trans hq1_v23
                have hq2_v29 : v29 2 = (v 2) := hk2_v29.trans hq2_v23
                have hq3_v29 : v29 3 = (v 3) := hk3_v29.trans hq3_v23
                have zq3_v29 := congrArg Int32.toInt hq3_v29
                have hq4_v29 : v29 4 = (v 4) := hk4_v29.trans hq4_v23
                have zq4_v29 := congrArg Int32.toInt hq4_v29
                have hq5_v29 : v29 5 = (v 5) := hk5_v29.trans hq5_v23
                have zq5_v29 := congrArg Int32.toInt hq5_v29
                have hq8_v29 : v29 8 = (v 8) := hk8_v29.trans hq8_v23
                have hq9_v29 : v29 9 = (v 9) := hk9_v29.trans hq9_v23
                have zq9_v29 := congrArg Int32.toInt hq9_v29
                have hq10_v29 : v29 10 = (v 10) := hk10_v29.trans hq10_v23
                have hq13_v29 : v29 13 = (v 13) := hk13_v29.trans hq13_v23
                have hq14_v29 : v29 14 = (v 14) := hk14_v29.trans hq14_v23
                have hq15_v29 : v29 15 = (v 15) := hk15_v29.trans hq15_v23
                have hq17_v29 : v29 17 = (v 17) := hk17_v29.trans hq17_v23
                have hq18_v29 : v29 18 = (v 18) := hk18_v29.trans hq18_v23
                have hq24_v29 : v29 24 = (v 24) := hk24_v29.trans hq24_v23
                have hq25_v29 : v29 25 = (v 25) := hk25_v29.trans hq25_v23
                have hq35_v29 : v29 35 = (v 35) := hk35_v29.trans hq35_v23
                have zq35_v29 := congrArg Int32.toInt hq35_v29
                have hq36_v29 : v29 36 = (v 36) := hk36_v29.trans hq36_v23
                have zq36_v29 := congrArg Int32.toInt hq36_v29
                have hq38_v29 : v29 38 = (v 38) := hk38_v29.trans hq38_v23
                have hq39_v29 : v29 39 = (v 39) := hk39_v29.trans hq39_v23
                refine lv_aload_n hx hb dX11_change_52 rfl (lv_at hl 4 rfl) ?_
                refine va_get (D := (dC, dI)) (ci := 11) (v := .ref (r 60)) (C := RX11) (T := TX11) (N := 79) hx hb hts inB_11 hown hE.1 hP 0 rfl rfl 60 (by decide) (hts _ k_1380) (fun _ h9 => h9) rfl dX11_change_53 ?_
                refine lv_bipush (v := 6) hx hb dX11_change_56 (by decide) ?_
                refine lv_iload hx hb dX11_change_58 (lv_at hl 1 rfl) ?_
                refine lv_iadd hx hb dX11_change_60 ?_
                refine lv_topi (fun t33 et33 => ?_)
                have zt33 : t33.toInt = 6 + l4_11.toInt := by rw [et33]; exact add_i (by decide) rfl (by omega) (by omega)
                refine lv_aload_n hx hb dX11_change_61 rfl (lv_at hl 4 rfl) ?_
                refine va_get (D := (dC, dI)) (ci := 11) (v := .ref (r 59)) (C := RX11) (T := TX11) (N := 79) hx hb hts inB_11 hown hE.1 hP 0 rfl rfl 59 (by decide) (hts _ k_1379) (fun _ h9 => h9) rfl dX11_change_62 ?_
                refine lv_bipush (v := 6) hx hb dX11_change_65 (by decide) ?_
                refine lv_iload hx hb dX11_change_67 (lv_at hl 0 rfl) ?_
                refine lv_iadd hx hb dX11_change_69 ?_
                refine lv_topi (fun t34 et34 => ?_)
                have zt34 : t34.toInt = 6 + l5_23.toInt := by rw [et34]; exact add_i (by decide) rfl (by omega) (by omega)
                refine ldI hx hb hE hP 24 rfl (vp_in_iff.mpr ⟨by omega, by omega⟩) rfl rfl dX11_change_70 ?_
                refine lv_topi (fun t35 et35 => ?_)
                have zt35 : t34.toInt.toNat % 39 < 6 ∨ 12 ≤ t34.toInt.toNat % 39 ∨ (-1 ≤ t35.toInt ∧ t35.toInt ≤ 5) := by rw [et35]; exact wear_ld hCf30.1 (show t34.toInt.toNat < 39 by omega)
                refine stI hx hb hE hP hD hS 25 rfl (vp_in_iff.mpr ⟨by omega, by omega⟩) rfl dX11_change_71 (fun H locs hP hD hS => ?_)
                obtain ⟨f36, ef36, hP, hD⟩ : ∃ fz9, fz9 = upd2 f30 24 (upd (f30 24) t33.toNatClampNeg t35) ∧ va_P (dC, dI) vwCl (YW cy y0 r v29 fz9 w31 g32) H ∧ va_D A (YW cy y0 r v29 fz9 w31 g32) := ⟨_, rfl, hP, hD⟩
                have hCf36 : YC f36 := by rw [ef36]; exact ⟨hCf30.1, (wear_st hCf30.2.1 (by show t33.toInt.toNat % 39 < 6 ∨ 12 ≤ t33.toInt.toNat % 39 ∨ (-1 ≤ t35.toInt ∧ t35.toInt ≤ 5); omega)), hCf30.2.2.1, hCf30.2.2.2.1, hCf30.2.2.2.2.1, hCf30.2.2.2.2.2⟩
                have hRf36 : progOK (f36 4) (f36 5) (v29 9).toInt.toNat := by rw [ef36]; exact hRf30
                have ha0_f36 : f36 0 = f 0 := by rw [ef36]; exact ha0_f30
                refine lv_aload_n hx hb dX11_change_72 rfl (lv_at hl 4 rfl) ?_
                refine va_get (D := (dC, dI)) (ci := 11) (v := .ref (r 60)) (C := RX11) (T := TX11) (N := 79) hx hb hts inB_11 hown hE.1 hP 0 rfl rfl 60 (by decide) (hts _ k_1380) (fun _ h9 => h9) rfl dX11_change_73 ?_
                refine lv_bipush (v := 6) hx hb dX11_change_76 (by decide) ?_
                refine lv_iload hx hb dX11_change_78 (lv_at hl 0 rfl) ?_
                refine lv_iadd hx hb dX11_change_80 ?_
                refine tI (y := t34) et34.symm ?_
                refine lv_aload_n hx hb dX11_change_81 rfl (lv_at hl 4 rfl) ?_
                refine va_get (D := (dC, dI)) (ci := 11) (v := .ref (r 59)) (C := RX11) (T := TX11) (N := 79) hx hb hts inB_11 hown hE.1 hP 0 rfl rfl 59 (by decide) (hts _ k_1379) (fun _ h9 => h9) rfl dX11_change_82 ?_
                refine lv_bipush (v := 6) hx hb dX11_change_85 (by decide) ?_
                refine lv_iload hx hb dX11_change_87 (lv_at hl 1 rfl) ?_
                refine lv_iadd hx hb dX11_change_89 ?_
                refine tI (y := t33) et33.symm ?_
                refine ldI hx hb hE hP 24 rfl (vp_in_iff.mpr ⟨by omega, by omega⟩) rfl rfl dX11_change_90 ?_
                refine lv_topi (fun t37 et37 => ?_)
                have zt37 : t33.toInt.toNat % 39 < 6 ∨ 12 ≤ t33.toInt.toNat % 39 ∨ (-1 ≤ t37.toInt ∧ t37.toInt ≤ 5) := by rw [et37]; exact wear_ld hCf36.1 (show t33.toInt.toNat < 39 by omega)
                refine stI hx hb hE hP hD hS 25 rfl (vp_in_iff.mpr ⟨by omega, by omega⟩) rfl dX11_change_91 (fun H locs hP hD hS => ?_)
                obtain ⟨f38, ef38, hP, hD⟩ : ∃ fz9, fz9 = upd2 f36 24 (upd (f36 24) t34.toNatClampNeg t37) ∧ va_P (dC, dI) vwCl (YW cy y0 r v29 fz9 w31 g32) H ∧ va_D A (YW cy y0 r v29 fz9 w31 g32) := ⟨_, rfl, hP, hD⟩
                have hCf38 : YC f38 := by rw [ef38]; exact ⟨hCf36.1, (wear_st hCf36.2.1 (by show t34.toInt.toNat % 39 < 6 ∨ 12 ≤ t34.toInt.toNat % 39 ∨ (-1 ≤ t37.toInt ∧ t37.toInt ≤ 5); omega)), hCf36.2.2.1, hCf36.2.2.2.1, hCf36.2.2.2.2.1, hCf36.2.2.2.2.2⟩
                have hRf38 : progOK (f38 4) (f38 5) (v29 9).toInt.toNat := by rw [ef38]; exact hRf36
                have ha0_f38 : f38 0 = f 0 := by rw [ef38]; exact ha0_f36
                refine lv_aload_n hx hb dX11_change_92 rfl (lv_at hl 4 rfl) ?_
                refine cbVi (n := 0) (rest := []) hx hb hml hown hts hE hP hD hS hA (sY_X11_fittedOnes_1 l dC dI cy y0 r  v29 f38 w31 g32 hIv29 hCf38 hRf38 ) k_1809 k_1811 k_81 k_114 k_1812 (by decide +kernel) ⟨Nat.le_of_ble_eq_true rfl, Nat.le_of_ble_eq_true rfl⟩ 0 11 rfl rfl (rfl) hl.1 rfl (Nat.le_of_ble_eq_true rfl) dX11_change_93 (fun r39 u H locs hw hP hD hS => ?_)
                obtain ⟨v40, f41, w42, g43⟩ := u
                obtain ⟨ka0_f41, hIv40, hCf41, hRf41, hk0_v40, hk1_v40, hk2_v40, hk3_v40, hk4_v40, hk5_v40, hk8_v40, hk9_v40, hk10_v40, hk13_v40, hk14_v40, hk15_v40, hk17_v40, hk18_v40, hk24_v40, hk25_v40, hk35_v40, hk36_v40, hk38_v40, hk39_v40⟩ := hw
                have ha0_f41 : f41 0 = f 0 := ka0_f41.trans ha0_f38
                have hP : va_P (dC, dI) vwCl (YW cy y0 r v40 f41 w42 g43) H := hP
                have hD : va_D A (YW cy y0 r v40 f41 w42 g43) := hD
                have hUv40 : (v40 35).toInt + (v40 36).toInt ≤ 40 := hIv40.2
                have hq0_v40 : v40 0 = (v 0) := hk0_v40.trans hq0_v29
                have hq1_v40 : v40 1 = (v 1) := hk1_v40.trans hq1_v29
                have hq2_v40 : v40 2 = (v 2) := hk2_v40.trans hq2_v29
                have hq3_v40 : v40 3 = (v 3) := hk3_v40.trans hq3_v29
                have zq3_v40 := congrArg Int32.toInt hq3_v40
                have hq4_v40 : v40 4 = (v 4) := hk4_v40.trans hq4_v29
                have zq4_v40 := congrArg Int32.toInt hq4_v40
                have hq5_v40 : v40 5 = (v 5) := hk5_v40.trans hq5_v29
                have zq5_v40 := congrArg Int32.toInt hq5_v40
                have hq8_v40 : v40 8 = (v 8) := hk8_v40.trans hq8_v29
                have hq9_v40 : v40 9 = (v 9) := hk9_v40.trans hq9_v29
                have zq9_v40 := congrArg Int32.toInt hq9_v40
                have hq10_v40 : v40 10 = (v 10) := hk10_v40.trans hq10_v29
                have hq13_v40 : v40 13 = (v 13) := hk13_v40.trans hq13_v29
                have hq14_v40 : v40 14 = (v 14) := hk14_v40.trans hq14_v29
                have hq15_v40 : v40 15 = (v 15) := hk15_v40.trans hq15_v29
                have hq17_v40 : v40 17 = (v 17) := hk17_v40.trans hq17_v29
                have hq18_v40 : v40 18 = (v 18) := hk18_v40.trans hq18_v29
                have hq24_v40 : v40 24 = (v 24) := hk24_v40.trans hq24_v29
                have hq25_v40 : v40 25 = (v 25) := hk25_v40.trans hq25_v29
                have hq35_v40 : v40 35 = (v 35) := hk35_v40.trans hq35_v29
                have zq35_v40 := congrArg Int32.toInt hq35_v40
                have hq36_v40 : v40 36 = (v 36) := hk36_v40.trans hq36_v29
                have zq36_v40 := congrArg Int32.toInt hq36_v40
                have hq38_v40 : v40 38 = (v 38) := hk38_v40.trans hq38_v29
                have hq39_v40 : v40 39 = (v 39) := hk39_v40.trans hq39_v29
                refine cbSi (n := 1) (rest := []) hx hb hml hown hts hE hP hD hS hA (sY_X11_members_1 l dC dI cy y0 r r39 v40 f41 w42 g43 hIv40 hCf41 hRf41 ) k_1900 k_1901 k_114 k_1902 (by decide +kernel) ⟨Nat.le_of_ble_eq_true rfl, Nat.le_of_ble_eq_true rfl⟩ (rfl) hl.1 rfl (Nat.le_of_ble_eq_true rfl) dX11_change_96 (fun r44 u H locs hw hP hD hS => ?_)
                refine lv_istore (lv' := [(6, .int r44), (5, .int l5_23), (4, .int l4_11), (3, .int l3_23), (2, .int l2_23), (0, .ref y0), (1, .int p1)]) hx hb dX11_change_99 hl (by decide) rfl (fun ls hl => ?_)
                refine lv_iload hx hb dX11_change_101 (lv_at hl 0 rfl) ?_
                refine lv_iload_n hx hb dX11_change_103 rfl (lv_at hl 4 rfl) ?_
                refine lv_icmp_gt (tgt := 110) hx hb dX11_change_104 (by decide) (fun c45 => ?_) (fun c45 => ?_)
                · skip
                  have zc45 : l2_23.toInt < r44.toInt := by rw [fa_lt] at c45; exact c45
                  have rg46 := fb_rng r44
                  have rg47 := fb_rng l2_23
                  refine lv_iload hx hb dX11_change_110 (lv_at hl 0 rfl) ?_
                  refine lv_istore_n (lv' := [(2, .int r44), (6, .int r44), (5, .int l5_23), (4, .int l4_11), (3, .int l3_23), (0, .ref y0), (1, .int p1)]) hx hb dX11_change_112 rfl hl (by decide) rfl (fun ls hl => ?_)
                  refine lv_bipush (v := 6) hx hb dX11_change_113 (by decide) ?_
                  refine lv_iload hx hb dX11_change_115 (lv_at hl 3 rfl) ?_
                  refine lv_imul hx hb dX11_change_117 ?_
                  refine lv_topi (fun t48 et48 => ?_)
                  have zt48 : t48.toInt = 6 * l4_11.toInt := by rw [et48]; exact mul_i (by decide) rfl (by omega) (by omega)
                  refine lv_iload hx hb dX11_change_118 (lv_at hl 2 rfl) ?_
                  refine lv_iadd hx hb dX11_change_120 ?_
                  refine lv_topi (fun t49 et49 => ?_)
                  have rg50 := fb_rng t48
                  have zt49 : t49.toInt = t48.toInt + l5_23.toInt := by rw [et49]; exact add_i rfl rfl (by omega) (by omega)
                  refine lv_istore_n (lv' := [(3, .int t49), (2, .int r44), (6, .int r44), (5, .int l5_23), (4, .int l4_11), (0, .ref y0), (1, .int p1)]) hx hb dX11_change_121 rfl hl (by decide) rfl (fun ls hl => ?_)
                  obtain ⟨t51, et51⟩ : ∃ y : Int32, y = l5_23 + 1 := ⟨_, rfl⟩
                  have zt51 : t51.toInt = l5_23.toInt + 1 := by rw [et51]; exact add_i rfl (by decide) (by omega) (by omega)
                  refine lv_iinc (v := t51) (lv' := [(5, .int t51), (3, .int t49), (2, .int r44), (6, .int r44), (4, .int l4_11), (0, .ref y0), (1, .int p1)]) hx hb dX11_change_122 hl (k := 3) rfl (by rw [et51]; rfl) (by decide) rfl (fun ls hl => ?_)
                  refine lv_goto (tgt := 39) hx hb dX11_change_125 (by decide) ?_
                  have rg52 := fb_rng t51
                  exact ih23 r44 t49 t51 v40 f41 w42 g43 hIv40 hCf41 hRf41 hq0_v40 hq1_v40 hq2_v40 hq3_v40 hq4_v40 hq5_v40 hq8_v40 hq9_v40 hq10_v40 hq13_v40 hq14_v40 hq15_v40 hq17_v40 hq18_v40 hq24_v40 hq25_v40 hq35_v40 hq36_v40 hq38_v40 hq39_v40 ⟨show (1 : Int) ≤ t51.toInt by omega, show t51.toInt ≤ (2147483647 : Int) by omega⟩ ha0_f41 (by show (2147483647 - t51.toInt).toNat < n23; omega) _ _ _ hP hD hS (lv_sub hl [0, 4, 1, 2, 5, 6] rfl)
                · skip
                  have zc45 : ¬ (l2_23.toInt < r44.toInt) := by rw [fa_lt] at c45; exact c45
                  have rg53 := fb_rng r44
                  have rg54 := fb_rng l2_23
                  refine lv_goto (tgt := 122) hx hb dX11_change_107 (by decide) ?_
                  obtain ⟨t55, et55⟩ : ∃ y : Int32, y = l5_23 + 1 := ⟨_, rfl⟩
                  have zt55 : t55.toInt = l5_23.toInt + 1 := by rw [et55]; exact add_i rfl (by decide) (by omega) (by omega)
                  refine lv_iinc (v := t55) (lv' := [(5, .int t55), (6, .int r44), (4, .int l4_11), (3, .int l3_23), (2, .int l2_23), (0, .ref y0), (1, .int p1)]) hx hb dX11_change_122 hl (k := 1) rfl (by rw [et55]; rfl) (by decide) rfl (fun ls hl => ?_)
                  refine lv_goto (tgt := 39) hx hb dX11_change_125 (by decide) ?_
                  have rg56 := fb_rng t55
                  exact ih23 l2_23 l3_23 t55 v40 f41 w42 g43 hIv40 hCf41 hRf41 hq0_v40 hq1_v40 hq2_v40 hq3_v40 hq4_v40 hq5_v40 hq8_v40 hq9_v40 hq10_v40 hq13_v40 hq14_v40 hq15_v40 hq17_v40 hq18_v40 hq24_v40 hq25_v40 hq35_v40 hq36_v40 hq38_v40 hq39_v40 ⟨show (1 : Int) ≤ t55.toInt by omega, show t55.toInt ≤ (2147483647 : Int) by omega⟩ ha0_f41 (by show (2147483647 - t55.toInt).toNat < n23; omega) _ _ _ hP hD hS (lv_sub hl [0, 2, 3, 4, 5, 6] rfl)
          have rg57 := fb_rng t22
          exact lp23 _ l2_11 l3_11 t22 v11 f11 w11 g11 hIv11 hCf11 hRf11 hq0_v11 hq1_v11 hq2_v11 hq3_v11 hq4_v11 hq5_v11 hq8_v11 hq9_v11 hq10_v11 hq13_v11 hq14_v11 hq15_v11 hq17_v11 hq18_v11 hq24_v11 hq25_v11 hq35_v11 hq36_v11 hq38_v11 hq39_v11 ⟨show (1 : Int) ≤ t22.toInt by omega, show t22.toInt ≤ (2147483647 : Int) by omega⟩ ha0_f11 (Nat.lt_succ_self _) _ _ _ hP hD hS (lv_sub hl [0, 1, 2, 3, 4, 5] rfl)
    exact lp11 _ r10 (-1) 0 v6 f7 w8 g9 hIv6 hCf7 hRf7 hq0_v6 hq1_v6 hq2_v6 hq3_v6 hq4_v6 hq5_v6 hq8_v6 hq9_v6 hq10_v6 hq13_v6 hq14_v6 hq15_v6 hq17_v6 hq18_v6 hq24_v6 hq25_v6 hq35_v6 hq36_v6 hq38_v6 hq39_v6 ⟨by decide, by decide⟩ ha0_f7 (Nat.lt_succ_self _) _ _ _ hP hD hS (lv_sub hl [0, 1, 2, 3, 4] rfl)
  · skip
    subst g4
    refine lv_if_ne (tgt := 11) hx hb dX11_change_6 (by decide) (fun c0 => absurd (by decide) c0) (fun _ => ?_)
    refine lv_iconst (v := (-1)) hx hb dX11_change_9 (by decide) ?_
    exact ret (-1) (v, f, w, g) _ _ _ _ _ _ rfl ⟨ha0_f, hIv, hCf, hRf, rfl, rfl, rfl, rfl, rfl, rfl, rfl, rfl, rfl, rfl, rfl, rfl, rfl, rfl, rfl, rfl, rfl, rfl, rfl, rfl⟩ hP hD hS dX11_change_10 (Nat.le_refl _) (Nat.le_refl _)
set_option maxHeartbeats 4000000 in
set_option maxRecDepth 100000 in
theorem sY_X11_wideOf_1 (l : Launch) (dC : Nat → ClassId) (dI : Nat → Nat → Nat) (cy : Nat → ClassId) (y0 : Nat) (r : Nat → Nat) (p1 : Int32) (v : Nat → Int32) (f : Nat → Nat → Int32) (w : Int64) (g : Nat → Int64) (hIv : YI v) (hCf : YC f) (hRf : progOK (f 4) (f 5) (v 9).toInt.toNat)  : ctI l (dC, dI) cy yX11_wideOf cX11_wideOf 4 .int 1 60 0 0 Unit [.ref y0, .int p1] (YW cy y0 r v f w g) (fun r u => True) (fun u => YW cy y0 r v f w g) := by
  refine ctI_of (by decide) (Nat.le_of_ble_eq_true rfl) (fun p e s m below meth c A ls Q hx hb hml hts hown hE hP hD hA hl ret => ?_)
  have hUv : (v 35).toInt + (v 36).toInt ≤ 40 := hIv.2
  have hown : s.vm.findClass RX11 = some m.cls := hown
  have hS : va_S A s.heap s.heap [] := va_S.rf
  have hl : lv_has ls 4 [(0, .ref y0), (1, .int p1)] := hl
  refine lv_iconst (v := 0) hx hb dX11_wideOf_0 (by decide) ?_
  refine lv_istore_n (lv' := [(2, .int 0), (0, .ref y0), (1, .int p1)]) hx hb dX11_wideOf_1 rfl hl (by decide) rfl (fun ls hl => ?_)
  refine lv_iconst (v := 0) hx hb dX11_wideOf_2 (by decide) ?_
  refine lv_istore_n (lv' := [(3, .int 0), (2, .int 0), (0, .ref y0), (1, .int p1)]) hx hb dX11_wideOf_3 rfl hl (by decide) rfl (fun ls hl => ?_)
  have lp1 : ∀ (n1 : Nat) (l2_1 : Int32) (l3_1 : Int32), ((0 : Int) ≤ l3_1.toInt ∧ l3_1.toInt ≤ 2147483647) → (2147483647 - l3_1.toInt).toNat < n1 → ∀ (H : Heap) (locs : List Loc) (ls : Array Slot), va_P (dC, dI) vwCl (YW cy y0 r v f w g) H → va_D A (YW cy y0 r v f w g) → va_S A s.heap H locs → lv_has ls 4 [(3, .int l3_1), (2, .int l2_1), (0, .ref y0), (1, .int p1)] → W p l e { frames := 1, cells := 0, slots := 0, locals := 60 } s m ([.ref y0, .int p1] : List Value).toArray below meth c H locs 0 0 Q (F0 m 4 ls []) := by
    intro n1
    induction n1 with
    | zero => intro l2_1 l3_1 hr3_1 hm; exact absurd hm (Nat.not_lt_zero _)
    | succ n1 ih1 =>
      intro l2_1 l3_1 hr3_1 hm1 H locs ls hP hD hS hl
      refine lv_iload_n hx hb dX11_wideOf_4 rfl (lv_at hl 0 rfl) ?_
      refine lv_aload_n hx hb dX11_wideOf_5 rfl (lv_at hl 2 rfl) ?_
      refine va_get (D := (dC, dI)) (ci := 11) (v := .int (v 24)) (C := RX11) (T := TX11) (N := 79) hx hb hts inB_11 hown hE.1 hP 0 rfl rfl 48 (by decide) (hts _ k_1368) (fun _ h9 => h9) rfl dX11_wideOf_6 ?_
      have b24_v : 0 ≤ (v 24).toInt ∧ (v 24).toInt ≤ 6 := YIb.b hIv.1 24 (by decide)
      refine lv_icmp_ge (tgt := 51) hx hb dX11_wideOf_9 (by decide) (fun c2 => ?_) (fun c2 => ?_)
      · skip
        have zc2 : (v 24).toInt ≤ l3_1.toInt := by rw [fa_le] at c2; exact c2
        have rg3 := fb_rng l3_1
        have rg4 := fb_rng (v 24)
        refine lv_iload_n hx hb dX11_wideOf_51 rfl (lv_at hl 1 rfl) ?_
        exact ret l2_1 () _ _ _ _ _ _ rfl trivial hP hD hS dX11_wideOf_52 (Nat.le_refl _) (Nat.le_refl _)
      · skip
        have zc2 : ¬ ((v 24).toInt ≤ l3_1.toInt) := by rw [fa_le] at c2; exact c2
        have rg5 := fb_rng l3_1
        have rg6 := fb_rng (v 24)
        refine lv_iload_n hx hb dX11_wideOf_12 rfl (lv_at hl 1 rfl) ?_
        refine lv_iload_n hx hb dX11_wideOf_13 rfl (lv_at hl 3 rfl) ?_
        refine lv_iload_n hx hb dX11_wideOf_14 rfl (lv_at hl 0 rfl) ?_
        refine lv_ishr hx hb dX11_wideOf_15 ?_
        refine lv_topi (fun t7 et7 => ?_)
        refine lv_iconst (v := 1) hx hb dX11_wideOf_16 (by decide) ?_
        refine lv_iand hx hb dX11_wideOf_17 ?_
        refine lv_topi (fun t8 et8 => ?_)
        have zt8 : 0 ≤ t8.toInt ∧ t8.toInt < 2 := by rw [et8]; exact and_rng _ (k := 1) (by decide) (by decide)
        refine lv_iconst (v := 1) hx hb dX11_wideOf_18 (by decide) ?_
        refine lv_icmp_ne (tgt := 42) hx hb dX11_wideOf_19 (by decide) (fun c9 => ?_) (fun c9 => ?_)
        · skip
          have zc9 : ¬ (t8.toInt = 1) := by rw [fa_eq, show (1 : Int32).toInt = 1 from by decide] at c9; exact c9
          refine lv_iconst (v := 0) hx hb dX11_wideOf_42 (by decide) ?_
          refine lv_iadd hx hb dX11_wideOf_43 ?_
          refine lv_topi (fun t10 et10 => ?_)
          have rg11 := fb_rng l2_1
          have zt10 : t10.toInt = l2_1.toInt + 0 := by rw [et10]; exact add_i rfl (by decide) (by omega) (by omega)
          refine lv_istore_n (lv' := [(2, .int t10), (3, .int l3_1), (0, .ref y0), (1, .int p1)]) hx hb dX11_wideOf_44 rfl hl (by decide) rfl (fun ls hl => ?_)
          obtain ⟨t12, et12⟩ : ∃ y : Int32, y = l3_1 + 1 := ⟨_, rfl⟩
          have zt12 : t12.toInt = l3_1.toInt + 1 := by rw [et12]; exact add_i rfl (by decide) (by omega) (by omega)
          refine lv_iinc (v := t12) (lv' := [(3, .int t12), (2, .int t10), (0, .ref y0), (1, .int p1)]) hx hb dX11_wideOf_45 hl (k := 1) rfl (by rw [et12]; rfl) (by decide) rfl (fun ls hl => ?_)
          refine lv_goto (tgt := 4) hx hb dX11_wideOf_48 (by decide) ?_
          have rg13 := fb_rng t12
          exact ih1 t10 t12 ⟨show (0 : Int) ≤ t12.toInt by omega, show t12.toInt ≤ (2147483647 : Int) by omega⟩ (by show (2147483647 - t12.toInt).toNat < n1; omega) _ _ _ hP hD hS (lv_sub hl [0, 1, 2, 3] rfl)
        · skip
          have zc9 : t8.toInt = 1 := by rw [fa_eq, show (1 : Int32).toInt = 1 from by decide] at c9; exact c9
          refine lv_aload_n hx hb dX11_wideOf_22 rfl (lv_at hl 2 rfl) ?_
          refine va_get (D := (dC, dI)) (ci := 11) (v := .ref (r 60)) (C := RX11) (T := TX11) (N := 79) hx hb hts inB_11 hown hE.1 hP 0 rfl rfl 60 (by decide) (hts _ k_1380) (fun _ h9 => h9) rfl dX11_wideOf_23 ?_
          refine lv_bipush (v := 18) hx hb dX11_wideOf_26 (by decide) ?_
          refine lv_aload_n hx hb dX11_wideOf_28 rfl (lv_at hl 2 rfl) ?_
          refine va_get (D := (dC, dI)) (ci := 11) (v := .ref (r 60)) (C := RX11) (T := TX11) (N := 79) hx hb hts inB_11 hown hE.1 hP 0 rfl rfl 60 (by decide) (hts _ k_1380) (fun _ h9 => h9) rfl dX11_wideOf_29 ?_
          refine lv_bipush (v := 6) hx hb dX11_wideOf_32 (by decide) ?_
          refine lv_iload_n hx hb dX11_wideOf_34 rfl (lv_at hl 0 rfl) ?_
          refine lv_iadd hx hb dX11_wideOf_35 ?_
          refine lv_topi (fun t14 et14 => ?_)
          have zt14 : t14.toInt = 6 + l3_1.toInt := by rw [et14]; exact add_i (by decide) rfl (by omega) (by omega)
          refine ldI hx hb hE hP 25 rfl (vp_in_iff.mpr ⟨by omega, by omega⟩) rfl rfl dX11_wideOf_36 ?_
          refine lv_topi (fun t15 et15 => ?_)
          have zt15 : t14.toInt.toNat % 39 < 6 ∨ 12 ≤ t14.toInt.toNat % 39 ∨ (-1 ≤ t15.toInt ∧ t15.toInt ≤ 5) := by rw [et15]; exact wear_ld hCf.2.1 (show t14.toInt.toNat < 39 by omega)
          refine lv_iadd hx hb dX11_wideOf_37 ?_
          refine lv_topi (fun t16 et16 => ?_)
          have rg17 := fb_rng t15
          have zt16 : t16.toInt = 18 + t15.toInt := by rw [et16]; exact add_i (by decide) rfl (by omega) (by omega)
          refine ldI hx hb hE hP 25 rfl (vp_in_iff.mpr ⟨by omega, by omega⟩) rfl rfl dX11_wideOf_38 ?_
          refine lv_topi (fun t18 et18 => ?_)
          have zt18 : t16.toInt.toNat % 39 < 6 ∨ 12 ≤ t16.toInt.toNat % 39 ∨ (-1 ≤ t18.toInt ∧ t18.toInt ≤ 5) := by rw [et18]; exact wear_ld hCf.2.1 (show t16.toInt.toNat < 39 by omega)
          refine lv_goto (tgt := 43) hx hb dX11_wideOf_39 (by decide) ?_
          refine lv_iadd hx hb dX11_wideOf_43 ?_
          refine lv_topi (fun t19 et19 => ?_)
          refine lv_istore_n (lv' := [(2, .int t19), (3, .int l3_1), (0, .ref y0), (1, .int p1)]) hx hb dX11_wideOf_44 rfl hl (by decide) rfl (fun ls hl => ?_)
          obtain ⟨t20, et20⟩ : ∃ y : Int32, y = l3_1 + 1 := ⟨_, rfl⟩
          have zt20 : t20.toInt = l3_1.toInt + 1 := by rw [et20]; exact add_i rfl (by decide) (by omega) (by omega)
          refine lv_iinc (v := t20) (lv' := [(3, .int t20), (2, .int t19), (0, .ref y0), (1, .int p1)]) hx hb dX11_wideOf_45 hl (k := 1) rfl (by rw [et20]; rfl) (by decide) rfl (fun ls hl => ?_)
          refine lv_goto (tgt := 4) hx hb dX11_wideOf_48 (by decide) ?_
          have rg21 := fb_rng t20
          exact ih1 t19 t20 ⟨show (0 : Int) ≤ t20.toInt by omega, show t20.toInt ≤ (2147483647 : Int) by omega⟩ (by show (2147483647 - t20.toInt).toNat < n1; omega) _ _ _ hP hD hS (lv_sub hl [0, 1, 2, 3] rfl)
  exact lp1 _ 0 0 ⟨by decide, by decide⟩ (Nat.lt_succ_self _) _ _ _ hP hD hS (lv_sub hl [0, 1, 2, 3] rfl)
set_option maxHeartbeats 4000000 in
set_option maxRecDepth 100000 in
theorem sY_X11_front_1 (l : Launch) (dC : Nat → ClassId) (dI : Nat → Nat → Nat) (cy : Nat → ClassId) (y0 : Nat) (r : Nat → Nat) (p1 : Int32) (p2 : Int32) (v : Nat → Int32) (f : Nat → Nat → Int32) (w : Int64) (g : Nat → Int64) (hIv : YI v) (hCf : YC f) (hRf : progOK (f 4) (f 5) (v 9).toInt.toNat)  : ctI l (dC, dI) cy yX11_front cX11_front 6 .int 3 102 0 0 ((Nat → Int32) × (Nat → Nat → Int32) × (Int64) × (Nat → Int64)) [.ref y0, .int p1, .int p2] (YW cy y0 r v f w g) (fun r u => u.2.1 0 = f 0 ∧ YI u.1 ∧ YC u.2.1 ∧ progOK (u.2.1 4) (u.2.1 5) (u.1 9).toInt.toNat ∧ u.1 0 = v 0 ∧ u.1 1 = v 1 ∧ u.1 2 = v 2 ∧ u.1 3 = v 3 ∧ u.1 4 = v 4 ∧ u.1 5 = v 5 ∧ u.1 8 = v 8 ∧ u.1 9 = v 9 ∧ u.1 10 = v 10 ∧ u.1 13 = v 13 ∧ u.1 14 = v 14 ∧ u.1 15 = v 15 ∧ u.1 17 = v 17 ∧ u.1 18 = v 18 ∧ u.1 24 = v 24 ∧ u.1 25 = v 25 ∧ u.1 35 = v 35 ∧ u.1 36 = v 36 ∧ u.1 38 = v 38 ∧ u.1 39 = v 39) (fun u => YW cy y0 r u.1 u.2.1 u.2.2.1 u.2.2.2) := by
  refine ctI_of (by decide) (Nat.le_of_ble_eq_true rfl) (fun p e s m below meth c A ls Q hx hb hml hts hown hE hP hD hA hl ret => ?_)
  have hUv : (v 35).toInt + (v 36).toInt ≤ 40 := hIv.2
  have ha0_f : f 0 = f 0 := rfl
  have hown : s.vm.findClass RX11 = some m.cls := hown
  have hS : va_S A s.heap s.heap [] := va_S.rf
  have hl : lv_has ls 6 [(0, .ref y0), (1, .int p1), (2, .int p2)] := hl
  refine lv_iload_n hx hb dX11_front_0 rfl (lv_at hl 1 rfl) ?_
  refine lv_iconst (v := 0) hx hb dX11_front_1 (by decide) ?_
  refine lv_sipush (v := 999) hx hb dX11_front_2 (by decide) ?_
  have lt1 : (0 : Int32).toInt = 0 := by decide
  have lt2 : (999 : Int32).toInt = 999 := by decide
  refine cbSi (n := 3) (rest := []) hx hb hml hown hts hE hP hD hS hA (sY_X11_isIn_1 l dC dI cy y0 r p1 0 999 v f w g hIv hCf hRf ) k_1736 k_1737 k_114 k_1738 (by decide +kernel) ⟨Nat.le_of_ble_eq_true rfl, Nat.le_of_ble_eq_true rfl⟩ (rfl) hl.1 rfl (Nat.le_of_ble_eq_true rfl) dX11_front_5 (fun r3 u H locs hw hP hD hS => ?_)
  rcases hw with ⟨g4, g4_0, g4_1⟩ | ⟨g4⟩
  · skip
    subst g4
    refine lv_if_eq (tgt := 20) hx hb dX11_front_8 (by decide) (fun c0 => absurd c0 (by decide)) (fun _ => ?_)
    refine lv_iload_n hx hb dX11_front_11 rfl (lv_at hl 2 rfl) ?_
    refine lv_iconst (v := 0) hx hb dX11_front_12 (by decide) ?_
    refine lv_iconst (v := 1) hx hb dX11_front_13 (by decide) ?_
    have lt5 : (1 : Int32).toInt = 1 := by decide
    refine cbSi (n := 3) (rest := []) hx hb hml hown hts hE hP hD hS hA (sY_X11_isIn_1 l dC dI cy y0 r p2 0 1 v f w g hIv hCf hRf ) k_1736 k_1737 k_114 k_1738 (by decide +kernel) ⟨Nat.le_of_ble_eq_true rfl, Nat.le_of_ble_eq_true rfl⟩ (rfl) hl.1 rfl (Nat.le_of_ble_eq_true rfl) dX11_front_14 (fun r6 u H locs hw hP hD hS => ?_)
    rcases hw with ⟨g7, g7_0, g7_1⟩ | ⟨g7⟩
    · skip
      subst g7
      refine lv_if_ne (tgt := 22) hx hb dX11_front_17 (by decide) (fun _ => ?_) (fun c0 => absurd c0 (by decide))
      refine lv_aload_n hx hb dX11_front_22 rfl (lv_at hl 0 rfl) ?_
      refine cbVv (n := 0) (rest := []) hx hb hml hown hts hE hP hD hS hA (sY_X11_fill_1 l dC dI cy y0 r  v f w g hIv hCf hRf ) k_1739 k_1741 k_71 k_114 k_1742 (by decide +kernel) ⟨Nat.le_of_ble_eq_true rfl, Nat.le_of_ble_eq_true rfl⟩ 0 11 rfl rfl (rfl) hl.1 rfl (Nat.le_of_ble_eq_true rfl) dX11_front_23 (fun u H locs hw hP hD hS => ?_)
      obtain ⟨v8, f9, w10, g11⟩ := u
      obtain ⟨ka0_f9, hIv8, hCf9, hRf9, hk0_v8, hk1_v8, hk2_v8, hk3_v8, hk4_v8, hk5_v8, hk8_v8, hk9_v8, hk10_v8, hk13_v8, hk14_v8, hk15_v8, hk17_v8, hk18_v8, hk24_v8, hk25_v8, hk35_v8, hk36_v8, hk38_v8, hk39_v8⟩ := hw
      have ha0_f9 : f9 0 = f 0 := ka0_f9.trans ha0_f
      have hP : va_P (dC, dI) vwCl (YW cy y0 r v8 f9 w10 g11) H := hP
      have hD : va_D A (YW cy y0 r v8 f9 w10 g11) := hD
      have hUv8 : (v8 35).toInt + (v8 36).toInt ≤ 40 := hIv8.2
      have hq0_v8 : v8 0 = (v 0) := hk0_v8
      have hq1_v8 : v8 1 = (v 1) := hk1_v8
      have hq2_v8 : v8 2 = (v 2) := hk2_v8
      have hq3_v8 : v8 3 = (v 3) := hk3_v8
      have zq3_v8 := congrArg Int32.toInt hq3_v8
      have hq4_v8 : v8 4 = (v 4) := hk4_v8
      have zq4_v8 := congrArg Int32.toInt hq4_v8
      have hq5_v8 : v8 5 = (v 5) := hk5_v8
      have zq5_v8 := congrArg Int32.toInt hq5_v8
      have hq8_v8 : v8 8 = (v 8) := hk8_v8
      have hq9_v8 : v8 9 = (v 9) := hk9_v8
      have zq9_v8 := congrArg Int32.toInt hq9_v8
      have hq10_v8 : v8 10 = (v 10) := hk10_v8
      have hq13_v8 : v8 13 = (v 13) := hk13_v8
      have hq14_v8 : v8 14 = (v 14) := hk14_v8
      have hq15_v8 : v8 15 = (v 15) := hk15_v8
      have hq17_v8 : v8 17 = (v 17) := hk17_v8
      have hq18_v8 : v8 18 = (v 18) := hk18_v8
      have hq24_v8 : v8 24 = (v 24) := hk24_v8
      have hq25_v8 : v8 25 = (v 25) := hk25_v8
      have hq35_v8 : v8 35 = (v 35) := hk35_v8
      have zq35_v8 := congrArg Int32.toInt hq35_v8
      have hq36_v8 : v8 36 = (v 36) := hk36_v8
      have zq36_v8 := congrArg Int32.toInt hq36_v8
      have hq38_v8 : v8 38 = (v 38) := hk38_v8
      have hq39_v8 : v8 39 = (v 39) := hk39_v8
      refine lv_aload_n hx hb dX11_front_26 rfl (lv_at hl 0 rfl) ?_
      refine cbVi (n := 0) (rest := []) hx hb hml hown hts hE hP hD hS hA (sY_X11_wearers_1 l dC dI cy y0 r  v8 f9 w10 g11 hIv8 hCf9 hRf9 ) k_1805 k_1807 k_80 k_114 k_1808 (by decide +kernel) ⟨Nat.le_of_ble_eq_true rfl, Nat.le_of_ble_eq_true rfl⟩ 0 11 rfl rfl (rfl) hl.1 rfl (Nat.le_of_ble_eq_true rfl) dX11_front_27 (fun r12 u H locs hw hP hD hS => ?_)
      refine lv_istore_n (lv' := [(3, .int r12), (0, .ref y0), (1, .int p1), (2, .int p2)]) hx hb dX11_front_30 rfl hl (by decide) rfl (fun ls hl => ?_)
      refine lv_iconst (v := (-1)) hx hb dX11_front_31 (by decide) ?_
      refine lv_istore (lv' := [(4, .int (-1)), (3, .int r12), (0, .ref y0), (1, .int p1), (2, .int p2)]) hx hb dX11_front_32 hl (by decide) rfl (fun ls hl => ?_)
      refine lv_iconst (v := 0) hx hb dX11_front_34 (by decide) ?_
      refine lv_istore (lv' := [(5, .int 0), (4, .int (-1)), (3, .int r12), (0, .ref y0), (1, .int p1), (2, .int p2)]) hx hb dX11_front_35 hl (by decide) rfl (fun ls hl => ?_)
      have lp13 : ∀ (n13 : Nat) (l4_13 : Int32) (l5_13 : Int32), ((0 : Int) ≤ l5_13.toInt ∧ l5_13.toInt ≤ 2147483647) → (2147483647 - l5_13.toInt).toNat < n13 → ∀ (H : Heap) (locs : List Loc) (ls : Array Slot), va_P (dC, dI) vwCl (YW cy y0 r v8 f9 w10 g11) H → va_D A (YW cy y0 r v8 f9 w10 g11) → va_S A s.heap H locs → lv_has ls 6 [(5, .int l5_13), (4, .int l4_13), (3, .int r12), (0, .ref y0), (1, .int p1), (2, .int p2)] → W p l e { frames := 3, cells := 0, slots := 0, locals := 102 } s m ([.ref y0, .int p1, .int p2] : List Value).toArray below meth c H locs 0 0 Q (F0 m 37 ls []) := by
        intro n13
        induction n13 with
        | zero => intro l4_13 l5_13 hr5_13 hm; exact absurd hm (Nat.not_lt_zero _)
        | succ n13 ih13 =>
          intro l4_13 l5_13 hr5_13 hm13 H locs ls hP hD hS hl
          refine lv_iload hx hb dX11_front_37 (lv_at hl 0 rfl) ?_
          refine lv_iload_n hx hb dX11_front_39 rfl (lv_at hl 2 rfl) ?_
          refine lv_icmp_gt (tgt := 90) hx hb dX11_front_40 (by decide) (fun c14 => ?_) (fun c14 => ?_)
          · skip
            have zc14 : r12.toInt < l5_13.toInt := by rw [fa_lt] at c14; exact c14
            have rg15 := fb_rng l5_13
            have rg16 := fb_rng r12
            refine lv_iload hx hb dX11_front_90 (lv_at hl 1 rfl) ?_
            refine lv_if_ge (tgt := 99) hx hb dX11_front_92 (by decide) (fun c17 => ?_) (fun c17 => ?_)
            · skip
              have zc17 : 0 ≤ l4_13.toInt := by rw [fa_le, show (0 : Int32).toInt = 0 from by decide] at c17; exact c17
              refine lv_iload_n hx hb dX11_front_99 rfl (lv_at hl 5 rfl) ?_
              refine lv_if_ne (tgt := 111) hx hb dX11_front_100 (by decide) (fun c18 => ?_) (fun c18 => ?_)
              · skip
                have zc18 : ¬ (p2.toInt = 0) := by rw [fa_eq, show (0 : Int32).toInt = 0 from by decide] at c18; exact c18
                refine lv_iload hx hb dX11_front_111 (lv_at hl 1 rfl) ?_
                exact ret l4_13 (v8, f9, w10, g11) _ _ _ _ _ _ rfl ⟨ha0_f9, hIv8, hCf9, hRf9, hk0_v8, hk1_v8, hk2_v8, hk3_v8, hk4_v8, hk5_v8, hk8_v8, hk9_v8, hk10_v8, hk13_v8, hk14_v8, hk15_v8, hk17_v8, hk18_v8, hk24_v8, hk25_v8, hk35_v8, hk36_v8, hk38_v8, hk39_v8⟩ hP hD hS dX11_front_113 (Nat.le_refl _) (Nat.le_refl _)
              · skip
                have zc18 : p2.toInt = 0 := by rw [fa_eq, show (0 : Int32).toInt = 0 from by decide] at c18; exact c18
                refine lv_iload hx hb dX11_front_103 (lv_at hl 1 rfl) ?_
                refine cbSi (n := 1) (rest := []) hx hb hml hown hts hE hP hD hS hA (sY_X11_members_1 l dC dI cy y0 r l4_13 v8 f9 w10 g11 hIv8 hCf9 hRf9 ) k_1900 k_1901 k_114 k_1902 (by decide +kernel) ⟨Nat.le_of_ble_eq_true rfl, Nat.le_of_ble_eq_true rfl⟩ (rfl) hl.1 rfl (Nat.le_of_ble_eq_true rfl) dX11_front_105 (fun r19 u H locs hw hP hD hS => ?_)
                refine lv_goto (tgt := 113) hx hb dX11_front_108 (by decide) ?_
                exact ret r19 (v8, f9, w10, g11) _ _ _ _ _ _ rfl ⟨ha0_f9, hIv8, hCf9, hRf9, hk0_v8, hk1_v8, hk2_v8, hk3_v8, hk4_v8, hk5_v8, hk8_v8, hk9_v8, hk10_v8, hk13_v8, hk14_v8, hk15_v8, hk17_v8, hk18_v8, hk24_v8, hk25_v8, hk35_v8, hk36_v8, hk38_v8, hk39_v8⟩ hP hD hS dX11_front_113 (Nat.le_refl _) (Nat.le_refl _)
            · skip
              have zc17 : ¬ (0 ≤ l4_13.toInt) := by rw [fa_le, show (0 : Int32).toInt = 0 from by decide] at c17; exact c17
              refine lv_iconst (v := (-1)) hx hb dX11_front_95 (by decide) ?_
              refine lv_goto (tgt := 113) hx hb dX11_front_96 (by decide) ?_
              exact ret (-1) (v8, f9, w10, g11) _ _ _ _ _ _ rfl ⟨ha0_f9, hIv8, hCf9, hRf9, hk0_v8, hk1_v8, hk2_v8, hk3_v8, hk4_v8, hk5_v8, hk8_v8, hk9_v8, hk10_v8, hk13_v8, hk14_v8, hk15_v8, hk17_v8, hk18_v8, hk24_v8, hk25_v8, hk35_v8, hk36_v8, hk38_v8, hk39_v8⟩ hP hD hS dX11_front_113 (Nat.le_refl _) (Nat.le_refl _)
          · skip
            have zc14 : ¬ (r12.toInt < l5_13.toInt) := by rw [fa_lt] at c14; exact c14
            have rg20 := fb_rng l5_13
            have rg21 := fb_rng r12
            refine lv_iload hx hb dX11_front_43 (lv_at hl 0 rfl) ?_
            refine lv_iload_n hx hb dX11_front_45 rfl (lv_at hl 2 rfl) ?_
            refine lv_iconst (v := (-1)) hx hb dX11_front_46 (by decide) ?_
            refine lv_ixor hx hb dX11_front_47 ?_
            refine lv_topi (fun t22 et22 => ?_)
            refine lv_iand hx hb dX11_front_48 ?_
            refine lv_topi (fun t23 et23 => ?_)
            have zt23 : 0 ≤ t23.toInt ∧ t23.toInt ≤ 63 := by rw [et23]; exact and_left (by omega) (by omega)
            refine lv_if_ne (tgt := 84) hx hb dX11_front_49 (by decide) (fun c24 => ?_) (fun c24 => ?_)
            · skip
              have zc24 : ¬ (t23.toInt = 0) := by rw [fa_eq, show (0 : Int32).toInt = 0 from by decide] at c24; exact c24
              obtain ⟨t25, et25⟩ : ∃ y : Int32, y = l5_13 + 1 := ⟨_, rfl⟩
              have zt25 : t25.toInt = l5_13.toInt + 1 := by rw [et25]; exact add_i rfl (by decide) (by omega) (by omega)
              refine lv_iinc (v := t25) (lv' := [(5, .int t25), (4, .int l4_13), (3, .int r12), (0, .ref y0), (1, .int p1), (2, .int p2)]) hx hb dX11_front_84 hl (k := 0) rfl (by rw [et25]; rfl) (by decide) rfl (fun ls hl => ?_)
              refine lv_goto (tgt := 37) hx hb dX11_front_87 (by decide) ?_
              have rg26 := fb_rng t25
              exact ih13 l4_13 t25 ⟨show (0 : Int) ≤ t25.toInt by omega, show t25.toInt ≤ (2147483647 : Int) by omega⟩ (by show (2147483647 - t25.toInt).toNat < n13; omega) _ _ _ hP hD hS (lv_sub hl [0, 1, 2, 3, 4, 5] rfl)
            · skip
              have zc24 : t23.toInt = 0 := by rw [fa_eq, show (0 : Int32).toInt = 0 from by decide] at c24; exact c24
              refine lv_aload_n hx hb dX11_front_52 rfl (lv_at hl 3 rfl) ?_
              refine lv_iload hx hb dX11_front_53 (lv_at hl 0 rfl) ?_
              refine cbVi (n := 1) (rest := []) hx hb hml hown hts hE hP hD hS hA (sY_X11_wideOf_1 l dC dI cy y0 r l5_13 v8 f9 w10 g11 hIv8 hCf9 hRf9 ) k_1912 k_1914 k_88 k_114 k_1915 (by decide +kernel) ⟨Nat.le_of_ble_eq_true rfl, Nat.le_of_ble_eq_true rfl⟩ 0 11 rfl rfl (rfl) hl.1 rfl (Nat.le_of_ble_eq_true rfl) dX11_front_55 (fun r27 u H locs hw hP hD hS => ?_)
              refine lv_iload_n hx hb dX11_front_58 rfl (lv_at hl 4 rfl) ?_
              refine lv_icmp_lt (tgt := 84) hx hb dX11_front_59 (by decide) (fun c28 => ?_) (fun c28 => ?_)
              · skip
                have zc28 : r27.toInt < p1.toInt := by rw [fa_lt] at c28; exact c28
                have rg29 := fb_rng r27
                have rg30 := fb_rng p1
                obtain ⟨t31, et31⟩ : ∃ y : Int32, y = l5_13 + 1 := ⟨_, rfl⟩
                have zt31 : t31.toInt = l5_13.toInt + 1 := by rw [et31]; exact add_i rfl (by decide) (by omega) (by omega)
                refine lv_iinc (v := t31) (lv' := [(5, .int t31), (4, .int l4_13), (3, .int r12), (0, .ref y0), (1, .int p1), (2, .int p2)]) hx hb dX11_front_84 hl (k := 0) rfl (by rw [et31]; rfl) (by decide) rfl (fun ls hl => ?_)
                refine lv_goto (tgt := 37) hx hb dX11_front_87 (by decide) ?_
                have rg32 := fb_rng t31
                exact ih13 l4_13 t31 ⟨show (0 : Int) ≤ t31.toInt by omega, show t31.toInt ≤ (2147483647 : Int) by omega⟩ (by show (2147483647 - t31.toInt).toNat < n13; omega) _ _ _ hP hD hS (lv_sub hl [0, 1, 2, 3, 4, 5] rfl)
              · skip
                have zc28 : ¬ (r27.toInt < p1.toInt) := by rw [fa_lt] at c28; exact c28
                have rg33 := fb_rng r27
                have rg34 := fb_rng p1
                refine lv_iload hx hb dX11_front_62 (lv_at hl 1 rfl) ?_
                refine lv_if_lt (tgt := 80) hx hb dX11_front_64 (by decide) (fun c35 => ?_) (fun c35 => ?_)
                · skip
                  have zc35 : l4_13.toInt < 0 := by rw [fa_lt, show (0 : Int32).toInt = 0 from by decide] at c35; exact c35
                  refine lv_iload hx hb dX11_front_80 (lv_at hl 0 rfl) ?_
                  refine lv_istore (lv' := [(4, .int l5_13), (5, .int l5_13), (3, .int r12), (0, .ref y0), (1, .int p1), (2, .int p2)]) hx hb dX11_front_82 hl (by decide) rfl (fun ls hl => ?_)
                  obtain ⟨t36, et36⟩ : ∃ y : Int32, y = l5_13 + 1 := ⟨_, rfl⟩
                  have zt36 : t36.toInt = l5_13.toInt + 1 := by rw [et36]; exact add_i rfl (by decide) (by omega) (by omega)
                  refine lv_iinc (v := t36) (lv' := [(5, .int t36), (4, .int l5_13), (3, .int r12), (0, .ref y0), (1, .int p1), (2, .int p2)]) hx hb dX11_front_84 hl (k := 1) rfl (by rw [et36]; rfl) (by decide) rfl (fun ls hl => ?_)
                  refine lv_goto (tgt := 37) hx hb dX11_front_87 (by decide) ?_
                  have rg37 := fb_rng t36
                  exact ih13 l5_13 t36 ⟨show (0 : Int) ≤ t36.toInt by omega, show t36.toInt ≤ (2147483647 : Int) by omega⟩ (by show (2147483647 - t36.toInt).toNat < n13; omega) _ _ _ hP hD hS (lv_sub hl [0, 1, 2, 3, 4, 5] rfl)
                · skip
                  have zc35 : ¬ (l4_13.toInt < 0) := by rw [fa_lt, show (0 : Int32).toInt = 0 from by decide] at c35; exact c35
                  refine lv_iload hx hb dX11_front_67 (lv_at hl 0 rfl) ?_
                  refine cbSi (n := 1) (rest := []) hx hb hml hown hts hE hP hD hS hA (sY_X11_members_1 l dC dI cy y0 r l5_13 v8 f9 w10 g11 hIv8 hCf9 hRf9 ) k_1900 k_1901 k_114 k_1902 (by decide +kernel) ⟨Nat.le_of_ble_eq_true rfl, Nat.le_of_ble_eq_true rfl⟩ (rfl) hl.1 rfl (Nat.le_of_ble_eq_true rfl) dX11_front_69 (fun r38 u H locs hw hP hD hS => ?_)
                  refine lv_iload hx hb dX11_front_72 (lv_at hl 1 rfl) ?_
                  refine cbSi (n := 1) (rest := [.int r38]) hx hb hml hown hts hE hP hD hS hA (sY_X11_members_1 l dC dI cy y0 r l4_13 v8 f9 w10 g11 hIv8 hCf9 hRf9 ) k_1900 k_1901 k_114 k_1902 (by decide +kernel) ⟨Nat.le_of_ble_eq_true rfl, Nat.le_of_ble_eq_true rfl⟩ (rfl) hl.1 rfl (Nat.le_of_ble_eq_true rfl) dX11_front_74 (fun r39 u H locs hw hP hD hS => ?_)
                  refine lv_icmp_ge (tgt := 84) hx hb dX11_front_77 (by decide) (fun c40 => ?_) (fun c40 => ?_)
                  · skip
                    have zc40 : r39.toInt ≤ r38.toInt := by rw [fa_le] at c40; exact c40
                    have rg41 := fb_rng r38
                    have rg42 := fb_rng r39
                    obtain ⟨t43, et43⟩ : ∃ y : Int32, y = l5_13 + 1 := ⟨_, rfl⟩
                    have zt43 : t43.toInt = l5_13.toInt + 1 := by rw [et43]; exact add_i rfl (by decide) (by omega) (by omega)
                    refine lv_iinc (v := t43) (lv' := [(5, .int t43), (4, .int l4_13), (3, .int r12), (0, .ref y0), (1, .int p1), (2, .int p2)]) hx hb dX11_front_84 hl (k := 0) rfl (by rw [et43]; rfl) (by decide) rfl (fun ls hl => ?_)
                    refine lv_goto (tgt := 37) hx hb dX11_front_87 (by decide) ?_
                    have rg44 := fb_rng t43
                    exact ih13 l4_13 t43 ⟨show (0 : Int) ≤ t43.toInt by omega, show t43.toInt ≤ (2147483647 : Int) by omega⟩ (by show (2147483647 - t43.toInt).toNat < n13; omega) _ _ _ hP hD hS (lv_sub hl [0, 1, 2, 3, 4, 5] rfl)
                  · skip
                    have zc40 : ¬ (r39.toInt ≤ r38.toInt) := by rw [fa_le] at c40; exact c40
                    have rg45 := fb_rng r38
                    have rg46 := fb_rng r39
                    refine lv_iload hx hb dX11_front_80 (lv_at hl 0 rfl) ?_
                    refine lv_istore (lv' := [(4, .int l5_13), (5, .int l5_13), (3, .int r12), (0, .ref y0), (1, .int p1), (2, .int p2)]) hx hb dX11_front_82 hl (by decide) rfl (fun ls hl => ?_)
                    obtain ⟨t47, et47⟩ : ∃ y : Int32, y = l5_13 + 1 := ⟨_, rfl⟩
                    have zt47 : t47.toInt = l5_13.toInt + 1 := by rw [et47]; exact add_i rfl (by decide) (by omega) (by omega)
                    refine lv_iinc (v := t47) (lv' := [(5, .int t47), (4, .int l5_13), (3, .int r12), (0, .ref y0), (1, .int p1), (2, .int p2)]) hx hb dX11_front_84 hl (k := 1) rfl (by rw [et47]; rfl) (by decide) rfl (fun ls hl => ?_)
                    refine lv_goto (tgt := 37) hx hb dX11_front_87 (by decide) ?_
                    have rg48 := fb_rng t47
                    exact ih13 l5_13 t47 ⟨show (0 : Int) ≤ t47.toInt by omega, show t47.toInt ≤ (2147483647 : Int) by omega⟩ (by show (2147483647 - t47.toInt).toNat < n13; omega) _ _ _ hP hD hS (lv_sub hl [0, 1, 2, 3, 4, 5] rfl)
      exact lp13 _ (-1) 0 ⟨by decide, by decide⟩ (Nat.lt_succ_self _) _ _ _ hP hD hS (lv_sub hl [0, 1, 2, 3, 4, 5] rfl)
    · skip
      subst g7
      refine lv_if_ne (tgt := 22) hx hb dX11_front_17 (by decide) (fun c0 => absurd (by decide) c0) (fun _ => ?_)
      refine lv_iconst (v := (-1)) hx hb dX11_front_20 (by decide) ?_
      exact ret (-1) (v, f, w, g) _ _ _ _ _ _ rfl ⟨ha0_f, hIv, hCf, hRf, rfl, rfl, rfl, rfl, rfl, rfl, rfl, rfl, rfl, rfl, rfl, rfl, rfl, rfl, rfl, rfl, rfl, rfl, rfl, rfl⟩ hP hD hS dX11_front_21 (Nat.le_refl _) (Nat.le_refl _)
  · skip
    subst g4
    refine lv_if_eq (tgt := 20) hx hb dX11_front_8 (by decide) (fun _ => ?_) (fun c0 => absurd (by decide) c0)
    refine lv_iconst (v := (-1)) hx hb dX11_front_20 (by decide) ?_
    exact ret (-1) (v, f, w, g) _ _ _ _ _ _ rfl ⟨ha0_f, hIv, hCf, hRf, rfl, rfl, rfl, rfl, rfl, rfl, rfl, rfl, rfl, rfl, rfl, rfl, rfl, rfl, rfl, rfl, rfl, rfl, rfl, rfl⟩ hP hD hS dX11_front_21 (Nat.le_refl _) (Nat.le_refl _)
set_option maxHeartbeats 4000000 in
set_option maxRecDepth 100000 in
theorem sY_X11_plain_1 (l : Launch) (dC : Nat → ClassId) (dI : Nat → Nat → Nat) (cy : Nat → ClassId) (y0 : Nat) (r : Nat → Nat) (p0 : Int32) (v : Nat → Int32) (f : Nat → Nat → Int32) (w : Int64) (g : Nat → Int64) (hIv : YI v) (hCf : YC f) (hRf : progOK (f 4) (f 5) (v 9).toInt.toNat)  : ctI l (dC, dI) cy yX11_plain cX11_plain 1 .int 1 60 0 0 Unit [.int p0] (YW cy y0 r v f w g) (fun r u => True) (fun u => YW cy y0 r v f w g) := by
  refine ctI_of (by decide) (Nat.le_of_ble_eq_true rfl) (fun p e s m below meth c A ls Q hx hb hml hts hown hE hP hD hA hl ret => ?_)
  have hUv : (v 35).toInt + (v 36).toInt ≤ 40 := hIv.2
  have hown : s.vm.findClass RX11 = some m.cls := hown
  have hS : va_S A s.heap s.heap [] := va_S.rf
  have hl : lv_has ls 1 [(0, .int p0)] := hl
  refine lv_iload_n hx hb dX11_plain_0 rfl (lv_at hl 0 rfl) ?_
  refine lv_if_ge (tgt := 9) hx hb dX11_plain_1 (by decide) (fun c1 => ?_) (fun c1 => ?_)
  · skip
    have zc1 : 0 ≤ p0.toInt := by rw [fa_le, show (0 : Int32).toInt = 0 from by decide] at c1; exact c1
    refine lv_iload_n hx hb dX11_plain_9 rfl (lv_at hl 0 rfl) ?_
    exact ret p0 () _ _ _ _ _ _ rfl trivial hP hD hS dX11_plain_10 (Nat.le_refl _) (Nat.le_refl _)
  · skip
    have zc1 : ¬ (0 ≤ p0.toInt) := by rw [fa_le, show (0 : Int32).toInt = 0 from by decide] at c1; exact c1
    refine lv_iload_n hx hb dX11_plain_4 rfl (lv_at hl 0 rfl) ?_
    refine lv_ineg hx hb dX11_plain_5 ?_
    refine lv_topi (fun t2 et2 => ?_)
    refine lv_goto (tgt := 10) hx hb dX11_plain_6 (by decide) ?_
    exact ret t2 () _ _ _ _ _ _ rfl trivial hP hD hS dX11_plain_10 (Nat.le_refl _) (Nat.le_refl _)
set_option maxHeartbeats 4000000 in
set_option maxRecDepth 100000 in
theorem sY_X11_wings_1 (l : Launch) (dC : Nat → ClassId) (dI : Nat → Nat → Nat) (cy : Nat → ClassId) (y0 : Nat) (r : Nat → Nat) (p1 : Int32) (v : Nat → Int32) (f : Nat → Nat → Int32) (w : Int64) (g : Nat → Int64) (hIv : YI v) (hCf : YC f) (hRf : progOK (f 4) (f 5) (v 9).toInt.toNat)  : ctI l (dC, dI) cy yX11_wings cX11_wings 8 .int 3 102 0 0 ((Nat → Int32) × (Nat → Nat → Int32) × (Int64) × (Nat → Int64)) [.ref y0, .int p1] (YW cy y0 r v f w g) (fun r u => u.2.1 0 = f 0 ∧ YI u.1 ∧ YC u.2.1 ∧ progOK (u.2.1 4) (u.2.1 5) (u.1 9).toInt.toNat ∧ u.1 0 = v 0 ∧ u.1 1 = v 1 ∧ u.1 2 = v 2 ∧ u.1 3 = v 3 ∧ u.1 4 = v 4 ∧ u.1 5 = v 5 ∧ u.1 8 = v 8 ∧ u.1 9 = v 9 ∧ u.1 10 = v 10 ∧ u.1 13 = v 13 ∧ u.1 14 = v 14 ∧ u.1 15 = v 15 ∧ u.1 17 = v 17 ∧ u.1 18 = v 18 ∧ u.1 24 = v 24 ∧ u.1 25 = v 25 ∧ u.1 35 = v 35 ∧ u.1 36 = v 36 ∧ u.1 38 = v 38 ∧ u.1 39 = v 39) (fun u => YW cy y0 r u.1 u.2.1 u.2.2.1 u.2.2.2) := by
  refine ctI_of (by decide) (Nat.le_of_ble_eq_true rfl) (fun p e s m below meth c A ls Q hx hb hml hts hown hE hP hD hA hl ret => ?_)
  have hUv : (v 35).toInt + (v 36).toInt ≤ 40 := hIv.2
  have ha0_f : f 0 = f 0 := rfl
  have hown : s.vm.findClass RX11 = some m.cls := hown
  have hS : va_S A s.heap s.heap [] := va_S.rf
  have hl : lv_has ls 8 [(0, .ref y0), (1, .int p1)] := hl
  refine lv_iload_n hx hb dX11_wings_0 rfl (lv_at hl 1 rfl) ?_
  refine lv_iconst (v := 0) hx hb dX11_wings_1 (by decide) ?_
  refine lv_iconst (v := 1) hx hb dX11_wings_2 (by decide) ?_
  have lt1 : (0 : Int32).toInt = 0 := by decide
  have lt2 : (1 : Int32).toInt = 1 := by decide
  refine cbSi (n := 3) (rest := []) hx hb hml hown hts hE hP hD hS hA (sY_X11_isIn_1 l dC dI cy y0 r p1 0 1 v f w g hIv hCf hRf ) k_1736 k_1737 k_114 k_1738 (by decide +kernel) ⟨Nat.le_of_ble_eq_true rfl, Nat.le_of_ble_eq_true rfl⟩ (rfl) hl.1 rfl (Nat.le_of_ble_eq_true rfl) dX11_wings_3 (fun r3 u H locs hw hP hD hS => ?_)
  rcases hw with ⟨g4, g4_0, g4_1⟩ | ⟨g4⟩
  · skip
    subst g4
    refine lv_if_ne (tgt := 11) hx hb dX11_wings_6 (by decide) (fun _ => ?_) (fun c0 => absurd c0 (by decide))
    refine lv_aload_n hx hb dX11_wings_11 rfl (lv_at hl 0 rfl) ?_
    refine cbVv (n := 0) (rest := []) hx hb hml hown hts hE hP hD hS hA (sY_X11_fill_1 l dC dI cy y0 r  v f w g hIv hCf hRf ) k_1739 k_1741 k_71 k_114 k_1742 (by decide +kernel) ⟨Nat.le_of_ble_eq_true rfl, Nat.le_of_ble_eq_true rfl⟩ 0 11 rfl rfl (rfl) hl.1 rfl (Nat.le_of_ble_eq_true rfl) dX11_wings_12 (fun u H locs hw hP hD hS => ?_)
    obtain ⟨v5, f6, w7, g8⟩ := u
    obtain ⟨ka0_f6, hIv5, hCf6, hRf6, hk0_v5, hk1_v5, hk2_v5, hk3_v5, hk4_v5, hk5_v5, hk8_v5, hk9_v5, hk10_v5, hk13_v5, hk14_v5, hk15_v5, hk17_v5, hk18_v5, hk24_v5, hk25_v5, hk35_v5, hk36_v5, hk38_v5, hk39_v5⟩ := hw
    have ha0_f6 : f6 0 = f 0 := ka0_f6.trans ha0_f
    have hP : va_P (dC, dI) vwCl (YW cy y0 r v5 f6 w7 g8) H := hP
    have hD : va_D A (YW cy y0 r v5 f6 w7 g8) := hD
    have hUv5 : (v5 35).toInt + (v5 36).toInt ≤ 40 := hIv5.2
    have hq0_v5 : v5 0 = (v 0) := hk0_v5
    have hq1_v5 : v5 1 = (v 1) := hk1_v5
    have hq2_v5 : v5 2 = (v 2) := hk2_v5
    have hq3_v5 : v5 3 = (v 3) := hk3_v5
    have zq3_v5 := congrArg Int32.toInt hq3_v5
    have hq4_v5 : v5 4 = (v 4) := hk4_v5
    have zq4_v5 := congrArg Int32.toInt hq4_v5
    have hq5_v5 : v5 5 = (v 5) := hk5_v5
    have zq5_v5 := congrArg Int32.toInt hq5_v5
    have hq8_v5 : v5 8 = (v 8) := hk8_v5
    have hq9_v5 : v5 9 = (v 9) := hk9_v5
    have zq9_v5 := congrArg Int32.toInt hq9_v5
    have hq10_v5 : v5 10 = (v 10) := hk10_v5
    have hq13_v5 : v5 13 = (v 13) := hk13_v5
    have hq14_v5 : v5 14 = (v 14) := hk14_v5
    have hq15_v5 : v5 15 = (v 15) := hk15_v5
    have hq17_v5 : v5 17 = (v 17) := hk17_v5
    have hq18_v5 : v5 18 = (v 18) := hk18_v5
    have hq24_v5 : v5 24 = (v 24) := hk24_v5
    have hq25_v5 : v5 25 = (v 25) := hk25_v5
    have hq35_v5 : v5 35 = (v 35) := hk35_v5
    have zq35_v5 := congrArg Int32.toInt hq35_v5
    have hq36_v5 : v5 36 = (v 36) := hk36_v5
    have zq36_v5 := congrArg Int32.toInt hq36_v5
    have hq38_v5 : v5 38 = (v 38) := hk38_v5
    have hq39_v5 : v5 39 = (v 39) := hk39_v5
    refine lv_aload_n hx hb dX11_wings_15 rfl (lv_at hl 0 rfl) ?_
    refine cbVi (n := 0) (rest := []) hx hb hml hown hts hE hP hD hS hA (sY_X11_wearers_1 l dC dI cy y0 r  v5 f6 w7 g8 hIv5 hCf6 hRf6 ) k_1805 k_1807 k_80 k_114 k_1808 (by decide +kernel) ⟨Nat.le_of_ble_eq_true rfl, Nat.le_of_ble_eq_true rfl⟩ 0 11 rfl rfl (rfl) hl.1 rfl (Nat.le_of_ble_eq_true rfl) dX11_wings_16 (fun r9 u H locs hw hP hD hS => ?_)
    refine lv_istore_n (lv' := [(2, .int r9), (0, .ref y0), (1, .int p1)]) hx hb dX11_wings_19 rfl hl (by decide) rfl (fun ls hl => ?_)
    refine lv_iconst (v := 0) hx hb dX11_wings_20 (by decide) ?_
    refine lv_istore_n (lv' := [(3, .int 0), (2, .int r9), (0, .ref y0), (1, .int p1)]) hx hb dX11_wings_21 rfl hl (by decide) rfl (fun ls hl => ?_)
    refine lv_iconst (v := 5) hx hb dX11_wings_22 (by decide) ?_
    refine lv_istore (lv' := [(4, .int 5), (3, .int 0), (2, .int r9), (0, .ref y0), (1, .int p1)]) hx hb dX11_wings_23 hl (by decide) rfl (fun ls hl => ?_)
    have lp10 : ∀ (n10 : Nat) (l3_10 : Int32) (l4_10 : Int32), ((-2147483648 : Int) ≤ l4_10.toInt ∧ l4_10.toInt ≤ 5) → (l4_10.toInt + 2147483648).toNat < n10 → ∀ (H : Heap) (locs : List Loc) (ls : Array Slot), va_P (dC, dI) vwCl (YW cy y0 r v5 f6 w7 g8) H → va_D A (YW cy y0 r v5 f6 w7 g8) → va_S A s.heap H locs → lv_has ls 8 [(4, .int l4_10), (3, .int l3_10), (2, .int r9), (0, .ref y0), (1, .int p1)] → W p l e { frames := 3, cells := 0, slots := 0, locals := 102 } s m ([.ref y0, .int p1] : List Value).toArray below meth c H locs 0 0 Q (F0 m 25 ls []) := by
      intro n10
      induction n10 with
      | zero => intro l3_10 l4_10 hr4_10 hm; exact absurd hm (Nat.not_lt_zero _)
      | succ n10 ih10 =>
        intro l3_10 l4_10 hr4_10 hm10 H locs ls hP hD hS hl
        refine lv_iload hx hb dX11_wings_25 (lv_at hl 0 rfl) ?_
        refine lv_if_lt (tgt := 55) hx hb dX11_wings_27 (by decide) (fun c11 => ?_) (fun c11 => ?_)
        · skip
          have zc11 : l4_10.toInt < 0 := by rw [fa_lt, show (0 : Int32).toInt = 0 from by decide] at c11; exact c11
          refine lv_iload_n hx hb dX11_wings_55 rfl (lv_at hl 2 rfl) ?_
          refine lv_istore (lv' := [(4, .int r9), (3, .int l3_10), (2, .int r9), (0, .ref y0), (1, .int p1)]) hx hb dX11_wings_56 hl (by decide) rfl (fun ls hl => ?_)
          refine lv_aload_n hx hb dX11_wings_58 rfl (lv_at hl 3 rfl) ?_
          refine lv_iload_n hx hb dX11_wings_59 rfl (lv_at hl 2 rfl) ?_
          refine cbVi (n := 1) (rest := []) hx hb hml hown hts hE hP hD hS hA (sY_X11_wideOf_1 l dC dI cy y0 r r9 v5 f6 w7 g8 hIv5 hCf6 hRf6 ) k_1912 k_1914 k_88 k_114 k_1915 (by decide +kernel) ⟨Nat.le_of_ble_eq_true rfl, Nat.le_of_ble_eq_true rfl⟩ 0 11 rfl rfl (rfl) hl.1 rfl (Nat.le_of_ble_eq_true rfl) dX11_wings_60 (fun r12 u H locs hw hP hD hS => ?_)
          refine lv_istore (lv' := [(5, .int r12), (4, .int r9), (3, .int l3_10), (2, .int r9), (0, .ref y0), (1, .int p1)]) hx hb dX11_wings_63 hl (by decide) rfl (fun ls hl => ?_)
          refine lv_iconst (v := 0) hx hb dX11_wings_65 (by decide) ?_
          refine lv_istore (lv' := [(6, .int 0), (5, .int r12), (4, .int r9), (3, .int l3_10), (2, .int r9), (0, .ref y0), (1, .int p1)]) hx hb dX11_wings_66 hl (by decide) rfl (fun ls hl => ?_)
          have lp13 : ∀ (n13 : Nat) (l4_13 : Int32) (l5_13 : Int32) (l6_13 : Int32), ((0 : Int) ≤ l6_13.toInt ∧ l6_13.toInt ≤ 2147483647) → (2147483647 - l6_13.toInt).toNat < n13 → ∀ (H : Heap) (locs : List Loc) (ls : Array Slot), va_P (dC, dI) vwCl (YW cy y0 r v5 f6 w7 g8) H → va_D A (YW cy y0 r v5 f6 w7 g8) → va_S A s.heap H locs → lv_has ls 8 [(6, .int l6_13), (5, .int l5_13), (4, .int l4_13), (3, .int l3_10), (2, .int r9), (0, .ref y0), (1, .int p1)] → W p l e { frames := 3, cells := 0, slots := 0, locals := 102 } s m ([.ref y0, .int p1] : List Value).toArray below meth c H locs 0 0 Q (F0 m 68 ls []) := by
            intro n13
            induction n13 with
            | zero => intro l4_13 l5_13 l6_13 hr6_13 hm; exact absurd hm (Nat.not_lt_zero _)
            | succ n13 ih13 =>
              intro l4_13 l5_13 l6_13 hr6_13 hm13 H locs ls hP hD hS hl
              refine lv_iload hx hb dX11_wings_68 (lv_at hl 0 rfl) ?_
              refine lv_iload_n hx hb dX11_wings_70 rfl (lv_at hl 4 rfl) ?_
              refine lv_icmp_gt (tgt := 154) hx hb dX11_wings_71 (by decide) (fun c14 => ?_) (fun c14 => ?_)
              · skip
                have zc14 : r9.toInt < l6_13.toInt := by rw [fa_lt] at c14; exact c14
                have rg15 := fb_rng l6_13
                have rg16 := fb_rng r9
                refine lv_iload_n hx hb dX11_wings_154 rfl (lv_at hl 6 rfl) ?_
                refine lv_if_ne (tgt := 163) hx hb dX11_wings_155 (by decide) (fun c17 => ?_) (fun c17 => ?_)
                · skip
                  have zc17 : ¬ (p1.toInt = 0) := by rw [fa_eq, show (0 : Int32).toInt = 0 from by decide] at c17; exact c17
                  refine lv_iload hx hb dX11_wings_163 (lv_at hl 2 rfl) ?_
                  exact ret l4_13 (v5, f6, w7, g8) _ _ _ _ _ _ rfl ⟨ha0_f6, hIv5, hCf6, hRf6, hk0_v5, hk1_v5, hk2_v5, hk3_v5, hk4_v5, hk5_v5, hk8_v5, hk9_v5, hk10_v5, hk13_v5, hk14_v5, hk15_v5, hk17_v5, hk18_v5, hk24_v5, hk25_v5, hk35_v5, hk36_v5, hk38_v5, hk39_v5⟩ hP hD hS dX11_wings_165 (Nat.le_refl _) (Nat.le_refl _)
                · skip
                  have zc17 : p1.toInt = 0 := by rw [fa_eq, show (0 : Int32).toInt = 0 from by decide] at c17; exact c17
                  refine lv_iload hx hb dX11_wings_158 (lv_at hl 1 rfl) ?_
                  refine lv_goto (tgt := 165) hx hb dX11_wings_160 (by decide) ?_
                  exact ret l5_13 (v5, f6, w7, g8) _ _ _ _ _ _ rfl ⟨ha0_f6, hIv5, hCf6, hRf6, hk0_v5, hk1_v5, hk2_v5, hk3_v5, hk4_v5, hk5_v5, hk8_v5, hk9_v5, hk10_v5, hk13_v5, hk14_v5, hk15_v5, hk17_v5, hk18_v5, hk24_v5, hk25_v5, hk35_v5, hk36_v5, hk38_v5, hk39_v5⟩ hP hD hS dX11_wings_165 (Nat.le_refl _) (Nat.le_refl _)
              · skip
                have zc14 : ¬ (r9.toInt < l6_13.toInt) := by rw [fa_lt] at c14; exact c14
                have rg18 := fb_rng l6_13
                have rg19 := fb_rng r9
                refine lv_iload hx hb dX11_wings_74 (lv_at hl 0 rfl) ?_
                refine lv_iload_n hx hb dX11_wings_76 rfl (lv_at hl 4 rfl) ?_
                refine lv_iconst (v := (-1)) hx hb dX11_wings_77 (by decide) ?_
                refine lv_ixor hx hb dX11_wings_78 ?_
                refine lv_topi (fun t20 et20 => ?_)
                refine lv_iand hx hb dX11_wings_79 ?_
                refine lv_topi (fun t21 et21 => ?_)
                have zt21 : 0 ≤ t21.toInt ∧ t21.toInt ≤ 63 := by rw [et21]; exact and_left (by omega) (by omega)
                refine lv_if_ne (tgt := 148) hx hb dX11_wings_80 (by decide) (fun c22 => ?_) (fun c22 => ?_)
                · skip
                  have zc22 : ¬ (t21.toInt = 0) := by rw [fa_eq, show (0 : Int32).toInt = 0 from by decide] at c22; exact c22
                  obtain ⟨t23, et23⟩ : ∃ y : Int32, y = l6_13 + 1 := ⟨_, rfl⟩
                  have zt23 : t23.toInt = l6_13.toInt + 1 := by rw [et23]; exact add_i rfl (by decide) (by omega) (by omega)
                  refine lv_iinc (v := t23) (lv' := [(6, .int t23), (5, .int l5_13), (4, .int l4_13), (3, .int l3_10), (2, .int r9), (0, .ref y0), (1, .int p1)]) hx hb dX11_wings_148 hl (k := 0) rfl (by rw [et23]; rfl) (by decide) rfl (fun ls hl => ?_)
                  refine lv_goto (tgt := 68) hx hb dX11_wings_151 (by decide) ?_
                  have rg24 := fb_rng t23
                  exact ih13 l4_13 l5_13 t23 ⟨show (0 : Int) ≤ t23.toInt by omega, show t23.toInt ≤ (2147483647 : Int) by omega⟩ (by show (2147483647 - t23.toInt).toNat < n13; omega) _ _ _ hP hD hS (lv_sub hl [0, 1, 2, 3, 4, 5, 6] rfl)
                · skip
                  have zc22 : t21.toInt = 0 := by rw [fa_eq, show (0 : Int32).toInt = 0 from by decide] at c22; exact c22
                  refine lv_iload hx hb dX11_wings_83 (lv_at hl 0 rfl) ?_
                  refine lv_iload_n hx hb dX11_wings_85 rfl (lv_at hl 3 rfl) ?_
                  refine lv_iand hx hb dX11_wings_86 ?_
                  refine lv_topi (fun t25 et25 => ?_)
                  have zt25 : 0 ≤ t25.toInt ∧ t25.toInt ≤ 63 := by rw [et25]; exact and_left (by omega) (by omega)
                  refine lv_iload_n hx hb dX11_wings_87 rfl (lv_at hl 3 rfl) ?_
                  refine lv_icmp_eq (tgt := 94) hx hb dX11_wings_88 (by decide) (fun c26 => ?_) (fun c26 => ?_)
                  · skip
                    have zc26 : t25.toInt = l3_10.toInt := by rw [fa_eq] at c26; exact c26
                    have rg27 := fb_rng t25
                    have rg28 := fb_rng l3_10
                    refine lv_aload_n hx hb dX11_wings_94 rfl (lv_at hl 5 rfl) ?_
                    refine lv_iload hx hb dX11_wings_95 (lv_at hl 0 rfl) ?_
                    refine cbVi (n := 1) (rest := []) hx hb hml hown hts hE hP hD hS hA (sY_X11_wideOf_1 l dC dI cy y0 r l6_13 v5 f6 w7 g8 hIv5 hCf6 hRf6 ) k_1912 k_1914 k_88 k_114 k_1915 (by decide +kernel) ⟨Nat.le_of_ble_eq_true rfl, Nat.le_of_ble_eq_true rfl⟩ 0 11 rfl rfl (rfl) hl.1 rfl (Nat.le_of_ble_eq_true rfl) dX11_wings_97 (fun r29 u H locs hw hP hD hS => ?_)
                    refine lv_aload_n hx hb dX11_wings_100 rfl (lv_at hl 5 rfl) ?_
                    refine lv_iload_n hx hb dX11_wings_101 rfl (lv_at hl 4 rfl) ?_
                    refine lv_iload hx hb dX11_wings_102 (lv_at hl 0 rfl) ?_
                    refine lv_iconst (v := (-1)) hx hb dX11_wings_104 (by decide) ?_
                    refine lv_ixor hx hb dX11_wings_105 ?_
                    refine lv_topi (fun t30 et30 => ?_)
                    refine lv_iand hx hb dX11_wings_106 ?_
                    refine lv_topi (fun t31 et31 => ?_)
                    have zt31 : 0 ≤ t31.toInt ∧ t31.toInt ≤ 63 := by rw [et31]; exact and_left (by omega) (by omega)
                    refine cbVi (n := 1) (rest := [.int r29]) hx hb hml hown hts hE hP hD hS hA (sY_X11_wideOf_1 l dC dI cy y0 r t31 v5 f6 w7 g8 hIv5 hCf6 hRf6 ) k_1912 k_1914 k_88 k_114 k_1915 (by decide +kernel) ⟨Nat.le_of_ble_eq_true rfl, Nat.le_of_ble_eq_true rfl⟩ 0 11 rfl rfl (rfl) hl.1 rfl (Nat.le_of_ble_eq_true rfl) dX11_wings_107 (fun r32 u H locs hw hP hD hS => ?_)
                    refine lv_isub hx hb dX11_wings_110 ?_
                    refine lv_topi (fun t33 et33 => ?_)
                    refine cbSi (n := 1) (rest := []) hx hb hml hown hts hE hP hD hS hA (sY_X11_plain_1 l dC dI cy y0 r t33 v5 f6 w7 g8 hIv5 hCf6 hRf6 ) k_1920 k_1921 k_114 k_1922 (by decide +kernel) ⟨Nat.le_of_ble_eq_true rfl, Nat.le_of_ble_eq_true rfl⟩ (rfl) hl.1 rfl (Nat.le_of_ble_eq_true rfl) dX11_wings_111 (fun r34 u H locs hw hP hD hS => ?_)
                    refine lv_istore (lv' := [(7, .int r34), (6, .int l6_13), (5, .int l5_13), (4, .int l4_13), (3, .int l3_10), (2, .int r9), (0, .ref y0), (1, .int p1)]) hx hb dX11_wings_114 hl (by decide) rfl (fun ls hl => ?_)
                    refine lv_iload hx hb dX11_wings_116 (lv_at hl 0 rfl) ?_
                    refine lv_iload hx hb dX11_wings_118 (lv_at hl 2 rfl) ?_
                    refine lv_icmp_gt (tgt := 148) hx hb dX11_wings_120 (by decide) (fun c35 => ?_) (fun c35 => ?_)
                    · skip
                      have zc35 : l5_13.toInt < r34.toInt := by rw [fa_lt] at c35; exact c35
                      have rg36 := fb_rng r34
                      have rg37 := fb_rng l5_13
                      obtain ⟨t38, et38⟩ : ∃ y : Int32, y = l6_13 + 1 := ⟨_, rfl⟩
                      have zt38 : t38.toInt = l6_13.toInt + 1 := by rw [et38]; exact add_i rfl (by decide) (by omega) (by omega)
                      refine lv_iinc (v := t38) (lv' := [(6, .int t38), (7, .int r34), (5, .int l5_13), (4, .int l4_13), (3, .int l3_10), (2, .int r9), (0, .ref y0), (1, .int p1)]) hx hb dX11_wings_148 hl (k := 1) rfl (by rw [et38]; rfl) (by decide) rfl (fun ls hl => ?_)
                      refine lv_goto (tgt := 68) hx hb dX11_wings_151 (by decide) ?_
                      have rg39 := fb_rng t38
                      exact ih13 l4_13 l5_13 t38 ⟨show (0 : Int) ≤ t38.toInt by omega, show t38.toInt ≤ (2147483647 : Int) by omega⟩ (by show (2147483647 - t38.toInt).toNat < n13; omega) _ _ _ hP hD hS (lv_sub hl [0, 2, 3, 4, 5, 6, 7] rfl)
                    · skip
                      have zc35 : ¬ (l5_13.toInt < r34.toInt) := by rw [fa_lt] at c35; exact c35
                      have rg40 := fb_rng r34
                      have rg41 := fb_rng l5_13
                      refine lv_iload hx hb dX11_wings_123 (lv_at hl 0 rfl) ?_
                      refine lv_iload hx hb dX11_wings_125 (lv_at hl 2 rfl) ?_
                      refine lv_icmp_ne (tgt := 140) hx hb dX11_wings_127 (by decide) (fun c42 => ?_) (fun c42 => ?_)
                      · skip
                        have zc42 : ¬ (r34.toInt = l5_13.toInt) := by rw [fa_eq] at c42; exact c42
                        refine lv_iload hx hb dX11_wings_140 (lv_at hl 0 rfl) ?_
                        refine lv_istore (lv' := [(5, .int r34), (7, .int r34), (6, .int l6_13), (4, .int l4_13), (3, .int l3_10), (2, .int r9), (0, .ref y0), (1, .int p1)]) hx hb dX11_wings_142 hl (by decide) rfl (fun ls hl => ?_)
                        refine lv_iload hx hb dX11_wings_144 (lv_at hl 2 rfl) ?_
                        refine lv_istore (lv' := [(4, .int l6_13), (5, .int r34), (7, .int r34), (6, .int l6_13), (3, .int l3_10), (2, .int r9), (0, .ref y0), (1, .int p1)]) hx hb dX11_wings_146 hl (by decide) rfl (fun ls hl => ?_)
                        obtain ⟨t43, et43⟩ : ∃ y : Int32, y = l6_13 + 1 := ⟨_, rfl⟩
                        have zt43 : t43.toInt = l6_13.toInt + 1 := by rw [et43]; exact add_i rfl (by decide) (by omega) (by omega)
                        refine lv_iinc (v := t43) (lv' := [(6, .int t43), (4, .int l6_13), (5, .int r34), (7, .int r34), (3, .int l3_10), (2, .int r9), (0, .ref y0), (1, .int p1)]) hx hb dX11_wings_148 hl (k := 3) rfl (by rw [et43]; rfl) (by decide) rfl (fun ls hl => ?_)
                        refine lv_goto (tgt := 68) hx hb dX11_wings_151 (by decide) ?_
                        have rg44 := fb_rng t43
                        exact ih13 l6_13 r34 t43 ⟨show (0 : Int) ≤ t43.toInt by omega, show t43.toInt ≤ (2147483647 : Int) by omega⟩ (by show (2147483647 - t43.toInt).toNat < n13; omega) _ _ _ hP hD hS (lv_sub hl [0, 2, 1, 4, 5, 6, 7] rfl)
                      · skip
                        have zc42 : r34.toInt = l5_13.toInt := by rw [fa_eq] at c42; exact c42
                        refine lv_iload hx hb dX11_wings_130 (lv_at hl 1 rfl) ?_
                        refine lv_iload hx hb dX11_wings_132 (lv_at hl 3 rfl) ?_
                        refine lv_icmp_lt (tgt := 140) hx hb dX11_wings_134 (by decide) (fun c45 => ?_) (fun c45 => ?_)
                        · skip
                          have zc45 : l6_13.toInt < l4_13.toInt := by rw [fa_lt] at c45; exact c45
                          have rg46 := fb_rng l4_13
                          refine lv_iload hx hb dX11_wings_140 (lv_at hl 0 rfl) ?_
                          refine lv_istore (lv' := [(5, .int r34), (7, .int r34), (6, .int l6_13), (4, .int l4_13), (3, .int l3_10), (2, .int r9), (0, .ref y0), (1, .int p1)]) hx hb dX11_wings_142 hl (by decide) rfl (fun ls hl => ?_)
                          refine lv_iload hx hb dX11_wings_144 (lv_at hl 2 rfl) ?_
                          refine lv_istore (lv' := [(4, .int l6_13), (5, .int r34), (7, .int r34), (6, .int l6_13), (3, .int l3_10), (2, .int r9), (0, .ref y0), (1, .int p1)]) hx hb dX11_wings_146 hl (by decide) rfl (fun ls hl => ?_)
                          obtain ⟨t47, et47⟩ : ∃ y : Int32, y = l6_13 + 1 := ⟨_, rfl⟩
                          have zt47 : t47.toInt = l6_13.toInt + 1 := by rw [et47]; exact add_i rfl (by decide) (by omega) (by omega)
                          refine lv_iinc (v := t47) (lv' := [(6, .int t47), (4, .int l6_13), (5, .int r34), (7, .int r34), (3, .int l3_10), (2, .int r9), (0, .ref y0), (1, .int p1)]) hx hb dX11_wings_148 hl (k := 3) rfl (by rw [et47]; rfl) (by decide) rfl (fun ls hl => ?_)
                          refine lv_goto (tgt := 68) hx hb dX11_wings_151 (by decide) ?_
                          have rg48 := fb_rng t47
                          exact ih13 l6_13 r34 t47 ⟨show (0 : Int) ≤ t47.toInt by omega, show t47.toInt ≤ (2147483647 : Int) by omega⟩ (by show (2147483647 - t47.toInt).toNat < n13; omega) _ _ _ hP hD hS (lv_sub hl [0, 2, 1, 4, 5, 6, 7] rfl)
                        · skip
                          have zc45 : ¬ (l6_13.toInt < l4_13.toInt) := by rw [fa_lt] at c45; exact c45
                          have rg49 := fb_rng l4_13
                          refine lv_goto (tgt := 148) hx hb dX11_wings_137 (by decide) ?_
                          obtain ⟨t50, et50⟩ : ∃ y : Int32, y = l6_13 + 1 := ⟨_, rfl⟩
                          have zt50 : t50.toInt = l6_13.toInt + 1 := by rw [et50]; exact add_i rfl (by decide) (by omega) (by omega)
                          refine lv_iinc (v := t50) (lv' := [(6, .int t50), (7, .int r34), (5, .int l5_13), (4, .int l4_13), (3, .int l3_10), (2, .int r9), (0, .ref y0), (1, .int p1)]) hx hb dX11_wings_148 hl (k := 1) rfl (by rw [et50]; rfl) (by decide) rfl (fun ls hl => ?_)
                          refine lv_goto (tgt := 68) hx hb dX11_wings_151 (by decide) ?_
                          have rg51 := fb_rng t50
                          exact ih13 l4_13 l5_13 t50 ⟨show (0 : Int) ≤ t50.toInt by omega, show t50.toInt ≤ (2147483647 : Int) by omega⟩ (by show (2147483647 - t50.toInt).toNat < n13; omega) _ _ _ hP hD hS (lv_sub hl [0, 2, 3, 4, 5, 6, 7] rfl)
                  · skip
                    have zc26 : ¬ (t25.toInt = l3_10.toInt) := by rw [fa_eq] at c26; exact c26
                    have rg52 := fb_rng t25
                    have rg53 := fb_rng l3_10
                    refine lv_goto (tgt := 148) hx hb dX11_wings_91 (by decide) ?_
                    obtain ⟨t54, et54⟩ : ∃ y : Int32, y = l6_13 + 1 := ⟨_, rfl⟩
                    have zt54 : t54.toInt = l6_13.toInt + 1 := by rw [et54]; exact add_i rfl (by decide) (by omega) (by omega)
                    refine lv_iinc (v := t54) (lv' := [(6, .int t54), (5, .int l5_13), (4, .int l4_13), (3, .int l3_10), (2, .int r9), (0, .ref y0), (1, .int p1)]) hx hb dX11_wings_148 hl (k := 0) rfl (by rw [et54]; rfl) (by decide) rfl (fun ls hl => ?_)
                    refine lv_goto (tgt := 68) hx hb dX11_wings_151 (by decide) ?_
                    have rg55 := fb_rng t54
                    exact ih13 l4_13 l5_13 t54 ⟨show (0 : Int) ≤ t54.toInt by omega, show t54.toInt ≤ (2147483647 : Int) by omega⟩ (by show (2147483647 - t54.toInt).toNat < n13; omega) _ _ _ hP hD hS (lv_sub hl [0, 1, 2, 3, 4, 5, 6] rfl)
          exact lp13 _ r9 r12 0 ⟨by decide, by decide⟩ (Nat.lt_succ_self _) _ _ _ hP hD hS (lv_sub hl [0, 1, 2, 3, 4, 5, 6] rfl)
        · skip
          have zc11 : ¬ (l4_10.toInt < 0) := by rw [fa_lt, show (0 : Int32).toInt = 0 from by decide] at c11; exact c11
          refine lv_iload_n hx hb dX11_wings_30 rfl (lv_at hl 2 rfl) ?_
          refine lv_iload hx hb dX11_wings_31 (lv_at hl 0 rfl) ?_
          refine lv_ishr hx hb dX11_wings_33 ?_
          refine lv_topi (fun t56 et56 => ?_)
          refine lv_iconst (v := 1) hx hb dX11_wings_34 (by decide) ?_
          refine lv_iand hx hb dX11_wings_35 ?_
          refine lv_topi (fun t57 et57 => ?_)
          have zt57 : 0 ≤ t57.toInt ∧ t57.toInt < 2 := by rw [et57]; exact and_rng _ (k := 1) (by decide) (by decide)
          refine lv_iconst (v := 1) hx hb dX11_wings_36 (by decide) ?_
          refine lv_icmp_ne (tgt := 47) hx hb dX11_wings_37 (by decide) (fun c58 => ?_) (fun c58 => ?_)
          · skip
            have zc58 : ¬ (t57.toInt = 1) := by rw [fa_eq, show (1 : Int32).toInt = 1 from by decide] at c58; exact c58
            refine lv_iload_n hx hb dX11_wings_47 rfl (lv_at hl 1 rfl) ?_
            refine lv_istore_n (lv' := [(3, .int l3_10), (4, .int l4_10), (2, .int r9), (0, .ref y0), (1, .int p1)]) hx hb dX11_wings_48 rfl hl (by decide) rfl (fun ls hl => ?_)
            obtain ⟨t59, et59⟩ : ∃ y : Int32, y = l4_10 + (-1) := ⟨_, rfl⟩
            have rg60 := fb_rng l4_10
            have zt59 : t59.toInt = l4_10.toInt + (-1) := by rw [et59]; exact add_i rfl (by decide) (by omega) (by omega)
            refine lv_iinc (v := t59) (lv' := [(4, .int t59), (3, .int l3_10), (2, .int r9), (0, .ref y0), (1, .int p1)]) hx hb dX11_wings_49 hl (k := 1) rfl (by rw [et59]; rfl) (by decide) rfl (fun ls hl => ?_)
            refine lv_goto (tgt := 25) hx hb dX11_wings_52 (by decide) ?_
            have rg61 := fb_rng t59
            exact ih10 l3_10 t59 ⟨show (-2147483648 : Int) ≤ t59.toInt by omega, show t59.toInt ≤ (5 : Int) by omega⟩ (by show (t59.toInt + 2147483648).toNat < n10; omega) _ _ _ hP hD hS (lv_sub hl [0, 1, 2, 3, 4] rfl)
          · skip
            have zc58 : t57.toInt = 1 := by rw [fa_eq, show (1 : Int32).toInt = 1 from by decide] at c58; exact c58
            refine lv_iconst (v := 1) hx hb dX11_wings_40 (by decide) ?_
            refine lv_iload hx hb dX11_wings_41 (lv_at hl 0 rfl) ?_
            refine lv_ishl hx hb dX11_wings_43 ?_
            refine lv_topi (fun t62 et62 => ?_)
            have zt62 : 1 ≤ t62.toInt ∧ t62.toInt ≤ 32 := by rw [et62]; exact shl1_rng (by omega) (by omega)
            refine lv_goto (tgt := 48) hx hb dX11_wings_44 (by decide) ?_
            refine lv_istore_n (lv' := [(3, .int t62), (4, .int l4_10), (2, .int r9), (0, .ref y0), (1, .int p1)]) hx hb dX11_wings_48 rfl hl (by decide) rfl (fun ls hl => ?_)
            obtain ⟨t63, et63⟩ : ∃ y : Int32, y = l4_10 + (-1) := ⟨_, rfl⟩
            have rg64 := fb_rng l4_10
            have zt63 : t63.toInt = l4_10.toInt + (-1) := by rw [et63]; exact add_i rfl (by decide) (by omega) (by omega)
            refine lv_iinc (v := t63) (lv' := [(4, .int t63), (3, .int t62), (2, .int r9), (0, .ref y0), (1, .int p1)]) hx hb dX11_wings_49 hl (k := 1) rfl (by rw [et63]; rfl) (by decide) rfl (fun ls hl => ?_)
            refine lv_goto (tgt := 25) hx hb dX11_wings_52 (by decide) ?_
            have rg65 := fb_rng t63
            exact ih10 t62 t63 ⟨show (-2147483648 : Int) ≤ t63.toInt by omega, show t63.toInt ≤ (5 : Int) by omega⟩ (by show (t63.toInt + 2147483648).toNat < n10; omega) _ _ _ hP hD hS (lv_sub hl [0, 1, 2, 3, 4] rfl)
    exact lp10 _ 0 5 ⟨by decide, by decide⟩ (Nat.lt_succ_self _) _ _ _ hP hD hS (lv_sub hl [0, 1, 2, 3, 4] rfl)
  · skip
    subst g4
    refine lv_if_ne (tgt := 11) hx hb dX11_wings_6 (by decide) (fun c0 => absurd (by decide) c0) (fun _ => ?_)
    refine lv_iconst (v := (-1)) hx hb dX11_wings_9 (by decide) ?_
    exact ret (-1) (v, f, w, g) _ _ _ _ _ _ rfl ⟨ha0_f, hIv, hCf, hRf, rfl, rfl, rfl, rfl, rfl, rfl, rfl, rfl, rfl, rfl, rfl, rfl, rfl, rfl, rfl, rfl, rfl, rfl, rfl, rfl⟩ hP hD hS dX11_wings_10 (Nat.le_refl _) (Nat.le_refl _)
set_option maxHeartbeats 4000000 in
set_option maxRecDepth 100000 in
theorem sY_X11_rowOf_1 (l : Launch) (dC : Nat → ClassId) (dI : Nat → Nat → Nat) (cy : Nat → ClassId) (y0 : Nat) (r : Nat → Nat) (p1 : Int32) (v : Nat → Int32) (f : Nat → Nat → Int32) (w : Int64) (g : Nat → Int64) (hIv : YI v) (hCf : YC f) (hRf : progOK (f 4) (f 5) (v 9).toInt.toNat)  : ctI l (dC, dI) cy yX11_rowOf cX11_rowOf 5 .int 2 81 0 0 Unit [.ref y0, .int p1] (YW cy y0 r v f w g) (fun r u => True) (fun u => YW cy y0 r v f w g) := by
  refine ctI_of (by decide) (Nat.le_of_ble_eq_true rfl) (fun p e s m below meth c A ls Q hx hb hml hts hown hE hP hD hA hl ret => ?_)
  have hUv : (v 35).toInt + (v 36).toInt ≤ 40 := hIv.2
  have hown : s.vm.findClass RX11 = some m.cls := hown
  have hS : va_S A s.heap s.heap [] := va_S.rf
  have hl : lv_has ls 5 [(0, .ref y0), (1, .int p1)] := hl
  refine lv_iconst (v := 0) hx hb dX11_rowOf_0 (by decide) ?_
  refine lv_istore_n (lv' := [(2, .int 0), (0, .ref y0), (1, .int p1)]) hx hb dX11_rowOf_1 rfl hl (by decide) rfl (fun ls hl => ?_)
  refine lv_iconst (v := 0) hx hb dX11_rowOf_2 (by decide) ?_
  refine lv_istore_n (lv' := [(3, .int 0), (2, .int 0), (0, .ref y0), (1, .int p1)]) hx hb dX11_rowOf_3 rfl hl (by decide) rfl (fun ls hl => ?_)
  refine lv_iconst (v := 0) hx hb dX11_rowOf_4 (by decide) ?_
  refine lv_istore (lv' := [(4, .int 0), (3, .int 0), (2, .int 0), (0, .ref y0), (1, .int p1)]) hx hb dX11_rowOf_5 hl (by decide) rfl (fun ls hl => ?_)
  have lp1 : ∀ (n1 : Nat) (l2_1 : Int32) (l3_1 : Int32) (l4_1 : Int32), ((0 : Int) ≤ l4_1.toInt ∧ l4_1.toInt ≤ 2147483647) → (2147483647 - l4_1.toInt).toNat < n1 → ∀ (H : Heap) (locs : List Loc) (ls : Array Slot), va_P (dC, dI) vwCl (YW cy y0 r v f w g) H → va_D A (YW cy y0 r v f w g) → va_S A s.heap H locs → lv_has ls 5 [(4, .int l4_1), (3, .int l3_1), (2, .int l2_1), (0, .ref y0), (1, .int p1)] → W p l e { frames := 2, cells := 0, slots := 0, locals := 81 } s m ([.ref y0, .int p1] : List Value).toArray below meth c H locs 0 0 Q (F0 m 7 ls []) := by
    intro n1
    induction n1 with
    | zero => intro l2_1 l3_1 l4_1 hr4_1 hm; exact absurd hm (Nat.not_lt_zero _)
    | succ n1 ih1 =>
      intro l2_1 l3_1 l4_1 hr4_1 hm1 H locs ls hP hD hS hl
      refine lv_iload hx hb dX11_rowOf_7 (lv_at hl 0 rfl) ?_
      refine lv_aload_n hx hb dX11_rowOf_9 rfl (lv_at hl 3 rfl) ?_
      refine va_get (D := (dC, dI)) (ci := 11) (v := .int (v 25)) (C := RX11) (T := TX11) (N := 79) hx hb hts inB_11 hown hE.1 hP 0 rfl rfl 49 (by decide) (hts _ k_1369) (fun _ h9 => h9) rfl dX11_rowOf_10 ?_
      have b25_v : 0 ≤ (v 25).toInt ∧ (v 25).toInt ≤ 6 := YIb.b hIv.1 25 (by decide)
      refine lv_icmp_ge (tgt := 62) hx hb dX11_rowOf_13 (by decide) (fun c2 => ?_) (fun c2 => ?_)
      · skip
        have zc2 : (v 25).toInt ≤ l4_1.toInt := by rw [fa_le] at c2; exact c2
        have rg3 := fb_rng l4_1
        have rg4 := fb_rng (v 25)
        refine lv_iload_n hx hb dX11_rowOf_62 rfl (lv_at hl 2 rfl) ?_
        refine lv_aload_n hx hb dX11_rowOf_63 rfl (lv_at hl 3 rfl) ?_
        refine va_get (D := (dC, dI)) (ci := 11) (v := .int (v 27)) (C := RX11) (T := TX11) (N := 79) hx hb hts inB_11 hown hE.1 hP 0 rfl rfl 51 (by decide) (hts _ k_1371) (fun _ h9 => h9) rfl dX11_rowOf_64 ?_
        refine lv_icmp_le (tgt := 76) hx hb dX11_rowOf_67 (by decide) (fun c5 => ?_) (fun c5 => ?_)
        · skip
          have zc5 : l2_1.toInt ≤ (v 27).toInt := by rw [fa_le] at c5; exact c5
          have rg6 := fb_rng l2_1
          have rg7 := fb_rng (v 27)
          refine lv_iload_n hx hb dX11_rowOf_76 rfl (lv_at hl 1 rfl) ?_
          exact ret l3_1 () _ _ _ _ _ _ rfl trivial hP hD hS dX11_rowOf_77 (Nat.le_refl _) (Nat.le_refl _)
        · skip
          have zc5 : ¬ (l2_1.toInt ≤ (v 27).toInt) := by rw [fa_le] at c5; exact c5
          have rg8 := fb_rng l2_1
          have rg9 := fb_rng (v 27)
          refine lv_ldcw (v := 1000000) hx hb hown (hts _ k_1927) dX11_rowOf_70 ?_
          refine lv_goto (tgt := 77) hx hb dX11_rowOf_73 (by decide) ?_
          exact ret 1000000 () _ _ _ _ _ _ rfl trivial hP hD hS dX11_rowOf_77 (Nat.le_refl _) (Nat.le_refl _)
      · skip
        have zc2 : ¬ ((v 25).toInt ≤ l4_1.toInt) := by rw [fa_le] at c2; exact c2
        have rg10 := fb_rng l4_1
        have rg11 := fb_rng (v 25)
        refine lv_iload_n hx hb dX11_rowOf_16 rfl (lv_at hl 4 rfl) ?_
        refine lv_iload hx hb dX11_rowOf_17 (lv_at hl 0 rfl) ?_
        refine lv_ishr hx hb dX11_rowOf_19 ?_
        refine lv_topi (fun t12 et12 => ?_)
        refine lv_iconst (v := 1) hx hb dX11_rowOf_20 (by decide) ?_
        refine lv_iand hx hb dX11_rowOf_21 ?_
        refine lv_topi (fun t13 et13 => ?_)
        have zt13 : 0 ≤ t13.toInt ∧ t13.toInt < 2 := by rw [et13]; exact and_rng _ (k := 1) (by decide) (by decide)
        refine lv_if_ne (tgt := 28) hx hb dX11_rowOf_22 (by decide) (fun c14 => ?_) (fun c14 => ?_)
        · skip
          have zc14 : ¬ (t13.toInt = 0) := by rw [fa_eq, show (0 : Int32).toInt = 0 from by decide] at c14; exact c14
          refine lv_iload_n hx hb dX11_rowOf_28 rfl (lv_at hl 2 rfl) ?_
          refine lv_aload_n hx hb dX11_rowOf_29 rfl (lv_at hl 3 rfl) ?_
          refine va_get (D := (dC, dI)) (ci := 11) (v := .ref (r 59)) (C := RX11) (T := TX11) (N := 79) hx hb hts inB_11 hown hE.1 hP 0 rfl rfl 59 (by decide) (hts _ k_1379) (fun _ h9 => h9) rfl dX11_rowOf_30 ?_
          refine lv_bipush (v := 18) hx hb dX11_rowOf_33 (by decide) ?_
          refine lv_iload hx hb dX11_rowOf_35 (lv_at hl 0 rfl) ?_
          refine lv_iadd hx hb dX11_rowOf_37 ?_
          refine lv_topi (fun t15 et15 => ?_)
          have zt15 : t15.toInt = 18 + l4_1.toInt := by rw [et15]; exact add_i (by decide) rfl (by omega) (by omega)
          refine ldI hx hb hE hP 24 rfl (vp_in_iff.mpr ⟨by omega, by omega⟩) rfl rfl dX11_rowOf_38 ?_
          refine lv_topi (fun t16 et16 => ?_)
          have zt16 : t15.toInt.toNat % 39 < 6 ∨ 12 ≤ t15.toInt.toNat % 39 ∨ (-1 ≤ t16.toInt ∧ t16.toInt ≤ 5) := by rw [et16]; exact wear_ld hCf.1 (show t15.toInt.toNat < 39 by omega)
          refine lv_iadd hx hb dX11_rowOf_39 ?_
          refine lv_topi (fun t17 et17 => ?_)
          refine lv_istore_n (lv' := [(2, .int t17), (4, .int l4_1), (3, .int l3_1), (0, .ref y0), (1, .int p1)]) hx hb dX11_rowOf_40 rfl hl (by decide) rfl (fun ls hl => ?_)
          refine lv_iload_n hx hb dX11_rowOf_41 rfl (lv_at hl 2 rfl) ?_
          refine lv_aload_n hx hb dX11_rowOf_42 rfl (lv_at hl 3 rfl) ?_
          refine va_get (D := (dC, dI)) (ci := 11) (v := .ref (r 59)) (C := RX11) (T := TX11) (N := 79) hx hb hts inB_11 hown hE.1 hP 0 rfl rfl 59 (by decide) (hts _ k_1379) (fun _ h9 => h9) rfl dX11_rowOf_43 ?_
          refine lv_bipush (v := 12) hx hb dX11_rowOf_46 (by decide) ?_
          refine lv_iload hx hb dX11_rowOf_48 (lv_at hl 1 rfl) ?_
          refine lv_iadd hx hb dX11_rowOf_50 ?_
          refine lv_topi (fun t18 et18 => ?_)
          have zt18 : t18.toInt = 12 + l4_1.toInt := by rw [et18]; exact add_i (by decide) rfl (by omega) (by omega)
          refine ldI hx hb hE hP 24 rfl (vp_in_iff.mpr ⟨by omega, by omega⟩) rfl rfl dX11_rowOf_51 ?_
          refine lv_topi (fun t19 et19 => ?_)
          have zt19 : t18.toInt.toNat % 39 < 6 ∨ 12 ≤ t18.toInt.toNat % 39 ∨ (-1 ≤ t19.toInt ∧ t19.toInt ≤ 5) := by rw [et19]; exact wear_ld hCf.1 (show t18.toInt.toNat < 39 by omega)
          refine cbSi (n := 2) (rest := []) hx hb hml hown hts hE hP hD hS hA (sY_X11_greater_1 l dC dI cy y0 r l3_1 t19 v f w g hIv hCf hRf ) k_1802 k_1803 k_114 k_1804 (by decide +kernel) ⟨Nat.le_of_ble_eq_true rfl, Nat.le_of_ble_eq_true rfl⟩ (rfl) hl.1 rfl (Nat.le_of_ble_eq_true rfl) dX11_rowOf_52 (fun r20 u H locs hw hP hD hS => ?_)
          refine lv_istore_n (lv' := [(3, .int r20), (2, .int t17), (4, .int l4_1), (0, .ref y0), (1, .int p1)]) hx hb dX11_rowOf_55 rfl hl (by decide) rfl (fun ls hl => ?_)
          obtain ⟨t21, et21⟩ : ∃ y : Int32, y = l4_1 + 1 := ⟨_, rfl⟩
          have zt21 : t21.toInt = l4_1.toInt + 1 := by rw [et21]; exact add_i rfl (by decide) (by omega) (by omega)
          refine lv_iinc (v := t21) (lv' := [(4, .int t21), (3, .int r20), (2, .int t17), (0, .ref y0), (1, .int p1)]) hx hb dX11_rowOf_56 hl (k := 2) rfl (by rw [et21]; rfl) (by decide) rfl (fun ls hl => ?_)
          refine lv_goto (tgt := 7) hx hb dX11_rowOf_59 (by decide) ?_
          have rg22 := fb_rng t21
          exact ih1 t17 r20 t21 ⟨show (0 : Int) ≤ t21.toInt by omega, show t21.toInt ≤ (2147483647 : Int) by omega⟩ (by show (2147483647 - t21.toInt).toNat < n1; omega) _ _ _ hP hD hS (lv_sub hl [0, 1, 2, 3, 4] rfl)
        · skip
          have zc14 : t13.toInt = 0 := by rw [fa_eq, show (0 : Int32).toInt = 0 from by decide] at c14; exact c14
          refine lv_goto (tgt := 56) hx hb dX11_rowOf_25 (by decide) ?_
          obtain ⟨t23, et23⟩ : ∃ y : Int32, y = l4_1 + 1 := ⟨_, rfl⟩
          have zt23 : t23.toInt = l4_1.toInt + 1 := by rw [et23]; exact add_i rfl (by decide) (by omega) (by omega)
          refine lv_iinc (v := t23) (lv' := [(4, .int t23), (3, .int l3_1), (2, .int l2_1), (0, .ref y0), (1, .int p1)]) hx hb dX11_rowOf_56 hl (k := 0) rfl (by rw [et23]; rfl) (by decide) rfl (fun ls hl => ?_)
          refine lv_goto (tgt := 7) hx hb dX11_rowOf_59 (by decide) ?_
          have rg24 := fb_rng t23
          exact ih1 l2_1 l3_1 t23 ⟨show (0 : Int) ≤ t23.toInt by omega, show t23.toInt ≤ (2147483647 : Int) by omega⟩ (by show (2147483647 - t23.toInt).toNat < n1; omega) _ _ _ hP hD hS (lv_sub hl [0, 1, 2, 3, 4] rfl)
  exact lp1 _ 0 0 0 ⟨by decide, by decide⟩ (Nat.lt_succ_self _) _ _ _ hP hD hS (lv_sub hl [0, 1, 2, 3, 4] rfl)
set_option maxHeartbeats 4000000 in
set_option maxRecDepth 100000 in
theorem sY_X11_cloth_1 (l : Launch) (dC : Nat → ClassId) (dI : Nat → Nat → Nat) (cy : Nat → ClassId) (y0 : Nat) (r : Nat → Nat)  (v : Nat → Int32) (f : Nat → Nat → Int32) (w : Int64) (g : Nat → Int64) (hIv : YI v) (hCf : YC f) (hRf : progOK (f 4) (f 5) (v 9).toInt.toNat)  : ctI l (dC, dI) cy yX11_cloth cX11_cloth 3 .int 3 105 0 0 ((Nat → Int32) × (Nat → Nat → Int32) × (Int64) × (Nat → Int64)) [.ref y0] (YW cy y0 r v f w g) (fun r u => u.2.1 0 = f 0 ∧ YI u.1 ∧ YC u.2.1 ∧ progOK (u.2.1 4) (u.2.1 5) (u.1 9).toInt.toNat ∧ u.1 0 = v 0 ∧ u.1 1 = v 1 ∧ u.1 2 = v 2 ∧ u.1 3 = v 3 ∧ u.1 4 = v 4 ∧ u.1 5 = v 5 ∧ u.1 8 = v 8 ∧ u.1 9 = v 9 ∧ u.1 10 = v 10 ∧ u.1 13 = v 13 ∧ u.1 14 = v 14 ∧ u.1 15 = v 15 ∧ u.1 17 = v 17 ∧ u.1 18 = v 18 ∧ u.1 24 = v 24 ∧ u.1 25 = v 25 ∧ u.1 35 = v 35 ∧ u.1 36 = v 36 ∧ u.1 38 = v 38 ∧ u.1 39 = v 39) (fun u => YW cy y0 r u.1 u.2.1 u.2.2.1 u.2.2.2) := by
  refine ctI_of (by decide) (Nat.le_of_ble_eq_true rfl) (fun p e s m below meth c A ls Q hx hb hml hts hown hE hP hD hA hl ret => ?_)
  have hUv : (v 35).toInt + (v 36).toInt ≤ 40 := hIv.2
  have ha0_f : f 0 = f 0 := rfl
  have hown : s.vm.findClass RX11 = some m.cls := hown
  have hS : va_S A s.heap s.heap [] := va_S.rf
  have hl : lv_has ls 3 [(0, .ref y0)] := hl
  refine lv_aload_n hx hb dX11_cloth_0 rfl (lv_at hl 0 rfl) ?_
  refine va_get (D := (dC, dI)) (ci := 11) (v := .ref (r 68)) (C := RX11) (T := TX11) (N := 79) hx hb hts inB_11 hown hE.1 hP 0 rfl rfl 68 (by decide) (hts _ k_1388) (fun _ h9 => h9) rfl dX11_cloth_1 ?_
  refine lv_iconst (v := 0) hx hb dX11_cloth_4 (by decide) ?_
  refine lv_iconst (v := 0) hx hb dX11_cloth_5 (by decide) ?_
  refine stI hx hb hE hP hD hS 30 rfl (vp_in_nI (n := 0) (by decide) (by decide)) rfl dX11_cloth_6 (fun H locs hP hD hS => ?_)
  obtain ⟨f1, ef1, hP, hD⟩ : ∃ fz9, fz9 = upd2 f 29 (upd (f 29) (0 : Int32).toNatClampNeg 0) ∧ va_P (dC, dI) vwCl (YW cy y0 r v fz9 w g) H ∧ va_D A (YW cy y0 r v fz9 w g) := ⟨_, rfl, hP, hD⟩
  have hCf1 : YC f1 := by rw [ef1]; exact hCf
  have hRf1 : progOK (f1 4) (f1 5) (v 9).toInt.toNat := by rw [ef1]; exact hRf
  have ha0_f1 : f1 0 = f 0 := by rw [ef1]; exact ha0_f
  refine lv_iconst (v := 1) hx hb dX11_cloth_7 (by decide) ?_
  refine lv_istore_n (lv' := [(1, .int 1), (0, .ref y0)]) hx hb dX11_cloth_8 rfl hl (by decide) rfl (fun ls hl => ?_)
  have lp2 : ∀ (n2 : Nat) (l1_2 : Int32) (v2 : Nat → Int32) (f2 : Nat → Nat → Int32) (w2 : Int64) (g2 : Nat → Int64), YI v2 → YC f2 → progOK (f2 4) (f2 5) (v2 9).toInt.toNat → v2 0 = (v 0) → v2 1 = (v 1) → v2 2 = (v 2) → v2 3 = (v 3) → v2 4 = (v 4) → v2 5 = (v 5) → v2 8 = (v 8) → v2 9 = (v 9) → v2 10 = (v 10) → v2 13 = (v 13) → v2 14 = (v 14) → v2 15 = (v 15) → v2 17 = (v 17) → v2 18 = (v 18) → v2 24 = (v 24) → v2 25 = (v 25) → v2 35 = (v 35) → v2 36 = (v 36) → v2 38 = (v 38) → v2 39 = (v 39) → ((1 : Int) ≤ l1_2.toInt ∧ l1_2.toInt ≤ 2147483647) → f2 0 = f 0 → (2147483647 - l1_2.toInt).toNat < n2 → ∀ (H : Heap) (locs : List Loc) (ls : Array Slot), va_P (dC, dI) vwCl (YW cy y0 r v2 f2 w2 g2) H → va_D A (YW cy y0 r v2 f2 w2 g2) → va_S A s.heap H locs → lv_has ls 3 [(1, .int l1_2), (0, .ref y0)] → W p l e { frames := 3, cells := 0, slots := 0, locals := 105 } s m ([.ref y0] : List Value).toArray below meth c H locs 0 0 Q (F0 m 9 ls []) := by
    intro n2
    induction n2 with
    | zero => intro l1_2 v2 f2 w2 g2 hIv2 hCf2 hRf2 hq0_v2 hq1_v2 hq2_v2 hq3_v2 hq4_v2 hq5_v2 hq8_v2 hq9_v2 hq10_v2 hq13_v2 hq14_v2 hq15_v2 hq17_v2 hq18_v2 hq24_v2 hq25_v2 hq35_v2 hq36_v2 hq38_v2 hq39_v2 hr1_2 ha0_f2 hm; exact absurd hm (Nat.not_lt_zero _)
    | succ n2 ih2 =>
      intro l1_2 v2 f2 w2 g2 hIv2 hCf2 hRf2 hq0_v2 hq1_v2 hq2_v2 hq3_v2 hq4_v2 hq5_v2 hq8_v2 hq9_v2 hq10_v2 hq13_v2 hq14_v2 hq15_v2 hq17_v2 hq18_v2 hq24_v2 hq25_v2 hq35_v2 hq36_v2 hq38_v2 hq39_v2 hr1_2 ha0_f2 hm2 H locs ls hP hD hS hl
      have hUv2 : (v2 35).toInt + (v2 36).toInt ≤ 40 := hIv2.2
      have zq3_v2 := congrArg Int32.toInt hq3_v2
      have zq4_v2 := congrArg Int32.toInt hq4_v2
      have zq5_v2 := congrArg Int32.toInt hq5_v2
      have zq9_v2 := congrArg Int32.toInt hq9_v2
      have zq35_v2 := congrArg Int32.toInt hq35_v2
      have zq36_v2 := congrArg Int32.toInt hq36_v2
      refine lv_iload_n hx hb dX11_cloth_9 rfl (lv_at hl 0 rfl) ?_
      refine lv_iconst (v := 1) hx hb dX11_cloth_10 (by decide) ?_
      refine lv_aload_n hx hb dX11_cloth_11 rfl (lv_at hl 1 rfl) ?_
      refine va_get (D := (dC, dI)) (ci := 11) (v := .int (v2 25)) (C := RX11) (T := TX11) (N := 79) hx hb hts inB_11 hown hE.1 hP 0 rfl rfl 49 (by decide) (hts _ k_1369) (fun _ h9 => h9) rfl dX11_cloth_12 ?_
      refine tI (y := (v 25)) hq25_v2 ?_
      have b25_v : 0 ≤ (v 25).toInt ∧ (v 25).toInt ≤ 6 := YIb.b hIv.1 25 (by decide)
      refine lv_ishl hx hb dX11_cloth_15 ?_
      refine lv_topi (fun t3 et3 => ?_)
      have zt3 : 1 ≤ t3.toInt ∧ t3.toInt ≤ 64 := by rw [et3]; exact shl1_rng6 (by omega) (by omega)
      refine lv_icmp_ge (tgt := 86) hx hb dX11_cloth_16 (by decide) (fun c4 => ?_) (fun c4 => ?_)
      · skip
        have zc4 : t3.toInt ≤ l1_2.toInt := by rw [fa_le] at c4; exact c4
        have rg5 := fb_rng l1_2
        have rg6 := fb_rng t3
        refine lv_aload_n hx hb dX11_cloth_86 rfl (lv_at hl 1 rfl) ?_
        refine va_get (D := (dC, dI)) (ci := 11) (v := .ref (r 68)) (C := RX11) (T := TX11) (N := 79) hx hb hts inB_11 hown hE.1 hP 0 rfl rfl 68 (by decide) (hts _ k_1388) (fun _ h9 => h9) rfl dX11_cloth_87 ?_
        refine lv_iconst (v := 1) hx hb dX11_cloth_90 (by decide) ?_
        refine lv_aload_n hx hb dX11_cloth_91 rfl (lv_at hl 1 rfl) ?_
        refine va_get (D := (dC, dI)) (ci := 11) (v := .int (v2 25)) (C := RX11) (T := TX11) (N := 79) hx hb hts inB_11 hown hE.1 hP 0 rfl rfl 49 (by decide) (hts _ k_1369) (fun _ h9 => h9) rfl dX11_cloth_92 ?_
        refine tI (y := (v 25)) hq25_v2 ?_
        refine lv_ishl hx hb dX11_cloth_95 ?_
        refine tI (y := t3) et3.symm ?_
        refine lv_iconst (v := 1) hx hb dX11_cloth_96 (by decide) ?_
        refine lv_isub hx hb dX11_cloth_97 ?_
        refine lv_topi (fun t7 et7 => ?_)
        have zt7 : t7.toInt = t3.toInt - 1 := by rw [et7]; exact sub_i rfl (by decide) (by omega) (by omega)
        refine ldI hx hb hE hP 30 rfl (vp_in_iff.mpr ⟨by omega, by omega⟩) rfl rfl dX11_cloth_98 ?_
        refine lv_topi (fun t8 et8 => ?_)
        refine lv_istore_n (lv' := [(1, .int t8), (0, .ref y0)]) hx hb dX11_cloth_99 rfl hl (by decide) rfl (fun ls hl => ?_)
        refine lv_iload_n hx hb dX11_cloth_100 rfl (lv_at hl 0 rfl) ?_
        refine lv_ldcw (v := 1000000) hx hb hown (hts _ k_1927) dX11_cloth_101 ?_
        refine lv_icmp_lt (tgt := 111) hx hb dX11_cloth_104 (by decide) (fun c9 => ?_) (fun c9 => ?_)
        · skip
          have zc9 : t8.toInt < 1000000 := by rw [fa_lt, show (1000000 : Int32).toInt = 1000000 from by decide] at c9; exact c9
          refine lv_iload_n hx hb dX11_cloth_111 rfl (lv_at hl 0 rfl) ?_
          exact ret t8 (v2, f2, w2, g2) _ _ _ _ _ _ rfl ⟨ha0_f2, hIv2, hCf2, hRf2, (show v2 0 = v 0 from hq0_v2), (show v2 1 = v 1 from hq1_v2), (show v2 2 = v 2 from hq2_v2), (show v2 3 = v 3 from hq3_v2), (show v2 4 = v 4 from hq4_v2), (show v2 5 = v 5 from hq5_v2), (show v2 8 = v 8 from hq8_v2), (show v2 9 = v 9 from hq9_v2), (show v2 10 = v 10 from hq10_v2), (show v2 13 = v 13 from hq13_v2), (show v2 14 = v 14 from hq14_v2), (show v2 15 = v 15 from hq15_v2), (show v2 17 = v 17 from hq17_v2), (show v2 18 = v 18 from hq18_v2), (show v2 24 = v 24 from hq24_v2), (show v2 25 = v 25 from hq25_v2), (show v2 35 = v 35 from hq35_v2), (show v2 36 = v 36 from hq36_v2), (show v2 38 = v 38 from hq38_v2), (show v2 39 = v 39 from hq39_v2)⟩ hP hD hS dX11_cloth_112 (Nat.le_refl _) (Nat.le_refl _)
        · skip
          have zc9 : ¬ (t8.toInt < 1000000) := by rw [fa_lt, show (1000000 : Int32).toInt = 1000000 from by decide] at c9; exact c9
          refine lv_iconst (v := (-1)) hx hb dX11_cloth_107 (by decide) ?_
          refine lv_goto (tgt := 112) hx hb dX11_cloth_108 (by decide) ?_
          exact ret (-1) (v2, f2, w2, g2) _ _ _ _ _ _ rfl ⟨ha0_f2, hIv2, hCf2, hRf2, (show v2 0 = v 0 from hq0_v2), (show v2 1 = v 1 from hq1_v2), (show v2 2 = v 2 from hq2_v2), (show v2 3 = v 3 from hq3_v2), (show v2 4 = v 4 from hq4_v2), (show v2 5 = v 5 from hq5_v2), (show v2 8 = v 8 from hq8_v2), (show v2 9 = v 9 from hq9_v2), (show v2 10 = v 10 from hq10_v2), (show v2 13 = v 13 from hq13_v2), (show v2 14 = v 14 from hq14_v2), (show v2 15 = v 15 from hq15_v2), (show v2 17 = v 17 from hq17_v2), (show v2 18 = v 18 from hq18_v2), (show v2 24 = v 24 from hq24_v2), (show v2 25 = v 25 from hq25_v2), (show v2 35 = v 35 from hq35_v2), (show v2 36 = v 36 from hq36_v2), (show v2 38 = v 38 from hq38_v2), (show v2 39 = v 39 from hq39_v2)⟩ hP hD hS dX11_cloth_112 (Nat.le_refl _) (Nat.le_refl _)
      · skip
        have zc4 : ¬ (t3.toInt ≤ l1_2.toInt) := by rw [fa_le] at c4; exact c4
        have rg10 := fb_rng l1_2
        have rg11 := fb_rng t3
        refine lv_aload_n hx hb dX11_cloth_19 rfl (lv_at hl 1 rfl) ?_
        refine va_get (D := (dC, dI)) (ci := 11) (v := .ref (r 68)) (C := RX11) (T := TX11) (N := 79) hx hb hts inB_11 hown hE.1 hP 0 rfl rfl 68 (by decide) (hts _ k_1388) (fun _ h9 => h9) rfl dX11_cloth_20 ?_
        refine lv_iload_n hx hb dX11_cloth_23 rfl (lv_at hl 0 rfl) ?_
        refine lv_ldcw (v := 1000000) hx hb hown (hts _ k_1927) dX11_cloth_24 ?_
        refine stI hx hb hE hP hD hS 30 rfl (vp_in_iff.mpr ⟨by omega, by omega⟩) rfl dX11_cloth_27 (fun H locs hP hD hS => ?_)
        obtain ⟨f12, ef12, hP, hD⟩ : ∃ fz9, fz9 = upd2 f2 29 (upd (f2 29) l1_2.toNatClampNeg 1000000) ∧ va_P (dC, dI) vwCl (YW cy y0 r v2 fz9 w2 g2) H ∧ va_D A (YW cy y0 r v2 fz9 w2 g2) := ⟨_, rfl, hP, hD⟩
        have hCf12 : YC f12 := by rw [ef12]; exact hCf2
        have hRf12 : progOK (f12 4) (f12 5) (v2 9).toInt.toNat := by rw [ef12]; exact hRf2
        have ha0_f12 : f12 0 = f 0 := by rw [ef12]; exact ha0_f2
        refine lv_iconst (v := 1) hx hb dX11_cloth_28 (by decide) ?_
        refine lv_istore_n (lv' := [(2, .int 1), (1, .int l1_2), (0, .ref y0)]) hx hb dX11_cloth_29 rfl hl (by decide) rfl (fun ls hl => ?_)
        have lp13 : ∀ (n13 : Nat) (l2_13 : Int32) (v13 : Nat → Int32) (f13 : Nat → Nat → Int32) (w13 : Int64) (g13 : Nat → Int64), YI v13 → YC f13 → progOK (f13 4) (f13 5) (v13 9).toInt.toNat → v13 0 = (v 0) → v13 1 = (v 1) → v13 2 = (v 2) → v13 3 = (v 3) → v13 4 = (v 4) → v13 5 = (v 5) → v13 8 = (v 8) → v13 9 = (v 9) → v13 10 = (v 10) → v13 13 = (v 13) → v13 14 = (v 14) → v13 15 = (v 15) → v13 17 = (v 17) → v13 18 = (v 18) → v13 24 = (v 24) → v13 25 = (v 25) → v13 35 = (v 35) → v13 36 = (v 36) → v13 38 = (v 38) → v13 39 = (v 39) → ((1 : Int) ≤ l2_13.toInt ∧ l2_13.toInt ≤ 2147483647) → f13 0 = f 0 → (2147483647 - l2_13.toInt).toNat < n13 → ∀ (H : Heap) (locs : List Loc) (ls : Array Slot), va_P (dC, dI) vwCl (YW cy y0 r v13 f13 w13 g13) H → va_D A (YW cy y0 r v13 f13 w13 g13) → va_S A s.heap H locs → lv_has ls 3 [(2, .int l2_13), (1, .int l1_2), (0, .ref y0)] → W p l e { frames := 3, cells := 0, slots := 0, locals := 105 } s m ([.ref y0] : List Value).toArray below meth c H locs 0 0 Q (F0 m 30 ls []) := by
          intro n13
          induction n13 with
          | zero => intro l2_13 v13 f13 w13 g13 hIv13 hCf13 hRf13 hq0_v13 hq1_v13 hq2_v13 hq3_v13 hq4_v13 hq5_v13 hq8_v13 hq9_v13 hq10_v13 hq13_v13 hq14_v13 hq15_v13 hq17_v13 hq18_v13 hq24_v13 hq25_v13 hq35_v13 hq36_v13 hq38_v13 hq39_v13 hr2_13 ha0_f13 hm; exact absurd hm (Nat.not_lt_zero _)
          | succ n13 ih13 =>
            intro l2_13 v13 f13 w13 g13 hIv13 hCf13 hRf13 hq0_v13 hq1_v13 hq2_v13 hq3_v13 hq4_v13 hq5_v13 hq8_v13 hq9_v13 hq10_v13 hq13_v13 hq14_v13 hq15_v13 hq17_v13 hq18_v13 hq24_v13 hq25_v13 hq35_v13 hq36_v13 hq38_v13 hq39_v13 hr2_13 ha0_f13 hm13 H locs ls hP hD hS hl
            have hUv13 : (v13 35).toInt + (v13 36).toInt ≤ 40 := hIv13.2
            have zq3_v13 := congrArg Int32.toInt hq3_v13
            have zq4_v13 := congrArg Int32.toInt hq4_v13
            have zq5_v13 := congrArg Int32.toInt hq5_v13
            have zq9_v13 := congrArg Int32.toInt hq9_v13
            have zq35_v13 := congrArg Int32.toInt hq35_v13
            have zq36_v13 := congrArg Int32.toInt hq36_v13
            refine lv_iload_n hx hb dX11_cloth_30 rfl (lv_at hl 0 rfl) ?_
            refine lv_iload_n hx hb dX11_cloth_31 rfl (lv_at hl 1 rfl) ?_
            refine lv_icmp_gt (tgt := 80) hx hb dX11_cloth_32 (by decide) (fun c14 => ?_) (fun c14 => ?_)
            · skip
              have zc14 : l1_2.toInt < l2_13.toInt := by rw [fa_lt] at c14; exact c14
              have rg15 := fb_rng l2_13
              obtain ⟨t16, et16⟩ : ∃ y : Int32, y = l1_2 + 1 := ⟨_, rfl⟩
              have zt16 : t16.toInt = l1_2.toInt + 1 := by rw [et16]; exact add_i rfl (by decide) (by omega) (by omega)
              refine lv_iinc (v := t16) (lv' := [(1, .int t16), (2, .int l2_13), (0, .ref y0)]) hx hb dX11_cloth_80 hl (k := 1) rfl (by rw [et16]; rfl) (by decide) rfl (fun ls hl => ?_)
              refine lv_goto (tgt := 9) hx hb dX11_cloth_83 (by decide) ?_
              have rg17 := fb_rng t16
              exact ih2 t16 v13 f13 w13 g13 hIv13 hCf13 hRf13 hq0_v13 hq1_v13 hq2_v13 hq3_v13 hq4_v13 hq5_v13 hq8_v13 hq9_v13 hq10_v13 hq13_v13 hq14_v13 hq15_v13 hq17_v13 hq18_v13 hq24_v13 hq25_v13 hq35_v13 hq36_v13 hq38_v13 hq39_v13 ⟨show (1 : Int) ≤ t16.toInt by omega, show t16.toInt ≤ (2147483647 : Int) by omega⟩ ha0_f13 (by show (2147483647 - t16.toInt).toNat < n2; omega) _ _ _ hP hD hS (lv_sub hl [0, 2] rfl)
            · skip
              have zc14 : ¬ (l1_2.toInt < l2_13.toInt) := by rw [fa_lt] at c14; exact c14
              have rg18 := fb_rng l2_13
              refine lv_iload_n hx hb dX11_cloth_35 rfl (lv_at hl 0 rfl) ?_
              refine lv_iload_n hx hb dX11_cloth_36 rfl (lv_at hl 1 rfl) ?_
              refine lv_iconst (v := (-1)) hx hb dX11_cloth_37 (by decide) ?_
              refine lv_ixor hx hb dX11_cloth_38 ?_
              refine lv_topi (fun t19 et19 => ?_)
              refine lv_iand hx hb dX11_cloth_39 ?_
              refine lv_topi (fun t20 et20 => ?_)
              have zt20 : 0 ≤ t20.toInt ∧ t20.toInt ≤ 63 := by rw [et20]; exact and_left (by omega) (by omega)
              refine lv_if_ne (tgt := 74) hx hb dX11_cloth_40 (by decide) (fun c21 => ?_) (fun c21 => ?_)
              · skip
                have zc21 : ¬ (t20.toInt = 0) := by rw [fa_eq, show (0 : Int32).toInt = 0 from by decide] at c21; exact c21
                obtain ⟨t22, et22⟩ : ∃ y : Int32, y = l2_13 + 1 := ⟨_, rfl⟩
                have zt22 : t22.toInt = l2_13.toInt + 1 := by rw [et22]; exact add_i rfl (by decide) (by omega) (by omega)
                refine lv_iinc (v := t22) (lv' := [(2, .int t22), (1, .int l1_2), (0, .ref y0)]) hx hb dX11_cloth_74 hl (k := 0) rfl (by rw [et22]; rfl) (by decide) rfl (fun ls hl => ?_)
                refine lv_goto (tgt := 30) hx hb dX11_cloth_77 (by decide) ?_
                have rg23 := fb_rng t22
                exact ih13 t22 v13 f13 w13 g13 hIv13 hCf13 hRf13 hq0_v13 hq1_v13 hq2_v13 hq3_v13 hq4_v13 hq5_v13 hq8_v13 hq9_v13 hq10_v13 hq13_v13 hq14_v13 hq15_v13 hq17_v13 hq18_v13 hq24_v13 hq25_v13 hq35_v13 hq36_v13 hq38_v13 hq39_v13 ⟨show (1 : Int) ≤ t22.toInt by omega, show t22.toInt ≤ (2147483647 : Int) by omega⟩ ha0_f13 (by show (2147483647 - t22.toInt).toNat < n13; omega) _ _ _ hP hD hS (lv_sub hl [0, 1, 2] rfl)
              · skip
                have zc21 : t20.toInt = 0 := by rw [fa_eq, show (0 : Int32).toInt = 0 from by decide] at c21; exact c21
                refine lv_aload_n hx hb dX11_cloth_43 rfl (lv_at hl 2 rfl) ?_
                refine va_get (D := (dC, dI)) (ci := 11) (v := .ref (r 68)) (C := RX11) (T := TX11) (N := 79) hx hb hts inB_11 hown hE.1 hP 0 rfl rfl 68 (by decide) (hts _ k_1388) (fun _ h9 => h9) rfl dX11_cloth_44 ?_
                refine lv_iload_n hx hb dX11_cloth_47 rfl (lv_at hl 1 rfl) ?_
                refine lv_aload_n hx hb dX11_cloth_48 rfl (lv_at hl 2 rfl) ?_
                refine va_get (D := (dC, dI)) (ci := 11) (v := .ref (r 68)) (C := RX11) (T := TX11) (N := 79) hx hb hts inB_11 hown hE.1 hP 0 rfl rfl 68 (by decide) (hts _ k_1388) (fun _ h9 => h9) rfl dX11_cloth_49 ?_
                refine lv_iload_n hx hb dX11_cloth_52 rfl (lv_at hl 1 rfl) ?_
                refine ldI hx hb hE hP 30 rfl (vp_in_iff.mpr ⟨by omega, by omega⟩) rfl rfl dX11_cloth_53 ?_
                refine lv_topi (fun t24 et24 => ?_)
                refine lv_aload_n hx hb dX11_cloth_54 rfl (lv_at hl 2 rfl) ?_
                refine lv_iload_n hx hb dX11_cloth_55 rfl (lv_at hl 0 rfl) ?_
                refine cbVi (n := 1) (rest := [.int t24, .int l1_2, .ref (r 68)]) hx hb hml hown hts hE hP hD hS hA (sY_X11_rowOf_1 l dC dI cy y0 r l2_13 v13 f13 w13 g13 hIv13 hCf13 hRf13 ) k_1928 k_1930 k_89 k_114 k_1931 (by decide +kernel) ⟨Nat.le_of_ble_eq_true rfl, Nat.le_of_ble_eq_true rfl⟩ 0 11 rfl rfl (rfl) hl.1 rfl (Nat.le_of_ble_eq_true rfl) dX11_cloth_56 (fun r25 u H locs hw hP hD hS => ?_)
                refine lv_aload_n hx hb dX11_cloth_59 rfl (lv_at hl 2 rfl) ?_
                refine va_get (D := (dC, dI)) (ci := 11) (v := .ref (r 68)) (C := RX11) (T := TX11) (N := 79) hx hb hts inB_11 hown hE.1 hP 0 rfl rfl 68 (by decide) (hts _ k_1388) (fun _ h9 => h9) rfl dX11_cloth_60 ?_
                refine lv_iload_n hx hb dX11_cloth_63 rfl (lv_at hl 1 rfl) ?_
                refine lv_iload_n hx hb dX11_cloth_64 rfl (lv_at hl 0 rfl) ?_
                refine lv_iconst (v := (-1)) hx hb dX11_cloth_65 (by decide) ?_
                refine lv_ixor hx hb dX11_cloth_66 ?_
                refine lv_topi (fun t26 et26 => ?_)
                refine lv_iand hx hb dX11_cloth_67 ?_
                refine lv_topi (fun t27 et27 => ?_)
                have zt27 : 0 ≤ t27.toInt ∧ t27.toInt ≤ 63 := by rw [et27]; exact and_left (by omega) (by omega)
                refine ldI hx hb hE hP 30 rfl (vp_in_iff.mpr ⟨by omega, by omega⟩) rfl rfl dX11_cloth_68 ?_
                refine lv_topi (fun t28 et28 => ?_)
                refine lv_iadd hx hb dX11_cloth_69 ?_
                refine lv_topi (fun t29 et29 => ?_)
                refine cbSi (n := 2) (rest := [.int l1_2, .ref (r 68)]) hx hb hml hown hts hE hP hD hS hA (sY_X11_lesser_1 l dC dI cy y0 r t24 t29 v13 f13 w13 g13 hIv13 hCf13 hRf13 ) k_1799 k_1800 k_114 k_1801 (by decide +kernel) ⟨Nat.le_of_ble_eq_true rfl, Nat.le_of_ble_eq_true rfl⟩ (rfl) hl.1 rfl (Nat.le_of_ble_eq_true rfl) dX11_cloth_70 (fun r30 u H locs hw hP hD hS => ?_)
                obtain ⟨pp31, pp32⟩ := hw
                have pp31 : r30.toInt ≤ t24.toInt := pp31
                have pp32 : r30.toInt ≤ t29.toInt := pp32
                refine stI hx hb hE hP hD hS 30 rfl (vp_in_iff.mpr ⟨by omega, by omega⟩) rfl dX11_cloth_73 (fun H locs hP hD hS => ?_)
                obtain ⟨f33, ef33, hP, hD⟩ : ∃ fz9, fz9 = upd2 f13 29 (upd (f13 29) l1_2.toNatClampNeg r30) ∧ va_P (dC, dI) vwCl (YW cy y0 r v13 fz9 w13 g13) H ∧ va_D A (YW cy y0 r v13 fz9 w13 g13) := ⟨_, rfl, hP, hD⟩
                have hCf33 : YC f33 := by rw [ef33]; exact hCf13
                have hRf33 : progOK (f33 4) (f33 5) (v13 9).toInt.toNat := by rw [ef33]; exact hRf13
                have ha0_f33 : f33 0 = f 0 := by rw [ef33]; exact ha0_f13
                obtain ⟨t34, et34⟩ : ∃ y : Int32, y = l2_13 + 1 := ⟨_, rfl⟩
                have zt34 : t34.toInt = l2_13.toInt + 1 := by rw [et34]; exact add_i rfl (by decide) (by omega) (by omega)
                refine lv_iinc (v := t34) (lv' := [(2, .int t34), (1, .int l1_2), (0, .ref y0)]) hx hb dX11_cloth_74 hl (k := 0) rfl (by rw [et34]; rfl) (by decide) rfl (fun ls hl => ?_)
                refine lv_goto (tgt := 30) hx hb dX11_cloth_77 (by decide) ?_
                have rg35 := fb_rng t34
                exact ih13 t34 v13 f33 w13 g13 hIv13 hCf33 hRf33 hq0_v13 hq1_v13 hq2_v13 hq3_v13 hq4_v13 hq5_v13 hq8_v13 hq9_v13 hq10_v13 hq13_v13 hq14_v13 hq15_v13 hq17_v13 hq18_v13 hq24_v13 hq25_v13 hq35_v13 hq36_v13 hq38_v13 hq39_v13 ⟨show (1 : Int) ≤ t34.toInt by omega, show t34.toInt ≤ (2147483647 : Int) by omega⟩ ha0_f33 (by show (2147483647 - t34.toInt).toNat < n13; omega) _ _ _ hP hD hS (lv_sub hl [0, 1, 2] rfl)
        exact lp13 _ 1 v2 f12 w2 g2 hIv2 hCf12 hRf12 hq0_v2 hq1_v2 hq2_v2 hq3_v2 hq4_v2 hq5_v2 hq8_v2 hq9_v2 hq10_v2 hq13_v2 hq14_v2 hq15_v2 hq17_v2 hq18_v2 hq24_v2 hq25_v2 hq35_v2 hq36_v2 hq38_v2 hq39_v2 ⟨by decide, by decide⟩ ha0_f12 (Nat.lt_succ_self _) _ _ _ hP hD hS (lv_sub hl [0, 1, 2] rfl)
  exact lp2 _ 1 v f1 w g hIv hCf1 hRf1 rfl rfl rfl rfl rfl rfl rfl rfl rfl rfl rfl rfl rfl rfl rfl rfl rfl rfl rfl rfl ⟨by decide, by decide⟩ ha0_f1 (Nat.lt_succ_self _) _ _ _ hP hD hS (lv_sub hl [0, 1] rfl)
