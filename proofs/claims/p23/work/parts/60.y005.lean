set_option maxHeartbeats 4000000 in
set_option maxRecDepth 100000 in
theorem sY_X11_change_1 (l : Launch) (dC : Nat → ClassId) (dI : Nat → Nat → Nat) (cy : Nat → ClassId) (y0 : Nat) (r : Nat → Nat) (p1 : Int32) (v : Nat → Int32) (f : Nat → Nat → Int32) (w : Int64) (g : Nat → Int64) (hIv : YI v) (hCf : YC f) (hRf : progOK (f 4) (f 5) (v 9).toInt.toNat)  : ctI l (dC, dI) cy yX11_change cX11_change 7 .int 8 211 0 0 ((Nat → Int32) × (Nat → Nat → Int32) × (Int64) × (Nat → Int64)) [.ref y0, .int p1] (YW cy y0 r v f w g) (fun r u => KV [] u.1 v ∧ KF [7, 8, 24] u.2.1 f ∧ YI u.1 ∧ YC u.2.1 ∧ progOK (u.2.1 4) (u.2.1 5) (u.1 9).toInt.toNat ∧ u.1 0 = v 0 ∧ u.1 1 = v 1 ∧ u.1 2 = v 2 ∧ u.1 3 = v 3 ∧ u.1 4 = v 4 ∧ u.1 5 = v 5 ∧ u.1 8 = v 8 ∧ u.1 9 = v 9 ∧ u.1 10 = v 10 ∧ u.1 13 = v 13 ∧ u.1 14 = v 14 ∧ u.1 15 = v 15 ∧ u.1 17 = v 17 ∧ u.1 18 = v 18 ∧ u.1 24 = v 24 ∧ u.1 25 = v 25 ∧ u.1 35 = v 35 ∧ u.1 36 = v 36 ∧ u.1 38 = v 38 ∧ u.1 39 = v 39) (fun u => YW cy y0 r u.1 u.2.1 u.2.2.1 u.2.2.2) := by
  refine ctI_of (by decide) (Nat.le_of_ble_eq_true rfl) (fun p e s m below meth c A ls Q hx hb hml hts hown hE hP hD hA hl ret => ?_)
  have hUv : (v 35).toInt + (v 36).toInt ≤ 40 := hIv.2
  have hM_v : KV [] v v := fun _ _ => rfl
  have hA_f : KF [7, 8, 24] f f := fun _ _ => rfl
  have hown : s.vm.findClass RX11 = some m.cls := hown
  have hS : va_S A s.heap s.heap [] := va_S.rf
  have hl : lv_has ls 7 [(0, .ref y0), (1, .int p1)] := hl
  refine lv_iload_n hx hb dX11_change_0 rfl (lv_at hl 1 rfl) ?_
  refine lv_iconst (v := 0) hx hb dX11_change_1 rfl ?_
  refine lv_iconst (v := 2) hx hb dX11_change_2 rfl ?_
  have lt1 : (0 : Int32).toInt = 0 := by decide
  have lt2 : (2 : Int32).toInt = 2 := by decide
  refine cbSi (n := 3) (rest := []) hx hb hml hown hts hE hP hD hS hA (sY_X11_isIn_1 0 l dC dI cy y0 r p1 0 2 v f w g hIv hCf hRf ) k_1736 k_1737 k_114 k_1738 he_yX11_isIn ⟨Nat.le_of_ble_eq_true rfl, Nat.le_of_ble_eq_true rfl⟩ (rfl) hl.1 rfl (Nat.le_of_ble_eq_true rfl) dX11_change_3 (fun r3 u H locs hw hP hD hS => ?_)
  obtain ⟨hG4, hw⟩ := hw
  rcases hw with ⟨g5, g5_0, g5_1⟩ | ⟨g5⟩
  · skip
    subst g5
    refine lv_if_ne (tgt := 11) hx hb dX11_change_6 rfl (fun _ => ?_) (fun c0 => absurd c0 (by decide))
    refine lv_aload_n hx hb dX11_change_11 rfl (lv_at hl 0 rfl) ?_
    refine cbVi (n := 0) (rest := []) hx hb hml hown hts hE hP hD hS hA (sY_X11_fitted_1 0 l dC dI cy y0 r  v f w g hIv hCf hRf ) k_1907 k_1866 k_1867 k_114 k_1868 hd_yX11_fitted ⟨Nat.le_of_ble_eq_true rfl, Nat.le_of_ble_eq_true rfl⟩ 0 11 rfl rfl (rfl) hl.1 rfl (Nat.le_of_ble_eq_true rfl) dX11_change_12 (fun r6 u H locs hw hP hD hS => ?_)
    obtain ⟨hG7, hw⟩ := hw
    obtain ⟨v8, f9, w10, g11⟩ := u
    obtain ⟨kV_v8, kF_f9, hIv8, hCf9, hRf9, hk0_v8, hk1_v8, hk2_v8, hk3_v8, hk4_v8, hk5_v8, hk8_v8, hk9_v8, hk10_v8, hk13_v8, hk14_v8, hk15_v8, hk17_v8, hk18_v8, hk24_v8, hk25_v8, hk35_v8, hk36_v8, hk38_v8, hk39_v8⟩ := hw
    have hM_v8 : KV [] v8 v := KV.tr kV_v8 hM_v rfl
    have hA_f9 : KF [7, 8, 24] f9 f := KF.tr kF_f9 hA_f rfl
    have hP : va_P (dC, dI) vwCl (YW cy y0 r v8 f9 w10 g11) H := hP
    have hD : va_D A (YW cy y0 r v8 f9 w10 g11) := hD
    have hUv8 : (v8 35).toInt + (v8 36).toInt ≤ 40 := hIv8.2
    have hq0_v8 : v8 0 = (v 0) := hk0_v8
    have hq1_v8 : v8 1 = (v 1) := hk1_v8
    have hq2_v8 : v8 2 = (v 2) := hk2_v8
    have hq3_v8 : v8 3 = (v 3) := hk3_v8
    have hq4_v8 : v8 4 = (v 4) := hk4_v8
    have hq5_v8 : v8 5 = (v 5) := hk5_v8
    have hq8_v8 : v8 8 = (v 8) := hk8_v8
    have hq9_v8 : v8 9 = (v 9) := hk9_v8
    have zq9_v8 := congrArg Int32.toInt hq9_v8
    have hq10_v8 : v8 10 = (v 10) := hk10_v8
    have hq13_v8 : v8 13 = (v 13) := hk13_v8
    have hq14_v8 : v8 14 = (v 14) := hk14_v8
    have hq15_v8 : v8 15 = (v 15) := hk15_v8
    have hq17_v8 : v8 17 = (v 17) := hk17_v8
    have hq18_v8 : v8 18 = (v 18) := hk18_v8
    have hq24_v8 : v8 24 = (v 24) := hk24_v8
    have hq25_v8 : v8 25 = (v 25) := hk25_v8
    have hq35_v8 : v8 35 = (v 35) := hk35_v8
    have hq36_v8 : v8 36 = (v 36) := hk36_v8
    have hq38_v8 : v8 38 = (v 38) := hk38_v8
    have hq39_v8 : v8 39 = (v 39) := hk39_v8
    refine cbSi (n := 1) (rest := []) hx hb hml hown hts hE hP hD hS hA (sY_X11_members_1 0 l dC dI cy y0 r r6 v8 f9 w10 g11 hIv8 hCf9 hRf9 ) k_1900 k_1901 k_114 k_1902 he_yX11_members ⟨Nat.le_of_ble_eq_true rfl, Nat.le_of_ble_eq_true rfl⟩ (rfl) hl.1 rfl (Nat.le_of_ble_eq_true rfl) dX11_change_15 (fun r12 u H locs hw hP hD hS => ?_)
    have hG13 := hw
    refine lv_istore_n (lv' := [(2, .int r12), (0, .ref y0), (1, .int p1)]) hx hb dX11_change_18 rfl hl (Nat.le_of_ble_eq_true rfl) rfl (fun ls hl => ?_)
    refine lv_iconst (v := (-1)) hx hb dX11_change_19 rfl ?_
    refine lv_istore_n (lv' := [(3, .int (-1)), (2, .int r12), (0, .ref y0), (1, .int p1)]) hx hb dX11_change_20 rfl hl (Nat.le_of_ble_eq_true rfl) rfl (fun ls hl => ?_)
    refine lv_iconst (v := 0) hx hb dX11_change_21 rfl ?_
    refine lv_istore (lv' := [(4, .int 0), (3, .int (-1)), (2, .int r12), (0, .ref y0), (1, .int p1)]) hx hb dX11_change_22 hl (Nat.le_of_ble_eq_true rfl) rfl (fun ls hl => ?_)
    have lp14 : ∀ (n14 : Nat) (l2_14 : Int32) (l3_14 : Int32) (l4_14 : Int32) (v14 : Nat → Int32) (f14 : Nat → Nat → Int32) (w14 : Int64) (g14 : Nat → Int64), YI v14 → YC f14 → progOK (f14 4) (f14 5) (v14 9).toInt.toNat → v14 0 = (v 0) → v14 1 = (v 1) → v14 2 = (v 2) → v14 3 = (v 3) → v14 4 = (v 4) → v14 5 = (v 5) → v14 8 = (v 8) → v14 9 = (v 9) → v14 10 = (v 10) → v14 13 = (v 13) → v14 14 = (v 14) → v14 15 = (v 15) → v14 17 = (v 17) → v14 18 = (v 18) → v14 24 = (v 24) → v14 25 = (v 25) → v14 35 = (v 35) → v14 36 = (v 36) → v14 38 = (v 38) → v14 39 = (v 39) → ((0 : Int) ≤ l4_14.toInt ∧ l4_14.toInt ≤ 2147483647) → KV [] v14 v → KF [7, 8, 24] f14 f → (2147483647 - l4_14.toInt).toNat < n14 → ∀ (H : Heap) (locs : List Loc) (ls : Array Slot), va_P (dC, dI) vwCl (YW cy y0 r v14 f14 w14 g14) H → va_D A (YW cy y0 r v14 f14 w14 g14) → va_S A s.heap H locs → lv_has ls 7 [(4, .int l4_14), (3, .int l3_14), (2, .int l2_14), (0, .ref y0), (1, .int p1)] → W p l e { frames := 8, cells := 0, slots := 0, locals := 211 } s m ([.ref y0, .int p1] : List Value).toArray below meth c H locs 0 0 Q (F0 m 24 ls []) := by
      intro n14
      induction n14 with
      | zero => intro l2_14 l3_14 l4_14 v14 f14 w14 g14 hIv14 hCf14 hRf14 hq0_v14 hq1_v14 hq2_v14 hq3_v14 hq4_v14 hq5_v14 hq8_v14 hq9_v14 hq10_v14 hq13_v14 hq14_v14 hq15_v14 hq17_v14 hq18_v14 hq24_v14 hq25_v14 hq35_v14 hq36_v14 hq38_v14 hq39_v14 hr4_14 hM_v14 hA_f14 hm; exact absurd hm (Nat.not_lt_zero _)
      | succ n14 ih14 =>
        intro l2_14 l3_14 l4_14 v14 f14 w14 g14 hIv14 hCf14 hRf14 hq0_v14 hq1_v14 hq2_v14 hq3_v14 hq4_v14 hq5_v14 hq8_v14 hq9_v14 hq10_v14 hq13_v14 hq14_v14 hq15_v14 hq17_v14 hq18_v14 hq24_v14 hq25_v14 hq35_v14 hq36_v14 hq38_v14 hq39_v14 hr4_14 hM_v14 hA_f14 hm14 H locs ls hP hD hS hl
        have hUv14 : (v14 35).toInt + (v14 36).toInt ≤ 40 := hIv14.2
        have zq9_v14 := congrArg Int32.toInt hq9_v14
        refine lv_iload hx hb dX11_change_24 (lv_at hl 0 rfl) ?_
        refine lv_aload_n hx hb dX11_change_26 rfl (lv_at hl 3 rfl) ?_
        refine va_get (D := (dC, dI)) (ci := 11) (v := .int (v14 24)) (C := RX11) (T := TX11) (N := 79) hx hb hts inB_11 hown hE.1 hP 0 rfl rfl 48 (Nat.le_of_ble_eq_true rfl) (hts _ k_1368) (fun _ h9 => h9) rfl dX11_change_27 ?_
        refine tI (y := (v 24)) hq24_v14 ?_
        have b24_v : 0 ≤ (v 24).toInt ∧ (v 24).toInt ≤ 6 := Yb_24 hIv.1
        refine lv_icmp_ge (tgt := 134) hx hb dX11_change_30 rfl (fun c15 => ?_) (fun c15 => ?_)
        · skip
          refine lv_iload_n hx hb dX11_change_134 rfl (lv_at hl 1 rfl) ?_
          refine lv_if_ge (tgt := 142) hx hb dX11_change_135 rfl (fun c18 => ?_) (fun c18 => ?_)
          · skip
            refine lv_iload_n hx hb dX11_change_142 rfl (lv_at hl 4 rfl) ?_
            refine lv_if_ne (tgt := 153) hx hb dX11_change_143 rfl (fun c19 => ?_) (fun c19 => ?_)
            · skip
              refine lv_iload_n hx hb dX11_change_153 rfl (lv_at hl 4 rfl) ?_
              refine lv_iconst (v := 1) hx hb dX11_change_154 rfl ?_
              refine lv_icmp_ne (tgt := 165) hx hb dX11_change_155 rfl (fun c20 => ?_) (fun c20 => ?_)
              · skip
                refine lv_iload_n hx hb dX11_change_165 rfl (lv_at hl 2 rfl) ?_
                exact ret l2_14 (v14, f14, w14, g14) _ _ _ _ _ _ rfl ⟨hM_v14, hA_f14, hIv14, hCf14, hRf14, hq0_v14, hq1_v14, hq2_v14, hq3_v14, hq4_v14, hq5_v14, hq8_v14, hq9_v14, hq10_v14, hq13_v14, hq14_v14, hq15_v14, hq17_v14, hq18_v14, hq24_v14, hq25_v14, hq35_v14, hq36_v14, hq38_v14, hq39_v14⟩ hP hD hS dX11_change_166 (Nat.le_refl _) (Nat.le_refl _)
              · skip
                refine lv_iload_n hx hb dX11_change_158 rfl (lv_at hl 1 rfl) ?_
                refine lv_bipush (v := 6) hx hb dX11_change_159 rfl ?_
                refine lv_irem hx hb dX11_change_161 (by decide) ?_
                refine lv_topi (fun t21 et21 => ?_)
                refine lv_goto (tgt := 166) hx hb dX11_change_162 rfl ?_
                exact ret t21 (v14, f14, w14, g14) _ _ _ _ _ _ rfl ⟨hM_v14, hA_f14, hIv14, hCf14, hRf14, hq0_v14, hq1_v14, hq2_v14, hq3_v14, hq4_v14, hq5_v14, hq8_v14, hq9_v14, hq10_v14, hq13_v14, hq14_v14, hq15_v14, hq17_v14, hq18_v14, hq24_v14, hq25_v14, hq35_v14, hq36_v14, hq38_v14, hq39_v14⟩ hP hD hS dX11_change_166 (Nat.le_refl _) (Nat.le_refl _)
            · skip
              refine lv_iload_n hx hb dX11_change_146 rfl (lv_at hl 1 rfl) ?_
              refine lv_bipush (v := 6) hx hb dX11_change_147 rfl ?_
              refine lv_idiv hx hb dX11_change_149 (by decide) ?_
              refine lv_topi (fun t22 et22 => ?_)
              refine lv_goto (tgt := 166) hx hb dX11_change_150 rfl ?_
              exact ret t22 (v14, f14, w14, g14) _ _ _ _ _ _ rfl ⟨hM_v14, hA_f14, hIv14, hCf14, hRf14, hq0_v14, hq1_v14, hq2_v14, hq3_v14, hq4_v14, hq5_v14, hq8_v14, hq9_v14, hq10_v14, hq13_v14, hq14_v14, hq15_v14, hq17_v14, hq18_v14, hq24_v14, hq25_v14, hq35_v14, hq36_v14, hq38_v14, hq39_v14⟩ hP hD hS dX11_change_166 (Nat.le_refl _) (Nat.le_refl _)
          · skip
            refine lv_iconst (v := (-1)) hx hb dX11_change_138 rfl ?_
            refine lv_goto (tgt := 166) hx hb dX11_change_139 rfl ?_
            exact ret (-1) (v14, f14, w14, g14) _ _ _ _ _ _ rfl ⟨hM_v14, hA_f14, hIv14, hCf14, hRf14, hq0_v14, hq1_v14, hq2_v14, hq3_v14, hq4_v14, hq5_v14, hq8_v14, hq9_v14, hq10_v14, hq13_v14, hq14_v14, hq15_v14, hq17_v14, hq18_v14, hq24_v14, hq25_v14, hq35_v14, hq36_v14, hq38_v14, hq39_v14⟩ hP hD hS dX11_change_166 (Nat.le_refl _) (Nat.le_refl _)
        · skip
          have zc15 : ¬ ((v 24).toInt ≤ l4_14.toInt) := zMn rfl rfl c15
          have rg23 := fb_rng l4_14
          have rg24 := fb_rng (v 24)
          refine lv_iload hx hb dX11_change_33 (lv_at hl 0 rfl) ?_
          refine lv_iconst (v := 1) hx hb dX11_change_35 rfl ?_
          refine lv_iadd hx hb dX11_change_36 ?_
          refine lv_topi (fun t25 et25 => ?_)
          have zt25 : t25.toInt = l4_14.toInt + 1 := (congrArg Int32.toInt et25).trans (add_i rfl tc_1 (om_41 hr4_14) (om_187 b24_v zc15))
          refine lv_istore (lv' := [(5, .int t25), (4, .int l4_14), (3, .int l3_14), (2, .int l2_14), (0, .ref y0), (1, .int p1)]) hx hb dX11_change_37 hl (Nat.le_of_ble_eq_true rfl) rfl (fun ls hl => ?_)
          have lp26 : ∀ (n26 : Nat) (l2_26 : Int32) (l3_26 : Int32) (l5_26 : Int32) (v26 : Nat → Int32) (f26 : Nat → Nat → Int32) (w26 : Int64) (g26 : Nat → Int64), YI v26 → YC f26 → progOK (f26 4) (f26 5) (v26 9).toInt.toNat → v26 0 = (v 0) → v26 1 = (v 1) → v26 2 = (v 2) → v26 3 = (v 3) → v26 4 = (v 4) → v26 5 = (v 5) → v26 8 = (v 8) → v26 9 = (v 9) → v26 10 = (v 10) → v26 13 = (v 13) → v26 14 = (v 14) → v26 15 = (v 15) → v26 17 = (v 17) → v26 18 = (v 18) → v26 24 = (v 24) → v26 25 = (v 25) → v26 35 = (v 35) → v26 36 = (v 36) → v26 38 = (v 38) → v26 39 = (v 39) → ((1 : Int) ≤ l5_26.toInt ∧ l5_26.toInt ≤ 2147483647) → KV [] v26 v → KF [7, 8, 24] f26 f → (2147483647 - l5_26.toInt).toNat < n26 → ∀ (H : Heap) (locs : List Loc) (ls : Array Slot), va_P (dC, dI) vwCl (YW cy y0 r v26 f26 w26 g26) H → va_D A (YW cy y0 r v26 f26 w26 g26) → va_S A s.heap H locs → lv_has ls 7 [(5, .int l5_26), (4, .int l4_14), (3, .int l3_26), (2, .int l2_26), (0, .ref y0), (1, .int p1)] → W p l e { frames := 8, cells := 0, slots := 0, locals := 211 } s m ([.ref y0, .int p1] : List Value).toArray below meth c H locs 0 0 Q (F0 m 39 ls []) := by
            intro n26
            induction n26 with
            | zero => intro l2_26 l3_26 l5_26 v26 f26 w26 g26 hIv26 hCf26 hRf26 hq0_v26 hq1_v26 hq2_v26 hq3_v26 hq4_v26 hq5_v26 hq8_v26 hq9_v26 hq10_v26 hq13_v26 hq14_v26 hq15_v26 hq17_v26 hq18_v26 hq24_v26 hq25_v26 hq35_v26 hq36_v26 hq38_v26 hq39_v26 hr5_26 hM_v26 hA_f26 hm; exact absurd hm (Nat.not_lt_zero _)
            | succ n26 ih26 =>
              intro l2_26 l3_26 l5_26 v26 f26 w26 g26 hIv26 hCf26 hRf26 hq0_v26 hq1_v26 hq2_v26 hq3_v26 hq4_v26 hq5_v26 hq8_v26 hq9_v26 hq10_v26 hq13_v26 hq14_v26 hq15_v26 hq17_v26 hq18_v26 hq24_v26 hq25_v26 hq35_v26 hq36_v26 hq38_v26 hq39_v26 hr5_26 hM_v26 hA_f26 hm26 H locs ls hP hD hS hl
              have hUv26 : (v26 35).toInt + (v26 36).toInt ≤ 40 := hIv26.2
              have zq9_v26 := congrArg Int32.toInt hq9_v26
              refine lv_iload hx hb dX11_change_39 (lv_at hl 0 rfl) ?_
              refine lv_aload_n hx hb dX11_change_41 rfl (lv_at hl 4 rfl) ?_
              refine va_get (D := (dC, dI)) (ci := 11) (v := .int (v26 24)) (C := RX11) (T := TX11) (N := 79) hx hb hts inB_11 hown hE.1 hP 0 rfl rfl 48 (Nat.le_of_ble_eq_true rfl) (hts _ k_1368) (fun _ h9 => h9) rfl dX11_change_42 ?_
              refine tI (y := (v 24)) hq24_v26 ?_
              have b24_v : 0 ≤ (v 24).toInt ∧ (v 24).toInt ≤ 6 := Yb_24 hIv.1
              refine lv_icmp_ge (tgt := 128) hx hb dX11_change_45 rfl (fun c27 => ?_) (fun c27 => ?_)
              · skip
                obtain ⟨t29, et29⟩ : ∃ y : Int32, y = l4_14 + 1 := ⟨_, rfl⟩
                have zt29 : t29.toInt = l4_14.toInt + 1 := (congrArg Int32.toInt et29).trans (add_i rfl tc_1 (om_41 hr4_14) (om_258 zc15 b24_v))
                refine lv_iinc (v := t29) (lv' := [(4, .int t29), (5, .int l5_26), (3, .int l3_26), (2, .int l2_26), (0, .ref y0), (1, .int p1)]) hx hb dX11_change_128 hl (k := 1) rfl et29.symm (Nat.le_of_ble_eq_true rfl) rfl (fun ls hl => ?_)
                refine lv_goto (tgt := 24) hx hb dX11_change_131 rfl ?_
                have rg30 := fb_rng t29
                exact ih14 l2_26 l3_26 t29 v26 f26 w26 g26 hIv26 hCf26 hRf26 hq0_v26 hq1_v26 hq2_v26 hq3_v26 hq4_v26 hq5_v26 hq8_v26 hq9_v26 hq10_v26 hq13_v26 hq14_v26 hq15_v26 hq17_v26 hq18_v26 hq24_v26 hq25_v26 hq35_v26 hq36_v26 hq38_v26 hq39_v26 ⟨show (0 : Int) ≤ t29.toInt from om_43 hr4_14 zt29, show t29.toInt ≤ (2147483647 : Int) from om_44 rg30⟩ hM_v26 hA_f26 (show (2147483647 - t29.toInt).toNat < n14 from om_33 hm14 zt29 rg30) _ _ _ hP hD hS (lv_sub hl [0, 2, 3, 4, 5] rfl)
              · skip
                have zc27 : ¬ ((v 24).toInt ≤ l5_26.toInt) := zMn rfl rfl c27
                have rg31 := fb_rng l5_26
                refine lv_aload_n hx hb dX11_change_48 rfl (lv_at hl 4 rfl) ?_
                refine cbVv (n := 0) (rest := []) hx hb hml hown hts hE hP hD hS hA (sY_X11_fill_1 0 l dC dI cy y0 r  v26 f26 w26 g26 hIv26 hCf26 hRf26 ) k_1739 k_1741 k_71 k_114 k_1742 hd_yX11_fill ⟨Nat.le_of_ble_eq_true rfl, Nat.le_of_ble_eq_true rfl⟩ 0 11 rfl rfl (rfl) hl.1 rfl (Nat.le_of_ble_eq_true rfl) dX11_change_49 (fun u H locs hw hP hD hS => ?_)
                obtain ⟨hG32, hw⟩ := hw
                obtain ⟨v33, f34, w35, g36⟩ := u
                obtain ⟨kV_v33, kF_f34, hIv33, hCf34, hRf34, hk0_v33, hk1_v33, hk2_v33, hk3_v33, hk4_v33, hk5_v33, hk8_v33, hk9_v33, hk10_v33, hk13_v33, hk14_v33, hk15_v33, hk17_v33, hk18_v33, hk24_v33, hk25_v33, hk35_v33, hk36_v33, hk38_v33, hk39_v33⟩ := hw
                have hM_v33 : KV [] v33 v := KV.tr kV_v33 hM_v26 rfl
                have hA_f34 : KF [7, 8, 24] f34 f := KF.tr kF_f34 hA_f26 rfl
                have hP : va_P (dC, dI) vwCl (YW cy y0 r v33 f34 w35 g36) H := hP
                have hD : va_D A (YW cy y0 r v33 f34 w35 g36) := hD
                have hUv33 : (v33 35).toInt + (v33 36).toInt ≤ 40 := hIv33.2
                have hq0_v33 : v33 0 = (v 0) := hk0_v33.trans hq0_v26
                have hq1_v33 : v33 1 = (v 1) := hk1_v33.trans hq1_v26
                have hq2_v33 : v33 2 = (v 2) := hk2_v33.trans hq2_v26
                have hq3_v33 : v33 3 = (v 3) := hk3_v33.trans hq3_v26
                have hq4_v33 : v33 4 = (v 4) := hk4_v33.trans hq4_v26
                have hq5_v33 : v33 5 = (v 5) := hk5_v33.trans hq5_v26
                have hq8_v33 : v33 8 = (v 8) := hk8_v33.trans hq8_v26
                have hq9_v33 : v33 9 = (v 9) := hk9_v33.trans hq9_v26
                have zq9_v33 := congrArg Int32.toInt hq9_v33
                have hq10_v33 : v33 10 = (v 10) := hk10_v33.trans hq10_v26
                have hq13_v33 : v33 13 = (v 13) := hk13_v33.trans hq13_v26
                have hq14_v33 : v33 14 = (v 14) := hk14_v33.trans hq14_v26
                have hq15_v33 : v33 15 = (v 15) := hk15_v33.trans hq15_v26
                have hq17_v33 : v33 17 = (v 17) := hk17_v33.trans hq17_v26
                have hq18_v33 : v33 18 = (v 18) := hk18_v33.trans hq18_v26
                have hq24_v33 : v33 24 = (v 24) := hk24_v33.trans hq24_v26
                have hq25_v33 : v33 25 = (v 25) := hk25_v33.trans hq25_v26
                have hq35_v33 : v33 35 = (v 35) := hk35_v33.trans hq35_v26
                have hq36_v33 : v33 36 = (v 36) := hk36_v33.trans hq36_v26
                have hq38_v33 : v33 38 = (v 38) := hk38_v33.trans hq38_v26
                have hq39_v33 : v33 39 = (v 39) := hk39_v33.trans hq39_v26
                refine lv_aload_n hx hb dX11_change_52 rfl (lv_at hl 4 rfl) ?_
                refine va_get (D := (dC, dI)) (ci := 11) (v := .ref (r 60)) (C := RX11) (T := TX11) (N := 79) hx hb hts inB_11 hown hE.1 hP 0 rfl rfl 60 (Nat.le_of_ble_eq_true rfl) (hts _ k_1380) (fun _ h9 => h9) rfl dX11_change_53 ?_
                refine lv_bipush (v := 6) hx hb dX11_change_56 rfl ?_
                refine lv_iload hx hb dX11_change_58 (lv_at hl 1 rfl) ?_
                refine lv_iadd hx hb dX11_change_60 ?_
                refine lv_topi (fun t37 et37 => ?_)
                have zt37 : t37.toInt = 6 + l4_14.toInt := (congrArg Int32.toInt et37).trans (add_i tc_6 rfl (om_120 hr4_14) (om_706 zc15 b24_v))
                refine lv_aload_n hx hb dX11_change_61 rfl (lv_at hl 4 rfl) ?_
                refine va_get (D := (dC, dI)) (ci := 11) (v := .ref (r 59)) (C := RX11) (T := TX11) (N := 79) hx hb hts inB_11 hown hE.1 hP 0 rfl rfl 59 (Nat.le_of_ble_eq_true rfl) (hts _ k_1379) (fun _ h9 => h9) rfl dX11_change_62 ?_
                refine lv_bipush (v := 6) hx hb dX11_change_65 rfl ?_
                refine lv_iload hx hb dX11_change_67 (lv_at hl 0 rfl) ?_
                refine lv_iadd hx hb dX11_change_69 ?_
                refine lv_topi (fun t38 et38 => ?_)
                have zt38 : t38.toInt = 6 + l5_26.toInt := (congrArg Int32.toInt et38).trans (add_i tc_6 rfl (om_707 hr5_26) (om_476 b24_v zc27))
                refine ldI hx hb hE hP 24 rfl (vpI (k := 39) rfl (show 0 ≤ t38.toInt from om_708 hr5_26 zt38) (show t38.toInt < 39 from om_477 b24_v zc27 zt38)) rfl rfl dX11_change_70 ?_
                refine lv_topi (fun t39 et39 => ?_)
                have zt39 : t38.toInt.toNat % 39 < 6 ∨ 12 ≤ t38.toInt.toNat % 39 ∨ (-1 ≤ t39.toInt ∧ t39.toInt ≤ 5) := by rw [et39]; exact wear_ld hCf34.1 (show t38.toInt.toNat < 39 from om_593 b24_v zc27 zt38)
                refine stI hx hb hE hP hD hS 25 rfl (vpI (k := 39) rfl (show 0 ≤ t37.toInt from om_121 hr4_14 zt37) (show t37.toInt < 39 from om_709 zc15 b24_v zt37)) rfl dX11_change_71 (fun H locs hP hD hS => ?_)
                obtain ⟨f40, ef40, hP, hD⟩ : ∃ fz9, fz9 = upd2 f34 24 (upd (f34 24) t37.toNatClampNeg t39) ∧ va_P (dC, dI) vwCl (YW cy y0 r v33 fz9 w35 g36) H ∧ va_D A (YW cy y0 r v33 fz9 w35 g36) := ⟨_, rfl, hP, hD⟩
                have hCf40 : YC f40 := by rw [ef40]; exact ⟨hCf34.1, (wear_st hCf34.2.1 (by show t37.toInt.toNat % 39 < 6 ∨ 12 ≤ t37.toInt.toNat % 39 ∨ (-1 ≤ t39.toInt ∧ t39.toInt ≤ 5); omega)), hCf34.2.2.1, hCf34.2.2.2.1, hCf34.2.2.2.2.1, hCf34.2.2.2.2.2⟩
                have hRf40 : progOK (f40 4) (f40 5) (v33 9).toInt.toNat := by rw [ef40]; exact hRf34
                have hA_f40 : KF [7, 8, 24] f40 f := by rw [ef40]; exact KF.up hA_f34 rfl
                refine lv_aload_n hx hb dX11_change_72 rfl (lv_at hl 4 rfl) ?_
                refine va_get (D := (dC, dI)) (ci := 11) (v := .ref (r 60)) (C := RX11) (T := TX11) (N := 79) hx hb hts inB_11 hown hE.1 hP 0 rfl rfl 60 (Nat.le_of_ble_eq_true rfl) (hts _ k_1380) (fun _ h9 => h9) rfl dX11_change_73 ?_
                refine lv_bipush (v := 6) hx hb dX11_change_76 rfl ?_
                refine lv_iload hx hb dX11_change_78 (lv_at hl 0 rfl) ?_
                refine lv_iadd hx hb dX11_change_80 ?_
                refine tI (y := t38) et38.symm ?_
                refine lv_aload_n hx hb dX11_change_81 rfl (lv_at hl 4 rfl) ?_
                refine va_get (D := (dC, dI)) (ci := 11) (v := .ref (r 59)) (C := RX11) (T := TX11) (N := 79) hx hb hts inB_11 hown hE.1 hP 0 rfl rfl 59 (Nat.le_of_ble_eq_true rfl) (hts _ k_1379) (fun _ h9 => h9) rfl dX11_change_82 ?_
                refine lv_bipush (v := 6) hx hb dX11_change_85 rfl ?_
                refine lv_iload hx hb dX11_change_87 (lv_at hl 1 rfl) ?_
                refine lv_iadd hx hb dX11_change_89 ?_
                refine tI (y := t37) et37.symm ?_
                refine ldI hx hb hE hP 24 rfl (vpI (k := 39) rfl (show 0 ≤ t37.toInt from om_121 hr4_14 zt37) (show t37.toInt < 39 from om_709 zc15 b24_v zt37)) rfl rfl dX11_change_90 ?_
                refine lv_topi (fun t41 et41 => ?_)
                have zt41 : t37.toInt.toNat % 39 < 6 ∨ 12 ≤ t37.toInt.toNat % 39 ∨ (-1 ≤ t41.toInt ∧ t41.toInt ≤ 5) := by rw [et41]; exact wear_ld hCf40.1 (show t37.toInt.toNat < 39 from om_710 zc15 b24_v zt37)
                refine stI hx hb hE hP hD hS 25 rfl (vpI (k := 39) rfl (show 0 ≤ t38.toInt from om_708 hr5_26 zt38) (show t38.toInt < 39 from om_477 b24_v zc27 zt38)) rfl dX11_change_91 (fun H locs hP hD hS => ?_)
                obtain ⟨f42, ef42, hP, hD⟩ : ∃ fz9, fz9 = upd2 f40 24 (upd (f40 24) t38.toNatClampNeg t41) ∧ va_P (dC, dI) vwCl (YW cy y0 r v33 fz9 w35 g36) H ∧ va_D A (YW cy y0 r v33 fz9 w35 g36) := ⟨_, rfl, hP, hD⟩
                have hCf42 : YC f42 := by rw [ef42]; exact ⟨hCf40.1, (wear_st hCf40.2.1 (by show t38.toInt.toNat % 39 < 6 ∨ 12 ≤ t38.toInt.toNat % 39 ∨ (-1 ≤ t41.toInt ∧ t41.toInt ≤ 5); omega)), hCf40.2.2.1, hCf40.2.2.2.1, hCf40.2.2.2.2.1, hCf40.2.2.2.2.2⟩
                have hRf42 : progOK (f42 4) (f42 5) (v33 9).toInt.toNat := by rw [ef42]; exact hRf40
                have hA_f42 : KF [7, 8, 24] f42 f := by rw [ef42]; exact KF.up hA_f40 rfl
                refine lv_aload_n hx hb dX11_change_92 rfl (lv_at hl 4 rfl) ?_
                refine cbVi (n := 0) (rest := []) hx hb hml hown hts hE hP hD hS hA (sY_X11_fittedOnes_1 0 l dC dI cy y0 r  v33 f42 w35 g36 hIv33 hCf42 hRf42 ) k_1809 k_1811 k_81 k_114 k_1812 hd_yX11_fittedOnes ⟨Nat.le_of_ble_eq_true rfl, Nat.le_of_ble_eq_true rfl⟩ 0 11 rfl rfl (rfl) hl.1 rfl (Nat.le_of_ble_eq_true rfl) dX11_change_93 (fun r43 u H locs hw hP hD hS => ?_)
                obtain ⟨hG44, hw⟩ := hw
                obtain ⟨v45, f46, w47, g48⟩ := u
                obtain ⟨kV_v45, kF_f46, hIv45, hCf46, hRf46, hk0_v45, hk1_v45, hk2_v45, hk3_v45, hk4_v45, hk5_v45, hk8_v45, hk9_v45, hk10_v45, hk13_v45, hk14_v45, hk15_v45, hk17_v45, hk18_v45, hk24_v45, hk25_v45, hk35_v45, hk36_v45, hk38_v45, hk39_v45⟩ := hw
                have hM_v45 : KV [] v45 v := KV.tr kV_v45 hM_v33 rfl
                have hA_f46 : KF [7, 8, 24] f46 f := KF.tr kF_f46 hA_f42 rfl
                have hP : va_P (dC, dI) vwCl (YW cy y0 r v45 f46 w47 g48) H := hP
                have hD : va_D A (YW cy y0 r v45 f46 w47 g48) := hD
                have hq0_v45 : v45 0 = (v 0) := hk0_v45.trans hq0_v33
                have hq1_v45 : v45 1 = (v 1) := hk1_v45.trans hq1_v33
                have hq2_v45 : v45 2 = (v 2) := hk2_v45.trans hq2_v33
                have hq3_v45 : v45 3 = (v 3) := hk3_v45.trans hq3_v33
                have hq4_v45 : v45 4 = (v 4) := hk4_v45.trans hq4_v33
                have hq5_v45 : v45 5 = (v 5) := hk5_v45.trans hq5_v33
                have hq8_v45 : v45 8 = (v 8) := hk8_v45.trans hq8_v33
                have hq9_v45 : v45 9 = (v 9) := hk9_v45.trans hq9_v33
                have hq10_v45 : v45 10 = (v 10) := hk10_v45.trans hq10_v33
                have hq13_v45 : v45 13 = (v 13) := hk13_v45.trans hq13_v33
                have hq14_v45 : v45 14 = (v 14) := hk14_v45.trans hq14_v33
                have hq15_v45 : v45 15 = (v 15) := hk15_v45.trans hq15_v33
                have hq17_v45 : v45 17 = (v 17) := hk17_v45.trans hq17_v33
                have hq18_v45 : v45 18 = (v 18) := hk18_v45.trans hq18_v33
                have hq24_v45 : v45 24 = (v 24) := hk24_v45.trans hq24_v33
                have hq25_v45 : v45 25 = (v 25) := hk25_v45.trans hq25_v33
                have hq35_v45 : v45 35 = (v 35) := hk35_v45.trans hq35_v33
                have hq36_v45 : v45 36 = (v 36) := hk36_v45.trans hq36_v33
                have hq38_v45 : v45 38 = (v 38) := hk38_v45.trans hq38_v33
                have hq39_v45 : v45 39 = (v 39) := hk39_v45.trans hq39_v33
                refine cbSi (n := 1) (rest := []) hx hb hml hown hts hE hP hD hS hA (sY_X11_members_1 0 l dC dI cy y0 r r43 v45 f46 w47 g48 hIv45 hCf46 hRf46 ) k_1900 k_1901 k_114 k_1902 he_yX11_members ⟨Nat.le_of_ble_eq_true rfl, Nat.le_of_ble_eq_true rfl⟩ (rfl) hl.1 rfl (Nat.le_of_ble_eq_true rfl) dX11_change_96 (fun r49 u H locs hw hP hD hS => ?_)
                have hG50 := hw
                refine lv_istore (lv' := [(6, .int r49), (5, .int l5_26), (4, .int l4_14), (3, .int l3_26), (2, .int l2_26), (0, .ref y0), (1, .int p1)]) hx hb dX11_change_99 hl (Nat.le_of_ble_eq_true rfl) rfl (fun ls hl => ?_)
                refine lv_iload hx hb dX11_change_101 (lv_at hl 0 rfl) ?_
                refine lv_iload_n hx hb dX11_change_103 rfl (lv_at hl 4 rfl) ?_
                refine lv_icmp_gt (tgt := 110) hx hb dX11_change_104 rfl (fun c51 => ?_) (fun c51 => ?_)
                · skip
                  refine lv_iload hx hb dX11_change_110 (lv_at hl 0 rfl) ?_
                  refine lv_istore_n (lv' := [(2, .int r49), (6, .int r49), (5, .int l5_26), (4, .int l4_14), (3, .int l3_26), (0, .ref y0), (1, .int p1)]) hx hb dX11_change_112 rfl hl (Nat.le_of_ble_eq_true rfl) rfl (fun ls hl => ?_)
                  refine lv_bipush (v := 6) hx hb dX11_change_113 rfl ?_
                  refine lv_iload hx hb dX11_change_115 (lv_at hl 3 rfl) ?_
                  refine lv_imul hx hb dX11_change_117 ?_
                  refine lv_topi (fun t54 et54 => ?_)
                  refine lv_iload hx hb dX11_change_118 (lv_at hl 2 rfl) ?_
                  refine lv_iadd hx hb dX11_change_120 ?_
                  refine lv_topi (fun t55 et55 => ?_)
                  refine lv_istore_n (lv' := [(3, .int t55), (2, .int r49), (6, .int r49), (5, .int l5_26), (4, .int l4_14), (0, .ref y0), (1, .int p1)]) hx hb dX11_change_121 rfl hl (Nat.le_of_ble_eq_true rfl) rfl (fun ls hl => ?_)
                  obtain ⟨t57, et57⟩ : ∃ y : Int32, y = l5_26 + 1 := ⟨_, rfl⟩
                  have zt57 : t57.toInt = l5_26.toInt + 1 := (congrArg Int32.toInt et57).trans (add_i rfl tc_1 (om_259 hr5_26) (om_187 b24_v zc27))
                  refine lv_iinc (v := t57) (lv' := [(5, .int t57), (3, .int t55), (2, .int r49), (6, .int r49), (4, .int l4_14), (0, .ref y0), (1, .int p1)]) hx hb dX11_change_122 hl (k := 3) rfl et57.symm (Nat.le_of_ble_eq_true rfl) rfl (fun ls hl => ?_)
                  refine lv_goto (tgt := 39) hx hb dX11_change_125 rfl ?_
                  have rg58 := fb_rng t57
                  exact ih26 r49 t55 t57 v45 f46 w47 g48 hIv45 hCf46 hRf46 hq0_v45 hq1_v45 hq2_v45 hq3_v45 hq4_v45 hq5_v45 hq8_v45 hq9_v45 hq10_v45 hq13_v45 hq14_v45 hq15_v45 hq17_v45 hq18_v45 hq24_v45 hq25_v45 hq35_v45 hq36_v45 hq38_v45 hq39_v45 ⟨show (1 : Int) ≤ t57.toInt from om_260 hr5_26 zt57, show t57.toInt ≤ (2147483647 : Int) from om_44 rg58⟩ hM_v45 hA_f46 (show (2147483647 - t57.toInt).toNat < n26 from om_33 hm26 zt57 rg58) _ _ _ hP hD hS (lv_sub hl [0, 4, 1, 2, 5, 6] rfl)
                · skip
                  refine lv_goto (tgt := 122) hx hb dX11_change_107 rfl ?_
                  obtain ⟨t61, et61⟩ : ∃ y : Int32, y = l5_26 + 1 := ⟨_, rfl⟩
                  have zt61 : t61.toInt = l5_26.toInt + 1 := (congrArg Int32.toInt et61).trans (add_i rfl tc_1 (om_259 hr5_26) (om_187 b24_v zc27))
                  refine lv_iinc (v := t61) (lv' := [(5, .int t61), (6, .int r49), (4, .int l4_14), (3, .int l3_26), (2, .int l2_26), (0, .ref y0), (1, .int p1)]) hx hb dX11_change_122 hl (k := 1) rfl et61.symm (Nat.le_of_ble_eq_true rfl) rfl (fun ls hl => ?_)
                  refine lv_goto (tgt := 39) hx hb dX11_change_125 rfl ?_
                  have rg62 := fb_rng t61
                  exact ih26 l2_26 l3_26 t61 v45 f46 w47 g48 hIv45 hCf46 hRf46 hq0_v45 hq1_v45 hq2_v45 hq3_v45 hq4_v45 hq5_v45 hq8_v45 hq9_v45 hq10_v45 hq13_v45 hq14_v45 hq15_v45 hq17_v45 hq18_v45 hq24_v45 hq25_v45 hq35_v45 hq36_v45 hq38_v45 hq39_v45 ⟨show (1 : Int) ≤ t61.toInt from om_260 hr5_26 zt61, show t61.toInt ≤ (2147483647 : Int) from om_44 rg62⟩ hM_v45 hA_f46 (show (2147483647 - t61.toInt).toNat < n26 from om_33 hm26 zt61 rg62) _ _ _ hP hD hS (lv_sub hl [0, 2, 3, 4, 5, 6] rfl)
          have rg63 := fb_rng t25
          exact lp26 _ l2_14 l3_14 t25 v14 f14 w14 g14 hIv14 hCf14 hRf14 hq0_v14 hq1_v14 hq2_v14 hq3_v14 hq4_v14 hq5_v14 hq8_v14 hq9_v14 hq10_v14 hq13_v14 hq14_v14 hq15_v14 hq17_v14 hq18_v14 hq24_v14 hq25_v14 hq35_v14 hq36_v14 hq38_v14 hq39_v14 ⟨show (1 : Int) ≤ t25.toInt from om_261 hr4_14 zt25, show t25.toInt ≤ (2147483647 : Int) from om_44 rg63⟩ hM_v14 hA_f14 (Nat.lt_succ_self _) _ _ _ hP hD hS (lv_sub hl [0, 1, 2, 3, 4, 5] rfl)
    exact lp14 _ r12 (-1) 0 v8 f9 w10 g11 hIv8 hCf9 hRf9 hq0_v8 hq1_v8 hq2_v8 hq3_v8 hq4_v8 hq5_v8 hq8_v8 hq9_v8 hq10_v8 hq13_v8 hq14_v8 hq15_v8 hq17_v8 hq18_v8 hq24_v8 hq25_v8 hq35_v8 hq36_v8 hq38_v8 hq39_v8 ⟨by decide, by decide⟩ hM_v8 hA_f9 (Nat.lt_succ_self _) _ _ _ hP hD hS (lv_sub hl [0, 1, 2, 3, 4] rfl)
  · skip
    subst g5
    refine lv_if_ne (tgt := 11) hx hb dX11_change_6 rfl (fun c0 => absurd (by decide) c0) (fun _ => ?_)
    refine lv_iconst (v := (-1)) hx hb dX11_change_9 rfl ?_
    exact ret (-1) (v, f, w, g) _ _ _ _ _ _ rfl ⟨hM_v, hA_f, hIv, hCf, hRf, rfl, rfl, rfl, rfl, rfl, rfl, rfl, rfl, rfl, rfl, rfl, rfl, rfl, rfl, rfl, rfl, rfl, rfl, rfl, rfl⟩ hP hD hS dX11_change_10 (Nat.le_refl _) (Nat.le_refl _)
set_option maxHeartbeats 4000000 in
set_option maxRecDepth 100000 in
theorem sY_X11_plain_1 (l : Launch) (dC : Nat → ClassId) (dI : Nat → Nat → Nat) (cy : Nat → ClassId) (y0 : Nat) (r : Nat → Nat) (p0 : Int32) (v : Nat → Int32) (f : Nat → Nat → Int32) (w : Int64) (g : Nat → Int64) (hIv : YI v) (hCf : YC f) (hRf : progOK (f 4) (f 5) (v 9).toInt.toNat)  : ctI l (dC, dI) cy yX11_plain cX11_plain 1 .int 1 60 0 0 Unit [.int p0] (YW cy y0 r v f w g) (fun r u => True) (fun u => YW cy y0 r v f w g) := by
  refine ctI_of (by decide) (Nat.le_of_ble_eq_true rfl) (fun p e s m below meth c A ls Q hx hb hml hts hown hE hP hD hA hl ret => ?_)
  have hown : s.vm.findClass RX11 = some m.cls := hown
  have hS : va_S A s.heap s.heap [] := va_S.rf
  have hl : lv_has ls 1 [(0, .int p0)] := hl
  refine lv_iload_n hx hb dX11_plain_0 rfl (lv_at hl 0 rfl) ?_
  refine lv_if_ge (tgt := 9) hx hb dX11_plain_1 rfl (fun c1 => ?_) (fun c1 => ?_)
  · skip
    refine lv_iload_n hx hb dX11_plain_9 rfl (lv_at hl 0 rfl) ?_
    exact ret p0 () _ _ _ _ _ _ rfl trivial hP hD hS dX11_plain_10 (Nat.le_refl _) (Nat.le_refl _)
  · skip
    refine lv_iload_n hx hb dX11_plain_4 rfl (lv_at hl 0 rfl) ?_
    refine lv_ineg hx hb dX11_plain_5 ?_
    refine lv_topi (fun t2 et2 => ?_)
    refine lv_goto (tgt := 10) hx hb dX11_plain_6 rfl ?_
    exact ret t2 () _ _ _ _ _ _ rfl trivial hP hD hS dX11_plain_10 (Nat.le_refl _) (Nat.le_refl _)
set_option maxHeartbeats 4000000 in
set_option maxRecDepth 100000 in
theorem sY_X11_wings_1 (l : Launch) (dC : Nat → ClassId) (dI : Nat → Nat → Nat) (cy : Nat → ClassId) (y0 : Nat) (r : Nat → Nat) (p1 : Int32) (v : Nat → Int32) (f : Nat → Nat → Int32) (w : Int64) (g : Nat → Int64) (hIv : YI v) (hCf : YC f) (hRf : progOK (f 4) (f 5) (v 9).toInt.toNat)  : ctI l (dC, dI) cy yX11_wings cX11_wings 8 .int 3 102 0 0 ((Nat → Int32) × (Nat → Nat → Int32) × (Int64) × (Nat → Int64)) [.ref y0, .int p1] (YW cy y0 r v f w g) (fun r u => KV [] u.1 v ∧ KF [24] u.2.1 f ∧ YI u.1 ∧ YC u.2.1 ∧ progOK (u.2.1 4) (u.2.1 5) (u.1 9).toInt.toNat ∧ u.1 0 = v 0 ∧ u.1 1 = v 1 ∧ u.1 2 = v 2 ∧ u.1 3 = v 3 ∧ u.1 4 = v 4 ∧ u.1 5 = v 5 ∧ u.1 8 = v 8 ∧ u.1 9 = v 9 ∧ u.1 10 = v 10 ∧ u.1 13 = v 13 ∧ u.1 14 = v 14 ∧ u.1 15 = v 15 ∧ u.1 17 = v 17 ∧ u.1 18 = v 18 ∧ u.1 24 = v 24 ∧ u.1 25 = v 25 ∧ u.1 35 = v 35 ∧ u.1 36 = v 36 ∧ u.1 38 = v 38 ∧ u.1 39 = v 39) (fun u => YW cy y0 r u.1 u.2.1 u.2.2.1 u.2.2.2) := by
  refine ctI_of (by decide) (Nat.le_of_ble_eq_true rfl) (fun p e s m below meth c A ls Q hx hb hml hts hown hE hP hD hA hl ret => ?_)
  have hM_v : KV [] v v := fun _ _ => rfl
  have hA_f : KF [24] f f := fun _ _ => rfl
  have hown : s.vm.findClass RX11 = some m.cls := hown
  have hS : va_S A s.heap s.heap [] := va_S.rf
  have hl : lv_has ls 8 [(0, .ref y0), (1, .int p1)] := hl
  refine lv_iload_n hx hb dX11_wings_0 rfl (lv_at hl 1 rfl) ?_
  refine lv_iconst (v := 0) hx hb dX11_wings_1 rfl ?_
  refine lv_iconst (v := 1) hx hb dX11_wings_2 rfl ?_
  refine cbSi (n := 3) (rest := []) hx hb hml hown hts hE hP hD hS hA (sY_X11_isIn_1 0 l dC dI cy y0 r p1 0 1 v f w g hIv hCf hRf ) k_1736 k_1737 k_114 k_1738 he_yX11_isIn ⟨Nat.le_of_ble_eq_true rfl, Nat.le_of_ble_eq_true rfl⟩ (rfl) hl.1 rfl (Nat.le_of_ble_eq_true rfl) dX11_wings_3 (fun r3 u H locs hw hP hD hS => ?_)
  obtain ⟨hG4, hw⟩ := hw
  rcases hw with ⟨g5, g5_0, g5_1⟩ | ⟨g5⟩
  · skip
    subst g5
    refine lv_if_ne (tgt := 11) hx hb dX11_wings_6 rfl (fun _ => ?_) (fun c0 => absurd c0 (by decide))
    refine lv_aload_n hx hb dX11_wings_11 rfl (lv_at hl 0 rfl) ?_
    refine cbVv (n := 0) (rest := []) hx hb hml hown hts hE hP hD hS hA (sY_X11_fill_1 0 l dC dI cy y0 r  v f w g hIv hCf hRf ) k_1739 k_1741 k_71 k_114 k_1742 hd_yX11_fill ⟨Nat.le_of_ble_eq_true rfl, Nat.le_of_ble_eq_true rfl⟩ 0 11 rfl rfl (rfl) hl.1 rfl (Nat.le_of_ble_eq_true rfl) dX11_wings_12 (fun u H locs hw hP hD hS => ?_)
    obtain ⟨hG6, hw⟩ := hw
    obtain ⟨v7, f8, w9, g10⟩ := u
    obtain ⟨kV_v7, kF_f8, hIv7, hCf8, hRf8, hk0_v7, hk1_v7, hk2_v7, hk3_v7, hk4_v7, hk5_v7, hk8_v7, hk9_v7, hk10_v7, hk13_v7, hk14_v7, hk15_v7, hk17_v7, hk18_v7, hk24_v7, hk25_v7, hk35_v7, hk36_v7, hk38_v7, hk39_v7⟩ := hw
    have hM_v7 : KV [] v7 v := KV.tr kV_v7 hM_v rfl
    have hA_f8 : KF [24] f8 f := KF.tr kF_f8 hA_f rfl
    have hP : va_P (dC, dI) vwCl (YW cy y0 r v7 f8 w9 g10) H := hP
    have hD : va_D A (YW cy y0 r v7 f8 w9 g10) := hD
    refine lv_aload_n hx hb dX11_wings_15 rfl (lv_at hl 0 rfl) ?_
    refine cbVi (n := 0) (rest := []) hx hb hml hown hts hE hP hD hS hA (sY_X11_wearers_1 0 l dC dI cy y0 r  v7 f8 w9 g10 hIv7 hCf8 hRf8 ) k_1805 k_1807 k_80 k_114 k_1808 hd_yX11_wearers ⟨Nat.le_of_ble_eq_true rfl, Nat.le_of_ble_eq_true rfl⟩ 0 11 rfl rfl (rfl) hl.1 rfl (Nat.le_of_ble_eq_true rfl) dX11_wings_16 (fun r11 u H locs hw hP hD hS => ?_)
    obtain ⟨hG12, hw⟩ := hw
    have pw_r11 : (0 : Int) ≤ r11.toInt ∧ r11.toInt ≤ 63 := hw
    refine lv_istore_n (lv' := [(2, .int r11), (0, .ref y0), (1, .int p1)]) hx hb dX11_wings_19 rfl hl (Nat.le_of_ble_eq_true rfl) rfl (fun ls hl => ?_)
    refine lv_iconst (v := 0) hx hb dX11_wings_20 rfl ?_
    refine lv_istore_n (lv' := [(3, .int 0), (2, .int r11), (0, .ref y0), (1, .int p1)]) hx hb dX11_wings_21 rfl hl (Nat.le_of_ble_eq_true rfl) rfl (fun ls hl => ?_)
    refine lv_iconst (v := 5) hx hb dX11_wings_22 rfl ?_
    refine lv_istore (lv' := [(4, .int 5), (3, .int 0), (2, .int r11), (0, .ref y0), (1, .int p1)]) hx hb dX11_wings_23 hl (Nat.le_of_ble_eq_true rfl) rfl (fun ls hl => ?_)
    have lp13 : ∀ (n13 : Nat) (l3_13 : Int32) (l4_13 : Int32), ((-2147483648 : Int) ≤ l4_13.toInt ∧ l4_13.toInt ≤ 5) → (l4_13.toInt + 2147483648).toNat < n13 → ∀ (H : Heap) (locs : List Loc) (ls : Array Slot), va_P (dC, dI) vwCl (YW cy y0 r v7 f8 w9 g10) H → va_D A (YW cy y0 r v7 f8 w9 g10) → va_S A s.heap H locs → lv_has ls 8 [(4, .int l4_13), (3, .int l3_13), (2, .int r11), (0, .ref y0), (1, .int p1)] → W p l e { frames := 3, cells := 0, slots := 0, locals := 102 } s m ([.ref y0, .int p1] : List Value).toArray below meth c H locs 0 0 Q (F0 m 25 ls []) := by
      intro n13
      induction n13 with
      | zero => intro l3_13 l4_13 hr4_13 hm; exact absurd hm (Nat.not_lt_zero _)
      | succ n13 ih13 =>
        intro l3_13 l4_13 hr4_13 hm13 H locs ls hP hD hS hl
        refine lv_iload hx hb dX11_wings_25 (lv_at hl 0 rfl) ?_
        refine lv_if_lt (tgt := 55) hx hb dX11_wings_27 rfl (fun c14 => ?_) (fun c14 => ?_)
        · skip
          refine lv_iload_n hx hb dX11_wings_55 rfl (lv_at hl 2 rfl) ?_
          refine lv_istore (lv' := [(4, .int r11), (3, .int l3_13), (2, .int r11), (0, .ref y0), (1, .int p1)]) hx hb dX11_wings_56 hl (Nat.le_of_ble_eq_true rfl) rfl (fun ls hl => ?_)
          refine lv_aload_n hx hb dX11_wings_58 rfl (lv_at hl 3 rfl) ?_
          refine lv_iload_n hx hb dX11_wings_59 rfl (lv_at hl 2 rfl) ?_
          refine cbVi (n := 1) (rest := []) hx hb hml hown hts hE hP hD hS hA (sY_X11_wideOf_1 0 l dC dI cy y0 r r11 v7 f8 w9 g10 hIv7 hCf8 hRf8 ) k_1912 k_1914 k_88 k_114 k_1915 hd_yX11_wideOf ⟨Nat.le_of_ble_eq_true rfl, Nat.le_of_ble_eq_true rfl⟩ 0 11 rfl rfl (rfl) hl.1 rfl (Nat.le_of_ble_eq_true rfl) dX11_wings_60 (fun r15 u H locs hw hP hD hS => ?_)
          have hG16 := hw
          refine lv_istore (lv' := [(5, .int r15), (4, .int r11), (3, .int l3_13), (2, .int r11), (0, .ref y0), (1, .int p1)]) hx hb dX11_wings_63 hl (Nat.le_of_ble_eq_true rfl) rfl (fun ls hl => ?_)
          refine lv_iconst (v := 0) hx hb dX11_wings_65 rfl ?_
          refine lv_istore (lv' := [(6, .int 0), (5, .int r15), (4, .int r11), (3, .int l3_13), (2, .int r11), (0, .ref y0), (1, .int p1)]) hx hb dX11_wings_66 hl (Nat.le_of_ble_eq_true rfl) rfl (fun ls hl => ?_)
          have lp17 : ∀ (n17 : Nat) (l4_17 : Int32) (l5_17 : Int32) (l6_17 : Int32), ((0 : Int) ≤ l6_17.toInt ∧ l6_17.toInt ≤ 2147483647) → (2147483647 - l6_17.toInt).toNat < n17 → ∀ (H : Heap) (locs : List Loc) (ls : Array Slot), va_P (dC, dI) vwCl (YW cy y0 r v7 f8 w9 g10) H → va_D A (YW cy y0 r v7 f8 w9 g10) → va_S A s.heap H locs → lv_has ls 8 [(6, .int l6_17), (5, .int l5_17), (4, .int l4_17), (3, .int l3_13), (2, .int r11), (0, .ref y0), (1, .int p1)] → W p l e { frames := 3, cells := 0, slots := 0, locals := 102 } s m ([.ref y0, .int p1] : List Value).toArray below meth c H locs 0 0 Q (F0 m 68 ls []) := by
            intro n17
            induction n17 with
            | zero => intro l4_17 l5_17 l6_17 hr6_17 hm; exact absurd hm (Nat.not_lt_zero _)
            | succ n17 ih17 =>
              intro l4_17 l5_17 l6_17 hr6_17 hm17 H locs ls hP hD hS hl
              refine lv_iload hx hb dX11_wings_68 (lv_at hl 0 rfl) ?_
              refine lv_iload_n hx hb dX11_wings_70 rfl (lv_at hl 4 rfl) ?_
              refine lv_icmp_gt (tgt := 154) hx hb dX11_wings_71 rfl (fun c18 => ?_) (fun c18 => ?_)
              · skip
                refine lv_iload_n hx hb dX11_wings_154 rfl (lv_at hl 6 rfl) ?_
                refine lv_if_ne (tgt := 163) hx hb dX11_wings_155 rfl (fun c21 => ?_) (fun c21 => ?_)
                · skip
                  refine lv_iload hx hb dX11_wings_163 (lv_at hl 2 rfl) ?_
                  exact ret l4_17 (v7, f8, w9, g10) _ _ _ _ _ _ rfl ⟨hM_v7, hA_f8, hIv7, hCf8, hRf8, hk0_v7, hk1_v7, hk2_v7, hk3_v7, hk4_v7, hk5_v7, hk8_v7, hk9_v7, hk10_v7, hk13_v7, hk14_v7, hk15_v7, hk17_v7, hk18_v7, hk24_v7, hk25_v7, hk35_v7, hk36_v7, hk38_v7, hk39_v7⟩ hP hD hS dX11_wings_165 (Nat.le_refl _) (Nat.le_refl _)
                · skip
                  refine lv_iload hx hb dX11_wings_158 (lv_at hl 1 rfl) ?_
                  refine lv_goto (tgt := 165) hx hb dX11_wings_160 rfl ?_
                  exact ret l5_17 (v7, f8, w9, g10) _ _ _ _ _ _ rfl ⟨hM_v7, hA_f8, hIv7, hCf8, hRf8, hk0_v7, hk1_v7, hk2_v7, hk3_v7, hk4_v7, hk5_v7, hk8_v7, hk9_v7, hk10_v7, hk13_v7, hk14_v7, hk15_v7, hk17_v7, hk18_v7, hk24_v7, hk25_v7, hk35_v7, hk36_v7, hk38_v7, hk39_v7⟩ hP hD hS dX11_wings_165 (Nat.le_refl _) (Nat.le_refl _)
              · skip
                have zc18 : ¬ (r11.toInt < l6_17.toInt) := zLn rfl rfl c18
                refine lv_iload hx hb dX11_wings_74 (lv_at hl 0 rfl) ?_
                refine lv_iload_n hx hb dX11_wings_76 rfl (lv_at hl 4 rfl) ?_
                refine lv_iconst (v := (-1)) hx hb dX11_wings_77 rfl ?_
                refine lv_ixor hx hb dX11_wings_78 ?_
                refine lv_topi (fun t24 et24 => ?_)
                refine lv_iand hx hb dX11_wings_79 ?_
                refine lv_topi (fun t25 et25 => ?_)
                refine lv_if_ne (tgt := 148) hx hb dX11_wings_80 rfl (fun c26 => ?_) (fun c26 => ?_)
                · skip
                  obtain ⟨t27, et27⟩ : ∃ y : Int32, y = l6_17 + 1 := ⟨_, rfl⟩
                  have zt27 : t27.toInt = l6_17.toInt + 1 := (congrArg Int32.toInt et27).trans (add_i rfl tc_1 (om_41 hr6_17) (om_262 pw_r11 zc18))
                  refine lv_iinc (v := t27) (lv' := [(6, .int t27), (5, .int l5_17), (4, .int l4_17), (3, .int l3_13), (2, .int r11), (0, .ref y0), (1, .int p1)]) hx hb dX11_wings_148 hl (k := 0) rfl et27.symm (Nat.le_of_ble_eq_true rfl) rfl (fun ls hl => ?_)
                  refine lv_goto (tgt := 68) hx hb dX11_wings_151 rfl ?_
                  have rg28 := fb_rng t27
                  exact ih17 l4_17 l5_17 t27 ⟨show (0 : Int) ≤ t27.toInt from om_43 hr6_17 zt27, show t27.toInt ≤ (2147483647 : Int) from om_44 rg28⟩ (show (2147483647 - t27.toInt).toNat < n17 from om_33 hm17 zt27 rg28) _ _ _ hP hD hS (lv_sub hl [0, 1, 2, 3, 4, 5, 6] rfl)
                · skip
                  refine lv_iload hx hb dX11_wings_83 (lv_at hl 0 rfl) ?_
                  refine lv_iload_n hx hb dX11_wings_85 rfl (lv_at hl 3 rfl) ?_
                  refine lv_iand hx hb dX11_wings_86 ?_
                  refine lv_topi (fun t29 et29 => ?_)
                  refine lv_iload_n hx hb dX11_wings_87 rfl (lv_at hl 3 rfl) ?_
                  refine lv_icmp_eq (tgt := 94) hx hb dX11_wings_88 rfl (fun c30 => ?_) (fun c30 => ?_)
                  · skip
                    refine lv_aload_n hx hb dX11_wings_94 rfl (lv_at hl 5 rfl) ?_
                    refine lv_iload hx hb dX11_wings_95 (lv_at hl 0 rfl) ?_
                    refine cbVi (n := 1) (rest := []) hx hb hml hown hts hE hP hD hS hA (sY_X11_wideOf_1 0 l dC dI cy y0 r l6_17 v7 f8 w9 g10 hIv7 hCf8 hRf8 ) k_1912 k_1914 k_88 k_114 k_1915 hd_yX11_wideOf ⟨Nat.le_of_ble_eq_true rfl, Nat.le_of_ble_eq_true rfl⟩ 0 11 rfl rfl (rfl) hl.1 rfl (Nat.le_of_ble_eq_true rfl) dX11_wings_97 (fun r33 u H locs hw hP hD hS => ?_)
                    have hG34 := hw
                    refine lv_aload_n hx hb dX11_wings_100 rfl (lv_at hl 5 rfl) ?_
                    refine lv_iload_n hx hb dX11_wings_101 rfl (lv_at hl 4 rfl) ?_
                    refine lv_iload hx hb dX11_wings_102 (lv_at hl 0 rfl) ?_
                    refine lv_iconst (v := (-1)) hx hb dX11_wings_104 rfl ?_
                    refine lv_ixor hx hb dX11_wings_105 ?_
                    refine lv_topi (fun t35 et35 => ?_)
                    refine lv_iand hx hb dX11_wings_106 ?_
                    refine lv_topi (fun t36 et36 => ?_)
                    refine cbVi (n := 1) (rest := [.int r33]) hx hb hml hown hts hE hP hD hS hA (sY_X11_wideOf_1 0 l dC dI cy y0 r t36 v7 f8 w9 g10 hIv7 hCf8 hRf8 ) k_1912 k_1914 k_88 k_114 k_1915 hd_yX11_wideOf ⟨Nat.le_of_ble_eq_true rfl, Nat.le_of_ble_eq_true rfl⟩ 0 11 rfl rfl (rfl) hl.1 rfl (Nat.le_of_ble_eq_true rfl) dX11_wings_107 (fun r37 u H locs hw hP hD hS => ?_)
                    have hG38 := hw
                    refine lv_isub hx hb dX11_wings_110 ?_
                    refine lv_topi (fun t39 et39 => ?_)
                    refine cbSi (n := 1) (rest := []) hx hb hml hown hts hE hP hD hS hA (sY_X11_plain_1 l dC dI cy y0 r t39 v7 f8 w9 g10 hIv7 hCf8 hRf8 ) k_1920 k_1921 k_114 k_1922 he_yX11_plain ⟨Nat.le_of_ble_eq_true rfl, Nat.le_of_ble_eq_true rfl⟩ (rfl) hl.1 rfl (Nat.le_of_ble_eq_true rfl) dX11_wings_111 (fun r40 u H locs hw hP hD hS => ?_)
                    refine lv_istore (lv' := [(7, .int r40), (6, .int l6_17), (5, .int l5_17), (4, .int l4_17), (3, .int l3_13), (2, .int r11), (0, .ref y0), (1, .int p1)]) hx hb dX11_wings_114 hl (Nat.le_of_ble_eq_true rfl) rfl (fun ls hl => ?_)
                    refine lv_iload hx hb dX11_wings_116 (lv_at hl 0 rfl) ?_
                    refine lv_iload hx hb dX11_wings_118 (lv_at hl 2 rfl) ?_
                    refine lv_icmp_gt (tgt := 148) hx hb dX11_wings_120 rfl (fun c41 => ?_) (fun c41 => ?_)
                    · skip
                      obtain ⟨t44, et44⟩ : ∃ y : Int32, y = l6_17 + 1 := ⟨_, rfl⟩
                      have zt44 : t44.toInt = l6_17.toInt + 1 := (congrArg Int32.toInt et44).trans (add_i rfl tc_1 (om_41 hr6_17) (om_262 pw_r11 zc18))
                      refine lv_iinc (v := t44) (lv' := [(6, .int t44), (7, .int r40), (5, .int l5_17), (4, .int l4_17), (3, .int l3_13), (2, .int r11), (0, .ref y0), (1, .int p1)]) hx hb dX11_wings_148 hl (k := 1) rfl et44.symm (Nat.le_of_ble_eq_true rfl) rfl (fun ls hl => ?_)
                      refine lv_goto (tgt := 68) hx hb dX11_wings_151 rfl ?_
                      have rg45 := fb_rng t44
                      exact ih17 l4_17 l5_17 t44 ⟨show (0 : Int) ≤ t44.toInt from om_43 hr6_17 zt44, show t44.toInt ≤ (2147483647 : Int) from om_44 rg45⟩ (show (2147483647 - t44.toInt).toNat < n17 from om_33 hm17 zt44 rg45) _ _ _ hP hD hS (lv_sub hl [0, 2, 3, 4, 5, 6, 7] rfl)
                    · skip
                      refine lv_iload hx hb dX11_wings_123 (lv_at hl 0 rfl) ?_
                      refine lv_iload hx hb dX11_wings_125 (lv_at hl 2 rfl) ?_
                      refine lv_icmp_ne (tgt := 140) hx hb dX11_wings_127 rfl (fun c48 => ?_) (fun c48 => ?_)
                      · skip
                        refine lv_iload hx hb dX11_wings_140 (lv_at hl 0 rfl) ?_
                        refine lv_istore (lv' := [(5, .int r40), (7, .int r40), (6, .int l6_17), (4, .int l4_17), (3, .int l3_13), (2, .int r11), (0, .ref y0), (1, .int p1)]) hx hb dX11_wings_142 hl (Nat.le_of_ble_eq_true rfl) rfl (fun ls hl => ?_)
                        refine lv_iload hx hb dX11_wings_144 (lv_at hl 2 rfl) ?_
                        refine lv_istore (lv' := [(4, .int l6_17), (5, .int r40), (7, .int r40), (6, .int l6_17), (3, .int l3_13), (2, .int r11), (0, .ref y0), (1, .int p1)]) hx hb dX11_wings_146 hl (Nat.le_of_ble_eq_true rfl) rfl (fun ls hl => ?_)
                        obtain ⟨t49, et49⟩ : ∃ y : Int32, y = l6_17 + 1 := ⟨_, rfl⟩
                        have zt49 : t49.toInt = l6_17.toInt + 1 := (congrArg Int32.toInt et49).trans (add_i rfl tc_1 (om_41 hr6_17) (om_262 pw_r11 zc18))
                        refine lv_iinc (v := t49) (lv' := [(6, .int t49), (4, .int l6_17), (5, .int r40), (7, .int r40), (3, .int l3_13), (2, .int r11), (0, .ref y0), (1, .int p1)]) hx hb dX11_wings_148 hl (k := 3) rfl et49.symm (Nat.le_of_ble_eq_true rfl) rfl (fun ls hl => ?_)
                        refine lv_goto (tgt := 68) hx hb dX11_wings_151 rfl ?_
                        have rg50 := fb_rng t49
                        exact ih17 l6_17 r40 t49 ⟨show (0 : Int) ≤ t49.toInt from om_43 hr6_17 zt49, show t49.toInt ≤ (2147483647 : Int) from om_44 rg50⟩ (show (2147483647 - t49.toInt).toNat < n17 from om_33 hm17 zt49 rg50) _ _ _ hP hD hS (lv_sub hl [0, 2, 1, 4, 5, 6, 7] rfl)
                      · skip
                        refine lv_iload hx hb dX11_wings_130 (lv_at hl 1 rfl) ?_
                        refine lv_iload hx hb dX11_wings_132 (lv_at hl 3 rfl) ?_
                        refine lv_icmp_lt (tgt := 140) hx hb dX11_wings_134 rfl (fun c51 => ?_) (fun c51 => ?_)
                        · skip
                          have zc51 : l6_17.toInt < l4_17.toInt := zLp rfl rfl c51
                          have rg52 := fb_rng l4_17
                          refine lv_iload hx hb dX11_wings_140 (lv_at hl 0 rfl) ?_
                          refine lv_istore (lv' := [(5, .int r40), (7, .int r40), (6, .int l6_17), (4, .int l4_17), (3, .int l3_13), (2, .int r11), (0, .ref y0), (1, .int p1)]) hx hb dX11_wings_142 hl (Nat.le_of_ble_eq_true rfl) rfl (fun ls hl => ?_)
                          refine lv_iload hx hb dX11_wings_144 (lv_at hl 2 rfl) ?_
                          refine lv_istore (lv' := [(4, .int l6_17), (5, .int r40), (7, .int r40), (6, .int l6_17), (3, .int l3_13), (2, .int r11), (0, .ref y0), (1, .int p1)]) hx hb dX11_wings_146 hl (Nat.le_of_ble_eq_true rfl) rfl (fun ls hl => ?_)
                          obtain ⟨t53, et53⟩ : ∃ y : Int32, y = l6_17 + 1 := ⟨_, rfl⟩
                          have zt53 : t53.toInt = l6_17.toInt + 1 := (congrArg Int32.toInt et53).trans (add_i rfl tc_1 (om_41 hr6_17) (om_714 zc51 rg52))
                          refine lv_iinc (v := t53) (lv' := [(6, .int t53), (4, .int l6_17), (5, .int r40), (7, .int r40), (3, .int l3_13), (2, .int r11), (0, .ref y0), (1, .int p1)]) hx hb dX11_wings_148 hl (k := 3) rfl et53.symm (Nat.le_of_ble_eq_true rfl) rfl (fun ls hl => ?_)
                          refine lv_goto (tgt := 68) hx hb dX11_wings_151 rfl ?_
                          have rg54 := fb_rng t53
                          exact ih17 l6_17 r40 t53 ⟨show (0 : Int) ≤ t53.toInt from om_43 hr6_17 zt53, show t53.toInt ≤ (2147483647 : Int) from om_44 rg54⟩ (show (2147483647 - t53.toInt).toNat < n17 from om_33 hm17 zt53 rg54) _ _ _ hP hD hS (lv_sub hl [0, 2, 1, 4, 5, 6, 7] rfl)
                        · skip
                          refine lv_goto (tgt := 148) hx hb dX11_wings_137 rfl ?_
                          obtain ⟨t56, et56⟩ : ∃ y : Int32, y = l6_17 + 1 := ⟨_, rfl⟩
                          have zt56 : t56.toInt = l6_17.toInt + 1 := (congrArg Int32.toInt et56).trans (add_i rfl tc_1 (om_41 hr6_17) (om_262 pw_r11 zc18))
                          refine lv_iinc (v := t56) (lv' := [(6, .int t56), (7, .int r40), (5, .int l5_17), (4, .int l4_17), (3, .int l3_13), (2, .int r11), (0, .ref y0), (1, .int p1)]) hx hb dX11_wings_148 hl (k := 1) rfl et56.symm (Nat.le_of_ble_eq_true rfl) rfl (fun ls hl => ?_)
                          refine lv_goto (tgt := 68) hx hb dX11_wings_151 rfl ?_
                          have rg57 := fb_rng t56
                          exact ih17 l4_17 l5_17 t56 ⟨show (0 : Int) ≤ t56.toInt from om_43 hr6_17 zt56, show t56.toInt ≤ (2147483647 : Int) from om_44 rg57⟩ (show (2147483647 - t56.toInt).toNat < n17 from om_33 hm17 zt56 rg57) _ _ _ hP hD hS (lv_sub hl [0, 2, 3, 4, 5, 6, 7] rfl)
                  · skip
                    refine lv_goto (tgt := 148) hx hb dX11_wings_91 rfl ?_
                    obtain ⟨t60, et60⟩ : ∃ y : Int32, y = l6_17 + 1 := ⟨_, rfl⟩
                    have zt60 : t60.toInt = l6_17.toInt + 1 := (congrArg Int32.toInt et60).trans (add_i rfl tc_1 (om_41 hr6_17) (om_262 pw_r11 zc18))
                    refine lv_iinc (v := t60) (lv' := [(6, .int t60), (5, .int l5_17), (4, .int l4_17), (3, .int l3_13), (2, .int r11), (0, .ref y0), (1, .int p1)]) hx hb dX11_wings_148 hl (k := 0) rfl et60.symm (Nat.le_of_ble_eq_true rfl) rfl (fun ls hl => ?_)
                    refine lv_goto (tgt := 68) hx hb dX11_wings_151 rfl ?_
                    have rg61 := fb_rng t60
                    exact ih17 l4_17 l5_17 t60 ⟨show (0 : Int) ≤ t60.toInt from om_43 hr6_17 zt60, show t60.toInt ≤ (2147483647 : Int) from om_44 rg61⟩ (show (2147483647 - t60.toInt).toNat < n17 from om_33 hm17 zt60 rg61) _ _ _ hP hD hS (lv_sub hl [0, 1, 2, 3, 4, 5, 6] rfl)
          exact lp17 _ r11 r15 0 ⟨by decide, by decide⟩ (Nat.lt_succ_self _) _ _ _ hP hD hS (lv_sub hl [0, 1, 2, 3, 4, 5, 6] rfl)
        · skip
          have zc14 : ¬ (l4_13.toInt < 0) := zLn rfl tc_0 c14
          refine lv_iload_n hx hb dX11_wings_30 rfl (lv_at hl 2 rfl) ?_
          refine lv_iload hx hb dX11_wings_31 (lv_at hl 0 rfl) ?_
          refine lv_ishr hx hb dX11_wings_33 ?_
          refine lv_topi (fun t62 et62 => ?_)
          refine lv_iconst (v := 1) hx hb dX11_wings_34 rfl ?_
          refine lv_iand hx hb dX11_wings_35 ?_
          refine lv_topi (fun t63 et63 => ?_)
          refine lv_iconst (v := 1) hx hb dX11_wings_36 rfl ?_
          refine lv_icmp_ne (tgt := 47) hx hb dX11_wings_37 rfl (fun c64 => ?_) (fun c64 => ?_)
          · skip
            refine lv_iload_n hx hb dX11_wings_47 rfl (lv_at hl 1 rfl) ?_
            refine lv_istore_n (lv' := [(3, .int l3_13), (4, .int l4_13), (2, .int r11), (0, .ref y0), (1, .int p1)]) hx hb dX11_wings_48 rfl hl (Nat.le_of_ble_eq_true rfl) rfl (fun ls hl => ?_)
            obtain ⟨t65, et65⟩ : ∃ y : Int32, y = l4_13 + (-1) := ⟨_, rfl⟩
            have zt65 : t65.toInt = l4_13.toInt + (-1) := (congrArg Int32.toInt et65).trans (add_i rfl tc_m1 (om_226 zc14) (om_227 hr4_13))
            refine lv_iinc (v := t65) (lv' := [(4, .int t65), (3, .int l3_13), (2, .int r11), (0, .ref y0), (1, .int p1)]) hx hb dX11_wings_49 hl (k := 1) rfl et65.symm (Nat.le_of_ble_eq_true rfl) rfl (fun ls hl => ?_)
            refine lv_goto (tgt := 25) hx hb dX11_wings_52 rfl ?_
            have rg67 := fb_rng t65
            exact ih13 l3_13 t65 ⟨show (-2147483648 : Int) ≤ t65.toInt from om_10 rg67, show t65.toInt ≤ (5 : Int) from om_228 hr4_13 zt65⟩ (show (t65.toInt + 2147483648).toNat < n13 from om_229 hm13 zt65 rg67) _ _ _ hP hD hS (lv_sub hl [0, 1, 2, 3, 4] rfl)
          · skip
            refine lv_iconst (v := 1) hx hb dX11_wings_40 rfl ?_
            refine lv_iload hx hb dX11_wings_41 (lv_at hl 0 rfl) ?_
            refine lv_ishl hx hb dX11_wings_43 ?_
            refine lv_topi (fun t68 et68 => ?_)
            refine lv_goto (tgt := 48) hx hb dX11_wings_44 rfl ?_
            refine lv_istore_n (lv' := [(3, .int t68), (4, .int l4_13), (2, .int r11), (0, .ref y0), (1, .int p1)]) hx hb dX11_wings_48 rfl hl (Nat.le_of_ble_eq_true rfl) rfl (fun ls hl => ?_)
            obtain ⟨t69, et69⟩ : ∃ y : Int32, y = l4_13 + (-1) := ⟨_, rfl⟩
            have zt69 : t69.toInt = l4_13.toInt + (-1) := (congrArg Int32.toInt et69).trans (add_i rfl tc_m1 (om_226 zc14) (om_227 hr4_13))
            refine lv_iinc (v := t69) (lv' := [(4, .int t69), (3, .int t68), (2, .int r11), (0, .ref y0), (1, .int p1)]) hx hb dX11_wings_49 hl (k := 1) rfl et69.symm (Nat.le_of_ble_eq_true rfl) rfl (fun ls hl => ?_)
            refine lv_goto (tgt := 25) hx hb dX11_wings_52 rfl ?_
            have rg71 := fb_rng t69
            exact ih13 t68 t69 ⟨show (-2147483648 : Int) ≤ t69.toInt from om_10 rg71, show t69.toInt ≤ (5 : Int) from om_228 hr4_13 zt69⟩ (show (t69.toInt + 2147483648).toNat < n13 from om_229 hm13 zt69 rg71) _ _ _ hP hD hS (lv_sub hl [0, 1, 2, 3, 4] rfl)
    exact lp13 _ 0 5 ⟨by decide, by decide⟩ (Nat.lt_succ_self _) _ _ _ hP hD hS (lv_sub hl [0, 1, 2, 3, 4] rfl)
  · skip
    subst g5
    refine lv_if_ne (tgt := 11) hx hb dX11_wings_6 rfl (fun c0 => absurd (by decide) c0) (fun _ => ?_)
    refine lv_iconst (v := (-1)) hx hb dX11_wings_9 rfl ?_
    exact ret (-1) (v, f, w, g) _ _ _ _ _ _ rfl ⟨hM_v, hA_f, hIv, hCf, hRf, rfl, rfl, rfl, rfl, rfl, rfl, rfl, rfl, rfl, rfl, rfl, rfl, rfl, rfl, rfl, rfl, rfl, rfl, rfl, rfl⟩ hP hD hS dX11_wings_10 (Nat.le_refl _) (Nat.le_refl _)
set_option maxHeartbeats 4000000 in
set_option maxRecDepth 100000 in
theorem sY_X11_rowOf_1 (l : Launch) (dC : Nat → ClassId) (dI : Nat → Nat → Nat) (cy : Nat → ClassId) (y0 : Nat) (r : Nat → Nat) (p1 : Int32) (v : Nat → Int32) (f : Nat → Nat → Int32) (w : Int64) (g : Nat → Int64) (hIv : YI v) (hCf : YC f) (hRf : progOK (f 4) (f 5) (v 9).toInt.toNat)  : ctI l (dC, dI) cy yX11_rowOf cX11_rowOf 5 .int 2 81 0 0 Unit [.ref y0, .int p1] (YW cy y0 r v f w g) (fun r u => True) (fun u => YW cy y0 r v f w g) := by
  refine ctI_of (by decide) (Nat.le_of_ble_eq_true rfl) (fun p e s m below meth c A ls Q hx hb hml hts hown hE hP hD hA hl ret => ?_)
  have hown : s.vm.findClass RX11 = some m.cls := hown
  have hS : va_S A s.heap s.heap [] := va_S.rf
  have hl : lv_has ls 5 [(0, .ref y0), (1, .int p1)] := hl
  refine lv_iconst (v := 0) hx hb dX11_rowOf_0 rfl ?_
  refine lv_istore_n (lv' := [(2, .int 0), (0, .ref y0), (1, .int p1)]) hx hb dX11_rowOf_1 rfl hl (Nat.le_of_ble_eq_true rfl) rfl (fun ls hl => ?_)
  refine lv_iconst (v := 0) hx hb dX11_rowOf_2 rfl ?_
  refine lv_istore_n (lv' := [(3, .int 0), (2, .int 0), (0, .ref y0), (1, .int p1)]) hx hb dX11_rowOf_3 rfl hl (Nat.le_of_ble_eq_true rfl) rfl (fun ls hl => ?_)
  refine lv_iconst (v := 0) hx hb dX11_rowOf_4 rfl ?_
  refine lv_istore (lv' := [(4, .int 0), (3, .int 0), (2, .int 0), (0, .ref y0), (1, .int p1)]) hx hb dX11_rowOf_5 hl (Nat.le_of_ble_eq_true rfl) rfl (fun ls hl => ?_)
  have lp1 : ∀ (n1 : Nat) (l2_1 : Int32) (l3_1 : Int32) (l4_1 : Int32), ((0 : Int) ≤ l4_1.toInt ∧ l4_1.toInt ≤ 2147483647) → (2147483647 - l4_1.toInt).toNat < n1 → ∀ (H : Heap) (locs : List Loc) (ls : Array Slot), va_P (dC, dI) vwCl (YW cy y0 r v f w g) H → va_D A (YW cy y0 r v f w g) → va_S A s.heap H locs → lv_has ls 5 [(4, .int l4_1), (3, .int l3_1), (2, .int l2_1), (0, .ref y0), (1, .int p1)] → W p l e { frames := 2, cells := 0, slots := 0, locals := 81 } s m ([.ref y0, .int p1] : List Value).toArray below meth c H locs 0 0 Q (F0 m 7 ls []) := by
    intro n1
    induction n1 with
    | zero => intro l2_1 l3_1 l4_1 hr4_1 hm; exact absurd hm (Nat.not_lt_zero _)
    | succ n1 ih1 =>
      intro l2_1 l3_1 l4_1 hr4_1 hm1 H locs ls hP hD hS hl
      refine lv_iload hx hb dX11_rowOf_7 (lv_at hl 0 rfl) ?_
      refine lv_aload_n hx hb dX11_rowOf_9 rfl (lv_at hl 3 rfl) ?_
      refine va_get (D := (dC, dI)) (ci := 11) (v := .int (v 25)) (C := RX11) (T := TX11) (N := 79) hx hb hts inB_11 hown hE.1 hP 0 rfl rfl 49 (Nat.le_of_ble_eq_true rfl) (hts _ k_1369) (fun _ h9 => h9) rfl dX11_rowOf_10 ?_
      have b25_v : 0 ≤ (v 25).toInt ∧ (v 25).toInt ≤ 6 := Yb_25 hIv.1
      refine lv_icmp_ge (tgt := 62) hx hb dX11_rowOf_13 rfl (fun c2 => ?_) (fun c2 => ?_)
      · skip
        refine lv_iload_n hx hb dX11_rowOf_62 rfl (lv_at hl 2 rfl) ?_
        refine lv_aload_n hx hb dX11_rowOf_63 rfl (lv_at hl 3 rfl) ?_
        refine va_get (D := (dC, dI)) (ci := 11) (v := .int (v 27)) (C := RX11) (T := TX11) (N := 79) hx hb hts inB_11 hown hE.1 hP 0 rfl rfl 51 (Nat.le_of_ble_eq_true rfl) (hts _ k_1371) (fun _ h9 => h9) rfl dX11_rowOf_64 ?_
        refine lv_icmp_le (tgt := 76) hx hb dX11_rowOf_67 rfl (fun c5 => ?_) (fun c5 => ?_)
        · skip
          refine lv_iload_n hx hb dX11_rowOf_76 rfl (lv_at hl 1 rfl) ?_
          exact ret l3_1 () _ _ _ _ _ _ rfl trivial hP hD hS dX11_rowOf_77 (Nat.le_refl _) (Nat.le_refl _)
        · skip
          refine lv_ldcw (v := 1000000) hx hb hown (hts _ k_1927) dX11_rowOf_70 ?_
          refine lv_goto (tgt := 77) hx hb dX11_rowOf_73 rfl ?_
          exact ret 1000000 () _ _ _ _ _ _ rfl trivial hP hD hS dX11_rowOf_77 (Nat.le_refl _) (Nat.le_refl _)
      · skip
        have zc2 : ¬ ((v 25).toInt ≤ l4_1.toInt) := zMn rfl rfl c2
        refine lv_iload_n hx hb dX11_rowOf_16 rfl (lv_at hl 4 rfl) ?_
        refine lv_iload hx hb dX11_rowOf_17 (lv_at hl 0 rfl) ?_
        refine lv_ishr hx hb dX11_rowOf_19 ?_
        refine lv_topi (fun t12 et12 => ?_)
        refine lv_iconst (v := 1) hx hb dX11_rowOf_20 rfl ?_
        refine lv_iand hx hb dX11_rowOf_21 ?_
        refine lv_topi (fun t13 et13 => ?_)
        refine lv_if_ne (tgt := 28) hx hb dX11_rowOf_22 rfl (fun c14 => ?_) (fun c14 => ?_)
        · skip
          refine lv_iload_n hx hb dX11_rowOf_28 rfl (lv_at hl 2 rfl) ?_
          refine lv_aload_n hx hb dX11_rowOf_29 rfl (lv_at hl 3 rfl) ?_
          refine va_get (D := (dC, dI)) (ci := 11) (v := .ref (r 59)) (C := RX11) (T := TX11) (N := 79) hx hb hts inB_11 hown hE.1 hP 0 rfl rfl 59 (Nat.le_of_ble_eq_true rfl) (hts _ k_1379) (fun _ h9 => h9) rfl dX11_rowOf_30 ?_
          refine lv_bipush (v := 18) hx hb dX11_rowOf_33 rfl ?_
          refine lv_iload hx hb dX11_rowOf_35 (lv_at hl 0 rfl) ?_
          refine lv_iadd hx hb dX11_rowOf_37 ?_
          refine lv_topi (fun t15 et15 => ?_)
          have zt15 : t15.toInt = 18 + l4_1.toInt := (congrArg Int32.toInt et15).trans (add_i tc_18 rfl (om_463 hr4_1) (om_464 b25_v zc2))
          refine ldI hx hb hE hP 24 rfl (vpI (k := 39) rfl (show 0 ≤ t15.toInt from om_465 hr4_1 zt15) (show t15.toInt < 39 from om_466 b25_v zc2 zt15)) rfl rfl dX11_rowOf_38 ?_
          refine lv_topi (fun t16 et16 => ?_)
          refine lv_iadd hx hb dX11_rowOf_39 ?_
          refine lv_topi (fun t17 et17 => ?_)
          refine lv_istore_n (lv' := [(2, .int t17), (4, .int l4_1), (3, .int l3_1), (0, .ref y0), (1, .int p1)]) hx hb dX11_rowOf_40 rfl hl (Nat.le_of_ble_eq_true rfl) rfl (fun ls hl => ?_)
          refine lv_iload_n hx hb dX11_rowOf_41 rfl (lv_at hl 2 rfl) ?_
          refine lv_aload_n hx hb dX11_rowOf_42 rfl (lv_at hl 3 rfl) ?_
          refine va_get (D := (dC, dI)) (ci := 11) (v := .ref (r 59)) (C := RX11) (T := TX11) (N := 79) hx hb hts inB_11 hown hE.1 hP 0 rfl rfl 59 (Nat.le_of_ble_eq_true rfl) (hts _ k_1379) (fun _ h9 => h9) rfl dX11_rowOf_43 ?_
          refine lv_bipush (v := 12) hx hb dX11_rowOf_46 rfl ?_
          refine lv_iload hx hb dX11_rowOf_48 (lv_at hl 1 rfl) ?_
          refine lv_iadd hx hb dX11_rowOf_50 ?_
          refine lv_topi (fun t18 et18 => ?_)
          have zt18 : t18.toInt = 12 + l4_1.toInt := (congrArg Int32.toInt et18).trans (add_i tc_12 rfl (om_458 hr4_1) (om_459 b25_v zc2))
          refine ldI hx hb hE hP 24 rfl (vpI (k := 39) rfl (show 0 ≤ t18.toInt from om_461 hr4_1 zt18) (show t18.toInt < 39 from om_462 b25_v zc2 zt18)) rfl rfl dX11_rowOf_51 ?_
          refine lv_topi (fun t19 et19 => ?_)
          refine cbSi (n := 2) (rest := []) hx hb hml hown hts hE hP hD hS hA (sY_X11_greater_1 0 l dC dI cy y0 r l3_1 t19 v f w g hIv hCf hRf ) k_1802 k_1803 k_114 k_1804 he_yX11_greater ⟨Nat.le_of_ble_eq_true rfl, Nat.le_of_ble_eq_true rfl⟩ (rfl) hl.1 rfl (Nat.le_of_ble_eq_true rfl) dX11_rowOf_52 (fun r20 u H locs hw hP hD hS => ?_)
          have hG21 := hw
          refine lv_istore_n (lv' := [(3, .int r20), (2, .int t17), (4, .int l4_1), (0, .ref y0), (1, .int p1)]) hx hb dX11_rowOf_55 rfl hl (Nat.le_of_ble_eq_true rfl) rfl (fun ls hl => ?_)
          obtain ⟨t22, et22⟩ : ∃ y : Int32, y = l4_1 + 1 := ⟨_, rfl⟩
          have zt22 : t22.toInt = l4_1.toInt + 1 := (congrArg Int32.toInt et22).trans (add_i rfl tc_1 (om_41 hr4_1) (om_187 b25_v zc2))
          refine lv_iinc (v := t22) (lv' := [(4, .int t22), (3, .int r20), (2, .int t17), (0, .ref y0), (1, .int p1)]) hx hb dX11_rowOf_56 hl (k := 2) rfl et22.symm (Nat.le_of_ble_eq_true rfl) rfl (fun ls hl => ?_)
          refine lv_goto (tgt := 7) hx hb dX11_rowOf_59 rfl ?_
          have rg23 := fb_rng t22
          exact ih1 t17 r20 t22 ⟨show (0 : Int) ≤ t22.toInt from om_43 hr4_1 zt22, show t22.toInt ≤ (2147483647 : Int) from om_44 rg23⟩ (show (2147483647 - t22.toInt).toNat < n1 from om_33 hm1 zt22 rg23) _ _ _ hP hD hS (lv_sub hl [0, 1, 2, 3, 4] rfl)
        · skip
          refine lv_goto (tgt := 56) hx hb dX11_rowOf_25 rfl ?_
          obtain ⟨t24, et24⟩ : ∃ y : Int32, y = l4_1 + 1 := ⟨_, rfl⟩
          have zt24 : t24.toInt = l4_1.toInt + 1 := (congrArg Int32.toInt et24).trans (add_i rfl tc_1 (om_41 hr4_1) (om_187 b25_v zc2))
          refine lv_iinc (v := t24) (lv' := [(4, .int t24), (3, .int l3_1), (2, .int l2_1), (0, .ref y0), (1, .int p1)]) hx hb dX11_rowOf_56 hl (k := 0) rfl et24.symm (Nat.le_of_ble_eq_true rfl) rfl (fun ls hl => ?_)
          refine lv_goto (tgt := 7) hx hb dX11_rowOf_59 rfl ?_
          have rg25 := fb_rng t24
          exact ih1 l2_1 l3_1 t24 ⟨show (0 : Int) ≤ t24.toInt from om_43 hr4_1 zt24, show t24.toInt ≤ (2147483647 : Int) from om_44 rg25⟩ (show (2147483647 - t24.toInt).toNat < n1 from om_33 hm1 zt24 rg25) _ _ _ hP hD hS (lv_sub hl [0, 1, 2, 3, 4] rfl)
  exact lp1 _ 0 0 0 ⟨by decide, by decide⟩ (Nat.lt_succ_self _) _ _ _ hP hD hS (lv_sub hl [0, 1, 2, 3, 4] rfl)
set_option maxHeartbeats 4000000 in
set_option maxRecDepth 100000 in
theorem sY_X11_cloth_1 (l : Launch) (dC : Nat → ClassId) (dI : Nat → Nat → Nat) (cy : Nat → ClassId) (y0 : Nat) (r : Nat → Nat)  (v : Nat → Int32) (f : Nat → Nat → Int32) (w : Int64) (g : Nat → Int64) (hIv : YI v) (hCf : YC f) (hRf : progOK (f 4) (f 5) (v 9).toInt.toNat)  : ctI l (dC, dI) cy yX11_cloth cX11_cloth 3 .int 3 105 0 0 ((Nat → Int32) × (Nat → Nat → Int32) × (Int64) × (Nat → Int64)) [.ref y0] (YW cy y0 r v f w g) (fun r u => KV [] u.1 v ∧ KF [29] u.2.1 f ∧ YI u.1 ∧ YC u.2.1 ∧ progOK (u.2.1 4) (u.2.1 5) (u.1 9).toInt.toNat ∧ u.1 0 = v 0 ∧ u.1 1 = v 1 ∧ u.1 2 = v 2 ∧ u.1 3 = v 3 ∧ u.1 4 = v 4 ∧ u.1 5 = v 5 ∧ u.1 8 = v 8 ∧ u.1 9 = v 9 ∧ u.1 10 = v 10 ∧ u.1 13 = v 13 ∧ u.1 14 = v 14 ∧ u.1 15 = v 15 ∧ u.1 17 = v 17 ∧ u.1 18 = v 18 ∧ u.1 24 = v 24 ∧ u.1 25 = v 25 ∧ u.1 35 = v 35 ∧ u.1 36 = v 36 ∧ u.1 38 = v 38 ∧ u.1 39 = v 39) (fun u => YW cy y0 r u.1 u.2.1 u.2.2.1 u.2.2.2) := by
  refine ctI_of (by decide) (Nat.le_of_ble_eq_true rfl) (fun p e s m below meth c A ls Q hx hb hml hts hown hE hP hD hA hl ret => ?_)
  have hUv : (v 35).toInt + (v 36).toInt ≤ 40 := hIv.2
  have hM_v : KV [] v v := fun _ _ => rfl
  have hA_f : KF [29] f f := fun _ _ => rfl
  have hown : s.vm.findClass RX11 = some m.cls := hown
  have hS : va_S A s.heap s.heap [] := va_S.rf
  have hl : lv_has ls 3 [(0, .ref y0)] := hl
  refine lv_aload_n hx hb dX11_cloth_0 rfl (lv_at hl 0 rfl) ?_
  refine va_get (D := (dC, dI)) (ci := 11) (v := .ref (r 68)) (C := RX11) (T := TX11) (N := 79) hx hb hts inB_11 hown hE.1 hP 0 rfl rfl 68 (Nat.le_of_ble_eq_true rfl) (hts _ k_1388) (fun _ h9 => h9) rfl dX11_cloth_1 ?_
  refine lv_iconst (v := 0) hx hb dX11_cloth_4 rfl ?_
  refine lv_iconst (v := 0) hx hb dX11_cloth_5 rfl ?_
  refine stI hx hb hE hP hD hS 30 rfl (vp_in_nI (n := 0) (by decide) (by decide)) rfl dX11_cloth_6 (fun H locs hP hD hS => ?_)
  obtain ⟨f1, ef1, hP, hD⟩ : ∃ fz9, fz9 = upd2 f 29 (upd (f 29) (0 : Int32).toNatClampNeg 0) ∧ va_P (dC, dI) vwCl (YW cy y0 r v fz9 w g) H ∧ va_D A (YW cy y0 r v fz9 w g) := ⟨_, rfl, hP, hD⟩
  have hCf1 : YC f1 := by rw [ef1]; exact hCf
  have hRf1 : progOK (f1 4) (f1 5) (v 9).toInt.toNat := by rw [ef1]; exact hRf
  have hA_f1 : KF [29] f1 f := by rw [ef1]; exact KF.up hA_f rfl
  refine lv_iconst (v := 1) hx hb dX11_cloth_7 rfl ?_
  refine lv_istore_n (lv' := [(1, .int 1), (0, .ref y0)]) hx hb dX11_cloth_8 rfl hl (Nat.le_of_ble_eq_true rfl) rfl (fun ls hl => ?_)
  have lp2 : ∀ (n2 : Nat) (l1_2 : Int32) (v2 : Nat → Int32) (f2 : Nat → Nat → Int32) (w2 : Int64) (g2 : Nat → Int64), YI v2 → YC f2 → progOK (f2 4) (f2 5) (v2 9).toInt.toNat → v2 0 = (v 0) → v2 1 = (v 1) → v2 2 = (v 2) → v2 3 = (v 3) → v2 4 = (v 4) → v2 5 = (v 5) → v2 8 = (v 8) → v2 9 = (v 9) → v2 10 = (v 10) → v2 13 = (v 13) → v2 14 = (v 14) → v2 15 = (v 15) → v2 17 = (v 17) → v2 18 = (v 18) → v2 24 = (v 24) → v2 25 = (v 25) → v2 35 = (v 35) → v2 36 = (v 36) → v2 38 = (v 38) → v2 39 = (v 39) → ((1 : Int) ≤ l1_2.toInt ∧ l1_2.toInt ≤ 2147483647) → KV [] v2 v → KF [29] f2 f → (2147483647 - l1_2.toInt).toNat < n2 → ∀ (H : Heap) (locs : List Loc) (ls : Array Slot), va_P (dC, dI) vwCl (YW cy y0 r v2 f2 w2 g2) H → va_D A (YW cy y0 r v2 f2 w2 g2) → va_S A s.heap H locs → lv_has ls 3 [(1, .int l1_2), (0, .ref y0)] → W p l e { frames := 3, cells := 0, slots := 0, locals := 105 } s m ([.ref y0] : List Value).toArray below meth c H locs 0 0 Q (F0 m 9 ls []) := by
    intro n2
    induction n2 with
    | zero => intro l1_2 v2 f2 w2 g2 hIv2 hCf2 hRf2 hq0_v2 hq1_v2 hq2_v2 hq3_v2 hq4_v2 hq5_v2 hq8_v2 hq9_v2 hq10_v2 hq13_v2 hq14_v2 hq15_v2 hq17_v2 hq18_v2 hq24_v2 hq25_v2 hq35_v2 hq36_v2 hq38_v2 hq39_v2 hr1_2 hM_v2 hA_f2 hm; exact absurd hm (Nat.not_lt_zero _)
    | succ n2 ih2 =>
      intro l1_2 v2 f2 w2 g2 hIv2 hCf2 hRf2 hq0_v2 hq1_v2 hq2_v2 hq3_v2 hq4_v2 hq5_v2 hq8_v2 hq9_v2 hq10_v2 hq13_v2 hq14_v2 hq15_v2 hq17_v2 hq18_v2 hq24_v2 hq25_v2 hq35_v2 hq36_v2 hq38_v2 hq39_v2 hr1_2 hM_v2 hA_f2 hm2 H locs ls hP hD hS hl
      have hUv2 : (v2 35).toInt + (v2 36).toInt ≤ 40 := hIv2.2
      have zq9_v2 := congrArg Int32.toInt hq9_v2
      refine lv_iload_n hx hb dX11_cloth_9 rfl (lv_at hl 0 rfl) ?_
      refine lv_iconst (v := 1) hx hb dX11_cloth_10 rfl ?_
      refine lv_aload_n hx hb dX11_cloth_11 rfl (lv_at hl 1 rfl) ?_
      refine va_get (D := (dC, dI)) (ci := 11) (v := .int (v2 25)) (C := RX11) (T := TX11) (N := 79) hx hb hts inB_11 hown hE.1 hP 0 rfl rfl 49 (Nat.le_of_ble_eq_true rfl) (hts _ k_1369) (fun _ h9 => h9) rfl dX11_cloth_12 ?_
      refine tI (y := (v 25)) hq25_v2 ?_
      have b25_v : 0 ≤ (v 25).toInt ∧ (v 25).toInt ≤ 6 := Yb_25 hIv.1
      refine lv_ishl hx hb dX11_cloth_15 ?_
      refine lv_topi (fun t3 et3 => ?_)
      have zt3 : 1 ≤ t3.toInt ∧ t3.toInt ≤ 64 := by rw [et3]; exact shl1_rng6 (by omega) (by omega)
      refine lv_icmp_ge (tgt := 86) hx hb dX11_cloth_16 rfl (fun c4 => ?_) (fun c4 => ?_)
      · skip
        refine lv_aload_n hx hb dX11_cloth_86 rfl (lv_at hl 1 rfl) ?_
        refine va_get (D := (dC, dI)) (ci := 11) (v := .ref (r 68)) (C := RX11) (T := TX11) (N := 79) hx hb hts inB_11 hown hE.1 hP 0 rfl rfl 68 (Nat.le_of_ble_eq_true rfl) (hts _ k_1388) (fun _ h9 => h9) rfl dX11_cloth_87 ?_
        refine lv_iconst (v := 1) hx hb dX11_cloth_90 rfl ?_
        refine lv_aload_n hx hb dX11_cloth_91 rfl (lv_at hl 1 rfl) ?_
        refine va_get (D := (dC, dI)) (ci := 11) (v := .int (v2 25)) (C := RX11) (T := TX11) (N := 79) hx hb hts inB_11 hown hE.1 hP 0 rfl rfl 49 (Nat.le_of_ble_eq_true rfl) (hts _ k_1369) (fun _ h9 => h9) rfl dX11_cloth_92 ?_
        refine tI (y := (v 25)) hq25_v2 ?_
        refine lv_ishl hx hb dX11_cloth_95 ?_
        refine tI (y := t3) et3.symm ?_
        refine lv_iconst (v := 1) hx hb dX11_cloth_96 rfl ?_
        refine lv_isub hx hb dX11_cloth_97 ?_
        refine lv_topi (fun t7 et7 => ?_)
        have zt7 : t7.toInt = t3.toInt - 1 := (congrArg Int32.toInt et7).trans (sub_i rfl tc_1 (om_715 zt3) (om_716 zt3))
        refine ldI hx hb hE hP 30 rfl (vpI (k := 64) rfl (show 0 ≤ t7.toInt from om_717 zt3 zt7) (show t7.toInt < 64 from om_718 zt3 zt7)) rfl rfl dX11_cloth_98 ?_
        refine lv_topi (fun t8 et8 => ?_)
        refine lv_istore_n (lv' := [(1, .int t8), (0, .ref y0)]) hx hb dX11_cloth_99 rfl hl (Nat.le_of_ble_eq_true rfl) rfl (fun ls hl => ?_)
        refine lv_iload_n hx hb dX11_cloth_100 rfl (lv_at hl 0 rfl) ?_
        refine lv_ldcw (v := 1000000) hx hb hown (hts _ k_1927) dX11_cloth_101 ?_
        refine lv_icmp_lt (tgt := 111) hx hb dX11_cloth_104 rfl (fun c9 => ?_) (fun c9 => ?_)
        · skip
          refine lv_iload_n hx hb dX11_cloth_111 rfl (lv_at hl 0 rfl) ?_
          exact ret t8 (v2, f2, w2, g2) _ _ _ _ _ _ rfl ⟨hM_v2, hA_f2, hIv2, hCf2, hRf2, (show v2 0 = v 0 from hq0_v2), (show v2 1 = v 1 from hq1_v2), (show v2 2 = v 2 from hq2_v2), (show v2 3 = v 3 from hq3_v2), (show v2 4 = v 4 from hq4_v2), (show v2 5 = v 5 from hq5_v2), (show v2 8 = v 8 from hq8_v2), (show v2 9 = v 9 from hq9_v2), (show v2 10 = v 10 from hq10_v2), (show v2 13 = v 13 from hq13_v2), (show v2 14 = v 14 from hq14_v2), (show v2 15 = v 15 from hq15_v2), (show v2 17 = v 17 from hq17_v2), (show v2 18 = v 18 from hq18_v2), (show v2 24 = v 24 from hq24_v2), (show v2 25 = v 25 from hq25_v2), (show v2 35 = v 35 from hq35_v2), (show v2 36 = v 36 from hq36_v2), (show v2 38 = v 38 from hq38_v2), (show v2 39 = v 39 from hq39_v2)⟩ hP hD hS dX11_cloth_112 (Nat.le_refl _) (Nat.le_refl _)
        · skip
          refine lv_iconst (v := (-1)) hx hb dX11_cloth_107 rfl ?_
          refine lv_goto (tgt := 112) hx hb dX11_cloth_108 rfl ?_
          exact ret (-1) (v2, f2, w2, g2) _ _ _ _ _ _ rfl ⟨hM_v2, hA_f2, hIv2, hCf2, hRf2, (show v2 0 = v 0 from hq0_v2), (show v2 1 = v 1 from hq1_v2), (show v2 2 = v 2 from hq2_v2), (show v2 3 = v 3 from hq3_v2), (show v2 4 = v 4 from hq4_v2), (show v2 5 = v 5 from hq5_v2), (show v2 8 = v 8 from hq8_v2), (show v2 9 = v 9 from hq9_v2), (show v2 10 = v 10 from hq10_v2), (show v2 13 = v 13 from hq13_v2), (show v2 14 = v 14 from hq14_v2), (show v2 15 = v 15 from hq15_v2), (show v2 17 = v 17 from hq17_v2), (show v2 18 = v 18 from hq18_v2), (show v2 24 = v 24 from hq24_v2), (show v2 25 = v 25 from hq25_v2), (show v2 35 = v 35 from hq35_v2), (show v2 36 = v 36 from hq36_v2), (show v2 38 = v 38 from hq38_v2), (show v2 39 = v 39 from hq39_v2)⟩ hP hD hS dX11_cloth_112 (Nat.le_refl _) (Nat.le_refl _)
      · skip
        have zc4 : ¬ (t3.toInt ≤ l1_2.toInt) := zMn rfl rfl c4
        refine lv_aload_n hx hb dX11_cloth_19 rfl (lv_at hl 1 rfl) ?_
        refine va_get (D := (dC, dI)) (ci := 11) (v := .ref (r 68)) (C := RX11) (T := TX11) (N := 79) hx hb hts inB_11 hown hE.1 hP 0 rfl rfl 68 (Nat.le_of_ble_eq_true rfl) (hts _ k_1388) (fun _ h9 => h9) rfl dX11_cloth_20 ?_
        refine lv_iload_n hx hb dX11_cloth_23 rfl (lv_at hl 0 rfl) ?_
        refine lv_ldcw (v := 1000000) hx hb hown (hts _ k_1927) dX11_cloth_24 ?_
        refine stI hx hb hE hP hD hS 30 rfl (vpI (k := 64) rfl (show 0 ≤ l1_2.toInt from om_267 hr1_2) (show l1_2.toInt < 64 from om_719 zt3 zc4)) rfl dX11_cloth_27 (fun H locs hP hD hS => ?_)
        obtain ⟨f12, ef12, hP, hD⟩ : ∃ fz9, fz9 = upd2 f2 29 (upd (f2 29) l1_2.toNatClampNeg 1000000) ∧ va_P (dC, dI) vwCl (YW cy y0 r v2 fz9 w2 g2) H ∧ va_D A (YW cy y0 r v2 fz9 w2 g2) := ⟨_, rfl, hP, hD⟩
        have hCf12 : YC f12 := by rw [ef12]; exact hCf2
        have hRf12 : progOK (f12 4) (f12 5) (v2 9).toInt.toNat := by rw [ef12]; exact hRf2
        have hA_f12 : KF [29] f12 f := by rw [ef12]; exact KF.up hA_f2 rfl
        refine lv_iconst (v := 1) hx hb dX11_cloth_28 rfl ?_
        refine lv_istore_n (lv' := [(2, .int 1), (1, .int l1_2), (0, .ref y0)]) hx hb dX11_cloth_29 rfl hl (Nat.le_of_ble_eq_true rfl) rfl (fun ls hl => ?_)
        have lp13 : ∀ (n13 : Nat) (l2_13 : Int32) (v13 : Nat → Int32) (f13 : Nat → Nat → Int32) (w13 : Int64) (g13 : Nat → Int64), YI v13 → YC f13 → progOK (f13 4) (f13 5) (v13 9).toInt.toNat → v13 0 = (v 0) → v13 1 = (v 1) → v13 2 = (v 2) → v13 3 = (v 3) → v13 4 = (v 4) → v13 5 = (v 5) → v13 8 = (v 8) → v13 9 = (v 9) → v13 10 = (v 10) → v13 13 = (v 13) → v13 14 = (v 14) → v13 15 = (v 15) → v13 17 = (v 17) → v13 18 = (v 18) → v13 24 = (v 24) → v13 25 = (v 25) → v13 35 = (v 35) → v13 36 = (v 36) → v13 38 = (v 38) → v13 39 = (v 39) → ((1 : Int) ≤ l2_13.toInt ∧ l2_13.toInt ≤ 2147483647) → KV [] v13 v → KF [29] f13 f → (2147483647 - l2_13.toInt).toNat < n13 → ∀ (H : Heap) (locs : List Loc) (ls : Array Slot), va_P (dC, dI) vwCl (YW cy y0 r v13 f13 w13 g13) H → va_D A (YW cy y0 r v13 f13 w13 g13) → va_S A s.heap H locs → lv_has ls 3 [(2, .int l2_13), (1, .int l1_2), (0, .ref y0)] → W p l e { frames := 3, cells := 0, slots := 0, locals := 105 } s m ([.ref y0] : List Value).toArray below meth c H locs 0 0 Q (F0 m 30 ls []) := by
          intro n13
          induction n13 with
          | zero => intro l2_13 v13 f13 w13 g13 hIv13 hCf13 hRf13 hq0_v13 hq1_v13 hq2_v13 hq3_v13 hq4_v13 hq5_v13 hq8_v13 hq9_v13 hq10_v13 hq13_v13 hq14_v13 hq15_v13 hq17_v13 hq18_v13 hq24_v13 hq25_v13 hq35_v13 hq36_v13 hq38_v13 hq39_v13 hr2_13 hM_v13 hA_f13 hm; exact absurd hm (Nat.not_lt_zero _)
          | succ n13 ih13 =>
            intro l2_13 v13 f13 w13 g13 hIv13 hCf13 hRf13 hq0_v13 hq1_v13 hq2_v13 hq3_v13 hq4_v13 hq5_v13 hq8_v13 hq9_v13 hq10_v13 hq13_v13 hq14_v13 hq15_v13 hq17_v13 hq18_v13 hq24_v13 hq25_v13 hq35_v13 hq36_v13 hq38_v13 hq39_v13 hr2_13 hM_v13 hA_f13 hm13 H locs ls hP hD hS hl
            refine lv_iload_n hx hb dX11_cloth_30 rfl (lv_at hl 0 rfl) ?_
            refine lv_iload_n hx hb dX11_cloth_31 rfl (lv_at hl 1 rfl) ?_
            refine lv_icmp_gt (tgt := 80) hx hb dX11_cloth_32 rfl (fun c14 => ?_) (fun c14 => ?_)
            · skip
              have zc14 : l1_2.toInt < l2_13.toInt := zLp rfl rfl c14
              obtain ⟨t16, et16⟩ : ∃ y : Int32, y = l1_2 + 1 := ⟨_, rfl⟩
              have zt16 : t16.toInt = l1_2.toInt + 1 := (congrArg Int32.toInt et16).trans (add_i rfl tc_1 (om_259 hr1_2) (om_720 hr2_13 zc14))
              refine lv_iinc (v := t16) (lv' := [(1, .int t16), (2, .int l2_13), (0, .ref y0)]) hx hb dX11_cloth_80 hl (k := 1) rfl et16.symm (Nat.le_of_ble_eq_true rfl) rfl (fun ls hl => ?_)
              refine lv_goto (tgt := 9) hx hb dX11_cloth_83 rfl ?_
              have rg17 := fb_rng t16
              exact ih2 t16 v13 f13 w13 g13 hIv13 hCf13 hRf13 hq0_v13 hq1_v13 hq2_v13 hq3_v13 hq4_v13 hq5_v13 hq8_v13 hq9_v13 hq10_v13 hq13_v13 hq14_v13 hq15_v13 hq17_v13 hq18_v13 hq24_v13 hq25_v13 hq35_v13 hq36_v13 hq38_v13 hq39_v13 ⟨show (1 : Int) ≤ t16.toInt from om_260 hr1_2 zt16, show t16.toInt ≤ (2147483647 : Int) from om_44 rg17⟩ hM_v13 hA_f13 (show (2147483647 - t16.toInt).toNat < n2 from om_33 hm2 zt16 rg17) _ _ _ hP hD hS (lv_sub hl [0, 2] rfl)
            · skip
              have zc14 : ¬ (l1_2.toInt < l2_13.toInt) := zLn rfl rfl c14
              refine lv_iload_n hx hb dX11_cloth_35 rfl (lv_at hl 0 rfl) ?_
              refine lv_iload_n hx hb dX11_cloth_36 rfl (lv_at hl 1 rfl) ?_
              refine lv_iconst (v := (-1)) hx hb dX11_cloth_37 rfl ?_
              refine lv_ixor hx hb dX11_cloth_38 ?_
              refine lv_topi (fun t19 et19 => ?_)
              refine lv_iand hx hb dX11_cloth_39 ?_
              refine lv_topi (fun t20 et20 => ?_)
              refine lv_if_ne (tgt := 74) hx hb dX11_cloth_40 rfl (fun c21 => ?_) (fun c21 => ?_)
              · skip
                obtain ⟨t22, et22⟩ : ∃ y : Int32, y = l2_13 + 1 := ⟨_, rfl⟩
                have zt22 : t22.toInt = l2_13.toInt + 1 := (congrArg Int32.toInt et22).trans (add_i rfl tc_1 (om_259 hr2_13) (om_722 zt3 zc4 zc14))
                refine lv_iinc (v := t22) (lv' := [(2, .int t22), (1, .int l1_2), (0, .ref y0)]) hx hb dX11_cloth_74 hl (k := 0) rfl et22.symm (Nat.le_of_ble_eq_true rfl) rfl (fun ls hl => ?_)
                refine lv_goto (tgt := 30) hx hb dX11_cloth_77 rfl ?_
                have rg23 := fb_rng t22
                exact ih13 t22 v13 f13 w13 g13 hIv13 hCf13 hRf13 hq0_v13 hq1_v13 hq2_v13 hq3_v13 hq4_v13 hq5_v13 hq8_v13 hq9_v13 hq10_v13 hq13_v13 hq14_v13 hq15_v13 hq17_v13 hq18_v13 hq24_v13 hq25_v13 hq35_v13 hq36_v13 hq38_v13 hq39_v13 ⟨show (1 : Int) ≤ t22.toInt from om_260 hr2_13 zt22, show t22.toInt ≤ (2147483647 : Int) from om_44 rg23⟩ hM_v13 hA_f13 (show (2147483647 - t22.toInt).toNat < n13 from om_33 hm13 zt22 rg23) _ _ _ hP hD hS (lv_sub hl [0, 1, 2] rfl)
              · skip
                refine lv_aload_n hx hb dX11_cloth_43 rfl (lv_at hl 2 rfl) ?_
                refine va_get (D := (dC, dI)) (ci := 11) (v := .ref (r 68)) (C := RX11) (T := TX11) (N := 79) hx hb hts inB_11 hown hE.1 hP 0 rfl rfl 68 (Nat.le_of_ble_eq_true rfl) (hts _ k_1388) (fun _ h9 => h9) rfl dX11_cloth_44 ?_
                refine lv_iload_n hx hb dX11_cloth_47 rfl (lv_at hl 1 rfl) ?_
                refine lv_aload_n hx hb dX11_cloth_48 rfl (lv_at hl 2 rfl) ?_
                refine va_get (D := (dC, dI)) (ci := 11) (v := .ref (r 68)) (C := RX11) (T := TX11) (N := 79) hx hb hts inB_11 hown hE.1 hP 0 rfl rfl 68 (Nat.le_of_ble_eq_true rfl) (hts _ k_1388) (fun _ h9 => h9) rfl dX11_cloth_49 ?_
                refine lv_iload_n hx hb dX11_cloth_52 rfl (lv_at hl 1 rfl) ?_
                refine ldI hx hb hE hP 30 rfl (vpI (k := 64) rfl (show 0 ≤ l1_2.toInt from om_267 hr1_2) (show l1_2.toInt < 64 from om_719 zt3 zc4)) rfl rfl dX11_cloth_53 ?_
                refine lv_topi (fun t24 et24 => ?_)
                refine lv_aload_n hx hb dX11_cloth_54 rfl (lv_at hl 2 rfl) ?_
                refine lv_iload_n hx hb dX11_cloth_55 rfl (lv_at hl 0 rfl) ?_
                refine cbVi (n := 1) (rest := [.int t24, .int l1_2, .ref (r 68)]) hx hb hml hown hts hE hP hD hS hA (sY_X11_rowOf_1 l dC dI cy y0 r l2_13 v13 f13 w13 g13 hIv13 hCf13 hRf13 ) k_1928 k_1930 k_89 k_114 k_1931 hd_yX11_rowOf ⟨Nat.le_of_ble_eq_true rfl, Nat.le_of_ble_eq_true rfl⟩ 0 11 rfl rfl (rfl) hl.1 rfl (Nat.le_of_ble_eq_true rfl) dX11_cloth_56 (fun r25 u H locs hw hP hD hS => ?_)
                refine lv_aload_n hx hb dX11_cloth_59 rfl (lv_at hl 2 rfl) ?_
                refine va_get (D := (dC, dI)) (ci := 11) (v := .ref (r 68)) (C := RX11) (T := TX11) (N := 79) hx hb hts inB_11 hown hE.1 hP 0 rfl rfl 68 (Nat.le_of_ble_eq_true rfl) (hts _ k_1388) (fun _ h9 => h9) rfl dX11_cloth_60 ?_
                refine lv_iload_n hx hb dX11_cloth_63 rfl (lv_at hl 1 rfl) ?_
                refine lv_iload_n hx hb dX11_cloth_64 rfl (lv_at hl 0 rfl) ?_
                refine lv_iconst (v := (-1)) hx hb dX11_cloth_65 rfl ?_
                refine lv_ixor hx hb dX11_cloth_66 ?_
                refine lv_topi (fun t26 et26 => ?_)
                refine lv_iand hx hb dX11_cloth_67 ?_
                refine lv_topi (fun t27 et27 => ?_)
                have zt27 : 0 ≤ t27.toInt ∧ t27.toInt ≤ 63 := by rw [et27]; exact and_left (show 0 ≤ l1_2.toInt from om_267 hr1_2) (show l1_2.toInt ≤ 63 from om_723 zt3 zc4)
                refine ldI hx hb hE hP 30 rfl (vpI (k := 64) rfl (show 0 ≤ t27.toInt from om_216 zt27) (show t27.toInt < 64 from om_724 zt27)) rfl rfl dX11_cloth_68 ?_
                refine lv_topi (fun t28 et28 => ?_)
                refine lv_iadd hx hb dX11_cloth_69 ?_
                refine lv_topi (fun t29 et29 => ?_)
                refine cbSi (n := 2) (rest := [.int l1_2, .ref (r 68)]) hx hb hml hown hts hE hP hD hS hA (sY_X11_lesser_1 0 l dC dI cy y0 r t24 t29 v13 f13 w13 g13 hIv13 hCf13 hRf13 ) k_1799 k_1800 k_114 k_1801 he_yX11_lesser ⟨Nat.le_of_ble_eq_true rfl, Nat.le_of_ble_eq_true rfl⟩ (rfl) hl.1 rfl (Nat.le_of_ble_eq_true rfl) dX11_cloth_70 (fun r30 u H locs hw hP hD hS => ?_)
                obtain ⟨hG31, hw⟩ := hw
                obtain ⟨pp32, pp33⟩ := hw
                have pp32 : r30.toInt ≤ t24.toInt := pp32
                have pp33 : r30.toInt ≤ t29.toInt := pp33
                refine stI hx hb hE hP hD hS 30 rfl (vpI (k := 64) rfl (show 0 ≤ l1_2.toInt from om_267 hr1_2) (show l1_2.toInt < 64 from om_719 zt3 zc4)) rfl dX11_cloth_73 (fun H locs hP hD hS => ?_)
                obtain ⟨f34, ef34, hP, hD⟩ : ∃ fz9, fz9 = upd2 f13 29 (upd (f13 29) l1_2.toNatClampNeg r30) ∧ va_P (dC, dI) vwCl (YW cy y0 r v13 fz9 w13 g13) H ∧ va_D A (YW cy y0 r v13 fz9 w13 g13) := ⟨_, rfl, hP, hD⟩
                have hCf34 : YC f34 := by rw [ef34]; exact hCf13
                have hRf34 : progOK (f34 4) (f34 5) (v13 9).toInt.toNat := by rw [ef34]; exact hRf13
                have hA_f34 : KF [29] f34 f := by rw [ef34]; exact KF.up hA_f13 rfl
                obtain ⟨t35, et35⟩ : ∃ y : Int32, y = l2_13 + 1 := ⟨_, rfl⟩
                have zt35 : t35.toInt = l2_13.toInt + 1 := (congrArg Int32.toInt et35).trans (add_i rfl tc_1 (om_259 hr2_13) (om_722 zt3 zc4 zc14))
                refine lv_iinc (v := t35) (lv' := [(2, .int t35), (1, .int l1_2), (0, .ref y0)]) hx hb dX11_cloth_74 hl (k := 0) rfl et35.symm (Nat.le_of_ble_eq_true rfl) rfl (fun ls hl => ?_)
                refine lv_goto (tgt := 30) hx hb dX11_cloth_77 rfl ?_
                have rg36 := fb_rng t35
                exact ih13 t35 v13 f34 w13 g13 hIv13 hCf34 hRf34 hq0_v13 hq1_v13 hq2_v13 hq3_v13 hq4_v13 hq5_v13 hq8_v13 hq9_v13 hq10_v13 hq13_v13 hq14_v13 hq15_v13 hq17_v13 hq18_v13 hq24_v13 hq25_v13 hq35_v13 hq36_v13 hq38_v13 hq39_v13 ⟨show (1 : Int) ≤ t35.toInt from om_260 hr2_13 zt35, show t35.toInt ≤ (2147483647 : Int) from om_44 rg36⟩ hM_v13 hA_f34 (show (2147483647 - t35.toInt).toNat < n13 from om_33 hm13 zt35 rg36) _ _ _ hP hD hS (lv_sub hl [0, 1, 2] rfl)
        exact lp13 _ 1 v2 f12 w2 g2 hIv2 hCf12 hRf12 hq0_v2 hq1_v2 hq2_v2 hq3_v2 hq4_v2 hq5_v2 hq8_v2 hq9_v2 hq10_v2 hq13_v2 hq14_v2 hq15_v2 hq17_v2 hq18_v2 hq24_v2 hq25_v2 hq35_v2 hq36_v2 hq38_v2 hq39_v2 ⟨by decide, by decide⟩ hM_v2 hA_f12 (Nat.lt_succ_self _) _ _ _ hP hD hS (lv_sub hl [0, 1, 2] rfl)
  exact lp2 _ 1 v f1 w g hIv hCf1 hRf1 rfl rfl rfl rfl rfl rfl rfl rfl rfl rfl rfl rfl rfl rfl rfl rfl rfl rfl rfl rfl ⟨by decide, by decide⟩ hM_v hA_f1 (Nat.lt_succ_self _) _ _ _ hP hD hS (lv_sub hl [0, 1] rfl)
set_option maxHeartbeats 4000000 in
set_option maxRecDepth 100000 in
theorem sY_X11_areTaken_1 (l : Launch) (dC : Nat → ClassId) (dI : Nat → Nat → Nat) (cy : Nat → ClassId) (y0 : Nat) (r : Nat → Nat) (p1 : Int32) (p2 : Int32) (v : Nat → Int32) (f : Nat → Nat → Int32) (w : Int64) (g : Nat → Int64) (hIv : YI v) (hCf : YC f) (hRf : progOK (f 4) (f 5) (v 9).toInt.toNat) (hp1 : (0 : Int) ≤ p1.toInt ∧ p1.toInt ≤ 5) (hp2 : (0 : Int) ≤ p2.toInt ∧ p2.toInt ≤ 5) : ctI l (dC, dI) cy yX11_areTaken cX11_areTaken 3 .boolean 2 80 0 0 Unit [.ref y0, .int p1, .int p2] (YW cy y0 r v f w g) (fun r u => ((r = 1) ∨ (r = 0))) (fun u => YW cy y0 r v f w g) := by
  refine ctI_of (by decide) (Nat.le_of_ble_eq_true rfl) (fun p e s m below meth c A ls Q hx hb hml hts hown hE hP hD hA hl ret => ?_)
  have hown : s.vm.findClass RX11 = some m.cls := hown
  have hS : va_S A s.heap s.heap [] := va_S.rf
  have hl : lv_has ls 3 [(0, .ref y0), (1, .int p1), (2, .int p2)] := hl
  refine lv_aload_n hx hb dX11_areTaken_0 rfl (lv_at hl 0 rfl) ?_
  refine va_get (D := (dC, dI)) (ci := 11) (v := .ref (r 34)) (C := RX11) (T := TX11) (N := 79) hx hb hts inB_11 hown hE.1 hP 0 rfl rfl 34 (Nat.le_of_ble_eq_true rfl) (hts _ k_1354) (fun _ h9 => h9) rfl dX11_areTaken_1 ?_
  refine lv_iload_n hx hb dX11_areTaken_4 rfl (lv_at hl 1 rfl) ?_
  refine ldI hx hb hE hP 17 rfl (vpI (k := 6) rfl (show 0 ≤ p1.toInt from om_214 hp1) (show p1.toInt < 6 from om_534 hp1)) rfl rfl dX11_areTaken_5 ?_
  refine lv_topi (fun t1 et1 => ?_)
  refine lv_aload_n hx hb dX11_areTaken_6 rfl (lv_at hl 0 rfl) ?_
  refine va_get (D := (dC, dI)) (ci := 11) (v := .ref (r 34)) (C := RX11) (T := TX11) (N := 79) hx hb hts inB_11 hown hE.1 hP 0 rfl rfl 34 (Nat.le_of_ble_eq_true rfl) (hts _ k_1354) (fun _ h9 => h9) rfl dX11_areTaken_7 ?_
  refine lv_iload_n hx hb dX11_areTaken_10 rfl (lv_at hl 2 rfl) ?_
  refine ldI hx hb hE hP 17 rfl (vpI (k := 6) rfl (show 0 ≤ p2.toInt from om_214 hp2) (show p2.toInt < 6 from om_534 hp2)) rfl rfl dX11_areTaken_11 ?_
  refine lv_topi (fun t2 et2 => ?_)
  refine lv_isub hx hb dX11_areTaken_12 ?_
  refine lv_topi (fun t3 et3 => ?_)
  refine cbSi (n := 1) (rest := []) hx hb hml hown hts hE hP hD hS hA (sY_X11_plain_1 l dC dI cy y0 r t3 v f w g hIv hCf hRf ) k_1920 k_1921 k_114 k_1922 he_yX11_plain ⟨Nat.le_of_ble_eq_true rfl, Nat.le_of_ble_eq_true rfl⟩ (rfl) hl.1 rfl (Nat.le_of_ble_eq_true rfl) dX11_areTaken_13 (fun r4 u H locs hw hP hD hS => ?_)
  refine lv_aload_n hx hb dX11_areTaken_16 rfl (lv_at hl 0 rfl) ?_
  refine va_get (D := (dC, dI)) (ci := 11) (v := .int (v 28)) (C := RX11) (T := TX11) (N := 79) hx hb hts inB_11 hown hE.1 hP 0 rfl rfl 52 (Nat.le_of_ble_eq_true rfl) (hts _ k_1372) (fun _ h9 => h9) rfl dX11_areTaken_17 ?_
  refine lv_icmp_gt (tgt := 27) hx hb dX11_areTaken_20 rfl (fun c5 => ?_) (fun c5 => ?_)
  · skip
    refine lv_iconst (v := 0) hx hb dX11_areTaken_27 rfl ?_
    exact ret 0 () _ _ _ _ _ _ rfl (Or.inr rfl) hP hD hS dX11_areTaken_28 (Nat.le_refl _) (Nat.le_refl _)
  · skip
    refine lv_iconst (v := 1) hx hb dX11_areTaken_23 rfl ?_
    refine lv_goto (tgt := 28) hx hb dX11_areTaken_24 rfl ?_
    exact ret 1 () _ _ _ _ _ _ rfl (Or.inl rfl) hP hD hS dX11_areTaken_28 (Nat.le_refl _) (Nat.le_refl _)
set_option maxHeartbeats 4000000 in
set_option maxRecDepth 100000 in
theorem sY_X11_layColours_1 (l : Launch) (dC : Nat → ClassId) (dI : Nat → Nat → Nat) (cy : Nat → ClassId) (y0 : Nat) (r : Nat → Nat) (p1 : Int32) (p2 : Int32) (v : Nat → Int32) (f : Nat → Nat → Int32) (w : Int64) (g : Nat → Int64) (hIv : YI v) (hCf : YC f) (hRf : progOK (f 4) (f 5) (v 9).toInt.toNat) (hp1 : (1 : Int) ≤ p1.toInt ∧ p1.toInt ≤ 6) (hp2 : (0 : Int) ≤ p2.toInt ∧ p2.toInt ≤ 2147483647) : ctI l (dC, dI) cy yX11_layColours cX11_layColours 7 .boolean 3 102 0 0 ((Nat → Int32) × (Nat → Nat → Int32) × (Int64) × (Nat → Int64)) [.ref y0, .int p1, .int p2] (YW cy y0 r v f w g) (fun r u => KV [] u.1 v ∧ KF [27] u.2.1 f ∧ YI u.1 ∧ YC u.2.1 ∧ progOK (u.2.1 4) (u.2.1 5) (u.1 9).toInt.toNat ∧ u.1 0 = v 0 ∧ u.1 1 = v 1 ∧ u.1 2 = v 2 ∧ u.1 3 = v 3 ∧ u.1 4 = v 4 ∧ u.1 5 = v 5 ∧ u.1 8 = v 8 ∧ u.1 9 = v 9 ∧ u.1 10 = v 10 ∧ u.1 13 = v 13 ∧ u.1 14 = v 14 ∧ u.1 15 = v 15 ∧ u.1 17 = v 17 ∧ u.1 18 = v 18 ∧ u.1 24 = v 24 ∧ u.1 25 = v 25 ∧ u.1 35 = v 35 ∧ u.1 36 = v 36 ∧ u.1 38 = v 38 ∧ u.1 39 = v 39 ∧ ((r = 1) ∨ (r = 0))) (fun u => YW cy y0 r u.1 u.2.1 u.2.2.1 u.2.2.2) := by
  refine ctI_of (by decide) (Nat.le_of_ble_eq_true rfl) (fun p e s m below meth c A ls Q hx hb hml hts hown hE hP hD hA hl ret => ?_)
  have hM_v : KV [] v v := fun _ _ => rfl
  have hA_f : KF [27] f f := fun _ _ => rfl
  have hown : s.vm.findClass RX11 = some m.cls := hown
  have hS : va_S A s.heap s.heap [] := va_S.rf
  have hl : lv_has ls 7 [(0, .ref y0), (1, .int p1), (2, .int p2)] := hl
  refine lv_iload_n hx hb dX11_layColours_0 rfl (lv_at hl 2 rfl) ?_
  refine lv_istore_n (lv' := [(3, .int p2), (0, .ref y0), (1, .int p1), (2, .int p2)]) hx hb dX11_layColours_1 rfl hl (Nat.le_of_ble_eq_true rfl) rfl (fun ls hl => ?_)
  refine lv_aload_n hx hb dX11_layColours_2 rfl (lv_at hl 1 rfl) ?_
  refine va_get (D := (dC, dI)) (ci := 11) (v := .int (v 24)) (C := RX11) (T := TX11) (N := 79) hx hb hts inB_11 hown hE.1 hP 0 rfl rfl 48 (Nat.le_of_ble_eq_true rfl) (hts _ k_1368) (fun _ h9 => h9) rfl dX11_layColours_3 ?_
  have b24_v : 0 ≤ (v 24).toInt ∧ (v 24).toInt ≤ 6 := Yb_24 hIv.1
  refine lv_iconst (v := 1) hx hb dX11_layColours_6 rfl ?_
  refine lv_isub hx hb dX11_layColours_7 ?_
  refine lv_topi (fun t1 et1 => ?_)
  have zt1 : t1.toInt = (v 24).toInt - 1 := (congrArg Int32.toInt et1).trans (sub_i rfl tc_1 (om_224 b24_v) (om_225 b24_v))
  refine lv_istore (lv' := [(4, .int t1), (3, .int p2), (0, .ref y0), (1, .int p1), (2, .int p2)]) hx hb dX11_layColours_8 hl (Nat.le_of_ble_eq_true rfl) rfl (fun ls hl => ?_)
  have lp3 : ∀ (n3 : Nat) (l3_3 : Int32) (l4_3 : Int32) (v3 : Nat → Int32) (f3 : Nat → Nat → Int32) (w3 : Int64) (g3 : Nat → Int64), YI v3 → YC f3 → progOK (f3 4) (f3 5) (v3 9).toInt.toNat → v3 0 = (v 0) → v3 1 = (v 1) → v3 2 = (v 2) → v3 3 = (v 3) → v3 4 = (v 4) → v3 5 = (v 5) → v3 8 = (v 8) → v3 9 = (v 9) → v3 10 = (v 10) → v3 13 = (v 13) → v3 14 = (v 14) → v3 15 = (v 15) → v3 17 = (v 17) → v3 18 = (v 18) → v3 24 = (v 24) → v3 25 = (v 25) → v3 35 = (v 35) → v3 36 = (v 36) → v3 38 = (v 38) → v3 39 = (v 39) → ((0 : Int) ≤ l3_3.toInt ∧ l3_3.toInt ≤ 2147483647) → ((-2147483648 : Int) ≤ l4_3.toInt ∧ l4_3.toInt ≤ 5) → KV [] v3 v → KF [27] f3 f → (l4_3.toInt + 2147483648).toNat < n3 → ∀ (H : Heap) (locs : List Loc) (ls : Array Slot), va_P (dC, dI) vwCl (YW cy y0 r v3 f3 w3 g3) H → va_D A (YW cy y0 r v3 f3 w3 g3) → va_S A s.heap H locs → lv_has ls 7 [(4, .int l4_3), (3, .int l3_3), (0, .ref y0), (1, .int p1), (2, .int p2)] → W p l e { frames := 3, cells := 0, slots := 0, locals := 102 } s m ([.ref y0, .int p1, .int p2] : List Value).toArray below meth c H locs 0 0 Q (F0 m 10 ls []) := by
    intro n3
    induction n3 with
    | zero => intro l3_3 l4_3 v3 f3 w3 g3 hIv3 hCf3 hRf3 hq0_v3 hq1_v3 hq2_v3 hq3_v3 hq4_v3 hq5_v3 hq8_v3 hq9_v3 hq10_v3 hq13_v3 hq14_v3 hq15_v3 hq17_v3 hq18_v3 hq24_v3 hq25_v3 hq35_v3 hq36_v3 hq38_v3 hq39_v3 hr3_3 hr4_3 hM_v3 hA_f3 hm; exact absurd hm (Nat.not_lt_zero _)
    | succ n3 ih3 =>
      intro l3_3 l4_3 v3 f3 w3 g3 hIv3 hCf3 hRf3 hq0_v3 hq1_v3 hq2_v3 hq3_v3 hq4_v3 hq5_v3 hq8_v3 hq9_v3 hq10_v3 hq13_v3 hq14_v3 hq15_v3 hq17_v3 hq18_v3 hq24_v3 hq25_v3 hq35_v3 hq36_v3 hq38_v3 hq39_v3 hr3_3 hr4_3 hM_v3 hA_f3 hm3 H locs ls hP hD hS hl
      refine lv_iload hx hb dX11_layColours_10 (lv_at hl 0 rfl) ?_
      refine lv_if_lt (tgt := 35) hx hb dX11_layColours_12 rfl (fun c4 => ?_) (fun c4 => ?_)
      · skip
        refine lv_iconst (v := 1) hx hb dX11_layColours_35 rfl ?_
        refine lv_istore (lv' := [(4, .int 1), (3, .int l3_3), (0, .ref y0), (1, .int p1), (2, .int p2)]) hx hb dX11_layColours_36 hl (Nat.le_of_ble_eq_true rfl) rfl (fun ls hl => ?_)
        refine lv_iconst (v := 0) hx hb dX11_layColours_38 rfl ?_
        refine lv_istore (lv' := [(5, .int 0), (4, .int 1), (3, .int l3_3), (0, .ref y0), (1, .int p1), (2, .int p2)]) hx hb dX11_layColours_39 hl (Nat.le_of_ble_eq_true rfl) rfl (fun ls hl => ?_)
        have lp5 : ∀ (n5 : Nat) (l4_5 : Int32) (l5_5 : Int32), ((0 : Int) ≤ l4_5.toInt ∧ l4_5.toInt ≤ 1) → ((0 : Int) ≤ l5_5.toInt ∧ l5_5.toInt ≤ 2147483647) → (2147483647 - l5_5.toInt).toNat < n5 → ∀ (H : Heap) (locs : List Loc) (ls : Array Slot), va_P (dC, dI) vwCl (YW cy y0 r v3 f3 w3 g3) H → va_D A (YW cy y0 r v3 f3 w3 g3) → va_S A s.heap H locs → lv_has ls 7 [(5, .int l5_5), (4, .int l4_5), (3, .int l3_3), (0, .ref y0), (1, .int p1), (2, .int p2)] → W p l e { frames := 3, cells := 0, slots := 0, locals := 102 } s m ([.ref y0, .int p1, .int p2] : List Value).toArray below meth c H locs 0 0 Q (F0 m 41 ls []) := by
          intro n5
          induction n5 with
          | zero => intro l4_5 l5_5 hr4_5 hr5_5 hm; exact absurd hm (Nat.not_lt_zero _)
          | succ n5 ih5 =>
            intro l4_5 l5_5 hr4_5 hr5_5 hm5 H locs ls hP hD hS hl
            refine lv_iload hx hb dX11_layColours_41 (lv_at hl 0 rfl) ?_
            refine lv_aload_n hx hb dX11_layColours_43 rfl (lv_at hl 3 rfl) ?_
            refine va_get (D := (dC, dI)) (ci := 11) (v := .int (v3 24)) (C := RX11) (T := TX11) (N := 79) hx hb hts inB_11 hown hE.1 hP 0 rfl rfl 48 (Nat.le_of_ble_eq_true rfl) (hts _ k_1368) (fun _ h9 => h9) rfl dX11_layColours_44 ?_
            refine tI (y := (v 24)) hq24_v3 ?_
            have b24_v : 0 ≤ (v 24).toInt ∧ (v 24).toInt ≤ 6 := Yb_24 hIv.1
            refine lv_icmp_ge (tgt := 112) hx hb dX11_layColours_47 rfl (fun c6 => ?_) (fun c6 => ?_)
            · skip
              refine lv_iload hx hb dX11_layColours_112 (lv_at hl 1 rfl) ?_
              rcases b01 (x := l4_5) (show 0 ≤ l4_5.toInt from om_367 hr4_5) (show l4_5.toInt ≤ 1 from om_368 hr4_5) with h8 | h8
              · skip
                refine tI (y := 1) h8 ?_
                exact ret 1 (v3, f3, w3, g3) _ _ _ _ _ _ rfl ⟨hM_v3, hA_f3, hIv3, hCf3, hRf3, (show v3 0 = v 0 from hq0_v3), (show v3 1 = v 1 from hq1_v3), (show v3 2 = v 2 from hq2_v3), (show v3 3 = v 3 from hq3_v3), (show v3 4 = v 4 from hq4_v3), (show v3 5 = v 5 from hq5_v3), (show v3 8 = v 8 from hq8_v3), (show v3 9 = v 9 from hq9_v3), (show v3 10 = v 10 from hq10_v3), (show v3 13 = v 13 from hq13_v3), (show v3 14 = v 14 from hq14_v3), (show v3 15 = v 15 from hq15_v3), (show v3 17 = v 17 from hq17_v3), (show v3 18 = v 18 from hq18_v3), (show v3 24 = v 24 from hq24_v3), (show v3 25 = v 25 from hq25_v3), (show v3 35 = v 35 from hq35_v3), (show v3 36 = v 36 from hq36_v3), (show v3 38 = v 38 from hq38_v3), (show v3 39 = v 39 from hq39_v3), (Or.inl rfl)⟩ hP hD hS dX11_layColours_114 (Nat.le_refl _) (Nat.le_refl _)
              · skip
                refine tI (y := 0) h8 ?_
                exact ret 0 (v3, f3, w3, g3) _ _ _ _ _ _ rfl ⟨hM_v3, hA_f3, hIv3, hCf3, hRf3, (show v3 0 = v 0 from hq0_v3), (show v3 1 = v 1 from hq1_v3), (show v3 2 = v 2 from hq2_v3), (show v3 3 = v 3 from hq3_v3), (show v3 4 = v 4 from hq4_v3), (show v3 5 = v 5 from hq5_v3), (show v3 8 = v 8 from hq8_v3), (show v3 9 = v 9 from hq9_v3), (show v3 10 = v 10 from hq10_v3), (show v3 13 = v 13 from hq13_v3), (show v3 14 = v 14 from hq14_v3), (show v3 15 = v 15 from hq15_v3), (show v3 17 = v 17 from hq17_v3), (show v3 18 = v 18 from hq18_v3), (show v3 24 = v 24 from hq24_v3), (show v3 25 = v 25 from hq25_v3), (show v3 35 = v 35 from hq35_v3), (show v3 36 = v 36 from hq36_v3), (show v3 38 = v 38 from hq38_v3), (show v3 39 = v 39 from hq39_v3), (Or.inr rfl)⟩ hP hD hS dX11_layColours_114 (Nat.le_refl _) (Nat.le_refl _)
            · skip
              have zc6 : ¬ ((v 24).toInt ≤ l5_5.toInt) := zMn rfl rfl c6
              refine lv_iconst (v := 0) hx hb dX11_layColours_50 rfl ?_
              refine lv_istore (lv' := [(6, .int 0), (5, .int l5_5), (4, .int l4_5), (3, .int l3_3), (0, .ref y0), (1, .int p1), (2, .int p2)]) hx hb dX11_layColours_51 hl (Nat.le_of_ble_eq_true rfl) rfl (fun ls hl => ?_)
              have lp10 : ∀ (n10 : Nat) (l4_10 : Int32) (l6_10 : Int32), ((0 : Int) ≤ l4_10.toInt ∧ l4_10.toInt ≤ 1) → ((0 : Int) ≤ l6_10.toInt ∧ l6_10.toInt ≤ 2147483647) → (2147483647 - l6_10.toInt).toNat < n10 → ∀ (H : Heap) (locs : List Loc) (ls : Array Slot), va_P (dC, dI) vwCl (YW cy y0 r v3 f3 w3 g3) H → va_D A (YW cy y0 r v3 f3 w3 g3) → va_S A s.heap H locs → lv_has ls 7 [(6, .int l6_10), (5, .int l5_5), (4, .int l4_10), (3, .int l3_3), (0, .ref y0), (1, .int p1), (2, .int p2)] → W p l e { frames := 3, cells := 0, slots := 0, locals := 102 } s m ([.ref y0, .int p1, .int p2] : List Value).toArray below meth c H locs 0 0 Q (F0 m 53 ls []) := by
                intro n10
                induction n10 with
                | zero => intro l4_10 l6_10 hr4_10 hr6_10 hm; exact absurd hm (Nat.not_lt_zero _)
                | succ n10 ih10 =>
                  intro l4_10 l6_10 hr4_10 hr6_10 hm10 H locs ls hP hD hS hl
                  refine lv_iload hx hb dX11_layColours_53 (lv_at hl 0 rfl) ?_
                  refine lv_iload hx hb dX11_layColours_55 (lv_at hl 1 rfl) ?_
                  refine lv_icmp_ge (tgt := 106) hx hb dX11_layColours_57 rfl (fun c11 => ?_) (fun c11 => ?_)
                  · skip
                    obtain ⟨t13, et13⟩ : ∃ y : Int32, y = l5_5 + 1 := ⟨_, rfl⟩
                    have zt13 : t13.toInt = l5_5.toInt + 1 := (congrArg Int32.toInt et13).trans (add_i rfl tc_1 (om_41 hr5_5) (om_187 b24_v zc6))
                    refine lv_iinc (v := t13) (lv' := [(5, .int t13), (6, .int l6_10), (4, .int l4_10), (3, .int l3_3), (0, .ref y0), (1, .int p1), (2, .int p2)]) hx hb dX11_layColours_106 hl (k := 1) rfl et13.symm (Nat.le_of_ble_eq_true rfl) rfl (fun ls hl => ?_)
                    refine lv_goto (tgt := 41) hx hb dX11_layColours_109 rfl ?_
                    have rg15 := fb_rng t13
                    exact ih5 l4_10 t13 ⟨show (0 : Int) ≤ l4_10.toInt from om_367 hr4_10, show l4_10.toInt ≤ (1 : Int) from om_368 hr4_10⟩ ⟨show (0 : Int) ≤ t13.toInt from om_43 hr5_5 zt13, show t13.toInt ≤ (2147483647 : Int) from om_44 rg15⟩ (show (2147483647 - t13.toInt).toNat < n5 from om_33 hm5 zt13 rg15) _ _ _ hP hD hS (lv_sub hl [0, 2, 3, 4, 5, 6] rfl)
                  · skip
                    have zc11 : ¬ (l5_5.toInt ≤ l6_10.toInt) := zMn rfl rfl c11
                    refine lv_iload hx hb dX11_layColours_60 (lv_at hl 2 rfl) ?_
                    refine lv_if_eq (tgt := 97) hx hb dX11_layColours_62 rfl (fun c17 => ?_) (fun c17 => ?_)
                    · skip
                      refine lv_iconst (v := 0) hx hb dX11_layColours_97 rfl ?_
                      refine lv_istore (lv' := [(4, .int 0), (6, .int l6_10), (5, .int l5_5), (3, .int l3_3), (0, .ref y0), (1, .int p1), (2, .int p2)]) hx hb dX11_layColours_98 hl (Nat.le_of_ble_eq_true rfl) rfl (fun ls hl => ?_)
                      obtain ⟨t18, et18⟩ : ∃ y : Int32, y = l6_10 + 1 := ⟨_, rfl⟩
                      have zt18 : t18.toInt = l6_10.toInt + 1 := (congrArg Int32.toInt et18).trans (add_i rfl tc_1 (om_41 hr6_10) (om_725 hr5_5 zc11))
                      refine lv_iinc (v := t18) (lv' := [(6, .int t18), (4, .int 0), (5, .int l5_5), (3, .int l3_3), (0, .ref y0), (1, .int p1), (2, .int p2)]) hx hb dX11_layColours_100 hl (k := 1) rfl et18.symm (Nat.le_of_ble_eq_true rfl) rfl (fun ls hl => ?_)
                      refine lv_goto (tgt := 53) hx hb dX11_layColours_103 rfl ?_
                      have rg19 := fb_rng t18
                      exact ih10 0 t18 ⟨by decide, by decide⟩ ⟨show (0 : Int) ≤ t18.toInt from om_43 hr6_10 zt18, show t18.toInt ≤ (2147483647 : Int) from om_44 rg19⟩ (show (2147483647 - t18.toInt).toNat < n10 from om_33 hm10 zt18 rg19) _ _ _ hP hD hS (lv_sub hl [0, 2, 1, 3, 4, 5, 6] rfl)
                    · skip
                      refine lv_aload_n hx hb dX11_layColours_65 rfl (lv_at hl 4 rfl) ?_
                      refine va_get (D := (dC, dI)) (ci := 11) (v := .ref (r 65)) (C := RX11) (T := TX11) (N := 79) hx hb hts inB_11 hown hE.1 hP 0 rfl rfl 65 (Nat.le_of_ble_eq_true rfl) (hts _ k_1385) (fun _ h9 => h9) rfl dX11_layColours_66 ?_
                      refine lv_iload hx hb dX11_layColours_69 (lv_at hl 1 rfl) ?_
                      refine ldI hx hb hE hP 28 rfl (vpI (k := 6) rfl (show 0 ≤ l5_5.toInt from om_39 hr5_5) (show l5_5.toInt < 6 from om_460 b24_v zc6)) rfl rfl dX11_layColours_71 ?_
                      refine lv_topi (fun t20 et20 => ?_)
                      refine lv_aload_n hx hb dX11_layColours_72 rfl (lv_at hl 4 rfl) ?_
                      refine va_get (D := (dC, dI)) (ci := 11) (v := .ref (r 65)) (C := RX11) (T := TX11) (N := 79) hx hb hts inB_11 hown hE.1 hP 0 rfl rfl 65 (Nat.le_of_ble_eq_true rfl) (hts _ k_1385) (fun _ h9 => h9) rfl dX11_layColours_73 ?_
                      refine lv_iload hx hb dX11_layColours_76 (lv_at hl 0 rfl) ?_
                      refine ldI hx hb hE hP 28 rfl (vpI (k := 6) rfl (show 0 ≤ l6_10.toInt from om_39 hr6_10) (show l6_10.toInt < 6 from om_726 b24_v zc6 zc11)) rfl rfl dX11_layColours_78 ?_
                      refine lv_topi (fun t21 et21 => ?_)
                      refine lv_icmp_ne (tgt := 93) hx hb dX11_layColours_79 rfl (fun c22 => ?_) (fun c22 => ?_)
                      · skip
                        refine lv_iconst (v := 1) hx hb dX11_layColours_93 rfl ?_
                        refine lv_goto (tgt := 98) hx hb dX11_layColours_94 rfl ?_
                        refine lv_istore (lv' := [(4, .int 1), (6, .int l6_10), (5, .int l5_5), (3, .int l3_3), (0, .ref y0), (1, .int p1), (2, .int p2)]) hx hb dX11_layColours_98 hl (Nat.le_of_ble_eq_true rfl) rfl (fun ls hl => ?_)
                        obtain ⟨t25, et25⟩ : ∃ y : Int32, y = l6_10 + 1 := ⟨_, rfl⟩
                        have zt25 : t25.toInt = l6_10.toInt + 1 := (congrArg Int32.toInt et25).trans (add_i rfl tc_1 (om_41 hr6_10) (om_725 hr5_5 zc11))
                        refine lv_iinc (v := t25) (lv' := [(6, .int t25), (4, .int 1), (5, .int l5_5), (3, .int l3_3), (0, .ref y0), (1, .int p1), (2, .int p2)]) hx hb dX11_layColours_100 hl (k := 1) rfl et25.symm (Nat.le_of_ble_eq_true rfl) rfl (fun ls hl => ?_)
                        refine lv_goto (tgt := 53) hx hb dX11_layColours_103 rfl ?_
                        have rg26 := fb_rng t25
                        exact ih10 1 t25 ⟨by decide, by decide⟩ ⟨show (0 : Int) ≤ t25.toInt from om_43 hr6_10 zt25, show t25.toInt ≤ (2147483647 : Int) from om_44 rg26⟩ (show (2147483647 - t25.toInt).toNat < n10 from om_33 hm10 zt25 rg26) _ _ _ hP hD hS (lv_sub hl [0, 2, 1, 3, 4, 5, 6] rfl)
                      · skip
                        refine lv_aload_n hx hb dX11_layColours_82 rfl (lv_at hl 4 rfl) ?_
                        refine lv_iload hx hb dX11_layColours_83 (lv_at hl 1 rfl) ?_
                        refine lv_iload hx hb dX11_layColours_85 (lv_at hl 0 rfl) ?_
                        refine cbVi (n := 2) (rest := []) hx hb hml hown hts hE hP hD hS hA (sY_X11_areTaken_1 l dC dI cy y0 r l5_5 l6_10 v3 f3 w3 g3 hIv3 hCf3 hRf3 ⟨show (0 : Int) ≤ l5_5.toInt from om_39 hr5_5, show l5_5.toInt ≤ (5 : Int) from om_100 b24_v zc6⟩ ⟨show (0 : Int) ≤ l6_10.toInt from om_39 hr6_10, show l6_10.toInt ≤ (5 : Int) from om_728 b24_v zc6 zc11⟩) k_1940 k_1942 k_91 k_114 k_1943 hd_yX11_areTaken ⟨Nat.le_of_ble_eq_true rfl, Nat.le_of_ble_eq_true rfl⟩ 0 11 rfl rfl (rfl) hl.1 rfl (Nat.le_of_ble_eq_true rfl) dX11_layColours_87 (fun r29 u H locs hw hP hD hS => ?_)
                        rcases hw with ⟨g30⟩ | ⟨g30⟩
                        · skip
                          subst g30
                          refine lv_if_ne (tgt := 97) hx hb dX11_layColours_90 rfl (fun _ => ?_) (fun c0 => absurd c0 (by decide))
                          refine lv_iconst (v := 0) hx hb dX11_layColours_97 rfl ?_
                          refine lv_istore (lv' := [(4, .int 0), (6, .int l6_10), (5, .int l5_5), (3, .int l3_3), (0, .ref y0), (1, .int p1), (2, .int p2)]) hx hb dX11_layColours_98 hl (Nat.le_of_ble_eq_true rfl) rfl (fun ls hl => ?_)
                          obtain ⟨t31, et31⟩ : ∃ y : Int32, y = l6_10 + 1 := ⟨_, rfl⟩
                          have zt31 : t31.toInt = l6_10.toInt + 1 := (congrArg Int32.toInt et31).trans (add_i rfl tc_1 (om_41 hr6_10) (om_725 hr5_5 zc11))
                          refine lv_iinc (v := t31) (lv' := [(6, .int t31), (4, .int 0), (5, .int l5_5), (3, .int l3_3), (0, .ref y0), (1, .int p1), (2, .int p2)]) hx hb dX11_layColours_100 hl (k := 1) rfl et31.symm (Nat.le_of_ble_eq_true rfl) rfl (fun ls hl => ?_)
                          refine lv_goto (tgt := 53) hx hb dX11_layColours_103 rfl ?_
                          have rg32 := fb_rng t31
                          exact ih10 0 t31 ⟨by decide, by decide⟩ ⟨show (0 : Int) ≤ t31.toInt from om_43 hr6_10 zt31, show t31.toInt ≤ (2147483647 : Int) from om_44 rg32⟩ (show (2147483647 - t31.toInt).toNat < n10 from om_33 hm10 zt31 rg32) _ _ _ hP hD hS (lv_sub hl [0, 2, 1, 3, 4, 5, 6] rfl)
                        · skip
                          subst g30
                          refine lv_if_ne (tgt := 97) hx hb dX11_layColours_90 rfl (fun c0 => absurd (by decide) c0) (fun _ => ?_)
                          refine lv_iconst (v := 1) hx hb dX11_layColours_93 rfl ?_
                          refine lv_goto (tgt := 98) hx hb dX11_layColours_94 rfl ?_
                          refine lv_istore (lv' := [(4, .int 1), (6, .int l6_10), (5, .int l5_5), (3, .int l3_3), (0, .ref y0), (1, .int p1), (2, .int p2)]) hx hb dX11_layColours_98 hl (Nat.le_of_ble_eq_true rfl) rfl (fun ls hl => ?_)
                          obtain ⟨t33, et33⟩ : ∃ y : Int32, y = l6_10 + 1 := ⟨_, rfl⟩
                          have zt33 : t33.toInt = l6_10.toInt + 1 := (congrArg Int32.toInt et33).trans (add_i rfl tc_1 (om_41 hr6_10) (om_725 hr5_5 zc11))
                          refine lv_iinc (v := t33) (lv' := [(6, .int t33), (4, .int 1), (5, .int l5_5), (3, .int l3_3), (0, .ref y0), (1, .int p1), (2, .int p2)]) hx hb dX11_layColours_100 hl (k := 1) rfl et33.symm (Nat.le_of_ble_eq_true rfl) rfl (fun ls hl => ?_)
                          refine lv_goto (tgt := 53) hx hb dX11_layColours_103 rfl ?_
                          have rg34 := fb_rng t33
                          exact ih10 1 t33 ⟨by decide, by decide⟩ ⟨show (0 : Int) ≤ t33.toInt from om_43 hr6_10 zt33, show t33.toInt ≤ (2147483647 : Int) from om_44 rg34⟩ (show (2147483647 - t33.toInt).toNat < n10 from om_33 hm10 zt33 rg34) _ _ _ hP hD hS (lv_sub hl [0, 2, 1, 3, 4, 5, 6] rfl)
              exact lp10 _ l4_5 0 ⟨show (0 : Int) ≤ l4_5.toInt from om_367 hr4_5, show l4_5.toInt ≤ (1 : Int) from om_368 hr4_5⟩ ⟨by decide, by decide⟩ (Nat.lt_succ_self _) _ _ _ hP hD hS (lv_sub hl [0, 1, 2, 3, 4, 5, 6] rfl)
        exact lp5 _ 1 0 ⟨by decide, by decide⟩ ⟨by decide, by decide⟩ (Nat.lt_succ_self _) _ _ _ hP hD hS (lv_sub hl [0, 1, 2, 3, 4, 5] rfl)
      · skip
        have zc4 : ¬ (l4_3.toInt < 0) := zLn rfl tc_0 c4
        refine lv_aload_n hx hb dX11_layColours_15 rfl (lv_at hl 2 rfl) ?_
        refine va_get (D := (dC, dI)) (ci := 11) (v := .ref (r 65)) (C := RX11) (T := TX11) (N := 79) hx hb hts inB_11 hown hE.1 hP 0 rfl rfl 65 (Nat.le_of_ble_eq_true rfl) (hts _ k_1385) (fun _ h9 => h9) rfl dX11_layColours_16 ?_
        refine lv_iload hx hb dX11_layColours_19 (lv_at hl 0 rfl) ?_
        refine lv_iload_n hx hb dX11_layColours_21 rfl (lv_at hl 1 rfl) ?_
        refine lv_iload_n hx hb dX11_layColours_22 rfl (lv_at hl 3 rfl) ?_
        refine lv_irem hx hb dX11_layColours_23 (ne0 (show ¬ p1.toInt = 0 from om_729 hp1)) ?_
        refine lv_topi (fun t36 et36 => ?_)
        have zt36 : 0 ≤ t36.toInt ∧ t36.toInt < p1.toInt := by rw [et36]; exact rem_rng (zx := l3_3.toInt) (zy := p1.toInt) rfl rfl (show (0 : Int) ≤ l3_3.toInt from om_39 hr3_3) (show (0 : Int) < p1.toInt from om_730 hp1)
        refine stI hx hb hE hP hD hS 28 rfl (vpI (k := 6) rfl (show 0 ≤ l4_3.toInt from om_14 zc4) (show l4_3.toInt < 6 from om_684 hr4_3)) rfl dX11_layColours_24 (fun H locs hP hD hS => ?_)
        obtain ⟨f37, ef37, hP, hD⟩ : ∃ fz9, fz9 = upd2 f3 27 (upd (f3 27) l4_3.toNatClampNeg t36) ∧ va_P (dC, dI) vwCl (YW cy y0 r v3 fz9 w3 g3) H ∧ va_D A (YW cy y0 r v3 fz9 w3 g3) := ⟨_, rfl, hP, hD⟩
        have hCf37 : YC f37 := by rw [ef37]; exact ⟨hCf3.1, hCf3.2.1, hCf3.2.2.1, (rng_st hCf3.2.2.2.1 (show -1 ≤ t36.toInt ∧ t36.toInt ≤ 5 from om_731 hp1 zt36)), hCf3.2.2.2.2.1, hCf3.2.2.2.2.2⟩
        have hRf37 : progOK (f37 4) (f37 5) (v3 9).toInt.toNat := by rw [ef37]; exact hRf3
        have hA_f37 : KF [27] f37 f := by rw [ef37]; exact KF.up hA_f3 rfl
        refine lv_iload_n hx hb dX11_layColours_25 rfl (lv_at hl 1 rfl) ?_
        refine lv_iload_n hx hb dX11_layColours_26 rfl (lv_at hl 3 rfl) ?_
        refine lv_idiv hx hb dX11_layColours_27 (ne0 (show ¬ p1.toInt = 0 from om_729 hp1)) ?_
        refine lv_topi (fun t38 et38 => ?_)
        have zt38 : 0 ≤ t38.toInt ∧ t38.toInt ≤ l3_3.toInt := by rw [et38]; exact div_rng (zx := l3_3.toInt) (zy := p1.toInt) rfl rfl (show (0 : Int) ≤ l3_3.toInt from om_39 hr3_3) (show (0 : Int) < p1.toInt from om_730 hp1)
        refine lv_istore_n (lv' := [(3, .int t38), (4, .int l4_3), (0, .ref y0), (1, .int p1), (2, .int p2)]) hx hb dX11_layColours_28 rfl hl (Nat.le_of_ble_eq_true rfl) rfl (fun ls hl => ?_)
        obtain ⟨t39, et39⟩ : ∃ y : Int32, y = l4_3 + (-1) := ⟨_, rfl⟩
        have zt39 : t39.toInt = l4_3.toInt + (-1) := (congrArg Int32.toInt et39).trans (add_i rfl tc_m1 (om_226 zc4) (om_227 hr4_3))
        refine lv_iinc (v := t39) (lv' := [(4, .int t39), (3, .int t38), (0, .ref y0), (1, .int p1), (2, .int p2)]) hx hb dX11_layColours_29 hl (k := 1) rfl et39.symm (Nat.le_of_ble_eq_true rfl) rfl (fun ls hl => ?_)
        refine lv_goto (tgt := 10) hx hb dX11_layColours_32 rfl ?_
        have rg41 := fb_rng t38
        have rg42 := fb_rng t39
        exact ih3 t38 t39 v3 f37 w3 g3 hIv3 hCf37 hRf37 hq0_v3 hq1_v3 hq2_v3 hq3_v3 hq4_v3 hq5_v3 hq8_v3 hq9_v3 hq10_v3 hq13_v3 hq14_v3 hq15_v3 hq17_v3 hq18_v3 hq24_v3 hq25_v3 hq35_v3 hq36_v3 hq38_v3 hq39_v3 ⟨show (0 : Int) ≤ t38.toInt from om_692 zt38, show t38.toInt ≤ (2147483647 : Int) from om_44 rg41⟩ ⟨show (-2147483648 : Int) ≤ t39.toInt from om_10 rg42, show t39.toInt ≤ (5 : Int) from om_228 hr4_3 zt39⟩ hM_v3 hA_f37 (show (t39.toInt + 2147483648).toNat < n3 from om_229 hm3 zt39 rg42) _ _ _ hP hD hS (lv_sub hl [0, 1, 2, 3, 4] rfl)
  have rg44 := fb_rng t1
  exact lp3 _ p2 t1 v f w g hIv hCf hRf rfl rfl rfl rfl rfl rfl rfl rfl rfl rfl rfl rfl rfl rfl rfl rfl rfl rfl rfl rfl ⟨show (0 : Int) ≤ p2.toInt from om_39 hp2, show p2.toInt ≤ (2147483647 : Int) from om_697 hp2⟩ ⟨show (-2147483648 : Int) ≤ t1.toInt from om_10 rg44, show t1.toInt ≤ (5 : Int) from om_243 b24_v zt1⟩ hM_v hA_f (Nat.lt_succ_self _) _ _ _ hP hD hS (lv_sub hl [0, 1, 2, 3, 4] rfl)
set_option maxHeartbeats 4000000 in
set_option maxRecDepth 100000 in
theorem sY_X11_buttons_1 (l : Launch) (dC : Nat → ClassId) (dI : Nat → Nat → Nat) (cy : Nat → ClassId) (y0 : Nat) (r : Nat → Nat)  (v : Nat → Int32) (f : Nat → Nat → Int32) (w : Int64) (g : Nat → Int64) (hIv : YI v) (hCf : YC f) (hRf : progOK (f 4) (f 5) (v 9).toInt.toNat)  : ctI l (dC, dI) cy yX11_buttons cX11_buttons 4 .int 4 128 0 0 ((Nat → Int32) × (Nat → Nat → Int32) × (Int64) × (Nat → Int64)) [.ref y0] (YW cy y0 r v f w g) (fun r u => KV [37] u.1 v ∧ KF [26, 27] u.2.1 f ∧ YI u.1 ∧ YC u.2.1 ∧ progOK (u.2.1 4) (u.2.1 5) (u.1 9).toInt.toNat ∧ u.1 0 = v 0 ∧ u.1 1 = v 1 ∧ u.1 2 = v 2 ∧ u.1 3 = v 3 ∧ u.1 4 = v 4 ∧ u.1 5 = v 5 ∧ u.1 8 = v 8 ∧ u.1 9 = v 9 ∧ u.1 10 = v 10 ∧ u.1 13 = v 13 ∧ u.1 14 = v 14 ∧ u.1 15 = v 15 ∧ u.1 17 = v 17 ∧ u.1 18 = v 18 ∧ u.1 24 = v 24 ∧ u.1 25 = v 25 ∧ u.1 35 = v 35 ∧ u.1 36 = v 36 ∧ u.1 38 = v 38 ∧ u.1 39 = v 39) (fun u => YW cy y0 r u.1 u.2.1 u.2.2.1 u.2.2.2) := by
  refine ctI_of (by decide) (Nat.le_of_ble_eq_true rfl) (fun p e s m below meth c A ls Q hx hb hml hts hown hE hP hD hA hl ret => ?_)
  have hM_v : KV [37] v v := fun _ _ => rfl
  have hA_f : KF [26, 27] f f := fun _ _ => rfl
  have hown : s.vm.findClass RX11 = some m.cls := hown
  have hS : va_S A s.heap s.heap [] := va_S.rf
  have hl : lv_has ls 4 [(0, .ref y0)] := hl
  refine lv_aload_n hx hb dX11_buttons_0 rfl (lv_at hl 0 rfl) ?_
  refine lv_aload_n hx hb dX11_buttons_1 rfl (lv_at hl 0 rfl) ?_
  refine va_get (D := (dC, dI)) (ci := 11) (v := .int (v 24)) (C := RX11) (T := TX11) (N := 79) hx hb hts inB_11 hown hE.1 hP 0 rfl rfl 48 (Nat.le_of_ble_eq_true rfl) (hts _ k_1368) (fun _ h9 => h9) rfl dX11_buttons_2 ?_
  have b24_v : 0 ≤ (v 24).toInt ∧ (v 24).toInt ≤ 6 := Yb_24 hIv.1
  refine va_put (D := (dC, dI)) (ci := 11) (v := .int (v 24)) (ty := tyX11 67) (C := RX11) (T := TX11) (N := 79) hx hb hts inB_11 tyX11 tyX11_ok nmX11 hown hE.1 hP hD hS 0 rfl rfl 67 (Nat.le_of_ble_eq_true rfl) (hts _ k_1387) (fun _ h9 => h9) rfl (tyX11_ok 67 (Nat.le_of_ble_eq_true rfl)) rfl rfl (Nat.le_of_ble_eq_true rfl) dX11_buttons_5 (fun H locs hP hD hS => ?_)
  have hP : va_P (dC, dI) vwCl (YW cy y0 r (upd v 37 (v 24)) f w g) H := hP
  have hD : va_D A (YW cy y0 r (upd v 37 (v 24)) f w g) := hD
  refine lv_iconst (v := 1) hx hb dX11_buttons_8 rfl ?_
  refine lv_istore_n (lv' := [(1, .int 1), (0, .ref y0)]) hx hb dX11_buttons_9 rfl hl (Nat.le_of_ble_eq_true rfl) rfl (fun ls hl => ?_)
  have lp1 : ∀ (n1 : Nat) (l1_1 : Int32) (v1 : Nat → Int32) (f1 : Nat → Nat → Int32) (w1 : Int64) (g1 : Nat → Int64), YI v1 → YC f1 → progOK (f1 4) (f1 5) (v1 9).toInt.toNat → v1 0 = (v 0) → v1 1 = (v 1) → v1 2 = (v 2) → v1 3 = (v 3) → v1 4 = (v 4) → v1 5 = (v 5) → v1 8 = (v 8) → v1 9 = (v 9) → v1 10 = (v 10) → v1 13 = (v 13) → v1 14 = (v 14) → v1 15 = (v 15) → v1 17 = (v 17) → v1 18 = (v 18) → v1 24 = (v 24) → v1 25 = (v 25) → v1 35 = (v 35) → v1 36 = (v 36) → v1 38 = (v 38) → v1 39 = (v 39) → ((1 : Int) ≤ l1_1.toInt ∧ l1_1.toInt ≤ 2147483647) → KV [37] v1 v → KF [26, 27] f1 f → (2147483647 - l1_1.toInt).toNat < n1 → ∀ (H : Heap) (locs : List Loc) (ls : Array Slot), va_P (dC, dI) vwCl (YW cy y0 r v1 f1 w1 g1) H → va_D A (YW cy y0 r v1 f1 w1 g1) → va_S A s.heap H locs → lv_has ls 4 [(1, .int l1_1), (0, .ref y0)] → W p l e { frames := 4, cells := 0, slots := 0, locals := 128 } s m ([.ref y0] : List Value).toArray below meth c H locs 0 0 Q (F0 m 10 ls []) := by
    intro n1
    induction n1 with
    | zero => intro l1_1 v1 f1 w1 g1 hIv1 hCf1 hRf1 hq0_v1 hq1_v1 hq2_v1 hq3_v1 hq4_v1 hq5_v1 hq8_v1 hq9_v1 hq10_v1 hq13_v1 hq14_v1 hq15_v1 hq17_v1 hq18_v1 hq24_v1 hq25_v1 hq35_v1 hq36_v1 hq38_v1 hq39_v1 hr1_1 hM_v1 hA_f1 hm; exact absurd hm (Nat.not_lt_zero _)
    | succ n1 ih1 =>
      intro l1_1 v1 f1 w1 g1 hIv1 hCf1 hRf1 hq0_v1 hq1_v1 hq2_v1 hq3_v1 hq4_v1 hq5_v1 hq8_v1 hq9_v1 hq10_v1 hq13_v1 hq14_v1 hq15_v1 hq17_v1 hq18_v1 hq24_v1 hq25_v1 hq35_v1 hq36_v1 hq38_v1 hq39_v1 hr1_1 hM_v1 hA_f1 hm1 H locs ls hP hD hS hl
      refine lv_iload_n hx hb dX11_buttons_10 rfl (lv_at hl 0 rfl) ?_
      refine lv_aload_n hx hb dX11_buttons_11 rfl (lv_at hl 1 rfl) ?_
      refine va_get (D := (dC, dI)) (ci := 11) (v := .int (v1 24)) (C := RX11) (T := TX11) (N := 79) hx hb hts inB_11 hown hE.1 hP 0 rfl rfl 48 (Nat.le_of_ble_eq_true rfl) (hts _ k_1368) (fun _ h9 => h9) rfl dX11_buttons_12 ?_
      refine tI (y := (v 24)) hq24_v1 ?_
      have b24_v : 0 ≤ (v 24).toInt ∧ (v 24).toInt ≤ 6 := Yb_24 hIv.1
      refine lv_icmp_gt (tgt := 86) hx hb dX11_buttons_15 rfl (fun c2 => ?_) (fun c2 => ?_)
      · skip
        refine lv_iconst (v := 0) hx hb dX11_buttons_86 rfl ?_
        exact ret 0 (v1, f1, w1, g1) _ _ _ _ _ _ rfl ⟨hM_v1, hA_f1, hIv1, hCf1, hRf1, (show v1 0 = v 0 from hq0_v1), (show v1 1 = v 1 from hq1_v1), (show v1 2 = v 2 from hq2_v1), (show v1 3 = v 3 from hq3_v1), (show v1 4 = v 4 from hq4_v1), (show v1 5 = v 5 from hq5_v1), (show v1 8 = v 8 from hq8_v1), (show v1 9 = v 9 from hq9_v1), (show v1 10 = v 10 from hq10_v1), (show v1 13 = v 13 from hq13_v1), (show v1 14 = v 14 from hq14_v1), (show v1 15 = v 15 from hq15_v1), (show v1 17 = v 17 from hq17_v1), (show v1 18 = v 18 from hq18_v1), (show v1 24 = v 24 from hq24_v1), (show v1 25 = v 25 from hq25_v1), (show v1 35 = v 35 from hq35_v1), (show v1 36 = v 36 from hq36_v1), (show v1 38 = v 38 from hq38_v1), (show v1 39 = v 39 from hq39_v1)⟩ hP hD hS dX11_buttons_87 (Nat.le_refl _) (Nat.le_refl _)
      · skip
        have zc2 : ¬ ((v 24).toInt < l1_1.toInt) := zLn rfl rfl c2
        refine lv_iconst (v := 0) hx hb dX11_buttons_18 rfl ?_
        refine lv_istore_n (lv' := [(2, .int 0), (1, .int l1_1), (0, .ref y0)]) hx hb dX11_buttons_19 rfl hl (Nat.le_of_ble_eq_true rfl) rfl (fun ls hl => ?_)
        have lp7 : ∀ (n7 : Nat) (l2_7 : Int32) (v7 : Nat → Int32) (f7 : Nat → Nat → Int32) (w7 : Int64) (g7 : Nat → Int64), YI v7 → YC f7 → progOK (f7 4) (f7 5) (v7 9).toInt.toNat → v7 0 = (v 0) → v7 1 = (v 1) → v7 2 = (v 2) → v7 3 = (v 3) → v7 4 = (v 4) → v7 5 = (v 5) → v7 8 = (v 8) → v7 9 = (v 9) → v7 10 = (v 10) → v7 13 = (v 13) → v7 14 = (v 14) → v7 15 = (v 15) → v7 17 = (v 17) → v7 18 = (v 18) → v7 24 = (v 24) → v7 25 = (v 25) → v7 35 = (v 35) → v7 36 = (v 36) → v7 38 = (v 38) → v7 39 = (v 39) → ((0 : Int) ≤ l2_7.toInt ∧ l2_7.toInt ≤ 2147483647) → KV [37] v7 v → KF [26, 27] f7 f → (2147483647 - l2_7.toInt).toNat < n7 → ∀ (H : Heap) (locs : List Loc) (ls : Array Slot), va_P (dC, dI) vwCl (YW cy y0 r v7 f7 w7 g7) H → va_D A (YW cy y0 r v7 f7 w7 g7) → va_S A s.heap H locs → lv_has ls 4 [(2, .int l2_7), (1, .int l1_1), (0, .ref y0)] → W p l e { frames := 4, cells := 0, slots := 0, locals := 128 } s m ([.ref y0] : List Value).toArray below meth c H locs 0 0 Q (F0 m 20 ls []) := by
          intro n7
          induction n7 with
          | zero => intro l2_7 v7 f7 w7 g7 hIv7 hCf7 hRf7 hq0_v7 hq1_v7 hq2_v7 hq3_v7 hq4_v7 hq5_v7 hq8_v7 hq9_v7 hq10_v7 hq13_v7 hq14_v7 hq15_v7 hq17_v7 hq18_v7 hq24_v7 hq25_v7 hq35_v7 hq36_v7 hq38_v7 hq39_v7 hr2_7 hM_v7 hA_f7 hm; exact absurd hm (Nat.not_lt_zero _)
          | succ n7 ih7 =>
            intro l2_7 v7 f7 w7 g7 hIv7 hCf7 hRf7 hq0_v7 hq1_v7 hq2_v7 hq3_v7 hq4_v7 hq5_v7 hq8_v7 hq9_v7 hq10_v7 hq13_v7 hq14_v7 hq15_v7 hq17_v7 hq18_v7 hq24_v7 hq25_v7 hq35_v7 hq36_v7 hq38_v7 hq39_v7 hr2_7 hM_v7 hA_f7 hm7 H locs ls hP hD hS hl
            refine lv_iload_n hx hb dX11_buttons_20 rfl (lv_at hl 0 rfl) ?_
            refine lv_iload_n hx hb dX11_buttons_21 rfl (lv_at hl 1 rfl) ?_
            refine lv_aload_n hx hb dX11_buttons_22 rfl (lv_at hl 2 rfl) ?_
            refine va_get (D := (dC, dI)) (ci := 11) (v := .int (v7 24)) (C := RX11) (T := TX11) (N := 79) hx hb hts inB_11 hown hE.1 hP 0 rfl rfl 48 (Nat.le_of_ble_eq_true rfl) (hts _ k_1368) (fun _ h9 => h9) rfl dX11_buttons_23 ?_
            refine tI (y := (v 24)) hq24_v7 ?_
            have b24_v : 0 ≤ (v 24).toInt ∧ (v 24).toInt ≤ 6 := Yb_24 hIv.1
            refine cbSi (n := 2) (rest := [.int l2_7]) hx hb hml hown hts hE hP hD hS hA (sY_X11_power_1 0 l dC dI cy y0 r l1_1 (v 24) v7 f7 w7 g7 hIv7 hCf7 hRf7 ) k_1877 k_1878 k_114 k_1879 he_yX11_power ⟨Nat.le_of_ble_eq_true rfl, Nat.le_of_ble_eq_true rfl⟩ (rfl) hl.1 rfl (Nat.le_of_ble_eq_true rfl) dX11_buttons_26 (fun r8 u H locs hw hP hD hS => ?_)
            have hG9 := hw
            refine lv_icmp_ge (tgt := 80) hx hb dX11_buttons_29 rfl (fun c10 => ?_) (fun c10 => ?_)
            · skip
              obtain ⟨t13, et13⟩ : ∃ y : Int32, y = l1_1 + 1 := ⟨_, rfl⟩
              have zt13 : t13.toInt = l1_1.toInt + 1 := (congrArg Int32.toInt et13).trans (add_i rfl tc_1 (om_259 hr1_1) (om_732 zc2 b24_v))
              refine lv_iinc (v := t13) (lv' := [(1, .int t13), (2, .int l2_7), (0, .ref y0)]) hx hb dX11_buttons_80 hl (k := 1) rfl et13.symm (Nat.le_of_ble_eq_true rfl) rfl (fun ls hl => ?_)
              refine lv_goto (tgt := 10) hx hb dX11_buttons_83 rfl ?_
              have rg14 := fb_rng t13
              exact ih1 t13 v7 f7 w7 g7 hIv7 hCf7 hRf7 hq0_v7 hq1_v7 hq2_v7 hq3_v7 hq4_v7 hq5_v7 hq8_v7 hq9_v7 hq10_v7 hq13_v7 hq14_v7 hq15_v7 hq17_v7 hq18_v7 hq24_v7 hq25_v7 hq35_v7 hq36_v7 hq38_v7 hq39_v7 ⟨show (1 : Int) ≤ t13.toInt from om_260 hr1_1 zt13, show t13.toInt ≤ (2147483647 : Int) from om_44 rg14⟩ hM_v7 hA_f7 (show (2147483647 - t13.toInt).toNat < n1 from om_33 hm1 zt13 rg14) _ _ _ hP hD hS (lv_sub hl [0, 2] rfl)
            · skip
              have zc10 : ¬ (r8.toInt ≤ l2_7.toInt) := zMn rfl rfl c10
              have rg16 := fb_rng r8
              refine lv_aload_n hx hb dX11_buttons_32 rfl (lv_at hl 2 rfl) ?_
              refine lv_iload_n hx hb dX11_buttons_33 rfl (lv_at hl 1 rfl) ?_
              refine lv_iload_n hx hb dX11_buttons_34 rfl (lv_at hl 0 rfl) ?_
              refine cbVi (n := 2) (rest := []) hx hb hml hown hts hE hP hD hS hA (sY_X11_layColours_1 l dC dI cy y0 r l1_1 l2_7 v7 f7 w7 g7 hIv7 hCf7 hRf7 ⟨show (1 : Int) ≤ l1_1.toInt from om_502 hr1_1, show l1_1.toInt ≤ (6 : Int) from om_733 zc2 b24_v⟩ ⟨show (0 : Int) ≤ l2_7.toInt from om_39 hr2_7, show l2_7.toInt ≤ (2147483647 : Int) from om_697 hr2_7⟩) k_1936 k_1938 k_90 k_114 k_1939 hd_yX11_layColours ⟨Nat.le_of_ble_eq_true rfl, Nat.le_of_ble_eq_true rfl⟩ 0 11 rfl rfl (rfl) hl.1 rfl (Nat.le_of_ble_eq_true rfl) dX11_buttons_35 (fun r17 u H locs hw hP hD hS => ?_)
              obtain ⟨v18, f19, w20, g21⟩ := u
              obtain ⟨kV_v18, kF_f19, hIv18, hCf19, hRf19, hk0_v18, hk1_v18, hk2_v18, hk3_v18, hk4_v18, hk5_v18, hk8_v18, hk9_v18, hk10_v18, hk13_v18, hk14_v18, hk15_v18, hk17_v18, hk18_v18, hk24_v18, hk25_v18, hk35_v18, hk36_v18, hk38_v18, hk39_v18, hw⟩ := hw
              have hM_v18 : KV [37] v18 v := KV.tr kV_v18 hM_v7 rfl
              have hA_f19 : KF [26, 27] f19 f := KF.tr kF_f19 hA_f7 rfl
              have hP : va_P (dC, dI) vwCl (YW cy y0 r v18 f19 w20 g21) H := hP
              have hD : va_D A (YW cy y0 r v18 f19 w20 g21) := hD
              have hq0_v18 : v18 0 = (v 0) := hk0_v18.trans hq0_v7
              have hq1_v18 : v18 1 = (v 1) := hk1_v18.trans hq1_v7
              have hq2_v18 : v18 2 = (v 2) := hk2_v18.trans hq2_v7
              have hq3_v18 : v18 3 = (v 3) := hk3_v18.trans hq3_v7
              have hq4_v18 : v18 4 = (v 4) := hk4_v18.trans hq4_v7
              have hq5_v18 : v18 5 = (v 5) := hk5_v18.trans hq5_v7
              have hq8_v18 : v18 8 = (v 8) := hk8_v18.trans hq8_v7
              have hq9_v18 : v18 9 = (v 9) := hk9_v18.trans hq9_v7
              have hq10_v18 : v18 10 = (v 10) := hk10_v18.trans hq10_v7
              have hq13_v18 : v18 13 = (v 13) := hk13_v18.trans hq13_v7
              have hq14_v18 : v18 14 = (v 14) := hk14_v18.trans hq14_v7
              have hq15_v18 : v18 15 = (v 15) := hk15_v18.trans hq15_v7
              have hq17_v18 : v18 17 = (v 17) := hk17_v18.trans hq17_v7
              have hq18_v18 : v18 18 = (v 18) := hk18_v18.trans hq18_v7
              have hq24_v18 : v18 24 = (v 24) := hk24_v18.trans hq24_v7
              have hq25_v18 : v18 25 = (v 25) := hk25_v18.trans hq25_v7
              have hq35_v18 : v18 35 = (v 35) := hk35_v18.trans hq35_v7
              have hq36_v18 : v18 36 = (v 36) := hk36_v18.trans hq36_v7
              have hq38_v18 : v18 38 = (v 38) := hk38_v18.trans hq38_v7
              have hq39_v18 : v18 39 = (v 39) := hk39_v18.trans hq39_v7
              rcases hw with ⟨g22⟩ | ⟨g22⟩
              · skip
                subst g22
                refine lv_if_ne (tgt := 44) hx hb dX11_buttons_38 rfl (fun _ => ?_) (fun c0 => absurd c0 (by decide))
                refine lv_iconst (v := 0) hx hb dX11_buttons_44 rfl ?_
                refine lv_istore_n (lv' := [(3, .int 0), (2, .int l2_7), (1, .int l1_1), (0, .ref y0)]) hx hb dX11_buttons_45 rfl hl (Nat.le_of_ble_eq_true rfl) rfl (fun ls hl => ?_)
                have lp23 : ∀ (n23 : Nat) (l3_23 : Int32) (v23 : Nat → Int32) (f23 : Nat → Nat → Int32) (w23 : Int64) (g23 : Nat → Int64), YI v23 → YC f23 → progOK (f23 4) (f23 5) (v23 9).toInt.toNat → v23 0 = (v 0) → v23 1 = (v 1) → v23 2 = (v 2) → v23 3 = (v 3) → v23 4 = (v 4) → v23 5 = (v 5) → v23 8 = (v 8) → v23 9 = (v 9) → v23 10 = (v 10) → v23 13 = (v 13) → v23 14 = (v 14) → v23 15 = (v 15) → v23 17 = (v 17) → v23 18 = (v 18) → v23 24 = (v 24) → v23 25 = (v 25) → v23 35 = (v 35) → v23 36 = (v 36) → v23 38 = (v 38) → v23 39 = (v 39) → ((0 : Int) ≤ l3_23.toInt ∧ l3_23.toInt ≤ 2147483647) → KV [37] v23 v → KF [26, 27] f23 f → (2147483647 - l3_23.toInt).toNat < n23 → ∀ (H : Heap) (locs : List Loc) (ls : Array Slot), va_P (dC, dI) vwCl (YW cy y0 r v23 f23 w23 g23) H → va_D A (YW cy y0 r v23 f23 w23 g23) → va_S A s.heap H locs → lv_has ls 4 [(3, .int l3_23), (2, .int l2_7), (1, .int l1_1), (0, .ref y0)] → W p l e { frames := 4, cells := 0, slots := 0, locals := 128 } s m ([.ref y0] : List Value).toArray below meth c H locs 0 0 Q (F0 m 46 ls []) := by
                  intro n23
                  induction n23 with
                  | zero => intro l3_23 v23 f23 w23 g23 hIv23 hCf23 hRf23 hq0_v23 hq1_v23 hq2_v23 hq3_v23 hq4_v23 hq5_v23 hq8_v23 hq9_v23 hq10_v23 hq13_v23 hq14_v23 hq15_v23 hq17_v23 hq18_v23 hq24_v23 hq25_v23 hq35_v23 hq36_v23 hq38_v23 hq39_v23 hr3_23 hM_v23 hA_f23 hm; exact absurd hm (Nat.not_lt_zero _)
                  | succ n23 ih23 =>
                    intro l3_23 v23 f23 w23 g23 hIv23 hCf23 hRf23 hq0_v23 hq1_v23 hq2_v23 hq3_v23 hq4_v23 hq5_v23 hq8_v23 hq9_v23 hq10_v23 hq13_v23 hq14_v23 hq15_v23 hq17_v23 hq18_v23 hq24_v23 hq25_v23 hq35_v23 hq36_v23 hq38_v23 hq39_v23 hr3_23 hM_v23 hA_f23 hm23 H locs ls hP hD hS hl
                    refine lv_iload_n hx hb dX11_buttons_46 rfl (lv_at hl 0 rfl) ?_
                    refine lv_aload_n hx hb dX11_buttons_47 rfl (lv_at hl 3 rfl) ?_
                    refine va_get (D := (dC, dI)) (ci := 11) (v := .int (v23 24)) (C := RX11) (T := TX11) (N := 79) hx hb hts inB_11 hown hE.1 hP 0 rfl rfl 48 (Nat.le_of_ble_eq_true rfl) (hts _ k_1368) (fun _ h9 => h9) rfl dX11_buttons_48 ?_
                    refine tI (y := (v 24)) hq24_v23 ?_
                    have b24_v : 0 ≤ (v 24).toInt ∧ (v 24).toInt ≤ 6 := Yb_24 hIv.1
                    refine lv_icmp_ge (tgt := 72) hx hb dX11_buttons_51 rfl (fun c24 => ?_) (fun c24 => ?_)
                    · skip
                      refine lv_iload_n hx hb dX11_buttons_72 rfl (lv_at hl 2 rfl) ?_
                      exact ret l1_1 (v23, f23, w23, g23) _ _ _ _ _ _ rfl ⟨hM_v23, hA_f23, hIv23, hCf23, hRf23, hq0_v23, hq1_v23, hq2_v23, hq3_v23, hq4_v23, hq5_v23, hq8_v23, hq9_v23, hq10_v23, hq13_v23, hq14_v23, hq15_v23, hq17_v23, hq18_v23, hq24_v23, hq25_v23, hq35_v23, hq36_v23, hq38_v23, hq39_v23⟩ hP hD hS dX11_buttons_73 (Nat.le_refl _) (Nat.le_refl _)
                    · skip
                      have zc24 : ¬ ((v 24).toInt ≤ l3_23.toInt) := zMn rfl rfl c24
                      refine lv_aload_n hx hb dX11_buttons_54 rfl (lv_at hl 3 rfl) ?_
                      refine va_get (D := (dC, dI)) (ci := 11) (v := .ref (r 64)) (C := RX11) (T := TX11) (N := 79) hx hb hts inB_11 hown hE.1 hP 0 rfl rfl 64 (Nat.le_of_ble_eq_true rfl) (hts _ k_1384) (fun _ h9 => h9) rfl dX11_buttons_55 ?_
                      refine lv_iload_n hx hb dX11_buttons_58 rfl (lv_at hl 0 rfl) ?_
                      refine lv_aload_n hx hb dX11_buttons_59 rfl (lv_at hl 3 rfl) ?_
                      refine va_get (D := (dC, dI)) (ci := 11) (v := .ref (r 65)) (C := RX11) (T := TX11) (N := 79) hx hb hts inB_11 hown hE.1 hP 0 rfl rfl 65 (Nat.le_of_ble_eq_true rfl) (hts _ k_1385) (fun _ h9 => h9) rfl dX11_buttons_60 ?_
                      refine lv_iload_n hx hb dX11_buttons_63 rfl (lv_at hl 0 rfl) ?_
                      refine ldI hx hb hE hP 28 rfl (vpI (k := 6) rfl (show 0 ≤ l3_23.toInt from om_39 hr3_23) (show l3_23.toInt < 6 from om_460 b24_v zc24)) rfl rfl dX11_buttons_64 ?_
                      refine lv_topi (fun t27 et27 => ?_)
                      refine stI hx hb hE hP hD hS 27 rfl (vpI (k := 6) rfl (show 0 ≤ l3_23.toInt from om_39 hr3_23) (show l3_23.toInt < 6 from om_460 b24_v zc24)) rfl dX11_buttons_65 (fun H locs hP hD hS => ?_)
                      obtain ⟨f28, ef28, hP, hD⟩ : ∃ fz9, fz9 = upd2 f23 26 (upd (f23 26) l3_23.toNatClampNeg t27) ∧ va_P (dC, dI) vwCl (YW cy y0 r v23 fz9 w23 g23) H ∧ va_D A (YW cy y0 r v23 fz9 w23 g23) := ⟨_, rfl, hP, hD⟩
                      have hCf28 : YC f28 := by rw [ef28]; exact hCf23
                      have hRf28 : progOK (f28 4) (f28 5) (v23 9).toInt.toNat := by rw [ef28]; exact hRf23
                      have hA_f28 : KF [26, 27] f28 f := by rw [ef28]; exact KF.up hA_f23 rfl
                      obtain ⟨t29, et29⟩ : ∃ y : Int32, y = l3_23 + 1 := ⟨_, rfl⟩
                      have zt29 : t29.toInt = l3_23.toInt + 1 := (congrArg Int32.toInt et29).trans (add_i rfl tc_1 (om_41 hr3_23) (om_187 b24_v zc24))
                      refine lv_iinc (v := t29) (lv' := [(3, .int t29), (2, .int l2_7), (1, .int l1_1), (0, .ref y0)]) hx hb dX11_buttons_66 hl (k := 0) rfl et29.symm (Nat.le_of_ble_eq_true rfl) rfl (fun ls hl => ?_)
                      refine lv_goto (tgt := 46) hx hb dX11_buttons_69 rfl ?_
                      have rg30 := fb_rng t29
                      exact ih23 t29 v23 f28 w23 g23 hIv23 hCf28 hRf28 hq0_v23 hq1_v23 hq2_v23 hq3_v23 hq4_v23 hq5_v23 hq8_v23 hq9_v23 hq10_v23 hq13_v23 hq14_v23 hq15_v23 hq17_v23 hq18_v23 hq24_v23 hq25_v23 hq35_v23 hq36_v23 hq38_v23 hq39_v23 ⟨show (0 : Int) ≤ t29.toInt from om_43 hr3_23 zt29, show t29.toInt ≤ (2147483647 : Int) from om_44 rg30⟩ hM_v23 hA_f28 (show (2147483647 - t29.toInt).toNat < n23 from om_33 hm23 zt29 rg30) _ _ _ hP hD hS (lv_sub hl [0, 1, 2, 3] rfl)
                exact lp23 _ 0 v18 f19 w20 g21 hIv18 hCf19 hRf19 hq0_v18 hq1_v18 hq2_v18 hq3_v18 hq4_v18 hq5_v18 hq8_v18 hq9_v18 hq10_v18 hq13_v18 hq14_v18 hq15_v18 hq17_v18 hq18_v18 hq24_v18 hq25_v18 hq35_v18 hq36_v18 hq38_v18 hq39_v18 ⟨by decide, by decide⟩ hM_v18 hA_f19 (Nat.lt_succ_self _) _ _ _ hP hD hS (lv_sub hl [0, 1, 2, 3] rfl)
              · skip
                subst g22
                refine lv_if_ne (tgt := 44) hx hb dX11_buttons_38 rfl (fun c0 => absurd (by decide) c0) (fun _ => ?_)
                refine lv_goto (tgt := 74) hx hb dX11_buttons_41 rfl ?_
                obtain ⟨t31, et31⟩ : ∃ y : Int32, y = l2_7 + 1 := ⟨_, rfl⟩
                have zt31 : t31.toInt = l2_7.toInt + 1 := (congrArg Int32.toInt et31).trans (add_i rfl tc_1 (om_41 hr2_7) (om_196 zc10 rg16))
                refine lv_iinc (v := t31) (lv' := [(2, .int t31), (1, .int l1_1), (0, .ref y0)]) hx hb dX11_buttons_74 hl (k := 0) rfl et31.symm (Nat.le_of_ble_eq_true rfl) rfl (fun ls hl => ?_)
                refine lv_goto (tgt := 20) hx hb dX11_buttons_77 rfl ?_
                have rg32 := fb_rng t31
                exact ih7 t31 v18 f19 w20 g21 hIv18 hCf19 hRf19 hq0_v18 hq1_v18 hq2_v18 hq3_v18 hq4_v18 hq5_v18 hq8_v18 hq9_v18 hq10_v18 hq13_v18 hq14_v18 hq15_v18 hq17_v18 hq18_v18 hq24_v18 hq25_v18 hq35_v18 hq36_v18 hq38_v18 hq39_v18 ⟨show (0 : Int) ≤ t31.toInt from om_43 hr2_7 zt31, show t31.toInt ≤ (2147483647 : Int) from om_44 rg32⟩ hM_v18 hA_f19 (show (2147483647 - t31.toInt).toNat < n7 from om_33 hm7 zt31 rg32) _ _ _ hP hD hS (lv_sub hl [0, 1, 2] rfl)
        exact lp7 _ 0 v1 f1 w1 g1 hIv1 hCf1 hRf1 hq0_v1 hq1_v1 hq2_v1 hq3_v1 hq4_v1 hq5_v1 hq8_v1 hq9_v1 hq10_v1 hq13_v1 hq14_v1 hq15_v1 hq17_v1 hq18_v1 hq24_v1 hq25_v1 hq35_v1 hq36_v1 hq38_v1 hq39_v1 ⟨by decide, by decide⟩ hM_v1 hA_f1 (Nat.lt_succ_self _) _ _ _ hP hD hS (lv_sub hl [0, 1, 2] rfl)
  exact lp1 _ 1 (upd v 37 (v 24)) f w g ⟨(Yu_37 (x := (v 24)) hIv.1 (show (0 : Int) ≤ (v 24).toInt from om_98 b24_v) (show (v 24).toInt ≤ (6 : Int) from om_99 b24_v)), hIv.2⟩ hCf hRf rfl rfl rfl rfl rfl rfl rfl rfl rfl rfl rfl rfl rfl rfl rfl rfl rfl rfl rfl rfl ⟨by decide, by decide⟩ (KV.up (j := 37) (x := (v 24)) hM_v rfl) hA_f (Nat.lt_succ_self _) _ _ _ hP hD hS (lv_sub hl [0, 1] rfl)
set_option maxHeartbeats 4000000 in
set_option maxRecDepth 100000 in
theorem sY_X11_freeCoats_1 (l : Launch) (dC : Nat → ClassId) (dI : Nat → Nat → Nat) (cy : Nat → ClassId) (y0 : Nat) (r : Nat → Nat)  (v : Nat → Int32) (f : Nat → Nat → Int32) (w : Int64) (g : Nat → Int64) (hIv : YI v) (hCf : YC f) (hRf : progOK (f 4) (f 5) (v 9).toInt.toNat)  : ctI l (dC, dI) cy yX11_freeCoats cX11_freeCoats 3 .int 2 83 0 0 Unit [.ref y0] (YW cy y0 r v f w g) (fun r u => True) (fun u => YW cy y0 r v f w g) := by
  refine ctI_of (by decide) (Nat.le_of_ble_eq_true rfl) (fun p e s m below meth c A ls Q hx hb hml hts hown hE hP hD hA hl ret => ?_)
  have hUv : (v 35).toInt + (v 36).toInt ≤ 40 := hIv.2
  have hown : s.vm.findClass RX11 = some m.cls := hown
  have hS : va_S A s.heap s.heap [] := va_S.rf
  have hl : lv_has ls 3 [(0, .ref y0)] := hl
  refine lv_iconst (v := 0) hx hb dX11_freeCoats_0 rfl ?_
  refine lv_istore_n (lv' := [(1, .int 0), (0, .ref y0)]) hx hb dX11_freeCoats_1 rfl hl (Nat.le_of_ble_eq_true rfl) rfl (fun ls hl => ?_)
  refine lv_iconst (v := 0) hx hb dX11_freeCoats_2 rfl ?_
  refine lv_istore_n (lv' := [(2, .int 0), (1, .int 0), (0, .ref y0)]) hx hb dX11_freeCoats_3 rfl hl (Nat.le_of_ble_eq_true rfl) rfl (fun ls hl => ?_)
  have lp1 : ∀ (n1 : Nat) (l1_1 : Int32) (l2_1 : Int32), ((0 : Int) ≤ l2_1.toInt ∧ l2_1.toInt ≤ 2147483647) → (2147483647 - l2_1.toInt).toNat < n1 → ∀ (H : Heap) (locs : List Loc) (ls : Array Slot), va_P (dC, dI) vwCl (YW cy y0 r v f w g) H → va_D A (YW cy y0 r v f w g) → va_S A s.heap H locs → lv_has ls 3 [(2, .int l2_1), (1, .int l1_1), (0, .ref y0)] → W p l e { frames := 2, cells := 0, slots := 0, locals := 83 } s m ([.ref y0] : List Value).toArray below meth c H locs 0 0 Q (F0 m 4 ls []) := by
    intro n1
    induction n1 with
    | zero => intro l1_1 l2_1 hr2_1 hm; exact absurd hm (Nat.not_lt_zero _)
    | succ n1 ih1 =>
      intro l1_1 l2_1 hr2_1 hm1 H locs ls hP hD hS hl
      refine lv_iload_n hx hb dX11_freeCoats_4 rfl (lv_at hl 0 rfl) ?_
      refine lv_aload_n hx hb dX11_freeCoats_5 rfl (lv_at hl 2 rfl) ?_
      refine va_get (D := (dC, dI)) (ci := 11) (v := .int (v 25)) (C := RX11) (T := TX11) (N := 79) hx hb hts inB_11 hown hE.1 hP 0 rfl rfl 49 (Nat.le_of_ble_eq_true rfl) (hts _ k_1369) (fun _ h9 => h9) rfl dX11_freeCoats_6 ?_
      have b25_v : 0 ≤ (v 25).toInt ∧ (v 25).toInt ≤ 6 := Yb_25 hIv.1
      refine lv_icmp_ge (tgt := 39) hx hb dX11_freeCoats_9 rfl (fun c2 => ?_) (fun c2 => ?_)
      · skip
        refine lv_iload_n hx hb dX11_freeCoats_39 rfl (lv_at hl 1 rfl) ?_
        exact ret l1_1 () _ _ _ _ _ _ rfl trivial hP hD hS dX11_freeCoats_40 (Nat.le_refl _) (Nat.le_refl _)
      · skip
        have zc2 : ¬ ((v 25).toInt ≤ l2_1.toInt) := zMn rfl rfl c2
        have rg5 := fb_rng l2_1
        have rg6 := fb_rng (v 25)
        refine lv_iload_n hx hb dX11_freeCoats_12 rfl (lv_at hl 1 rfl) ?_
        refine lv_aload_n hx hb dX11_freeCoats_13 rfl (lv_at hl 2 rfl) ?_
        refine lv_iload_n hx hb dX11_freeCoats_14 rfl (lv_at hl 0 rfl) ?_
        refine cbVi (n := 1) (rest := [.int l1_1]) hx hb hml hown hts hE hP hD hS hA (sY_X11_wearer_1 0 l dC dI cy y0 r l2_1 v f w g hIv hCf hRf ) k_1775 k_1777 k_76 k_114 k_1778 hd_yX11_wearer ⟨Nat.le_of_ble_eq_true rfl, Nat.le_of_ble_eq_true rfl⟩ 0 11 rfl rfl (rfl) hl.1 rfl (Nat.le_of_ble_eq_true rfl) dX11_freeCoats_15 (fun r7 u H locs hw hP hD hS => ?_)
        have hG8 := hw
        refine lv_if_ge (tgt := 25) hx hb dX11_freeCoats_18 rfl (fun c9 => ?_) (fun c9 => ?_)
        · skip
          have zc9 : 0 ≤ r7.toInt := zMp tc_0 rfl c9
          refine lv_iconst (v := 0) hx hb dX11_freeCoats_25 rfl ?_
          have lt10 : (0 : Int32).toInt = 0 := by decide
          refine cbSi (n := 1) (rest := [.int l1_1]) hx hb hml hown hts hE hP hD hS hA (sY_X11_truth_1 0 l dC dI cy y0 r 0 v f w g hIv hCf hRf ) k_1761 k_1762 k_114 k_1763 he_yX11_truth ⟨Nat.le_of_ble_eq_true rfl, Nat.le_of_ble_eq_true rfl⟩ (rfl) hl.1 rfl (Nat.le_of_ble_eq_true rfl) dX11_freeCoats_26 (fun r11 u H locs hw hP hD hS => ?_)
          obtain ⟨hG12, hw⟩ := hw
          have pw_r11 : (0 : Int) ≤ r11.toInt ∧ r11.toInt ≤ 1 := hw
          refine lv_iload_n hx hb dX11_freeCoats_29 rfl (lv_at hl 0 rfl) ?_
          refine lv_ishl hx hb dX11_freeCoats_30 ?_
          refine lv_topi (fun t13 et13 => ?_)
          refine lv_ior hx hb dX11_freeCoats_31 ?_
          refine lv_topi (fun t14 et14 => ?_)
          refine lv_istore_n (lv' := [(1, .int t14), (2, .int l2_1), (0, .ref y0)]) hx hb dX11_freeCoats_32 rfl hl (Nat.le_of_ble_eq_true rfl) rfl (fun ls hl => ?_)
          obtain ⟨t15, et15⟩ : ∃ y : Int32, y = l2_1 + 1 := ⟨_, rfl⟩
          have zt15 : t15.toInt = l2_1.toInt + 1 := (congrArg Int32.toInt et15).trans (add_i rfl tc_1 (om_41 hr2_1) (om_187 b25_v zc2))
          refine lv_iinc (v := t15) (lv' := [(2, .int t15), (1, .int t14), (0, .ref y0)]) hx hb dX11_freeCoats_33 hl (k := 1) rfl et15.symm (Nat.le_of_ble_eq_true rfl) rfl (fun ls hl => ?_)
          refine lv_goto (tgt := 4) hx hb dX11_freeCoats_36 rfl ?_
          have rg16 := fb_rng t15
          exact ih1 t14 t15 ⟨show (0 : Int) ≤ t15.toInt from om_43 hr2_1 zt15, show t15.toInt ≤ (2147483647 : Int) from om_44 rg16⟩ (show (2147483647 - t15.toInt).toNat < n1 from om_33 hm1 zt15 rg16) _ _ _ hP hD hS (lv_sub hl [0, 1, 2] rfl)
        · skip
          have zc9 : ¬ (0 ≤ r7.toInt) := zMn tc_0 rfl c9
          refine lv_iconst (v := 1) hx hb dX11_freeCoats_21 rfl ?_
          refine lv_goto (tgt := 26) hx hb dX11_freeCoats_22 rfl ?_
          have lt17 : (1 : Int32).toInt = 1 := by decide
          refine cbSi (n := 1) (rest := [.int l1_1]) hx hb hml hown hts hE hP hD hS hA (sY_X11_truth_1 0 l dC dI cy y0 r 1 v f w g hIv hCf hRf ) k_1761 k_1762 k_114 k_1763 he_yX11_truth ⟨Nat.le_of_ble_eq_true rfl, Nat.le_of_ble_eq_true rfl⟩ (rfl) hl.1 rfl (Nat.le_of_ble_eq_true rfl) dX11_freeCoats_26 (fun r18 u H locs hw hP hD hS => ?_)
          obtain ⟨hG19, hw⟩ := hw
          have pw_r18 : (0 : Int) ≤ r18.toInt ∧ r18.toInt ≤ 1 := hw
          refine lv_iload_n hx hb dX11_freeCoats_29 rfl (lv_at hl 0 rfl) ?_
          refine lv_ishl hx hb dX11_freeCoats_30 ?_
          refine lv_topi (fun t20 et20 => ?_)
          refine lv_ior hx hb dX11_freeCoats_31 ?_
          refine lv_topi (fun t21 et21 => ?_)
          refine lv_istore_n (lv' := [(1, .int t21), (2, .int l2_1), (0, .ref y0)]) hx hb dX11_freeCoats_32 rfl hl (Nat.le_of_ble_eq_true rfl) rfl (fun ls hl => ?_)
          obtain ⟨t22, et22⟩ : ∃ y : Int32, y = l2_1 + 1 := ⟨_, rfl⟩
          have zt22 : t22.toInt = l2_1.toInt + 1 := (congrArg Int32.toInt et22).trans (add_i rfl tc_1 (om_41 hr2_1) (om_187 b25_v zc2))
          refine lv_iinc (v := t22) (lv' := [(2, .int t22), (1, .int t21), (0, .ref y0)]) hx hb dX11_freeCoats_33 hl (k := 1) rfl et22.symm (Nat.le_of_ble_eq_true rfl) rfl (fun ls hl => ?_)
          refine lv_goto (tgt := 4) hx hb dX11_freeCoats_36 rfl ?_
          have rg23 := fb_rng t22
          exact ih1 t21 t22 ⟨show (0 : Int) ≤ t22.toInt from om_43 hr2_1 zt22, show t22.toInt ≤ (2147483647 : Int) from om_44 rg23⟩ (show (2147483647 - t22.toInt).toNat < n1 from om_33 hm1 zt22 rg23) _ _ _ hP hD hS (lv_sub hl [0, 1, 2] rfl)
  exact lp1 _ 0 0 ⟨by decide, by decide⟩ (Nat.lt_succ_self _) _ _ _ hP hD hS (lv_sub hl [0, 1, 2] rfl)
set_option maxHeartbeats 4000000 in
set_option maxRecDepth 100000 in
theorem sY_X11_reached_1 (l : Launch) (dC : Nat → ClassId) (dI : Nat → Nat → Nat) (cy : Nat → ClassId) (y0 : Nat) (r : Nat → Nat) (p1 : Int32) (p2 : Int32) (p3 : Int32) (v : Nat → Int32) (f : Nat → Nat → Int32) (w : Int64) (g : Nat → Int64) (hIv : YI v) (hCf : YC f) (hRf : progOK (f 4) (f 5) (v 9).toInt.toNat) (hp1 : (0 : Int) ≤ p1.toInt ∧ p1.toInt ≤ 5) (hp2 : (0 : Int) ≤ p2.toInt ∧ p2.toInt ≤ 5) : ctI l (dC, dI) cy yX11_reached cX11_reached 4 .int 1 60 0 0 Unit [.ref y0, .int p1, .int p2, .int p3] (YW cy y0 r v f w g) (fun r u => True) (fun u => YW cy y0 r v f w g) := by
  refine ctI_of (by decide) (Nat.le_of_ble_eq_true rfl) (fun p e s m below meth c A ls Q hx hb hml hts hown hE hP hD hA hl ret => ?_)
  have hown : s.vm.findClass RX11 = some m.cls := hown
  have hS : va_S A s.heap s.heap [] := va_S.rf
  have hl : lv_has ls 4 [(0, .ref y0), (1, .int p1), (2, .int p2), (3, .int p3)] := hl
  refine lv_iload_n hx hb dX11_reached_0 rfl (lv_at hl 2 rfl) ?_
  refine lv_iload_n hx hb dX11_reached_1 rfl (lv_at hl 3 rfl) ?_
  refine lv_icmp_ne (tgt := 11) hx hb dX11_reached_2 rfl (fun c1 => ?_) (fun c1 => ?_)
  · skip
    refine lv_aload_n hx hb dX11_reached_11 rfl (lv_at hl 0 rfl) ?_
    refine va_get (D := (dC, dI)) (ci := 11) (v := .ref (r 66)) (C := RX11) (T := TX11) (N := 79) hx hb hts inB_11 hown hE.1 hP 0 rfl rfl 66 (Nat.le_of_ble_eq_true rfl) (hts _ k_1386) (fun _ h9 => h9) rfl dX11_reached_12 ?_
    refine lv_bipush (v := 6) hx hb dX11_reached_15 rfl ?_
    refine lv_iload_n hx hb dX11_reached_17 rfl (lv_at hl 1 rfl) ?_
    refine lv_imul hx hb dX11_reached_18 ?_
    refine lv_topi (fun t4 et4 => ?_)
    have zt4 : t4.toInt = 6 * p1.toInt := (congrArg Int32.toInt et4).trans (mul_i tc_6 rfl (om_734 hp1) (om_735 hp1))
    refine lv_iload_n hx hb dX11_reached_19 rfl (lv_at hl 2 rfl) ?_
    refine lv_iadd hx hb dX11_reached_20 ?_
    refine lv_topi (fun t6 et6 => ?_)
    have rg7 := fb_rng t4
    have zt6 : t6.toInt = t4.toInt + p2.toInt := (congrArg Int32.toInt et6).trans (add_i rfl rfl (om_206 hp2 rg7) (om_736 hp1 hp2 zt4))
    refine ldI hx hb hE hP 29 rfl (vpI (k := 36) rfl (show 0 ≤ t6.toInt from om_737 hp1 hp2 zt4 zt6) (show t6.toInt < 36 from om_738 hp1 hp2 zt4 zt6)) rfl rfl dX11_reached_21 ?_
    refine lv_topi (fun t8 et8 => ?_)
    exact ret t8 () _ _ _ _ _ _ rfl trivial hP hD hS dX11_reached_22 (Nat.le_refl _) (Nat.le_refl _)
  · skip
    refine lv_sipush (v := 1000) hx hb dX11_reached_5 rfl ?_
    refine lv_goto (tgt := 22) hx hb dX11_reached_8 rfl ?_
    exact ret 1000 () _ _ _ _ _ _ rfl trivial hP hD hS dX11_reached_22 (Nat.le_refl _) (Nat.le_refl _)
set_option maxHeartbeats 4000000 in
set_option maxRecDepth 100000 in
theorem sY_X11_isRest_1 (l : Launch) (dC : Nat → ClassId) (dI : Nat → Nat → Nat) (cy : Nat → ClassId) (y0 : Nat) (r : Nat → Nat) (p1 : Int32) (p2 : Int32) (p3 : Int32) (p4 : Int32) (p5 : Int32) (v : Nat → Int32) (f : Nat → Nat → Int32) (w : Int64) (g : Nat → Int64) (hIv : YI v) (hCf : YC f) (hRf : progOK (f 4) (f 5) (v 9).toInt.toNat) (hp1 : (0 : Int) ≤ p1.toInt ∧ p1.toInt ≤ 5) (hp2 : (0 : Int) ≤ p2.toInt ∧ p2.toInt ≤ 5) (hp3 : (0 : Int) ≤ p3.toInt ∧ p3.toInt ≤ 5) (hp4 : (0 : Int) ≤ p4.toInt ∧ p4.toInt ≤ 5) : ctI l (dC, dI) cy yX11_isRest cX11_isRest 8 .boolean 2 83 0 0 Unit [.ref y0, .int p1, .int p2, .int p3, .int p4, .int p5] (YW cy y0 r v f w g) (fun r u => ((r = 1) ∨ (r = 0))) (fun u => YW cy y0 r v f w g) := by
  refine ctI_of (by decide) (Nat.le_of_ble_eq_true rfl) (fun p e s m below meth c A ls Q hx hb hml hts hown hE hP hD hA hl ret => ?_)
  have hown : s.vm.findClass RX11 = some m.cls := hown
  have hS : va_S A s.heap s.heap [] := va_S.rf
  have hl : lv_has ls 8 [(0, .ref y0), (1, .int p1), (2, .int p2), (3, .int p3), (4, .int p4), (5, .int p5)] := hl
  refine lv_iconst (v := 1) hx hb dX11_isRest_0 rfl ?_
  refine lv_istore (lv' := [(6, .int 1), (0, .ref y0), (1, .int p1), (2, .int p2), (3, .int p3), (4, .int p4), (5, .int p5)]) hx hb dX11_isRest_1 hl (Nat.le_of_ble_eq_true rfl) rfl (fun ls hl => ?_)
  refine lv_iconst (v := 0) hx hb dX11_isRest_3 rfl ?_
  refine lv_istore (lv' := [(7, .int 0), (6, .int 1), (0, .ref y0), (1, .int p1), (2, .int p2), (3, .int p3), (4, .int p4), (5, .int p5)]) hx hb dX11_isRest_4 hl (Nat.le_of_ble_eq_true rfl) rfl (fun ls hl => ?_)
  have lp1 : ∀ (n1 : Nat) (l6_1 : Int32) (l7_1 : Int32), ((0 : Int) ≤ l6_1.toInt ∧ l6_1.toInt ≤ 1) → ((0 : Int) ≤ l7_1.toInt ∧ l7_1.toInt ≤ 2147483647) → (2147483647 - l7_1.toInt).toNat < n1 → ∀ (H : Heap) (locs : List Loc) (ls : Array Slot), va_P (dC, dI) vwCl (YW cy y0 r v f w g) H → va_D A (YW cy y0 r v f w g) → va_S A s.heap H locs → lv_has ls 8 [(7, .int l7_1), (6, .int l6_1), (0, .ref y0), (1, .int p1), (2, .int p2), (3, .int p3), (4, .int p4), (5, .int p5)] → W p l e { frames := 2, cells := 0, slots := 0, locals := 83 } s m ([.ref y0, .int p1, .int p2, .int p3, .int p4, .int p5] : List Value).toArray below meth c H locs 0 0 Q (F0 m 6 ls []) := by
    intro n1
    induction n1 with
    | zero => intro l6_1 l7_1 hr6_1 hr7_1 hm; exact absurd hm (Nat.not_lt_zero _)
    | succ n1 ih1 =>
      intro l6_1 l7_1 hr6_1 hr7_1 hm1 H locs ls hP hD hS hl
      refine lv_iload hx hb dX11_isRest_6 (lv_at hl 0 rfl) ?_
      refine lv_aload_n hx hb dX11_isRest_8 rfl (lv_at hl 2 rfl) ?_
      refine va_get (D := (dC, dI)) (ci := 11) (v := .int (v 25)) (C := RX11) (T := TX11) (N := 79) hx hb hts inB_11 hown hE.1 hP 0 rfl rfl 49 (Nat.le_of_ble_eq_true rfl) (hts _ k_1369) (fun _ h9 => h9) rfl dX11_isRest_9 ?_
      have b25_v : 0 ≤ (v 25).toInt ∧ (v 25).toInt ≤ 6 := Yb_25 hIv.1
      refine lv_icmp_ge (tgt := 85) hx hb dX11_isRest_12 rfl (fun c2 => ?_) (fun c2 => ?_)
      · skip
        refine lv_iload hx hb dX11_isRest_85 (lv_at hl 1 rfl) ?_
        rcases b01 (x := l6_1) (show 0 ≤ l6_1.toInt from om_367 hr6_1) (show l6_1.toInt ≤ 1 from om_368 hr6_1) with h5 | h5
        · skip
          refine tI (y := 1) h5 ?_
          exact ret 1 () _ _ _ _ _ _ rfl (Or.inl rfl) hP hD hS dX11_isRest_87 (Nat.le_refl _) (Nat.le_refl _)
        · skip
          refine tI (y := 0) h5 ?_
          exact ret 0 () _ _ _ _ _ _ rfl (Or.inr rfl) hP hD hS dX11_isRest_87 (Nat.le_refl _) (Nat.le_refl _)
      · skip
        have zc2 : ¬ ((v 25).toInt ≤ l7_1.toInt) := zMn rfl rfl c2
        refine lv_iload hx hb dX11_isRest_15 (lv_at hl 7 rfl) ?_
        refine lv_iload hx hb dX11_isRest_17 (lv_at hl 0 rfl) ?_
        refine lv_ishr hx hb dX11_isRest_19 ?_
        refine lv_topi (fun t8 et8 => ?_)
        refine lv_iconst (v := 1) hx hb dX11_isRest_20 rfl ?_
        refine lv_iand hx hb dX11_isRest_21 ?_
        refine lv_topi (fun t9 et9 => ?_)
        refine lv_if_ne (tgt := 28) hx hb dX11_isRest_22 rfl (fun c10 => ?_) (fun c10 => ?_)
        · skip
          refine lv_iload hx hb dX11_isRest_28 (lv_at hl 1 rfl) ?_
          refine lv_if_eq (tgt := 76) hx hb dX11_isRest_30 rfl (fun c11 => ?_) (fun c11 => ?_)
          · skip
            refine lv_iconst (v := 0) hx hb dX11_isRest_76 rfl ?_
            refine lv_istore (lv' := [(6, .int 0), (7, .int l7_1), (0, .ref y0), (1, .int p1), (2, .int p2), (3, .int p3), (4, .int p4), (5, .int p5)]) hx hb dX11_isRest_77 hl (Nat.le_of_ble_eq_true rfl) rfl (fun ls hl => ?_)
            obtain ⟨t12, et12⟩ : ∃ y : Int32, y = l7_1 + 1 := ⟨_, rfl⟩
            have zt12 : t12.toInt = l7_1.toInt + 1 := (congrArg Int32.toInt et12).trans (add_i rfl tc_1 (om_41 hr7_1) (om_187 b25_v zc2))
            refine lv_iinc (v := t12) (lv' := [(7, .int t12), (6, .int 0), (0, .ref y0), (1, .int p1), (2, .int p2), (3, .int p3), (4, .int p4), (5, .int p5)]) hx hb dX11_isRest_79 hl (k := 1) rfl et12.symm (Nat.le_of_ble_eq_true rfl) rfl (fun ls hl => ?_)
            refine lv_goto (tgt := 6) hx hb dX11_isRest_82 rfl ?_
            have rg13 := fb_rng t12
            exact ih1 0 t12 ⟨by decide, by decide⟩ ⟨show (0 : Int) ≤ t12.toInt from om_43 hr7_1 zt12, show t12.toInt ≤ (2147483647 : Int) from om_44 rg13⟩ (show (2147483647 - t12.toInt).toNat < n1 from om_33 hm1 zt12 rg13) _ _ _ hP hD hS (lv_sub hl [0, 1, 2, 3, 4, 5, 6, 7] rfl)
          · skip
            refine lv_aload_n hx hb dX11_isRest_33 rfl (lv_at hl 2 rfl) ?_
            refine lv_iload_n hx hb dX11_isRest_34 rfl (lv_at hl 3 rfl) ?_
            refine lv_iload hx hb dX11_isRest_35 (lv_at hl 0 rfl) ?_
            refine lv_iload hx hb dX11_isRest_37 (lv_at hl 6 rfl) ?_
            refine cbVi (n := 3) (rest := []) hx hb hml hown hts hE hP hD hS hA (sY_X11_reached_1 l dC dI cy y0 r p1 l7_1 p4 v f w g hIv hCf hRf ⟨show (0 : Int) ≤ p1.toInt from om_214 hp1, show p1.toInt ≤ (5 : Int) from om_215 hp1⟩ ⟨show (0 : Int) ≤ l7_1.toInt from om_39 hr7_1, show l7_1.toInt ≤ (5 : Int) from om_100 b25_v zc2⟩) k_1956 k_1958 k_94 k_114 k_1959 hd_yX11_reached ⟨Nat.le_of_ble_eq_true rfl, Nat.le_of_ble_eq_true rfl⟩ 0 11 rfl rfl (rfl) hl.1 rfl (Nat.le_of_ble_eq_true rfl) dX11_isRest_39 (fun r14 u H locs hw hP hD hS => ?_)
            refine lv_aload_n hx hb dX11_isRest_42 rfl (lv_at hl 2 rfl) ?_
            refine lv_iload_n hx hb dX11_isRest_43 rfl (lv_at hl 3 rfl) ?_
            refine lv_iload_n hx hb dX11_isRest_44 rfl (lv_at hl 5 rfl) ?_
            refine lv_iload hx hb dX11_isRest_45 (lv_at hl 6 rfl) ?_
            refine cbVi (n := 3) (rest := [.int r14]) hx hb hml hown hts hE hP hD hS hA (sY_X11_reached_1 l dC dI cy y0 r p1 p3 p4 v f w g hIv hCf hRf ⟨show (0 : Int) ≤ p1.toInt from om_214 hp1, show p1.toInt ≤ (5 : Int) from om_215 hp1⟩ ⟨show (0 : Int) ≤ p3.toInt from om_214 hp3, show p3.toInt ≤ (5 : Int) from om_215 hp3⟩) k_1956 k_1958 k_94 k_114 k_1959 hd_yX11_reached ⟨Nat.le_of_ble_eq_true rfl, Nat.le_of_ble_eq_true rfl⟩ 0 11 rfl rfl (rfl) hl.1 rfl (Nat.le_of_ble_eq_true rfl) dX11_isRest_47 (fun r15 u H locs hw hP hD hS => ?_)
            refine lv_icmp_lt (tgt := 76) hx hb dX11_isRest_50 rfl (fun c16 => ?_) (fun c16 => ?_)
            · skip
              refine lv_iconst (v := 0) hx hb dX11_isRest_76 rfl ?_
              refine lv_istore (lv' := [(6, .int 0), (7, .int l7_1), (0, .ref y0), (1, .int p1), (2, .int p2), (3, .int p3), (4, .int p4), (5, .int p5)]) hx hb dX11_isRest_77 hl (Nat.le_of_ble_eq_true rfl) rfl (fun ls hl => ?_)
              obtain ⟨t19, et19⟩ : ∃ y : Int32, y = l7_1 + 1 := ⟨_, rfl⟩
              have zt19 : t19.toInt = l7_1.toInt + 1 := (congrArg Int32.toInt et19).trans (add_i rfl tc_1 (om_41 hr7_1) (om_187 b25_v zc2))
              refine lv_iinc (v := t19) (lv' := [(7, .int t19), (6, .int 0), (0, .ref y0), (1, .int p1), (2, .int p2), (3, .int p3), (4, .int p4), (5, .int p5)]) hx hb dX11_isRest_79 hl (k := 1) rfl et19.symm (Nat.le_of_ble_eq_true rfl) rfl (fun ls hl => ?_)
              refine lv_goto (tgt := 6) hx hb dX11_isRest_82 rfl ?_
              have rg20 := fb_rng t19
              exact ih1 0 t19 ⟨by decide, by decide⟩ ⟨show (0 : Int) ≤ t19.toInt from om_43 hr7_1 zt19, show t19.toInt ≤ (2147483647 : Int) from om_44 rg20⟩ (show (2147483647 - t19.toInt).toNat < n1 from om_33 hm1 zt19 rg20) _ _ _ hP hD hS (lv_sub hl [0, 1, 2, 3, 4, 5, 6, 7] rfl)
            · skip
              refine lv_aload_n hx hb dX11_isRest_53 rfl (lv_at hl 2 rfl) ?_
              refine lv_iload_n hx hb dX11_isRest_54 rfl (lv_at hl 4 rfl) ?_
              refine lv_iload hx hb dX11_isRest_55 (lv_at hl 0 rfl) ?_
              refine lv_iload_n hx hb dX11_isRest_57 rfl (lv_at hl 5 rfl) ?_
              refine cbVi (n := 3) (rest := []) hx hb hml hown hts hE hP hD hS hA (sY_X11_reached_1 l dC dI cy y0 r p2 l7_1 p3 v f w g hIv hCf hRf ⟨show (0 : Int) ≤ p2.toInt from om_214 hp2, show p2.toInt ≤ (5 : Int) from om_215 hp2⟩ ⟨show (0 : Int) ≤ l7_1.toInt from om_39 hr7_1, show l7_1.toInt ≤ (5 : Int) from om_100 b25_v zc2⟩) k_1956 k_1958 k_94 k_114 k_1959 hd_yX11_reached ⟨Nat.le_of_ble_eq_true rfl, Nat.le_of_ble_eq_true rfl⟩ 0 11 rfl rfl (rfl) hl.1 rfl (Nat.le_of_ble_eq_true rfl) dX11_isRest_58 (fun r23 u H locs hw hP hD hS => ?_)
              refine lv_aload_n hx hb dX11_isRest_61 rfl (lv_at hl 2 rfl) ?_
              refine lv_iload_n hx hb dX11_isRest_62 rfl (lv_at hl 4 rfl) ?_
              refine lv_iload hx hb dX11_isRest_63 (lv_at hl 6 rfl) ?_
              refine lv_iload_n hx hb dX11_isRest_65 rfl (lv_at hl 5 rfl) ?_
              refine cbVi (n := 3) (rest := [.int r23]) hx hb hml hown hts hE hP hD hS hA (sY_X11_reached_1 l dC dI cy y0 r p2 p4 p3 v f w g hIv hCf hRf ⟨show (0 : Int) ≤ p2.toInt from om_214 hp2, show p2.toInt ≤ (5 : Int) from om_215 hp2⟩ ⟨show (0 : Int) ≤ p4.toInt from om_214 hp4, show p4.toInt ≤ (5 : Int) from om_215 hp4⟩) k_1956 k_1958 k_94 k_114 k_1959 hd_yX11_reached ⟨Nat.le_of_ble_eq_true rfl, Nat.le_of_ble_eq_true rfl⟩ 0 11 rfl rfl (rfl) hl.1 rfl (Nat.le_of_ble_eq_true rfl) dX11_isRest_66 (fun r24 u H locs hw hP hD hS => ?_)
              refine lv_icmp_lt (tgt := 76) hx hb dX11_isRest_69 rfl (fun c25 => ?_) (fun c25 => ?_)
              · skip
                refine lv_iconst (v := 0) hx hb dX11_isRest_76 rfl ?_
                refine lv_istore (lv' := [(6, .int 0), (7, .int l7_1), (0, .ref y0), (1, .int p1), (2, .int p2), (3, .int p3), (4, .int p4), (5, .int p5)]) hx hb dX11_isRest_77 hl (Nat.le_of_ble_eq_true rfl) rfl (fun ls hl => ?_)
                obtain ⟨t28, et28⟩ : ∃ y : Int32, y = l7_1 + 1 := ⟨_, rfl⟩
                have zt28 : t28.toInt = l7_1.toInt + 1 := (congrArg Int32.toInt et28).trans (add_i rfl tc_1 (om_41 hr7_1) (om_187 b25_v zc2))
                refine lv_iinc (v := t28) (lv' := [(7, .int t28), (6, .int 0), (0, .ref y0), (1, .int p1), (2, .int p2), (3, .int p3), (4, .int p4), (5, .int p5)]) hx hb dX11_isRest_79 hl (k := 1) rfl et28.symm (Nat.le_of_ble_eq_true rfl) rfl (fun ls hl => ?_)
                refine lv_goto (tgt := 6) hx hb dX11_isRest_82 rfl ?_
                have rg29 := fb_rng t28
                exact ih1 0 t28 ⟨by decide, by decide⟩ ⟨show (0 : Int) ≤ t28.toInt from om_43 hr7_1 zt28, show t28.toInt ≤ (2147483647 : Int) from om_44 rg29⟩ (show (2147483647 - t28.toInt).toNat < n1 from om_33 hm1 zt28 rg29) _ _ _ hP hD hS (lv_sub hl [0, 1, 2, 3, 4, 5, 6, 7] rfl)
              · skip
                refine lv_iconst (v := 1) hx hb dX11_isRest_72 rfl ?_
                refine lv_goto (tgt := 77) hx hb dX11_isRest_73 rfl ?_
                refine lv_istore (lv' := [(6, .int 1), (7, .int l7_1), (0, .ref y0), (1, .int p1), (2, .int p2), (3, .int p3), (4, .int p4), (5, .int p5)]) hx hb dX11_isRest_77 hl (Nat.le_of_ble_eq_true rfl) rfl (fun ls hl => ?_)
                obtain ⟨t32, et32⟩ : ∃ y : Int32, y = l7_1 + 1 := ⟨_, rfl⟩
                have zt32 : t32.toInt = l7_1.toInt + 1 := (congrArg Int32.toInt et32).trans (add_i rfl tc_1 (om_41 hr7_1) (om_187 b25_v zc2))
                refine lv_iinc (v := t32) (lv' := [(7, .int t32), (6, .int 1), (0, .ref y0), (1, .int p1), (2, .int p2), (3, .int p3), (4, .int p4), (5, .int p5)]) hx hb dX11_isRest_79 hl (k := 1) rfl et32.symm (Nat.le_of_ble_eq_true rfl) rfl (fun ls hl => ?_)
                refine lv_goto (tgt := 6) hx hb dX11_isRest_82 rfl ?_
                have rg33 := fb_rng t32
                exact ih1 1 t32 ⟨by decide, by decide⟩ ⟨show (0 : Int) ≤ t32.toInt from om_43 hr7_1 zt32, show t32.toInt ≤ (2147483647 : Int) from om_44 rg33⟩ (show (2147483647 - t32.toInt).toNat < n1 from om_33 hm1 zt32 rg33) _ _ _ hP hD hS (lv_sub hl [0, 1, 2, 3, 4, 5, 6, 7] rfl)
        · skip
          refine lv_goto (tgt := 79) hx hb dX11_isRest_25 rfl ?_
          obtain ⟨t34, et34⟩ : ∃ y : Int32, y = l7_1 + 1 := ⟨_, rfl⟩
          have zt34 : t34.toInt = l7_1.toInt + 1 := (congrArg Int32.toInt et34).trans (add_i rfl tc_1 (om_41 hr7_1) (om_187 b25_v zc2))
          refine lv_iinc (v := t34) (lv' := [(7, .int t34), (6, .int l6_1), (0, .ref y0), (1, .int p1), (2, .int p2), (3, .int p3), (4, .int p4), (5, .int p5)]) hx hb dX11_isRest_79 hl (k := 0) rfl et34.symm (Nat.le_of_ble_eq_true rfl) rfl (fun ls hl => ?_)
          refine lv_goto (tgt := 6) hx hb dX11_isRest_82 rfl ?_
          have rg36 := fb_rng t34
          exact ih1 l6_1 t34 ⟨show (0 : Int) ≤ l6_1.toInt from om_367 hr6_1, show l6_1.toInt ≤ (1 : Int) from om_368 hr6_1⟩ ⟨show (0 : Int) ≤ t34.toInt from om_43 hr7_1 zt34, show t34.toInt ≤ (2147483647 : Int) from om_44 rg36⟩ (show (2147483647 - t34.toInt).toNat < n1 from om_33 hm1 zt34 rg36) _ _ _ hP hD hS (lv_sub hl [0, 1, 2, 3, 4, 5, 6, 7] rfl)
  exact lp1 _ 1 0 ⟨by decide, by decide⟩ ⟨by decide, by decide⟩ (Nat.lt_succ_self _) _ _ _ hP hD hS (lv_sub hl [0, 1, 2, 3, 4, 5, 6, 7] rfl)
set_option maxHeartbeats 4000000 in
set_option maxRecDepth 100000 in
theorem sY_X11_reach_1 (l : Launch) (dC : Nat → ClassId) (dI : Nat → Nat → Nat) (cy : Nat → ClassId) (y0 : Nat) (r : Nat → Nat) (p1 : Int32) (p2 : Int32) (v : Nat → Int32) (f : Nat → Nat → Int32) (w : Int64) (g : Nat → Int64) (hIv : YI v) (hCf : YC f) (hRf : progOK (f 4) (f 5) (v 9).toInt.toNat)  : ctI l (dC, dI) cy yX11_reach cX11_reach 7 .int 5 148 0 0 ((Nat → Int32) × (Nat → Nat → Int32) × (Int64) × (Nat → Int64)) [.ref y0, .int p1, .int p2] (YW cy y0 r v f w g) (fun r u => KV [37] u.1 v ∧ KF [7, 8, 24, 26, 28] u.2.1 f ∧ YI u.1 ∧ YC u.2.1 ∧ progOK (u.2.1 4) (u.2.1 5) (u.1 9).toInt.toNat ∧ u.1 0 = v 0 ∧ u.1 1 = v 1 ∧ u.1 2 = v 2 ∧ u.1 3 = v 3 ∧ u.1 4 = v 4 ∧ u.1 5 = v 5 ∧ u.1 8 = v 8 ∧ u.1 9 = v 9 ∧ u.1 10 = v 10 ∧ u.1 13 = v 13 ∧ u.1 14 = v 14 ∧ u.1 15 = v 15 ∧ u.1 17 = v 17 ∧ u.1 18 = v 18 ∧ u.1 24 = v 24 ∧ u.1 25 = v 25 ∧ u.1 35 = v 35 ∧ u.1 36 = v 36 ∧ u.1 38 = v 38 ∧ u.1 39 = v 39) (fun u => YW cy y0 r u.1 u.2.1 u.2.2.1 u.2.2.2) := by
  refine ctI_of (by decide) (Nat.le_of_ble_eq_true rfl) (fun p e s m below meth c A ls Q hx hb hml hts hown hE hP hD hA hl ret => ?_)
  have hM_v : KV [37] v v := fun _ _ => rfl
  have hA_f : KF [7, 8, 24, 26, 28] f f := fun _ _ => rfl
  have hown : s.vm.findClass RX11 = some m.cls := hown
  have hS : va_S A s.heap s.heap [] := va_S.rf
  have hl : lv_has ls 7 [(0, .ref y0), (1, .int p1), (2, .int p2)] := hl
  refine lv_aload_n hx hb dX11_reach_0 rfl (lv_at hl 0 rfl) ?_
  refine lv_iconst (v := 0) hx hb dX11_reach_1 rfl ?_
  refine va_put (D := (dC, dI)) (ci := 11) (v := .int 0) (ty := tyX11 67) (C := RX11) (T := TX11) (N := 79) hx hb hts inB_11 tyX11 tyX11_ok nmX11 hown hE.1 hP hD hS 0 rfl rfl 67 (Nat.le_of_ble_eq_true rfl) (hts _ k_1387) (fun _ h9 => h9) rfl (tyX11_ok 67 (Nat.le_of_ble_eq_true rfl)) rfl rfl (Nat.le_of_ble_eq_true rfl) dX11_reach_2 (fun H locs hP hD hS => ?_)
  have hP : va_P (dC, dI) vwCl (YW cy y0 r (upd v 37 0) f w g) H := hP
  have hD : va_D A (YW cy y0 r (upd v 37 0) f w g) := hD
  refine lv_aload_n hx hb dX11_reach_5 rfl (lv_at hl 0 rfl) ?_
  refine cbVv (n := 0) (rest := []) hx hb hml hown hts hE hP hD hS hA (sY_X11_layIlls_1 l dC dI cy y0 r  (upd v 37 0) f w g ⟨(Yu_37 (x := 0) hIv.1 (by decide) (by decide)), hIv.2⟩ hCf hRf ) k_1873 k_1875 k_84 k_114 k_1876 hd_yX11_layIlls ⟨Nat.le_of_ble_eq_true rfl, Nat.le_of_ble_eq_true rfl⟩ 0 11 rfl rfl (rfl) hl.1 rfl (Nat.le_of_ble_eq_true rfl) dX11_reach_6 (fun u H locs hw hP hD hS => ?_)
  obtain ⟨v1, f2, w3, g4⟩ := u
  obtain ⟨kV_v1, kF_f2, hIv1, hCf2, hRf2, hk0_v1, hk1_v1, hk2_v1, hk3_v1, hk4_v1, hk5_v1, hk8_v1, hk9_v1, hk10_v1, hk13_v1, hk14_v1, hk15_v1, hk17_v1, hk18_v1, hk24_v1, hk25_v1, hk35_v1, hk36_v1, hk38_v1, hk39_v1⟩ := hw
  have hM_v1 : KV [37] v1 v := KV.tr kV_v1 (KV.up (j := 37) (x := 0) hM_v rfl) rfl
  have hA_f2 : KF [7, 8, 24, 26, 28] f2 f := KF.tr kF_f2 hA_f rfl
  have hP : va_P (dC, dI) vwCl (YW cy y0 r v1 f2 w3 g4) H := hP
  have hD : va_D A (YW cy y0 r v1 f2 w3 g4) := hD
  have hq0_v1 : v1 0 = (v 0) := hk0_v1
  have hq1_v1 : v1 1 = (v 1) := hk1_v1
  have hq2_v1 : v1 2 = (v 2) := hk2_v1
  have hq3_v1 : v1 3 = (v 3) := hk3_v1
  have hq4_v1 : v1 4 = (v 4) := hk4_v1
  have hq5_v1 : v1 5 = (v 5) := hk5_v1
  have hq8_v1 : v1 8 = (v 8) := hk8_v1
  have hq9_v1 : v1 9 = (v 9) := hk9_v1
  have hq10_v1 : v1 10 = (v 10) := hk10_v1
  have hq13_v1 : v1 13 = (v 13) := hk13_v1
  have hq14_v1 : v1 14 = (v 14) := hk14_v1
  have hq15_v1 : v1 15 = (v 15) := hk15_v1
  have hq17_v1 : v1 17 = (v 17) := hk17_v1
  have hq18_v1 : v1 18 = (v 18) := hk18_v1
  have hq24_v1 : v1 24 = (v 24) := hk24_v1
  have hq25_v1 : v1 25 = (v 25) := hk25_v1
  have hq35_v1 : v1 35 = (v 35) := hk35_v1
  have hq36_v1 : v1 36 = (v 36) := hk36_v1
  have hq38_v1 : v1 38 = (v 38) := hk38_v1
  have hq39_v1 : v1 39 = (v 39) := hk39_v1
  refine lv_aload_n hx hb dX11_reach_9 rfl (lv_at hl 0 rfl) ?_
  refine cbVi (n := 0) (rest := []) hx hb hml hown hts hE hP hD hS hA (sY_X11_freeCoats_1 l dC dI cy y0 r  v1 f2 w3 g4 hIv1 hCf2 hRf2 ) k_1948 k_1950 k_92 k_114 k_1951 hd_yX11_freeCoats ⟨Nat.le_of_ble_eq_true rfl, Nat.le_of_ble_eq_true rfl⟩ 0 11 rfl rfl (rfl) hl.1 rfl (Nat.le_of_ble_eq_true rfl) dX11_reach_10 (fun r5 u H locs hw hP hD hS => ?_)
  refine lv_istore_n (lv' := [(3, .int r5), (0, .ref y0), (1, .int p1), (2, .int p2)]) hx hb dX11_reach_13 rfl hl (Nat.le_of_ble_eq_true rfl) rfl (fun ls hl => ?_)
  refine lv_aload_n hx hb dX11_reach_14 rfl (lv_at hl 1 rfl) ?_
  refine lv_iload_n hx hb dX11_reach_15 rfl (lv_at hl 2 rfl) ?_
  refine cbVi (n := 1) (rest := []) hx hb hml hown hts hE hP hD hS hA (sY_X11_isMan_1 0 l dC dI cy y0 r p1 v1 f2 w3 g4 hIv1 hCf2 hRf2 ) k_1732 k_1734 k_70 k_114 k_1735 hd_yX11_isMan ⟨Nat.le_of_ble_eq_true rfl, Nat.le_of_ble_eq_true rfl⟩ 0 11 rfl rfl (rfl) hl.1 rfl (Nat.le_of_ble_eq_true rfl) dX11_reach_16 (fun r6 u H locs hw hP hD hS => ?_)
  obtain ⟨hG7, hw⟩ := hw
  rcases hw with ⟨g8, g8_0, g8_1, g8_2⟩ | ⟨g8⟩
  · skip
    subst g8
    refine lv_if_eq (tgt := 39) hx hb dX11_reach_19 rfl (fun c0 => absurd c0 (by decide)) (fun _ => ?_)
    refine lv_aload_n hx hb dX11_reach_22 rfl (lv_at hl 1 rfl) ?_
    refine lv_iload_n hx hb dX11_reach_23 rfl (lv_at hl 3 rfl) ?_
    refine cbVi (n := 1) (rest := []) hx hb hml hown hts hE hP hD hS hA (sY_X11_isMan_1 0 l dC dI cy y0 r p2 v1 f2 w3 g4 hIv1 hCf2 hRf2 ) k_1732 k_1734 k_70 k_114 k_1735 hd_yX11_isMan ⟨Nat.le_of_ble_eq_true rfl, Nat.le_of_ble_eq_true rfl⟩ 0 11 rfl rfl (rfl) hl.1 rfl (Nat.le_of_ble_eq_true rfl) dX11_reach_24 (fun r9 u H locs hw hP hD hS => ?_)
    obtain ⟨hG10, hw⟩ := hw
    rcases hw with ⟨g11, g11_0, g11_1, g11_2⟩ | ⟨g11⟩
    · skip
      subst g11
      refine lv_if_eq (tgt := 39) hx hb dX11_reach_27 rfl (fun c0 => absurd c0 (by decide)) (fun _ => ?_)
      refine lv_iload_n hx hb dX11_reach_30 rfl (lv_at hl 2 rfl) ?_
      refine lv_iload_n hx hb dX11_reach_31 rfl (lv_at hl 3 rfl) ?_
      refine lv_icmp_eq (tgt := 39) hx hb dX11_reach_32 rfl (fun c12 => ?_) (fun c12 => ?_)
      · skip
        refine lv_iconst (v := (-1)) hx hb dX11_reach_39 rfl ?_
        exact ret (-1) (v1, f2, w3, g4) _ _ _ _ _ _ rfl ⟨hM_v1, hA_f2, hIv1, hCf2, hRf2, hk0_v1, hk1_v1, hk2_v1, hk3_v1, hk4_v1, hk5_v1, hk8_v1, hk9_v1, hk10_v1, hk13_v1, hk14_v1, hk15_v1, hk17_v1, hk18_v1, hk24_v1, hk25_v1, hk35_v1, hk36_v1, hk38_v1, hk39_v1⟩ hP hD hS dX11_reach_40 (Nat.le_refl _) (Nat.le_refl _)
      · skip
        refine lv_iload_n hx hb dX11_reach_35 rfl (lv_at hl 0 rfl) ?_
        refine lv_if_ne (tgt := 41) hx hb dX11_reach_36 rfl (fun c17 => ?_) (fun c17 => ?_)
        · skip
          refine lv_iconst (v := 0) hx hb dX11_reach_41 rfl ?_
          refine lv_istore (lv' := [(4, .int 0), (3, .int r5), (0, .ref y0), (1, .int p1), (2, .int p2)]) hx hb dX11_reach_42 hl (Nat.le_of_ble_eq_true rfl) rfl (fun ls hl => ?_)
          refine lv_iconst (v := 0) hx hb dX11_reach_44 rfl ?_
          refine lv_istore (lv' := [(5, .int 0), (4, .int 0), (3, .int r5), (0, .ref y0), (1, .int p1), (2, .int p2)]) hx hb dX11_reach_45 hl (Nat.le_of_ble_eq_true rfl) rfl (fun ls hl => ?_)
          have lp18 : ∀ (n18 : Nat) (l4_18 : Int32) (l5_18 : Int32) (v18 : Nat → Int32) (f18 : Nat → Nat → Int32) (w18 : Int64) (g18 : Nat → Int64), YI v18 → YC f18 → progOK (f18 4) (f18 5) (v18 9).toInt.toNat → v18 0 = (v 0) → v18 1 = (v 1) → v18 2 = (v 2) → v18 3 = (v 3) → v18 4 = (v 4) → v18 5 = (v 5) → v18 8 = (v 8) → v18 9 = (v 9) → v18 10 = (v 10) → v18 13 = (v 13) → v18 14 = (v 14) → v18 15 = (v 15) → v18 17 = (v 17) → v18 18 = (v 18) → v18 24 = (v 24) → v18 25 = (v 25) → v18 35 = (v 35) → v18 36 = (v 36) → v18 38 = (v 38) → v18 39 = (v 39) → ((0 : Int) ≤ l5_18.toInt ∧ l5_18.toInt ≤ 2147483647) → KV [37] v18 v → KF [7, 8, 24, 26, 28] f18 f → (2147483647 - l5_18.toInt).toNat < n18 → ∀ (H : Heap) (locs : List Loc) (ls : Array Slot), va_P (dC, dI) vwCl (YW cy y0 r v18 f18 w18 g18) H → va_D A (YW cy y0 r v18 f18 w18 g18) → va_S A s.heap H locs → lv_has ls 7 [(5, .int l5_18), (4, .int l4_18), (3, .int r5), (0, .ref y0), (1, .int p1), (2, .int p2)] → W p l e { frames := 5, cells := 0, slots := 0, locals := 148 } s m ([.ref y0, .int p1, .int p2] : List Value).toArray below meth c H locs 0 0 Q (F0 m 47 ls []) := by
            intro n18
            induction n18 with
            | zero => intro l4_18 l5_18 v18 f18 w18 g18 hIv18 hCf18 hRf18 hq0_v18 hq1_v18 hq2_v18 hq3_v18 hq4_v18 hq5_v18 hq8_v18 hq9_v18 hq10_v18 hq13_v18 hq14_v18 hq15_v18 hq17_v18 hq18_v18 hq24_v18 hq25_v18 hq35_v18 hq36_v18 hq38_v18 hq39_v18 hr5_18 hM_v18 hA_f18 hm; exact absurd hm (Nat.not_lt_zero _)
            | succ n18 ih18 =>
              intro l4_18 l5_18 v18 f18 w18 g18 hIv18 hCf18 hRf18 hq0_v18 hq1_v18 hq2_v18 hq3_v18 hq4_v18 hq5_v18 hq8_v18 hq9_v18 hq10_v18 hq13_v18 hq14_v18 hq15_v18 hq17_v18 hq18_v18 hq24_v18 hq25_v18 hq35_v18 hq36_v18 hq38_v18 hq39_v18 hr5_18 hM_v18 hA_f18 hm18 H locs ls hP hD hS hl
              refine lv_iload hx hb dX11_reach_47 (lv_at hl 0 rfl) ?_
              refine lv_aload_n hx hb dX11_reach_49 rfl (lv_at hl 3 rfl) ?_
              refine va_get (D := (dC, dI)) (ci := 11) (v := .int (v18 25)) (C := RX11) (T := TX11) (N := 79) hx hb hts inB_11 hown hE.1 hP 0 rfl rfl 49 (Nat.le_of_ble_eq_true rfl) (hts _ k_1369) (fun _ h9 => h9) rfl dX11_reach_50 ?_
              refine tI (y := (v 25)) hq25_v18 ?_
              have b25_v : 0 ≤ (v 25).toInt ∧ (v 25).toInt ≤ 6 := Yb_25 hIv.1
              refine lv_icmp_ge (tgt := 144) hx hb dX11_reach_53 rfl (fun c19 => ?_) (fun c19 => ?_)
              · skip
                refine lv_iload hx hb dX11_reach_144 (lv_at hl 1 rfl) ?_
                exact ret l4_18 (v18, f18, w18, g18) _ _ _ _ _ _ rfl ⟨hM_v18, hA_f18, hIv18, hCf18, hRf18, hq0_v18, hq1_v18, hq2_v18, hq3_v18, hq4_v18, hq5_v18, hq8_v18, hq9_v18, hq10_v18, hq13_v18, hq14_v18, hq15_v18, hq17_v18, hq18_v18, hq24_v18, hq25_v18, hq35_v18, hq36_v18, hq38_v18, hq39_v18⟩ hP hD hS dX11_reach_146 (Nat.le_refl _) (Nat.le_refl _)
              · skip
                have zc19 : ¬ ((v 25).toInt ≤ l5_18.toInt) := zMn rfl rfl c19
                refine lv_iconst (v := 0) hx hb dX11_reach_56 rfl ?_
                refine lv_istore (lv' := [(6, .int 0), (5, .int l5_18), (4, .int l4_18), (3, .int r5), (0, .ref y0), (1, .int p1), (2, .int p2)]) hx hb dX11_reach_57 hl (Nat.le_of_ble_eq_true rfl) rfl (fun ls hl => ?_)
                have lp24 : ∀ (n24 : Nat) (l4_24 : Int32) (l6_24 : Int32) (v24 : Nat → Int32) (f24 : Nat → Nat → Int32) (w24 : Int64) (g24 : Nat → Int64), YI v24 → YC f24 → progOK (f24 4) (f24 5) (v24 9).toInt.toNat → v24 0 = (v 0) → v24 1 = (v 1) → v24 2 = (v 2) → v24 3 = (v 3) → v24 4 = (v 4) → v24 5 = (v 5) → v24 8 = (v 8) → v24 9 = (v 9) → v24 10 = (v 10) → v24 13 = (v 13) → v24 14 = (v 14) → v24 15 = (v 15) → v24 17 = (v 17) → v24 18 = (v 18) → v24 24 = (v 24) → v24 25 = (v 25) → v24 35 = (v 35) → v24 36 = (v 36) → v24 38 = (v 38) → v24 39 = (v 39) → ((0 : Int) ≤ l6_24.toInt ∧ l6_24.toInt ≤ 2147483647) → KV [37] v24 v → KF [7, 8, 24, 26, 28] f24 f → (2147483647 - l6_24.toInt).toNat < n24 → ∀ (H : Heap) (locs : List Loc) (ls : Array Slot), va_P (dC, dI) vwCl (YW cy y0 r v24 f24 w24 g24) H → va_D A (YW cy y0 r v24 f24 w24 g24) → va_S A s.heap H locs → lv_has ls 7 [(6, .int l6_24), (5, .int l5_18), (4, .int l4_24), (3, .int r5), (0, .ref y0), (1, .int p1), (2, .int p2)] → W p l e { frames := 5, cells := 0, slots := 0, locals := 148 } s m ([.ref y0, .int p1, .int p2] : List Value).toArray below meth c H locs 0 0 Q (F0 m 59 ls []) := by
                  intro n24
                  induction n24 with
                  | zero => intro l4_24 l6_24 v24 f24 w24 g24 hIv24 hCf24 hRf24 hq0_v24 hq1_v24 hq2_v24 hq3_v24 hq4_v24 hq5_v24 hq8_v24 hq9_v24 hq10_v24 hq13_v24 hq14_v24 hq15_v24 hq17_v24 hq18_v24 hq24_v24 hq25_v24 hq35_v24 hq36_v24 hq38_v24 hq39_v24 hr6_24 hM_v24 hA_f24 hm; exact absurd hm (Nat.not_lt_zero _)
                  | succ n24 ih24 =>
                    intro l4_24 l6_24 v24 f24 w24 g24 hIv24 hCf24 hRf24 hq0_v24 hq1_v24 hq2_v24 hq3_v24 hq4_v24 hq5_v24 hq8_v24 hq9_v24 hq10_v24 hq13_v24 hq14_v24 hq15_v24 hq17_v24 hq18_v24 hq24_v24 hq25_v24 hq35_v24 hq36_v24 hq38_v24 hq39_v24 hr6_24 hM_v24 hA_f24 hm24 H locs ls hP hD hS hl
                    refine lv_iload hx hb dX11_reach_59 (lv_at hl 0 rfl) ?_
                    refine lv_aload_n hx hb dX11_reach_61 rfl (lv_at hl 4 rfl) ?_
                    refine va_get (D := (dC, dI)) (ci := 11) (v := .int (v24 25)) (C := RX11) (T := TX11) (N := 79) hx hb hts inB_11 hown hE.1 hP 0 rfl rfl 49 (Nat.le_of_ble_eq_true rfl) (hts _ k_1369) (fun _ h9 => h9) rfl dX11_reach_62 ?_
                    refine tI (y := (v 25)) hq25_v24 ?_
                    have b25_v : 0 ≤ (v 25).toInt ∧ (v 25).toInt ≤ 6 := Yb_25 hIv.1
                    refine lv_icmp_ge (tgt := 138) hx hb dX11_reach_65 rfl (fun c25 => ?_) (fun c25 => ?_)
                    · skip
                      obtain ⟨t27, et27⟩ : ∃ y : Int32, y = l5_18 + 1 := ⟨_, rfl⟩
                      have zt27 : t27.toInt = l5_18.toInt + 1 := (congrArg Int32.toInt et27).trans (add_i rfl tc_1 (om_41 hr5_18) (om_258 zc19 b25_v))
                      refine lv_iinc (v := t27) (lv' := [(5, .int t27), (6, .int l6_24), (4, .int l4_24), (3, .int r5), (0, .ref y0), (1, .int p1), (2, .int p2)]) hx hb dX11_reach_138 hl (k := 1) rfl et27.symm (Nat.le_of_ble_eq_true rfl) rfl (fun ls hl => ?_)
                      refine lv_goto (tgt := 47) hx hb dX11_reach_141 rfl ?_
                      have rg28 := fb_rng t27
                      exact ih18 l4_24 t27 v24 f24 w24 g24 hIv24 hCf24 hRf24 hq0_v24 hq1_v24 hq2_v24 hq3_v24 hq4_v24 hq5_v24 hq8_v24 hq9_v24 hq10_v24 hq13_v24 hq14_v24 hq15_v24 hq17_v24 hq18_v24 hq24_v24 hq25_v24 hq35_v24 hq36_v24 hq38_v24 hq39_v24 ⟨show (0 : Int) ≤ t27.toInt from om_43 hr5_18 zt27, show t27.toInt ≤ (2147483647 : Int) from om_44 rg28⟩ hM_v24 hA_f24 (show (2147483647 - t27.toInt).toNat < n18 from om_33 hm18 zt27 rg28) _ _ _ hP hD hS (lv_sub hl [0, 2, 3, 4, 5, 6] rfl)
                    · skip
                      have zc25 : ¬ ((v 25).toInt ≤ l6_24.toInt) := zMn rfl rfl c25
                      refine lv_iload_n hx hb dX11_reach_68 rfl (lv_at hl 3 rfl) ?_
                      refine lv_iload hx hb dX11_reach_69 (lv_at hl 1 rfl) ?_
                      refine lv_ishr hx hb dX11_reach_71 ?_
                      refine lv_topi (fun t30 et30 => ?_)
                      refine lv_iconst (v := 1) hx hb dX11_reach_72 rfl ?_
                      refine lv_iand hx hb dX11_reach_73 ?_
                      refine lv_topi (fun t31 et31 => ?_)
                      refine lv_if_eq (tgt := 132) hx hb dX11_reach_74 rfl (fun c32 => ?_) (fun c32 => ?_)
                      · skip
                        obtain ⟨t33, et33⟩ : ∃ y : Int32, y = l6_24 + 1 := ⟨_, rfl⟩
                        have zt33 : t33.toInt = l6_24.toInt + 1 := (congrArg Int32.toInt et33).trans (add_i rfl tc_1 (om_41 hr6_24) (om_187 b25_v zc25))
                        refine lv_iinc (v := t33) (lv' := [(6, .int t33), (5, .int l5_18), (4, .int l4_24), (3, .int r5), (0, .ref y0), (1, .int p1), (2, .int p2)]) hx hb dX11_reach_132 hl (k := 0) rfl et33.symm (Nat.le_of_ble_eq_true rfl) rfl (fun ls hl => ?_)
                        refine lv_goto (tgt := 59) hx hb dX11_reach_135 rfl ?_
                        have rg34 := fb_rng t33
                        exact ih24 l4_24 t33 v24 f24 w24 g24 hIv24 hCf24 hRf24 hq0_v24 hq1_v24 hq2_v24 hq3_v24 hq4_v24 hq5_v24 hq8_v24 hq9_v24 hq10_v24 hq13_v24 hq14_v24 hq15_v24 hq17_v24 hq18_v24 hq24_v24 hq25_v24 hq35_v24 hq36_v24 hq38_v24 hq39_v24 ⟨show (0 : Int) ≤ t33.toInt from om_43 hr6_24 zt33, show t33.toInt ≤ (2147483647 : Int) from om_44 rg34⟩ hM_v24 hA_f24 (show (2147483647 - t33.toInt).toNat < n24 from om_33 hm24 zt33 rg34) _ _ _ hP hD hS (lv_sub hl [0, 1, 2, 3, 4, 5, 6] rfl)
                      · skip
                        refine lv_iload_n hx hb dX11_reach_77 rfl (lv_at hl 3 rfl) ?_
                        refine lv_iload hx hb dX11_reach_78 (lv_at hl 0 rfl) ?_
                        refine lv_ishr hx hb dX11_reach_80 ?_
                        refine lv_topi (fun t35 et35 => ?_)
                        refine lv_iconst (v := 1) hx hb dX11_reach_81 rfl ?_
                        refine lv_iand hx hb dX11_reach_82 ?_
                        refine lv_topi (fun t36 et36 => ?_)
                        refine lv_if_eq (tgt := 132) hx hb dX11_reach_83 rfl (fun c37 => ?_) (fun c37 => ?_)
                        · skip
                          obtain ⟨t38, et38⟩ : ∃ y : Int32, y = l6_24 + 1 := ⟨_, rfl⟩
                          have zt38 : t38.toInt = l6_24.toInt + 1 := (congrArg Int32.toInt et38).trans (add_i rfl tc_1 (om_41 hr6_24) (om_187 b25_v zc25))
                          refine lv_iinc (v := t38) (lv' := [(6, .int t38), (5, .int l5_18), (4, .int l4_24), (3, .int r5), (0, .ref y0), (1, .int p1), (2, .int p2)]) hx hb dX11_reach_132 hl (k := 0) rfl et38.symm (Nat.le_of_ble_eq_true rfl) rfl (fun ls hl => ?_)
                          refine lv_goto (tgt := 59) hx hb dX11_reach_135 rfl ?_
                          have rg39 := fb_rng t38
                          exact ih24 l4_24 t38 v24 f24 w24 g24 hIv24 hCf24 hRf24 hq0_v24 hq1_v24 hq2_v24 hq3_v24 hq4_v24 hq5_v24 hq8_v24 hq9_v24 hq10_v24 hq13_v24 hq14_v24 hq15_v24 hq17_v24 hq18_v24 hq24_v24 hq25_v24 hq35_v24 hq36_v24 hq38_v24 hq39_v24 ⟨show (0 : Int) ≤ t38.toInt from om_43 hr6_24 zt38, show t38.toInt ≤ (2147483647 : Int) from om_44 rg39⟩ hM_v24 hA_f24 (show (2147483647 - t38.toInt).toNat < n24 from om_33 hm24 zt38 rg39) _ _ _ hP hD hS (lv_sub hl [0, 1, 2, 3, 4, 5, 6] rfl)
                        · skip
                          refine lv_aload_n hx hb dX11_reach_86 rfl (lv_at hl 4 rfl) ?_
                          refine lv_iload_n hx hb dX11_reach_87 rfl (lv_at hl 5 rfl) ?_
                          refine lv_iload_n hx hb dX11_reach_88 rfl (lv_at hl 6 rfl) ?_
                          refine lv_iload hx hb dX11_reach_89 (lv_at hl 1 rfl) ?_
                          refine lv_iload hx hb dX11_reach_91 (lv_at hl 0 rfl) ?_
                          refine lv_iload_n hx hb dX11_reach_93 rfl (lv_at hl 3 rfl) ?_
                          refine cbVi (n := 5) (rest := []) hx hb hml hown hts hE hP hD hS hA (sY_X11_isRest_1 l dC dI cy y0 r p1 p2 l5_18 l6_24 r5 v24 f24 w24 g24 hIv24 hCf24 hRf24 ⟨show (0 : Int) ≤ p1.toInt from om_62 g8_0, show p1.toInt ≤ (5 : Int) from om_451 g8_2⟩ ⟨show (0 : Int) ≤ p2.toInt from om_62 g11_0, show p2.toInt ≤ (5 : Int) from om_451 g11_2⟩ ⟨show (0 : Int) ≤ l5_18.toInt from om_39 hr5_18, show l5_18.toInt ≤ (5 : Int) from om_739 zc19 b25_v⟩ ⟨show (0 : Int) ≤ l6_24.toInt from om_39 hr6_24, show l6_24.toInt ≤ (5 : Int) from om_100 b25_v zc25⟩) k_1952 k_1954 k_93 k_114 k_1955 hd_yX11_isRest ⟨Nat.le_of_ble_eq_true rfl, Nat.le_of_ble_eq_true rfl⟩ 0 11 rfl rfl (rfl) hl.1 rfl (Nat.le_of_ble_eq_true rfl) dX11_reach_94 (fun r40 u H locs hw hP hD hS => ?_)
                          rcases hw with ⟨g41⟩ | ⟨g41⟩
                          · skip
                            subst g41
                            refine lv_if_ne (tgt := 103) hx hb dX11_reach_97 rfl (fun _ => ?_) (fun c0 => absurd c0 (by decide))
                            refine lv_iload hx hb dX11_reach_103 (lv_at hl 2 rfl) ?_
                            refine lv_if_ne (tgt := 129) hx hb dX11_reach_105 rfl (fun c42 => ?_) (fun c42 => ?_)
                            · skip
                              obtain ⟨t43, et43⟩ : ∃ y : Int32, y = l4_24 + 1 := ⟨_, rfl⟩
                              refine lv_iinc (v := t43) (lv' := [(4, .int t43), (6, .int l6_24), (5, .int l5_18), (3, .int r5), (0, .ref y0), (1, .int p1), (2, .int p2)]) hx hb dX11_reach_129 hl (k := 2) rfl et43.symm (Nat.le_of_ble_eq_true rfl) rfl (fun ls hl => ?_)
                              obtain ⟨t44, et44⟩ : ∃ y : Int32, y = l6_24 + 1 := ⟨_, rfl⟩
                              have zt44 : t44.toInt = l6_24.toInt + 1 := (congrArg Int32.toInt et44).trans (add_i rfl tc_1 (om_41 hr6_24) (om_187 b25_v zc25))
                              refine lv_iinc (v := t44) (lv' := [(6, .int t44), (4, .int t43), (5, .int l5_18), (3, .int r5), (0, .ref y0), (1, .int p1), (2, .int p2)]) hx hb dX11_reach_132 hl (k := 1) rfl et44.symm (Nat.le_of_ble_eq_true rfl) rfl (fun ls hl => ?_)
                              refine lv_goto (tgt := 59) hx hb dX11_reach_135 rfl ?_
                              have rg45 := fb_rng t44
                              exact ih24 t43 t44 v24 f24 w24 g24 hIv24 hCf24 hRf24 hq0_v24 hq1_v24 hq2_v24 hq3_v24 hq4_v24 hq5_v24 hq8_v24 hq9_v24 hq10_v24 hq13_v24 hq14_v24 hq15_v24 hq17_v24 hq18_v24 hq24_v24 hq25_v24 hq35_v24 hq36_v24 hq38_v24 hq39_v24 ⟨show (0 : Int) ≤ t44.toInt from om_43 hr6_24 zt44, show t44.toInt ≤ (2147483647 : Int) from om_44 rg45⟩ hM_v24 hA_f24 (show (2147483647 - t44.toInt).toNat < n24 from om_33 hm24 zt44 rg45) _ _ _ hP hD hS (lv_sub hl [0, 2, 1, 3, 4, 5, 6] rfl)
                            · skip
                              refine lv_aload_n hx hb dX11_reach_108 rfl (lv_at hl 4 rfl) ?_
                              refine va_get (D := (dC, dI)) (ci := 11) (v := .ref (r 64)) (C := RX11) (T := TX11) (N := 79) hx hb hts inB_11 hown hE.1 hP 0 rfl rfl 64 (Nat.le_of_ble_eq_true rfl) (hts _ k_1384) (fun _ h9 => h9) rfl dX11_reach_109 ?_
                              refine lv_iconst (v := 0) hx hb dX11_reach_112 rfl ?_
                              refine lv_iload hx hb dX11_reach_113 (lv_at hl 1 rfl) ?_
                              refine stI hx hb hE hP hD hS 27 rfl (vp_in_nI (n := 0) (by decide) (by decide)) rfl dX11_reach_115 (fun H locs hP hD hS => ?_)
                              obtain ⟨f46, ef46, hP, hD⟩ : ∃ fz9, fz9 = upd2 f24 26 (upd (f24 26) (0 : Int32).toNatClampNeg l5_18) ∧ va_P (dC, dI) vwCl (YW cy y0 r v24 fz9 w24 g24) H ∧ va_D A (YW cy y0 r v24 fz9 w24 g24) := ⟨_, rfl, hP, hD⟩
                              have hCf46 : YC f46 := by rw [ef46]; exact hCf24
                              have hRf46 : progOK (f46 4) (f46 5) (v24 9).toInt.toNat := by rw [ef46]; exact hRf24
                              have hA_f46 : KF [7, 8, 24, 26, 28] f46 f := by rw [ef46]; exact KF.up hA_f24 rfl
                              refine lv_aload_n hx hb dX11_reach_116 rfl (lv_at hl 4 rfl) ?_
                              refine va_get (D := (dC, dI)) (ci := 11) (v := .ref (r 64)) (C := RX11) (T := TX11) (N := 79) hx hb hts inB_11 hown hE.1 hP 0 rfl rfl 64 (Nat.le_of_ble_eq_true rfl) (hts _ k_1384) (fun _ h9 => h9) rfl dX11_reach_117 ?_
                              refine lv_iconst (v := 1) hx hb dX11_reach_120 rfl ?_
                              refine lv_iload hx hb dX11_reach_121 (lv_at hl 0 rfl) ?_
                              refine stI hx hb hE hP hD hS 27 rfl (vp_in_nI (n := 1) (by decide) (by decide)) rfl dX11_reach_123 (fun H locs hP hD hS => ?_)
                              obtain ⟨f47, ef47, hP, hD⟩ : ∃ fz9, fz9 = upd2 f46 26 (upd (f46 26) (1 : Int32).toNatClampNeg l6_24) ∧ va_P (dC, dI) vwCl (YW cy y0 r v24 fz9 w24 g24) H ∧ va_D A (YW cy y0 r v24 fz9 w24 g24) := ⟨_, rfl, hP, hD⟩
                              have hCf47 : YC f47 := by rw [ef47]; exact hCf46
                              have hRf47 : progOK (f47 4) (f47 5) (v24 9).toInt.toNat := by rw [ef47]; exact hRf46
                              have hA_f47 : KF [7, 8, 24, 26, 28] f47 f := by rw [ef47]; exact KF.up hA_f46 rfl
                              refine lv_aload_n hx hb dX11_reach_124 rfl (lv_at hl 4 rfl) ?_
                              refine lv_iconst (v := 2) hx hb dX11_reach_125 rfl ?_
                              refine va_put (D := (dC, dI)) (ci := 11) (v := .int 2) (ty := tyX11 67) (C := RX11) (T := TX11) (N := 79) hx hb hts inB_11 tyX11 tyX11_ok nmX11 hown hE.1 hP hD hS 0 rfl rfl 67 (Nat.le_of_ble_eq_true rfl) (hts _ k_1387) (fun _ h9 => h9) rfl (tyX11_ok 67 (Nat.le_of_ble_eq_true rfl)) rfl rfl (Nat.le_of_ble_eq_true rfl) dX11_reach_126 (fun H locs hP hD hS => ?_)
                              have hP : va_P (dC, dI) vwCl (YW cy y0 r (upd v24 37 2) f47 w24 g24) H := hP
                              have hD : va_D A (YW cy y0 r (upd v24 37 2) f47 w24 g24) := hD
                              obtain ⟨t48, et48⟩ : ∃ y : Int32, y = l4_24 + 1 := ⟨_, rfl⟩
                              refine lv_iinc (v := t48) (lv' := [(4, .int t48), (6, .int l6_24), (5, .int l5_18), (3, .int r5), (0, .ref y0), (1, .int p1), (2, .int p2)]) hx hb dX11_reach_129 hl (k := 2) rfl et48.symm (Nat.le_of_ble_eq_true rfl) rfl (fun ls hl => ?_)
                              obtain ⟨t50, et50⟩ : ∃ y : Int32, y = l6_24 + 1 := ⟨_, rfl⟩
                              have zt50 : t50.toInt = l6_24.toInt + 1 := (congrArg Int32.toInt et50).trans (add_i rfl tc_1 (om_41 hr6_24) (om_187 b25_v zc25))
                              refine lv_iinc (v := t50) (lv' := [(6, .int t50), (4, .int t48), (5, .int l5_18), (3, .int r5), (0, .ref y0), (1, .int p1), (2, .int p2)]) hx hb dX11_reach_132 hl (k := 1) rfl et50.symm (Nat.le_of_ble_eq_true rfl) rfl (fun ls hl => ?_)
                              refine lv_goto (tgt := 59) hx hb dX11_reach_135 rfl ?_
                              have rg51 := fb_rng t50
                              exact ih24 t48 t50 (upd v24 37 2) f47 w24 g24 ⟨(Yu_37 (x := 2) hIv24.1 (by decide) (by decide)), hIv24.2⟩ hCf47 hRf47 hq0_v24 hq1_v24 hq2_v24 hq3_v24 hq4_v24 hq5_v24 hq8_v24 hq9_v24 hq10_v24 hq13_v24 hq14_v24 hq15_v24 hq17_v24 hq18_v24 hq24_v24 hq25_v24 hq35_v24 hq36_v24 hq38_v24 hq39_v24 ⟨show (0 : Int) ≤ t50.toInt from om_43 hr6_24 zt50, show t50.toInt ≤ (2147483647 : Int) from om_44 rg51⟩ (KV.up (j := 37) (x := 2) hM_v24 rfl) hA_f47 (show (2147483647 - t50.toInt).toNat < n24 from om_33 hm24 zt50 rg51) _ _ _ hP hD hS (lv_sub hl [0, 2, 1, 3, 4, 5, 6] rfl)
                          · skip
                            subst g41
                            refine lv_if_ne (tgt := 103) hx hb dX11_reach_97 rfl (fun c0 => absurd (by decide) c0) (fun _ => ?_)
                            refine lv_goto (tgt := 132) hx hb dX11_reach_100 rfl ?_
                            obtain ⟨t52, et52⟩ : ∃ y : Int32, y = l6_24 + 1 := ⟨_, rfl⟩
                            have zt52 : t52.toInt = l6_24.toInt + 1 := (congrArg Int32.toInt et52).trans (add_i rfl tc_1 (om_41 hr6_24) (om_187 b25_v zc25))
                            refine lv_iinc (v := t52) (lv' := [(6, .int t52), (5, .int l5_18), (4, .int l4_24), (3, .int r5), (0, .ref y0), (1, .int p1), (2, .int p2)]) hx hb dX11_reach_132 hl (k := 0) rfl et52.symm (Nat.le_of_ble_eq_true rfl) rfl (fun ls hl => ?_)
                            refine lv_goto (tgt := 59) hx hb dX11_reach_135 rfl ?_
                            have rg53 := fb_rng t52
                            exact ih24 l4_24 t52 v24 f24 w24 g24 hIv24 hCf24 hRf24 hq0_v24 hq1_v24 hq2_v24 hq3_v24 hq4_v24 hq5_v24 hq8_v24 hq9_v24 hq10_v24 hq13_v24 hq14_v24 hq15_v24 hq17_v24 hq18_v24 hq24_v24 hq25_v24 hq35_v24 hq36_v24 hq38_v24 hq39_v24 ⟨show (0 : Int) ≤ t52.toInt from om_43 hr6_24 zt52, show t52.toInt ≤ (2147483647 : Int) from om_44 rg53⟩ hM_v24 hA_f24 (show (2147483647 - t52.toInt).toNat < n24 from om_33 hm24 zt52 rg53) _ _ _ hP hD hS (lv_sub hl [0, 1, 2, 3, 4, 5, 6] rfl)
                exact lp24 _ l4_18 0 v18 f18 w18 g18 hIv18 hCf18 hRf18 hq0_v18 hq1_v18 hq2_v18 hq3_v18 hq4_v18 hq5_v18 hq8_v18 hq9_v18 hq10_v18 hq13_v18 hq14_v18 hq15_v18 hq17_v18 hq18_v18 hq24_v18 hq25_v18 hq35_v18 hq36_v18 hq38_v18 hq39_v18 ⟨by decide, by decide⟩ hM_v18 hA_f18 (Nat.lt_succ_self _) _ _ _ hP hD hS (lv_sub hl [0, 1, 2, 3, 4, 5, 6] rfl)
          exact lp18 _ 0 0 v1 f2 w3 g4 hIv1 hCf2 hRf2 hq0_v1 hq1_v1 hq2_v1 hq3_v1 hq4_v1 hq5_v1 hq8_v1 hq9_v1 hq10_v1 hq13_v1 hq14_v1 hq15_v1 hq17_v1 hq18_v1 hq24_v1 hq25_v1 hq35_v1 hq36_v1 hq38_v1 hq39_v1 ⟨by decide, by decide⟩ hM_v1 hA_f2 (Nat.lt_succ_self _) _ _ _ hP hD hS (lv_sub hl [0, 1, 2, 3, 4, 5] rfl)
        · skip
          refine lv_iconst (v := (-1)) hx hb dX11_reach_39 rfl ?_
          exact ret (-1) (v1, f2, w3, g4) _ _ _ _ _ _ rfl ⟨hM_v1, hA_f2, hIv1, hCf2, hRf2, hk0_v1, hk1_v1, hk2_v1, hk3_v1, hk4_v1, hk5_v1, hk8_v1, hk9_v1, hk10_v1, hk13_v1, hk14_v1, hk15_v1, hk17_v1, hk18_v1, hk24_v1, hk25_v1, hk35_v1, hk36_v1, hk38_v1, hk39_v1⟩ hP hD hS dX11_reach_40 (Nat.le_refl _) (Nat.le_refl _)
    · skip
      subst g11
      refine lv_if_eq (tgt := 39) hx hb dX11_reach_27 rfl (fun _ => ?_) (fun c0 => absurd (by decide) c0)
      refine lv_iconst (v := (-1)) hx hb dX11_reach_39 rfl ?_
      exact ret (-1) (v1, f2, w3, g4) _ _ _ _ _ _ rfl ⟨hM_v1, hA_f2, hIv1, hCf2, hRf2, hk0_v1, hk1_v1, hk2_v1, hk3_v1, hk4_v1, hk5_v1, hk8_v1, hk9_v1, hk10_v1, hk13_v1, hk14_v1, hk15_v1, hk17_v1, hk18_v1, hk24_v1, hk25_v1, hk35_v1, hk36_v1, hk38_v1, hk39_v1⟩ hP hD hS dX11_reach_40 (Nat.le_refl _) (Nat.le_refl _)
  · skip
    subst g8
    refine lv_if_eq (tgt := 39) hx hb dX11_reach_19 rfl (fun _ => ?_) (fun c0 => absurd (by decide) c0)
    refine lv_iconst (v := (-1)) hx hb dX11_reach_39 rfl ?_
    exact ret (-1) (v1, f2, w3, g4) _ _ _ _ _ _ rfl ⟨hM_v1, hA_f2, hIv1, hCf2, hRf2, hk0_v1, hk1_v1, hk2_v1, hk3_v1, hk4_v1, hk5_v1, hk8_v1, hk9_v1, hk10_v1, hk13_v1, hk14_v1, hk15_v1, hk17_v1, hk18_v1, hk24_v1, hk25_v1, hk35_v1, hk36_v1, hk38_v1, hk39_v1⟩ hP hD hS dX11_reach_40 (Nat.le_refl _) (Nat.le_refl _)
set_option maxHeartbeats 4000000 in
set_option maxRecDepth 100000 in
theorem sY_X11_turning_1 (l : Launch) (dC : Nat → ClassId) (dI : Nat → Nat → Nat) (cy : Nat → ClassId) (y0 : Nat) (r : Nat → Nat)  (v : Nat → Int32) (f : Nat → Nat → Int32) (w : Int64) (g : Nat → Int64) (hIv : YI v) (hCf : YC f) (hRf : progOK (f 4) (f 5) (v 9).toInt.toNat)  : ctI l (dC, dI) cy yX11_turning cX11_turning 5 .int 7 191 0 0 ((Nat → Int32) × (Nat → Nat → Int32) × (Int64) × (Nat → Int64)) [.ref y0] (YW cy y0 r v f w g) (fun r u => KV [] u.1 v ∧ KF [7, 8, 24] u.2.1 f ∧ YI u.1 ∧ YC u.2.1 ∧ progOK (u.2.1 4) (u.2.1 5) (u.1 9).toInt.toNat ∧ u.1 0 = v 0 ∧ u.1 1 = v 1 ∧ u.1 2 = v 2 ∧ u.1 3 = v 3 ∧ u.1 4 = v 4 ∧ u.1 5 = v 5 ∧ u.1 8 = v 8 ∧ u.1 9 = v 9 ∧ u.1 10 = v 10 ∧ u.1 13 = v 13 ∧ u.1 14 = v 14 ∧ u.1 15 = v 15 ∧ u.1 17 = v 17 ∧ u.1 18 = v 18 ∧ u.1 24 = v 24 ∧ u.1 25 = v 25 ∧ u.1 35 = v 35 ∧ u.1 36 = v 36 ∧ u.1 38 = v 38 ∧ u.1 39 = v 39) (fun u => YW cy y0 r u.1 u.2.1 u.2.2.1 u.2.2.2) := by
  refine ctI_of (by decide) (Nat.le_of_ble_eq_true rfl) (fun p e s m below meth c A ls Q hx hb hml hts hown hE hP hD hA hl ret => ?_)
  have hM_v : KV [] v v := fun _ _ => rfl
  have hA_f : KF [7, 8, 24] f f := fun _ _ => rfl
  have hown : s.vm.findClass RX11 = some m.cls := hown
  have hS : va_S A s.heap s.heap [] := va_S.rf
  have hl : lv_has ls 5 [(0, .ref y0)] := hl
  refine lv_iconst (v := (-1)) hx hb dX11_turning_0 rfl ?_
  refine lv_istore_n (lv' := [(1, .int (-1)), (0, .ref y0)]) hx hb dX11_turning_1 rfl hl (Nat.le_of_ble_eq_true rfl) rfl (fun ls hl => ?_)
  refine lv_iconst (v := (-1)) hx hb dX11_turning_2 rfl ?_
  refine lv_istore_n (lv' := [(2, .int (-1)), (1, .int (-1)), (0, .ref y0)]) hx hb dX11_turning_3 rfl hl (Nat.le_of_ble_eq_true rfl) rfl (fun ls hl => ?_)
  refine lv_iconst (v := 0) hx hb dX11_turning_4 rfl ?_
  refine lv_istore_n (lv' := [(3, .int 0), (2, .int (-1)), (1, .int (-1)), (0, .ref y0)]) hx hb dX11_turning_5 rfl hl (Nat.le_of_ble_eq_true rfl) rfl (fun ls hl => ?_)
  have lp1 : ∀ (n1 : Nat) (l1_1 : Int32) (l2_1 : Int32) (l3_1 : Int32) (v1 : Nat → Int32) (f1 : Nat → Nat → Int32) (w1 : Int64) (g1 : Nat → Int64), YI v1 → YC f1 → progOK (f1 4) (f1 5) (v1 9).toInt.toNat → v1 0 = (v 0) → v1 1 = (v 1) → v1 2 = (v 2) → v1 3 = (v 3) → v1 4 = (v 4) → v1 5 = (v 5) → v1 8 = (v 8) → v1 9 = (v 9) → v1 10 = (v 10) → v1 13 = (v 13) → v1 14 = (v 14) → v1 15 = (v 15) → v1 17 = (v 17) → v1 18 = (v 18) → v1 24 = (v 24) → v1 25 = (v 25) → v1 35 = (v 35) → v1 36 = (v 36) → v1 38 = (v 38) → v1 39 = (v 39) → ((0 : Int) ≤ l3_1.toInt ∧ l3_1.toInt ≤ 2147483647) → KV [] v1 v → KF [7, 8, 24] f1 f → (2147483647 - l3_1.toInt).toNat < n1 → ∀ (H : Heap) (locs : List Loc) (ls : Array Slot), va_P (dC, dI) vwCl (YW cy y0 r v1 f1 w1 g1) H → va_D A (YW cy y0 r v1 f1 w1 g1) → va_S A s.heap H locs → lv_has ls 5 [(3, .int l3_1), (2, .int l2_1), (1, .int l1_1), (0, .ref y0)] → W p l e { frames := 7, cells := 0, slots := 0, locals := 191 } s m ([.ref y0] : List Value).toArray below meth c H locs 0 0 Q (F0 m 6 ls []) := by
    intro n1
    induction n1 with
    | zero => intro l1_1 l2_1 l3_1 v1 f1 w1 g1 hIv1 hCf1 hRf1 hq0_v1 hq1_v1 hq2_v1 hq3_v1 hq4_v1 hq5_v1 hq8_v1 hq9_v1 hq10_v1 hq13_v1 hq14_v1 hq15_v1 hq17_v1 hq18_v1 hq24_v1 hq25_v1 hq35_v1 hq36_v1 hq38_v1 hq39_v1 hr3_1 hM_v1 hA_f1 hm; exact absurd hm (Nat.not_lt_zero _)
    | succ n1 ih1 =>
      intro l1_1 l2_1 l3_1 v1 f1 w1 g1 hIv1 hCf1 hRf1 hq0_v1 hq1_v1 hq2_v1 hq3_v1 hq4_v1 hq5_v1 hq8_v1 hq9_v1 hq10_v1 hq13_v1 hq14_v1 hq15_v1 hq17_v1 hq18_v1 hq24_v1 hq25_v1 hq35_v1 hq36_v1 hq38_v1 hq39_v1 hr3_1 hM_v1 hA_f1 hm1 H locs ls hP hD hS hl
      refine lv_iload_n hx hb dX11_turning_6 rfl (lv_at hl 0 rfl) ?_
      refine lv_aload_n hx hb dX11_turning_7 rfl (lv_at hl 3 rfl) ?_
      refine va_get (D := (dC, dI)) (ci := 11) (v := .int (v1 25)) (C := RX11) (T := TX11) (N := 79) hx hb hts inB_11 hown hE.1 hP 0 rfl rfl 49 (Nat.le_of_ble_eq_true rfl) (hts _ k_1369) (fun _ h9 => h9) rfl dX11_turning_8 ?_
      refine tI (y := (v 25)) hq25_v1 ?_
      have b25_v : 0 ≤ (v 25).toInt ∧ (v 25).toInt ≤ 6 := Yb_25 hIv.1
      refine lv_icmp_ge (tgt := 75) hx hb dX11_turning_11 rfl (fun c2 => ?_) (fun c2 => ?_)
      · skip
        refine lv_iload_n hx hb dX11_turning_75 rfl (lv_at hl 2 rfl) ?_
        exact ret l1_1 (v1, f1, w1, g1) _ _ _ _ _ _ rfl ⟨hM_v1, hA_f1, hIv1, hCf1, hRf1, (show v1 0 = v 0 from hq0_v1), (show v1 1 = v 1 from hq1_v1), (show v1 2 = v 2 from hq2_v1), (show v1 3 = v 3 from hq3_v1), (show v1 4 = v 4 from hq4_v1), (show v1 5 = v 5 from hq5_v1), (show v1 8 = v 8 from hq8_v1), (show v1 9 = v 9 from hq9_v1), (show v1 10 = v 10 from hq10_v1), (show v1 13 = v 13 from hq13_v1), (show v1 14 = v 14 from hq14_v1), (show v1 15 = v 15 from hq15_v1), (show v1 17 = v 17 from hq17_v1), (show v1 18 = v 18 from hq18_v1), (show v1 24 = v 24 from hq24_v1), (show v1 25 = v 25 from hq25_v1), (show v1 35 = v 35 from hq35_v1), (show v1 36 = v 36 from hq36_v1), (show v1 38 = v 38 from hq38_v1), (show v1 39 = v 39 from hq39_v1)⟩ hP hD hS dX11_turning_76 (Nat.le_refl _) (Nat.le_refl _)
      · skip
        have zc2 : ¬ ((v 25).toInt ≤ l3_1.toInt) := zMn rfl rfl c2
        refine lv_aload_n hx hb dX11_turning_14 rfl (lv_at hl 3 rfl) ?_
        refine cbVv (n := 0) (rest := []) hx hb hml hown hts hE hP hD hS hA (sY_X11_fill_1 0 l dC dI cy y0 r  v1 f1 w1 g1 hIv1 hCf1 hRf1 ) k_1739 k_1741 k_71 k_114 k_1742 hd_yX11_fill ⟨Nat.le_of_ble_eq_true rfl, Nat.le_of_ble_eq_true rfl⟩ 0 11 rfl rfl (rfl) hl.1 rfl (Nat.le_of_ble_eq_true rfl) dX11_turning_15 (fun u H locs hw hP hD hS => ?_)
        obtain ⟨hG7, hw⟩ := hw
        obtain ⟨v8, f9, w10, g11⟩ := u
        obtain ⟨kV_v8, kF_f9, hIv8, hCf9, hRf9, hk0_v8, hk1_v8, hk2_v8, hk3_v8, hk4_v8, hk5_v8, hk8_v8, hk9_v8, hk10_v8, hk13_v8, hk14_v8, hk15_v8, hk17_v8, hk18_v8, hk24_v8, hk25_v8, hk35_v8, hk36_v8, hk38_v8, hk39_v8⟩ := hw
        have hM_v8 : KV [] v8 v := KV.tr kV_v8 hM_v1 rfl
        have hA_f9 : KF [7, 8, 24] f9 f := KF.tr kF_f9 hA_f1 rfl
        have hP : va_P (dC, dI) vwCl (YW cy y0 r v8 f9 w10 g11) H := hP
        have hD : va_D A (YW cy y0 r v8 f9 w10 g11) := hD
        have hq0_v8 : v8 0 = (v 0) := hk0_v8.trans hq0_v1
        have hq1_v8 : v8 1 = (v 1) := hk1_v8.trans hq1_v1
        have hq2_v8 : v8 2 = (v 2) := hk2_v8.trans hq2_v1
        have hq3_v8 : v8 3 = (v 3) := hk3_v8.trans hq3_v1
        have hq4_v8 : v8 4 = (v 4) := hk4_v8.trans hq4_v1
        have hq5_v8 : v8 5 = (v 5) := hk5_v8.trans hq5_v1
        have hq8_v8 : v8 8 = (v 8) := hk8_v8.trans hq8_v1
        have hq9_v8 : v8 9 = (v 9) := hk9_v8.trans hq9_v1
        have hq10_v8 : v8 10 = (v 10) := hk10_v8.trans hq10_v1
        have hq13_v8 : v8 13 = (v 13) := hk13_v8.trans hq13_v1
        have hq14_v8 : v8 14 = (v 14) := hk14_v8.trans hq14_v1
        have hq15_v8 : v8 15 = (v 15) := hk15_v8.trans hq15_v1
        have hq17_v8 : v8 17 = (v 17) := hk17_v8.trans hq17_v1
        have hq18_v8 : v8 18 = (v 18) := hk18_v8.trans hq18_v1
        have hq24_v8 : v8 24 = (v 24) := hk24_v8.trans hq24_v1
        have hq25_v8 : v8 25 = (v 25) := hk25_v8.trans hq25_v1
        have hq35_v8 : v8 35 = (v 35) := hk35_v8.trans hq35_v1
        have hq36_v8 : v8 36 = (v 36) := hk36_v8.trans hq36_v1
        have hq38_v8 : v8 38 = (v 38) := hk38_v8.trans hq38_v1
        have hq39_v8 : v8 39 = (v 39) := hk39_v8.trans hq39_v1
        refine lv_aload_n hx hb dX11_turning_18 rfl (lv_at hl 3 rfl) ?_
        refine va_get (D := (dC, dI)) (ci := 11) (v := .ref (r 60)) (C := RX11) (T := TX11) (N := 79) hx hb hts inB_11 hown hE.1 hP 0 rfl rfl 60 (Nat.le_of_ble_eq_true rfl) (hts _ k_1380) (fun _ h9 => h9) rfl dX11_turning_19 ?_
        refine lv_bipush (v := 36) hx hb dX11_turning_22 rfl ?_
        refine ldI hx hb hE hP 25 rfl (vp_in_nI (n := 36) (by decide) (by decide)) rfl rfl dX11_turning_24 ?_
        refine lv_topi (fun t12 et12 => ?_)
        refine lv_iload_n hx hb dX11_turning_25 rfl (lv_at hl 0 rfl) ?_
        refine lv_ishr hx hb dX11_turning_26 ?_
        refine lv_topi (fun t13 et13 => ?_)
        refine lv_iconst (v := 1) hx hb dX11_turning_27 rfl ?_
        refine lv_iand hx hb dX11_turning_28 ?_
        refine lv_topi (fun t14 et14 => ?_)
        refine lv_iconst (v := 1) hx hb dX11_turning_29 rfl ?_
        refine lv_icmp_ne (tgt := 36) hx hb dX11_turning_30 rfl (fun c15 => ?_) (fun c15 => ?_)
        · skip
          refine lv_aload_n hx hb dX11_turning_36 rfl (lv_at hl 3 rfl) ?_
          refine va_get (D := (dC, dI)) (ci := 11) (v := .ref (r 60)) (C := RX11) (T := TX11) (N := 79) hx hb hts inB_11 hown hE.1 hP 0 rfl rfl 60 (Nat.le_of_ble_eq_true rfl) (hts _ k_1380) (fun _ h9 => h9) rfl dX11_turning_37 ?_
          refine lv_bipush (v := 30) hx hb dX11_turning_40 rfl ?_
          refine lv_iload_n hx hb dX11_turning_42 rfl (lv_at hl 0 rfl) ?_
          refine lv_iadd hx hb dX11_turning_43 ?_
          refine lv_topi (fun t16 et16 => ?_)
          have zt16 : t16.toInt = 30 + l3_1.toInt := (congrArg Int32.toInt et16).trans (add_i tc_30 rfl (om_471 hr3_1) (om_472 b25_v zc2))
          refine lv_iconst (v := 0) hx hb dX11_turning_44 rfl ?_
          refine stI hx hb hE hP hD hS 25 rfl (vpI (k := 39) rfl (show 0 ≤ t16.toInt from om_473 hr3_1 zt16) (show t16.toInt < 39 from om_474 b25_v zc2 zt16)) rfl dX11_turning_45 (fun H locs hP hD hS => ?_)
          obtain ⟨f17, ef17, hP, hD⟩ : ∃ fz9, fz9 = upd2 f9 24 (upd (f9 24) t16.toNatClampNeg 0) ∧ va_P (dC, dI) vwCl (YW cy y0 r v8 fz9 w10 g11) H ∧ va_D A (YW cy y0 r v8 fz9 w10 g11) := ⟨_, rfl, hP, hD⟩
          have hCf17 : YC f17 := by rw [ef17]; exact ⟨hCf9.1, (wear_st hCf9.2.1 (show t16.toInt.toNat % 39 < 6 ∨ 12 ≤ t16.toInt.toNat % 39 ∨ (-1 ≤ (0 : Int32).toInt ∧ (0 : Int32).toInt ≤ 5) from om_480 tc_0)), hCf9.2.2.1, hCf9.2.2.2.1, hCf9.2.2.2.2.1, hCf9.2.2.2.2.2⟩
          have hRf17 : progOK (f17 4) (f17 5) (v8 9).toInt.toNat := by rw [ef17]; exact hRf9
          have hA_f17 : KF [7, 8, 24] f17 f := by rw [ef17]; exact KF.up hA_f9 rfl
          refine lv_aload_n hx hb dX11_turning_46 rfl (lv_at hl 3 rfl) ?_
          refine cbVi (n := 0) (rest := []) hx hb hml hown hts hE hP hD hS hA (sY_X11_fittedOnes_1 0 l dC dI cy y0 r  v8 f17 w10 g11 hIv8 hCf17 hRf17 ) k_1809 k_1811 k_81 k_114 k_1812 hd_yX11_fittedOnes ⟨Nat.le_of_ble_eq_true rfl, Nat.le_of_ble_eq_true rfl⟩ 0 11 rfl rfl (rfl) hl.1 rfl (Nat.le_of_ble_eq_true rfl) dX11_turning_47 (fun r18 u H locs hw hP hD hS => ?_)
          obtain ⟨hG19, hw⟩ := hw
          obtain ⟨v20, f21, w22, g23⟩ := u
          obtain ⟨kV_v20, kF_f21, hIv20, hCf21, hRf21, hk0_v20, hk1_v20, hk2_v20, hk3_v20, hk4_v20, hk5_v20, hk8_v20, hk9_v20, hk10_v20, hk13_v20, hk14_v20, hk15_v20, hk17_v20, hk18_v20, hk24_v20, hk25_v20, hk35_v20, hk36_v20, hk38_v20, hk39_v20⟩ := hw
          have hM_v20 : KV [] v20 v := KV.tr kV_v20 hM_v8 rfl
          have hA_f21 : KF [7, 8, 24] f21 f := KF.tr kF_f21 hA_f17 rfl
          have hP : va_P (dC, dI) vwCl (YW cy y0 r v20 f21 w22 g23) H := hP
          have hD : va_D A (YW cy y0 r v20 f21 w22 g23) := hD
          have hq0_v20 : v20 0 = (v 0) := hk0_v20.trans hq0_v8
          have hq1_v20 : v20 1 = (v 1) := hk1_v20.trans hq1_v8
          have hq2_v20 : v20 2 = (v 2) := hk2_v20.trans hq2_v8
          have hq3_v20 : v20 3 = (v 3) := hk3_v20.trans hq3_v8
          have hq4_v20 : v20 4 = (v 4) := hk4_v20.trans hq4_v8
          have hq5_v20 : v20 5 = (v 5) := hk5_v20.trans hq5_v8
          have hq8_v20 : v20 8 = (v 8) := hk8_v20.trans hq8_v8
          have hq9_v20 : v20 9 = (v 9) := hk9_v20.trans hq9_v8
          have hq10_v20 : v20 10 = (v 10) := hk10_v20.trans hq10_v8
          have hq13_v20 : v20 13 = (v 13) := hk13_v20.trans hq13_v8
          have hq14_v20 : v20 14 = (v 14) := hk14_v20.trans hq14_v8
          have hq15_v20 : v20 15 = (v 15) := hk15_v20.trans hq15_v8
          have hq17_v20 : v20 17 = (v 17) := hk17_v20.trans hq17_v8
          have hq18_v20 : v20 18 = (v 18) := hk18_v20.trans hq18_v8
          have hq24_v20 : v20 24 = (v 24) := hk24_v20.trans hq24_v8
          have hq25_v20 : v20 25 = (v 25) := hk25_v20.trans hq25_v8
          have hq35_v20 : v20 35 = (v 35) := hk35_v20.trans hq35_v8
          have hq36_v20 : v20 36 = (v 36) := hk36_v20.trans hq36_v8
          have hq38_v20 : v20 38 = (v 38) := hk38_v20.trans hq38_v8
          have hq39_v20 : v20 39 = (v 39) := hk39_v20.trans hq39_v8
          refine cbSi (n := 1) (rest := []) hx hb hml hown hts hE hP hD hS hA (sY_X11_members_1 0 l dC dI cy y0 r r18 v20 f21 w22 g23 hIv20 hCf21 hRf21 ) k_1900 k_1901 k_114 k_1902 he_yX11_members ⟨Nat.le_of_ble_eq_true rfl, Nat.le_of_ble_eq_true rfl⟩ (rfl) hl.1 rfl (Nat.le_of_ble_eq_true rfl) dX11_turning_50 (fun r24 u H locs hw hP hD hS => ?_)
          have hG25 := hw
          refine lv_istore (lv' := [(4, .int r24), (3, .int l3_1), (2, .int l2_1), (1, .int l1_1), (0, .ref y0)]) hx hb dX11_turning_53 hl (Nat.le_of_ble_eq_true rfl) rfl (fun ls hl => ?_)
          refine lv_iload hx hb dX11_turning_55 (lv_at hl 0 rfl) ?_
          refine lv_iload_n hx hb dX11_turning_57 rfl (lv_at hl 2 rfl) ?_
          refine lv_icmp_gt (tgt := 64) hx hb dX11_turning_58 rfl (fun c26 => ?_) (fun c26 => ?_)
          · skip
            refine lv_iload_n hx hb dX11_turning_64 rfl (lv_at hl 1 rfl) ?_
            refine lv_istore_n (lv' := [(1, .int l3_1), (4, .int r24), (3, .int l3_1), (2, .int l2_1), (0, .ref y0)]) hx hb dX11_turning_65 rfl hl (Nat.le_of_ble_eq_true rfl) rfl (fun ls hl => ?_)
            refine lv_iload hx hb dX11_turning_66 (lv_at hl 1 rfl) ?_
            refine lv_istore_n (lv' := [(2, .int r24), (1, .int l3_1), (4, .int r24), (3, .int l3_1), (0, .ref y0)]) hx hb dX11_turning_68 rfl hl (Nat.le_of_ble_eq_true rfl) rfl (fun ls hl => ?_)
            obtain ⟨t29, et29⟩ : ∃ y : Int32, y = l3_1 + 1 := ⟨_, rfl⟩
            have zt29 : t29.toInt = l3_1.toInt + 1 := (congrArg Int32.toInt et29).trans (add_i rfl tc_1 (om_41 hr3_1) (om_187 b25_v zc2))
            refine lv_iinc (v := t29) (lv' := [(3, .int t29), (2, .int r24), (1, .int l3_1), (4, .int r24), (0, .ref y0)]) hx hb dX11_turning_69 hl (k := 3) rfl et29.symm (Nat.le_of_ble_eq_true rfl) rfl (fun ls hl => ?_)
            refine lv_goto (tgt := 6) hx hb dX11_turning_72 rfl ?_
            have rg30 := fb_rng t29
            exact ih1 l3_1 r24 t29 v20 f21 w22 g23 hIv20 hCf21 hRf21 hq0_v20 hq1_v20 hq2_v20 hq3_v20 hq4_v20 hq5_v20 hq8_v20 hq9_v20 hq10_v20 hq13_v20 hq14_v20 hq15_v20 hq17_v20 hq18_v20 hq24_v20 hq25_v20 hq35_v20 hq36_v20 hq38_v20 hq39_v20 ⟨show (0 : Int) ≤ t29.toInt from om_43 hr3_1 zt29, show t29.toInt ≤ (2147483647 : Int) from om_44 rg30⟩ hM_v20 hA_f21 (show (2147483647 - t29.toInt).toNat < n1 from om_33 hm1 zt29 rg30) _ _ _ hP hD hS (lv_sub hl [0, 1, 2, 4] rfl)
          · skip
            refine lv_goto (tgt := 69) hx hb dX11_turning_61 rfl ?_
            obtain ⟨t33, et33⟩ : ∃ y : Int32, y = l3_1 + 1 := ⟨_, rfl⟩
            have zt33 : t33.toInt = l3_1.toInt + 1 := (congrArg Int32.toInt et33).trans (add_i rfl tc_1 (om_41 hr3_1) (om_187 b25_v zc2))
            refine lv_iinc (v := t33) (lv' := [(3, .int t33), (4, .int r24), (2, .int l2_1), (1, .int l1_1), (0, .ref y0)]) hx hb dX11_turning_69 hl (k := 1) rfl et33.symm (Nat.le_of_ble_eq_true rfl) rfl (fun ls hl => ?_)
            refine lv_goto (tgt := 6) hx hb dX11_turning_72 rfl ?_
            have rg34 := fb_rng t33
            exact ih1 l1_1 l2_1 t33 v20 f21 w22 g23 hIv20 hCf21 hRf21 hq0_v20 hq1_v20 hq2_v20 hq3_v20 hq4_v20 hq5_v20 hq8_v20 hq9_v20 hq10_v20 hq13_v20 hq14_v20 hq15_v20 hq17_v20 hq18_v20 hq24_v20 hq25_v20 hq35_v20 hq36_v20 hq38_v20 hq39_v20 ⟨show (0 : Int) ≤ t33.toInt from om_43 hr3_1 zt33, show t33.toInt ≤ (2147483647 : Int) from om_44 rg34⟩ hM_v20 hA_f21 (show (2147483647 - t33.toInt).toNat < n1 from om_33 hm1 zt33 rg34) _ _ _ hP hD hS (lv_sub hl [0, 2, 3, 4] rfl)
        · skip
          refine lv_goto (tgt := 69) hx hb dX11_turning_33 rfl ?_
          obtain ⟨t35, et35⟩ : ∃ y : Int32, y = l3_1 + 1 := ⟨_, rfl⟩
          have zt35 : t35.toInt = l3_1.toInt + 1 := (congrArg Int32.toInt et35).trans (add_i rfl tc_1 (om_41 hr3_1) (om_187 b25_v zc2))
          refine lv_iinc (v := t35) (lv' := [(3, .int t35), (2, .int l2_1), (1, .int l1_1), (0, .ref y0)]) hx hb dX11_turning_69 hl (k := 0) rfl et35.symm (Nat.le_of_ble_eq_true rfl) rfl (fun ls hl => ?_)
          refine lv_goto (tgt := 6) hx hb dX11_turning_72 rfl ?_
          have rg36 := fb_rng t35
          exact ih1 l1_1 l2_1 t35 v8 f9 w10 g11 hIv8 hCf9 hRf9 hq0_v8 hq1_v8 hq2_v8 hq3_v8 hq4_v8 hq5_v8 hq8_v8 hq9_v8 hq10_v8 hq13_v8 hq14_v8 hq15_v8 hq17_v8 hq18_v8 hq24_v8 hq25_v8 hq35_v8 hq36_v8 hq38_v8 hq39_v8 ⟨show (0 : Int) ≤ t35.toInt from om_43 hr3_1 zt35, show t35.toInt ≤ (2147483647 : Int) from om_44 rg36⟩ hM_v8 hA_f9 (show (2147483647 - t35.toInt).toNat < n1 from om_33 hm1 zt35 rg36) _ _ _ hP hD hS (lv_sub hl [0, 1, 2, 3] rfl)
  exact lp1 _ (-1) (-1) 0 v f w g hIv hCf hRf rfl rfl rfl rfl rfl rfl rfl rfl rfl rfl rfl rfl rfl rfl rfl rfl rfl rfl rfl rfl ⟨by decide, by decide⟩ hM_v hA_f (Nat.lt_succ_self _) _ _ _ hP hD hS (lv_sub hl [0, 1, 2, 3] rfl)
set_option maxHeartbeats 4000000 in
set_option maxRecDepth 100000 in
theorem sY_X11_menFor_1 (l : Launch) (dC : Nat → ClassId) (dI : Nat → Nat → Nat) (cy : Nat → ClassId) (y0 : Nat) (r : Nat → Nat) (p1 : Int32) (v : Nat → Int32) (f : Nat → Nat → Int32) (w : Int64) (g : Nat → Int64) (hIv : YI v) (hCf : YC f) (hRf : progOK (f 4) (f 5) (v 9).toInt.toNat) (hp1 : (0 : Int) ≤ p1.toInt ∧ p1.toInt ≤ 5) : ctI l (dC, dI) cy yX11_menFor cX11_menFor 4 .int 5 148 0 0 ((Nat → Int32) × (Nat → Nat → Int32) × (Int64) × (Nat → Int64)) [.ref y0, .int p1] (YW cy y0 r v f w g) (fun r u => KV [] u.1 v ∧ KF [7, 8] u.2.1 f ∧ YI u.1 ∧ YC u.2.1 ∧ progOK (u.2.1 4) (u.2.1 5) (u.1 9).toInt.toNat ∧ u.1 0 = v 0 ∧ u.1 1 = v 1 ∧ u.1 2 = v 2 ∧ u.1 3 = v 3 ∧ u.1 4 = v 4 ∧ u.1 5 = v 5 ∧ u.1 8 = v 8 ∧ u.1 9 = v 9 ∧ u.1 10 = v 10 ∧ u.1 13 = v 13 ∧ u.1 14 = v 14 ∧ u.1 15 = v 15 ∧ u.1 17 = v 17 ∧ u.1 18 = v 18 ∧ u.1 24 = v 24 ∧ u.1 25 = v 25 ∧ u.1 35 = v 35 ∧ u.1 36 = v 36 ∧ u.1 38 = v 38 ∧ u.1 39 = v 39) (fun u => YW cy y0 r u.1 u.2.1 u.2.2.1 u.2.2.2) := by
  refine ctI_of (by decide) (Nat.le_of_ble_eq_true rfl) (fun p e s m below meth c A ls Q hx hb hml hts hown hE hP hD hA hl ret => ?_)
  have hM_v : KV [] v v := fun _ _ => rfl
  have hA_f : KF [7, 8] f f := fun _ _ => rfl
  have hown : s.vm.findClass RX11 = some m.cls := hown
  have hS : va_S A s.heap s.heap [] := va_S.rf
  have hl : lv_has ls 4 [(0, .ref y0), (1, .int p1)] := hl
  refine lv_iconst (v := 0) hx hb dX11_menFor_0 rfl ?_
  refine lv_istore_n (lv' := [(2, .int 0), (0, .ref y0), (1, .int p1)]) hx hb dX11_menFor_1 rfl hl (Nat.le_of_ble_eq_true rfl) rfl (fun ls hl => ?_)
  refine lv_iconst (v := 0) hx hb dX11_menFor_2 rfl ?_
  refine lv_istore_n (lv' := [(3, .int 0), (2, .int 0), (0, .ref y0), (1, .int p1)]) hx hb dX11_menFor_3 rfl hl (Nat.le_of_ble_eq_true rfl) rfl (fun ls hl => ?_)
  have lp1 : ∀ (n1 : Nat) (l2_1 : Int32) (l3_1 : Int32) (v1 : Nat → Int32) (f1 : Nat → Nat → Int32) (w1 : Int64) (g1 : Nat → Int64), YI v1 → YC f1 → progOK (f1 4) (f1 5) (v1 9).toInt.toNat → v1 0 = (v 0) → v1 1 = (v 1) → v1 2 = (v 2) → v1 3 = (v 3) → v1 4 = (v 4) → v1 5 = (v 5) → v1 8 = (v 8) → v1 9 = (v 9) → v1 10 = (v 10) → v1 13 = (v 13) → v1 14 = (v 14) → v1 15 = (v 15) → v1 17 = (v 17) → v1 18 = (v 18) → v1 24 = (v 24) → v1 25 = (v 25) → v1 35 = (v 35) → v1 36 = (v 36) → v1 38 = (v 38) → v1 39 = (v 39) → ((0 : Int) ≤ l3_1.toInt ∧ l3_1.toInt ≤ 2147483647) → KV [] v1 v → KF [7, 8] f1 f → (2147483647 - l3_1.toInt).toNat < n1 → ∀ (H : Heap) (locs : List Loc) (ls : Array Slot), va_P (dC, dI) vwCl (YW cy y0 r v1 f1 w1 g1) H → va_D A (YW cy y0 r v1 f1 w1 g1) → va_S A s.heap H locs → lv_has ls 4 [(3, .int l3_1), (2, .int l2_1), (0, .ref y0), (1, .int p1)] → W p l e { frames := 5, cells := 0, slots := 0, locals := 148 } s m ([.ref y0, .int p1] : List Value).toArray below meth c H locs 0 0 Q (F0 m 4 ls []) := by
    intro n1
    induction n1 with
    | zero => intro l2_1 l3_1 v1 f1 w1 g1 hIv1 hCf1 hRf1 hq0_v1 hq1_v1 hq2_v1 hq3_v1 hq4_v1 hq5_v1 hq8_v1 hq9_v1 hq10_v1 hq13_v1 hq14_v1 hq15_v1 hq17_v1 hq18_v1 hq24_v1 hq25_v1 hq35_v1 hq36_v1 hq38_v1 hq39_v1 hr3_1 hM_v1 hA_f1 hm; exact absurd hm (Nat.not_lt_zero _)
    | succ n1 ih1 =>
      intro l2_1 l3_1 v1 f1 w1 g1 hIv1 hCf1 hRf1 hq0_v1 hq1_v1 hq2_v1 hq3_v1 hq4_v1 hq5_v1 hq8_v1 hq9_v1 hq10_v1 hq13_v1 hq14_v1 hq15_v1 hq17_v1 hq18_v1 hq24_v1 hq25_v1 hq35_v1 hq36_v1 hq38_v1 hq39_v1 hr3_1 hM_v1 hA_f1 hm1 H locs ls hP hD hS hl
      refine lv_iload_n hx hb dX11_menFor_4 rfl (lv_at hl 0 rfl) ?_
      refine lv_aload_n hx hb dX11_menFor_5 rfl (lv_at hl 2 rfl) ?_
      refine va_get (D := (dC, dI)) (ci := 11) (v := .int (v1 24)) (C := RX11) (T := TX11) (N := 79) hx hb hts inB_11 hown hE.1 hP 0 rfl rfl 48 (Nat.le_of_ble_eq_true rfl) (hts _ k_1368) (fun _ h9 => h9) rfl dX11_menFor_6 ?_
      refine tI (y := (v 24)) hq24_v1 ?_
      have b24_v : 0 ≤ (v 24).toInt ∧ (v 24).toInt ≤ 6 := Yb_24 hIv.1
      refine lv_icmp_ge (tgt := 30) hx hb dX11_menFor_9 rfl (fun c2 => ?_) (fun c2 => ?_)
      · skip
        refine lv_iload_n hx hb dX11_menFor_30 rfl (lv_at hl 1 rfl) ?_
        exact ret l2_1 (v1, f1, w1, g1) _ _ _ _ _ _ rfl ⟨hM_v1, hA_f1, hIv1, hCf1, hRf1, (show v1 0 = v 0 from hq0_v1), (show v1 1 = v 1 from hq1_v1), (show v1 2 = v 2 from hq2_v1), (show v1 3 = v 3 from hq3_v1), (show v1 4 = v 4 from hq4_v1), (show v1 5 = v 5 from hq5_v1), (show v1 8 = v 8 from hq8_v1), (show v1 9 = v 9 from hq9_v1), (show v1 10 = v 10 from hq10_v1), (show v1 13 = v 13 from hq13_v1), (show v1 14 = v 14 from hq14_v1), (show v1 15 = v 15 from hq15_v1), (show v1 17 = v 17 from hq17_v1), (show v1 18 = v 18 from hq18_v1), (show v1 24 = v 24 from hq24_v1), (show v1 25 = v 25 from hq25_v1), (show v1 35 = v 35 from hq35_v1), (show v1 36 = v 36 from hq36_v1), (show v1 38 = v 38 from hq38_v1), (show v1 39 = v 39 from hq39_v1)⟩ hP hD hS dX11_menFor_31 (Nat.le_refl _) (Nat.le_refl _)
      · skip
        have zc2 : ¬ ((v 24).toInt ≤ l3_1.toInt) := zMn rfl rfl c2
        refine lv_iload_n hx hb dX11_menFor_12 rfl (lv_at hl 1 rfl) ?_
        refine lv_aload_n hx hb dX11_menFor_13 rfl (lv_at hl 2 rfl) ?_
        refine lv_iload_n hx hb dX11_menFor_14 rfl (lv_at hl 0 rfl) ?_
        refine lv_iload_n hx hb dX11_menFor_15 rfl (lv_at hl 3 rfl) ?_
        refine cbVi (n := 2) (rest := [.int l2_1]) hx hb hml hown hts hE hP hD hS hA (sY_X11_fits_1 0 l dC dI cy y0 r l3_1 p1 v1 f1 w1 g1 hIv1 hCf1 hRf1 ⟨show (0 : Int) ≤ l3_1.toInt from om_39 hr3_1, show l3_1.toInt ≤ (5 : Int) from om_100 b24_v zc2⟩ ⟨show (-1 : Int) ≤ p1.toInt from om_742 hp1, show p1.toInt ≤ (5 : Int) from om_215 hp1⟩) k_1747 k_1749 k_73 k_114 k_1750 hd_yX11_fits ⟨Nat.le_of_ble_eq_true rfl, Nat.le_of_ble_eq_true rfl⟩ 0 11 rfl rfl (rfl) hl.1 rfl (Nat.le_of_ble_eq_true rfl) dX11_menFor_16 (fun r7 u H locs hw hP hD hS => ?_)
        obtain ⟨hG8, hw⟩ := hw
        obtain ⟨v9, f10, w11, g12⟩ := u
        obtain ⟨kV_v9, kF_f10, hIv9, hCf10, hRf10, hk0_v9, hk1_v9, hk2_v9, hk3_v9, hk4_v9, hk5_v9, hk8_v9, hk9_v9, hk10_v9, hk13_v9, hk14_v9, hk15_v9, hk17_v9, hk18_v9, hk24_v9, hk25_v9, hk35_v9, hk36_v9, hk38_v9, hk39_v9, hw⟩ := hw
        have hM_v9 : KV [] v9 v := KV.tr kV_v9 hM_v1 rfl
        have hA_f10 : KF [7, 8] f10 f := KF.tr kF_f10 hA_f1 rfl
        have hP : va_P (dC, dI) vwCl (YW cy y0 r v9 f10 w11 g12) H := hP
        have hD : va_D A (YW cy y0 r v9 f10 w11 g12) := hD
        have hq0_v9 : v9 0 = (v 0) := hk0_v9.trans hq0_v1
        have hq1_v9 : v9 1 = (v 1) := hk1_v9.trans hq1_v1
        have hq2_v9 : v9 2 = (v 2) := hk2_v9.trans hq2_v1
        have hq3_v9 : v9 3 = (v 3) := hk3_v9.trans hq3_v1
        have hq4_v9 : v9 4 = (v 4) := hk4_v9.trans hq4_v1
        have hq5_v9 : v9 5 = (v 5) := hk5_v9.trans hq5_v1
        have hq8_v9 : v9 8 = (v 8) := hk8_v9.trans hq8_v1
        have hq9_v9 : v9 9 = (v 9) := hk9_v9.trans hq9_v1
        have hq10_v9 : v9 10 = (v 10) := hk10_v9.trans hq10_v1
        have hq13_v9 : v9 13 = (v 13) := hk13_v9.trans hq13_v1
        have hq14_v9 : v9 14 = (v 14) := hk14_v9.trans hq14_v1
        have hq15_v9 : v9 15 = (v 15) := hk15_v9.trans hq15_v1
        have hq17_v9 : v9 17 = (v 17) := hk17_v9.trans hq17_v1
        have hq18_v9 : v9 18 = (v 18) := hk18_v9.trans hq18_v1
        have hq24_v9 : v9 24 = (v 24) := hk24_v9.trans hq24_v1
        have hq25_v9 : v9 25 = (v 25) := hk25_v9.trans hq25_v1
        have hq35_v9 : v9 35 = (v 35) := hk35_v9.trans hq35_v1
        have hq36_v9 : v9 36 = (v 36) := hk36_v9.trans hq36_v1
        have hq38_v9 : v9 38 = (v 38) := hk38_v9.trans hq38_v1
        have hq39_v9 : v9 39 = (v 39) := hk39_v9.trans hq39_v1
        rcases hw with ⟨g13⟩ | ⟨g13⟩
        · skip
          subst g13
          refine cbSi (n := 1) (rest := [.int l2_1]) hx hb hml hown hts hE hP hD hS hA (sY_X11_truth_1 0 l dC dI cy y0 r 1 v9 f10 w11 g12 hIv9 hCf10 hRf10 ) k_1761 k_1762 k_114 k_1763 he_yX11_truth ⟨Nat.le_of_ble_eq_true rfl, Nat.le_of_ble_eq_true rfl⟩ (rfl) hl.1 rfl (Nat.le_of_ble_eq_true rfl) dX11_menFor_19 (fun r15 u H locs hw hP hD hS => ?_)
          obtain ⟨hG16, hw⟩ := hw
          refine lv_iadd hx hb dX11_menFor_22 ?_
          refine lv_topi (fun t17 et17 => ?_)
          refine lv_istore_n (lv' := [(2, .int t17), (3, .int l3_1), (0, .ref y0), (1, .int p1)]) hx hb dX11_menFor_23 rfl hl (Nat.le_of_ble_eq_true rfl) rfl (fun ls hl => ?_)
          obtain ⟨t18, et18⟩ : ∃ y : Int32, y = l3_1 + 1 := ⟨_, rfl⟩
          have zt18 : t18.toInt = l3_1.toInt + 1 := (congrArg Int32.toInt et18).trans (add_i rfl tc_1 (om_41 hr3_1) (om_187 b24_v zc2))
          refine lv_iinc (v := t18) (lv' := [(3, .int t18), (2, .int t17), (0, .ref y0), (1, .int p1)]) hx hb dX11_menFor_24 hl (k := 1) rfl et18.symm (Nat.le_of_ble_eq_true rfl) rfl (fun ls hl => ?_)
          refine lv_goto (tgt := 4) hx hb dX11_menFor_27 rfl ?_
          have rg19 := fb_rng t18
          exact ih1 t17 t18 v9 f10 w11 g12 hIv9 hCf10 hRf10 hq0_v9 hq1_v9 hq2_v9 hq3_v9 hq4_v9 hq5_v9 hq8_v9 hq9_v9 hq10_v9 hq13_v9 hq14_v9 hq15_v9 hq17_v9 hq18_v9 hq24_v9 hq25_v9 hq35_v9 hq36_v9 hq38_v9 hq39_v9 ⟨show (0 : Int) ≤ t18.toInt from om_43 hr3_1 zt18, show t18.toInt ≤ (2147483647 : Int) from om_44 rg19⟩ hM_v9 hA_f10 (show (2147483647 - t18.toInt).toNat < n1 from om_33 hm1 zt18 rg19) _ _ _ hP hD hS (lv_sub hl [0, 1, 2, 3] rfl)
        · skip
          subst g13
          refine cbSi (n := 1) (rest := [.int l2_1]) hx hb hml hown hts hE hP hD hS hA (sY_X11_truth_1 0 l dC dI cy y0 r 0 v9 f10 w11 g12 hIv9 hCf10 hRf10 ) k_1761 k_1762 k_114 k_1763 he_yX11_truth ⟨Nat.le_of_ble_eq_true rfl, Nat.le_of_ble_eq_true rfl⟩ (rfl) hl.1 rfl (Nat.le_of_ble_eq_true rfl) dX11_menFor_19 (fun r21 u H locs hw hP hD hS => ?_)
          obtain ⟨hG22, hw⟩ := hw
          refine lv_iadd hx hb dX11_menFor_22 ?_
          refine lv_topi (fun t23 et23 => ?_)
          refine lv_istore_n (lv' := [(2, .int t23), (3, .int l3_1), (0, .ref y0), (1, .int p1)]) hx hb dX11_menFor_23 rfl hl (Nat.le_of_ble_eq_true rfl) rfl (fun ls hl => ?_)
          obtain ⟨t24, et24⟩ : ∃ y : Int32, y = l3_1 + 1 := ⟨_, rfl⟩
          have zt24 : t24.toInt = l3_1.toInt + 1 := (congrArg Int32.toInt et24).trans (add_i rfl tc_1 (om_41 hr3_1) (om_187 b24_v zc2))
          refine lv_iinc (v := t24) (lv' := [(3, .int t24), (2, .int t23), (0, .ref y0), (1, .int p1)]) hx hb dX11_menFor_24 hl (k := 1) rfl et24.symm (Nat.le_of_ble_eq_true rfl) rfl (fun ls hl => ?_)
          refine lv_goto (tgt := 4) hx hb dX11_menFor_27 rfl ?_
          have rg25 := fb_rng t24
          exact ih1 t23 t24 v9 f10 w11 g12 hIv9 hCf10 hRf10 hq0_v9 hq1_v9 hq2_v9 hq3_v9 hq4_v9 hq5_v9 hq8_v9 hq9_v9 hq10_v9 hq13_v9 hq14_v9 hq15_v9 hq17_v9 hq18_v9 hq24_v9 hq25_v9 hq35_v9 hq36_v9 hq38_v9 hq39_v9 ⟨show (0 : Int) ≤ t24.toInt from om_43 hr3_1 zt24, show t24.toInt ≤ (2147483647 : Int) from om_44 rg25⟩ hM_v9 hA_f10 (show (2147483647 - t24.toInt).toNat < n1 from om_33 hm1 zt24 rg25) _ _ _ hP hD hS (lv_sub hl [0, 1, 2, 3] rfl)
  exact lp1 _ 0 0 v f w g hIv hCf hRf rfl rfl rfl rfl rfl rfl rfl rfl rfl rfl rfl rfl rfl rfl rfl rfl rfl rfl rfl rfl ⟨by decide, by decide⟩ hM_v hA_f (Nat.lt_succ_self _) _ _ _ hP hD hS (lv_sub hl [0, 1, 2, 3] rfl)
set_option maxHeartbeats 4000000 in
set_option maxRecDepth 100000 in
theorem sY_X11_rags_1 (l : Launch) (dC : Nat → ClassId) (dI : Nat → Nat → Nat) (cy : Nat → ClassId) (y0 : Nat) (r : Nat → Nat)  (v : Nat → Int32) (f : Nat → Nat → Int32) (w : Int64) (g : Nat → Int64) (hIv : YI v) (hCf : YC f) (hRf : progOK (f 4) (f 5) (v 9).toInt.toNat)  : ctI l (dC, dI) cy yX11_rags cX11_rags 3 .int 6 171 0 0 ((Nat → Int32) × (Nat → Nat → Int32) × (Int64) × (Nat → Int64)) [.ref y0] (YW cy y0 r v f w g) (fun r u => KV [] u.1 v ∧ KF [7, 8, 24] u.2.1 f ∧ YI u.1 ∧ YC u.2.1 ∧ progOK (u.2.1 4) (u.2.1 5) (u.1 9).toInt.toNat ∧ u.1 0 = v 0 ∧ u.1 1 = v 1 ∧ u.1 2 = v 2 ∧ u.1 3 = v 3 ∧ u.1 4 = v 4 ∧ u.1 5 = v 5 ∧ u.1 8 = v 8 ∧ u.1 9 = v 9 ∧ u.1 10 = v 10 ∧ u.1 13 = v 13 ∧ u.1 14 = v 14 ∧ u.1 15 = v 15 ∧ u.1 17 = v 17 ∧ u.1 18 = v 18 ∧ u.1 24 = v 24 ∧ u.1 25 = v 25 ∧ u.1 35 = v 35 ∧ u.1 36 = v 36 ∧ u.1 38 = v 38 ∧ u.1 39 = v 39) (fun u => YW cy y0 r u.1 u.2.1 u.2.2.1 u.2.2.2) := by
  refine ctI_of (by decide) (Nat.le_of_ble_eq_true rfl) (fun p e s m below meth c A ls Q hx hb hml hts hown hE hP hD hA hl ret => ?_)
  have hUv : (v 35).toInt + (v 36).toInt ≤ 40 := hIv.2
  have hM_v : KV [] v v := fun _ _ => rfl
  have hA_f : KF [7, 8, 24] f f := fun _ _ => rfl
  have hown : s.vm.findClass RX11 = some m.cls := hown
  have hS : va_S A s.heap s.heap [] := va_S.rf
  have hl : lv_has ls 3 [(0, .ref y0)] := hl
  refine lv_aload_n hx hb dX11_rags_0 rfl (lv_at hl 0 rfl) ?_
  refine cbVv (n := 0) (rest := []) hx hb hml hown hts hE hP hD hS hA (sY_X11_fill_1 0 l dC dI cy y0 r  v f w g hIv hCf hRf ) k_1739 k_1741 k_71 k_114 k_1742 hd_yX11_fill ⟨Nat.le_of_ble_eq_true rfl, Nat.le_of_ble_eq_true rfl⟩ 0 11 rfl rfl (rfl) hl.1 rfl (Nat.le_of_ble_eq_true rfl) dX11_rags_1 (fun u H locs hw hP hD hS => ?_)
  obtain ⟨hG1, hw⟩ := hw
  obtain ⟨v2, f3, w4, g5⟩ := u
  obtain ⟨kV_v2, kF_f3, hIv2, hCf3, hRf3, hk0_v2, hk1_v2, hk2_v2, hk3_v2, hk4_v2, hk5_v2, hk8_v2, hk9_v2, hk10_v2, hk13_v2, hk14_v2, hk15_v2, hk17_v2, hk18_v2, hk24_v2, hk25_v2, hk35_v2, hk36_v2, hk38_v2, hk39_v2⟩ := hw
  have hM_v2 : KV [] v2 v := KV.tr kV_v2 hM_v rfl
  have hA_f3 : KF [7, 8, 24] f3 f := KF.tr kF_f3 hA_f rfl
  have hP : va_P (dC, dI) vwCl (YW cy y0 r v2 f3 w4 g5) H := hP
  have hD : va_D A (YW cy y0 r v2 f3 w4 g5) := hD
  have hUv2 : (v2 35).toInt + (v2 36).toInt ≤ 40 := hIv2.2
  have hq0_v2 : v2 0 = (v 0) := hk0_v2
  have hq1_v2 : v2 1 = (v 1) := hk1_v2
  have hq2_v2 : v2 2 = (v 2) := hk2_v2
  have hq3_v2 : v2 3 = (v 3) := hk3_v2
  have hq4_v2 : v2 4 = (v 4) := hk4_v2
  have hq5_v2 : v2 5 = (v 5) := hk5_v2
  have hq8_v2 : v2 8 = (v 8) := hk8_v2
  have hq9_v2 : v2 9 = (v 9) := hk9_v2
  have zq9_v2 := congrArg Int32.toInt hq9_v2
  have hq10_v2 : v2 10 = (v 10) := hk10_v2
  have hq13_v2 : v2 13 = (v 13) := hk13_v2
  have hq14_v2 : v2 14 = (v 14) := hk14_v2
  have hq15_v2 : v2 15 = (v 15) := hk15_v2
  have hq17_v2 : v2 17 = (v 17) := hk17_v2
  have hq18_v2 : v2 18 = (v 18) := hk18_v2
  have hq24_v2 : v2 24 = (v 24) := hk24_v2
  have hq25_v2 : v2 25 = (v 25) := hk25_v2
  have hq35_v2 : v2 35 = (v 35) := hk35_v2
  have hq36_v2 : v2 36 = (v 36) := hk36_v2
  have hq38_v2 : v2 38 = (v 38) := hk38_v2
  have hq39_v2 : v2 39 = (v 39) := hk39_v2
  refine lv_iconst (v := 0) hx hb dX11_rags_4 rfl ?_
  refine lv_istore_n (lv' := [(1, .int 0), (0, .ref y0)]) hx hb dX11_rags_5 rfl hl (Nat.le_of_ble_eq_true rfl) rfl (fun ls hl => ?_)
  refine lv_iconst (v := 0) hx hb dX11_rags_6 rfl ?_
  refine lv_istore_n (lv' := [(2, .int 0), (1, .int 0), (0, .ref y0)]) hx hb dX11_rags_7 rfl hl (Nat.le_of_ble_eq_true rfl) rfl (fun ls hl => ?_)
  have lp6 : ∀ (n6 : Nat) (l1_6 : Int32) (l2_6 : Int32) (v6 : Nat → Int32) (f6 : Nat → Nat → Int32) (w6 : Int64) (g6 : Nat → Int64), YI v6 → YC f6 → progOK (f6 4) (f6 5) (v6 9).toInt.toNat → v6 0 = (v 0) → v6 1 = (v 1) → v6 2 = (v 2) → v6 3 = (v 3) → v6 4 = (v 4) → v6 5 = (v 5) → v6 8 = (v 8) → v6 9 = (v 9) → v6 10 = (v 10) → v6 13 = (v 13) → v6 14 = (v 14) → v6 15 = (v 15) → v6 17 = (v 17) → v6 18 = (v 18) → v6 24 = (v 24) → v6 25 = (v 25) → v6 35 = (v 35) → v6 36 = (v 36) → v6 38 = (v 38) → v6 39 = (v 39) → ((0 : Int) ≤ l2_6.toInt ∧ l2_6.toInt ≤ 2147483647) → KV [] v6 v → KF [7, 8, 24] f6 f → (2147483647 - l2_6.toInt).toNat < n6 → ∀ (H : Heap) (locs : List Loc) (ls : Array Slot), va_P (dC, dI) vwCl (YW cy y0 r v6 f6 w6 g6) H → va_D A (YW cy y0 r v6 f6 w6 g6) → va_S A s.heap H locs → lv_has ls 3 [(2, .int l2_6), (1, .int l1_6), (0, .ref y0)] → W p l e { frames := 6, cells := 0, slots := 0, locals := 171 } s m ([.ref y0] : List Value).toArray below meth c H locs 0 0 Q (F0 m 8 ls []) := by
    intro n6
    induction n6 with
    | zero => intro l1_6 l2_6 v6 f6 w6 g6 hIv6 hCf6 hRf6 hq0_v6 hq1_v6 hq2_v6 hq3_v6 hq4_v6 hq5_v6 hq8_v6 hq9_v6 hq10_v6 hq13_v6 hq14_v6 hq15_v6 hq17_v6 hq18_v6 hq24_v6 hq25_v6 hq35_v6 hq36_v6 hq38_v6 hq39_v6 hr2_6 hM_v6 hA_f6 hm; exact absurd hm (Nat.not_lt_zero _)
    | succ n6 ih6 =>
      intro l1_6 l2_6 v6 f6 w6 g6 hIv6 hCf6 hRf6 hq0_v6 hq1_v6 hq2_v6 hq3_v6 hq4_v6 hq5_v6 hq8_v6 hq9_v6 hq10_v6 hq13_v6 hq14_v6 hq15_v6 hq17_v6 hq18_v6 hq24_v6 hq25_v6 hq35_v6 hq36_v6 hq38_v6 hq39_v6 hr2_6 hM_v6 hA_f6 hm6 H locs ls hP hD hS hl
      have hUv6 : (v6 35).toInt + (v6 36).toInt ≤ 40 := hIv6.2
      have zq9_v6 := congrArg Int32.toInt hq9_v6
      refine lv_iload_n hx hb dX11_rags_8 rfl (lv_at hl 0 rfl) ?_
      refine lv_aload_n hx hb dX11_rags_9 rfl (lv_at hl 2 rfl) ?_
      refine va_get (D := (dC, dI)) (ci := 11) (v := .int (v6 25)) (C := RX11) (T := TX11) (N := 79) hx hb hts inB_11 hown hE.1 hP 0 rfl rfl 49 (Nat.le_of_ble_eq_true rfl) (hts _ k_1369) (fun _ h9 => h9) rfl dX11_rags_10 ?_
      refine tI (y := (v 25)) hq25_v6 ?_
      have b25_v : 0 ≤ (v 25).toInt ∧ (v 25).toInt ≤ 6 := Yb_25 hIv.1
      refine lv_icmp_ge (tgt := 43) hx hb dX11_rags_13 rfl (fun c7 => ?_) (fun c7 => ?_)
      · skip
        refine lv_iload_n hx hb dX11_rags_43 rfl (lv_at hl 1 rfl) ?_
        exact ret l1_6 (v6, f6, w6, g6) _ _ _ _ _ _ rfl ⟨hM_v6, hA_f6, hIv6, hCf6, hRf6, hq0_v6, hq1_v6, hq2_v6, hq3_v6, hq4_v6, hq5_v6, hq8_v6, hq9_v6, hq10_v6, hq13_v6, hq14_v6, hq15_v6, hq17_v6, hq18_v6, hq24_v6, hq25_v6, hq35_v6, hq36_v6, hq38_v6, hq39_v6⟩ hP hD hS dX11_rags_44 (Nat.le_refl _) (Nat.le_refl _)
      · skip
        have zc7 : ¬ ((v 25).toInt ≤ l2_6.toInt) := zMn rfl rfl c7
        have rg10 := fb_rng l2_6
        have rg11 := fb_rng (v 25)
        refine lv_iload_n hx hb dX11_rags_16 rfl (lv_at hl 1 rfl) ?_
        refine lv_aload_n hx hb dX11_rags_17 rfl (lv_at hl 2 rfl) ?_
        refine lv_iload_n hx hb dX11_rags_18 rfl (lv_at hl 0 rfl) ?_
        refine cbVi (n := 1) (rest := [.int l1_6]) hx hb hml hown hts hE hP hD hS hA (sY_X11_menFor_1 l dC dI cy y0 r l2_6 v6 f6 w6 g6 hIv6 hCf6 hRf6 ⟨show (0 : Int) ≤ l2_6.toInt from om_39 hr2_6, show l2_6.toInt ≤ (5 : Int) from om_100 b25_v zc7⟩) k_1968 k_1970 k_95 k_114 k_1971 hd_yX11_menFor ⟨Nat.le_of_ble_eq_true rfl, Nat.le_of_ble_eq_true rfl⟩ 0 11 rfl rfl (rfl) hl.1 rfl (Nat.le_of_ble_eq_true rfl) dX11_rags_19 (fun r12 u H locs hw hP hD hS => ?_)
        obtain ⟨v13, f14, w15, g16⟩ := u
        obtain ⟨kV_v13, kF_f14, hIv13, hCf14, hRf14, hk0_v13, hk1_v13, hk2_v13, hk3_v13, hk4_v13, hk5_v13, hk8_v13, hk9_v13, hk10_v13, hk13_v13, hk14_v13, hk15_v13, hk17_v13, hk18_v13, hk24_v13, hk25_v13, hk35_v13, hk36_v13, hk38_v13, hk39_v13⟩ := hw
        have hM_v13 : KV [] v13 v := KV.tr kV_v13 hM_v6 rfl
        have hA_f14 : KF [7, 8, 24] f14 f := KF.tr kF_f14 hA_f6 rfl
        have hP : va_P (dC, dI) vwCl (YW cy y0 r v13 f14 w15 g16) H := hP
        have hD : va_D A (YW cy y0 r v13 f14 w15 g16) := hD
        have hUv13 : (v13 35).toInt + (v13 36).toInt ≤ 40 := hIv13.2
        have hq0_v13 : v13 0 = (v 0) := hk0_v13.trans hq0_v6
        have hq1_v13 : v13 1 = (v 1) := hk1_v13.trans hq1_v6
        have hq2_v13 : v13 2 = (v 2) := hk2_v13.trans hq2_v6
        have hq3_v13 : v13 3 = (v 3) := hk3_v13.trans hq3_v6
        have hq4_v13 : v13 4 = (v 4) := hk4_v13.trans hq4_v6
        have hq5_v13 : v13 5 = (v 5) := hk5_v13.trans hq5_v6
        have hq8_v13 : v13 8 = (v 8) := hk8_v13.trans hq8_v6
        have hq9_v13 : v13 9 = (v 9) := hk9_v13.trans hq9_v6
        have zq9_v13 := congrArg Int32.toInt hq9_v13
        have hq10_v13 : v13 10 = (v 10) := hk10_v13.trans hq10_v6
        have hq13_v13 : v13 13 = (v 13) := hk13_v13.trans hq13_v6
        have hq14_v13 : v13 14 = (v 14) := hk14_v13.trans hq14_v6
        have hq15_v13 : v13 15 = (v 15) := hk15_v13.trans hq15_v6
        have hq17_v13 : v13 17 = (v 17) := hk17_v13.trans hq17_v6
        have hq18_v13 : v13 18 = (v 18) := hk18_v13.trans hq18_v6
        have hq24_v13 : v13 24 = (v 24) := hk24_v13.trans hq24_v6
        have hq25_v13 : v13 25 = (v 25) := hk25_v13.trans hq25_v6
        have hq35_v13 : v13 35 = (v 35) := hk35_v13.trans hq35_v6
        have hq36_v13 : v13 36 = (v 36) := hk36_v13.trans hq36_v6
        have hq38_v13 : v13 38 = (v 38) := hk38_v13.trans hq38_v6
        have hq39_v13 : v13 39 = (v 39) := hk39_v13.trans hq39_v6
        refine lv_if_ne (tgt := 29) hx hb dX11_rags_22 rfl (fun c17 => ?_) (fun c17 => ?_)
        · skip
          have zc17 : ¬ (r12.toInt = 0) := zEn rfl tc_0 c17
          refine lv_iconst (v := 0) hx hb dX11_rags_29 rfl ?_
          have lt18 : (0 : Int32).toInt = 0 := by decide
          refine cbSi (n := 1) (rest := [.int l1_6]) hx hb hml hown hts hE hP hD hS hA (sY_X11_truth_1 0 l dC dI cy y0 r 0 v13 f14 w15 g16 hIv13 hCf14 hRf14 ) k_1761 k_1762 k_114 k_1763 he_yX11_truth ⟨Nat.le_of_ble_eq_true rfl, Nat.le_of_ble_eq_true rfl⟩ (rfl) hl.1 rfl (Nat.le_of_ble_eq_true rfl) dX11_rags_30 (fun r19 u H locs hw hP hD hS => ?_)
          obtain ⟨hG20, hw⟩ := hw
          have pw_r19 : (0 : Int) ≤ r19.toInt ∧ r19.toInt ≤ 1 := hw
          refine lv_iload_n hx hb dX11_rags_33 rfl (lv_at hl 0 rfl) ?_
          refine lv_ishl hx hb dX11_rags_34 ?_
          refine lv_topi (fun t21 et21 => ?_)
          refine lv_ior hx hb dX11_rags_35 ?_
          refine lv_topi (fun t22 et22 => ?_)
          refine lv_istore_n (lv' := [(1, .int t22), (2, .int l2_6), (0, .ref y0)]) hx hb dX11_rags_36 rfl hl (Nat.le_of_ble_eq_true rfl) rfl (fun ls hl => ?_)
          obtain ⟨t23, et23⟩ : ∃ y : Int32, y = l2_6 + 1 := ⟨_, rfl⟩
          have zt23 : t23.toInt = l2_6.toInt + 1 := (congrArg Int32.toInt et23).trans (add_i rfl tc_1 (om_41 hr2_6) (om_187 b25_v zc7))
          refine lv_iinc (v := t23) (lv' := [(2, .int t23), (1, .int t22), (0, .ref y0)]) hx hb dX11_rags_37 hl (k := 1) rfl et23.symm (Nat.le_of_ble_eq_true rfl) rfl (fun ls hl => ?_)
          refine lv_goto (tgt := 8) hx hb dX11_rags_40 rfl ?_
          have rg24 := fb_rng t23
          exact ih6 t22 t23 v13 f14 w15 g16 hIv13 hCf14 hRf14 hq0_v13 hq1_v13 hq2_v13 hq3_v13 hq4_v13 hq5_v13 hq8_v13 hq9_v13 hq10_v13 hq13_v13 hq14_v13 hq15_v13 hq17_v13 hq18_v13 hq24_v13 hq25_v13 hq35_v13 hq36_v13 hq38_v13 hq39_v13 ⟨show (0 : Int) ≤ t23.toInt from om_43 hr2_6 zt23, show t23.toInt ≤ (2147483647 : Int) from om_44 rg24⟩ hM_v13 hA_f14 (show (2147483647 - t23.toInt).toNat < n6 from om_33 hm6 zt23 rg24) _ _ _ hP hD hS (lv_sub hl [0, 1, 2] rfl)
        · skip
          have zc17 : r12.toInt = 0 := zEp rfl tc_0 c17
          refine lv_iconst (v := 1) hx hb dX11_rags_25 rfl ?_
          refine lv_goto (tgt := 30) hx hb dX11_rags_26 rfl ?_
          have lt25 : (1 : Int32).toInt = 1 := by decide
          refine cbSi (n := 1) (rest := [.int l1_6]) hx hb hml hown hts hE hP hD hS hA (sY_X11_truth_1 0 l dC dI cy y0 r 1 v13 f14 w15 g16 hIv13 hCf14 hRf14 ) k_1761 k_1762 k_114 k_1763 he_yX11_truth ⟨Nat.le_of_ble_eq_true rfl, Nat.le_of_ble_eq_true rfl⟩ (rfl) hl.1 rfl (Nat.le_of_ble_eq_true rfl) dX11_rags_30 (fun r26 u H locs hw hP hD hS => ?_)
          obtain ⟨hG27, hw⟩ := hw
          have pw_r26 : (0 : Int) ≤ r26.toInt ∧ r26.toInt ≤ 1 := hw
          refine lv_iload_n hx hb dX11_rags_33 rfl (lv_at hl 0 rfl) ?_
          refine lv_ishl hx hb dX11_rags_34 ?_
          refine lv_topi (fun t28 et28 => ?_)
          refine lv_ior hx hb dX11_rags_35 ?_
          refine lv_topi (fun t29 et29 => ?_)
          refine lv_istore_n (lv' := [(1, .int t29), (2, .int l2_6), (0, .ref y0)]) hx hb dX11_rags_36 rfl hl (Nat.le_of_ble_eq_true rfl) rfl (fun ls hl => ?_)
          obtain ⟨t30, et30⟩ : ∃ y : Int32, y = l2_6 + 1 := ⟨_, rfl⟩
          have zt30 : t30.toInt = l2_6.toInt + 1 := (congrArg Int32.toInt et30).trans (add_i rfl tc_1 (om_41 hr2_6) (om_187 b25_v zc7))
          refine lv_iinc (v := t30) (lv' := [(2, .int t30), (1, .int t29), (0, .ref y0)]) hx hb dX11_rags_37 hl (k := 1) rfl et30.symm (Nat.le_of_ble_eq_true rfl) rfl (fun ls hl => ?_)
          refine lv_goto (tgt := 8) hx hb dX11_rags_40 rfl ?_
          have rg31 := fb_rng t30
          exact ih6 t29 t30 v13 f14 w15 g16 hIv13 hCf14 hRf14 hq0_v13 hq1_v13 hq2_v13 hq3_v13 hq4_v13 hq5_v13 hq8_v13 hq9_v13 hq10_v13 hq13_v13 hq14_v13 hq15_v13 hq17_v13 hq18_v13 hq24_v13 hq25_v13 hq35_v13 hq36_v13 hq38_v13 hq39_v13 ⟨show (0 : Int) ≤ t30.toInt from om_43 hr2_6 zt30, show t30.toInt ≤ (2147483647 : Int) from om_44 rg31⟩ hM_v13 hA_f14 (show (2147483647 - t30.toInt).toNat < n6 from om_33 hm6 zt30 rg31) _ _ _ hP hD hS (lv_sub hl [0, 1, 2] rfl)
  exact lp6 _ 0 0 v2 f3 w4 g5 hIv2 hCf3 hRf3 hq0_v2 hq1_v2 hq2_v2 hq3_v2 hq4_v2 hq5_v2 hq8_v2 hq9_v2 hq10_v2 hq13_v2 hq14_v2 hq15_v2 hq17_v2 hq18_v2 hq24_v2 hq25_v2 hq35_v2 hq36_v2 hq38_v2 hq39_v2 ⟨by decide, by decide⟩ hM_v2 hA_f3 (Nat.lt_succ_self _) _ _ _ hP hD hS (lv_sub hl [0, 1, 2] rfl)
set_option maxHeartbeats 4000000 in
set_option maxRecDepth 100000 in
theorem sY_X11_naked_1 (l : Launch) (dC : Nat → ClassId) (dI : Nat → Nat → Nat) (cy : Nat → ClassId) (y0 : Nat) (r : Nat → Nat)  (v : Nat → Int32) (f : Nat → Nat → Int32) (w : Int64) (g : Nat → Int64) (hIv : YI v) (hCf : YC f) (hRf : progOK (f 4) (f 5) (v 9).toInt.toNat)  : ctI l (dC, dI) cy yX11_naked cX11_naked 3 .int 6 171 0 0 ((Nat → Int32) × (Nat → Nat → Int32) × (Int64) × (Nat → Int64)) [.ref y0] (YW cy y0 r v f w g) (fun r u => KV [] u.1 v ∧ KF [7, 8, 24] u.2.1 f ∧ YI u.1 ∧ YC u.2.1 ∧ progOK (u.2.1 4) (u.2.1 5) (u.1 9).toInt.toNat ∧ u.1 0 = v 0 ∧ u.1 1 = v 1 ∧ u.1 2 = v 2 ∧ u.1 3 = v 3 ∧ u.1 4 = v 4 ∧ u.1 5 = v 5 ∧ u.1 8 = v 8 ∧ u.1 9 = v 9 ∧ u.1 10 = v 10 ∧ u.1 13 = v 13 ∧ u.1 14 = v 14 ∧ u.1 15 = v 15 ∧ u.1 17 = v 17 ∧ u.1 18 = v 18 ∧ u.1 24 = v 24 ∧ u.1 25 = v 25 ∧ u.1 35 = v 35 ∧ u.1 36 = v 36 ∧ u.1 38 = v 38 ∧ u.1 39 = v 39) (fun u => YW cy y0 r u.1 u.2.1 u.2.2.1 u.2.2.2) := by
  refine ctI_of (by decide) (Nat.le_of_ble_eq_true rfl) (fun p e s m below meth c A ls Q hx hb hml hts hown hE hP hD hA hl ret => ?_)
  have hUv : (v 35).toInt + (v 36).toInt ≤ 40 := hIv.2
  have hM_v : KV [] v v := fun _ _ => rfl
  have hA_f : KF [7, 8, 24] f f := fun _ _ => rfl
  have hown : s.vm.findClass RX11 = some m.cls := hown
  have hS : va_S A s.heap s.heap [] := va_S.rf
  have hl : lv_has ls 3 [(0, .ref y0)] := hl
  refine lv_aload_n hx hb dX11_naked_0 rfl (lv_at hl 0 rfl) ?_
  refine cbVv (n := 0) (rest := []) hx hb hml hown hts hE hP hD hS hA (sY_X11_fill_1 0 l dC dI cy y0 r  v f w g hIv hCf hRf ) k_1739 k_1741 k_71 k_114 k_1742 hd_yX11_fill ⟨Nat.le_of_ble_eq_true rfl, Nat.le_of_ble_eq_true rfl⟩ 0 11 rfl rfl (rfl) hl.1 rfl (Nat.le_of_ble_eq_true rfl) dX11_naked_1 (fun u H locs hw hP hD hS => ?_)
  obtain ⟨hG1, hw⟩ := hw
  obtain ⟨v2, f3, w4, g5⟩ := u
  obtain ⟨kV_v2, kF_f3, hIv2, hCf3, hRf3, hk0_v2, hk1_v2, hk2_v2, hk3_v2, hk4_v2, hk5_v2, hk8_v2, hk9_v2, hk10_v2, hk13_v2, hk14_v2, hk15_v2, hk17_v2, hk18_v2, hk24_v2, hk25_v2, hk35_v2, hk36_v2, hk38_v2, hk39_v2⟩ := hw
  have hM_v2 : KV [] v2 v := KV.tr kV_v2 hM_v rfl
  have hA_f3 : KF [7, 8, 24] f3 f := KF.tr kF_f3 hA_f rfl
  have hP : va_P (dC, dI) vwCl (YW cy y0 r v2 f3 w4 g5) H := hP
  have hD : va_D A (YW cy y0 r v2 f3 w4 g5) := hD
  have hUv2 : (v2 35).toInt + (v2 36).toInt ≤ 40 := hIv2.2
  have hq0_v2 : v2 0 = (v 0) := hk0_v2
  have hq1_v2 : v2 1 = (v 1) := hk1_v2
  have hq2_v2 : v2 2 = (v 2) := hk2_v2
  have hq3_v2 : v2 3 = (v 3) := hk3_v2
  have hq4_v2 : v2 4 = (v 4) := hk4_v2
  have hq5_v2 : v2 5 = (v 5) := hk5_v2
  have hq8_v2 : v2 8 = (v 8) := hk8_v2
  have hq9_v2 : v2 9 = (v 9) := hk9_v2
  have zq9_v2 := congrArg Int32.toInt hq9_v2
  have hq10_v2 : v2 10 = (v 10) := hk10_v2
  have hq13_v2 : v2 13 = (v 13) := hk13_v2
  have hq14_v2 : v2 14 = (v 14) := hk14_v2
  have hq15_v2 : v2 15 = (v 15) := hk15_v2
  have hq17_v2 : v2 17 = (v 17) := hk17_v2
  have hq18_v2 : v2 18 = (v 18) := hk18_v2
  have hq24_v2 : v2 24 = (v 24) := hk24_v2
  have hq25_v2 : v2 25 = (v 25) := hk25_v2
  have hq35_v2 : v2 35 = (v 35) := hk35_v2
  have hq36_v2 : v2 36 = (v 36) := hk36_v2
  have hq38_v2 : v2 38 = (v 38) := hk38_v2
  have hq39_v2 : v2 39 = (v 39) := hk39_v2
  refine lv_iconst (v := 0) hx hb dX11_naked_4 rfl ?_
  refine lv_istore_n (lv' := [(1, .int 0), (0, .ref y0)]) hx hb dX11_naked_5 rfl hl (Nat.le_of_ble_eq_true rfl) rfl (fun ls hl => ?_)
  refine lv_iconst (v := 0) hx hb dX11_naked_6 rfl ?_
  refine lv_istore_n (lv' := [(2, .int 0), (1, .int 0), (0, .ref y0)]) hx hb dX11_naked_7 rfl hl (Nat.le_of_ble_eq_true rfl) rfl (fun ls hl => ?_)
  have lp6 : ∀ (n6 : Nat) (l1_6 : Int32) (l2_6 : Int32) (v6 : Nat → Int32) (f6 : Nat → Nat → Int32) (w6 : Int64) (g6 : Nat → Int64), YI v6 → YC f6 → progOK (f6 4) (f6 5) (v6 9).toInt.toNat → v6 0 = (v 0) → v6 1 = (v 1) → v6 2 = (v 2) → v6 3 = (v 3) → v6 4 = (v 4) → v6 5 = (v 5) → v6 8 = (v 8) → v6 9 = (v 9) → v6 10 = (v 10) → v6 13 = (v 13) → v6 14 = (v 14) → v6 15 = (v 15) → v6 17 = (v 17) → v6 18 = (v 18) → v6 24 = (v 24) → v6 25 = (v 25) → v6 35 = (v 35) → v6 36 = (v 36) → v6 38 = (v 38) → v6 39 = (v 39) → ((0 : Int) ≤ l2_6.toInt ∧ l2_6.toInt ≤ 2147483647) → KV [] v6 v → KF [7, 8, 24] f6 f → (2147483647 - l2_6.toInt).toNat < n6 → ∀ (H : Heap) (locs : List Loc) (ls : Array Slot), va_P (dC, dI) vwCl (YW cy y0 r v6 f6 w6 g6) H → va_D A (YW cy y0 r v6 f6 w6 g6) → va_S A s.heap H locs → lv_has ls 3 [(2, .int l2_6), (1, .int l1_6), (0, .ref y0)] → W p l e { frames := 6, cells := 0, slots := 0, locals := 171 } s m ([.ref y0] : List Value).toArray below meth c H locs 0 0 Q (F0 m 8 ls []) := by
    intro n6
    induction n6 with
    | zero => intro l1_6 l2_6 v6 f6 w6 g6 hIv6 hCf6 hRf6 hq0_v6 hq1_v6 hq2_v6 hq3_v6 hq4_v6 hq5_v6 hq8_v6 hq9_v6 hq10_v6 hq13_v6 hq14_v6 hq15_v6 hq17_v6 hq18_v6 hq24_v6 hq25_v6 hq35_v6 hq36_v6 hq38_v6 hq39_v6 hr2_6 hM_v6 hA_f6 hm; exact absurd hm (Nat.not_lt_zero _)
    | succ n6 ih6 =>
      intro l1_6 l2_6 v6 f6 w6 g6 hIv6 hCf6 hRf6 hq0_v6 hq1_v6 hq2_v6 hq3_v6 hq4_v6 hq5_v6 hq8_v6 hq9_v6 hq10_v6 hq13_v6 hq14_v6 hq15_v6 hq17_v6 hq18_v6 hq24_v6 hq25_v6 hq35_v6 hq36_v6 hq38_v6 hq39_v6 hr2_6 hM_v6 hA_f6 hm6 H locs ls hP hD hS hl
      have hUv6 : (v6 35).toInt + (v6 36).toInt ≤ 40 := hIv6.2
      have zq9_v6 := congrArg Int32.toInt hq9_v6
      refine lv_iload_n hx hb dX11_naked_8 rfl (lv_at hl 0 rfl) ?_
      refine lv_aload_n hx hb dX11_naked_9 rfl (lv_at hl 2 rfl) ?_
      refine va_get (D := (dC, dI)) (ci := 11) (v := .int (v6 24)) (C := RX11) (T := TX11) (N := 79) hx hb hts inB_11 hown hE.1 hP 0 rfl rfl 48 (Nat.le_of_ble_eq_true rfl) (hts _ k_1368) (fun _ h9 => h9) rfl dX11_naked_10 ?_
      refine tI (y := (v 24)) hq24_v6 ?_
      have b24_v : 0 ≤ (v 24).toInt ∧ (v 24).toInt ≤ 6 := Yb_24 hIv.1
      refine lv_icmp_ge (tgt := 43) hx hb dX11_naked_13 rfl (fun c7 => ?_) (fun c7 => ?_)
      · skip
        refine lv_iload_n hx hb dX11_naked_43 rfl (lv_at hl 1 rfl) ?_
        exact ret l1_6 (v6, f6, w6, g6) _ _ _ _ _ _ rfl ⟨hM_v6, hA_f6, hIv6, hCf6, hRf6, hq0_v6, hq1_v6, hq2_v6, hq3_v6, hq4_v6, hq5_v6, hq8_v6, hq9_v6, hq10_v6, hq13_v6, hq14_v6, hq15_v6, hq17_v6, hq18_v6, hq24_v6, hq25_v6, hq35_v6, hq36_v6, hq38_v6, hq39_v6⟩ hP hD hS dX11_naked_44 (Nat.le_refl _) (Nat.le_refl _)
      · skip
        have zc7 : ¬ ((v 24).toInt ≤ l2_6.toInt) := zMn rfl rfl c7
        have rg10 := fb_rng l2_6
        have rg11 := fb_rng (v 24)
        refine lv_iload_n hx hb dX11_naked_16 rfl (lv_at hl 1 rfl) ?_
        refine lv_aload_n hx hb dX11_naked_17 rfl (lv_at hl 2 rfl) ?_
        refine lv_iload_n hx hb dX11_naked_18 rfl (lv_at hl 0 rfl) ?_
        refine cbVi (n := 1) (rest := [.int l1_6]) hx hb hml hown hts hE hP hD hS hA (sY_X11_coatsFor_1 l dC dI cy y0 r l2_6 v6 f6 w6 g6 hIv6 hCf6 hRf6 ⟨show (0 : Int) ≤ l2_6.toInt from om_39 hr2_6, show l2_6.toInt ≤ (5 : Int) from om_100 b24_v zc7⟩) k_1743 k_1745 k_72 k_114 k_1746 hd_yX11_coatsFor ⟨Nat.le_of_ble_eq_true rfl, Nat.le_of_ble_eq_true rfl⟩ 0 11 rfl rfl (rfl) hl.1 rfl (Nat.le_of_ble_eq_true rfl) dX11_naked_19 (fun r12 u H locs hw hP hD hS => ?_)
        obtain ⟨v13, f14, w15, g16⟩ := u
        obtain ⟨kV_v13, kF_f14, hIv13, hCf14, hRf14, hk0_v13, hk1_v13, hk2_v13, hk3_v13, hk4_v13, hk5_v13, hk8_v13, hk9_v13, hk10_v13, hk13_v13, hk14_v13, hk15_v13, hk17_v13, hk18_v13, hk24_v13, hk25_v13, hk35_v13, hk36_v13, hk38_v13, hk39_v13⟩ := hw
        have hM_v13 : KV [] v13 v := KV.tr kV_v13 hM_v6 rfl
        have hA_f14 : KF [7, 8, 24] f14 f := KF.tr kF_f14 hA_f6 rfl
        have hP : va_P (dC, dI) vwCl (YW cy y0 r v13 f14 w15 g16) H := hP
        have hD : va_D A (YW cy y0 r v13 f14 w15 g16) := hD
        have hUv13 : (v13 35).toInt + (v13 36).toInt ≤ 40 := hIv13.2
        have hq0_v13 : v13 0 = (v 0) := hk0_v13.trans hq0_v6
        have hq1_v13 : v13 1 = (v 1) := hk1_v13.trans hq1_v6
        have hq2_v13 : v13 2 = (v 2) := hk2_v13.trans hq2_v6
        have hq3_v13 : v13 3 = (v 3) := hk3_v13.trans hq3_v6
        have hq4_v13 : v13 4 = (v 4) := hk4_v13.trans hq4_v6
        have hq5_v13 : v13 5 = (v 5) := hk5_v13.trans hq5_v6
        have hq8_v13 : v13 8 = (v 8) := hk8_v13.trans hq8_v6
        have hq9_v13 : v13 9 = (v 9) := hk9_v13.trans hq9_v6
        have zq9_v13 := congrArg Int32.toInt hq9_v13
        have hq10_v13 : v13 10 = (v 10) := hk10_v13.trans hq10_v6
        have hq13_v13 : v13 13 = (v 13) := hk13_v13.trans hq13_v6
        have hq14_v13 : v13 14 = (v 14) := hk14_v13.trans hq14_v6
        have hq15_v13 : v13 15 = (v 15) := hk15_v13.trans hq15_v6
        have hq17_v13 : v13 17 = (v 17) := hk17_v13.trans hq17_v6
        have hq18_v13 : v13 18 = (v 18) := hk18_v13.trans hq18_v6
        have hq24_v13 : v13 24 = (v 24) := hk24_v13.trans hq24_v6
        have hq25_v13 : v13 25 = (v 25) := hk25_v13.trans hq25_v6
        have hq35_v13 : v13 35 = (v 35) := hk35_v13.trans hq35_v6
        have hq36_v13 : v13 36 = (v 36) := hk36_v13.trans hq36_v6
        have hq38_v13 : v13 38 = (v 38) := hk38_v13.trans hq38_v6
        have hq39_v13 : v13 39 = (v 39) := hk39_v13.trans hq39_v6
        refine lv_if_ne (tgt := 29) hx hb dX11_naked_22 rfl (fun c17 => ?_) (fun c17 => ?_)
        · skip
          have zc17 : ¬ (r12.toInt = 0) := zEn rfl tc_0 c17
          refine lv_iconst (v := 0) hx hb dX11_naked_29 rfl ?_
          have lt18 : (0 : Int32).toInt = 0 := by decide
          refine cbSi (n := 1) (rest := [.int l1_6]) hx hb hml hown hts hE hP hD hS hA (sY_X11_truth_1 0 l dC dI cy y0 r 0 v13 f14 w15 g16 hIv13 hCf14 hRf14 ) k_1761 k_1762 k_114 k_1763 he_yX11_truth ⟨Nat.le_of_ble_eq_true rfl, Nat.le_of_ble_eq_true rfl⟩ (rfl) hl.1 rfl (Nat.le_of_ble_eq_true rfl) dX11_naked_30 (fun r19 u H locs hw hP hD hS => ?_)
          obtain ⟨hG20, hw⟩ := hw
          have pw_r19 : (0 : Int) ≤ r19.toInt ∧ r19.toInt ≤ 1 := hw
          refine lv_iload_n hx hb dX11_naked_33 rfl (lv_at hl 0 rfl) ?_
          refine lv_ishl hx hb dX11_naked_34 ?_
          refine lv_topi (fun t21 et21 => ?_)
          refine lv_ior hx hb dX11_naked_35 ?_
          refine lv_topi (fun t22 et22 => ?_)
          refine lv_istore_n (lv' := [(1, .int t22), (2, .int l2_6), (0, .ref y0)]) hx hb dX11_naked_36 rfl hl (Nat.le_of_ble_eq_true rfl) rfl (fun ls hl => ?_)
          obtain ⟨t23, et23⟩ : ∃ y : Int32, y = l2_6 + 1 := ⟨_, rfl⟩
          have zt23 : t23.toInt = l2_6.toInt + 1 := (congrArg Int32.toInt et23).trans (add_i rfl tc_1 (om_41 hr2_6) (om_187 b24_v zc7))
          refine lv_iinc (v := t23) (lv' := [(2, .int t23), (1, .int t22), (0, .ref y0)]) hx hb dX11_naked_37 hl (k := 1) rfl et23.symm (Nat.le_of_ble_eq_true rfl) rfl (fun ls hl => ?_)
          refine lv_goto (tgt := 8) hx hb dX11_naked_40 rfl ?_
          have rg24 := fb_rng t23
          exact ih6 t22 t23 v13 f14 w15 g16 hIv13 hCf14 hRf14 hq0_v13 hq1_v13 hq2_v13 hq3_v13 hq4_v13 hq5_v13 hq8_v13 hq9_v13 hq10_v13 hq13_v13 hq14_v13 hq15_v13 hq17_v13 hq18_v13 hq24_v13 hq25_v13 hq35_v13 hq36_v13 hq38_v13 hq39_v13 ⟨show (0 : Int) ≤ t23.toInt from om_43 hr2_6 zt23, show t23.toInt ≤ (2147483647 : Int) from om_44 rg24⟩ hM_v13 hA_f14 (show (2147483647 - t23.toInt).toNat < n6 from om_33 hm6 zt23 rg24) _ _ _ hP hD hS (lv_sub hl [0, 1, 2] rfl)
        · skip
          have zc17 : r12.toInt = 0 := zEp rfl tc_0 c17
          refine lv_iconst (v := 1) hx hb dX11_naked_25 rfl ?_
          refine lv_goto (tgt := 30) hx hb dX11_naked_26 rfl ?_
          have lt25 : (1 : Int32).toInt = 1 := by decide
          refine cbSi (n := 1) (rest := [.int l1_6]) hx hb hml hown hts hE hP hD hS hA (sY_X11_truth_1 0 l dC dI cy y0 r 1 v13 f14 w15 g16 hIv13 hCf14 hRf14 ) k_1761 k_1762 k_114 k_1763 he_yX11_truth ⟨Nat.le_of_ble_eq_true rfl, Nat.le_of_ble_eq_true rfl⟩ (rfl) hl.1 rfl (Nat.le_of_ble_eq_true rfl) dX11_naked_30 (fun r26 u H locs hw hP hD hS => ?_)
          obtain ⟨hG27, hw⟩ := hw
          have pw_r26 : (0 : Int) ≤ r26.toInt ∧ r26.toInt ≤ 1 := hw
          refine lv_iload_n hx hb dX11_naked_33 rfl (lv_at hl 0 rfl) ?_
          refine lv_ishl hx hb dX11_naked_34 ?_
          refine lv_topi (fun t28 et28 => ?_)
          refine lv_ior hx hb dX11_naked_35 ?_
          refine lv_topi (fun t29 et29 => ?_)
          refine lv_istore_n (lv' := [(1, .int t29), (2, .int l2_6), (0, .ref y0)]) hx hb dX11_naked_36 rfl hl (Nat.le_of_ble_eq_true rfl) rfl (fun ls hl => ?_)
          obtain ⟨t30, et30⟩ : ∃ y : Int32, y = l2_6 + 1 := ⟨_, rfl⟩
          have zt30 : t30.toInt = l2_6.toInt + 1 := (congrArg Int32.toInt et30).trans (add_i rfl tc_1 (om_41 hr2_6) (om_187 b24_v zc7))
          refine lv_iinc (v := t30) (lv' := [(2, .int t30), (1, .int t29), (0, .ref y0)]) hx hb dX11_naked_37 hl (k := 1) rfl et30.symm (Nat.le_of_ble_eq_true rfl) rfl (fun ls hl => ?_)
          refine lv_goto (tgt := 8) hx hb dX11_naked_40 rfl ?_
          have rg31 := fb_rng t30
          exact ih6 t29 t30 v13 f14 w15 g16 hIv13 hCf14 hRf14 hq0_v13 hq1_v13 hq2_v13 hq3_v13 hq4_v13 hq5_v13 hq8_v13 hq9_v13 hq10_v13 hq13_v13 hq14_v13 hq15_v13 hq17_v13 hq18_v13 hq24_v13 hq25_v13 hq35_v13 hq36_v13 hq38_v13 hq39_v13 ⟨show (0 : Int) ≤ t30.toInt from om_43 hr2_6 zt30, show t30.toInt ≤ (2147483647 : Int) from om_44 rg31⟩ hM_v13 hA_f14 (show (2147483647 - t30.toInt).toNat < n6 from om_33 hm6 zt30 rg31) _ _ _ hP hD hS (lv_sub hl [0, 1, 2] rfl)
  exact lp6 _ 0 0 v2 f3 w4 g5 hIv2 hCf3 hRf3 hq0_v2 hq1_v2 hq2_v2 hq3_v2 hq4_v2 hq5_v2 hq8_v2 hq9_v2 hq10_v2 hq13_v2 hq14_v2 hq15_v2 hq17_v2 hq18_v2 hq24_v2 hq25_v2 hq35_v2 hq36_v2 hq38_v2 hq39_v2 ⟨by decide, by decide⟩ hM_v2 hA_f3 (Nat.lt_succ_self _) _ _ _ hP hD hS (lv_sub hl [0, 1, 2] rfl)
set_option maxHeartbeats 4000000 in
set_option maxRecDepth 100000 in
theorem sY_X11_popular_1 (l : Launch) (dC : Nat → ClassId) (dI : Nat → Nat → Nat) (cy : Nat → ClassId) (y0 : Nat) (r : Nat → Nat) (p1 : Int32) (v : Nat → Int32) (f : Nat → Nat → Int32) (w : Int64) (g : Nat → Int64) (hIv : YI v) (hCf : YC f) (hRf : progOK (f 4) (f 5) (v 9).toInt.toNat)  : ctI l (dC, dI) cy yX11_popular cX11_popular 2 .int 6 171 0 0 ((Nat → Int32) × (Nat → Nat → Int32) × (Int64) × (Nat → Int64)) [.ref y0, .int p1] (YW cy y0 r v f w g) (fun r u => KV [] u.1 v ∧ KF [7, 8, 24] u.2.1 f ∧ YI u.1 ∧ YC u.2.1 ∧ progOK (u.2.1 4) (u.2.1 5) (u.1 9).toInt.toNat ∧ u.1 0 = v 0 ∧ u.1 1 = v 1 ∧ u.1 2 = v 2 ∧ u.1 3 = v 3 ∧ u.1 4 = v 4 ∧ u.1 5 = v 5 ∧ u.1 8 = v 8 ∧ u.1 9 = v 9 ∧ u.1 10 = v 10 ∧ u.1 13 = v 13 ∧ u.1 14 = v 14 ∧ u.1 15 = v 15 ∧ u.1 17 = v 17 ∧ u.1 18 = v 18 ∧ u.1 24 = v 24 ∧ u.1 25 = v 25 ∧ u.1 35 = v 35 ∧ u.1 36 = v 36 ∧ u.1 38 = v 38 ∧ u.1 39 = v 39) (fun u => YW cy y0 r u.1 u.2.1 u.2.2.1 u.2.2.2) := by
  refine ctI_of (by decide) (Nat.le_of_ble_eq_true rfl) (fun p e s m below meth c A ls Q hx hb hml hts hown hE hP hD hA hl ret => ?_)
  have hM_v : KV [] v v := fun _ _ => rfl
  have hA_f : KF [7, 8, 24] f f := fun _ _ => rfl
  have hown : s.vm.findClass RX11 = some m.cls := hown
  have hS : va_S A s.heap s.heap [] := va_S.rf
  have hl : lv_has ls 2 [(0, .ref y0), (1, .int p1)] := hl
  refine lv_aload_n hx hb dX11_popular_0 rfl (lv_at hl 0 rfl) ?_
  refine cbVv (n := 0) (rest := []) hx hb hml hown hts hE hP hD hS hA (sY_X11_fill_1 0 l dC dI cy y0 r  v f w g hIv hCf hRf ) k_1739 k_1741 k_71 k_114 k_1742 hd_yX11_fill ⟨Nat.le_of_ble_eq_true rfl, Nat.le_of_ble_eq_true rfl⟩ 0 11 rfl rfl (rfl) hl.1 rfl (Nat.le_of_ble_eq_true rfl) dX11_popular_1 (fun u H locs hw hP hD hS => ?_)
  obtain ⟨hG1, hw⟩ := hw
  obtain ⟨v2, f3, w4, g5⟩ := u
  obtain ⟨kV_v2, kF_f3, hIv2, hCf3, hRf3, hk0_v2, hk1_v2, hk2_v2, hk3_v2, hk4_v2, hk5_v2, hk8_v2, hk9_v2, hk10_v2, hk13_v2, hk14_v2, hk15_v2, hk17_v2, hk18_v2, hk24_v2, hk25_v2, hk35_v2, hk36_v2, hk38_v2, hk39_v2⟩ := hw
  have hM_v2 : KV [] v2 v := KV.tr kV_v2 hM_v rfl
  have hA_f3 : KF [7, 8, 24] f3 f := KF.tr kF_f3 hA_f rfl
  have hP : va_P (dC, dI) vwCl (YW cy y0 r v2 f3 w4 g5) H := hP
  have hD : va_D A (YW cy y0 r v2 f3 w4 g5) := hD
  refine lv_aload_n hx hb dX11_popular_4 rfl (lv_at hl 0 rfl) ?_
  refine lv_iload_n hx hb dX11_popular_5 rfl (lv_at hl 1 rfl) ?_
  refine cbVi (n := 1) (rest := []) hx hb hml hown hts hE hP hD hS hA (sY_X11_isCoat_1 0 l dC dI cy y0 r p1 v2 f3 w4 g5 hIv2 hCf3 hRf3 ) k_1771 k_1773 k_75 k_114 k_1774 hd_yX11_isCoat ⟨Nat.le_of_ble_eq_true rfl, Nat.le_of_ble_eq_true rfl⟩ 0 11 rfl rfl (rfl) hl.1 rfl (Nat.le_of_ble_eq_true rfl) dX11_popular_6 (fun r6 u H locs hw hP hD hS => ?_)
  obtain ⟨hG7, hw⟩ := hw
  rcases hw with ⟨g8, g8_0, g8_1, g8_2⟩ | ⟨g8⟩
  · skip
    subst g8
    refine lv_if_eq (tgt := 20) hx hb dX11_popular_9 rfl (fun c0 => absurd c0 (by decide)) (fun _ => ?_)
    refine lv_aload_n hx hb dX11_popular_12 rfl (lv_at hl 0 rfl) ?_
    refine lv_iload_n hx hb dX11_popular_13 rfl (lv_at hl 1 rfl) ?_
    refine cbVi (n := 1) (rest := []) hx hb hml hown hts hE hP hD hS hA (sY_X11_menFor_1 l dC dI cy y0 r p1 v2 f3 w4 g5 hIv2 hCf3 hRf3 ⟨show (0 : Int) ≤ p1.toInt from om_62 g8_0, show p1.toInt ≤ (5 : Int) from om_451 g8_2⟩) k_1968 k_1970 k_95 k_114 k_1971 hd_yX11_menFor ⟨Nat.le_of_ble_eq_true rfl, Nat.le_of_ble_eq_true rfl⟩ 0 11 rfl rfl (rfl) hl.1 rfl (Nat.le_of_ble_eq_true rfl) dX11_popular_14 (fun r9 u H locs hw hP hD hS => ?_)
    obtain ⟨v10, f11, w12, g13⟩ := u
    obtain ⟨kV_v10, kF_f11, hIv10, hCf11, hRf11, hk0_v10, hk1_v10, hk2_v10, hk3_v10, hk4_v10, hk5_v10, hk8_v10, hk9_v10, hk10_v10, hk13_v10, hk14_v10, hk15_v10, hk17_v10, hk18_v10, hk24_v10, hk25_v10, hk35_v10, hk36_v10, hk38_v10, hk39_v10⟩ := hw
    have hM_v10 : KV [] v10 v := KV.tr kV_v10 hM_v2 rfl
    have hA_f11 : KF [7, 8, 24] f11 f := KF.tr kF_f11 hA_f3 rfl
    have hP : va_P (dC, dI) vwCl (YW cy y0 r v10 f11 w12 g13) H := hP
    have hD : va_D A (YW cy y0 r v10 f11 w12 g13) := hD
    refine lv_goto (tgt := 21) hx hb dX11_popular_17 rfl ?_
    exact ret r9 (v10, f11, w12, g13) _ _ _ _ _ _ rfl ⟨hM_v10, hA_f11, hIv10, hCf11, hRf11, (hk0_v10.trans hk0_v2), (hk1_v10.trans hk1_v2), (hk2_v10.trans hk2_v2), (hk3_v10.trans hk3_v2), (hk4_v10.trans hk4_v2), (hk5_v10.trans hk5_v2), (hk8_v10.trans hk8_v2), (hk9_v10.trans hk9_v2), (hk10_v10.trans hk10_v2), (hk13_v10.trans hk13_v2), (hk14_v10.trans hk14_v2), (hk15_v10.trans hk15_v2), (hk17_v10.trans hk17_v2), (hk18_v10.trans hk18_v2), (hk24_v10.trans hk24_v2), (hk25_v10.trans hk25_v2), (hk35_v10.trans hk35_v2), (hk36_v10.trans hk36_v2), (hk38_v10.trans hk38_v2), (hk39_v10.trans hk39_v2)⟩ hP hD hS dX11_popular_21 (Nat.le_refl _) (Nat.le_refl _)
  · skip
    subst g8
    refine lv_if_eq (tgt := 20) hx hb dX11_popular_9 rfl (fun _ => ?_) (fun c0 => absurd (by decide) c0)
    refine lv_iconst (v := (-1)) hx hb dX11_popular_20 rfl ?_
    exact ret (-1) (v2, f3, w4, g5) _ _ _ _ _ _ rfl ⟨hM_v2, hA_f3, hIv2, hCf3, hRf3, hk0_v2, hk1_v2, hk2_v2, hk3_v2, hk4_v2, hk5_v2, hk8_v2, hk9_v2, hk10_v2, hk13_v2, hk14_v2, hk15_v2, hk17_v2, hk18_v2, hk24_v2, hk25_v2, hk35_v2, hk36_v2, hk38_v2, hk39_v2⟩ hP hD hS dX11_popular_21 (Nat.le_refl _) (Nat.le_refl _)
set_option maxHeartbeats 4000000 in
set_option maxRecDepth 100000 in
theorem sY_X11_ownIll_1 (l : Launch) (dC : Nat → ClassId) (dI : Nat → Nat → Nat) (cy : Nat → ClassId) (y0 : Nat) (r : Nat → Nat) (p1 : Int32) (v : Nat → Int32) (f : Nat → Nat → Int32) (w : Int64) (g : Nat → Int64) (hIv : YI v) (hCf : YC f) (hRf : progOK (f 4) (f 5) (v 9).toInt.toNat) (hp1 : (0 : Int) ≤ p1.toInt ∧ p1.toInt ≤ 5) : ctI l (dC, dI) cy yX11_ownIll cX11_ownIll 2 .int 4 126 0 0 ((Nat → Int32) × (Nat → Nat → Int32) × (Int64) × (Nat → Int64)) [.ref y0, .int p1] (YW cy y0 r v f w g) (fun r u => KV [] u.1 v ∧ KF [7, 8] u.2.1 f ∧ YI u.1 ∧ YC u.2.1 ∧ progOK (u.2.1 4) (u.2.1 5) (u.1 9).toInt.toNat ∧ u.1 0 = v 0 ∧ u.1 1 = v 1 ∧ u.1 2 = v 2 ∧ u.1 3 = v 3 ∧ u.1 4 = v 4 ∧ u.1 5 = v 5 ∧ u.1 8 = v 8 ∧ u.1 9 = v 9 ∧ u.1 10 = v 10 ∧ u.1 13 = v 13 ∧ u.1 14 = v 14 ∧ u.1 15 = v 15 ∧ u.1 17 = v 17 ∧ u.1 18 = v 18 ∧ u.1 24 = v 24 ∧ u.1 25 = v 25 ∧ u.1 35 = v 35 ∧ u.1 36 = v 36 ∧ u.1 38 = v 38 ∧ u.1 39 = v 39) (fun u => YW cy y0 r u.1 u.2.1 u.2.2.1 u.2.2.2) := by
  refine ctI_of (by decide) (Nat.le_of_ble_eq_true rfl) (fun p e s m below meth c A ls Q hx hb hml hts hown hE hP hD hA hl ret => ?_)
  have hUv : (v 35).toInt + (v 36).toInt ≤ 40 := hIv.2
  have hM_v : KV [] v v := fun _ _ => rfl
  have hA_f : KF [7, 8] f f := fun _ _ => rfl
  have hown : s.vm.findClass RX11 = some m.cls := hown
  have hS : va_S A s.heap s.heap [] := va_S.rf
  have hl : lv_has ls 2 [(0, .ref y0), (1, .int p1)] := hl
  refine lv_aload_n hx hb dX11_ownIll_0 rfl (lv_at hl 0 rfl) ?_
  refine va_get (D := (dC, dI)) (ci := 11) (v := .ref (r 60)) (C := RX11) (T := TX11) (N := 79) hx hb hts inB_11 hown hE.1 hP 0 rfl rfl 60 (Nat.le_of_ble_eq_true rfl) (hts _ k_1380) (fun _ h9 => h9) rfl dX11_ownIll_1 ?_
  refine lv_bipush (v := 6) hx hb dX11_ownIll_4 rfl ?_
  refine lv_iload_n hx hb dX11_ownIll_6 rfl (lv_at hl 1 rfl) ?_
  refine lv_iadd hx hb dX11_ownIll_7 ?_
  refine lv_topi (fun t1 et1 => ?_)
  have rg2 := fb_rng p1
  have zt1 : t1.toInt = 6 + p1.toInt := (congrArg Int32.toInt et1).trans (add_i tc_6 rfl (om_596 hp1) (om_597 hp1))
  refine ldI hx hb hE hP 25 rfl (vpI (k := 39) rfl (show 0 ≤ t1.toInt from om_598 hp1 zt1) (show t1.toInt < 39 from om_599 hp1 zt1)) rfl rfl dX11_ownIll_8 ?_
  refine lv_topi (fun t3 et3 => ?_)
  have zt3 : t1.toInt.toNat % 39 < 6 ∨ 12 ≤ t1.toInt.toNat % 39 ∨ (-1 ≤ t3.toInt ∧ t3.toInt ≤ 5) := by rw [et3]; exact wear_ld hCf.2.1 (show t1.toInt.toNat < 39 from om_600 hp1 zt1)
  refine lv_if_ge (tgt := 16) hx hb dX11_ownIll_9 rfl (fun c4 => ?_) (fun c4 => ?_)
  · skip
    have zc4 : 0 ≤ t3.toInt := zMp tc_0 rfl c4
    refine lv_aload_n hx hb dX11_ownIll_16 rfl (lv_at hl 0 rfl) ?_
    refine lv_iload_n hx hb dX11_ownIll_17 rfl (lv_at hl 1 rfl) ?_
    refine lv_aload_n hx hb dX11_ownIll_18 rfl (lv_at hl 0 rfl) ?_
    refine va_get (D := (dC, dI)) (ci := 11) (v := .ref (r 60)) (C := RX11) (T := TX11) (N := 79) hx hb hts inB_11 hown hE.1 hP 0 rfl rfl 60 (Nat.le_of_ble_eq_true rfl) (hts _ k_1380) (fun _ h9 => h9) rfl dX11_ownIll_19 ?_
    refine lv_bipush (v := 6) hx hb dX11_ownIll_22 rfl ?_
    refine lv_iload_n hx hb dX11_ownIll_24 rfl (lv_at hl 1 rfl) ?_
    refine lv_iadd hx hb dX11_ownIll_25 ?_
    refine tI (y := t1) et1.symm ?_
    refine ldI hx hb hE hP 25 rfl (vpI (k := 39) rfl (show 0 ≤ t1.toInt from om_598 hp1 zt1) (show t1.toInt < 39 from om_599 hp1 zt1)) rfl rfl dX11_ownIll_26 ?_
    refine tI (y := t3) et3.symm ?_
    refine cbVi (n := 2) (rest := []) hx hb hml hown hts hE hP hD hS hA (sY_X11_misfitOf_1 0 l dC dI cy y0 r p1 t3 v f w g hIv hCf hRf ⟨show (0 : Int) ≤ p1.toInt from om_214 hp1, show p1.toInt ≤ (5 : Int) from om_215 hp1⟩ ⟨show (0 : Int) ≤ t3.toInt from om_62 zc4, show t3.toInt ≤ (5 : Int) by omega⟩) k_1751 k_1753 k_74 k_114 k_1754 hd_yX11_misfitOf ⟨Nat.le_of_ble_eq_true rfl, Nat.le_of_ble_eq_true rfl⟩ 0 11 rfl rfl (rfl) hl.1 rfl (Nat.le_of_ble_eq_true rfl) dX11_ownIll_27 (fun r5 u H locs hw hP hD hS => ?_)
    obtain ⟨hG6, hw⟩ := hw
    obtain ⟨v7, f8, w9, g10⟩ := u
    obtain ⟨kV_v7, kF_f8, hIv7, hCf8, hRf8, hk0_v7, hk1_v7, hk2_v7, hk3_v7, hk4_v7, hk5_v7, hk8_v7, hk9_v7, hk10_v7, hk13_v7, hk14_v7, hk15_v7, hk17_v7, hk18_v7, hk24_v7, hk25_v7, hk35_v7, hk36_v7, hk38_v7, hk39_v7⟩ := hw
    have hM_v7 : KV [] v7 v := KV.tr kV_v7 hM_v rfl
    have hA_f8 : KF [7, 8] f8 f := KF.tr kF_f8 hA_f rfl
    have hP : va_P (dC, dI) vwCl (YW cy y0 r v7 f8 w9 g10) H := hP
    have hD : va_D A (YW cy y0 r v7 f8 w9 g10) := hD
    exact ret r5 (v7, f8, w9, g10) _ _ _ _ _ _ rfl ⟨hM_v7, hA_f8, hIv7, hCf8, hRf8, hk0_v7, hk1_v7, hk2_v7, hk3_v7, hk4_v7, hk5_v7, hk8_v7, hk9_v7, hk10_v7, hk13_v7, hk14_v7, hk15_v7, hk17_v7, hk18_v7, hk24_v7, hk25_v7, hk35_v7, hk36_v7, hk38_v7, hk39_v7⟩ hP hD hS dX11_ownIll_30 (Nat.le_refl _) (Nat.le_refl _)
  · skip
    refine lv_iconst (v := (-1)) hx hb dX11_ownIll_12 rfl ?_
    refine lv_goto (tgt := 30) hx hb dX11_ownIll_13 rfl ?_
    exact ret (-1) (v, f, w, g) _ _ _ _ _ _ rfl ⟨hM_v, hA_f, hIv, hCf, hRf, rfl, rfl, rfl, rfl, rfl, rfl, rfl, rfl, rfl, rfl, rfl, rfl, rfl, rfl, rfl, rfl, rfl, rfl, rfl, rfl⟩ hP hD hS dX11_ownIll_30 (Nat.le_refl _) (Nat.le_refl _)
set_option maxHeartbeats 4000000 in
set_option maxRecDepth 100000 in
theorem sY_X11_law_1 (l : Launch) (dC : Nat → ClassId) (dI : Nat → Nat → Nat) (cy : Nat → ClassId) (y0 : Nat) (r : Nat → Nat) (p1 : Int32) (v : Nat → Int32) (f : Nat → Nat → Int32) (w : Int64) (g : Nat → Int64) (hIv : YI v) (hCf : YC f) (hRf : progOK (f 4) (f 5) (v 9).toInt.toNat)  : ctI l (dC, dI) cy yX11_law cX11_law 4 .int 5 147 0 0 ((Nat → Int32) × (Nat → Nat → Int32) × (Int64) × (Nat → Int64)) [.ref y0, .int p1] (YW cy y0 r v f w g) (fun r u => KV [] u.1 v ∧ KF [7, 8, 24] u.2.1 f ∧ YI u.1 ∧ YC u.2.1 ∧ progOK (u.2.1 4) (u.2.1 5) (u.1 9).toInt.toNat ∧ u.1 0 = v 0 ∧ u.1 1 = v 1 ∧ u.1 2 = v 2 ∧ u.1 3 = v 3 ∧ u.1 4 = v 4 ∧ u.1 5 = v 5 ∧ u.1 8 = v 8 ∧ u.1 9 = v 9 ∧ u.1 10 = v 10 ∧ u.1 13 = v 13 ∧ u.1 14 = v 14 ∧ u.1 15 = v 15 ∧ u.1 17 = v 17 ∧ u.1 18 = v 18 ∧ u.1 24 = v 24 ∧ u.1 25 = v 25 ∧ u.1 35 = v 35 ∧ u.1 36 = v 36 ∧ u.1 38 = v 38 ∧ u.1 39 = v 39) (fun u => YW cy y0 r u.1 u.2.1 u.2.2.1 u.2.2.2) := by
  refine ctI_of (by decide) (Nat.le_of_ble_eq_true rfl) (fun p e s m below meth c A ls Q hx hb hml hts hown hE hP hD hA hl ret => ?_)
  have hM_v : KV [] v v := fun _ _ => rfl
  have hA_f : KF [7, 8, 24] f f := fun _ _ => rfl
  have hown : s.vm.findClass RX11 = some m.cls := hown
  have hS : va_S A s.heap s.heap [] := va_S.rf
  have hl : lv_has ls 4 [(0, .ref y0), (1, .int p1)] := hl
  refine lv_iload_n hx hb dX11_law_0 rfl (lv_at hl 1 rfl) ?_
  refine lv_iconst (v := 0) hx hb dX11_law_1 rfl ?_
  refine lv_sipush (v := 999) hx hb dX11_law_2 rfl ?_
  refine cbSi (n := 3) (rest := []) hx hb hml hown hts hE hP hD hS hA (sY_X11_isIn_1 0 l dC dI cy y0 r p1 0 999 v f w g hIv hCf hRf ) k_1736 k_1737 k_114 k_1738 he_yX11_isIn ⟨Nat.le_of_ble_eq_true rfl, Nat.le_of_ble_eq_true rfl⟩ (rfl) hl.1 rfl (Nat.le_of_ble_eq_true rfl) dX11_law_5 (fun r3 u H locs hw hP hD hS => ?_)
  obtain ⟨hG4, hw⟩ := hw
  rcases hw with ⟨g5, g5_0, g5_1⟩ | ⟨g5⟩
  · skip
    subst g5
    refine lv_if_ne (tgt := 13) hx hb dX11_law_8 rfl (fun _ => ?_) (fun c0 => absurd c0 (by decide))
    refine lv_aload_n hx hb dX11_law_13 rfl (lv_at hl 0 rfl) ?_
    refine cbVv (n := 0) (rest := []) hx hb hml hown hts hE hP hD hS hA (sY_X11_fill_1 0 l dC dI cy y0 r  v f w g hIv hCf hRf ) k_1739 k_1741 k_71 k_114 k_1742 hd_yX11_fill ⟨Nat.le_of_ble_eq_true rfl, Nat.le_of_ble_eq_true rfl⟩ 0 11 rfl rfl (rfl) hl.1 rfl (Nat.le_of_ble_eq_true rfl) dX11_law_14 (fun u H locs hw hP hD hS => ?_)
    obtain ⟨hG6, hw⟩ := hw
    obtain ⟨v7, f8, w9, g10⟩ := u
    obtain ⟨kV_v7, kF_f8, hIv7, hCf8, hRf8, hk0_v7, hk1_v7, hk2_v7, hk3_v7, hk4_v7, hk5_v7, hk8_v7, hk9_v7, hk10_v7, hk13_v7, hk14_v7, hk15_v7, hk17_v7, hk18_v7, hk24_v7, hk25_v7, hk35_v7, hk36_v7, hk38_v7, hk39_v7⟩ := hw
    have hM_v7 : KV [] v7 v := KV.tr kV_v7 hM_v rfl
    have hA_f8 : KF [7, 8, 24] f8 f := KF.tr kF_f8 hA_f rfl
    have hP : va_P (dC, dI) vwCl (YW cy y0 r v7 f8 w9 g10) H := hP
    have hD : va_D A (YW cy y0 r v7 f8 w9 g10) := hD
    have hq0_v7 : v7 0 = (v 0) := hk0_v7
    have hq1_v7 : v7 1 = (v 1) := hk1_v7
    have hq2_v7 : v7 2 = (v 2) := hk2_v7
    have hq3_v7 : v7 3 = (v 3) := hk3_v7
    have hq4_v7 : v7 4 = (v 4) := hk4_v7
    have hq5_v7 : v7 5 = (v 5) := hk5_v7
    have hq8_v7 : v7 8 = (v 8) := hk8_v7
    have hq9_v7 : v7 9 = (v 9) := hk9_v7
    have hq10_v7 : v7 10 = (v 10) := hk10_v7
    have hq13_v7 : v7 13 = (v 13) := hk13_v7
    have hq14_v7 : v7 14 = (v 14) := hk14_v7
    have hq15_v7 : v7 15 = (v 15) := hk15_v7
    have hq17_v7 : v7 17 = (v 17) := hk17_v7
    have hq18_v7 : v7 18 = (v 18) := hk18_v7
    have hq24_v7 : v7 24 = (v 24) := hk24_v7
    have hq25_v7 : v7 25 = (v 25) := hk25_v7
    have hq35_v7 : v7 35 = (v 35) := hk35_v7
    have hq36_v7 : v7 36 = (v 36) := hk36_v7
    have hq38_v7 : v7 38 = (v 38) := hk38_v7
    have hq39_v7 : v7 39 = (v 39) := hk39_v7
    refine lv_iconst (v := 0) hx hb dX11_law_17 rfl ?_
    refine lv_istore_n (lv' := [(2, .int 0), (0, .ref y0), (1, .int p1)]) hx hb dX11_law_18 rfl hl (Nat.le_of_ble_eq_true rfl) rfl (fun ls hl => ?_)
    refine lv_iconst (v := 0) hx hb dX11_law_19 rfl ?_
    refine lv_istore_n (lv' := [(3, .int 0), (2, .int 0), (0, .ref y0), (1, .int p1)]) hx hb dX11_law_20 rfl hl (Nat.le_of_ble_eq_true rfl) rfl (fun ls hl => ?_)
    have lp11 : ∀ (n11 : Nat) (l2_11 : Int32) (l3_11 : Int32) (v11 : Nat → Int32) (f11 : Nat → Nat → Int32) (w11 : Int64) (g11 : Nat → Int64), YI v11 → YC f11 → progOK (f11 4) (f11 5) (v11 9).toInt.toNat → v11 0 = (v 0) → v11 1 = (v 1) → v11 2 = (v 2) → v11 3 = (v 3) → v11 4 = (v 4) → v11 5 = (v 5) → v11 8 = (v 8) → v11 9 = (v 9) → v11 10 = (v 10) → v11 13 = (v 13) → v11 14 = (v 14) → v11 15 = (v 15) → v11 17 = (v 17) → v11 18 = (v 18) → v11 24 = (v 24) → v11 25 = (v 25) → v11 35 = (v 35) → v11 36 = (v 36) → v11 38 = (v 38) → v11 39 = (v 39) → ((0 : Int) ≤ l3_11.toInt ∧ l3_11.toInt ≤ 2147483647) → KV [] v11 v → KF [7, 8, 24] f11 f → (2147483647 - l3_11.toInt).toNat < n11 → ∀ (H : Heap) (locs : List Loc) (ls : Array Slot), va_P (dC, dI) vwCl (YW cy y0 r v11 f11 w11 g11) H → va_D A (YW cy y0 r v11 f11 w11 g11) → va_S A s.heap H locs → lv_has ls 4 [(3, .int l3_11), (2, .int l2_11), (0, .ref y0), (1, .int p1)] → W p l e { frames := 5, cells := 0, slots := 0, locals := 147 } s m ([.ref y0, .int p1] : List Value).toArray below meth c H locs 0 0 Q (F0 m 21 ls []) := by
      intro n11
      induction n11 with
      | zero => intro l2_11 l3_11 v11 f11 w11 g11 hIv11 hCf11 hRf11 hq0_v11 hq1_v11 hq2_v11 hq3_v11 hq4_v11 hq5_v11 hq8_v11 hq9_v11 hq10_v11 hq13_v11 hq14_v11 hq15_v11 hq17_v11 hq18_v11 hq24_v11 hq25_v11 hq35_v11 hq36_v11 hq38_v11 hq39_v11 hr3_11 hM_v11 hA_f11 hm; exact absurd hm (Nat.not_lt_zero _)
      | succ n11 ih11 =>
        intro l2_11 l3_11 v11 f11 w11 g11 hIv11 hCf11 hRf11 hq0_v11 hq1_v11 hq2_v11 hq3_v11 hq4_v11 hq5_v11 hq8_v11 hq9_v11 hq10_v11 hq13_v11 hq14_v11 hq15_v11 hq17_v11 hq18_v11 hq24_v11 hq25_v11 hq35_v11 hq36_v11 hq38_v11 hq39_v11 hr3_11 hM_v11 hA_f11 hm11 H locs ls hP hD hS hl
        refine lv_iload_n hx hb dX11_law_21 rfl (lv_at hl 0 rfl) ?_
        refine lv_aload_n hx hb dX11_law_22 rfl (lv_at hl 2 rfl) ?_
        refine va_get (D := (dC, dI)) (ci := 11) (v := .int (v11 24)) (C := RX11) (T := TX11) (N := 79) hx hb hts inB_11 hown hE.1 hP 0 rfl rfl 48 (Nat.le_of_ble_eq_true rfl) (hts _ k_1368) (fun _ h9 => h9) rfl dX11_law_23 ?_
        refine tI (y := (v 24)) hq24_v11 ?_
        have b24_v : 0 ≤ (v 24).toInt ∧ (v 24).toInt ≤ 6 := Yb_24 hIv.1
        refine lv_icmp_ge (tgt := 63) hx hb dX11_law_26 rfl (fun c12 => ?_) (fun c12 => ?_)
        · skip
          refine lv_iload_n hx hb dX11_law_63 rfl (lv_at hl 1 rfl) ?_
          exact ret l2_11 (v11, f11, w11, g11) _ _ _ _ _ _ rfl ⟨hM_v11, hA_f11, hIv11, hCf11, hRf11, hq0_v11, hq1_v11, hq2_v11, hq3_v11, hq4_v11, hq5_v11, hq8_v11, hq9_v11, hq10_v11, hq13_v11, hq14_v11, hq15_v11, hq17_v11, hq18_v11, hq24_v11, hq25_v11, hq35_v11, hq36_v11, hq38_v11, hq39_v11⟩ hP hD hS dX11_law_64 (Nat.le_refl _) (Nat.le_refl _)
        · skip
          have zc12 : ¬ ((v 24).toInt ≤ l3_11.toInt) := zMn rfl rfl c12
          refine lv_iload_n hx hb dX11_law_29 rfl (lv_at hl 1 rfl) ?_
          refine lv_aload_n hx hb dX11_law_30 rfl (lv_at hl 2 rfl) ?_
          refine lv_iload_n hx hb dX11_law_31 rfl (lv_at hl 0 rfl) ?_
          refine cbVi (n := 1) (rest := [.int l2_11]) hx hb hml hown hts hE hP hD hS hA (sY_X11_ownIll_1 l dC dI cy y0 r l3_11 v11 f11 w11 g11 hIv11 hCf11 hRf11 ⟨show (0 : Int) ≤ l3_11.toInt from om_39 hr3_11, show l3_11.toInt ≤ (5 : Int) from om_100 b24_v zc12⟩) k_1984 k_1986 k_96 k_114 k_1987 hd_yX11_ownIll ⟨Nat.le_of_ble_eq_true rfl, Nat.le_of_ble_eq_true rfl⟩ 0 11 rfl rfl (rfl) hl.1 rfl (Nat.le_of_ble_eq_true rfl) dX11_law_32 (fun r17 u H locs hw hP hD hS => ?_)
          obtain ⟨v18, f19, w20, g21⟩ := u
          obtain ⟨kV_v18, kF_f19, hIv18, hCf19, hRf19, hk0_v18, hk1_v18, hk2_v18, hk3_v18, hk4_v18, hk5_v18, hk8_v18, hk9_v18, hk10_v18, hk13_v18, hk14_v18, hk15_v18, hk17_v18, hk18_v18, hk24_v18, hk25_v18, hk35_v18, hk36_v18, hk38_v18, hk39_v18⟩ := hw
          have hM_v18 : KV [] v18 v := KV.tr kV_v18 hM_v11 rfl
          have hA_f19 : KF [7, 8, 24] f19 f := KF.tr kF_f19 hA_f11 rfl
          have hP : va_P (dC, dI) vwCl (YW cy y0 r v18 f19 w20 g21) H := hP
          have hD : va_D A (YW cy y0 r v18 f19 w20 g21) := hD
          have hq0_v18 : v18 0 = (v 0) := hk0_v18.trans hq0_v11
          have hq1_v18 : v18 1 = (v 1) := hk1_v18.trans hq1_v11
          have hq2_v18 : v18 2 = (v 2) := hk2_v18.trans hq2_v11
          have hq3_v18 : v18 3 = (v 3) := hk3_v18.trans hq3_v11
          have hq4_v18 : v18 4 = (v 4) := hk4_v18.trans hq4_v11
          have hq5_v18 : v18 5 = (v 5) := hk5_v18.trans hq5_v11
          have hq8_v18 : v18 8 = (v 8) := hk8_v18.trans hq8_v11
          have hq9_v18 : v18 9 = (v 9) := hk9_v18.trans hq9_v11
          have hq10_v18 : v18 10 = (v 10) := hk10_v18.trans hq10_v11
          have hq13_v18 : v18 13 = (v 13) := hk13_v18.trans hq13_v11
          have hq14_v18 : v18 14 = (v 14) := hk14_v18.trans hq14_v11
          have hq15_v18 : v18 15 = (v 15) := hk15_v18.trans hq15_v11
          have hq17_v18 : v18 17 = (v 17) := hk17_v18.trans hq17_v11
          have hq18_v18 : v18 18 = (v 18) := hk18_v18.trans hq18_v11
          have hq24_v18 : v18 24 = (v 24) := hk24_v18.trans hq24_v11
          have hq25_v18 : v18 25 = (v 25) := hk25_v18.trans hq25_v11
          have hq35_v18 : v18 35 = (v 35) := hk35_v18.trans hq35_v11
          have hq36_v18 : v18 36 = (v 36) := hk36_v18.trans hq36_v11
          have hq38_v18 : v18 38 = (v 38) := hk38_v18.trans hq38_v11
          have hq39_v18 : v18 39 = (v 39) := hk39_v18.trans hq39_v11
          refine lv_if_lt (tgt := 51) hx hb dX11_law_35 rfl (fun c22 => ?_) (fun c22 => ?_)
          · skip
            refine lv_iconst (v := 0) hx hb dX11_law_51 rfl ?_
            refine cbSi (n := 1) (rest := [.int l2_11]) hx hb hml hown hts hE hP hD hS hA (sY_X11_truth_1 0 l dC dI cy y0 r 0 v18 f19 w20 g21 hIv18 hCf19 hRf19 ) k_1761 k_1762 k_114 k_1763 he_yX11_truth ⟨Nat.le_of_ble_eq_true rfl, Nat.le_of_ble_eq_true rfl⟩ (rfl) hl.1 rfl (Nat.le_of_ble_eq_true rfl) dX11_law_52 (fun r24 u H locs hw hP hD hS => ?_)
            obtain ⟨hG25, hw⟩ := hw
            refine lv_iadd hx hb dX11_law_55 ?_
            refine lv_topi (fun t26 et26 => ?_)
            refine lv_istore_n (lv' := [(2, .int t26), (3, .int l3_11), (0, .ref y0), (1, .int p1)]) hx hb dX11_law_56 rfl hl (Nat.le_of_ble_eq_true rfl) rfl (fun ls hl => ?_)
            obtain ⟨t27, et27⟩ : ∃ y : Int32, y = l3_11 + 1 := ⟨_, rfl⟩
            have zt27 : t27.toInt = l3_11.toInt + 1 := (congrArg Int32.toInt et27).trans (add_i rfl tc_1 (om_41 hr3_11) (om_187 b24_v zc12))
            refine lv_iinc (v := t27) (lv' := [(3, .int t27), (2, .int t26), (0, .ref y0), (1, .int p1)]) hx hb dX11_law_57 hl (k := 1) rfl et27.symm (Nat.le_of_ble_eq_true rfl) rfl (fun ls hl => ?_)
            refine lv_goto (tgt := 21) hx hb dX11_law_60 rfl ?_
            have rg28 := fb_rng t27
            exact ih11 t26 t27 v18 f19 w20 g21 hIv18 hCf19 hRf19 hq0_v18 hq1_v18 hq2_v18 hq3_v18 hq4_v18 hq5_v18 hq8_v18 hq9_v18 hq10_v18 hq13_v18 hq14_v18 hq15_v18 hq17_v18 hq18_v18 hq24_v18 hq25_v18 hq35_v18 hq36_v18 hq38_v18 hq39_v18 ⟨show (0 : Int) ≤ t27.toInt from om_43 hr3_11 zt27, show t27.toInt ≤ (2147483647 : Int) from om_44 rg28⟩ hM_v18 hA_f19 (show (2147483647 - t27.toInt).toNat < n11 from om_33 hm11 zt27 rg28) _ _ _ hP hD hS (lv_sub hl [0, 1, 2, 3] rfl)
          · skip
            refine lv_aload_n hx hb dX11_law_38 rfl (lv_at hl 2 rfl) ?_
            refine lv_iload_n hx hb dX11_law_39 rfl (lv_at hl 0 rfl) ?_
            refine cbVi (n := 1) (rest := [.int l2_11]) hx hb hml hown hts hE hP hD hS hA (sY_X11_ownIll_1 l dC dI cy y0 r l3_11 v18 f19 w20 g21 hIv18 hCf19 hRf19 ⟨show (0 : Int) ≤ l3_11.toInt from om_39 hr3_11, show l3_11.toInt ≤ (5 : Int) from om_100 b24_v zc12⟩) k_1984 k_1986 k_96 k_114 k_1987 hd_yX11_ownIll ⟨Nat.le_of_ble_eq_true rfl, Nat.le_of_ble_eq_true rfl⟩ 0 11 rfl rfl (rfl) hl.1 rfl (Nat.le_of_ble_eq_true rfl) dX11_law_40 (fun r29 u H locs hw hP hD hS => ?_)
            obtain ⟨v30, f31, w32, g33⟩ := u
            obtain ⟨kV_v30, kF_f31, hIv30, hCf31, hRf31, hk0_v30, hk1_v30, hk2_v30, hk3_v30, hk4_v30, hk5_v30, hk8_v30, hk9_v30, hk10_v30, hk13_v30, hk14_v30, hk15_v30, hk17_v30, hk18_v30, hk24_v30, hk25_v30, hk35_v30, hk36_v30, hk38_v30, hk39_v30⟩ := hw
            have hM_v30 : KV [] v30 v := KV.tr kV_v30 hM_v18 rfl
            have hA_f31 : KF [7, 8, 24] f31 f := KF.tr kF_f31 hA_f19 rfl
            have hP : va_P (dC, dI) vwCl (YW cy y0 r v30 f31 w32 g33) H := hP
            have hD : va_D A (YW cy y0 r v30 f31 w32 g33) := hD
            have hq0_v30 : v30 0 = (v 0) := hk0_v30.trans hq0_v18
            have hq1_v30 : v30 1 = (v 1) := hk1_v30.trans hq1_v18
            have hq2_v30 : v30 2 = (v 2) := hk2_v30.trans hq2_v18
            have hq3_v30 : v30 3 = (v 3) := hk3_v30.trans hq3_v18
            have hq4_v30 : v30 4 = (v 4) := hk4_v30.trans hq4_v18
            have hq5_v30 : v30 5 = (v 5) := hk5_v30.trans hq5_v18
            have hq8_v30 : v30 8 = (v 8) := hk8_v30.trans hq8_v18
            have hq9_v30 : v30 9 = (v 9) := hk9_v30.trans hq9_v18
            have hq10_v30 : v30 10 = (v 10) := hk10_v30.trans hq10_v18
            have hq13_v30 : v30 13 = (v 13) := hk13_v30.trans hq13_v18
            have hq14_v30 : v30 14 = (v 14) := hk14_v30.trans hq14_v18
            have hq15_v30 : v30 15 = (v 15) := hk15_v30.trans hq15_v18
            have hq17_v30 : v30 17 = (v 17) := hk17_v30.trans hq17_v18
            have hq18_v30 : v30 18 = (v 18) := hk18_v30.trans hq18_v18
            have hq24_v30 : v30 24 = (v 24) := hk24_v30.trans hq24_v18
            have hq25_v30 : v30 25 = (v 25) := hk25_v30.trans hq25_v18
            have hq35_v30 : v30 35 = (v 35) := hk35_v30.trans hq35_v18
            have hq36_v30 : v30 36 = (v 36) := hk36_v30.trans hq36_v18
            have hq38_v30 : v30 38 = (v 38) := hk38_v30.trans hq38_v18
            have hq39_v30 : v30 39 = (v 39) := hk39_v30.trans hq39_v18
            refine lv_iload_n hx hb dX11_law_43 rfl (lv_at hl 3 rfl) ?_
            refine lv_icmp_gt (tgt := 51) hx hb dX11_law_44 rfl (fun c34 => ?_) (fun c34 => ?_)
            · skip
              refine lv_iconst (v := 0) hx hb dX11_law_51 rfl ?_
              refine cbSi (n := 1) (rest := [.int l2_11]) hx hb hml hown hts hE hP hD hS hA (sY_X11_truth_1 0 l dC dI cy y0 r 0 v30 f31 w32 g33 hIv30 hCf31 hRf31 ) k_1761 k_1762 k_114 k_1763 he_yX11_truth ⟨Nat.le_of_ble_eq_true rfl, Nat.le_of_ble_eq_true rfl⟩ (rfl) hl.1 rfl (Nat.le_of_ble_eq_true rfl) dX11_law_52 (fun r38 u H locs hw hP hD hS => ?_)
              obtain ⟨hG39, hw⟩ := hw
              refine lv_iadd hx hb dX11_law_55 ?_
              refine lv_topi (fun t40 et40 => ?_)
              refine lv_istore_n (lv' := [(2, .int t40), (3, .int l3_11), (0, .ref y0), (1, .int p1)]) hx hb dX11_law_56 rfl hl (Nat.le_of_ble_eq_true rfl) rfl (fun ls hl => ?_)
              obtain ⟨t41, et41⟩ : ∃ y : Int32, y = l3_11 + 1 := ⟨_, rfl⟩
              have zt41 : t41.toInt = l3_11.toInt + 1 := (congrArg Int32.toInt et41).trans (add_i rfl tc_1 (om_41 hr3_11) (om_187 b24_v zc12))
              refine lv_iinc (v := t41) (lv' := [(3, .int t41), (2, .int t40), (0, .ref y0), (1, .int p1)]) hx hb dX11_law_57 hl (k := 1) rfl et41.symm (Nat.le_of_ble_eq_true rfl) rfl (fun ls hl => ?_)
              refine lv_goto (tgt := 21) hx hb dX11_law_60 rfl ?_
              have rg42 := fb_rng t41
              exact ih11 t40 t41 v30 f31 w32 g33 hIv30 hCf31 hRf31 hq0_v30 hq1_v30 hq2_v30 hq3_v30 hq4_v30 hq5_v30 hq8_v30 hq9_v30 hq10_v30 hq13_v30 hq14_v30 hq15_v30 hq17_v30 hq18_v30 hq24_v30 hq25_v30 hq35_v30 hq36_v30 hq38_v30 hq39_v30 ⟨show (0 : Int) ≤ t41.toInt from om_43 hr3_11 zt41, show t41.toInt ≤ (2147483647 : Int) from om_44 rg42⟩ hM_v30 hA_f31 (show (2147483647 - t41.toInt).toNat < n11 from om_33 hm11 zt41 rg42) _ _ _ hP hD hS (lv_sub hl [0, 1, 2, 3] rfl)
            · skip
              refine lv_iconst (v := 1) hx hb dX11_law_47 rfl ?_
              refine lv_goto (tgt := 52) hx hb dX11_law_48 rfl ?_
              refine cbSi (n := 1) (rest := [.int l2_11]) hx hb hml hown hts hE hP hD hS hA (sY_X11_truth_1 0 l dC dI cy y0 r 1 v30 f31 w32 g33 hIv30 hCf31 hRf31 ) k_1761 k_1762 k_114 k_1763 he_yX11_truth ⟨Nat.le_of_ble_eq_true rfl, Nat.le_of_ble_eq_true rfl⟩ (rfl) hl.1 rfl (Nat.le_of_ble_eq_true rfl) dX11_law_52 (fun r46 u H locs hw hP hD hS => ?_)
              obtain ⟨hG47, hw⟩ := hw
              refine lv_iadd hx hb dX11_law_55 ?_
              refine lv_topi (fun t48 et48 => ?_)
              refine lv_istore_n (lv' := [(2, .int t48), (3, .int l3_11), (0, .ref y0), (1, .int p1)]) hx hb dX11_law_56 rfl hl (Nat.le_of_ble_eq_true rfl) rfl (fun ls hl => ?_)
              obtain ⟨t49, et49⟩ : ∃ y : Int32, y = l3_11 + 1 := ⟨_, rfl⟩
              have zt49 : t49.toInt = l3_11.toInt + 1 := (congrArg Int32.toInt et49).trans (add_i rfl tc_1 (om_41 hr3_11) (om_187 b24_v zc12))
              refine lv_iinc (v := t49) (lv' := [(3, .int t49), (2, .int t48), (0, .ref y0), (1, .int p1)]) hx hb dX11_law_57 hl (k := 1) rfl et49.symm (Nat.le_of_ble_eq_true rfl) rfl (fun ls hl => ?_)
              refine lv_goto (tgt := 21) hx hb dX11_law_60 rfl ?_
              have rg50 := fb_rng t49
              exact ih11 t48 t49 v30 f31 w32 g33 hIv30 hCf31 hRf31 hq0_v30 hq1_v30 hq2_v30 hq3_v30 hq4_v30 hq5_v30 hq8_v30 hq9_v30 hq10_v30 hq13_v30 hq14_v30 hq15_v30 hq17_v30 hq18_v30 hq24_v30 hq25_v30 hq35_v30 hq36_v30 hq38_v30 hq39_v30 ⟨show (0 : Int) ≤ t49.toInt from om_43 hr3_11 zt49, show t49.toInt ≤ (2147483647 : Int) from om_44 rg50⟩ hM_v30 hA_f31 (show (2147483647 - t49.toInt).toNat < n11 from om_33 hm11 zt49 rg50) _ _ _ hP hD hS (lv_sub hl [0, 1, 2, 3] rfl)
    exact lp11 _ 0 0 v7 f8 w9 g10 hIv7 hCf8 hRf8 hq0_v7 hq1_v7 hq2_v7 hq3_v7 hq4_v7 hq5_v7 hq8_v7 hq9_v7 hq10_v7 hq13_v7 hq14_v7 hq15_v7 hq17_v7 hq18_v7 hq24_v7 hq25_v7 hq35_v7 hq36_v7 hq38_v7 hq39_v7 ⟨by decide, by decide⟩ hM_v7 hA_f8 (Nat.lt_succ_self _) _ _ _ hP hD hS (lv_sub hl [0, 1, 2, 3] rfl)
  · skip
    subst g5
    refine lv_if_ne (tgt := 13) hx hb dX11_law_8 rfl (fun c0 => absurd (by decide) c0) (fun _ => ?_)
    refine lv_iconst (v := (-1)) hx hb dX11_law_11 rfl ?_
    exact ret (-1) (v, f, w, g) _ _ _ _ _ _ rfl ⟨hM_v, hA_f, hIv, hCf, hRf, rfl, rfl, rfl, rfl, rfl, rfl, rfl, rfl, rfl, rfl, rfl, rfl, rfl, rfl, rfl, rfl, rfl, rfl, rfl, rfl⟩ hP hD hS dX11_law_12 (Nat.le_refl _) (Nat.le_refl _)
set_option maxHeartbeats 4000000 in
set_option maxRecDepth 100000 in
theorem sY_X11_ease_1 (l : Launch) (dC : Nat → ClassId) (dI : Nat → Nat → Nat) (cy : Nat → ClassId) (y0 : Nat) (r : Nat → Nat)  (v : Nat → Int32) (f : Nat → Nat → Int32) (w : Int64) (g : Nat → Int64) (hIv : YI v) (hCf : YC f) (hRf : progOK (f 4) (f 5) (v 9).toInt.toNat)  : ctI l (dC, dI) cy yX11_ease cX11_ease 3 .int 5 147 0 0 ((Nat → Int32) × (Nat → Nat → Int32) × (Int64) × (Nat → Int64)) [.ref y0] (YW cy y0 r v f w g) (fun r u => KV [] u.1 v ∧ KF [7, 8, 24] u.2.1 f ∧ YI u.1 ∧ YC u.2.1 ∧ progOK (u.2.1 4) (u.2.1 5) (u.1 9).toInt.toNat ∧ u.1 0 = v 0 ∧ u.1 1 = v 1 ∧ u.1 2 = v 2 ∧ u.1 3 = v 3 ∧ u.1 4 = v 4 ∧ u.1 5 = v 5 ∧ u.1 8 = v 8 ∧ u.1 9 = v 9 ∧ u.1 10 = v 10 ∧ u.1 13 = v 13 ∧ u.1 14 = v 14 ∧ u.1 15 = v 15 ∧ u.1 17 = v 17 ∧ u.1 18 = v 18 ∧ u.1 24 = v 24 ∧ u.1 25 = v 25 ∧ u.1 35 = v 35 ∧ u.1 36 = v 36 ∧ u.1 38 = v 38 ∧ u.1 39 = v 39) (fun u => YW cy y0 r u.1 u.2.1 u.2.2.1 u.2.2.2) := by
  refine ctI_of (by decide) (Nat.le_of_ble_eq_true rfl) (fun p e s m below meth c A ls Q hx hb hml hts hown hE hP hD hA hl ret => ?_)
  have hM_v : KV [] v v := fun _ _ => rfl
  have hA_f : KF [7, 8, 24] f f := fun _ _ => rfl
  have hown : s.vm.findClass RX11 = some m.cls := hown
  have hS : va_S A s.heap s.heap [] := va_S.rf
  have hl : lv_has ls 3 [(0, .ref y0)] := hl
  refine lv_aload_n hx hb dX11_ease_0 rfl (lv_at hl 0 rfl) ?_
  refine cbVv (n := 0) (rest := []) hx hb hml hown hts hE hP hD hS hA (sY_X11_fill_1 0 l dC dI cy y0 r  v f w g hIv hCf hRf ) k_1739 k_1741 k_71 k_114 k_1742 hd_yX11_fill ⟨Nat.le_of_ble_eq_true rfl, Nat.le_of_ble_eq_true rfl⟩ 0 11 rfl rfl (rfl) hl.1 rfl (Nat.le_of_ble_eq_true rfl) dX11_ease_1 (fun u H locs hw hP hD hS => ?_)
  obtain ⟨hG1, hw⟩ := hw
  obtain ⟨v2, f3, w4, g5⟩ := u
  obtain ⟨kV_v2, kF_f3, hIv2, hCf3, hRf3, hk0_v2, hk1_v2, hk2_v2, hk3_v2, hk4_v2, hk5_v2, hk8_v2, hk9_v2, hk10_v2, hk13_v2, hk14_v2, hk15_v2, hk17_v2, hk18_v2, hk24_v2, hk25_v2, hk35_v2, hk36_v2, hk38_v2, hk39_v2⟩ := hw
  have hM_v2 : KV [] v2 v := KV.tr kV_v2 hM_v rfl
  have hA_f3 : KF [7, 8, 24] f3 f := KF.tr kF_f3 hA_f rfl
  have hP : va_P (dC, dI) vwCl (YW cy y0 r v2 f3 w4 g5) H := hP
  have hD : va_D A (YW cy y0 r v2 f3 w4 g5) := hD
  have hq0_v2 : v2 0 = (v 0) := hk0_v2
  have hq1_v2 : v2 1 = (v 1) := hk1_v2
  have hq2_v2 : v2 2 = (v 2) := hk2_v2
  have hq3_v2 : v2 3 = (v 3) := hk3_v2
  have hq4_v2 : v2 4 = (v 4) := hk4_v2
  have hq5_v2 : v2 5 = (v 5) := hk5_v2
  have hq8_v2 : v2 8 = (v 8) := hk8_v2
  have hq9_v2 : v2 9 = (v 9) := hk9_v2
  have hq10_v2 : v2 10 = (v 10) := hk10_v2
  have hq13_v2 : v2 13 = (v 13) := hk13_v2
  have hq14_v2 : v2 14 = (v 14) := hk14_v2
  have hq15_v2 : v2 15 = (v 15) := hk15_v2
  have hq17_v2 : v2 17 = (v 17) := hk17_v2
  have hq18_v2 : v2 18 = (v 18) := hk18_v2
  have hq24_v2 : v2 24 = (v 24) := hk24_v2
  have hq25_v2 : v2 25 = (v 25) := hk25_v2
  have hq35_v2 : v2 35 = (v 35) := hk35_v2
  have hq36_v2 : v2 36 = (v 36) := hk36_v2
  have hq38_v2 : v2 38 = (v 38) := hk38_v2
  have hq39_v2 : v2 39 = (v 39) := hk39_v2
  refine lv_iconst (v := 0) hx hb dX11_ease_4 rfl ?_
  refine lv_istore_n (lv' := [(1, .int 0), (0, .ref y0)]) hx hb dX11_ease_5 rfl hl (Nat.le_of_ble_eq_true rfl) rfl (fun ls hl => ?_)
  refine lv_iconst (v := 0) hx hb dX11_ease_6 rfl ?_
  refine lv_istore_n (lv' := [(2, .int 0), (1, .int 0), (0, .ref y0)]) hx hb dX11_ease_7 rfl hl (Nat.le_of_ble_eq_true rfl) rfl (fun ls hl => ?_)
  have lp6 : ∀ (n6 : Nat) (l1_6 : Int32) (l2_6 : Int32) (v6 : Nat → Int32) (f6 : Nat → Nat → Int32) (w6 : Int64) (g6 : Nat → Int64), YI v6 → YC f6 → progOK (f6 4) (f6 5) (v6 9).toInt.toNat → v6 0 = (v 0) → v6 1 = (v 1) → v6 2 = (v 2) → v6 3 = (v 3) → v6 4 = (v 4) → v6 5 = (v 5) → v6 8 = (v 8) → v6 9 = (v 9) → v6 10 = (v 10) → v6 13 = (v 13) → v6 14 = (v 14) → v6 15 = (v 15) → v6 17 = (v 17) → v6 18 = (v 18) → v6 24 = (v 24) → v6 25 = (v 25) → v6 35 = (v 35) → v6 36 = (v 36) → v6 38 = (v 38) → v6 39 = (v 39) → ((0 : Int) ≤ l2_6.toInt ∧ l2_6.toInt ≤ 2147483647) → KV [] v6 v → KF [7, 8, 24] f6 f → (2147483647 - l2_6.toInt).toNat < n6 → ∀ (H : Heap) (locs : List Loc) (ls : Array Slot), va_P (dC, dI) vwCl (YW cy y0 r v6 f6 w6 g6) H → va_D A (YW cy y0 r v6 f6 w6 g6) → va_S A s.heap H locs → lv_has ls 3 [(2, .int l2_6), (1, .int l1_6), (0, .ref y0)] → W p l e { frames := 5, cells := 0, slots := 0, locals := 147 } s m ([.ref y0] : List Value).toArray below meth c H locs 0 0 Q (F0 m 8 ls []) := by
    intro n6
    induction n6 with
    | zero => intro l1_6 l2_6 v6 f6 w6 g6 hIv6 hCf6 hRf6 hq0_v6 hq1_v6 hq2_v6 hq3_v6 hq4_v6 hq5_v6 hq8_v6 hq9_v6 hq10_v6 hq13_v6 hq14_v6 hq15_v6 hq17_v6 hq18_v6 hq24_v6 hq25_v6 hq35_v6 hq36_v6 hq38_v6 hq39_v6 hr2_6 hM_v6 hA_f6 hm; exact absurd hm (Nat.not_lt_zero _)
    | succ n6 ih6 =>
      intro l1_6 l2_6 v6 f6 w6 g6 hIv6 hCf6 hRf6 hq0_v6 hq1_v6 hq2_v6 hq3_v6 hq4_v6 hq5_v6 hq8_v6 hq9_v6 hq10_v6 hq13_v6 hq14_v6 hq15_v6 hq17_v6 hq18_v6 hq24_v6 hq25_v6 hq35_v6 hq36_v6 hq38_v6 hq39_v6 hr2_6 hM_v6 hA_f6 hm6 H locs ls hP hD hS hl
      refine lv_iload_n hx hb dX11_ease_8 rfl (lv_at hl 0 rfl) ?_
      refine lv_aload_n hx hb dX11_ease_9 rfl (lv_at hl 2 rfl) ?_
      refine va_get (D := (dC, dI)) (ci := 11) (v := .int (v6 24)) (C := RX11) (T := TX11) (N := 79) hx hb hts inB_11 hown hE.1 hP 0 rfl rfl 48 (Nat.le_of_ble_eq_true rfl) (hts _ k_1368) (fun _ h9 => h9) rfl dX11_ease_10 ?_
      refine tI (y := (v 24)) hq24_v6 ?_
      have b24_v : 0 ≤ (v 24).toInt ∧ (v 24).toInt ≤ 6 := Yb_24 hIv.1
      refine lv_icmp_ge (tgt := 32) hx hb dX11_ease_13 rfl (fun c7 => ?_) (fun c7 => ?_)
      · skip
        refine lv_iload_n hx hb dX11_ease_32 rfl (lv_at hl 1 rfl) ?_
        exact ret l1_6 (v6, f6, w6, g6) _ _ _ _ _ _ rfl ⟨hM_v6, hA_f6, hIv6, hCf6, hRf6, hq0_v6, hq1_v6, hq2_v6, hq3_v6, hq4_v6, hq5_v6, hq8_v6, hq9_v6, hq10_v6, hq13_v6, hq14_v6, hq15_v6, hq17_v6, hq18_v6, hq24_v6, hq25_v6, hq35_v6, hq36_v6, hq38_v6, hq39_v6⟩ hP hD hS dX11_ease_33 (Nat.le_refl _) (Nat.le_refl _)
      · skip
        have zc7 : ¬ ((v 24).toInt ≤ l2_6.toInt) := zMn rfl rfl c7
        refine lv_iload_n hx hb dX11_ease_16 rfl (lv_at hl 1 rfl) ?_
        refine lv_aload_n hx hb dX11_ease_17 rfl (lv_at hl 2 rfl) ?_
        refine lv_iload_n hx hb dX11_ease_18 rfl (lv_at hl 0 rfl) ?_
        refine cbVi (n := 1) (rest := [.int l1_6]) hx hb hml hown hts hE hP hD hS hA (sY_X11_ownIll_1 l dC dI cy y0 r l2_6 v6 f6 w6 g6 hIv6 hCf6 hRf6 ⟨show (0 : Int) ≤ l2_6.toInt from om_39 hr2_6, show l2_6.toInt ≤ (5 : Int) from om_100 b24_v zc7⟩) k_1984 k_1986 k_96 k_114 k_1987 hd_yX11_ownIll ⟨Nat.le_of_ble_eq_true rfl, Nat.le_of_ble_eq_true rfl⟩ 0 11 rfl rfl (rfl) hl.1 rfl (Nat.le_of_ble_eq_true rfl) dX11_ease_19 (fun r12 u H locs hw hP hD hS => ?_)
        obtain ⟨v13, f14, w15, g16⟩ := u
        obtain ⟨kV_v13, kF_f14, hIv13, hCf14, hRf14, hk0_v13, hk1_v13, hk2_v13, hk3_v13, hk4_v13, hk5_v13, hk8_v13, hk9_v13, hk10_v13, hk13_v13, hk14_v13, hk15_v13, hk17_v13, hk18_v13, hk24_v13, hk25_v13, hk35_v13, hk36_v13, hk38_v13, hk39_v13⟩ := hw
        have hM_v13 : KV [] v13 v := KV.tr kV_v13 hM_v6 rfl
        have hA_f14 : KF [7, 8, 24] f14 f := KF.tr kF_f14 hA_f6 rfl
        have hP : va_P (dC, dI) vwCl (YW cy y0 r v13 f14 w15 g16) H := hP
        have hD : va_D A (YW cy y0 r v13 f14 w15 g16) := hD
        have hq0_v13 : v13 0 = (v 0) := hk0_v13.trans hq0_v6
        have hq1_v13 : v13 1 = (v 1) := hk1_v13.trans hq1_v6
        have hq2_v13 : v13 2 = (v 2) := hk2_v13.trans hq2_v6
        have hq3_v13 : v13 3 = (v 3) := hk3_v13.trans hq3_v6
        have hq4_v13 : v13 4 = (v 4) := hk4_v13.trans hq4_v6
        have hq5_v13 : v13 5 = (v 5) := hk5_v13.trans hq5_v6
        have hq8_v13 : v13 8 = (v 8) := hk8_v13.trans hq8_v6
        have hq9_v13 : v13 9 = (v 9) := hk9_v13.trans hq9_v6
        have hq10_v13 : v13 10 = (v 10) := hk10_v13.trans hq10_v6
        have hq13_v13 : v13 13 = (v 13) := hk13_v13.trans hq13_v6
        have hq14_v13 : v13 14 = (v 14) := hk14_v13.trans hq14_v6
        have hq15_v13 : v13 15 = (v 15) := hk15_v13.trans hq15_v6
        have hq17_v13 : v13 17 = (v 17) := hk17_v13.trans hq17_v6
        have hq18_v13 : v13 18 = (v 18) := hk18_v13.trans hq18_v6
        have hq24_v13 : v13 24 = (v 24) := hk24_v13.trans hq24_v6
        have hq25_v13 : v13 25 = (v 25) := hk25_v13.trans hq25_v6
        have hq35_v13 : v13 35 = (v 35) := hk35_v13.trans hq35_v6
        have hq36_v13 : v13 36 = (v 36) := hk36_v13.trans hq36_v6
        have hq38_v13 : v13 38 = (v 38) := hk38_v13.trans hq38_v6
        have hq39_v13 : v13 39 = (v 39) := hk39_v13.trans hq39_v6
        refine cbSi (n := 2) (rest := []) hx hb hml hown hts hE hP hD hS hA (sY_X11_greater_1 0 l dC dI cy y0 r l1_6 r12 v13 f14 w15 g16 hIv13 hCf14 hRf14 ) k_1802 k_1803 k_114 k_1804 he_yX11_greater ⟨Nat.le_of_ble_eq_true rfl, Nat.le_of_ble_eq_true rfl⟩ (rfl) hl.1 rfl (Nat.le_of_ble_eq_true rfl) dX11_ease_22 (fun r17 u H locs hw hP hD hS => ?_)
        have hG18 := hw
        refine lv_istore_n (lv' := [(1, .int r17), (2, .int l2_6), (0, .ref y0)]) hx hb dX11_ease_25 rfl hl (Nat.le_of_ble_eq_true rfl) rfl (fun ls hl => ?_)
        obtain ⟨t19, et19⟩ : ∃ y : Int32, y = l2_6 + 1 := ⟨_, rfl⟩
        have zt19 : t19.toInt = l2_6.toInt + 1 := (congrArg Int32.toInt et19).trans (add_i rfl tc_1 (om_41 hr2_6) (om_187 b24_v zc7))
        refine lv_iinc (v := t19) (lv' := [(2, .int t19), (1, .int r17), (0, .ref y0)]) hx hb dX11_ease_26 hl (k := 1) rfl et19.symm (Nat.le_of_ble_eq_true rfl) rfl (fun ls hl => ?_)
        refine lv_goto (tgt := 8) hx hb dX11_ease_29 rfl ?_
        have rg20 := fb_rng t19
        exact ih6 r17 t19 v13 f14 w15 g16 hIv13 hCf14 hRf14 hq0_v13 hq1_v13 hq2_v13 hq3_v13 hq4_v13 hq5_v13 hq8_v13 hq9_v13 hq10_v13 hq13_v13 hq14_v13 hq15_v13 hq17_v13 hq18_v13 hq24_v13 hq25_v13 hq35_v13 hq36_v13 hq38_v13 hq39_v13 ⟨show (0 : Int) ≤ t19.toInt from om_43 hr2_6 zt19, show t19.toInt ≤ (2147483647 : Int) from om_44 rg20⟩ hM_v13 hA_f14 (show (2147483647 - t19.toInt).toNat < n6 from om_33 hm6 zt19 rg20) _ _ _ hP hD hS (lv_sub hl [0, 1, 2] rfl)
  exact lp6 _ 0 0 v2 f3 w4 g5 hIv2 hCf3 hRf3 hq0_v2 hq1_v2 hq2_v2 hq3_v2 hq4_v2 hq5_v2 hq8_v2 hq9_v2 hq10_v2 hq13_v2 hq14_v2 hq15_v2 hq17_v2 hq18_v2 hq24_v2 hq25_v2 hq35_v2 hq36_v2 hq38_v2 hq39_v2 ⟨by decide, by decide⟩ hM_v2 hA_f3 (Nat.lt_succ_self _) _ _ _ hP hD hS (lv_sub hl [0, 1, 2] rfl)
set_option maxHeartbeats 4000000 in
set_option maxRecDepth 100000 in
theorem sY_X11_rout_1 (l : Launch) (dC : Nat → ClassId) (dI : Nat → Nat → Nat) (cy : Nat → ClassId) (y0 : Nat) (r : Nat → Nat)  (v : Nat → Int32) (f : Nat → Nat → Int32) (w : Int64) (g : Nat → Int64) (hIv : YI v) (hCf : YC f) (hRf : progOK (f 4) (f 5) (v 9).toInt.toNat)  : ctI l (dC, dI) cy yX11_rout cX11_rout 2 .int 8 214 0 0 ((Nat → Int32) × (Nat → Nat → Int32) × (Int64) × (Nat → Int64)) [.ref y0] (YW cy y0 r v f w g) (fun r u => KV [] u.1 v ∧ KF [7, 8, 24] u.2.1 f ∧ YI u.1 ∧ YC u.2.1 ∧ progOK (u.2.1 4) (u.2.1 5) (u.1 9).toInt.toNat ∧ u.1 0 = v 0 ∧ u.1 1 = v 1 ∧ u.1 2 = v 2 ∧ u.1 3 = v 3 ∧ u.1 4 = v 4 ∧ u.1 5 = v 5 ∧ u.1 8 = v 8 ∧ u.1 9 = v 9 ∧ u.1 10 = v 10 ∧ u.1 13 = v 13 ∧ u.1 14 = v 14 ∧ u.1 15 = v 15 ∧ u.1 17 = v 17 ∧ u.1 18 = v 18 ∧ u.1 24 = v 24 ∧ u.1 25 = v 25 ∧ u.1 35 = v 35 ∧ u.1 36 = v 36 ∧ u.1 38 = v 38 ∧ u.1 39 = v 39) (fun u => YW cy y0 r u.1 u.2.1 u.2.2.1 u.2.2.2) := by
  refine ctI_of (by decide) (Nat.le_of_ble_eq_true rfl) (fun p e s m below meth c A ls Q hx hb hml hts hown hE hP hD hA hl ret => ?_)
  have hM_v : KV [] v v := fun _ _ => rfl
  have hA_f : KF [7, 8, 24] f f := fun _ _ => rfl
  have hown : s.vm.findClass RX11 = some m.cls := hown
  have hS : va_S A s.heap s.heap [] := va_S.rf
  have hl : lv_has ls 2 [(0, .ref y0)] := hl
  refine lv_aload_n hx hb dX11_rout_0 rfl (lv_at hl 0 rfl) ?_
  refine cbVv (n := 0) (rest := []) hx hb hml hown hts hE hP hD hS hA (sY_X11_fill_1 0 l dC dI cy y0 r  v f w g hIv hCf hRf ) k_1739 k_1741 k_71 k_114 k_1742 hd_yX11_fill ⟨Nat.le_of_ble_eq_true rfl, Nat.le_of_ble_eq_true rfl⟩ 0 11 rfl rfl (rfl) hl.1 rfl (Nat.le_of_ble_eq_true rfl) dX11_rout_1 (fun u H locs hw hP hD hS => ?_)
  obtain ⟨hG1, hw⟩ := hw
  obtain ⟨v2, f3, w4, g5⟩ := u
  obtain ⟨kV_v2, kF_f3, hIv2, hCf3, hRf3, hk0_v2, hk1_v2, hk2_v2, hk3_v2, hk4_v2, hk5_v2, hk8_v2, hk9_v2, hk10_v2, hk13_v2, hk14_v2, hk15_v2, hk17_v2, hk18_v2, hk24_v2, hk25_v2, hk35_v2, hk36_v2, hk38_v2, hk39_v2⟩ := hw
  have hM_v2 : KV [] v2 v := KV.tr kV_v2 hM_v rfl
  have hA_f3 : KF [7, 8, 24] f3 f := KF.tr kF_f3 hA_f rfl
  have hP : va_P (dC, dI) vwCl (YW cy y0 r v2 f3 w4 g5) H := hP
  have hD : va_D A (YW cy y0 r v2 f3 w4 g5) := hD
  have hq0_v2 : v2 0 = (v 0) := hk0_v2
  have hq1_v2 : v2 1 = (v 1) := hk1_v2
  have hq2_v2 : v2 2 = (v 2) := hk2_v2
  have hq3_v2 : v2 3 = (v 3) := hk3_v2
  have hq4_v2 : v2 4 = (v 4) := hk4_v2
  have hq5_v2 : v2 5 = (v 5) := hk5_v2
  have hq8_v2 : v2 8 = (v 8) := hk8_v2
  have hq9_v2 : v2 9 = (v 9) := hk9_v2
  have hq10_v2 : v2 10 = (v 10) := hk10_v2
  have hq13_v2 : v2 13 = (v 13) := hk13_v2
  have hq14_v2 : v2 14 = (v 14) := hk14_v2
  have hq15_v2 : v2 15 = (v 15) := hk15_v2
  have hq17_v2 : v2 17 = (v 17) := hk17_v2
  have hq18_v2 : v2 18 = (v 18) := hk18_v2
  have hq24_v2 : v2 24 = (v 24) := hk24_v2
  have hq25_v2 : v2 25 = (v 25) := hk25_v2
  have hq35_v2 : v2 35 = (v 35) := hk35_v2
  have hq36_v2 : v2 36 = (v 36) := hk36_v2
  have hq38_v2 : v2 38 = (v 38) := hk38_v2
  have hq39_v2 : v2 39 = (v 39) := hk39_v2
  refine lv_iconst (v := 0) hx hb dX11_rout_4 rfl ?_
  refine lv_istore_n (lv' := [(1, .int 0), (0, .ref y0)]) hx hb dX11_rout_5 rfl hl (Nat.le_of_ble_eq_true rfl) rfl (fun ls hl => ?_)
  have lp6 : ∀ (n6 : Nat) (l1_6 : Int32) (v6 : Nat → Int32) (f6 : Nat → Nat → Int32) (w6 : Int64) (g6 : Nat → Int64), YI v6 → YC f6 → progOK (f6 4) (f6 5) (v6 9).toInt.toNat → v6 0 = (v 0) → v6 1 = (v 1) → v6 2 = (v 2) → v6 3 = (v 3) → v6 4 = (v 4) → v6 5 = (v 5) → v6 8 = (v 8) → v6 9 = (v 9) → v6 10 = (v 10) → v6 13 = (v 13) → v6 14 = (v 14) → v6 15 = (v 15) → v6 17 = (v 17) → v6 18 = (v 18) → v6 24 = (v 24) → v6 25 = (v 25) → v6 35 = (v 35) → v6 36 = (v 36) → v6 38 = (v 38) → v6 39 = (v 39) → ((0 : Int) ≤ l1_6.toInt ∧ l1_6.toInt ≤ 2147483647) → KV [] v6 v → KF [7, 8, 24] f6 f → (2147483647 - l1_6.toInt).toNat < n6 → ∀ (H : Heap) (locs : List Loc) (ls : Array Slot), va_P (dC, dI) vwCl (YW cy y0 r v6 f6 w6 g6) H → va_D A (YW cy y0 r v6 f6 w6 g6) → va_S A s.heap H locs → lv_has ls 2 [(1, .int l1_6), (0, .ref y0)] → W p l e { frames := 8, cells := 0, slots := 0, locals := 214 } s m ([.ref y0] : List Value).toArray below meth c H locs 0 0 Q (F0 m 6 ls []) := by
    intro n6
    induction n6 with
    | zero => intro l1_6 v6 f6 w6 g6 hIv6 hCf6 hRf6 hq0_v6 hq1_v6 hq2_v6 hq3_v6 hq4_v6 hq5_v6 hq8_v6 hq9_v6 hq10_v6 hq13_v6 hq14_v6 hq15_v6 hq17_v6 hq18_v6 hq24_v6 hq25_v6 hq35_v6 hq36_v6 hq38_v6 hq39_v6 hr1_6 hM_v6 hA_f6 hm; exact absurd hm (Nat.not_lt_zero _)
    | succ n6 ih6 =>
      intro l1_6 v6 f6 w6 g6 hIv6 hCf6 hRf6 hq0_v6 hq1_v6 hq2_v6 hq3_v6 hq4_v6 hq5_v6 hq8_v6 hq9_v6 hq10_v6 hq13_v6 hq14_v6 hq15_v6 hq17_v6 hq18_v6 hq24_v6 hq25_v6 hq35_v6 hq36_v6 hq38_v6 hq39_v6 hr1_6 hM_v6 hA_f6 hm6 H locs ls hP hD hS hl
      refine lv_iload_n hx hb dX11_rout_6 rfl (lv_at hl 0 rfl) ?_
      refine lv_bipush (v := 60) hx hb dX11_rout_7 rfl ?_
      refine lv_icmp_gt (tgt := 33) hx hb dX11_rout_9 rfl (fun c7 => ?_) (fun c7 => ?_)
      · skip
        refine lv_iconst (v := (-1)) hx hb dX11_rout_33 rfl ?_
        exact ret (-1) (v6, f6, w6, g6) _ _ _ _ _ _ rfl ⟨hM_v6, hA_f6, hIv6, hCf6, hRf6, hq0_v6, hq1_v6, hq2_v6, hq3_v6, hq4_v6, hq5_v6, hq8_v6, hq9_v6, hq10_v6, hq13_v6, hq14_v6, hq15_v6, hq17_v6, hq18_v6, hq24_v6, hq25_v6, hq35_v6, hq36_v6, hq38_v6, hq39_v6⟩ hP hD hS dX11_rout_34 (Nat.le_refl _) (Nat.le_refl _)
      · skip
        have zc7 : ¬ (60 < l1_6.toInt) := zLn tc_60 rfl c7
        refine lv_aload_n hx hb dX11_rout_12 rfl (lv_at hl 1 rfl) ?_
        refine cbVi (n := 0) (rest := []) hx hb hml hown hts hE hP hD hS hA (sY_X11_wearers_1 0 l dC dI cy y0 r  v6 f6 w6 g6 hIv6 hCf6 hRf6 ) k_1805 k_1807 k_80 k_114 k_1808 hd_yX11_wearers ⟨Nat.le_of_ble_eq_true rfl, Nat.le_of_ble_eq_true rfl⟩ 0 11 rfl rfl (rfl) hl.1 rfl (Nat.le_of_ble_eq_true rfl) dX11_rout_13 (fun r8 u H locs hw hP hD hS => ?_)
        obtain ⟨hG9, hw⟩ := hw
        refine lv_if_ne (tgt := 21) hx hb dX11_rout_16 rfl (fun c10 => ?_) (fun c10 => ?_)
        · skip
          refine lv_aload_n hx hb dX11_rout_21 rfl (lv_at hl 1 rfl) ?_
          refine lv_iconst (v := 0) hx hb dX11_rout_22 rfl ?_
          refine cbVi (n := 1) (rest := []) hx hb hml hown hts hE hP hD hS hA (sY_X11_goDay_1 0 l dC dI cy y0 r 0 v6 f6 w6 g6 hIv6 hCf6 hRf6 ) k_1795 k_1797 k_79 k_114 k_1798 hd_yX11_goDay ⟨Nat.le_of_ble_eq_true rfl, Nat.le_of_ble_eq_true rfl⟩ 0 11 rfl rfl (rfl) hl.1 rfl (Nat.le_of_ble_eq_true rfl) dX11_rout_23 (fun r11 u H locs hw hP hD hS => ?_)
          obtain ⟨hG12, hw⟩ := hw
          obtain ⟨v13, f14, w15, g16⟩ := u
          obtain ⟨kV_v13, kF_f14, hIv13, hCf14, hRf14, hk0_v13, hk1_v13, hk2_v13, hk3_v13, hk4_v13, hk5_v13, hk8_v13, hk9_v13, hk10_v13, hk13_v13, hk14_v13, hk15_v13, hk17_v13, hk18_v13, hk24_v13, hk25_v13, hk35_v13, hk36_v13, hk38_v13, hk39_v13⟩ := hw
          have hM_v13 : KV [] v13 v := KV.tr kV_v13 hM_v6 rfl
          have hA_f14 : KF [7, 8, 24] f14 f := KF.tr kF_f14 hA_f6 rfl
          have hP : va_P (dC, dI) vwCl (YW cy y0 r v13 f14 w15 g16) H := hP
          have hD : va_D A (YW cy y0 r v13 f14 w15 g16) := hD
          have hq0_v13 : v13 0 = (v 0) := hk0_v13.trans hq0_v6
          have hq1_v13 : v13 1 = (v 1) := hk1_v13.trans hq1_v6
          have hq2_v13 : v13 2 = (v 2) := hk2_v13.trans hq2_v6
          have hq3_v13 : v13 3 = (v 3) := hk3_v13.trans hq3_v6
          have hq4_v13 : v13 4 = (v 4) := hk4_v13.trans hq4_v6
          have hq5_v13 : v13 5 = (v 5) := hk5_v13.trans hq5_v6
          have hq8_v13 : v13 8 = (v 8) := hk8_v13.trans hq8_v6
          have hq9_v13 : v13 9 = (v 9) := hk9_v13.trans hq9_v6
          have hq10_v13 : v13 10 = (v 10) := hk10_v13.trans hq10_v6
          have hq13_v13 : v13 13 = (v 13) := hk13_v13.trans hq13_v6
          have hq14_v13 : v13 14 = (v 14) := hk14_v13.trans hq14_v6
          have hq15_v13 : v13 15 = (v 15) := hk15_v13.trans hq15_v6
          have hq17_v13 : v13 17 = (v 17) := hk17_v13.trans hq17_v6
          have hq18_v13 : v13 18 = (v 18) := hk18_v13.trans hq18_v6
          have hq24_v13 : v13 24 = (v 24) := hk24_v13.trans hq24_v6
          have hq25_v13 : v13 25 = (v 25) := hk25_v13.trans hq25_v6
          have hq35_v13 : v13 35 = (v 35) := hk35_v13.trans hq35_v6
          have hq36_v13 : v13 36 = (v 36) := hk36_v13.trans hq36_v6
          have hq38_v13 : v13 38 = (v 38) := hk38_v13.trans hq38_v6
          have hq39_v13 : v13 39 = (v 39) := hk39_v13.trans hq39_v6
          refine lv_pop hx hb dX11_rout_26 rfl ?_
          obtain ⟨t17, et17⟩ : ∃ y : Int32, y = l1_6 + 1 := ⟨_, rfl⟩
          have zt17 : t17.toInt = l1_6.toInt + 1 := (congrArg Int32.toInt et17).trans (add_i rfl tc_1 (om_41 hr1_6) (om_197 zc7))
          refine lv_iinc (v := t17) (lv' := [(1, .int t17), (0, .ref y0)]) hx hb dX11_rout_27 hl (k := 0) rfl et17.symm (Nat.le_of_ble_eq_true rfl) rfl (fun ls hl => ?_)
          refine lv_goto (tgt := 6) hx hb dX11_rout_30 rfl ?_
          have rg19 := fb_rng t17
          exact ih6 t17 v13 f14 w15 g16 hIv13 hCf14 hRf14 hq0_v13 hq1_v13 hq2_v13 hq3_v13 hq4_v13 hq5_v13 hq8_v13 hq9_v13 hq10_v13 hq13_v13 hq14_v13 hq15_v13 hq17_v13 hq18_v13 hq24_v13 hq25_v13 hq35_v13 hq36_v13 hq38_v13 hq39_v13 ⟨show (0 : Int) ≤ t17.toInt from om_43 hr1_6 zt17, show t17.toInt ≤ (2147483647 : Int) from om_44 rg19⟩ hM_v13 hA_f14 (show (2147483647 - t17.toInt).toNat < n6 from om_33 hm6 zt17 rg19) _ _ _ hP hD hS (lv_sub hl [0, 1] rfl)
        · skip
          refine lv_iload_n hx hb dX11_rout_19 rfl (lv_at hl 0 rfl) ?_
          exact ret l1_6 (v6, f6, w6, g6) _ _ _ _ _ _ rfl ⟨hM_v6, hA_f6, hIv6, hCf6, hRf6, hq0_v6, hq1_v6, hq2_v6, hq3_v6, hq4_v6, hq5_v6, hq8_v6, hq9_v6, hq10_v6, hq13_v6, hq14_v6, hq15_v6, hq17_v6, hq18_v6, hq24_v6, hq25_v6, hq35_v6, hq36_v6, hq38_v6, hq39_v6⟩ hP hD hS dX11_rout_20 (Nat.le_refl _) (Nat.le_refl _)
  exact lp6 _ 0 v2 f3 w4 g5 hIv2 hCf3 hRf3 hq0_v2 hq1_v2 hq2_v2 hq3_v2 hq4_v2 hq5_v2 hq8_v2 hq9_v2 hq10_v2 hq13_v2 hq14_v2 hq15_v2 hq17_v2 hq18_v2 hq24_v2 hq25_v2 hq35_v2 hq36_v2 hq38_v2 hq39_v2 ⟨by decide, by decide⟩ hM_v2 hA_f3 (Nat.lt_succ_self _) _ _ _ hP hD hS (lv_sub hl [0, 1] rfl)
set_option maxHeartbeats 4000000 in
set_option maxRecDepth 100000 in
theorem sY_X11_lies_1 (l : Launch) (dC : Nat → ClassId) (dI : Nat → Nat → Nat) (cy : Nat → ClassId) (y0 : Nat) (r : Nat → Nat) (p1 : Int32) (v : Nat → Int32) (f : Nat → Nat → Int32) (w : Int64) (g : Nat → Int64) (hIv : YI v) (hCf : YC f) (hRf : progOK (f 4) (f 5) (v 9).toInt.toNat)  : ctI l (dC, dI) cy yX11_lies cX11_lies 2 .int 2 82 0 0 Unit [.ref y0, .int p1] (YW cy y0 r v f w g) (fun r u => True) (fun u => YW cy y0 r v f w g) := by
  refine ctI_of (by decide) (Nat.le_of_ble_eq_true rfl) (fun p e s m below meth c A ls Q hx hb hml hts hown hE hP hD hA hl ret => ?_)
  have hown : s.vm.findClass RX11 = some m.cls := hown
  have hS : va_S A s.heap s.heap [] := va_S.rf
  have hl : lv_has ls 2 [(0, .ref y0), (1, .int p1)] := hl
  refine lv_iload_n hx hb dX11_lies_0 rfl (lv_at hl 1 rfl) ?_
  refine lv_iconst (v := 0) hx hb dX11_lies_1 rfl ?_
  refine lv_aload_n hx hb dX11_lies_2 rfl (lv_at hl 0 rfl) ?_
  refine va_get (D := (dC, dI)) (ci := 11) (v := .int (v 37)) (C := RX11) (T := TX11) (N := 79) hx hb hts inB_11 hown hE.1 hP 0 rfl rfl 67 (Nat.le_of_ble_eq_true rfl) (hts _ k_1387) (fun _ h9 => h9) rfl dX11_lies_3 ?_
  have b37_v : 0 ≤ (v 37).toInt ∧ (v 37).toInt ≤ 6 := Yb_37 hIv.1
  refine lv_iconst (v := 1) hx hb dX11_lies_6 rfl ?_
  refine lv_isub hx hb dX11_lies_7 ?_
  refine lv_topi (fun t1 et1 => ?_)
  have zt1 : t1.toInt = (v 37).toInt - 1 := (congrArg Int32.toInt et1).trans (sub_i rfl tc_1 (om_224 b37_v) (om_225 b37_v))
  refine cbSi (n := 3) (rest := []) hx hb hml hown hts hE hP hD hS hA (sY_X11_isIn_1 0 l dC dI cy y0 r p1 0 t1 v f w g hIv hCf hRf ) k_1736 k_1737 k_114 k_1738 he_yX11_isIn ⟨Nat.le_of_ble_eq_true rfl, Nat.le_of_ble_eq_true rfl⟩ (rfl) hl.1 rfl (Nat.le_of_ble_eq_true rfl) dX11_lies_8 (fun r4 u H locs hw hP hD hS => ?_)
  obtain ⟨hG5, hw⟩ := hw
  rcases hw with ⟨g6, g6_0, g6_1⟩ | ⟨g6⟩
  · skip
    subst g6
    refine lv_if_eq (tgt := 23) hx hb dX11_lies_11 rfl (fun c0 => absurd c0 (by decide)) (fun _ => ?_)
    refine lv_aload_n hx hb dX11_lies_14 rfl (lv_at hl 0 rfl) ?_
    refine va_get (D := (dC, dI)) (ci := 11) (v := .ref (r 64)) (C := RX11) (T := TX11) (N := 79) hx hb hts inB_11 hown hE.1 hP 0 rfl rfl 64 (Nat.le_of_ble_eq_true rfl) (hts _ k_1384) (fun _ h9 => h9) rfl dX11_lies_15 ?_
    refine lv_iload_n hx hb dX11_lies_18 rfl (lv_at hl 1 rfl) ?_
    refine ldI hx hb hE hP 27 rfl (vpI (k := 6) rfl (show 0 ≤ p1.toInt from om_500 g6_0 tc_0) (show p1.toInt < 6 from om_743 b37_v zt1 g6_1)) rfl rfl dX11_lies_19 ?_
    refine lv_topi (fun t7 et7 => ?_)
    refine lv_goto (tgt := 25) hx hb dX11_lies_20 rfl ?_
    exact ret t7 () _ _ _ _ _ _ rfl trivial hP hD hS dX11_lies_25 (Nat.le_refl _) (Nat.le_refl _)
  · skip
    subst g6
    refine lv_if_eq (tgt := 23) hx hb dX11_lies_11 rfl (fun _ => ?_) (fun c0 => absurd (by decide) c0)
    refine lv_bipush (v := (-2)) hx hb dX11_lies_23 rfl ?_
    exact ret (-2) () _ _ _ _ _ _ rfl trivial hP hD hS dX11_lies_25 (Nat.le_refl _) (Nat.le_refl _)
set_option maxHeartbeats 4000000 in
set_option maxRecDepth 100000 in
theorem sY_X11_fitsGrowth_1 (l : Launch) (dC : Nat → ClassId) (dI : Nat → Nat → Nat) (cy : Nat → ClassId) (y0 : Nat) (r : Nat → Nat) (p1 : Int32) (p2 : Int32) (v : Nat → Int32) (f : Nat → Nat → Int32) (w : Int64) (g : Nat → Int64) (hIv : YI v) (hCf : YC f) (hRf : progOK (f 4) (f 5) (v 9).toInt.toNat) (hp1 : (0 : Int) ≤ p1.toInt ∧ p1.toInt ≤ 30) : ctI l (dC, dI) cy yX11_fitsGrowth cX11_fitsGrowth 5 .boolean 1 60 0 0 Unit [.ref y0, .int p1, .int p2] (YW cy y0 r v f w g) (fun r u => ((r = 1) ∨ (r = 0))) (fun u => YW cy y0 r v f w g) := by
  refine ctI_of (by decide) (Nat.le_of_ble_eq_true rfl) (fun p e s m below meth c A ls Q hx hb hml hts hown hE hP hD hA hl ret => ?_)
  have hown : s.vm.findClass RX11 = some m.cls := hown
  have hS : va_S A s.heap s.heap [] := va_S.rf
  have hl : lv_has ls 5 [(0, .ref y0), (1, .int p1), (2, .int p2)] := hl
  refine lv_iconst (v := 1) hx hb dX11_fitsGrowth_0 rfl ?_
  refine lv_istore_n (lv' := [(3, .int 1), (0, .ref y0), (1, .int p1), (2, .int p2)]) hx hb dX11_fitsGrowth_1 rfl hl (Nat.le_of_ble_eq_true rfl) rfl (fun ls hl => ?_)
  refine lv_iconst (v := 0) hx hb dX11_fitsGrowth_2 rfl ?_
  refine lv_istore (lv' := [(4, .int 0), (3, .int 1), (0, .ref y0), (1, .int p1), (2, .int p2)]) hx hb dX11_fitsGrowth_3 hl (Nat.le_of_ble_eq_true rfl) rfl (fun ls hl => ?_)
  have lp1 : ∀ (n1 : Nat) (l3_1 : Int32) (l4_1 : Int32), ((0 : Int) ≤ l3_1.toInt ∧ l3_1.toInt ≤ 1) → ((0 : Int) ≤ l4_1.toInt ∧ l4_1.toInt ≤ 2147483647) → (2147483647 - l4_1.toInt).toNat < n1 → ∀ (H : Heap) (locs : List Loc) (ls : Array Slot), va_P (dC, dI) vwCl (YW cy y0 r v f w g) H → va_D A (YW cy y0 r v f w g) → va_S A s.heap H locs → lv_has ls 5 [(4, .int l4_1), (3, .int l3_1), (0, .ref y0), (1, .int p1), (2, .int p2)] → W p l e { frames := 1, cells := 0, slots := 0, locals := 60 } s m ([.ref y0, .int p1, .int p2] : List Value).toArray below meth c H locs 0 0 Q (F0 m 5 ls []) := by
    intro n1
    induction n1 with
    | zero => intro l3_1 l4_1 hr3_1 hr4_1 hm; exact absurd hm (Nat.not_lt_zero _)
    | succ n1 ih1 =>
      intro l3_1 l4_1 hr3_1 hr4_1 hm1 H locs ls hP hD hS hl
      refine lv_iload hx hb dX11_fitsGrowth_5 (lv_at hl 0 rfl) ?_
      refine lv_aload_n hx hb dX11_fitsGrowth_7 rfl (lv_at hl 2 rfl) ?_
      refine va_get (D := (dC, dI)) (ci := 11) (v := .int (v 38)) (C := RX11) (T := TX11) (N := 79) hx hb hts inB_11 hown hE.1 hP 0 rfl rfl 73 (Nat.le_of_ble_eq_true rfl) (hts _ k_1393) (fun _ h9 => h9) rfl dX11_fitsGrowth_8 ?_
      have b38_v : 0 ≤ (v 38).toInt ∧ (v 38).toInt ≤ 30 := Yb_38 hIv.1
      refine lv_icmp_ge (tgt := 92) hx hb dX11_fitsGrowth_11 rfl (fun c2 => ?_) (fun c2 => ?_)
      · skip
        refine lv_iload_n hx hb dX11_fitsGrowth_92 rfl (lv_at hl 1 rfl) ?_
        rcases b01 (x := l3_1) (show 0 ≤ l3_1.toInt from om_367 hr3_1) (show l3_1.toInt ≤ 1 from om_368 hr3_1) with h5 | h5
        · skip
          refine tI (y := 1) h5 ?_
          exact ret 1 () _ _ _ _ _ _ rfl (Or.inl rfl) hP hD hS dX11_fitsGrowth_93 (Nat.le_refl _) (Nat.le_refl _)
        · skip
          refine tI (y := 0) h5 ?_
          exact ret 0 () _ _ _ _ _ _ rfl (Or.inr rfl) hP hD hS dX11_fitsGrowth_93 (Nat.le_refl _) (Nat.le_refl _)
      · skip
        have zc2 : ¬ ((v 38).toInt ≤ l4_1.toInt) := zMn rfl rfl c2
        refine lv_iload_n hx hb dX11_fitsGrowth_14 rfl (lv_at hl 1 rfl) ?_
        refine lv_if_eq (tgt := 92) hx hb dX11_fitsGrowth_15 rfl (fun c8 => ?_) (fun c8 => ?_)
        · skip
          have zc8 : l3_1.toInt = 0 := zEp rfl tc_0 c8
          refine lv_iload_n hx hb dX11_fitsGrowth_92 rfl (lv_at hl 1 rfl) ?_
          rcases b01 (x := l3_1) (show 0 ≤ l3_1.toInt from om_367 hr3_1) (show l3_1.toInt ≤ 1 from om_744 zc8) with h9 | h9
          · skip
            refine tI (y := 1) h9 ?_
            exact ret 1 () _ _ _ _ _ _ rfl (Or.inl rfl) hP hD hS dX11_fitsGrowth_93 (Nat.le_refl _) (Nat.le_refl _)
          · skip
            refine tI (y := 0) h9 ?_
            exact ret 0 () _ _ _ _ _ _ rfl (Or.inr rfl) hP hD hS dX11_fitsGrowth_93 (Nat.le_refl _) (Nat.le_refl _)
        · skip
          refine lv_aload_n hx hb dX11_fitsGrowth_18 rfl (lv_at hl 2 rfl) ?_
          refine va_get (D := (dC, dI)) (ci := 11) (v := .ref (r 70)) (C := RX11) (T := TX11) (N := 79) hx hb hts inB_11 hown hE.1 hP 0 rfl rfl 70 (Nat.le_of_ble_eq_true rfl) (hts _ k_1390) (fun _ h9 => h9) rfl dX11_fitsGrowth_19 ?_
          refine lv_iload hx hb dX11_fitsGrowth_22 (lv_at hl 0 rfl) ?_
          refine ldI hx hb hE hP 32 rfl (vpI (k := 30) rfl (show 0 ≤ l4_1.toInt from om_39 hr4_1) (show l4_1.toInt < 30 from om_745 b38_v zc2)) rfl rfl dX11_fitsGrowth_24 ?_
          refine lv_topi (fun t10 et10 => ?_)
          refine lv_iload_n hx hb dX11_fitsGrowth_25 rfl (lv_at hl 4 rfl) ?_
          refine lv_icmp_gt (tgt := 86) hx hb dX11_fitsGrowth_26 rfl (fun c11 => ?_) (fun c11 => ?_)
          · skip
            obtain ⟨t14, et14⟩ : ∃ y : Int32, y = l4_1 + 1 := ⟨_, rfl⟩
            have zt14 : t14.toInt = l4_1.toInt + 1 := (congrArg Int32.toInt et14).trans (add_i rfl tc_1 (om_41 hr4_1) (om_746 b38_v zc2))
            refine lv_iinc (v := t14) (lv' := [(4, .int t14), (3, .int l3_1), (0, .ref y0), (1, .int p1), (2, .int p2)]) hx hb dX11_fitsGrowth_86 hl (k := 0) rfl et14.symm (Nat.le_of_ble_eq_true rfl) rfl (fun ls hl => ?_)
            refine lv_goto (tgt := 5) hx hb dX11_fitsGrowth_89 rfl ?_
            have rg16 := fb_rng t14
            exact ih1 l3_1 t14 ⟨show (0 : Int) ≤ l3_1.toInt from om_367 hr3_1, show l3_1.toInt ≤ (1 : Int) from om_368 hr3_1⟩ ⟨show (0 : Int) ≤ t14.toInt from om_43 hr4_1 zt14, show t14.toInt ≤ (2147483647 : Int) from om_44 rg16⟩ (show (2147483647 - t14.toInt).toNat < n1 from om_33 hm1 zt14 rg16) _ _ _ hP hD hS (lv_sub hl [0, 1, 2, 3, 4] rfl)
          · skip
            refine lv_aload_n hx hb dX11_fitsGrowth_29 rfl (lv_at hl 2 rfl) ?_
            refine va_get (D := (dC, dI)) (ci := 11) (v := .ref (r 71)) (C := RX11) (T := TX11) (N := 79) hx hb hts inB_11 hown hE.1 hP 0 rfl rfl 71 (Nat.le_of_ble_eq_true rfl) (hts _ k_1391) (fun _ h9 => h9) rfl dX11_fitsGrowth_30 ?_
            refine lv_iload hx hb dX11_fitsGrowth_33 (lv_at hl 0 rfl) ?_
            refine ldI hx hb hE hP 33 rfl (vpI (k := 30) rfl (show 0 ≤ l4_1.toInt from om_39 hr4_1) (show l4_1.toInt < 30 from om_745 b38_v zc2)) rfl rfl dX11_fitsGrowth_35 ?_
            refine lv_topi (fun t19 et19 => ?_)
            refine lv_if_lt (tgt := 53) hx hb dX11_fitsGrowth_36 rfl (fun c20 => ?_) (fun c20 => ?_)
            · skip
              refine lv_aload_n hx hb dX11_fitsGrowth_53 rfl (lv_at hl 2 rfl) ?_
              refine va_get (D := (dC, dI)) (ci := 11) (v := .ref (r 75)) (C := RX11) (T := TX11) (N := 79) hx hb hts inB_11 hown hE.1 hP 0 rfl rfl 75 (Nat.le_of_ble_eq_true rfl) (hts _ k_1395) (fun _ h9 => h9) rfl dX11_fitsGrowth_54 ?_
              refine lv_bipush (v := 21) hx hb dX11_fitsGrowth_57 rfl ?_
              refine lv_iload_n hx hb dX11_fitsGrowth_59 rfl (lv_at hl 3 rfl) ?_
              refine lv_imul hx hb dX11_fitsGrowth_60 ?_
              refine lv_topi (fun t21 et21 => ?_)
              have zt21 : t21.toInt = 21 * p1.toInt := (congrArg Int32.toInt et21).trans (mul_i tc_21 rfl (om_747 hp1) (om_748 hp1))
              refine lv_aload_n hx hb dX11_fitsGrowth_61 rfl (lv_at hl 2 rfl) ?_
              refine va_get (D := (dC, dI)) (ci := 11) (v := .ref (r 69)) (C := RX11) (T := TX11) (N := 79) hx hb hts inB_11 hown hE.1 hP 0 rfl rfl 69 (Nat.le_of_ble_eq_true rfl) (hts _ k_1389) (fun _ h9 => h9) rfl dX11_fitsGrowth_62 ?_
              refine lv_iload hx hb dX11_fitsGrowth_65 (lv_at hl 0 rfl) ?_
              refine ldI hx hb hE hP 31 rfl (vpI (k := 30) rfl (show 0 ≤ l4_1.toInt from om_39 hr4_1) (show l4_1.toInt < 30 from om_745 b38_v zc2)) rfl rfl dX11_fitsGrowth_67 ?_
              refine lv_topi (fun t23 et23 => ?_)
              have zt23 : 0 ≤ t23.toInt ∧ t23.toInt ≤ 20 := by rw [et23]; exact hCf.2.2.2.2.1 l4_1.toInt.toNat (show l4_1.toInt.toNat < 30 from om_749 b38_v zc2)
              refine lv_iadd hx hb dX11_fitsGrowth_68 ?_
              refine lv_topi (fun t24 et24 => ?_)
              have rg25 := fb_rng t21
              have zt24 : t24.toInt = t21.toInt + t23.toInt := (congrArg Int32.toInt et24).trans (add_i rfl rfl (om_750 zt23 rg25) (om_751 hp1 zt21 zt23))
              refine ldZ hx hb hE hP 35 rfl (vpI (k := 651) rfl (show 0 ≤ t24.toInt from om_752 hp1 zt21 zt23 zt24) (show t24.toInt < 651 from om_753 hp1 zt21 zt23 zt24)) rfl rfl dX11_fitsGrowth_69 ?_
              refine lv_topi (fun t27 et27 => ?_)
              refine lv_aload_n hx hb dX11_fitsGrowth_70 rfl (lv_at hl 2 rfl) ?_
              refine va_get (D := (dC, dI)) (ci := 11) (v := .ref (r 72)) (C := RX11) (T := TX11) (N := 79) hx hb hts inB_11 hown hE.1 hP 0 rfl rfl 72 (Nat.le_of_ble_eq_true rfl) (hts _ k_1392) (fun _ h9 => h9) rfl dX11_fitsGrowth_71 ?_
              refine lv_iload hx hb dX11_fitsGrowth_74 (lv_at hl 0 rfl) ?_
              refine ldZ hx hb hE hP 34 rfl (vpI (k := 30) rfl (show 0 ≤ l4_1.toInt from om_39 hr4_1) (show l4_1.toInt < 30 from om_745 b38_v zc2)) rfl rfl dX11_fitsGrowth_76 ?_
              refine lv_topi (fun t28 et28 => ?_)
              refine lv_icmp_ne (tgt := 84) hx hb dX11_fitsGrowth_77 rfl (fun c29 => ?_) (fun c29 => ?_)
              · skip
                refine lv_iconst (v := 0) hx hb dX11_fitsGrowth_84 rfl ?_
                refine lv_istore_n (lv' := [(3, .int 0), (4, .int l4_1), (0, .ref y0), (1, .int p1), (2, .int p2)]) hx hb dX11_fitsGrowth_85 rfl hl (Nat.le_of_ble_eq_true rfl) rfl (fun ls hl => ?_)
                obtain ⟨t32, et32⟩ : ∃ y : Int32, y = l4_1 + 1 := ⟨_, rfl⟩
                have zt32 : t32.toInt = l4_1.toInt + 1 := (congrArg Int32.toInt et32).trans (add_i rfl tc_1 (om_41 hr4_1) (om_746 b38_v zc2))
                refine lv_iinc (v := t32) (lv' := [(4, .int t32), (3, .int 0), (0, .ref y0), (1, .int p1), (2, .int p2)]) hx hb dX11_fitsGrowth_86 hl (k := 1) rfl et32.symm (Nat.le_of_ble_eq_true rfl) rfl (fun ls hl => ?_)
                refine lv_goto (tgt := 5) hx hb dX11_fitsGrowth_89 rfl ?_
                have rg33 := fb_rng t32
                exact ih1 0 t32 ⟨by decide, by decide⟩ ⟨show (0 : Int) ≤ t32.toInt from om_43 hr4_1 zt32, show t32.toInt ≤ (2147483647 : Int) from om_44 rg33⟩ (show (2147483647 - t32.toInt).toNat < n1 from om_33 hm1 zt32 rg33) _ _ _ hP hD hS (lv_sub hl [0, 1, 2, 3, 4] rfl)
              · skip
                refine lv_iconst (v := 1) hx hb dX11_fitsGrowth_80 rfl ?_
                refine lv_goto (tgt := 85) hx hb dX11_fitsGrowth_81 rfl ?_
                refine lv_istore_n (lv' := [(3, .int 1), (4, .int l4_1), (0, .ref y0), (1, .int p1), (2, .int p2)]) hx hb dX11_fitsGrowth_85 rfl hl (Nat.le_of_ble_eq_true rfl) rfl (fun ls hl => ?_)
                obtain ⟨t36, et36⟩ : ∃ y : Int32, y = l4_1 + 1 := ⟨_, rfl⟩
                have zt36 : t36.toInt = l4_1.toInt + 1 := (congrArg Int32.toInt et36).trans (add_i rfl tc_1 (om_41 hr4_1) (om_746 b38_v zc2))
                refine lv_iinc (v := t36) (lv' := [(4, .int t36), (3, .int 1), (0, .ref y0), (1, .int p1), (2, .int p2)]) hx hb dX11_fitsGrowth_86 hl (k := 1) rfl et36.symm (Nat.le_of_ble_eq_true rfl) rfl (fun ls hl => ?_)
                refine lv_goto (tgt := 5) hx hb dX11_fitsGrowth_89 rfl ?_
                have rg37 := fb_rng t36
                exact ih1 1 t36 ⟨by decide, by decide⟩ ⟨show (0 : Int) ≤ t36.toInt from om_43 hr4_1 zt36, show t36.toInt ≤ (2147483647 : Int) from om_44 rg37⟩ (show (2147483647 - t36.toInt).toNat < n1 from om_33 hm1 zt36 rg37) _ _ _ hP hD hS (lv_sub hl [0, 1, 2, 3, 4] rfl)
            · skip
              refine lv_aload_n hx hb dX11_fitsGrowth_39 rfl (lv_at hl 2 rfl) ?_
              refine va_get (D := (dC, dI)) (ci := 11) (v := .ref (r 71)) (C := RX11) (T := TX11) (N := 79) hx hb hts inB_11 hown hE.1 hP 0 rfl rfl 71 (Nat.le_of_ble_eq_true rfl) (hts _ k_1391) (fun _ h9 => h9) rfl dX11_fitsGrowth_40 ?_
              refine lv_iload hx hb dX11_fitsGrowth_43 (lv_at hl 0 rfl) ?_
              refine ldI hx hb hE hP 33 rfl (vpI (k := 30) rfl (show 0 ≤ l4_1.toInt from om_39 hr4_1) (show l4_1.toInt < 30 from om_745 b38_v zc2)) rfl rfl dX11_fitsGrowth_45 ?_
              refine tI (y := t19) et19.symm ?_
              refine lv_iload_n hx hb dX11_fitsGrowth_46 rfl (lv_at hl 4 rfl) ?_
              refine lv_icmp_gt (tgt := 53) hx hb dX11_fitsGrowth_47 rfl (fun c38 => ?_) (fun c38 => ?_)
              · skip
                refine lv_aload_n hx hb dX11_fitsGrowth_53 rfl (lv_at hl 2 rfl) ?_
                refine va_get (D := (dC, dI)) (ci := 11) (v := .ref (r 75)) (C := RX11) (T := TX11) (N := 79) hx hb hts inB_11 hown hE.1 hP 0 rfl rfl 75 (Nat.le_of_ble_eq_true rfl) (hts _ k_1395) (fun _ h9 => h9) rfl dX11_fitsGrowth_54 ?_
                refine lv_bipush (v := 21) hx hb dX11_fitsGrowth_57 rfl ?_
                refine lv_iload_n hx hb dX11_fitsGrowth_59 rfl (lv_at hl 3 rfl) ?_
                refine lv_imul hx hb dX11_fitsGrowth_60 ?_
                refine lv_topi (fun t40 et40 => ?_)
                have zt40 : t40.toInt = 21 * p1.toInt := (congrArg Int32.toInt et40).trans (mul_i tc_21 rfl (om_747 hp1) (om_748 hp1))
                refine lv_aload_n hx hb dX11_fitsGrowth_61 rfl (lv_at hl 2 rfl) ?_
                refine va_get (D := (dC, dI)) (ci := 11) (v := .ref (r 69)) (C := RX11) (T := TX11) (N := 79) hx hb hts inB_11 hown hE.1 hP 0 rfl rfl 69 (Nat.le_of_ble_eq_true rfl) (hts _ k_1389) (fun _ h9 => h9) rfl dX11_fitsGrowth_62 ?_
                refine lv_iload hx hb dX11_fitsGrowth_65 (lv_at hl 0 rfl) ?_
                refine ldI hx hb hE hP 31 rfl (vpI (k := 30) rfl (show 0 ≤ l4_1.toInt from om_39 hr4_1) (show l4_1.toInt < 30 from om_745 b38_v zc2)) rfl rfl dX11_fitsGrowth_67 ?_
                refine lv_topi (fun t42 et42 => ?_)
                have zt42 : 0 ≤ t42.toInt ∧ t42.toInt ≤ 20 := by rw [et42]; exact hCf.2.2.2.2.1 l4_1.toInt.toNat (show l4_1.toInt.toNat < 30 from om_749 b38_v zc2)
                refine lv_iadd hx hb dX11_fitsGrowth_68 ?_
                refine lv_topi (fun t43 et43 => ?_)
                have rg44 := fb_rng t40
                have zt43 : t43.toInt = t40.toInt + t42.toInt := (congrArg Int32.toInt et43).trans (add_i rfl rfl (om_750 zt42 rg44) (om_751 hp1 zt40 zt42))
                refine ldZ hx hb hE hP 35 rfl (vpI (k := 651) rfl (show 0 ≤ t43.toInt from om_752 hp1 zt40 zt42 zt43) (show t43.toInt < 651 from om_753 hp1 zt40 zt42 zt43)) rfl rfl dX11_fitsGrowth_69 ?_
                refine lv_topi (fun t46 et46 => ?_)
                refine lv_aload_n hx hb dX11_fitsGrowth_70 rfl (lv_at hl 2 rfl) ?_
                refine va_get (D := (dC, dI)) (ci := 11) (v := .ref (r 72)) (C := RX11) (T := TX11) (N := 79) hx hb hts inB_11 hown hE.1 hP 0 rfl rfl 72 (Nat.le_of_ble_eq_true rfl) (hts _ k_1392) (fun _ h9 => h9) rfl dX11_fitsGrowth_71 ?_
                refine lv_iload hx hb dX11_fitsGrowth_74 (lv_at hl 0 rfl) ?_
                refine ldZ hx hb hE hP 34 rfl (vpI (k := 30) rfl (show 0 ≤ l4_1.toInt from om_39 hr4_1) (show l4_1.toInt < 30 from om_745 b38_v zc2)) rfl rfl dX11_fitsGrowth_76 ?_
                refine lv_topi (fun t47 et47 => ?_)
                refine lv_icmp_ne (tgt := 84) hx hb dX11_fitsGrowth_77 rfl (fun c48 => ?_) (fun c48 => ?_)
                · skip
                  refine lv_iconst (v := 0) hx hb dX11_fitsGrowth_84 rfl ?_
                  refine lv_istore_n (lv' := [(3, .int 0), (4, .int l4_1), (0, .ref y0), (1, .int p1), (2, .int p2)]) hx hb dX11_fitsGrowth_85 rfl hl (Nat.le_of_ble_eq_true rfl) rfl (fun ls hl => ?_)
                  obtain ⟨t51, et51⟩ : ∃ y : Int32, y = l4_1 + 1 := ⟨_, rfl⟩
                  have zt51 : t51.toInt = l4_1.toInt + 1 := (congrArg Int32.toInt et51).trans (add_i rfl tc_1 (om_41 hr4_1) (om_746 b38_v zc2))
                  refine lv_iinc (v := t51) (lv' := [(4, .int t51), (3, .int 0), (0, .ref y0), (1, .int p1), (2, .int p2)]) hx hb dX11_fitsGrowth_86 hl (k := 1) rfl et51.symm (Nat.le_of_ble_eq_true rfl) rfl (fun ls hl => ?_)
                  refine lv_goto (tgt := 5) hx hb dX11_fitsGrowth_89 rfl ?_
                  have rg52 := fb_rng t51
                  exact ih1 0 t51 ⟨by decide, by decide⟩ ⟨show (0 : Int) ≤ t51.toInt from om_43 hr4_1 zt51, show t51.toInt ≤ (2147483647 : Int) from om_44 rg52⟩ (show (2147483647 - t51.toInt).toNat < n1 from om_33 hm1 zt51 rg52) _ _ _ hP hD hS (lv_sub hl [0, 1, 2, 3, 4] rfl)
                · skip
                  refine lv_iconst (v := 1) hx hb dX11_fitsGrowth_80 rfl ?_
                  refine lv_goto (tgt := 85) hx hb dX11_fitsGrowth_81 rfl ?_
                  refine lv_istore_n (lv' := [(3, .int 1), (4, .int l4_1), (0, .ref y0), (1, .int p1), (2, .int p2)]) hx hb dX11_fitsGrowth_85 rfl hl (Nat.le_of_ble_eq_true rfl) rfl (fun ls hl => ?_)
                  obtain ⟨t55, et55⟩ : ∃ y : Int32, y = l4_1 + 1 := ⟨_, rfl⟩
                  have zt55 : t55.toInt = l4_1.toInt + 1 := (congrArg Int32.toInt et55).trans (add_i rfl tc_1 (om_41 hr4_1) (om_746 b38_v zc2))
                  refine lv_iinc (v := t55) (lv' := [(4, .int t55), (3, .int 1), (0, .ref y0), (1, .int p1), (2, .int p2)]) hx hb dX11_fitsGrowth_86 hl (k := 1) rfl et55.symm (Nat.le_of_ble_eq_true rfl) rfl (fun ls hl => ?_)
                  refine lv_goto (tgt := 5) hx hb dX11_fitsGrowth_89 rfl ?_
                  have rg56 := fb_rng t55
                  exact ih1 1 t55 ⟨by decide, by decide⟩ ⟨show (0 : Int) ≤ t55.toInt from om_43 hr4_1 zt55, show t55.toInt ≤ (2147483647 : Int) from om_44 rg56⟩ (show (2147483647 - t55.toInt).toNat < n1 from om_33 hm1 zt55 rg56) _ _ _ hP hD hS (lv_sub hl [0, 1, 2, 3, 4] rfl)
              · skip
                refine lv_goto (tgt := 86) hx hb dX11_fitsGrowth_50 rfl ?_
                obtain ⟨t58, et58⟩ : ∃ y : Int32, y = l4_1 + 1 := ⟨_, rfl⟩
                have zt58 : t58.toInt = l4_1.toInt + 1 := (congrArg Int32.toInt et58).trans (add_i rfl tc_1 (om_41 hr4_1) (om_746 b38_v zc2))
                refine lv_iinc (v := t58) (lv' := [(4, .int t58), (3, .int l3_1), (0, .ref y0), (1, .int p1), (2, .int p2)]) hx hb dX11_fitsGrowth_86 hl (k := 0) rfl et58.symm (Nat.le_of_ble_eq_true rfl) rfl (fun ls hl => ?_)
                refine lv_goto (tgt := 5) hx hb dX11_fitsGrowth_89 rfl ?_
                have rg60 := fb_rng t58
                exact ih1 l3_1 t58 ⟨show (0 : Int) ≤ l3_1.toInt from om_367 hr3_1, show l3_1.toInt ≤ (1 : Int) from om_368 hr3_1⟩ ⟨show (0 : Int) ≤ t58.toInt from om_43 hr4_1 zt58, show t58.toInt ≤ (2147483647 : Int) from om_44 rg60⟩ (show (2147483647 - t58.toInt).toNat < n1 from om_33 hm1 zt58 rg60) _ _ _ hP hD hS (lv_sub hl [0, 1, 2, 3, 4] rfl)
  exact lp1 _ 1 0 ⟨by decide, by decide⟩ ⟨by decide, by decide⟩ (Nat.lt_succ_self _) _ _ _ hP hD hS (lv_sub hl [0, 1, 2, 3, 4] rfl)
set_option maxHeartbeats 4000000 in
set_option maxRecDepth 100000 in
theorem sY_X11_layGrowths_1 (l : Launch) (dC : Nat → ClassId) (dI : Nat → Nat → Nat) (cy : Nat → ClassId) (y0 : Nat) (r : Nat → Nat) (p1 : Int32) (v : Nat → Int32) (f : Nat → Nat → Int32) (w : Int64) (g : Nat → Int64) (hIv : YI v) (hCf : YC f) (hRf : progOK (f 4) (f 5) (v 9).toInt.toNat)  : ctI l (dC, dI) cy yX11_layGrowths cX11_layGrowths 5 .int 5 148 0 0 ((Nat → Int32) × (Nat → Nat → Int32) × (Int64) × (Nat → Int64)) [.ref y0, .int p1] (YW cy y0 r v f w g) (fun r u => KV [] u.1 v ∧ KF [7, 8, 24, 34, 35] u.2.1 f ∧ YI u.1 ∧ YC u.2.1 ∧ progOK (u.2.1 4) (u.2.1 5) (u.1 9).toInt.toNat ∧ u.1 0 = v 0 ∧ u.1 1 = v 1 ∧ u.1 2 = v 2 ∧ u.1 3 = v 3 ∧ u.1 4 = v 4 ∧ u.1 5 = v 5 ∧ u.1 8 = v 8 ∧ u.1 9 = v 9 ∧ u.1 10 = v 10 ∧ u.1 13 = v 13 ∧ u.1 14 = v 14 ∧ u.1 15 = v 15 ∧ u.1 17 = v 17 ∧ u.1 18 = v 18 ∧ u.1 24 = v 24 ∧ u.1 25 = v 25 ∧ u.1 35 = v 35 ∧ u.1 36 = v 36 ∧ u.1 38 = v 38 ∧ u.1 39 = v 39) (fun u => YW cy y0 r u.1 u.2.1 u.2.2.1 u.2.2.2) := by
  refine ctI_of (by decide) (Nat.le_of_ble_eq_true rfl) (fun p e s m below meth c A ls Q hx hb hml hts hown hE hP hD hA hl ret => ?_)
  have hUv : (v 35).toInt + (v 36).toInt ≤ 40 := hIv.2
  have hM_v : KV [] v v := fun _ _ => rfl
  have hA_f : KF [7, 8, 24, 34, 35] f f := fun _ _ => rfl
  have hown : s.vm.findClass RX11 = some m.cls := hown
  have hS : va_S A s.heap s.heap [] := va_S.rf
  have hl : lv_has ls 5 [(0, .ref y0), (1, .int p1)] := hl
  refine lv_iconst (v := 0) hx hb dX11_layGrowths_0 rfl ?_
  refine lv_istore_n (lv' := [(2, .int 0), (0, .ref y0), (1, .int p1)]) hx hb dX11_layGrowths_1 rfl hl (Nat.le_of_ble_eq_true rfl) rfl (fun ls hl => ?_)
  refine lv_iconst (v := 0) hx hb dX11_layGrowths_2 rfl ?_
  refine lv_istore_n (lv' := [(3, .int 0), (2, .int 0), (0, .ref y0), (1, .int p1)]) hx hb dX11_layGrowths_3 rfl hl (Nat.le_of_ble_eq_true rfl) rfl (fun ls hl => ?_)
  have lp1 : ∀ (n1 : Nat) (l2_1 : Int32) (l3_1 : Int32) (v1 : Nat → Int32) (f1 : Nat → Nat → Int32) (w1 : Int64) (g1 : Nat → Int64), YI v1 → YC f1 → progOK (f1 4) (f1 5) (v1 9).toInt.toNat → v1 0 = (v 0) → v1 1 = (v 1) → v1 2 = (v 2) → v1 3 = (v 3) → v1 4 = (v 4) → v1 5 = (v 5) → v1 8 = (v 8) → v1 9 = (v 9) → v1 10 = (v 10) → v1 13 = (v 13) → v1 14 = (v 14) → v1 15 = (v 15) → v1 17 = (v 17) → v1 18 = (v 18) → v1 24 = (v 24) → v1 25 = (v 25) → v1 35 = (v 35) → v1 36 = (v 36) → v1 38 = (v 38) → v1 39 = (v 39) → ((0 : Int) ≤ l3_1.toInt ∧ l3_1.toInt ≤ 2147483647) → KV [] v1 v → KF [7, 8, 24, 34, 35] f1 f → (2147483647 - l3_1.toInt).toNat < n1 → ∀ (H : Heap) (locs : List Loc) (ls : Array Slot), va_P (dC, dI) vwCl (YW cy y0 r v1 f1 w1 g1) H → va_D A (YW cy y0 r v1 f1 w1 g1) → va_S A s.heap H locs → lv_has ls 5 [(3, .int l3_1), (2, .int l2_1), (0, .ref y0), (1, .int p1)] → W p l e { frames := 5, cells := 0, slots := 0, locals := 148 } s m ([.ref y0, .int p1] : List Value).toArray below meth c H locs 0 0 Q (F0 m 4 ls []) := by
    intro n1
    induction n1 with
    | zero => intro l2_1 l3_1 v1 f1 w1 g1 hIv1 hCf1 hRf1 hq0_v1 hq1_v1 hq2_v1 hq3_v1 hq4_v1 hq5_v1 hq8_v1 hq9_v1 hq10_v1 hq13_v1 hq14_v1 hq15_v1 hq17_v1 hq18_v1 hq24_v1 hq25_v1 hq35_v1 hq36_v1 hq38_v1 hq39_v1 hr3_1 hM_v1 hA_f1 hm; exact absurd hm (Nat.not_lt_zero _)
    | succ n1 ih1 =>
      intro l2_1 l3_1 v1 f1 w1 g1 hIv1 hCf1 hRf1 hq0_v1 hq1_v1 hq2_v1 hq3_v1 hq4_v1 hq5_v1 hq8_v1 hq9_v1 hq10_v1 hq13_v1 hq14_v1 hq15_v1 hq17_v1 hq18_v1 hq24_v1 hq25_v1 hq35_v1 hq36_v1 hq38_v1 hq39_v1 hr3_1 hM_v1 hA_f1 hm1 H locs ls hP hD hS hl
      have hUv1 : (v1 35).toInt + (v1 36).toInt ≤ 40 := hIv1.2
      have zq9_v1 := congrArg Int32.toInt hq9_v1
      refine lv_iload_n hx hb dX11_layGrowths_4 rfl (lv_at hl 0 rfl) ?_
      refine lv_bipush (v := 30) hx hb dX11_layGrowths_5 rfl ?_
      refine lv_icmp_gt (tgt := 143) hx hb dX11_layGrowths_7 rfl (fun c2 => ?_) (fun c2 => ?_)
      · skip
        refine lv_iload_n hx hb dX11_layGrowths_143 rfl (lv_at hl 1 rfl) ?_
        exact ret l2_1 (v1, f1, w1, g1) _ _ _ _ _ _ rfl ⟨hM_v1, hA_f1, hIv1, hCf1, hRf1, (show v1 0 = v 0 from hq0_v1), (show v1 1 = v 1 from hq1_v1), (show v1 2 = v 2 from hq2_v1), (show v1 3 = v 3 from hq3_v1), (show v1 4 = v 4 from hq4_v1), (show v1 5 = v 5 from hq5_v1), (show v1 8 = v 8 from hq8_v1), (show v1 9 = v 9 from hq9_v1), (show v1 10 = v 10 from hq10_v1), (show v1 13 = v 13 from hq13_v1), (show v1 14 = v 14 from hq14_v1), (show v1 15 = v 15 from hq15_v1), (show v1 17 = v 17 from hq17_v1), (show v1 18 = v 18 from hq18_v1), (show v1 24 = v 24 from hq24_v1), (show v1 25 = v 25 from hq25_v1), (show v1 35 = v 35 from hq35_v1), (show v1 36 = v 36 from hq36_v1), (show v1 38 = v 38 from hq38_v1), (show v1 39 = v 39 from hq39_v1)⟩ hP hD hS dX11_layGrowths_144 (Nat.le_refl _) (Nat.le_refl _)
      · skip
        have zc2 : ¬ (30 < l3_1.toInt) := zLn tc_30 rfl c2
        refine lv_aload_n hx hb dX11_layGrowths_10 rfl (lv_at hl 2 rfl) ?_
        refine va_get (D := (dC, dI)) (ci := 11) (v := .int (v1 24)) (C := RX11) (T := TX11) (N := 79) hx hb hts inB_11 hown hE.1 hP 0 rfl rfl 48 (Nat.le_of_ble_eq_true rfl) (hts _ k_1368) (fun _ h9 => h9) rfl dX11_layGrowths_11 ?_
        refine tI (y := (v 24)) hq24_v1 ?_
        have b24_v : 0 ≤ (v 24).toInt ∧ (v 24).toInt ≤ 6 := Yb_24 hIv.1
        refine lv_if_le (tgt := 143) hx hb dX11_layGrowths_14 rfl (fun c3 => ?_) (fun c3 => ?_)
        · skip
          refine lv_iload_n hx hb dX11_layGrowths_143 rfl (lv_at hl 1 rfl) ?_
          exact ret l2_1 (v1, f1, w1, g1) _ _ _ _ _ _ rfl ⟨hM_v1, hA_f1, hIv1, hCf1, hRf1, (show v1 0 = v 0 from hq0_v1), (show v1 1 = v 1 from hq1_v1), (show v1 2 = v 2 from hq2_v1), (show v1 3 = v 3 from hq3_v1), (show v1 4 = v 4 from hq4_v1), (show v1 5 = v 5 from hq5_v1), (show v1 8 = v 8 from hq8_v1), (show v1 9 = v 9 from hq9_v1), (show v1 10 = v 10 from hq10_v1), (show v1 13 = v 13 from hq13_v1), (show v1 14 = v 14 from hq14_v1), (show v1 15 = v 15 from hq15_v1), (show v1 17 = v 17 from hq17_v1), (show v1 18 = v 18 from hq18_v1), (show v1 24 = v 24 from hq24_v1), (show v1 25 = v 25 from hq25_v1), (show v1 35 = v 35 from hq35_v1), (show v1 36 = v 36 from hq36_v1), (show v1 38 = v 38 from hq38_v1), (show v1 39 = v 39 from hq39_v1)⟩ hP hD hS dX11_layGrowths_144 (Nat.le_refl _) (Nat.le_refl _)
        · skip
          have zc3 : ¬ ((v 24).toInt ≤ 0) := zMn rfl tc_0 c3
          refine lv_aload_n hx hb dX11_layGrowths_17 rfl (lv_at hl 2 rfl) ?_
          refine va_get (D := (dC, dI)) (ci := 11) (v := .int (v1 25)) (C := RX11) (T := TX11) (N := 79) hx hb hts inB_11 hown hE.1 hP 0 rfl rfl 49 (Nat.le_of_ble_eq_true rfl) (hts _ k_1369) (fun _ h9 => h9) rfl dX11_layGrowths_18 ?_
          refine tI (y := (v 25)) hq25_v1 ?_
          have b25_v : 0 ≤ (v 25).toInt ∧ (v 25).toInt ≤ 6 := Yb_25 hIv.1
          refine lv_if_le (tgt := 143) hx hb dX11_layGrowths_21 rfl (fun c4 => ?_) (fun c4 => ?_)
          · skip
            refine lv_iload_n hx hb dX11_layGrowths_143 rfl (lv_at hl 1 rfl) ?_
            exact ret l2_1 (v1, f1, w1, g1) _ _ _ _ _ _ rfl ⟨hM_v1, hA_f1, hIv1, hCf1, hRf1, (show v1 0 = v 0 from hq0_v1), (show v1 1 = v 1 from hq1_v1), (show v1 2 = v 2 from hq2_v1), (show v1 3 = v 3 from hq3_v1), (show v1 4 = v 4 from hq4_v1), (show v1 5 = v 5 from hq5_v1), (show v1 8 = v 8 from hq8_v1), (show v1 9 = v 9 from hq9_v1), (show v1 10 = v 10 from hq10_v1), (show v1 13 = v 13 from hq13_v1), (show v1 14 = v 14 from hq14_v1), (show v1 15 = v 15 from hq15_v1), (show v1 17 = v 17 from hq17_v1), (show v1 18 = v 18 from hq18_v1), (show v1 24 = v 24 from hq24_v1), (show v1 25 = v 25 from hq25_v1), (show v1 35 = v 35 from hq35_v1), (show v1 36 = v 36 from hq36_v1), (show v1 38 = v 38 from hq38_v1), (show v1 39 = v 39 from hq39_v1)⟩ hP hD hS dX11_layGrowths_144 (Nat.le_refl _) (Nat.le_refl _)
          · skip
            have zc4 : ¬ ((v 25).toInt ≤ 0) := zMn rfl tc_0 c4
            refine lv_aload_n hx hb dX11_layGrowths_24 rfl (lv_at hl 2 rfl) ?_
            refine cbVv (n := 0) (rest := []) hx hb hml hown hts hE hP hD hS hA (sY_X11_begin_1 0 l dC dI cy y0 r  v1 f1 w1 g1 hIv1 hCf1 hRf1 ) k_1716 k_1718 k_68 k_114 k_1719 hd_yX11_begin ⟨Nat.le_of_ble_eq_true rfl, Nat.le_of_ble_eq_true rfl⟩ 0 11 rfl rfl (rfl) hl.1 rfl (Nat.le_of_ble_eq_true rfl) dX11_layGrowths_25 (fun u H locs hw hP hD hS => ?_)
            obtain ⟨hG5, hw⟩ := hw
            obtain ⟨v6, f7, w8, g9⟩ := u
            obtain ⟨kV_v6, kF_f7, hIv6, hCf7, hRf7, hk0_v6, hk1_v6, hk2_v6, hk3_v6, hk4_v6, hk5_v6, hk8_v6, hk9_v6, hk10_v6, hk13_v6, hk14_v6, hk15_v6, hk17_v6, hk18_v6, hk24_v6, hk25_v6, hk35_v6, hk36_v6, hk38_v6, hk39_v6⟩ := hw
            have hM_v6 : KV [] v6 v := KV.tr kV_v6 hM_v1 rfl
            have hA_f7 : KF [7, 8, 24, 34, 35] f7 f := KF.tr kF_f7 hA_f1 rfl
            have hP : va_P (dC, dI) vwCl (YW cy y0 r v6 f7 w8 g9) H := hP
            have hD : va_D A (YW cy y0 r v6 f7 w8 g9) := hD
            have hUv6 : (v6 35).toInt + (v6 36).toInt ≤ 40 := hIv6.2
            have hq0_v6 : v6 0 = (v 0) := hk0_v6.trans hq0_v1
            have hq1_v6 : v6 1 = (v 1) := hk1_v6.trans hq1_v1
            have hq2_v6 : v6 2 = (v 2) := hk2_v6.trans hq2_v1
            have hq3_v6 : v6 3 = (v 3) := hk3_v6.trans hq3_v1
            have hq4_v6 : v6 4 = (v 4) := hk4_v6.trans hq4_v1
            have hq5_v6 : v6 5 = (v 5) := hk5_v6.trans hq5_v1
            have hq8_v6 : v6 8 = (v 8) := hk8_v6.trans hq8_v1
            have hq9_v6 : v6 9 = (v 9) := hk9_v6.trans hq9_v1
            have zq9_v6 := congrArg Int32.toInt hq9_v6
            have hq10_v6 : v6 10 = (v 10) := hk10_v6.trans hq10_v1
            have hq13_v6 : v6 13 = (v 13) := hk13_v6.trans hq13_v1
            have hq14_v6 : v6 14 = (v 14) := hk14_v6.trans hq14_v1
            have hq15_v6 : v6 15 = (v 15) := hk15_v6.trans hq15_v1
            have hq17_v6 : v6 17 = (v 17) := hk17_v6.trans hq17_v1
            have hq18_v6 : v6 18 = (v 18) := hk18_v6.trans hq18_v1
            have hq24_v6 : v6 24 = (v 24) := hk24_v6.trans hq24_v1
            have hq25_v6 : v6 25 = (v 25) := hk25_v6.trans hq25_v1
            have hq35_v6 : v6 35 = (v 35) := hk35_v6.trans hq35_v1
            have hq36_v6 : v6 36 = (v 36) := hk36_v6.trans hq36_v1
            have hq38_v6 : v6 38 = (v 38) := hk38_v6.trans hq38_v1
            have hq39_v6 : v6 39 = (v 39) := hk39_v6.trans hq39_v1
            refine lv_iconst (v := 0) hx hb dX11_layGrowths_28 rfl ?_
            refine lv_istore (lv' := [(4, .int 0), (3, .int l3_1), (2, .int l2_1), (0, .ref y0), (1, .int p1)]) hx hb dX11_layGrowths_29 hl (Nat.le_of_ble_eq_true rfl) rfl (fun ls hl => ?_)
            have lp10 : ∀ (n10 : Nat) (l4_10 : Int32) (v10 : Nat → Int32) (f10 : Nat → Nat → Int32) (w10 : Int64) (g10 : Nat → Int64), YI v10 → YC f10 → progOK (f10 4) (f10 5) (v10 9).toInt.toNat → v10 0 = (v 0) → v10 1 = (v 1) → v10 2 = (v 2) → v10 3 = (v 3) → v10 4 = (v 4) → v10 5 = (v 5) → v10 8 = (v 8) → v10 9 = (v 9) → v10 10 = (v 10) → v10 13 = (v 13) → v10 14 = (v 14) → v10 15 = (v 15) → v10 17 = (v 17) → v10 18 = (v 18) → v10 24 = (v 24) → v10 25 = (v 25) → v10 35 = (v 35) → v10 36 = (v 36) → v10 38 = (v 38) → v10 39 = (v 39) → ((0 : Int) ≤ l4_10.toInt ∧ l4_10.toInt ≤ 2147483647) → KV [] v10 v → KF [7, 8, 24, 34, 35] f10 f → (2147483647 - l4_10.toInt).toNat < n10 → ∀ (H : Heap) (locs : List Loc) (ls : Array Slot), va_P (dC, dI) vwCl (YW cy y0 r v10 f10 w10 g10) H → va_D A (YW cy y0 r v10 f10 w10 g10) → va_S A s.heap H locs → lv_has ls 5 [(4, .int l4_10), (3, .int l3_1), (2, .int l2_1), (0, .ref y0), (1, .int p1)] → W p l e { frames := 5, cells := 0, slots := 0, locals := 148 } s m ([.ref y0, .int p1] : List Value).toArray below meth c H locs 0 0 Q (F0 m 31 ls []) := by
              intro n10
              induction n10 with
              | zero => intro l4_10 v10 f10 w10 g10 hIv10 hCf10 hRf10 hq0_v10 hq1_v10 hq2_v10 hq3_v10 hq4_v10 hq5_v10 hq8_v10 hq9_v10 hq10_v10 hq13_v10 hq14_v10 hq15_v10 hq17_v10 hq18_v10 hq24_v10 hq25_v10 hq35_v10 hq36_v10 hq38_v10 hq39_v10 hr4_10 hM_v10 hA_f10 hm; exact absurd hm (Nat.not_lt_zero _)
              | succ n10 ih10 =>
                intro l4_10 v10 f10 w10 g10 hIv10 hCf10 hRf10 hq0_v10 hq1_v10 hq2_v10 hq3_v10 hq4_v10 hq5_v10 hq8_v10 hq9_v10 hq10_v10 hq13_v10 hq14_v10 hq15_v10 hq17_v10 hq18_v10 hq24_v10 hq25_v10 hq35_v10 hq36_v10 hq38_v10 hq39_v10 hr4_10 hM_v10 hA_f10 hm10 H locs ls hP hD hS hl
                have hUv10 : (v10 35).toInt + (v10 36).toInt ≤ 40 := hIv10.2
                have zq9_v10 := congrArg Int32.toInt hq9_v10
                refine lv_iload hx hb dX11_layGrowths_31 (lv_at hl 0 rfl) ?_
                refine lv_bipush (v := 20) hx hb dX11_layGrowths_33 rfl ?_
                refine lv_icmp_gt (tgt := 113) hx hb dX11_layGrowths_35 rfl (fun c11 => ?_) (fun c11 => ?_)
                · skip
                  refine lv_aload_n hx hb dX11_layGrowths_113 rfl (lv_at hl 3 rfl) ?_
                  refine va_get (D := (dC, dI)) (ci := 11) (v := .ref (r 76)) (C := RX11) (T := TX11) (N := 79) hx hb hts inB_11 hown hE.1 hP 0 rfl rfl 76 (Nat.le_of_ble_eq_true rfl) (hts _ k_1396) (fun _ h9 => h9) rfl dX11_layGrowths_114 ?_
                  refine lv_iload_n hx hb dX11_layGrowths_117 rfl (lv_at hl 1 rfl) ?_
                  refine lv_aload_n hx hb dX11_layGrowths_118 rfl (lv_at hl 3 rfl) ?_
                  refine lv_iload_n hx hb dX11_layGrowths_119 rfl (lv_at hl 1 rfl) ?_
                  refine lv_iload_n hx hb dX11_layGrowths_120 rfl (lv_at hl 4 rfl) ?_
                  refine cbVi (n := 2) (rest := [.int l3_1, .ref (r 76)]) hx hb hml hown hts hE hP hD hS hA (sY_X11_fitsGrowth_1 l dC dI cy y0 r l3_1 p1 v10 f10 w10 g10 hIv10 hCf10 hRf10 ⟨show (0 : Int) ≤ l3_1.toInt from om_39 hr3_1, show l3_1.toInt ≤ (30 : Int) from om_754 zc2⟩) k_2028 k_2030 k_98 k_114 k_2031 hd_yX11_fitsGrowth ⟨Nat.le_of_ble_eq_true rfl, Nat.le_of_ble_eq_true rfl⟩ 0 11 rfl rfl (rfl) hl.1 rfl (Nat.le_of_ble_eq_true rfl) dX11_layGrowths_121 (fun r12 u H locs hw hP hD hS => ?_)
                  rcases hw with ⟨g13⟩ | ⟨g13⟩
                  · skip
                    subst g13
                    refine stZ hx hb hE hP hD hS 36 rfl (vpI (k := 31) rfl (show 0 ≤ l3_1.toInt from om_39 hr3_1) (show l3_1.toInt < 31 from om_755 zc2)) rfl dX11_layGrowths_124 (fun H locs hP hD hS => ?_)
                    obtain ⟨f14, ef14, hP, hD⟩ : ∃ fz9, fz9 = upd2 f10 35 (upd (f10 35) l3_1.toNatClampNeg (vp_nar .boolean 1)) ∧ va_P (dC, dI) vwCl (YW cy y0 r v10 fz9 w10 g10) H ∧ va_D A (YW cy y0 r v10 fz9 w10 g10) := ⟨_, rfl, hP, hD⟩
                    have hCf14 : YC f14 := by rw [ef14]; exact hCf10
                    have hRf14 : progOK (f14 4) (f14 5) (v10 9).toInt.toNat := by rw [ef14]; exact hRf10
                    have hA_f14 : KF [7, 8, 24, 34, 35] f14 f := by rw [ef14]; exact KF.up hA_f10 rfl
                    refine lv_iload_n hx hb dX11_layGrowths_125 rfl (lv_at hl 2 rfl) ?_
                    refine lv_aload_n hx hb dX11_layGrowths_126 rfl (lv_at hl 3 rfl) ?_
                    refine va_get (D := (dC, dI)) (ci := 11) (v := .ref (r 76)) (C := RX11) (T := TX11) (N := 79) hx hb hts inB_11 hown hE.1 hP 0 rfl rfl 76 (Nat.le_of_ble_eq_true rfl) (hts _ k_1396) (fun _ h9 => h9) rfl dX11_layGrowths_127 ?_
                    refine lv_iload_n hx hb dX11_layGrowths_130 rfl (lv_at hl 1 rfl) ?_
                    refine ldZ hx hb hE hP 36 rfl (vpI (k := 31) rfl (show 0 ≤ l3_1.toInt from om_39 hr3_1) (show l3_1.toInt < 31 from om_755 zc2)) rfl rfl dX11_layGrowths_131 ?_
                    refine lv_topi (fun t15 et15 => ?_)
                    refine cbSi (n := 1) (rest := [.int l2_1]) hx hb hml hown hts hE hP hD hS hA (sY_X11_truth_1 0 l dC dI cy y0 r t15 v10 f14 w10 g10 hIv10 hCf14 hRf14 ) k_1761 k_1762 k_114 k_1763 he_yX11_truth ⟨Nat.le_of_ble_eq_true rfl, Nat.le_of_ble_eq_true rfl⟩ (rfl) hl.1 rfl (Nat.le_of_ble_eq_true rfl) dX11_layGrowths_132 (fun r16 u H locs hw hP hD hS => ?_)
                    obtain ⟨hG17, hw⟩ := hw
                    refine lv_iadd hx hb dX11_layGrowths_135 ?_
                    refine lv_topi (fun t18 et18 => ?_)
                    refine lv_istore_n (lv' := [(2, .int t18), (4, .int l4_10), (3, .int l3_1), (0, .ref y0), (1, .int p1)]) hx hb dX11_layGrowths_136 rfl hl (Nat.le_of_ble_eq_true rfl) rfl (fun ls hl => ?_)
                    obtain ⟨t19, et19⟩ : ∃ y : Int32, y = l3_1 + 1 := ⟨_, rfl⟩
                    have zt19 : t19.toInt = l3_1.toInt + 1 := (congrArg Int32.toInt et19).trans (add_i rfl tc_1 (om_41 hr3_1) (om_270 zc2))
                    refine lv_iinc (v := t19) (lv' := [(3, .int t19), (2, .int t18), (4, .int l4_10), (0, .ref y0), (1, .int p1)]) hx hb dX11_layGrowths_137 hl (k := 2) rfl et19.symm (Nat.le_of_ble_eq_true rfl) rfl (fun ls hl => ?_)
                    refine lv_goto (tgt := 4) hx hb dX11_layGrowths_140 rfl ?_
                    have rg21 := fb_rng t19
                    exact ih1 t18 t19 v10 f14 w10 g10 hIv10 hCf14 hRf14 hq0_v10 hq1_v10 hq2_v10 hq3_v10 hq4_v10 hq5_v10 hq8_v10 hq9_v10 hq10_v10 hq13_v10 hq14_v10 hq15_v10 hq17_v10 hq18_v10 hq24_v10 hq25_v10 hq35_v10 hq36_v10 hq38_v10 hq39_v10 ⟨show (0 : Int) ≤ t19.toInt from om_43 hr3_1 zt19, show t19.toInt ≤ (2147483647 : Int) from om_44 rg21⟩ hM_v10 hA_f14 (show (2147483647 - t19.toInt).toNat < n1 from om_33 hm1 zt19 rg21) _ _ _ hP hD hS (lv_sub hl [0, 1, 3, 4] rfl)
                  · skip
                    subst g13
                    refine stZ hx hb hE hP hD hS 36 rfl (vpI (k := 31) rfl (show 0 ≤ l3_1.toInt from om_39 hr3_1) (show l3_1.toInt < 31 from om_755 zc2)) rfl dX11_layGrowths_124 (fun H locs hP hD hS => ?_)
                    obtain ⟨f22, ef22, hP, hD⟩ : ∃ fz9, fz9 = upd2 f10 35 (upd (f10 35) l3_1.toNatClampNeg (vp_nar .boolean 0)) ∧ va_P (dC, dI) vwCl (YW cy y0 r v10 fz9 w10 g10) H ∧ va_D A (YW cy y0 r v10 fz9 w10 g10) := ⟨_, rfl, hP, hD⟩
                    have hCf22 : YC f22 := by rw [ef22]; exact hCf10
                    have hRf22 : progOK (f22 4) (f22 5) (v10 9).toInt.toNat := by rw [ef22]; exact hRf10
                    have hA_f22 : KF [7, 8, 24, 34, 35] f22 f := by rw [ef22]; exact KF.up hA_f10 rfl
                    refine lv_iload_n hx hb dX11_layGrowths_125 rfl (lv_at hl 2 rfl) ?_
                    refine lv_aload_n hx hb dX11_layGrowths_126 rfl (lv_at hl 3 rfl) ?_
                    refine va_get (D := (dC, dI)) (ci := 11) (v := .ref (r 76)) (C := RX11) (T := TX11) (N := 79) hx hb hts inB_11 hown hE.1 hP 0 rfl rfl 76 (Nat.le_of_ble_eq_true rfl) (hts _ k_1396) (fun _ h9 => h9) rfl dX11_layGrowths_127 ?_
                    refine lv_iload_n hx hb dX11_layGrowths_130 rfl (lv_at hl 1 rfl) ?_
                    refine ldZ hx hb hE hP 36 rfl (vpI (k := 31) rfl (show 0 ≤ l3_1.toInt from om_39 hr3_1) (show l3_1.toInt < 31 from om_755 zc2)) rfl rfl dX11_layGrowths_131 ?_
                    refine lv_topi (fun t23 et23 => ?_)
                    refine cbSi (n := 1) (rest := [.int l2_1]) hx hb hml hown hts hE hP hD hS hA (sY_X11_truth_1 0 l dC dI cy y0 r t23 v10 f22 w10 g10 hIv10 hCf22 hRf22 ) k_1761 k_1762 k_114 k_1763 he_yX11_truth ⟨Nat.le_of_ble_eq_true rfl, Nat.le_of_ble_eq_true rfl⟩ (rfl) hl.1 rfl (Nat.le_of_ble_eq_true rfl) dX11_layGrowths_132 (fun r24 u H locs hw hP hD hS => ?_)
                    obtain ⟨hG25, hw⟩ := hw
                    refine lv_iadd hx hb dX11_layGrowths_135 ?_
                    refine lv_topi (fun t26 et26 => ?_)
                    refine lv_istore_n (lv' := [(2, .int t26), (4, .int l4_10), (3, .int l3_1), (0, .ref y0), (1, .int p1)]) hx hb dX11_layGrowths_136 rfl hl (Nat.le_of_ble_eq_true rfl) rfl (fun ls hl => ?_)
                    obtain ⟨t27, et27⟩ : ∃ y : Int32, y = l3_1 + 1 := ⟨_, rfl⟩
                    have zt27 : t27.toInt = l3_1.toInt + 1 := (congrArg Int32.toInt et27).trans (add_i rfl tc_1 (om_41 hr3_1) (om_270 zc2))
                    refine lv_iinc (v := t27) (lv' := [(3, .int t27), (2, .int t26), (4, .int l4_10), (0, .ref y0), (1, .int p1)]) hx hb dX11_layGrowths_137 hl (k := 2) rfl et27.symm (Nat.le_of_ble_eq_true rfl) rfl (fun ls hl => ?_)
                    refine lv_goto (tgt := 4) hx hb dX11_layGrowths_140 rfl ?_
                    have rg29 := fb_rng t27
                    exact ih1 t26 t27 v10 f22 w10 g10 hIv10 hCf22 hRf22 hq0_v10 hq1_v10 hq2_v10 hq3_v10 hq4_v10 hq5_v10 hq8_v10 hq9_v10 hq10_v10 hq13_v10 hq14_v10 hq15_v10 hq17_v10 hq18_v10 hq24_v10 hq25_v10 hq35_v10 hq36_v10 hq38_v10 hq39_v10 ⟨show (0 : Int) ≤ t27.toInt from om_43 hr3_1 zt27, show t27.toInt ≤ (2147483647 : Int) from om_44 rg29⟩ hM_v10 hA_f22 (show (2147483647 - t27.toInt).toNat < n1 from om_33 hm1 zt27 rg29) _ _ _ hP hD hS (lv_sub hl [0, 1, 3, 4] rfl)
                · skip
                  have zc11 : ¬ (20 < l4_10.toInt) := zLn tc_20 rfl c11
                  refine lv_aload_n hx hb dX11_layGrowths_38 rfl (lv_at hl 3 rfl) ?_
                  refine va_get (D := (dC, dI)) (ci := 11) (v := .ref (r 75)) (C := RX11) (T := TX11) (N := 79) hx hb hts inB_11 hown hE.1 hP 0 rfl rfl 75 (Nat.le_of_ble_eq_true rfl) (hts _ k_1395) (fun _ h9 => h9) rfl dX11_layGrowths_39 ?_
                  refine lv_bipush (v := 21) hx hb dX11_layGrowths_42 rfl ?_
                  refine lv_iload_n hx hb dX11_layGrowths_44 rfl (lv_at hl 1 rfl) ?_
                  refine lv_imul hx hb dX11_layGrowths_45 ?_
                  refine lv_topi (fun t30 et30 => ?_)
                  have rg31 := fb_rng l3_1
                  have zt30 : t30.toInt = 21 * l3_1.toInt := (congrArg Int32.toInt et30).trans (mul_i tc_21 rfl (om_756 hr3_1) (om_757 zc2))
                  refine lv_iload hx hb dX11_layGrowths_46 (lv_at hl 0 rfl) ?_
                  refine lv_iadd hx hb dX11_layGrowths_48 ?_
                  refine lv_topi (fun t32 et32 => ?_)
                  have rg33 := fb_rng t30
                  have rg34 := fb_rng l4_10
                  have zt32 : t32.toInt = t30.toInt + l4_10.toInt := (congrArg Int32.toInt et32).trans (add_i rfl rfl (om_114 hr4_10 rg33) (om_758 zc2 zc11 zt30))
                  refine lv_aload_n hx hb dX11_layGrowths_49 rfl (lv_at hl 3 rfl) ?_
                  refine lv_iconst (v := 0) hx hb dX11_layGrowths_50 rfl ?_
                  refine lv_iconst (v := 0) hx hb dX11_layGrowths_51 rfl ?_
                  refine cbVi (n := 2) (rest := [.int t32, .ref (r 75)]) hx hb hml hown hts hE hP hD hS hA (sY_X11_fits_1 0 l dC dI cy y0 r 0 0 v10 f10 w10 g10 hIv10 hCf10 hRf10 ⟨by decide, by decide⟩ ⟨by decide, by decide⟩) k_1747 k_1749 k_73 k_114 k_1750 hd_yX11_fits ⟨Nat.le_of_ble_eq_true rfl, Nat.le_of_ble_eq_true rfl⟩ 0 11 rfl rfl (rfl) hl.1 rfl (Nat.le_of_ble_eq_true rfl) dX11_layGrowths_52 (fun r35 u H locs hw hP hD hS => ?_)
                  obtain ⟨hG36, hw⟩ := hw
                  obtain ⟨v37, f38, w39, g40⟩ := u
                  obtain ⟨kV_v37, kF_f38, hIv37, hCf38, hRf38, hk0_v37, hk1_v37, hk2_v37, hk3_v37, hk4_v37, hk5_v37, hk8_v37, hk9_v37, hk10_v37, hk13_v37, hk14_v37, hk15_v37, hk17_v37, hk18_v37, hk24_v37, hk25_v37, hk35_v37, hk36_v37, hk38_v37, hk39_v37, hw⟩ := hw
                  have hM_v37 : KV [] v37 v := KV.tr kV_v37 hM_v10 rfl
                  have hA_f38 : KF [7, 8, 24, 34, 35] f38 f := KF.tr kF_f38 hA_f10 rfl
                  have hP : va_P (dC, dI) vwCl (YW cy y0 r v37 f38 w39 g40) H := hP
                  have hD : va_D A (YW cy y0 r v37 f38 w39 g40) := hD
                  have hUv37 : (v37 35).toInt + (v37 36).toInt ≤ 40 := hIv37.2
                  have hq0_v37 : v37 0 = (v 0) := hk0_v37.trans hq0_v10
                  have hq1_v37 : v37 1 = (v 1) := hk1_v37.trans hq1_v10
                  have hq2_v37 : v37 2 = (v 2) := hk2_v37.trans hq2_v10
                  have hq3_v37 : v37 3 = (v 3) := hk3_v37.trans hq3_v10
                  have hq4_v37 : v37 4 = (v 4) := hk4_v37.trans hq4_v10
                  have hq5_v37 : v37 5 = (v 5) := hk5_v37.trans hq5_v10
                  have hq8_v37 : v37 8 = (v 8) := hk8_v37.trans hq8_v10
                  have hq9_v37 : v37 9 = (v 9) := hk9_v37.trans hq9_v10
                  have zq9_v37 := congrArg Int32.toInt hq9_v37
                  have hq10_v37 : v37 10 = (v 10) := hk10_v37.trans hq10_v10
                  have hq13_v37 : v37 13 = (v 13) := hk13_v37.trans hq13_v10
                  have hq14_v37 : v37 14 = (v 14) := hk14_v37.trans hq14_v10
                  have hq15_v37 : v37 15 = (v 15) := hk15_v37.trans hq15_v10
                  have hq17_v37 : v37 17 = (v 17) := hk17_v37.trans hq17_v10
                  have hq18_v37 : v37 18 = (v 18) := hk18_v37.trans hq18_v10
                  have hq24_v37 : v37 24 = (v 24) := hk24_v37.trans hq24_v10
                  have hq25_v37 : v37 25 = (v 25) := hk25_v37.trans hq25_v10
                  have hq35_v37 : v37 35 = (v 35) := hk35_v37.trans hq35_v10
                  have hq36_v37 : v37 36 = (v 36) := hk36_v37.trans hq36_v10
                  have hq38_v37 : v37 38 = (v 38) := hk38_v37.trans hq38_v10
                  have hq39_v37 : v37 39 = (v 39) := hk39_v37.trans hq39_v10
                  rcases hw with ⟨g41⟩ | ⟨g41⟩
                  · skip
                    subst g41
                    refine stZ hx hb hE hP hD hS 35 rfl (vpI (k := 651) rfl (show 0 ≤ t32.toInt from om_759 hr3_1 hr4_10 zt30 zt32) (show t32.toInt < 651 from om_760 zc2 zc11 zt30 zt32)) rfl dX11_layGrowths_55 (fun H locs hP hD hS => ?_)
                    obtain ⟨f42, ef42, hP, hD⟩ : ∃ fz9, fz9 = upd2 f38 34 (upd (f38 34) t32.toNatClampNeg (vp_nar .boolean 1)) ∧ va_P (dC, dI) vwCl (YW cy y0 r v37 fz9 w39 g40) H ∧ va_D A (YW cy y0 r v37 fz9 w39 g40) := ⟨_, rfl, hP, hD⟩
                    have hCf42 : YC f42 := by rw [ef42]; exact hCf38
                    have hRf42 : progOK (f42 4) (f42 5) (v37 9).toInt.toNat := by rw [ef42]; exact hRf38
                    have hA_f42 : KF [7, 8, 24, 34, 35] f42 f := by rw [ef42]; exact KF.up hA_f38 rfl
                    refine lv_aload_n hx hb dX11_layGrowths_56 rfl (lv_at hl 3 rfl) ?_
                    refine va_get (D := (dC, dI)) (ci := 11) (v := .ref (r 60)) (C := RX11) (T := TX11) (N := 79) hx hb hts inB_11 hown hE.1 hP 0 rfl rfl 60 (Nat.le_of_ble_eq_true rfl) (hts _ k_1380) (fun _ h9 => h9) rfl dX11_layGrowths_57 ?_
                    refine lv_iconst (v := 0) hx hb dX11_layGrowths_60 rfl ?_
                    refine lv_bipush (v := 99) hx hb dX11_layGrowths_61 rfl ?_
                    refine lv_aload_n hx hb dX11_layGrowths_63 rfl (lv_at hl 3 rfl) ?_
                    refine va_get (D := (dC, dI)) (ci := 11) (v := .ref (r 60)) (C := RX11) (T := TX11) (N := 79) hx hb hts inB_11 hown hE.1 hP 0 rfl rfl 60 (Nat.le_of_ble_eq_true rfl) (hts _ k_1380) (fun _ h9 => h9) rfl dX11_layGrowths_64 ?_
                    refine lv_iconst (v := 0) hx hb dX11_layGrowths_67 rfl ?_
                    refine ldI hx hb hE hP 25 rfl (vp_in_nI (n := 0) (by decide) (by decide)) rfl rfl dX11_layGrowths_68 ?_
                    refine lv_topi (fun t43 et43 => ?_)
                    have zt43 : 0 % 39 < 6 ∨ 12 ≤ 0 % 39 ∨ (-1 ≤ t43.toInt ∧ t43.toInt ≤ 5) := by rw [et43]; exact wear_ld hCf42.2.1 (show 0 < 39 from om_761)
                    refine lv_iload_n hx hb dX11_layGrowths_69 rfl (lv_at hl 1 rfl) ?_
                    refine lv_iadd hx hb dX11_layGrowths_70 ?_
                    refine lv_topi (fun t44 et44 => ?_)
                    have lt45 : (99 : Int32).toInt = 99 := by decide
                    refine cbSi (n := 2) (rest := [.int 0, .ref (r 60)]) hx hb hml hown hts hE hP hD hS hA (sY_X11_lesser_1 0 l dC dI cy y0 r 99 t44 v37 f42 w39 g40 hIv37 hCf42 hRf42 ) k_1799 k_1800 k_114 k_1801 he_yX11_lesser ⟨Nat.le_of_ble_eq_true rfl, Nat.le_of_ble_eq_true rfl⟩ (rfl) hl.1 rfl (Nat.le_of_ble_eq_true rfl) dX11_layGrowths_71 (fun r46 u H locs hw hP hD hS => ?_)
                    obtain ⟨hG47, hw⟩ := hw
                    obtain ⟨pp48, pp49⟩ := hw
                    have pp48 : r46.toInt ≤ (99 : Int32).toInt := pp48
                    have pp49 : r46.toInt ≤ t44.toInt := pp49
                    refine stI hx hb hE hP hD hS 25 rfl (vp_in_nI (n := 0) (by decide) (by decide)) rfl dX11_layGrowths_74 (fun H locs hP hD hS => ?_)
                    obtain ⟨f50, ef50, hP, hD⟩ : ∃ fz9, fz9 = upd2 f42 24 (upd (f42 24) (0 : Int32).toNatClampNeg r46) ∧ va_P (dC, dI) vwCl (YW cy y0 r v37 fz9 w39 g40) H ∧ va_D A (YW cy y0 r v37 fz9 w39 g40) := ⟨_, rfl, hP, hD⟩
                    have hCf50 : YC f50 := by rw [ef50]; exact ⟨hCf42.1, (wear_st hCf42.2.1 (by show 0 % 39 < 6 ∨ 12 ≤ 0 % 39 ∨ (-1 ≤ r46.toInt ∧ r46.toInt ≤ 5); omega)), hCf42.2.2.1, hCf42.2.2.2.1, hCf42.2.2.2.2.1, hCf42.2.2.2.2.2⟩
                    have hRf50 : progOK (f50 4) (f50 5) (v37 9).toInt.toNat := by rw [ef50]; exact hRf42
                    have hA_f50 : KF [7, 8, 24, 34, 35] f50 f := by rw [ef50]; exact KF.up hA_f42 rfl
                    refine lv_aload_n hx hb dX11_layGrowths_75 rfl (lv_at hl 3 rfl) ?_
                    refine va_get (D := (dC, dI)) (ci := 11) (v := .ref (r 60)) (C := RX11) (T := TX11) (N := 79) hx hb hts inB_11 hown hE.1 hP 0 rfl rfl 60 (Nat.le_of_ble_eq_true rfl) (hts _ k_1380) (fun _ h9 => h9) rfl dX11_layGrowths_76 ?_
                    refine lv_bipush (v := 30) hx hb dX11_layGrowths_79 rfl ?_
                    refine lv_bipush (v := 99) hx hb dX11_layGrowths_81 rfl ?_
                    refine lv_aload_n hx hb dX11_layGrowths_83 rfl (lv_at hl 3 rfl) ?_
                    refine va_get (D := (dC, dI)) (ci := 11) (v := .ref (r 60)) (C := RX11) (T := TX11) (N := 79) hx hb hts inB_11 hown hE.1 hP 0 rfl rfl 60 (Nat.le_of_ble_eq_true rfl) (hts _ k_1380) (fun _ h9 => h9) rfl dX11_layGrowths_84 ?_
                    refine lv_bipush (v := 30) hx hb dX11_layGrowths_87 rfl ?_
                    refine ldI hx hb hE hP 25 rfl (vp_in_nI (n := 30) (by decide) (by decide)) rfl rfl dX11_layGrowths_89 ?_
                    refine lv_topi (fun t51 et51 => ?_)
                    have zt51 : 30 % 39 < 6 ∨ 12 ≤ 30 % 39 ∨ (-1 ≤ t51.toInt ∧ t51.toInt ≤ 5) := by rw [et51]; exact wear_ld hCf50.2.1 (show 30 < 39 from om_762)
                    refine lv_iconst (v := 1) hx hb dX11_layGrowths_90 rfl ?_
                    refine lv_iadd hx hb dX11_layGrowths_91 ?_
                    refine lv_topi (fun t52 et52 => ?_)
                    refine cbSi (n := 2) (rest := [.int 30, .ref (r 60)]) hx hb hml hown hts hE hP hD hS hA (sY_X11_lesser_1 0 l dC dI cy y0 r 99 t52 v37 f50 w39 g40 hIv37 hCf50 hRf50 ) k_1799 k_1800 k_114 k_1801 he_yX11_lesser ⟨Nat.le_of_ble_eq_true rfl, Nat.le_of_ble_eq_true rfl⟩ (rfl) hl.1 rfl (Nat.le_of_ble_eq_true rfl) dX11_layGrowths_92 (fun r53 u H locs hw hP hD hS => ?_)
                    obtain ⟨hG54, hw⟩ := hw
                    obtain ⟨pp55, pp56⟩ := hw
                    have pp55 : r53.toInt ≤ (99 : Int32).toInt := pp55
                    have pp56 : r53.toInt ≤ t52.toInt := pp56
                    refine stI hx hb hE hP hD hS 25 rfl (vp_in_nI (n := 30) (by decide) (by decide)) rfl dX11_layGrowths_95 (fun H locs hP hD hS => ?_)
                    obtain ⟨f57, ef57, hP, hD⟩ : ∃ fz9, fz9 = upd2 f50 24 (upd (f50 24) (30 : Int32).toNatClampNeg r53) ∧ va_P (dC, dI) vwCl (YW cy y0 r v37 fz9 w39 g40) H ∧ va_D A (YW cy y0 r v37 fz9 w39 g40) := ⟨_, rfl, hP, hD⟩
                    have hCf57 : YC f57 := by rw [ef57]; exact ⟨hCf50.1, (wear_st hCf50.2.1 (by show 30 % 39 < 6 ∨ 12 ≤ 30 % 39 ∨ (-1 ≤ r53.toInt ∧ r53.toInt ≤ 5); omega)), hCf50.2.2.1, hCf50.2.2.2.1, hCf50.2.2.2.2.1, hCf50.2.2.2.2.2⟩
                    have hRf57 : progOK (f57 4) (f57 5) (v37 9).toInt.toNat := by rw [ef57]; exact hRf50
                    have hA_f57 : KF [7, 8, 24, 34, 35] f57 f := by rw [ef57]; exact KF.up hA_f50 rfl
                    refine lv_aload_n hx hb dX11_layGrowths_96 rfl (lv_at hl 3 rfl) ?_
                    refine va_get (D := (dC, dI)) (ci := 11) (v := .ref (r 60)) (C := RX11) (T := TX11) (N := 79) hx hb hts inB_11 hown hE.1 hP 0 rfl rfl 60 (Nat.le_of_ble_eq_true rfl) (hts _ k_1380) (fun _ h9 => h9) rfl dX11_layGrowths_97 ?_
                    refine lv_bipush (v := 37) hx hb dX11_layGrowths_100 rfl ?_
                    refine lv_dup2_11 hx hb dX11_layGrowths_102 rfl rfl ?_
                    refine ldI hx hb hE hP 25 rfl (vp_in_nI (n := 37) (by decide) (by decide)) rfl rfl dX11_layGrowths_103 ?_
                    refine lv_topi (fun t58 et58 => ?_)
                    have zt58 : 37 % 39 < 6 ∨ 12 ≤ 37 % 39 ∨ (-1 ≤ t58.toInt ∧ t58.toInt ≤ 5) := by rw [et58]; exact wear_ld hCf57.2.1 (show 37 < 39 from om_545)
                    refine lv_iconst (v := 1) hx hb dX11_layGrowths_104 rfl ?_
                    refine lv_iadd hx hb dX11_layGrowths_105 ?_
                    refine lv_topi (fun t59 et59 => ?_)
                    refine stI hx hb hE hP hD hS 25 rfl (vp_in_nI (n := 37) (by decide) (by decide)) rfl dX11_layGrowths_106 (fun H locs hP hD hS => ?_)
                    obtain ⟨f60, ef60, hP, hD⟩ : ∃ fz9, fz9 = upd2 f57 24 (upd (f57 24) (37 : Int32).toNatClampNeg t59) ∧ va_P (dC, dI) vwCl (YW cy y0 r v37 fz9 w39 g40) H ∧ va_D A (YW cy y0 r v37 fz9 w39 g40) := ⟨_, rfl, hP, hD⟩
                    have hCf60 : YC f60 := by rw [ef60]; exact ⟨hCf57.1, (wear_st hCf57.2.1 (by show 37 % 39 < 6 ∨ 12 ≤ 37 % 39 ∨ (-1 ≤ t59.toInt ∧ t59.toInt ≤ 5); omega)), hCf57.2.2.1, hCf57.2.2.2.1, hCf57.2.2.2.2.1, hCf57.2.2.2.2.2⟩
                    have hRf60 : progOK (f60 4) (f60 5) (v37 9).toInt.toNat := by rw [ef60]; exact hRf57
                    have hA_f60 : KF [7, 8, 24, 34, 35] f60 f := by rw [ef60]; exact KF.up hA_f57 rfl
                    obtain ⟨t61, et61⟩ : ∃ y : Int32, y = l4_10 + 1 := ⟨_, rfl⟩
                    have zt61 : t61.toInt = l4_10.toInt + 1 := (congrArg Int32.toInt et61).trans (add_i rfl tc_1 (om_41 hr4_10) (om_257 zc11))
                    refine lv_iinc (v := t61) (lv' := [(4, .int t61), (3, .int l3_1), (2, .int l2_1), (0, .ref y0), (1, .int p1)]) hx hb dX11_layGrowths_107 hl (k := 0) rfl et61.symm (Nat.le_of_ble_eq_true rfl) rfl (fun ls hl => ?_)
                    refine lv_goto (tgt := 31) hx hb dX11_layGrowths_110 rfl ?_
                    have rg62 := fb_rng t61
                    exact ih10 t61 v37 f60 w39 g40 hIv37 hCf60 hRf60 hq0_v37 hq1_v37 hq2_v37 hq3_v37 hq4_v37 hq5_v37 hq8_v37 hq9_v37 hq10_v37 hq13_v37 hq14_v37 hq15_v37 hq17_v37 hq18_v37 hq24_v37 hq25_v37 hq35_v37 hq36_v37 hq38_v37 hq39_v37 ⟨show (0 : Int) ≤ t61.toInt from om_43 hr4_10 zt61, show t61.toInt ≤ (2147483647 : Int) from om_44 rg62⟩ hM_v37 hA_f60 (show (2147483647 - t61.toInt).toNat < n10 from om_33 hm10 zt61 rg62) _ _ _ hP hD hS (lv_sub hl [0, 1, 2, 3, 4] rfl)
                  · skip
                    subst g41
                    refine stZ hx hb hE hP hD hS 35 rfl (vpI (k := 651) rfl (show 0 ≤ t32.toInt from om_759 hr3_1 hr4_10 zt30 zt32) (show t32.toInt < 651 from om_760 zc2 zc11 zt30 zt32)) rfl dX11_layGrowths_55 (fun H locs hP hD hS => ?_)
                    obtain ⟨f63, ef63, hP, hD⟩ : ∃ fz9, fz9 = upd2 f38 34 (upd (f38 34) t32.toNatClampNeg (vp_nar .boolean 0)) ∧ va_P (dC, dI) vwCl (YW cy y0 r v37 fz9 w39 g40) H ∧ va_D A (YW cy y0 r v37 fz9 w39 g40) := ⟨_, rfl, hP, hD⟩
                    have hCf63 : YC f63 := by rw [ef63]; exact hCf38
                    have hRf63 : progOK (f63 4) (f63 5) (v37 9).toInt.toNat := by rw [ef63]; exact hRf38
                    have hA_f63 : KF [7, 8, 24, 34, 35] f63 f := by rw [ef63]; exact KF.up hA_f38 rfl
                    refine lv_aload_n hx hb dX11_layGrowths_56 rfl (lv_at hl 3 rfl) ?_
                    refine va_get (D := (dC, dI)) (ci := 11) (v := .ref (r 60)) (C := RX11) (T := TX11) (N := 79) hx hb hts inB_11 hown hE.1 hP 0 rfl rfl 60 (Nat.le_of_ble_eq_true rfl) (hts _ k_1380) (fun _ h9 => h9) rfl dX11_layGrowths_57 ?_
                    refine lv_iconst (v := 0) hx hb dX11_layGrowths_60 rfl ?_
                    refine lv_bipush (v := 99) hx hb dX11_layGrowths_61 rfl ?_
                    refine lv_aload_n hx hb dX11_layGrowths_63 rfl (lv_at hl 3 rfl) ?_
                    refine va_get (D := (dC, dI)) (ci := 11) (v := .ref (r 60)) (C := RX11) (T := TX11) (N := 79) hx hb hts inB_11 hown hE.1 hP 0 rfl rfl 60 (Nat.le_of_ble_eq_true rfl) (hts _ k_1380) (fun _ h9 => h9) rfl dX11_layGrowths_64 ?_
                    refine lv_iconst (v := 0) hx hb dX11_layGrowths_67 rfl ?_
                    refine ldI hx hb hE hP 25 rfl (vp_in_nI (n := 0) (by decide) (by decide)) rfl rfl dX11_layGrowths_68 ?_
                    refine lv_topi (fun t64 et64 => ?_)
                    have zt64 : 0 % 39 < 6 ∨ 12 ≤ 0 % 39 ∨ (-1 ≤ t64.toInt ∧ t64.toInt ≤ 5) := by rw [et64]; exact wear_ld hCf63.2.1 (show 0 < 39 from om_761)
                    refine lv_iload_n hx hb dX11_layGrowths_69 rfl (lv_at hl 1 rfl) ?_
                    refine lv_iadd hx hb dX11_layGrowths_70 ?_
                    refine lv_topi (fun t65 et65 => ?_)
                    have lt66 : (99 : Int32).toInt = 99 := by decide
                    refine cbSi (n := 2) (rest := [.int 0, .ref (r 60)]) hx hb hml hown hts hE hP hD hS hA (sY_X11_lesser_1 0 l dC dI cy y0 r 99 t65 v37 f63 w39 g40 hIv37 hCf63 hRf63 ) k_1799 k_1800 k_114 k_1801 he_yX11_lesser ⟨Nat.le_of_ble_eq_true rfl, Nat.le_of_ble_eq_true rfl⟩ (rfl) hl.1 rfl (Nat.le_of_ble_eq_true rfl) dX11_layGrowths_71 (fun r67 u H locs hw hP hD hS => ?_)
                    obtain ⟨hG68, hw⟩ := hw
                    obtain ⟨pp69, pp70⟩ := hw
                    have pp69 : r67.toInt ≤ (99 : Int32).toInt := pp69
                    have pp70 : r67.toInt ≤ t65.toInt := pp70
                    refine stI hx hb hE hP hD hS 25 rfl (vp_in_nI (n := 0) (by decide) (by decide)) rfl dX11_layGrowths_74 (fun H locs hP hD hS => ?_)
                    obtain ⟨f71, ef71, hP, hD⟩ : ∃ fz9, fz9 = upd2 f63 24 (upd (f63 24) (0 : Int32).toNatClampNeg r67) ∧ va_P (dC, dI) vwCl (YW cy y0 r v37 fz9 w39 g40) H ∧ va_D A (YW cy y0 r v37 fz9 w39 g40) := ⟨_, rfl, hP, hD⟩
                    have hCf71 : YC f71 := by rw [ef71]; exact ⟨hCf63.1, (wear_st hCf63.2.1 (by show 0 % 39 < 6 ∨ 12 ≤ 0 % 39 ∨ (-1 ≤ r67.toInt ∧ r67.toInt ≤ 5); omega)), hCf63.2.2.1, hCf63.2.2.2.1, hCf63.2.2.2.2.1, hCf63.2.2.2.2.2⟩
                    have hRf71 : progOK (f71 4) (f71 5) (v37 9).toInt.toNat := by rw [ef71]; exact hRf63
                    have hA_f71 : KF [7, 8, 24, 34, 35] f71 f := by rw [ef71]; exact KF.up hA_f63 rfl
                    refine lv_aload_n hx hb dX11_layGrowths_75 rfl (lv_at hl 3 rfl) ?_
                    refine va_get (D := (dC, dI)) (ci := 11) (v := .ref (r 60)) (C := RX11) (T := TX11) (N := 79) hx hb hts inB_11 hown hE.1 hP 0 rfl rfl 60 (Nat.le_of_ble_eq_true rfl) (hts _ k_1380) (fun _ h9 => h9) rfl dX11_layGrowths_76 ?_
                    refine lv_bipush (v := 30) hx hb dX11_layGrowths_79 rfl ?_
                    refine lv_bipush (v := 99) hx hb dX11_layGrowths_81 rfl ?_
                    refine lv_aload_n hx hb dX11_layGrowths_83 rfl (lv_at hl 3 rfl) ?_
                    refine va_get (D := (dC, dI)) (ci := 11) (v := .ref (r 60)) (C := RX11) (T := TX11) (N := 79) hx hb hts inB_11 hown hE.1 hP 0 rfl rfl 60 (Nat.le_of_ble_eq_true rfl) (hts _ k_1380) (fun _ h9 => h9) rfl dX11_layGrowths_84 ?_
                    refine lv_bipush (v := 30) hx hb dX11_layGrowths_87 rfl ?_
                    refine ldI hx hb hE hP 25 rfl (vp_in_nI (n := 30) (by decide) (by decide)) rfl rfl dX11_layGrowths_89 ?_
                    refine lv_topi (fun t72 et72 => ?_)
                    have zt72 : 30 % 39 < 6 ∨ 12 ≤ 30 % 39 ∨ (-1 ≤ t72.toInt ∧ t72.toInt ≤ 5) := by rw [et72]; exact wear_ld hCf71.2.1 (show 30 < 39 from om_762)
                    refine lv_iconst (v := 1) hx hb dX11_layGrowths_90 rfl ?_
                    refine lv_iadd hx hb dX11_layGrowths_91 ?_
                    refine lv_topi (fun t73 et73 => ?_)
                    refine cbSi (n := 2) (rest := [.int 30, .ref (r 60)]) hx hb hml hown hts hE hP hD hS hA (sY_X11_lesser_1 0 l dC dI cy y0 r 99 t73 v37 f71 w39 g40 hIv37 hCf71 hRf71 ) k_1799 k_1800 k_114 k_1801 he_yX11_lesser ⟨Nat.le_of_ble_eq_true rfl, Nat.le_of_ble_eq_true rfl⟩ (rfl) hl.1 rfl (Nat.le_of_ble_eq_true rfl) dX11_layGrowths_92 (fun r74 u H locs hw hP hD hS => ?_)
                    obtain ⟨hG75, hw⟩ := hw
                    obtain ⟨pp76, pp77⟩ := hw
                    have pp76 : r74.toInt ≤ (99 : Int32).toInt := pp76
                    have pp77 : r74.toInt ≤ t73.toInt := pp77
                    refine stI hx hb hE hP hD hS 25 rfl (vp_in_nI (n := 30) (by decide) (by decide)) rfl dX11_layGrowths_95 (fun H locs hP hD hS => ?_)
                    obtain ⟨f78, ef78, hP, hD⟩ : ∃ fz9, fz9 = upd2 f71 24 (upd (f71 24) (30 : Int32).toNatClampNeg r74) ∧ va_P (dC, dI) vwCl (YW cy y0 r v37 fz9 w39 g40) H ∧ va_D A (YW cy y0 r v37 fz9 w39 g40) := ⟨_, rfl, hP, hD⟩
                    have hCf78 : YC f78 := by rw [ef78]; exact ⟨hCf71.1, (wear_st hCf71.2.1 (by show 30 % 39 < 6 ∨ 12 ≤ 30 % 39 ∨ (-1 ≤ r74.toInt ∧ r74.toInt ≤ 5); omega)), hCf71.2.2.1, hCf71.2.2.2.1, hCf71.2.2.2.2.1, hCf71.2.2.2.2.2⟩
                    have hRf78 : progOK (f78 4) (f78 5) (v37 9).toInt.toNat := by rw [ef78]; exact hRf71
                    have hA_f78 : KF [7, 8, 24, 34, 35] f78 f := by rw [ef78]; exact KF.up hA_f71 rfl
                    refine lv_aload_n hx hb dX11_layGrowths_96 rfl (lv_at hl 3 rfl) ?_
                    refine va_get (D := (dC, dI)) (ci := 11) (v := .ref (r 60)) (C := RX11) (T := TX11) (N := 79) hx hb hts inB_11 hown hE.1 hP 0 rfl rfl 60 (Nat.le_of_ble_eq_true rfl) (hts _ k_1380) (fun _ h9 => h9) rfl dX11_layGrowths_97 ?_
                    refine lv_bipush (v := 37) hx hb dX11_layGrowths_100 rfl ?_
                    refine lv_dup2_11 hx hb dX11_layGrowths_102 rfl rfl ?_
                    refine ldI hx hb hE hP 25 rfl (vp_in_nI (n := 37) (by decide) (by decide)) rfl rfl dX11_layGrowths_103 ?_
                    refine lv_topi (fun t79 et79 => ?_)
                    have zt79 : 37 % 39 < 6 ∨ 12 ≤ 37 % 39 ∨ (-1 ≤ t79.toInt ∧ t79.toInt ≤ 5) := by rw [et79]; exact wear_ld hCf78.2.1 (show 37 < 39 from om_545)
                    refine lv_iconst (v := 1) hx hb dX11_layGrowths_104 rfl ?_
                    refine lv_iadd hx hb dX11_layGrowths_105 ?_
                    refine lv_topi (fun t80 et80 => ?_)
                    refine stI hx hb hE hP hD hS 25 rfl (vp_in_nI (n := 37) (by decide) (by decide)) rfl dX11_layGrowths_106 (fun H locs hP hD hS => ?_)
                    obtain ⟨f81, ef81, hP, hD⟩ : ∃ fz9, fz9 = upd2 f78 24 (upd (f78 24) (37 : Int32).toNatClampNeg t80) ∧ va_P (dC, dI) vwCl (YW cy y0 r v37 fz9 w39 g40) H ∧ va_D A (YW cy y0 r v37 fz9 w39 g40) := ⟨_, rfl, hP, hD⟩
                    have hCf81 : YC f81 := by rw [ef81]; exact ⟨hCf78.1, (wear_st hCf78.2.1 (by show 37 % 39 < 6 ∨ 12 ≤ 37 % 39 ∨ (-1 ≤ t80.toInt ∧ t80.toInt ≤ 5); omega)), hCf78.2.2.1, hCf78.2.2.2.1, hCf78.2.2.2.2.1, hCf78.2.2.2.2.2⟩
                    have hRf81 : progOK (f81 4) (f81 5) (v37 9).toInt.toNat := by rw [ef81]; exact hRf78
                    have hA_f81 : KF [7, 8, 24, 34, 35] f81 f := by rw [ef81]; exact KF.up hA_f78 rfl
                    obtain ⟨t82, et82⟩ : ∃ y : Int32, y = l4_10 + 1 := ⟨_, rfl⟩
                    have zt82 : t82.toInt = l4_10.toInt + 1 := (congrArg Int32.toInt et82).trans (add_i rfl tc_1 (om_41 hr4_10) (om_257 zc11))
                    refine lv_iinc (v := t82) (lv' := [(4, .int t82), (3, .int l3_1), (2, .int l2_1), (0, .ref y0), (1, .int p1)]) hx hb dX11_layGrowths_107 hl (k := 0) rfl et82.symm (Nat.le_of_ble_eq_true rfl) rfl (fun ls hl => ?_)
                    refine lv_goto (tgt := 31) hx hb dX11_layGrowths_110 rfl ?_
                    have rg83 := fb_rng t82
                    exact ih10 t82 v37 f81 w39 g40 hIv37 hCf81 hRf81 hq0_v37 hq1_v37 hq2_v37 hq3_v37 hq4_v37 hq5_v37 hq8_v37 hq9_v37 hq10_v37 hq13_v37 hq14_v37 hq15_v37 hq17_v37 hq18_v37 hq24_v37 hq25_v37 hq35_v37 hq36_v37 hq38_v37 hq39_v37 ⟨show (0 : Int) ≤ t82.toInt from om_43 hr4_10 zt82, show t82.toInt ≤ (2147483647 : Int) from om_44 rg83⟩ hM_v37 hA_f81 (show (2147483647 - t82.toInt).toNat < n10 from om_33 hm10 zt82 rg83) _ _ _ hP hD hS (lv_sub hl [0, 1, 2, 3, 4] rfl)
            exact lp10 _ 0 v6 f7 w8 g9 hIv6 hCf7 hRf7 hq0_v6 hq1_v6 hq2_v6 hq3_v6 hq4_v6 hq5_v6 hq8_v6 hq9_v6 hq10_v6 hq13_v6 hq14_v6 hq15_v6 hq17_v6 hq18_v6 hq24_v6 hq25_v6 hq35_v6 hq36_v6 hq38_v6 hq39_v6 ⟨by decide, by decide⟩ hM_v6 hA_f7 (Nat.lt_succ_self _) _ _ _ hP hD hS (lv_sub hl [0, 1, 2, 3, 4] rfl)
  exact lp1 _ 0 0 v f w g hIv hCf hRf rfl rfl rfl rfl rfl rfl rfl rfl rfl rfl rfl rfl rfl rfl rfl rfl rfl rfl rfl rfl ⟨by decide, by decide⟩ hM_v hA_f (Nat.lt_succ_self _) _ _ _ hP hD hS (lv_sub hl [0, 1, 2, 3] rfl)
set_option maxHeartbeats 4000000 in
set_option maxRecDepth 100000 in
theorem sY_X11_growths_1 (l : Launch) (dC : Nat → ClassId) (dI : Nat → Nat → Nat) (cy : Nat → ClassId) (y0 : Nat) (r : Nat → Nat) (p1 : Int32) (v : Nat → Int32) (f : Nat → Nat → Int32) (w : Int64) (g : Nat → Int64) (hIv : YI v) (hCf : YC f) (hRf : progOK (f 4) (f 5) (v 9).toInt.toNat)  : ctI l (dC, dI) cy yX11_growths cX11_growths 2 .int 6 172 0 0 ((Nat → Int32) × (Nat → Nat → Int32) × (Int64) × (Nat → Int64)) [.ref y0, .int p1] (YW cy y0 r v f w g) (fun r u => KV [] u.1 v ∧ KF [7, 8, 24, 34, 35] u.2.1 f ∧ YI u.1 ∧ YC u.2.1 ∧ progOK (u.2.1 4) (u.2.1 5) (u.1 9).toInt.toNat ∧ u.1 0 = v 0 ∧ u.1 1 = v 1 ∧ u.1 2 = v 2 ∧ u.1 3 = v 3 ∧ u.1 4 = v 4 ∧ u.1 5 = v 5 ∧ u.1 8 = v 8 ∧ u.1 9 = v 9 ∧ u.1 10 = v 10 ∧ u.1 13 = v 13 ∧ u.1 14 = v 14 ∧ u.1 15 = v 15 ∧ u.1 17 = v 17 ∧ u.1 18 = v 18 ∧ u.1 24 = v 24 ∧ u.1 25 = v 25 ∧ u.1 35 = v 35 ∧ u.1 36 = v 36 ∧ u.1 38 = v 38 ∧ u.1 39 = v 39) (fun u => YW cy y0 r u.1 u.2.1 u.2.2.1 u.2.2.2) := by
  refine ctI_of (by decide) (Nat.le_of_ble_eq_true rfl) (fun p e s m below meth c A ls Q hx hb hml hts hown hE hP hD hA hl ret => ?_)
  have hM_v : KV [] v v := fun _ _ => rfl
  have hA_f : KF [7, 8, 24, 34, 35] f f := fun _ _ => rfl
  have hown : s.vm.findClass RX11 = some m.cls := hown
  have hS : va_S A s.heap s.heap [] := va_S.rf
  have hl : lv_has ls 2 [(0, .ref y0), (1, .int p1)] := hl
  refine lv_aload_n hx hb dX11_growths_0 rfl (lv_at hl 0 rfl) ?_
  refine lv_iload_n hx hb dX11_growths_1 rfl (lv_at hl 1 rfl) ?_
  refine cbVi (n := 1) (rest := []) hx hb hml hown hts hE hP hD hS hA (sY_X11_layGrowths_1 l dC dI cy y0 r p1 v f w g hIv hCf hRf ) k_2024 k_2026 k_97 k_114 k_2027 hd_yX11_layGrowths ⟨Nat.le_of_ble_eq_true rfl, Nat.le_of_ble_eq_true rfl⟩ 0 11 rfl rfl (rfl) hl.1 rfl (Nat.le_of_ble_eq_true rfl) dX11_growths_2 (fun r1 u H locs hw hP hD hS => ?_)
  obtain ⟨v2, f3, w4, g5⟩ := u
  obtain ⟨kV_v2, kF_f3, hIv2, hCf3, hRf3, hk0_v2, hk1_v2, hk2_v2, hk3_v2, hk4_v2, hk5_v2, hk8_v2, hk9_v2, hk10_v2, hk13_v2, hk14_v2, hk15_v2, hk17_v2, hk18_v2, hk24_v2, hk25_v2, hk35_v2, hk36_v2, hk38_v2, hk39_v2⟩ := hw
  have hM_v2 : KV [] v2 v := KV.tr kV_v2 hM_v rfl
  have hA_f3 : KF [7, 8, 24, 34, 35] f3 f := KF.tr kF_f3 hA_f rfl
  have hP : va_P (dC, dI) vwCl (YW cy y0 r v2 f3 w4 g5) H := hP
  have hD : va_D A (YW cy y0 r v2 f3 w4 g5) := hD
  exact ret r1 (v2, f3, w4, g5) _ _ _ _ _ _ rfl ⟨hM_v2, hA_f3, hIv2, hCf3, hRf3, hk0_v2, hk1_v2, hk2_v2, hk3_v2, hk4_v2, hk5_v2, hk8_v2, hk9_v2, hk10_v2, hk13_v2, hk14_v2, hk15_v2, hk17_v2, hk18_v2, hk24_v2, hk25_v2, hk35_v2, hk36_v2, hk38_v2, hk39_v2⟩ hP hD hS dX11_growths_5 (Nat.le_refl _) (Nat.le_refl _)
set_option maxHeartbeats 4000000 in
set_option maxRecDepth 100000 in
theorem sY_X11_sure_1 (l : Launch) (dC : Nat → ClassId) (dI : Nat → Nat → Nat) (cy : Nat → ClassId) (y0 : Nat) (r : Nat → Nat) (p1 : Int32) (p2 : Int32) (v : Nat → Int32) (f : Nat → Nat → Int32) (w : Int64) (g : Nat → Int64) (hIv : YI v) (hCf : YC f) (hRf : progOK (f 4) (f 5) (v 9).toInt.toNat)  : ctI l (dC, dI) cy yX11_sure cX11_sure 5 .int 6 172 0 0 ((Nat → Int32) × (Nat → Nat → Int32) × (Int64) × (Nat → Int64)) [.ref y0, .int p1, .int p2] (YW cy y0 r v f w g) (fun r u => KV [] u.1 v ∧ KF [7, 8, 24, 34, 35] u.2.1 f ∧ YI u.1 ∧ YC u.2.1 ∧ progOK (u.2.1 4) (u.2.1 5) (u.1 9).toInt.toNat ∧ u.1 0 = v 0 ∧ u.1 1 = v 1 ∧ u.1 2 = v 2 ∧ u.1 3 = v 3 ∧ u.1 4 = v 4 ∧ u.1 5 = v 5 ∧ u.1 8 = v 8 ∧ u.1 9 = v 9 ∧ u.1 10 = v 10 ∧ u.1 13 = v 13 ∧ u.1 14 = v 14 ∧ u.1 15 = v 15 ∧ u.1 17 = v 17 ∧ u.1 18 = v 18 ∧ u.1 24 = v 24 ∧ u.1 25 = v 25 ∧ u.1 35 = v 35 ∧ u.1 36 = v 36 ∧ u.1 38 = v 38 ∧ u.1 39 = v 39) (fun u => YW cy y0 r u.1 u.2.1 u.2.2.1 u.2.2.2) := by
  refine ctI_of (by decide) (Nat.le_of_ble_eq_true rfl) (fun p e s m below meth c A ls Q hx hb hml hts hown hE hP hD hA hl ret => ?_)
  have hM_v : KV [] v v := fun _ _ => rfl
  have hA_f : KF [7, 8, 24, 34, 35] f f := fun _ _ => rfl
  have hown : s.vm.findClass RX11 = some m.cls := hown
  have hS : va_S A s.heap s.heap [] := va_S.rf
  have hl : lv_has ls 5 [(0, .ref y0), (1, .int p1), (2, .int p2)] := hl
  refine lv_iload_n hx hb dX11_sure_0 rfl (lv_at hl 1 rfl) ?_
  refine lv_iconst (v := 0) hx hb dX11_sure_1 rfl ?_
  refine lv_iconst (v := 1) hx hb dX11_sure_2 rfl ?_
  refine cbSi (n := 3) (rest := []) hx hb hml hown hts hE hP hD hS hA (sY_X11_isIn_1 0 l dC dI cy y0 r p1 0 1 v f w g hIv hCf hRf ) k_1736 k_1737 k_114 k_1738 he_yX11_isIn ⟨Nat.le_of_ble_eq_true rfl, Nat.le_of_ble_eq_true rfl⟩ (rfl) hl.1 rfl (Nat.le_of_ble_eq_true rfl) dX11_sure_3 (fun r3 u H locs hw hP hD hS => ?_)
  obtain ⟨hG4, hw⟩ := hw
  rcases hw with ⟨g5, g5_0, g5_1⟩ | ⟨g5⟩
  · skip
    subst g5
    refine lv_if_eq (tgt := 17) hx hb dX11_sure_6 rfl (fun c0 => absurd c0 (by decide)) (fun _ => ?_)
    refine lv_aload_n hx hb dX11_sure_9 rfl (lv_at hl 0 rfl) ?_
    refine lv_iload_n hx hb dX11_sure_10 rfl (lv_at hl 2 rfl) ?_
    refine cbVi (n := 1) (rest := []) hx hb hml hown hts hE hP hD hS hA (sY_X11_layGrowths_1 l dC dI cy y0 r p2 v f w g hIv hCf hRf ) k_2024 k_2026 k_97 k_114 k_2027 hd_yX11_layGrowths ⟨Nat.le_of_ble_eq_true rfl, Nat.le_of_ble_eq_true rfl⟩ 0 11 rfl rfl (rfl) hl.1 rfl (Nat.le_of_ble_eq_true rfl) dX11_sure_11 (fun r6 u H locs hw hP hD hS => ?_)
    obtain ⟨v7, f8, w9, g10⟩ := u
    obtain ⟨kV_v7, kF_f8, hIv7, hCf8, hRf8, hk0_v7, hk1_v7, hk2_v7, hk3_v7, hk4_v7, hk5_v7, hk8_v7, hk9_v7, hk10_v7, hk13_v7, hk14_v7, hk15_v7, hk17_v7, hk18_v7, hk24_v7, hk25_v7, hk35_v7, hk36_v7, hk38_v7, hk39_v7⟩ := hw
    have hM_v7 : KV [] v7 v := KV.tr kV_v7 hM_v rfl
    have hA_f8 : KF [7, 8, 24, 34, 35] f8 f := KF.tr kF_f8 hA_f rfl
    have hP : va_P (dC, dI) vwCl (YW cy y0 r v7 f8 w9 g10) H := hP
    have hD : va_D A (YW cy y0 r v7 f8 w9 g10) := hD
    refine lv_if_ne (tgt := 19) hx hb dX11_sure_14 rfl (fun c11 => ?_) (fun c11 => ?_)
    · skip
      refine lv_iconst (v := (-1)) hx hb dX11_sure_19 rfl ?_
      refine lv_istore_n (lv' := [(3, .int (-1)), (0, .ref y0), (1, .int p1), (2, .int p2)]) hx hb dX11_sure_20 rfl hl (Nat.le_of_ble_eq_true rfl) rfl (fun ls hl => ?_)
      refine lv_iconst (v := 0) hx hb dX11_sure_21 rfl ?_
      refine lv_istore (lv' := [(4, .int 0), (3, .int (-1)), (0, .ref y0), (1, .int p1), (2, .int p2)]) hx hb dX11_sure_22 hl (Nat.le_of_ble_eq_true rfl) rfl (fun ls hl => ?_)
      have lp12 : ∀ (n12 : Nat) (l3_12 : Int32) (l4_12 : Int32), ((0 : Int) ≤ l4_12.toInt ∧ l4_12.toInt ≤ 2147483647) → (2147483647 - l4_12.toInt).toNat < n12 → ∀ (H : Heap) (locs : List Loc) (ls : Array Slot), va_P (dC, dI) vwCl (YW cy y0 r v7 f8 w9 g10) H → va_D A (YW cy y0 r v7 f8 w9 g10) → va_S A s.heap H locs → lv_has ls 5 [(4, .int l4_12), (3, .int l3_12), (0, .ref y0), (1, .int p1), (2, .int p2)] → W p l e { frames := 6, cells := 0, slots := 0, locals := 172 } s m ([.ref y0, .int p1, .int p2] : List Value).toArray below meth c H locs 0 0 Q (F0 m 24 ls []) := by
        intro n12
        induction n12 with
        | zero => intro l3_12 l4_12 hr4_12 hm; exact absurd hm (Nat.not_lt_zero _)
        | succ n12 ih12 =>
          intro l3_12 l4_12 hr4_12 hm12 H locs ls hP hD hS hl
          refine lv_iload hx hb dX11_sure_24 (lv_at hl 0 rfl) ?_
          refine lv_bipush (v := 30) hx hb dX11_sure_26 rfl ?_
          refine lv_icmp_gt (tgt := 59) hx hb dX11_sure_28 rfl (fun c13 => ?_) (fun c13 => ?_)
          · skip
            refine lv_iload_n hx hb dX11_sure_59 rfl (lv_at hl 1 rfl) ?_
            exact ret l3_12 (v7, f8, w9, g10) _ _ _ _ _ _ rfl ⟨hM_v7, hA_f8, hIv7, hCf8, hRf8, hk0_v7, hk1_v7, hk2_v7, hk3_v7, hk4_v7, hk5_v7, hk8_v7, hk9_v7, hk10_v7, hk13_v7, hk14_v7, hk15_v7, hk17_v7, hk18_v7, hk24_v7, hk25_v7, hk35_v7, hk36_v7, hk38_v7, hk39_v7⟩ hP hD hS dX11_sure_60 (Nat.le_refl _) (Nat.le_refl _)
          · skip
            have zc13 : ¬ (30 < l4_12.toInt) := zLn tc_30 rfl c13
            refine lv_aload_n hx hb dX11_sure_31 rfl (lv_at hl 2 rfl) ?_
            refine va_get (D := (dC, dI)) (ci := 11) (v := .ref (r 76)) (C := RX11) (T := TX11) (N := 79) hx hb hts inB_11 hown hE.1 hP 0 rfl rfl 76 (Nat.le_of_ble_eq_true rfl) (hts _ k_1396) (fun _ h9 => h9) rfl dX11_sure_32 ?_
            refine lv_iload hx hb dX11_sure_35 (lv_at hl 0 rfl) ?_
            refine ldZ hx hb hE hP 36 rfl (vpI (k := 31) rfl (show 0 ≤ l4_12.toInt from om_39 hr4_12) (show l4_12.toInt < 31 from om_755 zc13)) rfl rfl dX11_sure_37 ?_
            refine lv_topi (fun t14 et14 => ?_)
            refine lv_if_eq (tgt := 53) hx hb dX11_sure_38 rfl (fun c15 => ?_) (fun c15 => ?_)
            · skip
              obtain ⟨t16, et16⟩ : ∃ y : Int32, y = l4_12 + 1 := ⟨_, rfl⟩
              have zt16 : t16.toInt = l4_12.toInt + 1 := (congrArg Int32.toInt et16).trans (add_i rfl tc_1 (om_41 hr4_12) (om_270 zc13))
              refine lv_iinc (v := t16) (lv' := [(4, .int t16), (3, .int l3_12), (0, .ref y0), (1, .int p1), (2, .int p2)]) hx hb dX11_sure_53 hl (k := 0) rfl et16.symm (Nat.le_of_ble_eq_true rfl) rfl (fun ls hl => ?_)
              refine lv_goto (tgt := 24) hx hb dX11_sure_56 rfl ?_
              have rg18 := fb_rng t16
              exact ih12 l3_12 t16 ⟨show (0 : Int) ≤ t16.toInt from om_43 hr4_12 zt16, show t16.toInt ≤ (2147483647 : Int) from om_44 rg18⟩ (show (2147483647 - t16.toInt).toNat < n12 from om_33 hm12 zt16 rg18) _ _ _ hP hD hS (lv_sub hl [0, 1, 2, 3, 4] rfl)
            · skip
              refine lv_iload_n hx hb dX11_sure_41 rfl (lv_at hl 1 rfl) ?_
              refine lv_if_lt (tgt := 50) hx hb dX11_sure_42 rfl (fun c19 => ?_) (fun c19 => ?_)
              · skip
                refine lv_iload hx hb dX11_sure_50 (lv_at hl 0 rfl) ?_
                refine lv_istore_n (lv' := [(3, .int l4_12), (4, .int l4_12), (0, .ref y0), (1, .int p1), (2, .int p2)]) hx hb dX11_sure_52 rfl hl (Nat.le_of_ble_eq_true rfl) rfl (fun ls hl => ?_)
                obtain ⟨t20, et20⟩ : ∃ y : Int32, y = l4_12 + 1 := ⟨_, rfl⟩
                have zt20 : t20.toInt = l4_12.toInt + 1 := (congrArg Int32.toInt et20).trans (add_i rfl tc_1 (om_41 hr4_12) (om_270 zc13))
                refine lv_iinc (v := t20) (lv' := [(4, .int t20), (3, .int l4_12), (0, .ref y0), (1, .int p1), (2, .int p2)]) hx hb dX11_sure_53 hl (k := 1) rfl et20.symm (Nat.le_of_ble_eq_true rfl) rfl (fun ls hl => ?_)
                refine lv_goto (tgt := 24) hx hb dX11_sure_56 rfl ?_
                have rg22 := fb_rng t20
                exact ih12 l4_12 t20 ⟨show (0 : Int) ≤ t20.toInt from om_43 hr4_12 zt20, show t20.toInt ≤ (2147483647 : Int) from om_44 rg22⟩ (show (2147483647 - t20.toInt).toNat < n12 from om_33 hm12 zt20 rg22) _ _ _ hP hD hS (lv_sub hl [0, 1, 2, 3, 4] rfl)
              · skip
                refine lv_iload_n hx hb dX11_sure_45 rfl (lv_at hl 3 rfl) ?_
                refine lv_iconst (v := 1) hx hb dX11_sure_46 rfl ?_
                refine lv_icmp_ne (tgt := 53) hx hb dX11_sure_47 rfl (fun c23 => ?_) (fun c23 => ?_)
                · skip
                  obtain ⟨t24, et24⟩ : ∃ y : Int32, y = l4_12 + 1 := ⟨_, rfl⟩
                  have zt24 : t24.toInt = l4_12.toInt + 1 := (congrArg Int32.toInt et24).trans (add_i rfl tc_1 (om_41 hr4_12) (om_270 zc13))
                  refine lv_iinc (v := t24) (lv' := [(4, .int t24), (3, .int l3_12), (0, .ref y0), (1, .int p1), (2, .int p2)]) hx hb dX11_sure_53 hl (k := 0) rfl et24.symm (Nat.le_of_ble_eq_true rfl) rfl (fun ls hl => ?_)
                  refine lv_goto (tgt := 24) hx hb dX11_sure_56 rfl ?_
                  have rg26 := fb_rng t24
                  exact ih12 l3_12 t24 ⟨show (0 : Int) ≤ t24.toInt from om_43 hr4_12 zt24, show t24.toInt ≤ (2147483647 : Int) from om_44 rg26⟩ (show (2147483647 - t24.toInt).toNat < n12 from om_33 hm12 zt24 rg26) _ _ _ hP hD hS (lv_sub hl [0, 1, 2, 3, 4] rfl)
                · skip
                  refine lv_iload hx hb dX11_sure_50 (lv_at hl 0 rfl) ?_
                  refine lv_istore_n (lv' := [(3, .int l4_12), (4, .int l4_12), (0, .ref y0), (1, .int p1), (2, .int p2)]) hx hb dX11_sure_52 rfl hl (Nat.le_of_ble_eq_true rfl) rfl (fun ls hl => ?_)
                  obtain ⟨t27, et27⟩ : ∃ y : Int32, y = l4_12 + 1 := ⟨_, rfl⟩
                  have zt27 : t27.toInt = l4_12.toInt + 1 := (congrArg Int32.toInt et27).trans (add_i rfl tc_1 (om_41 hr4_12) (om_270 zc13))
                  refine lv_iinc (v := t27) (lv' := [(4, .int t27), (3, .int l4_12), (0, .ref y0), (1, .int p1), (2, .int p2)]) hx hb dX11_sure_53 hl (k := 1) rfl et27.symm (Nat.le_of_ble_eq_true rfl) rfl (fun ls hl => ?_)
                  refine lv_goto (tgt := 24) hx hb dX11_sure_56 rfl ?_
                  have rg29 := fb_rng t27
                  exact ih12 l4_12 t27 ⟨show (0 : Int) ≤ t27.toInt from om_43 hr4_12 zt27, show t27.toInt ≤ (2147483647 : Int) from om_44 rg29⟩ (show (2147483647 - t27.toInt).toNat < n12 from om_33 hm12 zt27 rg29) _ _ _ hP hD hS (lv_sub hl [0, 1, 2, 3, 4] rfl)
      exact lp12 _ (-1) 0 ⟨by decide, by decide⟩ (Nat.lt_succ_self _) _ _ _ hP hD hS (lv_sub hl [0, 1, 2, 3, 4] rfl)
    · skip
      refine lv_iconst (v := (-1)) hx hb dX11_sure_17 rfl ?_
      exact ret (-1) (v7, f8, w9, g10) _ _ _ _ _ _ rfl ⟨hM_v7, hA_f8, hIv7, hCf8, hRf8, hk0_v7, hk1_v7, hk2_v7, hk3_v7, hk4_v7, hk5_v7, hk8_v7, hk9_v7, hk10_v7, hk13_v7, hk14_v7, hk15_v7, hk17_v7, hk18_v7, hk24_v7, hk25_v7, hk35_v7, hk36_v7, hk38_v7, hk39_v7⟩ hP hD hS dX11_sure_18 (Nat.le_refl _) (Nat.le_refl _)
  · skip
    subst g5
    refine lv_if_eq (tgt := 17) hx hb dX11_sure_6 rfl (fun _ => ?_) (fun c0 => absurd (by decide) c0)
    refine lv_iconst (v := (-1)) hx hb dX11_sure_17 rfl ?_
    exact ret (-1) (v, f, w, g) _ _ _ _ _ _ rfl ⟨hM_v, hA_f, hIv, hCf, hRf, rfl, rfl, rfl, rfl, rfl, rfl, rfl, rfl, rfl, rfl, rfl, rfl, rfl, rfl, rfl, rfl, rfl, rfl, rfl, rfl⟩ hP hD hS dX11_sure_18 (Nat.le_refl _) (Nat.le_refl _)
set_option maxHeartbeats 4000000 in
set_option maxRecDepth 100000 in
theorem sY_X11_leftBy_1 (l : Launch) (dC : Nat → ClassId) (dI : Nat → Nat → Nat) (cy : Nat → ClassId) (y0 : Nat) (r : Nat → Nat) (p1 : Int32) (p2 : Int32) (v : Nat → Int32) (f : Nat → Nat → Int32) (w : Int64) (g : Nat → Int64) (hIv : YI v) (hCf : YC f) (hRf : progOK (f 4) (f 5) (v 9).toInt.toNat) (hp1 : (0 : Int) ≤ p1.toInt ∧ p1.toInt ≤ 20) : ctI l (dC, dI) cy yX11_leftBy cX11_leftBy 5 .int 2 81 0 0 Unit [.ref y0, .int p1, .int p2] (YW cy y0 r v f w g) (fun r u => True) (fun u => YW cy y0 r v f w g) := by
  refine ctI_of (by decide) (Nat.le_of_ble_eq_true rfl) (fun p e s m below meth c A ls Q hx hb hml hts hown hE hP hD hA hl ret => ?_)
  have hown : s.vm.findClass RX11 = some m.cls := hown
  have hS : va_S A s.heap s.heap [] := va_S.rf
  have hl : lv_has ls 5 [(0, .ref y0), (1, .int p1), (2, .int p2)] := hl
  refine lv_iconst (v := 0) hx hb dX11_leftBy_0 rfl ?_
  refine lv_istore_n (lv' := [(3, .int 0), (0, .ref y0), (1, .int p1), (2, .int p2)]) hx hb dX11_leftBy_1 rfl hl (Nat.le_of_ble_eq_true rfl) rfl (fun ls hl => ?_)
  refine lv_iconst (v := 0) hx hb dX11_leftBy_2 rfl ?_
  refine lv_istore (lv' := [(4, .int 0), (3, .int 0), (0, .ref y0), (1, .int p1), (2, .int p2)]) hx hb dX11_leftBy_3 hl (Nat.le_of_ble_eq_true rfl) rfl (fun ls hl => ?_)
  have lp1 : ∀ (n1 : Nat) (l3_1 : Int32) (l4_1 : Int32), ((0 : Int) ≤ l4_1.toInt ∧ l4_1.toInt ≤ 2147483647) → (2147483647 - l4_1.toInt).toNat < n1 → ∀ (H : Heap) (locs : List Loc) (ls : Array Slot), va_P (dC, dI) vwCl (YW cy y0 r v f w g) H → va_D A (YW cy y0 r v f w g) → va_S A s.heap H locs → lv_has ls 5 [(4, .int l4_1), (3, .int l3_1), (0, .ref y0), (1, .int p1), (2, .int p2)] → W p l e { frames := 2, cells := 0, slots := 0, locals := 81 } s m ([.ref y0, .int p1, .int p2] : List Value).toArray below meth c H locs 0 0 Q (F0 m 5 ls []) := by
    intro n1
    induction n1 with
    | zero => intro l3_1 l4_1 hr4_1 hm; exact absurd hm (Nat.not_lt_zero _)
    | succ n1 ih1 =>
      intro l3_1 l4_1 hr4_1 hm1 H locs ls hP hD hS hl
      refine lv_iload hx hb dX11_leftBy_5 (lv_at hl 0 rfl) ?_
      refine lv_bipush (v := 30) hx hb dX11_leftBy_7 rfl ?_
      refine lv_icmp_gt (tgt := 54) hx hb dX11_leftBy_9 rfl (fun c2 => ?_) (fun c2 => ?_)
      · skip
        refine lv_iload_n hx hb dX11_leftBy_54 rfl (lv_at hl 1 rfl) ?_
        refine lv_iload_n hx hb dX11_leftBy_55 rfl (lv_at hl 4 rfl) ?_
        refine lv_iload_n hx hb dX11_leftBy_56 rfl (lv_at hl 1 rfl) ?_
        refine lv_isub hx hb dX11_leftBy_57 ?_
        refine lv_topi (fun t3 et3 => ?_)
        refine cbSi (n := 2) (rest := []) hx hb hml hown hts hE hP hD hS hA (sY_X11_greater_1 0 l dC dI cy y0 r l3_1 t3 v f w g hIv hCf hRf ) k_1802 k_1803 k_114 k_1804 he_yX11_greater ⟨Nat.le_of_ble_eq_true rfl, Nat.le_of_ble_eq_true rfl⟩ (rfl) hl.1 rfl (Nat.le_of_ble_eq_true rfl) dX11_leftBy_58 (fun r4 u H locs hw hP hD hS => ?_)
        have hG5 := hw
        exact ret r4 () _ _ _ _ _ _ rfl trivial hP hD hS dX11_leftBy_61 (Nat.le_refl _) (Nat.le_refl _)
      · skip
        have zc2 : ¬ (30 < l4_1.toInt) := zLn tc_30 rfl c2
        refine lv_iload_n hx hb dX11_leftBy_12 rfl (lv_at hl 1 rfl) ?_
        refine lv_aload_n hx hb dX11_leftBy_13 rfl (lv_at hl 2 rfl) ?_
        refine va_get (D := (dC, dI)) (ci := 11) (v := .ref (r 76)) (C := RX11) (T := TX11) (N := 79) hx hb hts inB_11 hown hE.1 hP 0 rfl rfl 76 (Nat.le_of_ble_eq_true rfl) (hts _ k_1396) (fun _ h9 => h9) rfl dX11_leftBy_14 ?_
        refine lv_iload hx hb dX11_leftBy_17 (lv_at hl 0 rfl) ?_
        refine ldZ hx hb hE hP 36 rfl (vpI (k := 31) rfl (show 0 ≤ l4_1.toInt from om_39 hr4_1) (show l4_1.toInt < 31 from om_755 zc2)) rfl rfl dX11_leftBy_19 ?_
        refine lv_topi (fun t6 et6 => ?_)
        refine lv_if_eq (tgt := 42) hx hb dX11_leftBy_20 rfl (fun c7 => ?_) (fun c7 => ?_)
        · skip
          refine lv_iconst (v := 0) hx hb dX11_leftBy_42 rfl ?_
          refine cbSi (n := 1) (rest := [.int l3_1]) hx hb hml hown hts hE hP hD hS hA (sY_X11_truth_1 0 l dC dI cy y0 r 0 v f w g hIv hCf hRf ) k_1761 k_1762 k_114 k_1763 he_yX11_truth ⟨Nat.le_of_ble_eq_true rfl, Nat.le_of_ble_eq_true rfl⟩ (rfl) hl.1 rfl (Nat.le_of_ble_eq_true rfl) dX11_leftBy_43 (fun r9 u H locs hw hP hD hS => ?_)
          obtain ⟨hG10, hw⟩ := hw
          refine lv_iadd hx hb dX11_leftBy_46 ?_
          refine lv_topi (fun t11 et11 => ?_)
          refine lv_istore_n (lv' := [(3, .int t11), (4, .int l4_1), (0, .ref y0), (1, .int p1), (2, .int p2)]) hx hb dX11_leftBy_47 rfl hl (Nat.le_of_ble_eq_true rfl) rfl (fun ls hl => ?_)
          obtain ⟨t12, et12⟩ : ∃ y : Int32, y = l4_1 + 1 := ⟨_, rfl⟩
          have zt12 : t12.toInt = l4_1.toInt + 1 := (congrArg Int32.toInt et12).trans (add_i rfl tc_1 (om_41 hr4_1) (om_270 zc2))
          refine lv_iinc (v := t12) (lv' := [(4, .int t12), (3, .int t11), (0, .ref y0), (1, .int p1), (2, .int p2)]) hx hb dX11_leftBy_48 hl (k := 1) rfl et12.symm (Nat.le_of_ble_eq_true rfl) rfl (fun ls hl => ?_)
          refine lv_goto (tgt := 5) hx hb dX11_leftBy_51 rfl ?_
          have rg14 := fb_rng t12
          exact ih1 t11 t12 ⟨show (0 : Int) ≤ t12.toInt from om_43 hr4_1 zt12, show t12.toInt ≤ (2147483647 : Int) from om_44 rg14⟩ (show (2147483647 - t12.toInt).toNat < n1 from om_33 hm1 zt12 rg14) _ _ _ hP hD hS (lv_sub hl [0, 1, 2, 3, 4] rfl)
        · skip
          refine lv_aload_n hx hb dX11_leftBy_23 rfl (lv_at hl 2 rfl) ?_
          refine va_get (D := (dC, dI)) (ci := 11) (v := .ref (r 75)) (C := RX11) (T := TX11) (N := 79) hx hb hts inB_11 hown hE.1 hP 0 rfl rfl 75 (Nat.le_of_ble_eq_true rfl) (hts _ k_1395) (fun _ h9 => h9) rfl dX11_leftBy_24 ?_
          refine lv_bipush (v := 21) hx hb dX11_leftBy_27 rfl ?_
          refine lv_iload hx hb dX11_leftBy_29 (lv_at hl 0 rfl) ?_
          refine lv_imul hx hb dX11_leftBy_31 ?_
          refine lv_topi (fun t15 et15 => ?_)
          have zt15 : t15.toInt = 21 * l4_1.toInt := (congrArg Int32.toInt et15).trans (mul_i tc_21 rfl (om_756 hr4_1) (om_757 zc2))
          refine lv_iload_n hx hb dX11_leftBy_32 rfl (lv_at hl 3 rfl) ?_
          refine lv_iadd hx hb dX11_leftBy_33 ?_
          refine lv_topi (fun t17 et17 => ?_)
          have rg18 := fb_rng t15
          have zt17 : t17.toInt = t15.toInt + p1.toInt := (congrArg Int32.toInt et17).trans (add_i rfl rfl (om_750 hp1 rg18) (om_763 hp1 zc2 zt15))
          refine ldZ hx hb hE hP 35 rfl (vpI (k := 651) rfl (show 0 ≤ t17.toInt from om_764 hp1 hr4_1 zt15 zt17) (show t17.toInt < 651 from om_765 hp1 zc2 zt15 zt17)) rfl rfl dX11_leftBy_34 ?_
          refine lv_topi (fun t20 et20 => ?_)
          refine lv_if_eq (tgt := 42) hx hb dX11_leftBy_35 rfl (fun c21 => ?_) (fun c21 => ?_)
          · skip
            refine lv_iconst (v := 0) hx hb dX11_leftBy_42 rfl ?_
            refine cbSi (n := 1) (rest := [.int l3_1]) hx hb hml hown hts hE hP hD hS hA (sY_X11_truth_1 0 l dC dI cy y0 r 0 v f w g hIv hCf hRf ) k_1761 k_1762 k_114 k_1763 he_yX11_truth ⟨Nat.le_of_ble_eq_true rfl, Nat.le_of_ble_eq_true rfl⟩ (rfl) hl.1 rfl (Nat.le_of_ble_eq_true rfl) dX11_leftBy_43 (fun r23 u H locs hw hP hD hS => ?_)
            obtain ⟨hG24, hw⟩ := hw
            refine lv_iadd hx hb dX11_leftBy_46 ?_
            refine lv_topi (fun t25 et25 => ?_)
            refine lv_istore_n (lv' := [(3, .int t25), (4, .int l4_1), (0, .ref y0), (1, .int p1), (2, .int p2)]) hx hb dX11_leftBy_47 rfl hl (Nat.le_of_ble_eq_true rfl) rfl (fun ls hl => ?_)
            obtain ⟨t26, et26⟩ : ∃ y : Int32, y = l4_1 + 1 := ⟨_, rfl⟩
            have zt26 : t26.toInt = l4_1.toInt + 1 := (congrArg Int32.toInt et26).trans (add_i rfl tc_1 (om_41 hr4_1) (om_270 zc2))
            refine lv_iinc (v := t26) (lv' := [(4, .int t26), (3, .int t25), (0, .ref y0), (1, .int p1), (2, .int p2)]) hx hb dX11_leftBy_48 hl (k := 1) rfl et26.symm (Nat.le_of_ble_eq_true rfl) rfl (fun ls hl => ?_)
            refine lv_goto (tgt := 5) hx hb dX11_leftBy_51 rfl ?_
            have rg27 := fb_rng t26
            exact ih1 t25 t26 ⟨show (0 : Int) ≤ t26.toInt from om_43 hr4_1 zt26, show t26.toInt ≤ (2147483647 : Int) from om_44 rg27⟩ (show (2147483647 - t26.toInt).toNat < n1 from om_33 hm1 zt26 rg27) _ _ _ hP hD hS (lv_sub hl [0, 1, 2, 3, 4] rfl)
          · skip
            refine lv_iconst (v := 1) hx hb dX11_leftBy_38 rfl ?_
            refine lv_goto (tgt := 43) hx hb dX11_leftBy_39 rfl ?_
            refine cbSi (n := 1) (rest := [.int l3_1]) hx hb hml hown hts hE hP hD hS hA (sY_X11_truth_1 0 l dC dI cy y0 r 1 v f w g hIv hCf hRf ) k_1761 k_1762 k_114 k_1763 he_yX11_truth ⟨Nat.le_of_ble_eq_true rfl, Nat.le_of_ble_eq_true rfl⟩ (rfl) hl.1 rfl (Nat.le_of_ble_eq_true rfl) dX11_leftBy_43 (fun r29 u H locs hw hP hD hS => ?_)
            obtain ⟨hG30, hw⟩ := hw
            refine lv_iadd hx hb dX11_leftBy_46 ?_
            refine lv_topi (fun t31 et31 => ?_)
            refine lv_istore_n (lv' := [(3, .int t31), (4, .int l4_1), (0, .ref y0), (1, .int p1), (2, .int p2)]) hx hb dX11_leftBy_47 rfl hl (Nat.le_of_ble_eq_true rfl) rfl (fun ls hl => ?_)
            obtain ⟨t32, et32⟩ : ∃ y : Int32, y = l4_1 + 1 := ⟨_, rfl⟩
            have zt32 : t32.toInt = l4_1.toInt + 1 := (congrArg Int32.toInt et32).trans (add_i rfl tc_1 (om_41 hr4_1) (om_270 zc2))
            refine lv_iinc (v := t32) (lv' := [(4, .int t32), (3, .int t31), (0, .ref y0), (1, .int p1), (2, .int p2)]) hx hb dX11_leftBy_48 hl (k := 1) rfl et32.symm (Nat.le_of_ble_eq_true rfl) rfl (fun ls hl => ?_)
            refine lv_goto (tgt := 5) hx hb dX11_leftBy_51 rfl ?_
            have rg33 := fb_rng t32
            exact ih1 t31 t32 ⟨show (0 : Int) ≤ t32.toInt from om_43 hr4_1 zt32, show t32.toInt ≤ (2147483647 : Int) from om_44 rg33⟩ (show (2147483647 - t32.toInt).toNat < n1 from om_33 hm1 zt32 rg33) _ _ _ hP hD hS (lv_sub hl [0, 1, 2, 3, 4] rfl)
  exact lp1 _ 0 0 ⟨by decide, by decide⟩ (Nat.lt_succ_self _) _ _ _ hP hD hS (lv_sub hl [0, 1, 2, 3, 4] rfl)
