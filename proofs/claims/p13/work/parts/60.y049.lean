set_option maxHeartbeats 4000000 in
set_option maxRecDepth 100000 in
theorem sY_X11_layGrowths_1 (l : Launch) (dC : Nat → ClassId) (dI : Nat → Nat → Nat) (cy : Nat → ClassId) (y0 : Nat) (r : Nat → Nat) (p1 : Int32) (v : Nat → Int32) (f : Nat → Nat → Int32) (w : Int64) (g : Nat → Int64) (hIv : YI v) (hCf : YC f) (hRf : progOK (f 4) (f 5) (v 9).toInt.toNat)  : ctI l (dC, dI) cy yX11_layGrowths cX11_layGrowths 5 .int 5 148 0 0 ((Nat → Int32) × (Nat → Nat → Int32) × (Int64) × (Nat → Int64)) [.ref y0, .int p1] (YW cy y0 r v f w g) (fun r u => KV [] u.1 v ∧ KF [7, 8, 24, 34, 35] u.2.1 f ∧ YI u.1 ∧ YC u.2.1 ∧ progOK (u.2.1 4) (u.2.1 5) (u.1 9).toInt.toNat ∧ u.1 0 = v 0 ∧ u.1 1 = v 1 ∧ u.1 2 = v 2 ∧ u.1 3 = v 3 ∧ u.1 4 = v 4 ∧ u.1 5 = v 5 ∧ u.1 8 = v 8 ∧ u.1 9 = v 9 ∧ u.1 10 = v 10 ∧ u.1 13 = v 13 ∧ u.1 14 = v 14 ∧ u.1 15 = v 15 ∧ u.1 17 = v 17 ∧ u.1 18 = v 18 ∧ u.1 24 = v 24 ∧ u.1 25 = v 25 ∧ u.1 35 = v 35 ∧ u.1 36 = v 36 ∧ u.1 38 = v 38 ∧ u.1 39 = v 39) (fun u => YW cy y0 r u.1 u.2.1 u.2.2.1 u.2.2.2) := by
  refine ctI_of (by decide) (Nat.le_of_ble_eq_true rfl) (fun p e s m below meth c A ls Q hx hb hml hts hown hE hP hD hA hl ret => ?_)
  have hUv : (v 35).toInt + (v 36).toInt ≤ 40 := hIv.2
  have hM_v : KV [] v v := fun _ _ => rfl
  have hA_f : KF [7, 8, 24, 34, 35] f f := fun _ _ => rfl
  have hown : s.vm.findClass RX11 = some m.cls := hown
  have hS : va_S A s.heap s.heap [] := va_S.rf
  have hl : lv_has ls 5 [(0, .ref y0), (1, .int p1)] := hl
  refine lv_iconst (v := 0) hx hb dX11_layGrowths_0 (by decide) ?_
  refine lv_istore_n (lv' := [(2, .int 0), (0, .ref y0), (1, .int p1)]) hx hb dX11_layGrowths_1 rfl hl (by decide) rfl (fun ls hl => ?_)
  refine lv_iconst (v := 0) hx hb dX11_layGrowths_2 (by decide) ?_
  refine lv_istore_n (lv' := [(3, .int 0), (2, .int 0), (0, .ref y0), (1, .int p1)]) hx hb dX11_layGrowths_3 rfl hl (by decide) rfl (fun ls hl => ?_)
  have lp1 : ∀ (n1 : Nat) (l2_1 : Int32) (l3_1 : Int32) (v1 : Nat → Int32) (f1 : Nat → Nat → Int32) (w1 : Int64) (g1 : Nat → Int64), YI v1 → YC f1 → progOK (f1 4) (f1 5) (v1 9).toInt.toNat → v1 0 = (v 0) → v1 1 = (v 1) → v1 2 = (v 2) → v1 3 = (v 3) → v1 4 = (v 4) → v1 5 = (v 5) → v1 8 = (v 8) → v1 9 = (v 9) → v1 10 = (v 10) → v1 13 = (v 13) → v1 14 = (v 14) → v1 15 = (v 15) → v1 17 = (v 17) → v1 18 = (v 18) → v1 24 = (v 24) → v1 25 = (v 25) → v1 35 = (v 35) → v1 36 = (v 36) → v1 38 = (v 38) → v1 39 = (v 39) → ((0 : Int) ≤ l3_1.toInt ∧ l3_1.toInt ≤ 2147483647) → KV [] v1 v → KF [7, 8, 24, 34, 35] f1 f → (2147483647 - l3_1.toInt).toNat < n1 → ∀ (H : Heap) (locs : List Loc) (ls : Array Slot), va_P (dC, dI) vwCl (YW cy y0 r v1 f1 w1 g1) H → va_D A (YW cy y0 r v1 f1 w1 g1) → va_S A s.heap H locs → lv_has ls 5 [(3, .int l3_1), (2, .int l2_1), (0, .ref y0), (1, .int p1)] → W p l e { frames := 5, cells := 0, slots := 0, locals := 148 } s m ([.ref y0, .int p1] : List Value).toArray below meth c H locs 0 0 Q (F0 m 4 ls []) := by
    intro n1
    induction n1 with
    | zero => intro l2_1 l3_1 v1 f1 w1 g1 hIv1 hCf1 hRf1 hq0_v1 hq1_v1 hq2_v1 hq3_v1 hq4_v1 hq5_v1 hq8_v1 hq9_v1 hq10_v1 hq13_v1 hq14_v1 hq15_v1 hq17_v1 hq18_v1 hq24_v1 hq25_v1 hq35_v1 hq36_v1 hq38_v1 hq39_v1 hr3_1 hM_v1 hA_f1 hm; exact absurd hm (Nat.not_lt_zero _)
    | succ n1 ih1 =>
      intro l2_1 l3_1 v1 f1 w1 g1 hIv1 hCf1 hRf1 hq0_v1 hq1_v1 hq2_v1 hq3_v1 hq4_v1 hq5_v1 hq8_v1 hq9_v1 hq10_v1 hq13_v1 hq14_v1 hq15_v1 hq17_v1 hq18_v1 hq24_v1 hq25_v1 hq35_v1 hq36_v1 hq38_v1 hq39_v1 hr3_1 hM_v1 hA_f1 hm1 H locs ls hP hD hS hl
      have hUv1 : (v1 35).toInt + (v1 36).toInt ≤ 40 := hIv1.2
      have zq9_v1 := congrArg Int32.toInt hq9_v1
      refine lv_iload_n hx hb dX11_layGrowths_4 rfl (lv_at hl 0 rfl) ?_
      refine lv_bipush (v := 30) hx hb dX11_layGrowths_5 (by decide) ?_
      refine lv_icmp_gt (tgt := 143) hx hb dX11_layGrowths_7 (by decide) (fun c2 => ?_) (fun c2 => ?_)
      · skip
        have zc2 : 30 < l3_1.toInt := by rw [fa_lt, show (30 : Int32).toInt = 30 from by decide] at c2; exact c2
        refine lv_iload_n hx hb dX11_layGrowths_143 rfl (lv_at hl 1 rfl) ?_
        exact ret l2_1 (v1, f1, w1, g1) _ _ _ _ _ _ rfl ⟨hM_v1, hA_f1, hIv1, hCf1, hRf1, (show v1 0 = v 0 from hq0_v1), (show v1 1 = v 1 from hq1_v1), (show v1 2 = v 2 from hq2_v1), (show v1 3 = v 3 from hq3_v1), (show v1 4 = v 4 from hq4_v1), (show v1 5 = v 5 from hq5_v1), (show v1 8 = v 8 from hq8_v1), (show v1 9 = v 9 from hq9_v1), (show v1 10 = v 10 from hq10_v1), (show v1 13 = v 13 from hq13_v1), (show v1 14 = v 14 from hq14_v1), (show v1 15 = v 15 from hq15_v1), (show v1 17 = v 17 from hq17_v1), (show v1 18 = v 18 from hq18_v1), (show v1 24 = v 24 from hq24_v1), (show v1 25 = v 25 from hq25_v1), (show v1 35 = v 35 from hq35_v1), (show v1 36 = v 36 from hq36_v1), (show v1 38 = v 38 from hq38_v1), (show v1 39 = v 39 from hq39_v1)⟩ hP hD hS dX11_layGrowths_144 (Nat.le_refl _) (Nat.le_refl _)
      · skip
        have zc2 : ¬ (30 < l3_1.toInt) := by rw [fa_lt, show (30 : Int32).toInt = 30 from by decide] at c2; exact c2
        refine lv_aload_n hx hb dX11_layGrowths_10 rfl (lv_at hl 2 rfl) ?_
        refine va_get (D := (dC, dI)) (ci := 11) (v := .int (v1 24)) (C := RX11) (T := TX11) (N := 79) hx hb hts inB_11 hown hE.1 hP 0 rfl rfl 48 (by decide) (hts _ k_1368) (fun _ h9 => h9) rfl dX11_layGrowths_11 ?_
        refine tI (y := (v 24)) hq24_v1 ?_
        have b24_v : 0 ≤ (v 24).toInt ∧ (v 24).toInt ≤ 6 := YIb.b hIv.1 24 (by decide)
        refine lv_if_le (tgt := 143) hx hb dX11_layGrowths_14 (by decide) (fun c3 => ?_) (fun c3 => ?_)
        · skip
          have zc3 : (v 24).toInt ≤ 0 := by rw [fa_le, show (0 : Int32).toInt = 0 from by decide] at c3; exact c3
          refine lv_iload_n hx hb dX11_layGrowths_143 rfl (lv_at hl 1 rfl) ?_
          exact ret l2_1 (v1, f1, w1, g1) _ _ _ _ _ _ rfl ⟨hM_v1, hA_f1, hIv1, hCf1, hRf1, (show v1 0 = v 0 from hq0_v1), (show v1 1 = v 1 from hq1_v1), (show v1 2 = v 2 from hq2_v1), (show v1 3 = v 3 from hq3_v1), (show v1 4 = v 4 from hq4_v1), (show v1 5 = v 5 from hq5_v1), (show v1 8 = v 8 from hq8_v1), (show v1 9 = v 9 from hq9_v1), (show v1 10 = v 10 from hq10_v1), (show v1 13 = v 13 from hq13_v1), (show v1 14 = v 14 from hq14_v1), (show v1 15 = v 15 from hq15_v1), (show v1 17 = v 17 from hq17_v1), (show v1 18 = v 18 from hq18_v1), (show v1 24 = v 24 from hq24_v1), (show v1 25 = v 25 from hq25_v1), (show v1 35 = v 35 from hq35_v1), (show v1 36 = v 36 from hq36_v1), (show v1 38 = v 38 from hq38_v1), (show v1 39 = v 39 from hq39_v1)⟩ hP hD hS dX11_layGrowths_144 (Nat.le_refl _) (Nat.le_refl _)
        · skip
          have zc3 : ¬ ((v 24).toInt ≤ 0) := by rw [fa_le, show (0 : Int32).toInt = 0 from by decide] at c3; exact c3
          refine lv_aload_n hx hb dX11_layGrowths_17 rfl (lv_at hl 2 rfl) ?_
          refine va_get (D := (dC, dI)) (ci := 11) (v := .int (v1 25)) (C := RX11) (T := TX11) (N := 79) hx hb hts inB_11 hown hE.1 hP 0 rfl rfl 49 (by decide) (hts _ k_1369) (fun _ h9 => h9) rfl dX11_layGrowths_18 ?_
          refine tI (y := (v 25)) hq25_v1 ?_
          have b25_v : 0 ≤ (v 25).toInt ∧ (v 25).toInt ≤ 6 := YIb.b hIv.1 25 (by decide)
          refine lv_if_le (tgt := 143) hx hb dX11_layGrowths_21 (by decide) (fun c4 => ?_) (fun c4 => ?_)
          · skip
            have zc4 : (v 25).toInt ≤ 0 := by rw [fa_le, show (0 : Int32).toInt = 0 from by decide] at c4; exact c4
            refine lv_iload_n hx hb dX11_layGrowths_143 rfl (lv_at hl 1 rfl) ?_
            exact ret l2_1 (v1, f1, w1, g1) _ _ _ _ _ _ rfl ⟨hM_v1, hA_f1, hIv1, hCf1, hRf1, (show v1 0 = v 0 from hq0_v1), (show v1 1 = v 1 from hq1_v1), (show v1 2 = v 2 from hq2_v1), (show v1 3 = v 3 from hq3_v1), (show v1 4 = v 4 from hq4_v1), (show v1 5 = v 5 from hq5_v1), (show v1 8 = v 8 from hq8_v1), (show v1 9 = v 9 from hq9_v1), (show v1 10 = v 10 from hq10_v1), (show v1 13 = v 13 from hq13_v1), (show v1 14 = v 14 from hq14_v1), (show v1 15 = v 15 from hq15_v1), (show v1 17 = v 17 from hq17_v1), (show v1 18 = v 18 from hq18_v1), (show v1 24 = v 24 from hq24_v1), (show v1 25 = v 25 from hq25_v1), (show v1 35 = v 35 from hq35_v1), (show v1 36 = v 36 from hq36_v1), (show v1 38 = v 38 from hq38_v1), (show v1 39 = v 39 from hq39_v1)⟩ hP hD hS dX11_layGrowths_144 (Nat.le_refl _) (Nat.le_refl _)
          · skip
            have zc4 : ¬ ((v 25).toInt ≤ 0) := by rw [fa_le, show (0 : Int32).toInt = 0 from by decide] at c4; exact c4
            refine lv_aload_n hx hb dX11_layGrowths_24 rfl (lv_at hl 2 rfl) ?_
            refine cbVv (n := 0) (rest := []) hx hb hml hown hts hE hP hD hS hA (sY_X11_begin_1 0 l dC dI cy y0 r  v1 f1 w1 g1 hIv1 hCf1 hRf1 ) k_1716 k_1718 k_68 k_114 k_1719 (by decide +kernel) ⟨Nat.le_of_ble_eq_true rfl, Nat.le_of_ble_eq_true rfl⟩ 0 11 rfl rfl (rfl) hl.1 rfl (Nat.le_of_ble_eq_true rfl) dX11_layGrowths_25 (fun u H locs hw hP hD hS => ?_)
            obtain ⟨hG5, hw⟩ := hw
            obtain ⟨v6, f7, w8, g9⟩ := u
            obtain ⟨kV_v6, kF_f7, hIv6, hCf7, hRf7, hk0_v6, hk1_v6, hk2_v6, hk3_v6, hk4_v6, hk5_v6, hk8_v6, hk9_v6, hk10_v6, hk13_v6, hk14_v6, hk15_v6, hk17_v6, hk18_v6, hk24_v6, hk25_v6, hk35_v6, hk36_v6, hk38_v6, hk39_v6⟩ := hw
            have hM_v6 : KV [] v6 v := KV.tr kV_v6 hM_v1 rfl
            have hA_f7 : KF [7, 8, 24, 34, 35] f7 f := KF.tr kF_f7 hA_f1 rfl
            have hP : va_P (dC, dI) vwCl (YW cy y0 r v6 f7 w8 g9) H := hP
            have hD : va_D A (YW cy y0 r v6 f7 w8 g9) := hD
            have hUv6 : (v6 35).toInt + (v6 36).toInt ≤ 40 := hIv6.2
            have hq0_v6 : v6 0 = (v 0) := hk0_v6.trans hq0_v1
            have hq1_v6 : v6 1 = (v 1) := hk1_v6.trans hq1_v1
            have hq2_v6 : v6 2 = (v 2) := hk2_v6.trans hq2_v1
            have hq3_v6 : v6 3 = (v 3) := hk3_v6.trans hq3_v1
            have hq4_v6 : v6 4 = (v 4) := hk4_v6.trans hq4_v1
            have hq5_v6 : v6 5 = (v 5) := hk5_v6.trans hq5_v1
            have hq8_v6 : v6 8 = (v 8) := hk8_v6.trans hq8_v1
            have hq9_v6 : v6 9 = (v 9) := hk9_v6.trans hq9_v1
            have zq9_v6 := congrArg Int32.toInt hq9_v6
            have hq10_v6 : v6 10 = (v 10) := hk10_v6.trans hq10_v1
            have hq13_v6 : v6 13 = (v 13) := hk13_v6.trans hq13_v1
            have hq14_v6 : v6 14 = (v 14) := hk14_v6.trans hq14_v1
            have hq15_v6 : v6 15 = (v 15) := hk15_v6.trans hq15_v1
            have hq17_v6 : v6 17 = (v 17) := hk17_v6.trans hq17_v1
            have hq18_v6 : v6 18 = (v 18) := hk18_v6.trans hq18_v1
            have hq24_v6 : v6 24 = (v 24) := hk24_v6.trans hq24_v1
            have hq25_v6 : v6 25 = (v 25) := hk25_v6.trans hq25_v1
            have hq35_v6 : v6 35 = (v 35) := hk35_v6.trans hq35_v1
            have hq36_v6 : v6 36 = (v 36) := hk36_v6.trans hq36_v1
            have hq38_v6 : v6 38 = (v 38) := hk38_v6.trans hq38_v1
            have hq39_v6 : v6 39 = (v 39) := hk39_v6.trans hq39_v1
            refine lv_iconst (v := 0) hx hb dX11_layGrowths_28 (by decide) ?_
            refine lv_istore (lv' := [(4, .int 0), (3, .int l3_1), (2, .int l2_1), (0, .ref y0), (1, .int p1)]) hx hb dX11_layGrowths_29 hl (by decide) rfl (fun ls hl => ?_)
            have lp10 : ∀ (n10 : Nat) (l4_10 : Int32) (v10 : Nat → Int32) (f10 : Nat → Nat → Int32) (w10 : Int64) (g10 : Nat → Int64), YI v10 → YC f10 → progOK (f10 4) (f10 5) (v10 9).toInt.toNat → v10 0 = (v 0) → v10 1 = (v 1) → v10 2 = (v 2) → v10 3 = (v 3) → v10 4 = (v 4) → v10 5 = (v 5) → v10 8 = (v 8) → v10 9 = (v 9) → v10 10 = (v 10) → v10 13 = (v 13) → v10 14 = (v 14) → v10 15 = (v 15) → v10 17 = (v 17) → v10 18 = (v 18) → v10 24 = (v 24) → v10 25 = (v 25) → v10 35 = (v 35) → v10 36 = (v 36) → v10 38 = (v 38) → v10 39 = (v 39) → ((0 : Int) ≤ l4_10.toInt ∧ l4_10.toInt ≤ 2147483647) → KV [] v10 v → KF [7, 8, 24, 34, 35] f10 f → (2147483647 - l4_10.toInt).toNat < n10 → ∀ (H : Heap) (locs : List Loc) (ls : Array Slot), va_P (dC, dI) vwCl (YW cy y0 r v10 f10 w10 g10) H → va_D A (YW cy y0 r v10 f10 w10 g10) → va_S A s.heap H locs → lv_has ls 5 [(4, .int l4_10), (3, .int l3_1), (2, .int l2_1), (0, .ref y0), (1, .int p1)] → W p l e { frames := 5, cells := 0, slots := 0, locals := 148 } s m ([.ref y0, .int p1] : List Value).toArray below meth c H locs 0 0 Q (F0 m 31 ls []) := by
              intro n10
              induction n10 with
              | zero => intro l4_10 v10 f10 w10 g10 hIv10 hCf10 hRf10 hq0_v10 hq1_v10 hq2_v10 hq3_v10 hq4_v10 hq5_v10 hq8_v10 hq9_v10 hq10_v10 hq13_v10 hq14_v10 hq15_v10 hq17_v10 hq18_v10 hq24_v10 hq25_v10 hq35_v10 hq36_v10 hq38_v10 hq39_v10 hr4_10 hM_v10 hA_f10 hm; exact absurd hm (Nat.not_lt_zero _)
              | succ n10 ih10 =>
                intro l4_10 v10 f10 w10 g10 hIv10 hCf10 hRf10 hq0_v10 hq1_v10 hq2_v10 hq3_v10 hq4_v10 hq5_v10 hq8_v10 hq9_v10 hq10_v10 hq13_v10 hq14_v10 hq15_v10 hq17_v10 hq18_v10 hq24_v10 hq25_v10 hq35_v10 hq36_v10 hq38_v10 hq39_v10 hr4_10 hM_v10 hA_f10 hm10 H locs ls hP hD hS hl
                have hUv10 : (v10 35).toInt + (v10 36).toInt ≤ 40 := hIv10.2
                have zq9_v10 := congrArg Int32.toInt hq9_v10
                refine lv_iload hx hb dX11_layGrowths_31 (lv_at hl 0 rfl) ?_
                refine lv_bipush (v := 20) hx hb dX11_layGrowths_33 (by decide) ?_
                refine lv_icmp_gt (tgt := 113) hx hb dX11_layGrowths_35 (by decide) (fun c11 => ?_) (fun c11 => ?_)
                · skip
                  have zc11 : 20 < l4_10.toInt := by rw [fa_lt, show (20 : Int32).toInt = 20 from by decide] at c11; exact c11
                  refine lv_aload_n hx hb dX11_layGrowths_113 rfl (lv_at hl 3 rfl) ?_
                  refine va_get (D := (dC, dI)) (ci := 11) (v := .ref (r 76)) (C := RX11) (T := TX11) (N := 79) hx hb hts inB_11 hown hE.1 hP 0 rfl rfl 76 (by decide) (hts _ k_1396) (fun _ h9 => h9) rfl dX11_layGrowths_114 ?_
                  refine lv_iload_n hx hb dX11_layGrowths_117 rfl (lv_at hl 1 rfl) ?_
                  refine lv_aload_n hx hb dX11_layGrowths_118 rfl (lv_at hl 3 rfl) ?_
                  refine lv_iload_n hx hb dX11_layGrowths_119 rfl (lv_at hl 1 rfl) ?_
                  refine lv_iload_n hx hb dX11_layGrowths_120 rfl (lv_at hl 4 rfl) ?_
                  refine cbVi (n := 2) (rest := [.int l3_1, .ref (r 76)]) hx hb hml hown hts hE hP hD hS hA (sY_X11_fitsGrowth_1 l dC dI cy y0 r l3_1 p1 v10 f10 w10 g10 hIv10 hCf10 hRf10 ⟨show (0 : Int) ≤ l3_1.toInt by omega, show l3_1.toInt ≤ (30 : Int) by omega⟩) k_2028 k_2030 k_98 k_114 k_2031 (by decide +kernel) ⟨Nat.le_of_ble_eq_true rfl, Nat.le_of_ble_eq_true rfl⟩ 0 11 rfl rfl (rfl) hl.1 rfl (Nat.le_of_ble_eq_true rfl) dX11_layGrowths_121 (fun r12 u H locs hw hP hD hS => ?_)
                  rcases hw with ⟨g13⟩ | ⟨g13⟩
                  · skip
                    subst g13
                    refine stZ hx hb hE hP hD hS 36 rfl (vp_in_iff.mpr ⟨by omega, by omega⟩) rfl dX11_layGrowths_124 (fun H locs hP hD hS => ?_)
                    obtain ⟨f14, ef14, hP, hD⟩ : ∃ fz9, fz9 = upd2 f10 35 (upd (f10 35) l3_1.toNatClampNeg (vp_nar .boolean 1)) ∧ va_P (dC, dI) vwCl (YW cy y0 r v10 fz9 w10 g10) H ∧ va_D A (YW cy y0 r v10 fz9 w10 g10) := ⟨_, rfl, hP, hD⟩
                    have hCf14 : YC f14 := by rw [ef14]; exact hCf10
                    have hRf14 : progOK (f14 4) (f14 5) (v10 9).toInt.toNat := by rw [ef14]; exact hRf10
                    have hA_f14 : KF [7, 8, 24, 34, 35] f14 f := by rw [ef14]; exact KF.up hA_f10 rfl
                    refine lv_iload_n hx hb dX11_layGrowths_125 rfl (lv_at hl 2 rfl) ?_
                    refine lv_aload_n hx hb dX11_layGrowths_126 rfl (lv_at hl 3 rfl) ?_
                    refine va_get (D := (dC, dI)) (ci := 11) (v := .ref (r 76)) (C := RX11) (T := TX11) (N := 79) hx hb hts inB_11 hown hE.1 hP 0 rfl rfl 76 (by decide) (hts _ k_1396) (fun _ h9 => h9) rfl dX11_layGrowths_127 ?_
                    refine lv_iload_n hx hb dX11_layGrowths_130 rfl (lv_at hl 1 rfl) ?_
                    refine ldZ hx hb hE hP 36 rfl (vp_in_iff.mpr ⟨by omega, by omega⟩) rfl rfl dX11_layGrowths_131 ?_
                    refine lv_topi (fun t15 et15 => ?_)
                    refine cbSi (n := 1) (rest := [.int l2_1]) hx hb hml hown hts hE hP hD hS hA (sY_X11_truth_1 0 l dC dI cy y0 r t15 v10 f14 w10 g10 hIv10 hCf14 hRf14 ) k_1761 k_1762 k_114 k_1763 (by decide +kernel) ⟨Nat.le_of_ble_eq_true rfl, Nat.le_of_ble_eq_true rfl⟩ (rfl) hl.1 rfl (Nat.le_of_ble_eq_true rfl) dX11_layGrowths_132 (fun r16 u H locs hw hP hD hS => ?_)
                    obtain ⟨hG17, hw⟩ := hw
                    refine lv_iadd hx hb dX11_layGrowths_135 ?_
                    refine lv_topi (fun t18 et18 => ?_)
                    refine lv_istore_n (lv' := [(2, .int t18), (4, .int l4_10), (3, .int l3_1), (0, .ref y0), (1, .int p1)]) hx hb dX11_layGrowths_136 rfl hl (by decide) rfl (fun ls hl => ?_)
                    obtain ⟨t19, et19⟩ : ∃ y : Int32, y = l3_1 + 1 := ⟨_, rfl⟩
                    have rg20 := fb_rng l3_1
                    have zt19 : t19.toInt = l3_1.toInt + 1 := by rw [et19]; exact add_i rfl (by decide) (by omega) (by omega)
                    refine lv_iinc (v := t19) (lv' := [(3, .int t19), (2, .int t18), (4, .int l4_10), (0, .ref y0), (1, .int p1)]) hx hb dX11_layGrowths_137 hl (k := 2) rfl (by rw [et19]; rfl) (by decide) rfl (fun ls hl => ?_)
                    refine lv_goto (tgt := 4) hx hb dX11_layGrowths_140 (by decide) ?_
                    have rg21 := fb_rng t19
                    exact ih1 t18 t19 v10 f14 w10 g10 hIv10 hCf14 hRf14 hq0_v10 hq1_v10 hq2_v10 hq3_v10 hq4_v10 hq5_v10 hq8_v10 hq9_v10 hq10_v10 hq13_v10 hq14_v10 hq15_v10 hq17_v10 hq18_v10 hq24_v10 hq25_v10 hq35_v10 hq36_v10 hq38_v10 hq39_v10 ⟨show (0 : Int) ≤ t19.toInt by omega, show t19.toInt ≤ (2147483647 : Int) by omega⟩ hM_v10 hA_f14 (by show (2147483647 - t19.toInt).toNat < n1; omega) _ _ _ hP hD hS (lv_sub hl [0, 1, 3, 4] rfl)
                  · skip
                    subst g13
                    refine stZ hx hb hE hP hD hS 36 rfl (vp_in_iff.mpr ⟨by omega, by omega⟩) rfl dX11_layGrowths_124 (fun H locs hP hD hS => ?_)
                    obtain ⟨f22, ef22, hP, hD⟩ : ∃ fz9, fz9 = upd2 f10 35 (upd (f10 35) l3_1.toNatClampNeg (vp_nar .boolean 0)) ∧ va_P (dC, dI) vwCl (YW cy y0 r v10 fz9 w10 g10) H ∧ va_D A (YW cy y0 r v10 fz9 w10 g10) := ⟨_, rfl, hP, hD⟩
                    have hCf22 : YC f22 := by rw [ef22]; exact hCf10
                    have hRf22 : progOK (f22 4) (f22 5) (v10 9).toInt.toNat := by rw [ef22]; exact hRf10
                    have hA_f22 : KF [7, 8, 24, 34, 35] f22 f := by rw [ef22]; exact KF.up hA_f10 rfl
                    refine lv_iload_n hx hb dX11_layGrowths_125 rfl (lv_at hl 2 rfl) ?_
                    refine lv_aload_n hx hb dX11_layGrowths_126 rfl (lv_at hl 3 rfl) ?_
                    refine va_get (D := (dC, dI)) (ci := 11) (v := .ref (r 76)) (C := RX11) (T := TX11) (N := 79) hx hb hts inB_11 hown hE.1 hP 0 rfl rfl 76 (by decide) (hts _ k_1396) (fun _ h9 => h9) rfl dX11_layGrowths_127 ?_
                    refine lv_iload_n hx hb dX11_layGrowths_130 rfl (lv_at hl 1 rfl) ?_
                    refine ldZ hx hb hE hP 36 rfl (vp_in_iff.mpr ⟨by omega, by omega⟩) rfl rfl dX11_layGrowths_131 ?_
                    refine lv_topi (fun t23 et23 => ?_)
                    refine cbSi (n := 1) (rest := [.int l2_1]) hx hb hml hown hts hE hP hD hS hA (sY_X11_truth_1 0 l dC dI cy y0 r t23 v10 f22 w10 g10 hIv10 hCf22 hRf22 ) k_1761 k_1762 k_114 k_1763 (by decide +kernel) ⟨Nat.le_of_ble_eq_true rfl, Nat.le_of_ble_eq_true rfl⟩ (rfl) hl.1 rfl (Nat.le_of_ble_eq_true rfl) dX11_layGrowths_132 (fun r24 u H locs hw hP hD hS => ?_)
                    obtain ⟨hG25, hw⟩ := hw
                    refine lv_iadd hx hb dX11_layGrowths_135 ?_
                    refine lv_topi (fun t26 et26 => ?_)
                    refine lv_istore_n (lv' := [(2, .int t26), (4, .int l4_10), (3, .int l3_1), (0, .ref y0), (1, .int p1)]) hx hb dX11_layGrowths_136 rfl hl (by decide) rfl (fun ls hl => ?_)
                    obtain ⟨t27, et27⟩ : ∃ y : Int32, y = l3_1 + 1 := ⟨_, rfl⟩
                    have rg28 := fb_rng l3_1
                    have zt27 : t27.toInt = l3_1.toInt + 1 := by rw [et27]; exact add_i rfl (by decide) (by omega) (by omega)
                    refine lv_iinc (v := t27) (lv' := [(3, .int t27), (2, .int t26), (4, .int l4_10), (0, .ref y0), (1, .int p1)]) hx hb dX11_layGrowths_137 hl (k := 2) rfl (by rw [et27]; rfl) (by decide) rfl (fun ls hl => ?_)
                    refine lv_goto (tgt := 4) hx hb dX11_layGrowths_140 (by decide) ?_
                    have rg29 := fb_rng t27
                    exact ih1 t26 t27 v10 f22 w10 g10 hIv10 hCf22 hRf22 hq0_v10 hq1_v10 hq2_v10 hq3_v10 hq4_v10 hq5_v10 hq8_v10 hq9_v10 hq10_v10 hq13_v10 hq14_v10 hq15_v10 hq17_v10 hq18_v10 hq24_v10 hq25_v10 hq35_v10 hq36_v10 hq38_v10 hq39_v10 ⟨show (0 : Int) ≤ t27.toInt by omega, show t27.toInt ≤ (2147483647 : Int) by omega⟩ hM_v10 hA_f22 (by show (2147483647 - t27.toInt).toNat < n1; omega) _ _ _ hP hD hS (lv_sub hl [0, 1, 3, 4] rfl)
                · skip
                  have zc11 : ¬ (20 < l4_10.toInt) := by rw [fa_lt, show (20 : Int32).toInt = 20 from by decide] at c11; exact c11
                  refine lv_aload_n hx hb dX11_layGrowths_38 rfl (lv_at hl 3 rfl) ?_
                  refine va_get (D := (dC, dI)) (ci := 11) (v := .ref (r 75)) (C := RX11) (T := TX11) (N := 79) hx hb hts inB_11 hown hE.1 hP 0 rfl rfl 75 (by decide) (hts _ k_1395) (fun _ h9 => h9) rfl dX11_layGrowths_39 ?_
                  refine lv_bipush (v := 21) hx hb dX11_layGrowths_42 (by decide) ?_
                  refine lv_iload_n hx hb dX11_layGrowths_44 rfl (lv_at hl 1 rfl) ?_
                  refine lv_imul hx hb dX11_layGrowths_45 ?_
                  refine lv_topi (fun t30 et30 => ?_)
                  have rg31 := fb_rng l3_1
                  have zt30 : t30.toInt = 21 * l3_1.toInt := by rw [et30]; exact mul_i (by decide) rfl (by omega) (by omega)
                  refine lv_iload hx hb dX11_layGrowths_46 (lv_at hl 0 rfl) ?_
                  refine lv_iadd hx hb dX11_layGrowths_48 ?_
                  refine lv_topi (fun t32 et32 => ?_)
                  have rg33 := fb_rng t30
                  have rg34 := fb_rng l4_10
                  have zt32 : t32.toInt = t30.toInt + l4_10.toInt := by rw [et32]; exact add_i rfl rfl (by omega) (by omega)
                  refine lv_aload_n hx hb dX11_layGrowths_49 rfl (lv_at hl 3 rfl) ?_
                  refine lv_iconst (v := 0) hx hb dX11_layGrowths_50 (by decide) ?_
                  refine lv_iconst (v := 0) hx hb dX11_layGrowths_51 (by decide) ?_
                  refine cbVi (n := 2) (rest := [.int t32, .ref (r 75)]) hx hb hml hown hts hE hP hD hS hA (sY_X11_fits_1 0 l dC dI cy y0 r 0 0 v10 f10 w10 g10 hIv10 hCf10 hRf10 ⟨by decide, by decide⟩ ⟨by decide, by decide⟩) k_1747 k_1749 k_73 k_114 k_1750 (by decide +kernel) ⟨Nat.le_of_ble_eq_true rfl, Nat.le_of_ble_eq_true rfl⟩ 0 11 rfl rfl (rfl) hl.1 rfl (Nat.le_of_ble_eq_true rfl) dX11_layGrowths_52 (fun r35 u H locs hw hP hD hS => ?_)
                  obtain ⟨hG36, hw⟩ := hw
                  obtain ⟨v37, f38, w39, g40⟩ := u
                  obtain ⟨kV_v37, kF_f38, hIv37, hCf38, hRf38, hk0_v37, hk1_v37, hk2_v37, hk3_v37, hk4_v37, hk5_v37, hk8_v37, hk9_v37, hk10_v37, hk13_v37, hk14_v37, hk15_v37, hk17_v37, hk18_v37, hk24_v37, hk25_v37, hk35_v37, hk36_v37, hk38_v37, hk39_v37, hw⟩ := hw
                  have hM_v37 : KV [] v37 v := KV.tr kV_v37 hM_v10 rfl
                  have hA_f38 : KF [7, 8, 24, 34, 35] f38 f := KF.tr kF_f38 hA_f10 rfl
                  have hP : va_P (dC, dI) vwCl (YW cy y0 r v37 f38 w39 g40) H := hP
                  have hD : va_D A (YW cy y0 r v37 f38 w39 g40) := hD
                  have hUv37 : (v37 35).toInt + (v37 36).toInt ≤ 40 := hIv37.2
                  have hq0_v37 : v37 0 = (v 0) := hk0_v37.trans hq0_v10
                  have hq1_v37 : v37 1 = (v 1) := hk1_v37.trans hq1_v10
                  have hq2_v37 : v37 2 = (v 2) := hk2_v37.trans hq2_v10
                  have hq3_v37 : v37 3 = (v 3) := hk3_v37.trans hq3_v10
                  have hq4_v37 : v37 4 = (v 4) := hk4_v37.trans hq4_v10
                  have hq5_v37 : v37 5 = (v 5) := hk5_v37.trans hq5_v10
                  have hq8_v37 : v37 8 = (v 8) := hk8_v37.trans hq8_v10
                  have hq9_v37 : v37 9 = (v 9) := hk9_v37.trans hq9_v10
                  have zq9_v37 := congrArg Int32.toInt hq9_v37
                  have hq10_v37 : v37 10 = (v 10) := hk10_v37.trans hq10_v10
                  have hq13_v37 : v37 13 = (v 13) := hk13_v37.trans hq13_v10
                  have hq14_v37 : v37 14 = (v 14) := hk14_v37.trans hq14_v10
                  have hq15_v37 : v37 15 = (v 15) := hk15_v37.trans hq15_v10
                  have hq17_v37 : v37 17 = (v 17) := hk17_v37.trans hq17_v10
                  have hq18_v37 : v37 18 = (v 18) := hk18_v37.trans hq18_v10
                  have hq24_v37 : v37 24 = (v 24) := hk24_v37.trans hq24_v10
                  have hq25_v37 : v37 25 = (v 25) := hk25_v37.trans hq25_v10
                  have hq35_v37 : v37 35 = (v 35) := hk35_v37.trans hq35_v10
                  have hq36_v37 : v37 36 = (v 36) := hk36_v37.trans hq36_v10
                  have hq38_v37 : v37 38 = (v 38) := hk38_v37.trans hq38_v10
                  have hq39_v37 : v37 39 = (v 39) := hk39_v37.trans hq39_v10
                  rcases hw with ⟨g41⟩ | ⟨g41⟩
                  · skip
                    subst g41
                    refine stZ hx hb hE hP hD hS 35 rfl (vp_in_iff.mpr ⟨by omega, by omega⟩) rfl dX11_layGrowths_55 (fun H locs hP hD hS => ?_)
                    obtain ⟨f42, ef42, hP, hD⟩ : ∃ fz9, fz9 = upd2 f38 34 (upd (f38 34) t32.toNatClampNeg (vp_nar .boolean 1)) ∧ va_P (dC, dI) vwCl (YW cy y0 r v37 fz9 w39 g40) H ∧ va_D A (YW cy y0 r v37 fz9 w39 g40) := ⟨_, rfl, hP, hD⟩
                    have hCf42 : YC f42 := by rw [ef42]; exact hCf38
                    have hRf42 : progOK (f42 4) (f42 5) (v37 9).toInt.toNat := by rw [ef42]; exact hRf38
                    have hA_f42 : KF [7, 8, 24, 34, 35] f42 f := by rw [ef42]; exact KF.up hA_f38 rfl
                    refine lv_aload_n hx hb dX11_layGrowths_56 rfl (lv_at hl 3 rfl) ?_
                    refine va_get (D := (dC, dI)) (ci := 11) (v := .ref (r 60)) (C := RX11) (T := TX11) (N := 79) hx hb hts inB_11 hown hE.1 hP 0 rfl rfl 60 (by decide) (hts _ k_1380) (fun _ h9 => h9) rfl dX11_layGrowths_57 ?_
                    refine lv_iconst (v := 0) hx hb dX11_layGrowths_60 (by decide) ?_
                    refine lv_bipush (v := 99) hx hb dX11_layGrowths_61 (by decide) ?_
                    refine lv_aload_n hx hb dX11_layGrowths_63 rfl (lv_at hl 3 rfl) ?_
                    refine va_get (D := (dC, dI)) (ci := 11) (v := .ref (r 60)) (C := RX11) (T := TX11) (N := 79) hx hb hts inB_11 hown hE.1 hP 0 rfl rfl 60 (by decide) (hts _ k_1380) (fun _ h9 => h9) rfl dX11_layGrowths_64 ?_
                    refine lv_iconst (v := 0) hx hb dX11_layGrowths_67 (by decide) ?_
                    refine ldI hx hb hE hP 25 rfl (vp_in_nI (n := 0) (by decide) (by decide)) rfl rfl dX11_layGrowths_68 ?_
                    refine lv_topi (fun t43 et43 => ?_)
                    have zt43 : 0 % 39 < 6 ∨ 12 ≤ 0 % 39 ∨ (-1 ≤ t43.toInt ∧ t43.toInt ≤ 5) := by rw [et43]; exact wear_ld hCf42.2.1 (show 0 < 39 by omega)
                    refine lv_iload_n hx hb dX11_layGrowths_69 rfl (lv_at hl 1 rfl) ?_
                    refine lv_iadd hx hb dX11_layGrowths_70 ?_
                    refine lv_topi (fun t44 et44 => ?_)
                    have lt45 : (99 : Int32).toInt = 99 := by decide
                    refine cbSi (n := 2) (rest := [.int 0, .ref (r 60)]) hx hb hml hown hts hE hP hD hS hA (sY_X11_lesser_1 0 l dC dI cy y0 r 99 t44 v37 f42 w39 g40 hIv37 hCf42 hRf42 ) k_1799 k_1800 k_114 k_1801 (by decide +kernel) ⟨Nat.le_of_ble_eq_true rfl, Nat.le_of_ble_eq_true rfl⟩ (rfl) hl.1 rfl (Nat.le_of_ble_eq_true rfl) dX11_layGrowths_71 (fun r46 u H locs hw hP hD hS => ?_)
                    obtain ⟨hG47, hw⟩ := hw
                    obtain ⟨pp48, pp49⟩ := hw
                    have pp48 : r46.toInt ≤ (99 : Int32).toInt := pp48
                    have pp49 : r46.toInt ≤ t44.toInt := pp49
                    refine stI hx hb hE hP hD hS 25 rfl (vp_in_nI (n := 0) (by decide) (by decide)) rfl dX11_layGrowths_74 (fun H locs hP hD hS => ?_)
                    obtain ⟨f50, ef50, hP, hD⟩ : ∃ fz9, fz9 = upd2 f42 24 (upd (f42 24) (0 : Int32).toNatClampNeg r46) ∧ va_P (dC, dI) vwCl (YW cy y0 r v37 fz9 w39 g40) H ∧ va_D A (YW cy y0 r v37 fz9 w39 g40) := ⟨_, rfl, hP, hD⟩
                    have hCf50 : YC f50 := by rw [ef50]; exact ⟨hCf42.1, (wear_st hCf42.2.1 (by show 0 % 39 < 6 ∨ 12 ≤ 0 % 39 ∨ (-1 ≤ r46.toInt ∧ r46.toInt ≤ 5); omega)), hCf42.2.2.1, hCf42.2.2.2.1, hCf42.2.2.2.2.1, hCf42.2.2.2.2.2⟩
                    have hRf50 : progOK (f50 4) (f50 5) (v37 9).toInt.toNat := by rw [ef50]; exact hRf42
                    have hA_f50 : KF [7, 8, 24, 34, 35] f50 f := by rw [ef50]; exact KF.up hA_f42 rfl
                    refine lv_aload_n hx hb dX11_layGrowths_75 rfl (lv_at hl 3 rfl) ?_
                    refine va_get (D := (dC, dI)) (ci := 11) (v := .ref (r 60)) (C := RX11) (T := TX11) (N := 79) hx hb hts inB_11 hown hE.1 hP 0 rfl rfl 60 (by decide) (hts _ k_1380) (fun _ h9 => h9) rfl dX11_layGrowths_76 ?_
                    refine lv_bipush (v := 30) hx hb dX11_layGrowths_79 (by decide) ?_
                    refine lv_bipush (v := 99) hx hb dX11_layGrowths_81 (by decide) ?_
                    refine lv_aload_n hx hb dX11_layGrowths_83 rfl (lv_at hl 3 rfl) ?_
                    refine va_get (D := (dC, dI)) (ci := 11) (v := .ref (r 60)) (C := RX11) (T := TX11) (N := 79) hx hb hts inB_11 hown hE.1 hP 0 rfl rfl 60 (by decide) (hts _ k_1380) (fun _ h9 => h9) rfl dX11_layGrowths_84 ?_
                    refine lv_bipush (v := 30) hx hb dX11_layGrowths_87 (by decide) ?_
                    refine ldI hx hb hE hP 25 rfl (vp_in_nI (n := 30) (by decide) (by decide)) rfl rfl dX11_layGrowths_89 ?_
                    refine lv_topi (fun t51 et51 => ?_)
                    have zt51 : 30 % 39 < 6 ∨ 12 ≤ 30 % 39 ∨ (-1 ≤ t51.toInt ∧ t51.toInt ≤ 5) := by rw [et51]; exact wear_ld hCf50.2.1 (show 30 < 39 by omega)
                    refine lv_iconst (v := 1) hx hb dX11_layGrowths_90 (by decide) ?_
                    refine lv_iadd hx hb dX11_layGrowths_91 ?_
                    refine lv_topi (fun t52 et52 => ?_)
                    refine cbSi (n := 2) (rest := [.int 30, .ref (r 60)]) hx hb hml hown hts hE hP hD hS hA (sY_X11_lesser_1 0 l dC dI cy y0 r 99 t52 v37 f50 w39 g40 hIv37 hCf50 hRf50 ) k_1799 k_1800 k_114 k_1801 (by decide +kernel) ⟨Nat.le_of_ble_eq_true rfl, Nat.le_of_ble_eq_true rfl⟩ (rfl) hl.1 rfl (Nat.le_of_ble_eq_true rfl) dX11_layGrowths_92 (fun r53 u H locs hw hP hD hS => ?_)
                    obtain ⟨hG54, hw⟩ := hw
                    obtain ⟨pp55, pp56⟩ := hw
                    have pp55 : r53.toInt ≤ (99 : Int32).toInt := pp55
                    have pp56 : r53.toInt ≤ t52.toInt := pp56
                    refine stI hx hb hE hP hD hS 25 rfl (vp_in_nI (n := 30) (by decide) (by decide)) rfl dX11_layGrowths_95 (fun H locs hP hD hS => ?_)
                    obtain ⟨f57, ef57, hP, hD⟩ : ∃ fz9, fz9 = upd2 f50 24 (upd (f50 24) (30 : Int32).toNatClampNeg r53) ∧ va_P (dC, dI) vwCl (YW cy y0 r v37 fz9 w39 g40) H ∧ va_D A (YW cy y0 r v37 fz9 w39 g40) := ⟨_, rfl, hP, hD⟩
                    have hCf57 : YC f57 := by rw [ef57]; exact ⟨hCf50.1, (wear_st hCf50.2.1 (by show 30 % 39 < 6 ∨ 12 ≤ 30 % 39 ∨ (-1 ≤ r53.toInt ∧ r53.toInt ≤ 5); omega)), hCf50.2.2.1, hCf50.2.2.2.1, hCf50.2.2.2.2.1, hCf50.2.2.2.2.2⟩
                    have hRf57 : progOK (f57 4) (f57 5) (v37 9).toInt.toNat := by rw [ef57]; exact hRf50
                    have hA_f57 : KF [7, 8, 24, 34, 35] f57 f := by rw [ef57]; exact KF.up hA_f50 rfl
                    refine lv_aload_n hx hb dX11_layGrowths_96 rfl (lv_at hl 3 rfl) ?_
                    refine va_get (D := (dC, dI)) (ci := 11) (v := .ref (r 60)) (C := RX11) (T := TX11) (N := 79) hx hb hts inB_11 hown hE.1 hP 0 rfl rfl 60 (by decide) (hts _ k_1380) (fun _ h9 => h9) rfl dX11_layGrowths_97 ?_
                    refine lv_bipush (v := 37) hx hb dX11_layGrowths_100 (by decide) ?_
                    refine lv_dup2_11 hx hb dX11_layGrowths_102 rfl rfl ?_
                    refine ldI hx hb hE hP 25 rfl (vp_in_nI (n := 37) (by decide) (by decide)) rfl rfl dX11_layGrowths_103 ?_
                    refine lv_topi (fun t58 et58 => ?_)
                    have zt58 : 37 % 39 < 6 ∨ 12 ≤ 37 % 39 ∨ (-1 ≤ t58.toInt ∧ t58.toInt ≤ 5) := by rw [et58]; exact wear_ld hCf57.2.1 (show 37 < 39 by omega)
                    refine lv_iconst (v := 1) hx hb dX11_layGrowths_104 (by decide) ?_
                    refine lv_iadd hx hb dX11_layGrowths_105 ?_
                    refine lv_topi (fun t59 et59 => ?_)
                    refine stI hx hb hE hP hD hS 25 rfl (vp_in_nI (n := 37) (by decide) (by decide)) rfl dX11_layGrowths_106 (fun H locs hP hD hS => ?_)
                    obtain ⟨f60, ef60, hP, hD⟩ : ∃ fz9, fz9 = upd2 f57 24 (upd (f57 24) (37 : Int32).toNatClampNeg t59) ∧ va_P (dC, dI) vwCl (YW cy y0 r v37 fz9 w39 g40) H ∧ va_D A (YW cy y0 r v37 fz9 w39 g40) := ⟨_, rfl, hP, hD⟩
                    have hCf60 : YC f60 := by rw [ef60]; exact ⟨hCf57.1, (wear_st hCf57.2.1 (by show 37 % 39 < 6 ∨ 12 ≤ 37 % 39 ∨ (-1 ≤ t59.toInt ∧ t59.toInt ≤ 5); omega)), hCf57.2.2.1, hCf57.2.2.2.1, hCf57.2.2.2.2.1, hCf57.2.2.2.2.2⟩
                    have hRf60 : progOK (f60 4) (f60 5) (v37 9).toInt.toNat := by rw [ef60]; exact hRf57
                    have hA_f60 : KF [7, 8, 24, 34, 35] f60 f := by rw [ef60]; exact KF.up hA_f57 rfl
                    obtain ⟨t61, et61⟩ : ∃ y : Int32, y = l4_10 + 1 := ⟨_, rfl⟩
                    have zt61 : t61.toInt = l4_10.toInt + 1 := by rw [et61]; exact add_i rfl (by decide) (by omega) (by omega)
                    refine lv_iinc (v := t61) (lv' := [(4, .int t61), (3, .int l3_1), (2, .int l2_1), (0, .ref y0), (1, .int p1)]) hx hb dX11_layGrowths_107 hl (k := 0) rfl (by rw [et61]; rfl) (by decide) rfl (fun ls hl => ?_)
                    refine lv_goto (tgt := 31) hx hb dX11_layGrowths_110 (by decide) ?_
                    have rg62 := fb_rng t61
                    exact ih10 t61 v37 f60 w39 g40 hIv37 hCf60 hRf60 hq0_v37 hq1_v37 hq2_v37 hq3_v37 hq4_v37 hq5_v37 hq8_v37 hq9_v37 hq10_v37 hq13_v37 hq14_v37 hq15_v37 hq17_v37 hq18_v37 hq24_v37 hq25_v37 hq35_v37 hq36_v37 hq38_v37 hq39_v37 ⟨show (0 : Int) ≤ t61.toInt by omega, show t61.toInt ≤ (2147483647 : Int) by omega⟩ hM_v37 hA_f60 (by show (2147483647 - t61.toInt).toNat < n10; omega) _ _ _ hP hD hS (lv_sub hl [0, 1, 2, 3, 4] rfl)
                  · skip
                    subst g41
                    refine stZ hx hb hE hP hD hS 35 rfl (vp_in_iff.mpr ⟨by omega, by omega⟩) rfl dX11_layGrowths_55 (fun H locs hP hD hS => ?_)
                    obtain ⟨f63, ef63, hP, hD⟩ : ∃ fz9, fz9 = upd2 f38 34 (upd (f38 34) t32.toNatClampNeg (vp_nar .boolean 0)) ∧ va_P (dC, dI) vwCl (YW cy y0 r v37 fz9 w39 g40) H ∧ va_D A (YW cy y0 r v37 fz9 w39 g40) := ⟨_, rfl, hP, hD⟩
                    have hCf63 : YC f63 := by rw [ef63]; exact hCf38
                    have hRf63 : progOK (f63 4) (f63 5) (v37 9).toInt.toNat := by rw [ef63]; exact hRf38
                    have hA_f63 : KF [7, 8, 24, 34, 35] f63 f := by rw [ef63]; exact KF.up hA_f38 rfl
                    refine lv_aload_n hx hb dX11_layGrowths_56 rfl (lv_at hl 3 rfl) ?_
                    refine va_get (D := (dC, dI)) (ci := 11) (v := .ref (r 60)) (C := RX11) (T := TX11) (N := 79) hx hb hts inB_11 hown hE.1 hP 0 rfl rfl 60 (by decide) (hts _ k_1380) (fun _ h9 => h9) rfl dX11_layGrowths_57 ?_
                    refine lv_iconst (v := 0) hx hb dX11_layGrowths_60 (by decide) ?_
                    refine lv_bipush (v := 99) hx hb dX11_layGrowths_61 (by decide) ?_
                    refine lv_aload_n hx hb dX11_layGrowths_63 rfl (lv_at hl 3 rfl) ?_
                    refine va_get (D := (dC, dI)) (ci := 11) (v := .ref (r 60)) (C := RX11) (T := TX11) (N := 79) hx hb hts inB_11 hown hE.1 hP 0 rfl rfl 60 (by decide) (hts _ k_1380) (fun _ h9 => h9) rfl dX11_layGrowths_64 ?_
                    refine lv_iconst (v := 0) hx hb dX11_layGrowths_67 (by decide) ?_
                    refine ldI hx hb hE hP 25 rfl (vp_in_nI (n := 0) (by decide) (by decide)) rfl rfl dX11_layGrowths_68 ?_
                    refine lv_topi (fun t64 et64 => ?_)
                    have zt64 : 0 % 39 < 6 ∨ 12 ≤ 0 % 39 ∨ (-1 ≤ t64.toInt ∧ t64.toInt ≤ 5) := by rw [et64]; exact wear_ld hCf63.2.1 (show 0 < 39 by omega)
                    refine lv_iload_n hx hb dX11_layGrowths_69 rfl (lv_at hl 1 rfl) ?_
                    refine lv_iadd hx hb dX11_layGrowths_70 ?_
                    refine lv_topi (fun t65 et65 => ?_)
                    have lt66 : (99 : Int32).toInt = 99 := by decide
                    refine cbSi (n := 2) (rest := [.int 0, .ref (r 60)]) hx hb hml hown hts hE hP hD hS hA (sY_X11_lesser_1 0 l dC dI cy y0 r 99 t65 v37 f63 w39 g40 hIv37 hCf63 hRf63 ) k_1799 k_1800 k_114 k_1801 (by decide +kernel) ⟨Nat.le_of_ble_eq_true rfl, Nat.le_of_ble_eq_true rfl⟩ (rfl) hl.1 rfl (Nat.le_of_ble_eq_true rfl) dX11_layGrowths_71 (fun r67 u H locs hw hP hD hS => ?_)
                    obtain ⟨hG68, hw⟩ := hw
                    obtain ⟨pp69, pp70⟩ := hw
                    have pp69 : r67.toInt ≤ (99 : Int32).toInt := pp69
                    have pp70 : r67.toInt ≤ t65.toInt := pp70
                    refine stI hx hb hE hP hD hS 25 rfl (vp_in_nI (n := 0) (by decide) (by decide)) rfl dX11_layGrowths_74 (fun H locs hP hD hS => ?_)
                    obtain ⟨f71, ef71, hP, hD⟩ : ∃ fz9, fz9 = upd2 f63 24 (upd (f63 24) (0 : Int32).toNatClampNeg r67) ∧ va_P (dC, dI) vwCl (YW cy y0 r v37 fz9 w39 g40) H ∧ va_D A (YW cy y0 r v37 fz9 w39 g40) := ⟨_, rfl, hP, hD⟩
                    have hCf71 : YC f71 := by rw [ef71]; exact ⟨hCf63.1, (wear_st hCf63.2.1 (by show 0 % 39 < 6 ∨ 12 ≤ 0 % 39 ∨ (-1 ≤ r67.toInt ∧ r67.toInt ≤ 5); omega)), hCf63.2.2.1, hCf63.2.2.2.1, hCf63.2.2.2.2.1, hCf63.2.2.2.2.2⟩
                    have hRf71 : progOK (f71 4) (f71 5) (v37 9).toInt.toNat := by rw [ef71]; exact hRf63
                    have hA_f71 : KF [7, 8, 24, 34, 35] f71 f := by rw [ef71]; exact KF.up hA_f63 rfl
                    refine lv_aload_n hx hb dX11_layGrowths_75 rfl (lv_at hl 3 rfl) ?_
                    refine va_get (D := (dC, dI)) (ci := 11) (v := .ref (r 60)) (C := RX11) (T := TX11) (N := 79) hx hb hts inB_11 hown hE.1 hP 0 rfl rfl 60 (by decide) (hts _ k_1380) (fun _ h9 => h9) rfl dX11_layGrowths_76 ?_
                    refine lv_bipush (v := 30) hx hb dX11_layGrowths_79 (by decide) ?_
                    refine lv_bipush (v := 99) hx hb dX11_layGrowths_81 (by decide) ?_
                    refine lv_aload_n hx hb dX11_layGrowths_83 rfl (lv_at hl 3 rfl) ?_
                    refine va_get (D := (dC, dI)) (ci := 11) (v := .ref (r 60)) (C := RX11) (T := TX11) (N := 79) hx hb hts inB_11 hown hE.1 hP 0 rfl rfl 60 (by decide) (hts _ k_1380) (fun _ h9 => h9) rfl dX11_layGrowths_84 ?_
                    refine lv_bipush (v := 30) hx hb dX11_layGrowths_87 (by decide) ?_
                    refine ldI hx hb hE hP 25 rfl (vp_in_nI (n := 30) (by decide) (by decide)) rfl rfl dX11_layGrowths_89 ?_
                    refine lv_topi (fun t72 et72 => ?_)
                    have zt72 : 30 % 39 < 6 ∨ 12 ≤ 30 % 39 ∨ (-1 ≤ t72.toInt ∧ t72.toInt ≤ 5) := by rw [et72]; exact wear_ld hCf71.2.1 (show 30 < 39 by omega)
                    refine lv_iconst (v := 1) hx hb dX11_layGrowths_90 (by decide) ?_
                    refine lv_iadd hx hb dX11_layGrowths_91 ?_
                    refine lv_topi (fun t73 et73 => ?_)
                    refine cbSi (n := 2) (rest := [.int 30, .ref (r 60)]) hx hb hml hown hts hE hP hD hS hA (sY_X11_lesser_1 0 l dC dI cy y0 r 99 t73 v37 f71 w39 g40 hIv37 hCf71 hRf71 ) k_1799 k_1800 k_114 k_1801 (by decide +kernel) ⟨Nat.le_of_ble_eq_true rfl, Nat.le_of_ble_eq_true rfl⟩ (rfl) hl.1 rfl (Nat.le_of_ble_eq_true rfl) dX11_layGrowths_92 (fun r74 u H locs hw hP hD hS => ?_)
                    obtain ⟨hG75, hw⟩ := hw
                    obtain ⟨pp76, pp77⟩ := hw
                    have pp76 : r74.toInt ≤ (99 : Int32).toInt := pp76
                    have pp77 : r74.toInt ≤ t73.toInt := pp77
                    refine stI hx hb hE hP hD hS 25 rfl (vp_in_nI (n := 30) (by decide) (by decide)) rfl dX11_layGrowths_95 (fun H locs hP hD hS => ?_)
                    obtain ⟨f78, ef78, hP, hD⟩ : ∃ fz9, fz9 = upd2 f71 24 (upd (f71 24) (30 : Int32).toNatClampNeg r74) ∧ va_P (dC, dI) vwCl (YW cy y0 r v37 fz9 w39 g40) H ∧ va_D A (YW cy y0 r v37 fz9 w39 g40) := ⟨_, rfl, hP, hD⟩
                    have hCf78 : YC f78 := by rw [ef78]; exact ⟨hCf71.1, (wear_st hCf71.2.1 (by show 30 % 39 < 6 ∨ 12 ≤ 30 % 39 ∨ (-1 ≤ r74.toInt ∧ r74.toInt ≤ 5); omega)), hCf71.2.2.1, hCf71.2.2.2.1, hCf71.2.2.2.2.1, hCf71.2.2.2.2.2⟩
                    have hRf78 : progOK (f78 4) (f78 5) (v37 9).toInt.toNat := by rw [ef78]; exact hRf71
                    have hA_f78 : KF [7, 8, 24, 34, 35] f78 f := by rw [ef78]; exact KF.up hA_f71 rfl
                    refine lv_aload_n hx hb dX11_layGrowths_96 rfl (lv_at hl 3 rfl) ?_
                    refine va_get (D := (dC, dI)) (ci := 11) (v := .ref (r 60)) (C := RX11) (T := TX11) (N := 79) hx hb hts inB_11 hown hE.1 hP 0 rfl rfl 60 (by decide) (hts _ k_1380) (fun _ h9 => h9) rfl dX11_layGrowths_97 ?_
                    refine lv_bipush (v := 37) hx hb dX11_layGrowths_100 (by decide) ?_
                    refine lv_dup2_11 hx hb dX11_layGrowths_102 rfl rfl ?_
                    refine ldI hx hb hE hP 25 rfl (vp_in_nI (n := 37) (by decide) (by decide)) rfl rfl dX11_layGrowths_103 ?_
                    refine lv_topi (fun t79 et79 => ?_)
                    have zt79 : 37 % 39 < 6 ∨ 12 ≤ 37 % 39 ∨ (-1 ≤ t79.toInt ∧ t79.toInt ≤ 5) := by rw [et79]; exact wear_ld hCf78.2.1 (show 37 < 39 by omega)
                    refine lv_iconst (v := 1) hx hb dX11_layGrowths_104 (by decide) ?_
                    refine lv_iadd hx hb dX11_layGrowths_105 ?_
                    refine lv_topi (fun t80 et80 => ?_)
                    refine stI hx hb hE hP hD hS 25 rfl (vp_in_nI (n := 37) (by decide) (by decide)) rfl dX11_layGrowths_106 (fun H locs hP hD hS => ?_)
                    obtain ⟨f81, ef81, hP, hD⟩ : ∃ fz9, fz9 = upd2 f78 24 (upd (f78 24) (37 : Int32).toNatClampNeg t80) ∧ va_P (dC, dI) vwCl (YW cy y0 r v37 fz9 w39 g40) H ∧ va_D A (YW cy y0 r v37 fz9 w39 g40) := ⟨_, rfl, hP, hD⟩
                    have hCf81 : YC f81 := by rw [ef81]; exact ⟨hCf78.1, (wear_st hCf78.2.1 (by show 37 % 39 < 6 ∨ 12 ≤ 37 % 39 ∨ (-1 ≤ t80.toInt ∧ t80.toInt ≤ 5); omega)), hCf78.2.2.1, hCf78.2.2.2.1, hCf78.2.2.2.2.1, hCf78.2.2.2.2.2⟩
                    have hRf81 : progOK (f81 4) (f81 5) (v37 9).toInt.toNat := by rw [ef81]; exact hRf78
                    have hA_f81 : KF [7, 8, 24, 34, 35] f81 f := by rw [ef81]; exact KF.up hA_f78 rfl
                    obtain ⟨t82, et82⟩ : ∃ y : Int32, y = l4_10 + 1 := ⟨_, rfl⟩
                    have zt82 : t82.toInt = l4_10.toInt + 1 := by rw [et82]; exact add_i rfl (by decide) (by omega) (by omega)
                    refine lv_iinc (v := t82) (lv' := [(4, .int t82), (3, .int l3_1), (2, .int l2_1), (0, .ref y0), (1, .int p1)]) hx hb dX11_layGrowths_107 hl (k := 0) rfl (by rw [et82]; rfl) (by decide) rfl (fun ls hl => ?_)
                    refine lv_goto (tgt := 31) hx hb dX11_layGrowths_110 (by decide) ?_
                    have rg83 := fb_rng t82
                    exact ih10 t82 v37 f81 w39 g40 hIv37 hCf81 hRf81 hq0_v37 hq1_v37 hq2_v37 hq3_v37 hq4_v37 hq5_v37 hq8_v37 hq9_v37 hq10_v37 hq13_v37 hq14_v37 hq15_v37 hq17_v37 hq18_v37 hq24_v37 hq25_v37 hq35_v37 hq36_v37 hq38_v37 hq39_v37 ⟨show (0 : Int) ≤ t82.toInt by omega, show t82.toInt ≤ (2147483647 : Int) by omega⟩ hM_v37 hA_f81 (by show (2147483647 - t82.toInt).toNat < n10; omega) _ _ _ hP hD hS (lv_sub hl [0, 1, 2, 3, 4] rfl)
            exact lp10 _ 0 v6 f7 w8 g9 hIv6 hCf7 hRf7 hq0_v6 hq1_v6 hq2_v6 hq3_v6 hq4_v6 hq5_v6 hq8_v6 hq9_v6 hq10_v6 hq13_v6 hq14_v6 hq15_v6 hq17_v6 hq18_v6 hq24_v6 hq25_v6 hq35_v6 hq36_v6 hq38_v6 hq39_v6 ⟨by decide, by decide⟩ hM_v6 hA_f7 (Nat.lt_succ_self _) _ _ _ hP hD hS (lv_sub hl [0, 1, 2, 3, 4] rfl)
  exact lp1 _ 0 0 v f w g hIv hCf hRf rfl rfl rfl rfl rfl rfl rfl rfl rfl rfl rfl rfl rfl rfl rfl rfl rfl rfl rfl rfl ⟨by decide, by decide⟩ hM_v hA_f (Nat.lt_succ_self _) _ _ _ hP hD hS (lv_sub hl [0, 1, 2, 3] rfl)
