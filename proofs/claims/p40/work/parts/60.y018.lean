set_option maxHeartbeats 4000000 in
set_option maxRecDepth 100000 in
theorem sY_X11_law_1 (l : Launch) (dC : Nat → ClassId) (dI : Nat → Nat → Nat) (cy : Nat → ClassId) (y0 : Nat) (r : Nat → Nat) (p1 : Int32) (v : Nat → Int32) (f : Nat → Nat → Int32) (w : Int64) (g : Nat → Int64) (hIv : YI v) (hCf : YC f) (hRf : progOK (f 4) (f 5) (v 9).toInt.toNat)  : ctI l (dC, dI) cy yX11_law cX11_law 4 .int 5 147 0 0 ((Nat → Int32) × (Nat → Nat → Int32) × (Int64) × (Nat → Int64)) [.ref y0, .int p1] (YW cy y0 r v f w g) (fun r u => KV [] u.1 v ∧ KF [7, 8, 24] u.2.1 f ∧ YI u.1 ∧ YC u.2.1 ∧ progOK (u.2.1 4) (u.2.1 5) (u.1 9).toInt.toNat ∧ u.1 0 = v 0 ∧ u.1 1 = v 1 ∧ u.1 2 = v 2 ∧ u.1 3 = v 3 ∧ u.1 4 = v 4 ∧ u.1 5 = v 5 ∧ u.1 8 = v 8 ∧ u.1 9 = v 9 ∧ u.1 10 = v 10 ∧ u.1 13 = v 13 ∧ u.1 14 = v 14 ∧ u.1 15 = v 15 ∧ u.1 17 = v 17 ∧ u.1 18 = v 18 ∧ u.1 24 = v 24 ∧ u.1 25 = v 25 ∧ u.1 35 = v 35 ∧ u.1 36 = v 36 ∧ u.1 38 = v 38 ∧ u.1 39 = v 39) (fun u => YW cy y0 r u.1 u.2.1 u.2.2.1 u.2.2.2) := by
  refine ctI_of (by decide) (Nat.le_of_ble_eq_true rfl) (fun p e s m below meth c A ls Q hx hb hml hts hown hE hP hD hA hl ret => ?_)
  have hUv : (v 35).toInt + (v 36).toInt ≤ 40 := hIv.2
  have hM_v : KV [] v v := fun _ _ => rfl
  have hA_f : KF [7, 8, 24] f f := fun _ _ => rfl
  have hown : s.vm.findClass RX11 = some m.cls := hown
  have hS : va_S A s.heap s.heap [] := va_S.rf
  have hl : lv_has ls 4 [(0, .ref y0), (1, .int p1)] := hl
  refine lv_iload_n hx hb dX11_law_0 rfl (lv_at hl 1 rfl) ?_
  refine lv_iconst (v := 0) hx hb dX11_law_1 (by decide) ?_
  refine lv_sipush (v := 999) hx hb dX11_law_2 (by decide) ?_
  have lt1 : (0 : Int32).toInt = 0 := by decide
  have lt2 : (999 : Int32).toInt = 999 := by decide
  refine cbSi (n := 3) (rest := []) hx hb hml hown hts hE hP hD hS hA (sY_X11_isIn_1 0 l dC dI cy y0 r p1 0 999 v f w g hIv hCf hRf ) k_1736 k_1737 k_114 k_1738 (by decide +kernel) ⟨Nat.le_of_ble_eq_true rfl, Nat.le_of_ble_eq_true rfl⟩ (rfl) hl.1 rfl (Nat.le_of_ble_eq_true rfl) dX11_law_5 (fun r3 u H locs hw hP hD hS => ?_)
  obtain ⟨hG4, hw⟩ := hw
  rcases hw with ⟨g5, g5_0, g5_1⟩ | ⟨g5⟩
  · skip
    subst g5
    refine lv_if_ne (tgt := 13) hx hb dX11_law_8 (by decide) (fun _ => ?_) (fun c0 => absurd c0 (by decide))
    refine lv_aload_n hx hb dX11_law_13 rfl (lv_at hl 0 rfl) ?_
    refine cbVv (n := 0) (rest := []) hx hb hml hown hts hE hP hD hS hA (sY_X11_fill_1 l dC dI cy y0 r  v f w g hIv hCf hRf ) k_1739 k_1741 k_71 k_114 k_1742 (by decide +kernel) ⟨Nat.le_of_ble_eq_true rfl, Nat.le_of_ble_eq_true rfl⟩ 0 11 rfl rfl (rfl) hl.1 rfl (Nat.le_of_ble_eq_true rfl) dX11_law_14 (fun u H locs hw hP hD hS => ?_)
    obtain ⟨v6, f7, w8, g9⟩ := u
    obtain ⟨kV_v6, kF_f7, hIv6, hCf7, hRf7, hk0_v6, hk1_v6, hk2_v6, hk3_v6, hk4_v6, hk5_v6, hk8_v6, hk9_v6, hk10_v6, hk13_v6, hk14_v6, hk15_v6, hk17_v6, hk18_v6, hk24_v6, hk25_v6, hk35_v6, hk36_v6, hk38_v6, hk39_v6⟩ := hw
    have hM_v6 : KV [] v6 v := KV.tr kV_v6 hM_v rfl
    have hA_f7 : KF [7, 8, 24] f7 f := KF.tr kF_f7 hA_f rfl
    have hP : va_P (dC, dI) vwCl (YW cy y0 r v6 f7 w8 g9) H := hP
    have hD : va_D A (YW cy y0 r v6 f7 w8 g9) := hD
    have hUv6 : (v6 35).toInt + (v6 36).toInt ≤ 40 := hIv6.2
    have hq0_v6 : v6 0 = (v 0) := hk0_v6
    have hq1_v6 : v6 1 = (v 1) := hk1_v6
    have hq2_v6 : v6 2 = (v 2) := hk2_v6
    have hq3_v6 : v6 3 = (v 3) := hk3_v6
    have hq4_v6 : v6 4 = (v 4) := hk4_v6
    have hq5_v6 : v6 5 = (v 5) := hk5_v6
    have hq8_v6 : v6 8 = (v 8) := hk8_v6
    have hq9_v6 : v6 9 = (v 9) := hk9_v6
    have zq9_v6 := congrArg Int32.toInt hq9_v6
    have hq10_v6 : v6 10 = (v 10) := hk10_v6
    have hq13_v6 : v6 13 = (v 13) := hk13_v6
    have hq14_v6 : v6 14 = (v 14) := hk14_v6
    have hq15_v6 : v6 15 = (v 15) := hk15_v6
    have hq17_v6 : v6 17 = (v 17) := hk17_v6
    have hq18_v6 : v6 18 = (v 18) := hk18_v6
    have hq24_v6 : v6 24 = (v 24) := hk24_v6
    have hq25_v6 : v6 25 = (v 25) := hk25_v6
    have hq35_v6 : v6 35 = (v 35) := hk35_v6
    have hq36_v6 : v6 36 = (v 36) := hk36_v6
    have hq38_v6 : v6 38 = (v 38) := hk38_v6
    have hq39_v6 : v6 39 = (v 39) := hk39_v6
    refine lv_iconst (v := 0) hx hb dX11_law_17 (by decide) ?_
    refine lv_istore_n (lv' := [(2, .int 0), (0, .ref y0), (1, .int p1)]) hx hb dX11_law_18 rfl hl (by decide) rfl (fun ls hl => ?_)
    refine lv_iconst (v := 0) hx hb dX11_law_19 (by decide) ?_
    refine lv_istore_n (lv' := [(3, .int 0), (2, .int 0), (0, .ref y0), (1, .int p1)]) hx hb dX11_law_20 rfl hl (by decide) rfl (fun ls hl => ?_)
    have lp10 : ∀ (n10 : Nat) (l2_10 : Int32) (l3_10 : Int32) (v10 : Nat → Int32) (f10 : Nat → Nat → Int32) (w10 : Int64) (g10 : Nat → Int64), YI v10 → YC f10 → progOK (f10 4) (f10 5) (v10 9).toInt.toNat → v10 0 = (v 0) → v10 1 = (v 1) → v10 2 = (v 2) → v10 3 = (v 3) → v10 4 = (v 4) → v10 5 = (v 5) → v10 8 = (v 8) → v10 9 = (v 9) → v10 10 = (v 10) → v10 13 = (v 13) → v10 14 = (v 14) → v10 15 = (v 15) → v10 17 = (v 17) → v10 18 = (v 18) → v10 24 = (v 24) → v10 25 = (v 25) → v10 35 = (v 35) → v10 36 = (v 36) → v10 38 = (v 38) → v10 39 = (v 39) → ((0 : Int) ≤ l3_10.toInt ∧ l3_10.toInt ≤ 2147483647) → KV [] v10 v → KF [7, 8, 24] f10 f → (2147483647 - l3_10.toInt).toNat < n10 → ∀ (H : Heap) (locs : List Loc) (ls : Array Slot), va_P (dC, dI) vwCl (YW cy y0 r v10 f10 w10 g10) H → va_D A (YW cy y0 r v10 f10 w10 g10) → va_S A s.heap H locs → lv_has ls 4 [(3, .int l3_10), (2, .int l2_10), (0, .ref y0), (1, .int p1)] → W p l e { frames := 5, cells := 0, slots := 0, locals := 147 } s m ([.ref y0, .int p1] : List Value).toArray below meth c H locs 0 0 Q (F0 m 21 ls []) := by
      intro n10
      induction n10 with
      | zero => intro l2_10 l3_10 v10 f10 w10 g10 hIv10 hCf10 hRf10 hq0_v10 hq1_v10 hq2_v10 hq3_v10 hq4_v10 hq5_v10 hq8_v10 hq9_v10 hq10_v10 hq13_v10 hq14_v10 hq15_v10 hq17_v10 hq18_v10 hq24_v10 hq25_v10 hq35_v10 hq36_v10 hq38_v10 hq39_v10 hr3_10 hM_v10 hA_f10 hm; exact absurd hm (Nat.not_lt_zero _)
      | succ n10 ih10 =>
        intro l2_10 l3_10 v10 f10 w10 g10 hIv10 hCf10 hRf10 hq0_v10 hq1_v10 hq2_v10 hq3_v10 hq4_v10 hq5_v10 hq8_v10 hq9_v10 hq10_v10 hq13_v10 hq14_v10 hq15_v10 hq17_v10 hq18_v10 hq24_v10 hq25_v10 hq35_v10 hq36_v10 hq38_v10 hq39_v10 hr3_10 hM_v10 hA_f10 hm10 H locs ls hP hD hS hl
        have hUv10 : (v10 35).toInt + (v10 36).toInt ≤ 40 := hIv10.2
        have zq9_v10 := congrArg Int32.toInt hq9_v10
        refine lv_iload_n hx hb dX11_law_21 rfl (lv_at hl 0 rfl) ?_
        refine lv_aload_n hx hb dX11_law_22 rfl (lv_at hl 2 rfl) ?_
        refine va_get (D := (dC, dI)) (ci := 11) (v := .int (v10 24)) (C := RX11) (T := TX11) (N := 79) hx hb hts inB_11 hown hE.1 hP 0 rfl rfl 48 (by decide) (hts _ k_1368) (fun _ h9 => h9) rfl dX11_law_23 ?_
        refine tI (y := (v 24)) hq24_v10 ?_
        have b24_v : 0 ≤ (v 24).toInt ∧ (v 24).toInt ≤ 6 := YIb.b hIv.1 24 (by decide)
        refine lv_icmp_ge (tgt := 63) hx hb dX11_law_26 (by decide) (fun c11 => ?_) (fun c11 => ?_)
        · skip
          have zc11 : (v 24).toInt ≤ l3_10.toInt := by rw [fa_le] at c11; exact c11
          have rg12 := fb_rng l3_10
          have rg13 := fb_rng (v 24)
          refine lv_iload_n hx hb dX11_law_63 rfl (lv_at hl 1 rfl) ?_
          exact ret l2_10 (v10, f10, w10, g10) _ _ _ _ _ _ rfl ⟨hM_v10, hA_f10, hIv10, hCf10, hRf10, hq0_v10, hq1_v10, hq2_v10, hq3_v10, hq4_v10, hq5_v10, hq8_v10, hq9_v10, hq10_v10, hq13_v10, hq14_v10, hq15_v10, hq17_v10, hq18_v10, hq24_v10, hq25_v10, hq35_v10, hq36_v10, hq38_v10, hq39_v10⟩ hP hD hS dX11_law_64 (Nat.le_refl _) (Nat.le_refl _)
        · skip
          have zc11 : ¬ ((v 24).toInt ≤ l3_10.toInt) := by rw [fa_le] at c11; exact c11
          have rg14 := fb_rng l3_10
          have rg15 := fb_rng (v 24)
          refine lv_iload_n hx hb dX11_law_29 rfl (lv_at hl 1 rfl) ?_
          refine lv_aload_n hx hb dX11_law_30 rfl (lv_at hl 2 rfl) ?_
          refine lv_iload_n hx hb dX11_law_31 rfl (lv_at hl 0 rfl) ?_
          refine cbVi (n := 1) (rest := [.int l2_10]) hx hb hml hown hts hE hP hD hS hA (sY_X11_ownIll_1 l dC dI cy y0 r l3_10 v10 f10 w10 g10 hIv10 hCf10 hRf10 ⟨show (0 : Int) ≤ l3_10.toInt by omega, show l3_10.toInt ≤ (5 : Int) by omega⟩) k_1984 k_1986 k_96 k_114 k_1987 (by decide +kernel) ⟨Nat.le_of_ble_eq_true rfl, Nat.le_of_ble_eq_true rfl⟩ 0 11 rfl rfl (rfl) hl.1 rfl (Nat.le_of_ble_eq_true rfl) dX11_law_32 (fun r16 u H locs hw hP hD hS => ?_)
          obtain ⟨v17, f18, w19, g20⟩ := u
          obtain ⟨kV_v17, kF_f18, hIv17, hCf18, hRf18, hk0_v17, hk1_v17, hk2_v17, hk3_v17, hk4_v17, hk5_v17, hk8_v17, hk9_v17, hk10_v17, hk13_v17, hk14_v17, hk15_v17, hk17_v17, hk18_v17, hk24_v17, hk25_v17, hk35_v17, hk36_v17, hk38_v17, hk39_v17⟩ := hw
          have hM_v17 : KV [] v17 v := KV.tr kV_v17 hM_v10 rfl
          have hA_f18 : KF [7, 8, 24] f18 f := KF.tr kF_f18 hA_f10 rfl
          have hP : va_P (dC, dI) vwCl (YW cy y0 r v17 f18 w19 g20) H := hP
          have hD : va_D A (YW cy y0 r v17 f18 w19 g20) := hD
          have hUv17 : (v17 35).toInt + (v17 36).toInt ≤ 40 := hIv17.2
          have hq0_v17 : v17 0 = (v 0) := hk0_v17.trans hq0_v10
          have hq1_v17 : v17 1 = (v 1) := hk1_v17.trans hq1_v10
          have hq2_v17 : v17 2 = (v 2) := hk2_v17.trans hq2_v10
          have hq3_v17 : v17 3 = (v 3) := hk3_v17.trans hq3_v10
          have hq4_v17 : v17 4 = (v 4) := hk4_v17.trans hq4_v10
          have hq5_v17 : v17 5 = (v 5) := hk5_v17.trans hq5_v10
          have hq8_v17 : v17 8 = (v 8) := hk8_v17.trans hq8_v10
          have hq9_v17 : v17 9 = (v 9) := hk9_v17.trans hq9_v10
          have zq9_v17 := congrArg Int32.toInt hq9_v17
          have hq10_v17 : v17 10 = (v 10) := hk10_v17.trans hq10_v10
          have hq13_v17 : v17 13 = (v 13) := hk13_v17.trans hq13_v10
          have hq14_v17 : v17 14 = (v 14) := hk14_v17.trans hq14_v10
          have hq15_v17 : v17 15 = (v 15) := hk15_v17.trans hq15_v10
          have hq17_v17 : v17 17 = (v 17) := hk17_v17.trans hq17_v10
          have hq18_v17 : v17 18 = (v 18) := hk18_v17.trans hq18_v10
          have hq24_v17 : v17 24 = (v 24) := hk24_v17.trans hq24_v10
          have hq25_v17 : v17 25 = (v 25) := hk25_v17.trans hq25_v10
          have hq35_v17 : v17 35 = (v 35) := hk35_v17.trans hq35_v10
          have hq36_v17 : v17 36 = (v 36) := hk36_v17.trans hq36_v10
          have hq38_v17 : v17 38 = (v 38) := hk38_v17.trans hq38_v10
          have hq39_v17 : v17 39 = (v 39) := hk39_v17.trans hq39_v10
          refine lv_if_lt (tgt := 51) hx hb dX11_law_35 (by decide) (fun c21 => ?_) (fun c21 => ?_)
          · skip
            have zc21 : r16.toInt < 0 := by rw [fa_lt, show (0 : Int32).toInt = 0 from by decide] at c21; exact c21
            refine lv_iconst (v := 0) hx hb dX11_law_51 (by decide) ?_
            have lt22 : (0 : Int32).toInt = 0 := by decide
            refine cbSi (n := 1) (rest := [.int l2_10]) hx hb hml hown hts hE hP hD hS hA (sY_X11_truth_1 l dC dI cy y0 r 0 v17 f18 w19 g20 hIv17 hCf18 hRf18 ) k_1761 k_1762 k_114 k_1763 (by decide +kernel) ⟨Nat.le_of_ble_eq_true rfl, Nat.le_of_ble_eq_true rfl⟩ (rfl) hl.1 rfl (Nat.le_of_ble_eq_true rfl) dX11_law_52 (fun r23 u H locs hw hP hD hS => ?_)
            refine lv_iadd hx hb dX11_law_55 ?_
            refine lv_topi (fun t24 et24 => ?_)
            refine lv_istore_n (lv' := [(2, .int t24), (3, .int l3_10), (0, .ref y0), (1, .int p1)]) hx hb dX11_law_56 rfl hl (by decide) rfl (fun ls hl => ?_)
            obtain ⟨t25, et25⟩ : ∃ y : Int32, y = l3_10 + 1 := ⟨_, rfl⟩
            have zt25 : t25.toInt = l3_10.toInt + 1 := by rw [et25]; exact add_i rfl (by decide) (by omega) (by omega)
            refine lv_iinc (v := t25) (lv' := [(3, .int t25), (2, .int t24), (0, .ref y0), (1, .int p1)]) hx hb dX11_law_57 hl (k := 1) rfl (by rw [et25]; rfl) (by decide) rfl (fun ls hl => ?_)
            refine lv_goto (tgt := 21) hx hb dX11_law_60 (by decide) ?_
            have rg26 := fb_rng t25
            exact ih10 t24 t25 v17 f18 w19 g20 hIv17 hCf18 hRf18 hq0_v17 hq1_v17 hq2_v17 hq3_v17 hq4_v17 hq5_v17 hq8_v17 hq9_v17 hq10_v17 hq13_v17 hq14_v17 hq15_v17 hq17_v17 hq18_v17 hq24_v17 hq25_v17 hq35_v17 hq36_v17 hq38_v17 hq39_v17 ⟨show (0 : Int) ≤ t25.toInt by omega, show t25.toInt ≤ (2147483647 : Int) by omega⟩ hM_v17 hA_f18 (by show (2147483647 - t25.toInt).toNat < n10; omega) _ _ _ hP hD hS (lv_sub hl [0, 1, 2, 3] rfl)
          · skip
            have zc21 : ¬ (r16.toInt < 0) := by rw [fa_lt, show (0 : Int32).toInt = 0 from by decide] at c21; exact c21
            refine lv_aload_n hx hb dX11_law_38 rfl (lv_at hl 2 rfl) ?_
            refine lv_iload_n hx hb dX11_law_39 rfl (lv_at hl 0 rfl) ?_
            refine cbVi (n := 1) (rest := [.int l2_10]) hx hb hml hown hts hE hP hD hS hA (sY_X11_ownIll_1 l dC dI cy y0 r l3_10 v17 f18 w19 g20 hIv17 hCf18 hRf18 ⟨show (0 : Int) ≤ l3_10.toInt by omega, show l3_10.toInt ≤ (5 : Int) by omega⟩) k_1984 k_1986 k_96 k_114 k_1987 (by decide +kernel) ⟨Nat.le_of_ble_eq_true rfl, Nat.le_of_ble_eq_true rfl⟩ 0 11 rfl rfl (rfl) hl.1 rfl (Nat.le_of_ble_eq_true rfl) dX11_law_40 (fun r27 u H locs hw hP hD hS => ?_)
            obtain ⟨v28, f29, w30, g31⟩ := u
            obtain ⟨kV_v28, kF_f29, hIv28, hCf29, hRf29, hk0_v28, hk1_v28, hk2_v28, hk3_v28, hk4_v28, hk5_v28, hk8_v28, hk9_v28, hk10_v28, hk13_v28, hk14_v28, hk15_v28, hk17_v28, hk18_v28, hk24_v28, hk25_v28, hk35_v28, hk36_v28, hk38_v28, hk39_v28⟩ := hw
            have hM_v28 : KV [] v28 v := KV.tr kV_v28 hM_v17 rfl
            have hA_f29 : KF [7, 8, 24] f29 f := KF.tr kF_f29 hA_f18 rfl
            have hP : va_P (dC, dI) vwCl (YW cy y0 r v28 f29 w30 g31) H := hP
            have hD : va_D A (YW cy y0 r v28 f29 w30 g31) := hD
            have hUv28 : (v28 35).toInt + (v28 36).toInt ≤ 40 := hIv28.2
            have hq0_v28 : v28 0 = (v 0) := hk0_v28.trans hq0_v17
            have hq1_v28 : v28 1 = (v 1) := hk1_v28.trans hq1_v17
            have hq2_v28 : v28 2 = (v 2) := hk2_v28.trans hq2_v17
            have hq3_v28 : v28 3 = (v 3) := hk3_v28.trans hq3_v17
            have hq4_v28 : v28 4 = (v 4) := hk4_v28.trans hq4_v17
            have hq5_v28 : v28 5 = (v 5) := hk5_v28.trans hq5_v17
            have hq8_v28 : v28 8 = (v 8) := hk8_v28.trans hq8_v17
            have hq9_v28 : v28 9 = (v 9) := hk9_v28.trans hq9_v17
            have zq9_v28 := congrArg Int32.toInt hq9_v28
            have hq10_v28 : v28 10 = (v 10) := hk10_v28.trans hq10_v17
            have hq13_v28 : v28 13 = (v 13) := hk13_v28.trans hq13_v17
            have hq14_v28 : v28 14 = (v 14) := hk14_v28.trans hq14_v17
            have hq15_v28 : v28 15 = (v 15) := hk15_v28.trans hq15_v17
            have hq17_v28 : v28 17 = (v 17) := hk17_v28.trans hq17_v17
            have hq18_v28 : v28 18 = (v 18) := hk18_v28.trans hq18_v17
            have hq24_v28 : v28 24 = (v 24) := hk24_v28.trans hq24_v17
            have hq25_v28 : v28 25 = (v 25) := hk25_v28.trans hq25_v17
            have hq35_v28 : v28 35 = (v 35) := hk35_v28.trans hq35_v17
            have hq36_v28 : v28 36 = (v 36) := hk36_v28.trans hq36_v17
            have hq38_v28 : v28 38 = (v 38) := hk38_v28.trans hq38_v17
            have hq39_v28 : v28 39 = (v 39) := hk39_v28.trans hq39_v17
            refine lv_iload_n hx hb dX11_law_43 rfl (lv_at hl 3 rfl) ?_
            refine lv_icmp_gt (tgt := 51) hx hb dX11_law_44 (by decide) (fun c32 => ?_) (fun c32 => ?_)
            · skip
              have zc32 : p1.toInt < r27.toInt := by rw [fa_lt] at c32; exact c32
              have rg33 := fb_rng r27
              have rg34 := fb_rng p1
              refine lv_iconst (v := 0) hx hb dX11_law_51 (by decide) ?_
              have lt35 : (0 : Int32).toInt = 0 := by decide
              refine cbSi (n := 1) (rest := [.int l2_10]) hx hb hml hown hts hE hP hD hS hA (sY_X11_truth_1 l dC dI cy y0 r 0 v28 f29 w30 g31 hIv28 hCf29 hRf29 ) k_1761 k_1762 k_114 k_1763 (by decide +kernel) ⟨Nat.le_of_ble_eq_true rfl, Nat.le_of_ble_eq_true rfl⟩ (rfl) hl.1 rfl (Nat.le_of_ble_eq_true rfl) dX11_law_52 (fun r36 u H locs hw hP hD hS => ?_)
              refine lv_iadd hx hb dX11_law_55 ?_
              refine lv_topi (fun t37 et37 => ?_)
              refine lv_istore_n (lv' := [(2, .int t37), (3, .int l3_10), (0, .ref y0), (1, .int p1)]) hx hb dX11_law_56 rfl hl (by decide) rfl (fun ls hl => ?_)
              obtain ⟨t38, et38⟩ : ∃ y : Int32, y = l3_10 + 1 := ⟨_, rfl⟩
              have zt38 : t38.toInt = l3_10.toInt + 1 := by rw [et38]; exact add_i rfl (by decide) (by omega) (by omega)
              refine lv_iinc (v := t38) (lv' := [(3, .int t38), (2, .int t37), (0, .ref y0), (1, .int p1)]) hx hb dX11_law_57 hl (k := 1) rfl (by rw [et38]; rfl) (by decide) rfl (fun ls hl => ?_)
              refine lv_goto (tgt := 21) hx hb dX11_law_60 (by decide) ?_
              have rg39 := fb_rng t38
              exact ih10 t37 t38 v28 f29 w30 g31 hIv28 hCf29 hRf29 hq0_v28 hq1_v28 hq2_v28 hq3_v28 hq4_v28 hq5_v28 hq8_v28 hq9_v28 hq10_v28 hq13_v28 hq14_v28 hq15_v28 hq17_v28 hq18_v28 hq24_v28 hq25_v28 hq35_v28 hq36_v28 hq38_v28 hq39_v28 ⟨show (0 : Int) ≤ t38.toInt by omega, show t38.toInt ≤ (2147483647 : Int) by omega⟩ hM_v28 hA_f29 (by show (2147483647 - t38.toInt).toNat < n10; omega) _ _ _ hP hD hS (lv_sub hl [0, 1, 2, 3] rfl)
            · skip
              have zc32 : ¬ (p1.toInt < r27.toInt) := by rw [fa_lt] at c32; exact c32
              have rg40 := fb_rng r27
              have rg41 := fb_rng p1
              refine lv_iconst (v := 1) hx hb dX11_law_47 (by decide) ?_
              refine lv_goto (tgt := 52) hx hb dX11_law_48 (by decide) ?_
              have lt42 : (1 : Int32).toInt = 1 := by decide
              refine cbSi (n := 1) (rest := [.int l2_10]) hx hb hml hown hts hE hP hD hS hA (sY_X11_truth_1 l dC dI cy y0 r 1 v28 f29 w30 g31 hIv28 hCf29 hRf29 ) k_1761 k_1762 k_114 k_1763 (by decide +kernel) ⟨Nat.le_of_ble_eq_true rfl, Nat.le_of_ble_eq_true rfl⟩ (rfl) hl.1 rfl (Nat.le_of_ble_eq_true rfl) dX11_law_52 (fun r43 u H locs hw hP hD hS => ?_)
              refine lv_iadd hx hb dX11_law_55 ?_
              refine lv_topi (fun t44 et44 => ?_)
              refine lv_istore_n (lv' := [(2, .int t44), (3, .int l3_10), (0, .ref y0), (1, .int p1)]) hx hb dX11_law_56 rfl hl (by decide) rfl (fun ls hl => ?_)
              obtain ⟨t45, et45⟩ : ∃ y : Int32, y = l3_10 + 1 := ⟨_, rfl⟩
              have zt45 : t45.toInt = l3_10.toInt + 1 := by rw [et45]; exact add_i rfl (by decide) (by omega) (by omega)
              refine lv_iinc (v := t45) (lv' := [(3, .int t45), (2, .int t44), (0, .ref y0), (1, .int p1)]) hx hb dX11_law_57 hl (k := 1) rfl (by rw [et45]; rfl) (by decide) rfl (fun ls hl => ?_)
              refine lv_goto (tgt := 21) hx hb dX11_law_60 (by decide) ?_
              have rg46 := fb_rng t45
              exact ih10 t44 t45 v28 f29 w30 g31 hIv28 hCf29 hRf29 hq0_v28 hq1_v28 hq2_v28 hq3_v28 hq4_v28 hq5_v28 hq8_v28 hq9_v28 hq10_v28 hq13_v28 hq14_v28 hq15_v28 hq17_v28 hq18_v28 hq24_v28 hq25_v28 hq35_v28 hq36_v28 hq38_v28 hq39_v28 ⟨show (0 : Int) ≤ t45.toInt by omega, show t45.toInt ≤ (2147483647 : Int) by omega⟩ hM_v28 hA_f29 (by show (2147483647 - t45.toInt).toNat < n10; omega) _ _ _ hP hD hS (lv_sub hl [0, 1, 2, 3] rfl)
    exact lp10 _ 0 0 v6 f7 w8 g9 hIv6 hCf7 hRf7 hq0_v6 hq1_v6 hq2_v6 hq3_v6 hq4_v6 hq5_v6 hq8_v6 hq9_v6 hq10_v6 hq13_v6 hq14_v6 hq15_v6 hq17_v6 hq18_v6 hq24_v6 hq25_v6 hq35_v6 hq36_v6 hq38_v6 hq39_v6 ⟨by decide, by decide⟩ hM_v6 hA_f7 (Nat.lt_succ_self _) _ _ _ hP hD hS (lv_sub hl [0, 1, 2, 3] rfl)
  · skip
    subst g5
    refine lv_if_ne (tgt := 13) hx hb dX11_law_8 (by decide) (fun c0 => absurd (by decide) c0) (fun _ => ?_)
    refine lv_iconst (v := (-1)) hx hb dX11_law_11 (by decide) ?_
    exact ret (-1) (v, f, w, g) _ _ _ _ _ _ rfl ⟨hM_v, hA_f, hIv, hCf, hRf, rfl, rfl, rfl, rfl, rfl, rfl, rfl, rfl, rfl, rfl, rfl, rfl, rfl, rfl, rfl, rfl, rfl, rfl, rfl, rfl⟩ hP hD hS dX11_law_12 (Nat.le_refl _) (Nat.le_refl _)
set_option maxHeartbeats 4000000 in
set_option maxRecDepth 100000 in
theorem sY_X11_ease_1 (l : Launch) (dC : Nat → ClassId) (dI : Nat → Nat → Nat) (cy : Nat → ClassId) (y0 : Nat) (r : Nat → Nat)  (v : Nat → Int32) (f : Nat → Nat → Int32) (w : Int64) (g : Nat → Int64) (hIv : YI v) (hCf : YC f) (hRf : progOK (f 4) (f 5) (v 9).toInt.toNat)  : ctI l (dC, dI) cy yX11_ease cX11_ease 3 .int 5 147 0 0 ((Nat → Int32) × (Nat → Nat → Int32) × (Int64) × (Nat → Int64)) [.ref y0] (YW cy y0 r v f w g) (fun r u => KV [] u.1 v ∧ KF [7, 8, 24] u.2.1 f ∧ YI u.1 ∧ YC u.2.1 ∧ progOK (u.2.1 4) (u.2.1 5) (u.1 9).toInt.toNat ∧ u.1 0 = v 0 ∧ u.1 1 = v 1 ∧ u.1 2 = v 2 ∧ u.1 3 = v 3 ∧ u.1 4 = v 4 ∧ u.1 5 = v 5 ∧ u.1 8 = v 8 ∧ u.1 9 = v 9 ∧ u.1 10 = v 10 ∧ u.1 13 = v 13 ∧ u.1 14 = v 14 ∧ u.1 15 = v 15 ∧ u.1 17 = v 17 ∧ u.1 18 = v 18 ∧ u.1 24 = v 24 ∧ u.1 25 = v 25 ∧ u.1 35 = v 35 ∧ u.1 36 = v 36 ∧ u.1 38 = v 38 ∧ u.1 39 = v 39) (fun u => YW cy y0 r u.1 u.2.1 u.2.2.1 u.2.2.2) := by
  refine ctI_of (by decide) (Nat.le_of_ble_eq_true rfl) (fun p e s m below meth c A ls Q hx hb hml hts hown hE hP hD hA hl ret => ?_)
  have hUv : (v 35).toInt + (v 36).toInt ≤ 40 := hIv.2
  have hM_v : KV [] v v := fun _ _ => rfl
  have hA_f : KF [7, 8, 24] f f := fun _ _ => rfl
  have hown : s.vm.findClass RX11 = some m.cls := hown
  have hS : va_S A s.heap s.heap [] := va_S.rf
  have hl : lv_has ls 3 [(0, .ref y0)] := hl
  refine lv_aload_n hx hb dX11_ease_0 rfl (lv_at hl 0 rfl) ?_
  refine cbVv (n := 0) (rest := []) hx hb hml hown hts hE hP hD hS hA (sY_X11_fill_1 l dC dI cy y0 r  v f w g hIv hCf hRf ) k_1739 k_1741 k_71 k_114 k_1742 (by decide +kernel) ⟨Nat.le_of_ble_eq_true rfl, Nat.le_of_ble_eq_true rfl⟩ 0 11 rfl rfl (rfl) hl.1 rfl (Nat.le_of_ble_eq_true rfl) dX11_ease_1 (fun u H locs hw hP hD hS => ?_)
  obtain ⟨v1, f2, w3, g4⟩ := u
  obtain ⟨kV_v1, kF_f2, hIv1, hCf2, hRf2, hk0_v1, hk1_v1, hk2_v1, hk3_v1, hk4_v1, hk5_v1, hk8_v1, hk9_v1, hk10_v1, hk13_v1, hk14_v1, hk15_v1, hk17_v1, hk18_v1, hk24_v1, hk25_v1, hk35_v1, hk36_v1, hk38_v1, hk39_v1⟩ := hw
  have hM_v1 : KV [] v1 v := KV.tr kV_v1 hM_v rfl
  have hA_f2 : KF [7, 8, 24] f2 f := KF.tr kF_f2 hA_f rfl
  have hP : va_P (dC, dI) vwCl (YW cy y0 r v1 f2 w3 g4) H := hP
  have hD : va_D A (YW cy y0 r v1 f2 w3 g4) := hD
  have hUv1 : (v1 35).toInt + (v1 36).toInt ≤ 40 := hIv1.2
  have hq0_v1 : v1 0 = (v 0) := hk0_v1
  have hq1_v1 : v1 1 = (v 1) := hk1_v1
  have hq2_v1 : v1 2 = (v 2) := hk2_v1
  have hq3_v1 : v1 3 = (v 3) := hk3_v1
  have hq4_v1 : v1 4 = (v 4) := hk4_v1
  have hq5_v1 : v1 5 = (v 5) := hk5_v1
  have hq8_v1 : v1 8 = (v 8) := hk8_v1
  have hq9_v1 : v1 9 = (v 9) := hk9_v1
  have zq9_v1 := congrArg Int32.toInt hq9_v1
  have hq10_v1 : v1 10 = (v 10) := hk10_v1
  have hq13_v1 : v1 13 = (v 13) := hk13_v1
  have hq14_v1 : v1 14 = (v 14) := hk14_v1
  have hq15_v1 : v1 15 = (v 15) := hk15_v1
  have hq17_v1 : v1 17 = (v 17) := hk17_v1
  have hq18_v1 : v1 18 = (v 18) := hk18_v1
  have hq24_v1 : v1 24 = (v 24) := hk24_v1
  have hq25_v1 : v1 25 = (v 25) := hk25_v1
  have hq35_v1 : v1 35 = (v 35) := hk35_v1
  have hq36_v1 : v1 36 = (v 36) := hk36_v1
  have hq38_v1 : v1 38 = (v 38) := hk38_v1
  have hq39_v1 : v1 39 = (v 39) := hk39_v1
  refine lv_iconst (v := 0) hx hb dX11_ease_4 (by decide) ?_
  refine lv_istore_n (lv' := [(1, .int 0), (0, .ref y0)]) hx hb dX11_ease_5 rfl hl (by decide) rfl (fun ls hl => ?_)
  refine lv_iconst (v := 0) hx hb dX11_ease_6 (by decide) ?_
  refine lv_istore_n (lv' := [(2, .int 0), (1, .int 0), (0, .ref y0)]) hx hb dX11_ease_7 rfl hl (by decide) rfl (fun ls hl => ?_)
  have lp5 : ∀ (n5 : Nat) (l1_5 : Int32) (l2_5 : Int32) (v5 : Nat → Int32) (f5 : Nat → Nat → Int32) (w5 : Int64) (g5 : Nat → Int64), YI v5 → YC f5 → progOK (f5 4) (f5 5) (v5 9).toInt.toNat → v5 0 = (v 0) → v5 1 = (v 1) → v5 2 = (v 2) → v5 3 = (v 3) → v5 4 = (v 4) → v5 5 = (v 5) → v5 8 = (v 8) → v5 9 = (v 9) → v5 10 = (v 10) → v5 13 = (v 13) → v5 14 = (v 14) → v5 15 = (v 15) → v5 17 = (v 17) → v5 18 = (v 18) → v5 24 = (v 24) → v5 25 = (v 25) → v5 35 = (v 35) → v5 36 = (v 36) → v5 38 = (v 38) → v5 39 = (v 39) → ((0 : Int) ≤ l2_5.toInt ∧ l2_5.toInt ≤ 2147483647) → KV [] v5 v → KF [7, 8, 24] f5 f → (2147483647 - l2_5.toInt).toNat < n5 → ∀ (H : Heap) (locs : List Loc) (ls : Array Slot), va_P (dC, dI) vwCl (YW cy y0 r v5 f5 w5 g5) H → va_D A (YW cy y0 r v5 f5 w5 g5) → va_S A s.heap H locs → lv_has ls 3 [(2, .int l2_5), (1, .int l1_5), (0, .ref y0)] → W p l e { frames := 5, cells := 0, slots := 0, locals := 147 } s m ([.ref y0] : List Value).toArray below meth c H locs 0 0 Q (F0 m 8 ls []) := by
    intro n5
    induction n5 with
    | zero => intro l1_5 l2_5 v5 f5 w5 g5 hIv5 hCf5 hRf5 hq0_v5 hq1_v5 hq2_v5 hq3_v5 hq4_v5 hq5_v5 hq8_v5 hq9_v5 hq10_v5 hq13_v5 hq14_v5 hq15_v5 hq17_v5 hq18_v5 hq24_v5 hq25_v5 hq35_v5 hq36_v5 hq38_v5 hq39_v5 hr2_5 hM_v5 hA_f5 hm; exact absurd hm (Nat.not_lt_zero _)
    | succ n5 ih5 =>
      intro l1_5 l2_5 v5 f5 w5 g5 hIv5 hCf5 hRf5 hq0_v5 hq1_v5 hq2_v5 hq3_v5 hq4_v5 hq5_v5 hq8_v5 hq9_v5 hq10_v5 hq13_v5 hq14_v5 hq15_v5 hq17_v5 hq18_v5 hq24_v5 hq25_v5 hq35_v5 hq36_v5 hq38_v5 hq39_v5 hr2_5 hM_v5 hA_f5 hm5 H locs ls hP hD hS hl
      have hUv5 : (v5 35).toInt + (v5 36).toInt ≤ 40 := hIv5.2
      have zq9_v5 := congrArg Int32.toInt hq9_v5
      refine lv_iload_n hx hb dX11_ease_8 rfl (lv_at hl 0 rfl) ?_
      refine lv_aload_n hx hb dX11_ease_9 rfl (lv_at hl 2 rfl) ?_
      refine va_get (D := (dC, dI)) (ci := 11) (v := .int (v5 24)) (C := RX11) (T := TX11) (N := 79) hx hb hts inB_11 hown hE.1 hP 0 rfl rfl 48 (by decide) (hts _ k_1368) (fun _ h9 => h9) rfl dX11_ease_10 ?_
      refine tI (y := (v 24)) hq24_v5 ?_
      have b24_v : 0 ≤ (v 24).toInt ∧ (v 24).toInt ≤ 6 := YIb.b hIv.1 24 (by decide)
      refine lv_icmp_ge (tgt := 32) hx hb dX11_ease_13 (by decide) (fun c6 => ?_) (fun c6 => ?_)
      · skip
        have zc6 : (v 24).toInt ≤ l2_5.toInt := by rw [fa_le] at c6; exact c6
        have rg7 := fb_rng l2_5
        have rg8 := fb_rng (v 24)
        refine lv_iload_n hx hb dX11_ease_32 rfl (lv_at hl 1 rfl) ?_
        exact ret l1_5 (v5, f5, w5, g5) _ _ _ _ _ _ rfl ⟨hM_v5, hA_f5, hIv5, hCf5, hRf5, hq0_v5, hq1_v5, hq2_v5, hq3_v5, hq4_v5, hq5_v5, hq8_v5, hq9_v5, hq10_v5, hq13_v5, hq14_v5, hq15_v5, hq17_v5, hq18_v5, hq24_v5, hq25_v5, hq35_v5, hq36_v5, hq38_v5, hq39_v5⟩ hP hD hS dX11_ease_33 (Nat.le_refl _) (Nat.le_refl _)
      · skip
        have zc6 : ¬ ((v 24).toInt ≤ l2_5.toInt) := by rw [fa_le] at c6; exact c6
        have rg9 := fb_rng l2_5
        have rg10 := fb_rng (v 24)
        refine lv_iload_n hx hb dX11_ease_16 rfl (lv_at hl 1 rfl) ?_
        refine lv_aload_n hx hb dX11_ease_17 rfl (lv_at hl 2 rfl) ?_
        refine lv_iload_n hx hb dX11_ease_18 rfl (lv_at hl 0 rfl) ?_
        refine cbVi (n := 1) (rest := [.int l1_5]) hx hb hml hown hts hE hP hD hS hA (sY_X11_ownIll_1 l dC dI cy y0 r l2_5 v5 f5 w5 g5 hIv5 hCf5 hRf5 ⟨show (0 : Int) ≤ l2_5.toInt by omega, show l2_5.toInt ≤ (5 : Int) by omega⟩) k_1984 k_1986 k_96 k_114 k_1987 (by decide +kernel) ⟨Nat.le_of_ble_eq_true rfl, Nat.le_of_ble_eq_true rfl⟩ 0 11 rfl rfl (rfl) hl.1 rfl (Nat.le_of_ble_eq_true rfl) dX11_ease_19 (fun r11 u H locs hw hP hD hS => ?_)
        obtain ⟨v12, f13, w14, g15⟩ := u
        obtain ⟨kV_v12, kF_f13, hIv12, hCf13, hRf13, hk0_v12, hk1_v12, hk2_v12, hk3_v12, hk4_v12, hk5_v12, hk8_v12, hk9_v12, hk10_v12, hk13_v12, hk14_v12, hk15_v12, hk17_v12, hk18_v12, hk24_v12, hk25_v12, hk35_v12, hk36_v12, hk38_v12, hk39_v12⟩ := hw
        have hM_v12 : KV [] v12 v := KV.tr kV_v12 hM_v5 rfl
        have hA_f13 : KF [7, 8, 24] f13 f := KF.tr kF_f13 hA_f5 rfl
        have hP : va_P (dC, dI) vwCl (YW cy y0 r v12 f13 w14 g15) H := hP
        have hD : va_D A (YW cy y0 r v12 f13 w14 g15) := hD
        have hUv12 : (v12 35).toInt + (v12 36).toInt ≤ 40 := hIv12.2
        have hq0_v12 : v12 0 = (v 0) := hk0_v12.trans hq0_v5
        have hq1_v12 : v12 1 = (v 1) := hk1_v12.trans hq1_v5
        have hq2_v12 : v12 2 = (v 2) := hk2_v12.trans hq2_v5
        have hq3_v12 : v12 3 = (v 3) := hk3_v12.trans hq3_v5
        have hq4_v12 : v12 4 = (v 4) := hk4_v12.trans hq4_v5
        have hq5_v12 : v12 5 = (v 5) := hk5_v12.trans hq5_v5
        have hq8_v12 : v12 8 = (v 8) := hk8_v12.trans hq8_v5
        have hq9_v12 : v12 9 = (v 9) := hk9_v12.trans hq9_v5
        have zq9_v12 := congrArg Int32.toInt hq9_v12
        have hq10_v12 : v12 10 = (v 10) := hk10_v12.trans hq10_v5
        have hq13_v12 : v12 13 = (v 13) := hk13_v12.trans hq13_v5
        have hq14_v12 : v12 14 = (v 14) := hk14_v12.trans hq14_v5
        have hq15_v12 : v12 15 = (v 15) := hk15_v12.trans hq15_v5
        have hq17_v12 : v12 17 = (v 17) := hk17_v12.trans hq17_v5
        have hq18_v12 : v12 18 = (v 18) := hk18_v12.trans hq18_v5
        have hq24_v12 : v12 24 = (v 24) := hk24_v12.trans hq24_v5
        have hq25_v12 : v12 25 = (v 25) := hk25_v12.trans hq25_v5
        have hq35_v12 : v12 35 = (v 35) := hk35_v12.trans hq35_v5
        have hq36_v12 : v12 36 = (v 36) := hk36_v12.trans hq36_v5
        have hq38_v12 : v12 38 = (v 38) := hk38_v12.trans hq38_v5
        have hq39_v12 : v12 39 = (v 39) := hk39_v12.trans hq39_v5
        refine cbSi (n := 2) (rest := []) hx hb hml hown hts hE hP hD hS hA (sY_X11_greater_1 l dC dI cy y0 r l1_5 r11 v12 f13 w14 g15 hIv12 hCf13 hRf13 ) k_1802 k_1803 k_114 k_1804 (by decide +kernel) ⟨Nat.le_of_ble_eq_true rfl, Nat.le_of_ble_eq_true rfl⟩ (rfl) hl.1 rfl (Nat.le_of_ble_eq_true rfl) dX11_ease_22 (fun r16 u H locs hw hP hD hS => ?_)
        refine lv_istore_n (lv' := [(1, .int r16), (2, .int l2_5), (0, .ref y0)]) hx hb dX11_ease_25 rfl hl (by decide) rfl (fun ls hl => ?_)
        obtain ⟨t17, et17⟩ : ∃ y : Int32, y = l2_5 + 1 := ⟨_, rfl⟩
        have zt17 : t17.toInt = l2_5.toInt + 1 := by rw [et17]; exact add_i rfl (by decide) (by omega) (by omega)
        refine lv_iinc (v := t17) (lv' := [(2, .int t17), (1, .int r16), (0, .ref y0)]) hx hb dX11_ease_26 hl (k := 1) rfl (by rw [et17]; rfl) (by decide) rfl (fun ls hl => ?_)
        refine lv_goto (tgt := 8) hx hb dX11_ease_29 (by decide) ?_
        have rg18 := fb_rng t17
        exact ih5 r16 t17 v12 f13 w14 g15 hIv12 hCf13 hRf13 hq0_v12 hq1_v12 hq2_v12 hq3_v12 hq4_v12 hq5_v12 hq8_v12 hq9_v12 hq10_v12 hq13_v12 hq14_v12 hq15_v12 hq17_v12 hq18_v12 hq24_v12 hq25_v12 hq35_v12 hq36_v12 hq38_v12 hq39_v12 ⟨show (0 : Int) ≤ t17.toInt by omega, show t17.toInt ≤ (2147483647 : Int) by omega⟩ hM_v12 hA_f13 (by show (2147483647 - t17.toInt).toNat < n5; omega) _ _ _ hP hD hS (lv_sub hl [0, 1, 2] rfl)
  exact lp5 _ 0 0 v1 f2 w3 g4 hIv1 hCf2 hRf2 hq0_v1 hq1_v1 hq2_v1 hq3_v1 hq4_v1 hq5_v1 hq8_v1 hq9_v1 hq10_v1 hq13_v1 hq14_v1 hq15_v1 hq17_v1 hq18_v1 hq24_v1 hq25_v1 hq35_v1 hq36_v1 hq38_v1 hq39_v1 ⟨by decide, by decide⟩ hM_v1 hA_f2 (Nat.lt_succ_self _) _ _ _ hP hD hS (lv_sub hl [0, 1, 2] rfl)
set_option maxHeartbeats 4000000 in
set_option maxRecDepth 100000 in
theorem sY_X11_breadth_1 (l : Launch) (dC : Nat → ClassId) (dI : Nat → Nat → Nat) (cy : Nat → ClassId) (y0 : Nat) (r : Nat → Nat)  (v : Nat → Int32) (f : Nat → Nat → Int32) (w : Int64) (g : Nat → Int64) (hIv : YI v) (hCf : YC f) (hRf : progOK (f 4) (f 5) (v 9).toInt.toNat)  : ctI l (dC, dI) cy yX11_breadth cX11_breadth 1 .int 3 102 0 0 ((Nat → Int32) × (Nat → Nat → Int32) × (Int64) × (Nat → Int64)) [.ref y0] (YW cy y0 r v f w g) (fun r u => KV [] u.1 v ∧ KF [24] u.2.1 f ∧ YI u.1 ∧ YC u.2.1 ∧ progOK (u.2.1 4) (u.2.1 5) (u.1 9).toInt.toNat ∧ u.1 0 = v 0 ∧ u.1 1 = v 1 ∧ u.1 2 = v 2 ∧ u.1 3 = v 3 ∧ u.1 4 = v 4 ∧ u.1 5 = v 5 ∧ u.1 8 = v 8 ∧ u.1 9 = v 9 ∧ u.1 10 = v 10 ∧ u.1 13 = v 13 ∧ u.1 14 = v 14 ∧ u.1 15 = v 15 ∧ u.1 17 = v 17 ∧ u.1 18 = v 18 ∧ u.1 24 = v 24 ∧ u.1 25 = v 25 ∧ u.1 35 = v 35 ∧ u.1 36 = v 36 ∧ u.1 38 = v 38 ∧ u.1 39 = v 39) (fun u => YW cy y0 r u.1 u.2.1 u.2.2.1 u.2.2.2) := by
  refine ctI_of (by decide) (Nat.le_of_ble_eq_true rfl) (fun p e s m below meth c A ls Q hx hb hml hts hown hE hP hD hA hl ret => ?_)
  have hUv : (v 35).toInt + (v 36).toInt ≤ 40 := hIv.2
  have hM_v : KV [] v v := fun _ _ => rfl
  have hA_f : KF [24] f f := fun _ _ => rfl
  have hown : s.vm.findClass RX11 = some m.cls := hown
  have hS : va_S A s.heap s.heap [] := va_S.rf
  have hl : lv_has ls 1 [(0, .ref y0)] := hl
  refine lv_aload_n hx hb dX11_breadth_0 rfl (lv_at hl 0 rfl) ?_
  refine cbVv (n := 0) (rest := []) hx hb hml hown hts hE hP hD hS hA (sY_X11_fill_1 l dC dI cy y0 r  v f w g hIv hCf hRf ) k_1739 k_1741 k_71 k_114 k_1742 (by decide +kernel) ⟨Nat.le_of_ble_eq_true rfl, Nat.le_of_ble_eq_true rfl⟩ 0 11 rfl rfl (rfl) hl.1 rfl (Nat.le_of_ble_eq_true rfl) dX11_breadth_1 (fun u H locs hw hP hD hS => ?_)
  obtain ⟨v1, f2, w3, g4⟩ := u
  obtain ⟨kV_v1, kF_f2, hIv1, hCf2, hRf2, hk0_v1, hk1_v1, hk2_v1, hk3_v1, hk4_v1, hk5_v1, hk8_v1, hk9_v1, hk10_v1, hk13_v1, hk14_v1, hk15_v1, hk17_v1, hk18_v1, hk24_v1, hk25_v1, hk35_v1, hk36_v1, hk38_v1, hk39_v1⟩ := hw
  have hM_v1 : KV [] v1 v := KV.tr kV_v1 hM_v rfl
  have hA_f2 : KF [24] f2 f := KF.tr kF_f2 hA_f rfl
  have hP : va_P (dC, dI) vwCl (YW cy y0 r v1 f2 w3 g4) H := hP
  have hD : va_D A (YW cy y0 r v1 f2 w3 g4) := hD
  have hUv1 : (v1 35).toInt + (v1 36).toInt ≤ 40 := hIv1.2
  have hq9_v1 : v1 9 = (v 9) := hk9_v1
  have zq9_v1 := congrArg Int32.toInt hq9_v1
  refine lv_aload_n hx hb dX11_breadth_4 rfl (lv_at hl 0 rfl) ?_
  refine lv_aload_n hx hb dX11_breadth_5 rfl (lv_at hl 0 rfl) ?_
  refine cbVi (n := 0) (rest := [.ref y0]) hx hb hml hown hts hE hP hD hS hA (sY_X11_wearers_1 l dC dI cy y0 r  v1 f2 w3 g4 hIv1 hCf2 hRf2 ) k_1805 k_1807 k_80 k_114 k_1808 (by decide +kernel) ⟨Nat.le_of_ble_eq_true rfl, Nat.le_of_ble_eq_true rfl⟩ 0 11 rfl rfl (rfl) hl.1 rfl (Nat.le_of_ble_eq_true rfl) dX11_breadth_6 (fun r5 u H locs hw hP hD hS => ?_)
  refine cbVi (n := 1) (rest := []) hx hb hml hown hts hE hP hD hS hA (sY_X11_wideOf_1 l dC dI cy y0 r r5 v1 f2 w3 g4 hIv1 hCf2 hRf2 ) k_1912 k_1914 k_88 k_114 k_1915 (by decide +kernel) ⟨Nat.le_of_ble_eq_true rfl, Nat.le_of_ble_eq_true rfl⟩ 0 11 rfl rfl (rfl) hl.1 rfl (Nat.le_of_ble_eq_true rfl) dX11_breadth_9 (fun r6 u H locs hw hP hD hS => ?_)
  exact ret r6 (v1, f2, w3, g4) _ _ _ _ _ _ rfl ⟨hM_v1, hA_f2, hIv1, hCf2, hRf2, hk0_v1, hk1_v1, hk2_v1, hk3_v1, hk4_v1, hk5_v1, hk8_v1, hk9_v1, hk10_v1, hk13_v1, hk14_v1, hk15_v1, hk17_v1, hk18_v1, hk24_v1, hk25_v1, hk35_v1, hk36_v1, hk38_v1, hk39_v1⟩ hP hD hS dX11_breadth_12 (Nat.le_refl _) (Nat.le_refl _)
set_option maxHeartbeats 4000000 in
set_option maxRecDepth 100000 in
theorem sY_X11_rout_1 (l : Launch) (dC : Nat → ClassId) (dI : Nat → Nat → Nat) (cy : Nat → ClassId) (y0 : Nat) (r : Nat → Nat)  (v : Nat → Int32) (f : Nat → Nat → Int32) (w : Int64) (g : Nat → Int64) (hIv : YI v) (hCf : YC f) (hRf : progOK (f 4) (f 5) (v 9).toInt.toNat)  : ctI l (dC, dI) cy yX11_rout cX11_rout 2 .int 8 214 0 0 ((Nat → Int32) × (Nat → Nat → Int32) × (Int64) × (Nat → Int64)) [.ref y0] (YW cy y0 r v f w g) (fun r u => KV [] u.1 v ∧ KF [7, 8, 24] u.2.1 f ∧ YI u.1 ∧ YC u.2.1 ∧ progOK (u.2.1 4) (u.2.1 5) (u.1 9).toInt.toNat ∧ u.1 0 = v 0 ∧ u.1 1 = v 1 ∧ u.1 2 = v 2 ∧ u.1 3 = v 3 ∧ u.1 4 = v 4 ∧ u.1 5 = v 5 ∧ u.1 8 = v 8 ∧ u.1 9 = v 9 ∧ u.1 10 = v 10 ∧ u.1 13 = v 13 ∧ u.1 14 = v 14 ∧ u.1 15 = v 15 ∧ u.1 17 = v 17 ∧ u.1 18 = v 18 ∧ u.1 24 = v 24 ∧ u.1 25 = v 25 ∧ u.1 35 = v 35 ∧ u.1 36 = v 36 ∧ u.1 38 = v 38 ∧ u.1 39 = v 39) (fun u => YW cy y0 r u.1 u.2.1 u.2.2.1 u.2.2.2) := by
  refine ctI_of (by decide) (Nat.le_of_ble_eq_true rfl) (fun p e s m below meth c A ls Q hx hb hml hts hown hE hP hD hA hl ret => ?_)
  have hUv : (v 35).toInt + (v 36).toInt ≤ 40 := hIv.2
  have hM_v : KV [] v v := fun _ _ => rfl
  have hA_f : KF [7, 8, 24] f f := fun _ _ => rfl
  have hown : s.vm.findClass RX11 = some m.cls := hown
  have hS : va_S A s.heap s.heap [] := va_S.rf
  have hl : lv_has ls 2 [(0, .ref y0)] := hl
  refine lv_aload_n hx hb dX11_rout_0 rfl (lv_at hl 0 rfl) ?_
  refine cbVv (n := 0) (rest := []) hx hb hml hown hts hE hP hD hS hA (sY_X11_fill_1 l dC dI cy y0 r  v f w g hIv hCf hRf ) k_1739 k_1741 k_71 k_114 k_1742 (by decide +kernel) ⟨Nat.le_of_ble_eq_true rfl, Nat.le_of_ble_eq_true rfl⟩ 0 11 rfl rfl (rfl) hl.1 rfl (Nat.le_of_ble_eq_true rfl) dX11_rout_1 (fun u H locs hw hP hD hS => ?_)
  obtain ⟨v1, f2, w3, g4⟩ := u
  obtain ⟨kV_v1, kF_f2, hIv1, hCf2, hRf2, hk0_v1, hk1_v1, hk2_v1, hk3_v1, hk4_v1, hk5_v1, hk8_v1, hk9_v1, hk10_v1, hk13_v1, hk14_v1, hk15_v1, hk17_v1, hk18_v1, hk24_v1, hk25_v1, hk35_v1, hk36_v1, hk38_v1, hk39_v1⟩ := hw
  have hM_v1 : KV [] v1 v := KV.tr kV_v1 hM_v rfl
  have hA_f2 : KF [7, 8, 24] f2 f := KF.tr kF_f2 hA_f rfl
  have hP : va_P (dC, dI) vwCl (YW cy y0 r v1 f2 w3 g4) H := hP
  have hD : va_D A (YW cy y0 r v1 f2 w3 g4) := hD
  have hUv1 : (v1 35).toInt + (v1 36).toInt ≤ 40 := hIv1.2
  have hq0_v1 : v1 0 = (v 0) := hk0_v1
  have hq1_v1 : v1 1 = (v 1) := hk1_v1
  have hq2_v1 : v1 2 = (v 2) := hk2_v1
  have hq3_v1 : v1 3 = (v 3) := hk3_v1
  have hq4_v1 : v1 4 = (v 4) := hk4_v1
  have hq5_v1 : v1 5 = (v 5) := hk5_v1
  have hq8_v1 : v1 8 = (v 8) := hk8_v1
  have hq9_v1 : v1 9 = (v 9) := hk9_v1
  have zq9_v1 := congrArg Int32.toInt hq9_v1
  have hq10_v1 : v1 10 = (v 10) := hk10_v1
  have hq13_v1 : v1 13 = (v 13) := hk13_v1
  have hq14_v1 : v1 14 = (v 14) := hk14_v1
  have hq15_v1 : v1 15 = (v 15) := hk15_v1
  have hq17_v1 : v1 17 = (v 17) := hk17_v1
  have hq18_v1 : v1 18 = (v 18) := hk18_v1
  have hq24_v1 : v1 24 = (v 24) := hk24_v1
  have hq25_v1 : v1 25 = (v 25) := hk25_v1
  have hq35_v1 : v1 35 = (v 35) := hk35_v1
  have hq36_v1 : v1 36 = (v 36) := hk36_v1
  have hq38_v1 : v1 38 = (v 38) := hk38_v1
  have hq39_v1 : v1 39 = (v 39) := hk39_v1
  refine lv_iconst (v := 0) hx hb dX11_rout_4 (by decide) ?_
  refine lv_istore_n (lv' := [(1, .int 0), (0, .ref y0)]) hx hb dX11_rout_5 rfl hl (by decide) rfl (fun ls hl => ?_)
  have lp5 : ∀ (n5 : Nat) (l1_5 : Int32) (v5 : Nat → Int32) (f5 : Nat → Nat → Int32) (w5 : Int64) (g5 : Nat → Int64), YI v5 → YC f5 → progOK (f5 4) (f5 5) (v5 9).toInt.toNat → v5 0 = (v 0) → v5 1 = (v 1) → v5 2 = (v 2) → v5 3 = (v 3) → v5 4 = (v 4) → v5 5 = (v 5) → v5 8 = (v 8) → v5 9 = (v 9) → v5 10 = (v 10) → v5 13 = (v 13) → v5 14 = (v 14) → v5 15 = (v 15) → v5 17 = (v 17) → v5 18 = (v 18) → v5 24 = (v 24) → v5 25 = (v 25) → v5 35 = (v 35) → v5 36 = (v 36) → v5 38 = (v 38) → v5 39 = (v 39) → ((0 : Int) ≤ l1_5.toInt ∧ l1_5.toInt ≤ 2147483647) → KV [] v5 v → KF [7, 8, 24] f5 f → (2147483647 - l1_5.toInt).toNat < n5 → ∀ (H : Heap) (locs : List Loc) (ls : Array Slot), va_P (dC, dI) vwCl (YW cy y0 r v5 f5 w5 g5) H → va_D A (YW cy y0 r v5 f5 w5 g5) → va_S A s.heap H locs → lv_has ls 2 [(1, .int l1_5), (0, .ref y0)] → W p l e { frames := 8, cells := 0, slots := 0, locals := 214 } s m ([.ref y0] : List Value).toArray below meth c H locs 0 0 Q (F0 m 6 ls []) := by
    intro n5
    induction n5 with
    | zero => intro l1_5 v5 f5 w5 g5 hIv5 hCf5 hRf5 hq0_v5 hq1_v5 hq2_v5 hq3_v5 hq4_v5 hq5_v5 hq8_v5 hq9_v5 hq10_v5 hq13_v5 hq14_v5 hq15_v5 hq17_v5 hq18_v5 hq24_v5 hq25_v5 hq35_v5 hq36_v5 hq38_v5 hq39_v5 hr1_5 hM_v5 hA_f5 hm; exact absurd hm (Nat.not_lt_zero _)
    | succ n5 ih5 =>
      intro l1_5 v5 f5 w5 g5 hIv5 hCf5 hRf5 hq0_v5 hq1_v5 hq2_v5 hq3_v5 hq4_v5 hq5_v5 hq8_v5 hq9_v5 hq10_v5 hq13_v5 hq14_v5 hq15_v5 hq17_v5 hq18_v5 hq24_v5 hq25_v5 hq35_v5 hq36_v5 hq38_v5 hq39_v5 hr1_5 hM_v5 hA_f5 hm5 H locs ls hP hD hS hl
      have hUv5 : (v5 35).toInt + (v5 36).toInt ≤ 40 := hIv5.2
      have zq9_v5 := congrArg Int32.toInt hq9_v5
      refine lv_iload_n hx hb dX11_rout_6 rfl (lv_at hl 0 rfl) ?_
      refine lv_bipush (v := 60) hx hb dX11_rout_7 (by decide) ?_
      refine lv_icmp_gt (tgt := 33) hx hb dX11_rout_9 (by decide) (fun c6 => ?_) (fun c6 => ?_)
      · skip
        have zc6 : 60 < l1_5.toInt := by rw [fa_lt, show (60 : Int32).toInt = 60 from by decide] at c6; exact c6
        refine lv_iconst (v := (-1)) hx hb dX11_rout_33 (by decide) ?_
        exact ret (-1) (v5, f5, w5, g5) _ _ _ _ _ _ rfl ⟨hM_v5, hA_f5, hIv5, hCf5, hRf5, hq0_v5, hq1_v5, hq2_v5, hq3_v5, hq4_v5, hq5_v5, hq8_v5, hq9_v5, hq10_v5, hq13_v5, hq14_v5, hq15_v5, hq17_v5, hq18_v5, hq24_v5, hq25_v5, hq35_v5, hq36_v5, hq38_v5, hq39_v5⟩ hP hD hS dX11_rout_34 (Nat.le_refl _) (Nat.le_refl _)
      · skip
        have zc6 : ¬ (60 < l1_5.toInt) := by rw [fa_lt, show (60 : Int32).toInt = 60 from by decide] at c6; exact c6
        refine lv_aload_n hx hb dX11_rout_12 rfl (lv_at hl 1 rfl) ?_
        refine cbVi (n := 0) (rest := []) hx hb hml hown hts hE hP hD hS hA (sY_X11_wearers_1 l dC dI cy y0 r  v5 f5 w5 g5 hIv5 hCf5 hRf5 ) k_1805 k_1807 k_80 k_114 k_1808 (by decide +kernel) ⟨Nat.le_of_ble_eq_true rfl, Nat.le_of_ble_eq_true rfl⟩ 0 11 rfl rfl (rfl) hl.1 rfl (Nat.le_of_ble_eq_true rfl) dX11_rout_13 (fun r7 u H locs hw hP hD hS => ?_)
        refine lv_if_ne (tgt := 21) hx hb dX11_rout_16 (by decide) (fun c8 => ?_) (fun c8 => ?_)
        · skip
          have zc8 : ¬ (r7.toInt = 0) := by rw [fa_eq, show (0 : Int32).toInt = 0 from by decide] at c8; exact c8
          refine lv_aload_n hx hb dX11_rout_21 rfl (lv_at hl 1 rfl) ?_
          refine lv_iconst (v := 0) hx hb dX11_rout_22 (by decide) ?_
          refine cbVi (n := 1) (rest := []) hx hb hml hown hts hE hP hD hS hA (sY_X11_goDay_1 l dC dI cy y0 r 0 v5 f5 w5 g5 hIv5 hCf5 hRf5 ) k_1795 k_1797 k_79 k_114 k_1798 (by decide +kernel) ⟨Nat.le_of_ble_eq_true rfl, Nat.le_of_ble_eq_true rfl⟩ 0 11 rfl rfl (rfl) hl.1 rfl (Nat.le_of_ble_eq_true rfl) dX11_rout_23 (fun r9 u H locs hw hP hD hS => ?_)
          obtain ⟨v10, f11, w12, g13⟩ := u
          obtain ⟨kV_v10, kF_f11, hIv10, hCf11, hRf11, hk0_v10, hk1_v10, hk2_v10, hk3_v10, hk4_v10, hk5_v10, hk8_v10, hk9_v10, hk10_v10, hk13_v10, hk14_v10, hk15_v10, hk17_v10, hk18_v10, hk24_v10, hk25_v10, hk35_v10, hk36_v10, hk38_v10, hk39_v10⟩ := hw
          have hM_v10 : KV [] v10 v := KV.tr kV_v10 hM_v5 rfl
          have hA_f11 : KF [7, 8, 24] f11 f := KF.tr kF_f11 hA_f5 rfl
          have hP : va_P (dC, dI) vwCl (YW cy y0 r v10 f11 w12 g13) H := hP
          have hD : va_D A (YW cy y0 r v10 f11 w12 g13) := hD
          have hUv10 : (v10 35).toInt + (v10 36).toInt ≤ 40 := hIv10.2
          have hq0_v10 : v10 0 = (v 0) := hk0_v10.trans hq0_v5
          have hq1_v10 : v10 1 = (v 1) := hk1_v10.trans hq1_v5
          have hq2_v10 : v10 2 = (v 2) := hk2_v10.trans hq2_v5
          have hq3_v10 : v10 3 = (v 3) := hk3_v10.trans hq3_v5
          have hq4_v10 : v10 4 = (v 4) := hk4_v10.trans hq4_v5
          have hq5_v10 : v10 5 = (v 5) := hk5_v10.trans hq5_v5
          have hq8_v10 : v10 8 = (v 8) := hk8_v10.trans hq8_v5
          have hq9_v10 : v10 9 = (v 9) := hk9_v10.trans hq9_v5
          have zq9_v10 := congrArg Int32.toInt hq9_v10
          have hq10_v10 : v10 10 = (v 10) := hk10_v10.trans hq10_v5
          have hq13_v10 : v10 13 = (v 13) := hk13_v10.trans hq13_v5
          have hq14_v10 : v10 14 = (v 14) := hk14_v10.trans hq14_v5
          have hq15_v10 : v10 15 = (v 15) := hk15_v10.trans hq15_v5
          have hq17_v10 : v10 17 = (v 17) := hk17_v10.trans hq17_v5
          have hq18_v10 : v10 18 = (v 18) := hk18_v10.trans hq18_v5
          have hq24_v10 : v10 24 = (v 24) := hk24_v10.trans hq24_v5
          have hq25_v10 : v10 25 = (v 25) := hk25_v10.trans hq25_v5
          have hq35_v10 : v10 35 = (v 35) := hk35_v10.trans hq35_v5
          have hq36_v10 : v10 36 = (v 36) := hk36_v10.trans hq36_v5
          have hq38_v10 : v10 38 = (v 38) := hk38_v10.trans hq38_v5
          have hq39_v10 : v10 39 = (v 39) := hk39_v10.trans hq39_v5
          refine lv_pop hx hb dX11_rout_26 rfl ?_
          obtain ⟨t14, et14⟩ : ∃ y : Int32, y = l1_5 + 1 := ⟨_, rfl⟩
          have rg15 := fb_rng l1_5
          have zt14 : t14.toInt = l1_5.toInt + 1 := by rw [et14]; exact add_i rfl (by decide) (by omega) (by omega)
          refine lv_iinc (v := t14) (lv' := [(1, .int t14), (0, .ref y0)]) hx hb dX11_rout_27 hl (k := 0) rfl (by rw [et14]; rfl) (by decide) rfl (fun ls hl => ?_)
          refine lv_goto (tgt := 6) hx hb dX11_rout_30 (by decide) ?_
          have rg16 := fb_rng t14
          exact ih5 t14 v10 f11 w12 g13 hIv10 hCf11 hRf11 hq0_v10 hq1_v10 hq2_v10 hq3_v10 hq4_v10 hq5_v10 hq8_v10 hq9_v10 hq10_v10 hq13_v10 hq14_v10 hq15_v10 hq17_v10 hq18_v10 hq24_v10 hq25_v10 hq35_v10 hq36_v10 hq38_v10 hq39_v10 ⟨show (0 : Int) ≤ t14.toInt by omega, show t14.toInt ≤ (2147483647 : Int) by omega⟩ hM_v10 hA_f11 (by show (2147483647 - t14.toInt).toNat < n5; omega) _ _ _ hP hD hS (lv_sub hl [0, 1] rfl)
        · skip
          have zc8 : r7.toInt = 0 := by rw [fa_eq, show (0 : Int32).toInt = 0 from by decide] at c8; exact c8
          refine lv_iload_n hx hb dX11_rout_19 rfl (lv_at hl 0 rfl) ?_
          exact ret l1_5 (v5, f5, w5, g5) _ _ _ _ _ _ rfl ⟨hM_v5, hA_f5, hIv5, hCf5, hRf5, hq0_v5, hq1_v5, hq2_v5, hq3_v5, hq4_v5, hq5_v5, hq8_v5, hq9_v5, hq10_v5, hq13_v5, hq14_v5, hq15_v5, hq17_v5, hq18_v5, hq24_v5, hq25_v5, hq35_v5, hq36_v5, hq38_v5, hq39_v5⟩ hP hD hS dX11_rout_20 (Nat.le_refl _) (Nat.le_refl _)
  exact lp5 _ 0 v1 f2 w3 g4 hIv1 hCf2 hRf2 hq0_v1 hq1_v1 hq2_v1 hq3_v1 hq4_v1 hq5_v1 hq8_v1 hq9_v1 hq10_v1 hq13_v1 hq14_v1 hq15_v1 hq17_v1 hq18_v1 hq24_v1 hq25_v1 hq35_v1 hq36_v1 hq38_v1 hq39_v1 ⟨by decide, by decide⟩ hM_v1 hA_f2 (Nat.lt_succ_self _) _ _ _ hP hD hS (lv_sub hl [0, 1] rfl)
set_option maxHeartbeats 4000000 in
set_option maxRecDepth 100000 in
theorem sY_X11_lies_1 (l : Launch) (dC : Nat → ClassId) (dI : Nat → Nat → Nat) (cy : Nat → ClassId) (y0 : Nat) (r : Nat → Nat) (p1 : Int32) (v : Nat → Int32) (f : Nat → Nat → Int32) (w : Int64) (g : Nat → Int64) (hIv : YI v) (hCf : YC f) (hRf : progOK (f 4) (f 5) (v 9).toInt.toNat)  : ctI l (dC, dI) cy yX11_lies cX11_lies 2 .int 2 82 0 0 Unit [.ref y0, .int p1] (YW cy y0 r v f w g) (fun r u => True) (fun u => YW cy y0 r v f w g) := by
  refine ctI_of (by decide) (Nat.le_of_ble_eq_true rfl) (fun p e s m below meth c A ls Q hx hb hml hts hown hE hP hD hA hl ret => ?_)
  have hUv : (v 35).toInt + (v 36).toInt ≤ 40 := hIv.2
  have hown : s.vm.findClass RX11 = some m.cls := hown
  have hS : va_S A s.heap s.heap [] := va_S.rf
  have hl : lv_has ls 2 [(0, .ref y0), (1, .int p1)] := hl
  refine lv_iload_n hx hb dX11_lies_0 rfl (lv_at hl 1 rfl) ?_
  refine lv_iconst (v := 0) hx hb dX11_lies_1 (by decide) ?_
  refine lv_aload_n hx hb dX11_lies_2 rfl (lv_at hl 0 rfl) ?_
  refine va_get (D := (dC, dI)) (ci := 11) (v := .int (v 37)) (C := RX11) (T := TX11) (N := 79) hx hb hts inB_11 hown hE.1 hP 0 rfl rfl 67 (by decide) (hts _ k_1387) (fun _ h9 => h9) rfl dX11_lies_3 ?_
  have b37_v : 0 ≤ (v 37).toInt ∧ (v 37).toInt ≤ 6 := YIb.b hIv.1 37 (by decide)
  refine lv_iconst (v := 1) hx hb dX11_lies_6 (by decide) ?_
  refine lv_isub hx hb dX11_lies_7 ?_
  refine lv_topi (fun t1 et1 => ?_)
  have rg2 := fb_rng (v 37)
  have zt1 : t1.toInt = (v 37).toInt - 1 := by rw [et1]; exact sub_i rfl (by decide) (by omega) (by omega)
  have lt3 : (0 : Int32).toInt = 0 := by decide
  refine cbSi (n := 3) (rest := []) hx hb hml hown hts hE hP hD hS hA (sY_X11_isIn_1 0 l dC dI cy y0 r p1 0 t1 v f w g hIv hCf hRf ) k_1736 k_1737 k_114 k_1738 (by decide +kernel) ⟨Nat.le_of_ble_eq_true rfl, Nat.le_of_ble_eq_true rfl⟩ (rfl) hl.1 rfl (Nat.le_of_ble_eq_true rfl) dX11_lies_8 (fun r4 u H locs hw hP hD hS => ?_)
  obtain ⟨hG5, hw⟩ := hw
  rcases hw with ⟨g6, g6_0, g6_1⟩ | ⟨g6⟩
  · skip
    subst g6
    refine lv_if_eq (tgt := 23) hx hb dX11_lies_11 (by decide) (fun c0 => absurd c0 (by decide)) (fun _ => ?_)
    refine lv_aload_n hx hb dX11_lies_14 rfl (lv_at hl 0 rfl) ?_
    refine va_get (D := (dC, dI)) (ci := 11) (v := .ref (r 64)) (C := RX11) (T := TX11) (N := 79) hx hb hts inB_11 hown hE.1 hP 0 rfl rfl 64 (by decide) (hts _ k_1384) (fun _ h9 => h9) rfl dX11_lies_15 ?_
    refine lv_iload_n hx hb dX11_lies_18 rfl (lv_at hl 1 rfl) ?_
    refine ldI hx hb hE hP 27 rfl (vp_in_iff.mpr ⟨by omega, by omega⟩) rfl rfl dX11_lies_19 ?_
    refine lv_topi (fun t7 et7 => ?_)
    refine lv_goto (tgt := 25) hx hb dX11_lies_20 (by decide) ?_
    exact ret t7 () _ _ _ _ _ _ rfl trivial hP hD hS dX11_lies_25 (Nat.le_refl _) (Nat.le_refl _)
  · skip
    subst g6
    refine lv_if_eq (tgt := 23) hx hb dX11_lies_11 (by decide) (fun _ => ?_) (fun c0 => absurd (by decide) c0)
    refine lv_bipush (v := (-2)) hx hb dX11_lies_23 (by decide) ?_
    exact ret (-2) () _ _ _ _ _ _ rfl trivial hP hD hS dX11_lies_25 (Nat.le_refl _) (Nat.le_refl _)
set_option maxHeartbeats 4000000 in
set_option maxRecDepth 100000 in
theorem sY_X11_fitsGrowth_1 (l : Launch) (dC : Nat → ClassId) (dI : Nat → Nat → Nat) (cy : Nat → ClassId) (y0 : Nat) (r : Nat → Nat) (p1 : Int32) (p2 : Int32) (v : Nat → Int32) (f : Nat → Nat → Int32) (w : Int64) (g : Nat → Int64) (hIv : YI v) (hCf : YC f) (hRf : progOK (f 4) (f 5) (v 9).toInt.toNat) (hp1 : (0 : Int) ≤ p1.toInt ∧ p1.toInt ≤ 30) : ctI l (dC, dI) cy yX11_fitsGrowth cX11_fitsGrowth 5 .boolean 1 60 0 0 Unit [.ref y0, .int p1, .int p2] (YW cy y0 r v f w g) (fun r u => ((r = 1) ∨ (r = 0))) (fun u => YW cy y0 r v f w g) := by
  refine ctI_of (by decide) (Nat.le_of_ble_eq_true rfl) (fun p e s m below meth c A ls Q hx hb hml hts hown hE hP hD hA hl ret => ?_)
  have hUv : (v 35).toInt + (v 36).toInt ≤ 40 := hIv.2
  have hown : s.vm.findClass RX11 = some m.cls := hown
  have hS : va_S A s.heap s.heap [] := va_S.rf
  have hl : lv_has ls 5 [(0, .ref y0), (1, .int p1), (2, .int p2)] := hl
  refine lv_iconst (v := 1) hx hb dX11_fitsGrowth_0 (by decide) ?_
  refine lv_istore_n (lv' := [(3, .int 1), (0, .ref y0), (1, .int p1), (2, .int p2)]) hx hb dX11_fitsGrowth_1 rfl hl (by decide) rfl (fun ls hl => ?_)
  refine lv_iconst (v := 0) hx hb dX11_fitsGrowth_2 (by decide) ?_
  refine lv_istore (lv' := [(4, .int 0), (3, .int 1), (0, .ref y0), (1, .int p1), (2, .int p2)]) hx hb dX11_fitsGrowth_3 hl (by decide) rfl (fun ls hl => ?_)
  have lp1 : ∀ (n1 : Nat) (l3_1 : Int32) (l4_1 : Int32), ((0 : Int) ≤ l3_1.toInt ∧ l3_1.toInt ≤ 1) → ((0 : Int) ≤ l4_1.toInt ∧ l4_1.toInt ≤ 2147483647) → (2147483647 - l4_1.toInt).toNat < n1 → ∀ (H : Heap) (locs : List Loc) (ls : Array Slot), va_P (dC, dI) vwCl (YW cy y0 r v f w g) H → va_D A (YW cy y0 r v f w g) → va_S A s.heap H locs → lv_has ls 5 [(4, .int l4_1), (3, .int l3_1), (0, .ref y0), (1, .int p1), (2, .int p2)] → W p l e { frames := 1, cells := 0, slots := 0, locals := 60 } s m ([.ref y0, .int p1, .int p2] : List Value).toArray below meth c H locs 0 0 Q (F0 m 5 ls []) := by
    intro n1
    induction n1 with
    | zero => intro l3_1 l4_1 hr3_1 hr4_1 hm; exact absurd hm (Nat.not_lt_zero _)
    | succ n1 ih1 =>
      intro l3_1 l4_1 hr3_1 hr4_1 hm1 H locs ls hP hD hS hl
      refine lv_iload hx hb dX11_fitsGrowth_5 (lv_at hl 0 rfl) ?_
      refine lv_aload_n hx hb dX11_fitsGrowth_7 rfl (lv_at hl 2 rfl) ?_
      refine va_get (D := (dC, dI)) (ci := 11) (v := .int (v 38)) (C := RX11) (T := TX11) (N := 79) hx hb hts inB_11 hown hE.1 hP 0 rfl rfl 73 (by decide) (hts _ k_1393) (fun _ h9 => h9) rfl dX11_fitsGrowth_8 ?_
      have b38_v : 0 ≤ (v 38).toInt ∧ (v 38).toInt ≤ 30 := YIb.b hIv.1 38 (by decide)
      refine lv_icmp_ge (tgt := 92) hx hb dX11_fitsGrowth_11 (by decide) (fun c2 => ?_) (fun c2 => ?_)
      · skip
        have zc2 : (v 38).toInt ≤ l4_1.toInt := by rw [fa_le] at c2; exact c2
        have rg3 := fb_rng l4_1
        have rg4 := fb_rng (v 38)
        refine lv_iload_n hx hb dX11_fitsGrowth_92 rfl (lv_at hl 1 rfl) ?_
        rcases b01 (x := l3_1) (by omega) (by omega) with h5 | h5
        · skip
          refine tI (y := 1) h5 ?_
          exact ret 1 () _ _ _ _ _ _ rfl (Or.inl rfl) hP hD hS dX11_fitsGrowth_93 (Nat.le_refl _) (Nat.le_refl _)
        · skip
          refine tI (y := 0) h5 ?_
          exact ret 0 () _ _ _ _ _ _ rfl (Or.inr rfl) hP hD hS dX11_fitsGrowth_93 (Nat.le_refl _) (Nat.le_refl _)
      · skip
        have zc2 : ¬ ((v 38).toInt ≤ l4_1.toInt) := by rw [fa_le] at c2; exact c2
        have rg6 := fb_rng l4_1
        have rg7 := fb_rng (v 38)
        refine lv_iload_n hx hb dX11_fitsGrowth_14 rfl (lv_at hl 1 rfl) ?_
        refine lv_if_eq (tgt := 92) hx hb dX11_fitsGrowth_15 (by decide) (fun c8 => ?_) (fun c8 => ?_)
        · skip
          have zc8 : l3_1.toInt = 0 := by rw [fa_eq, show (0 : Int32).toInt = 0 from by decide] at c8; exact c8
          refine lv_iload_n hx hb dX11_fitsGrowth_92 rfl (lv_at hl 1 rfl) ?_
          rcases b01 (x := l3_1) (by omega) (by omega) with h9 | h9
          · skip
            refine tI (y := 1) h9 ?_
            exact ret 1 () _ _ _ _ _ _ rfl (Or.inl rfl) hP hD hS dX11_fitsGrowth_93 (Nat.le_refl _) (Nat.le_refl _)
          · skip
            refine tI (y := 0) h9 ?_
            exact ret 0 () _ _ _ _ _ _ rfl (Or.inr rfl) hP hD hS dX11_fitsGrowth_93 (Nat.le_refl _) (Nat.le_refl _)
        · skip
          have zc8 : ¬ (l3_1.toInt = 0) := by rw [fa_eq, show (0 : Int32).toInt = 0 from by decide] at c8; exact c8
          refine lv_aload_n hx hb dX11_fitsGrowth_18 rfl (lv_at hl 2 rfl) ?_
          refine va_get (D := (dC, dI)) (ci := 11) (v := .ref (r 70)) (C := RX11) (T := TX11) (N := 79) hx hb hts inB_11 hown hE.1 hP 0 rfl rfl 70 (by decide) (hts _ k_1390) (fun _ h9 => h9) rfl dX11_fitsGrowth_19 ?_
          refine lv_iload hx hb dX11_fitsGrowth_22 (lv_at hl 0 rfl) ?_
          refine ldI hx hb hE hP 32 rfl (vp_in_iff.mpr ⟨by omega, by omega⟩) rfl rfl dX11_fitsGrowth_24 ?_
          refine lv_topi (fun t10 et10 => ?_)
          refine lv_iload_n hx hb dX11_fitsGrowth_25 rfl (lv_at hl 4 rfl) ?_
          refine lv_icmp_gt (tgt := 86) hx hb dX11_fitsGrowth_26 (by decide) (fun c11 => ?_) (fun c11 => ?_)
          · skip
            have zc11 : p2.toInt < t10.toInt := by rw [fa_lt] at c11; exact c11
            have rg12 := fb_rng t10
            have rg13 := fb_rng p2
            obtain ⟨t14, et14⟩ : ∃ y : Int32, y = l4_1 + 1 := ⟨_, rfl⟩
            have zt14 : t14.toInt = l4_1.toInt + 1 := by rw [et14]; exact add_i rfl (by decide) (by omega) (by omega)
            refine lv_iinc (v := t14) (lv' := [(4, .int t14), (3, .int l3_1), (0, .ref y0), (1, .int p1), (2, .int p2)]) hx hb dX11_fitsGrowth_86 hl (k := 0) rfl (by rw [et14]; rfl) (by decide) rfl (fun ls hl => ?_)
            refine lv_goto (tgt := 5) hx hb dX11_fitsGrowth_89 (by decide) ?_
            have rg15 := fb_rng l3_1
            have rg16 := fb_rng t14
            exact ih1 l3_1 t14 ⟨show (0 : Int) ≤ l3_1.toInt by omega, show l3_1.toInt ≤ (1 : Int) by omega⟩ ⟨show (0 : Int) ≤ t14.toInt by omega, show t14.toInt ≤ (2147483647 : Int) by omega⟩ (by show (2147483647 - t14.toInt).toNat < n1; omega) _ _ _ hP hD hS (lv_sub hl [0, 1, 2, 3, 4] rfl)
          · skip
            have zc11 : ¬ (p2.toInt < t10.toInt) := by rw [fa_lt] at c11; exact c11
            have rg17 := fb_rng t10
            have rg18 := fb_rng p2
            refine lv_aload_n hx hb dX11_fitsGrowth_29 rfl (lv_at hl 2 rfl) ?_
            refine va_get (D := (dC, dI)) (ci := 11) (v := .ref (r 71)) (C := RX11) (T := TX11) (N := 79) hx hb hts inB_11 hown hE.1 hP 0 rfl rfl 71 (by decide) (hts _ k_1391) (fun _ h9 => h9) rfl dX11_fitsGrowth_30 ?_
            refine lv_iload hx hb dX11_fitsGrowth_33 (lv_at hl 0 rfl) ?_
            refine ldI hx hb hE hP 33 rfl (vp_in_iff.mpr ⟨by omega, by omega⟩) rfl rfl dX11_fitsGrowth_35 ?_
            refine lv_topi (fun t19 et19 => ?_)
            refine lv_if_lt (tgt := 53) hx hb dX11_fitsGrowth_36 (by decide) (fun c20 => ?_) (fun c20 => ?_)
            · skip
              have zc20 : t19.toInt < 0 := by rw [fa_lt, show (0 : Int32).toInt = 0 from by decide] at c20; exact c20
              refine lv_aload_n hx hb dX11_fitsGrowth_53 rfl (lv_at hl 2 rfl) ?_
              refine va_get (D := (dC, dI)) (ci := 11) (v := .ref (r 75)) (C := RX11) (T := TX11) (N := 79) hx hb hts inB_11 hown hE.1 hP 0 rfl rfl 75 (by decide) (hts _ k_1395) (fun _ h9 => h9) rfl dX11_fitsGrowth_54 ?_
              refine lv_bipush (v := 21) hx hb dX11_fitsGrowth_57 (by decide) ?_
              refine lv_iload_n hx hb dX11_fitsGrowth_59 rfl (lv_at hl 3 rfl) ?_
              refine lv_imul hx hb dX11_fitsGrowth_60 ?_
              refine lv_topi (fun t21 et21 => ?_)
              have rg22 := fb_rng p1
              have zt21 : t21.toInt = 21 * p1.toInt := by rw [et21]; exact mul_i (by decide) rfl (by omega) (by omega)
              refine lv_aload_n hx hb dX11_fitsGrowth_61 rfl (lv_at hl 2 rfl) ?_
              refine va_get (D := (dC, dI)) (ci := 11) (v := .ref (r 69)) (C := RX11) (T := TX11) (N := 79) hx hb hts inB_11 hown hE.1 hP 0 rfl rfl 69 (by decide) (hts _ k_1389) (fun _ h9 => h9) rfl dX11_fitsGrowth_62 ?_
              refine lv_iload hx hb dX11_fitsGrowth_65 (lv_at hl 0 rfl) ?_
              refine ldI hx hb hE hP 31 rfl (vp_in_iff.mpr ⟨by omega, by omega⟩) rfl rfl dX11_fitsGrowth_67 ?_
              refine lv_topi (fun t23 et23 => ?_)
              have zt23 : 0 ≤ t23.toInt ∧ t23.toInt ≤ 20 := by rw [et23]; exact hCf.2.2.2.2.1 l4_1.toInt.toNat (show l4_1.toInt.toNat < 30 by omega)
              refine lv_iadd hx hb dX11_fitsGrowth_68 ?_
              refine lv_topi (fun t24 et24 => ?_)
              have rg25 := fb_rng t21
              have rg26 := fb_rng t23
              have zt24 : t24.toInt = t21.toInt + t23.toInt := by rw [et24]; exact add_i rfl rfl (by omega) (by omega)
              refine ldZ hx hb hE hP 35 rfl (vp_in_iff.mpr ⟨by omega, by omega⟩) rfl rfl dX11_fitsGrowth_69 ?_
              refine lv_topi (fun t27 et27 => ?_)
              refine lv_aload_n hx hb dX11_fitsGrowth_70 rfl (lv_at hl 2 rfl) ?_
              refine va_get (D := (dC, dI)) (ci := 11) (v := .ref (r 72)) (C := RX11) (T := TX11) (N := 79) hx hb hts inB_11 hown hE.1 hP 0 rfl rfl 72 (by decide) (hts _ k_1392) (fun _ h9 => h9) rfl dX11_fitsGrowth_71 ?_
              refine lv_iload hx hb dX11_fitsGrowth_74 (lv_at hl 0 rfl) ?_
              refine ldZ hx hb hE hP 34 rfl (vp_in_iff.mpr ⟨by omega, by omega⟩) rfl rfl dX11_fitsGrowth_76 ?_
              refine lv_topi (fun t28 et28 => ?_)
              refine lv_icmp_ne (tgt := 84) hx hb dX11_fitsGrowth_77 (by decide) (fun c29 => ?_) (fun c29 => ?_)
              · skip
                have zc29 : ¬ (t27.toInt = t28.toInt) := by rw [fa_eq] at c29; exact c29
                have rg30 := fb_rng t27
                have rg31 := fb_rng t28
                refine lv_iconst (v := 0) hx hb dX11_fitsGrowth_84 (by decide) ?_
                refine lv_istore_n (lv' := [(3, .int 0), (4, .int l4_1), (0, .ref y0), (1, .int p1), (2, .int p2)]) hx hb dX11_fitsGrowth_85 rfl hl (by decide) rfl (fun ls hl => ?_)
                obtain ⟨t32, et32⟩ : ∃ y : Int32, y = l4_1 + 1 := ⟨_, rfl⟩
                have zt32 : t32.toInt = l4_1.toInt + 1 := by rw [et32]; exact add_i rfl (by decide) (by omega) (by omega)
                refine lv_iinc (v := t32) (lv' := [(4, .int t32), (3, .int 0), (0, .ref y0), (1, .int p1), (2, .int p2)]) hx hb dX11_fitsGrowth_86 hl (k := 1) rfl (by rw [et32]; rfl) (by decide) rfl (fun ls hl => ?_)
                refine lv_goto (tgt := 5) hx hb dX11_fitsGrowth_89 (by decide) ?_
                have rg33 := fb_rng t32
                exact ih1 0 t32 ⟨by decide, by decide⟩ ⟨show (0 : Int) ≤ t32.toInt by omega, show t32.toInt ≤ (2147483647 : Int) by omega⟩ (by show (2147483647 - t32.toInt).toNat < n1; omega) _ _ _ hP hD hS (lv_sub hl [0, 1, 2, 3, 4] rfl)
              · skip
                have zc29 : t27.toInt = t28.toInt := by rw [fa_eq] at c29; exact c29
                have rg34 := fb_rng t27
                have rg35 := fb_rng t28
                refine lv_iconst (v := 1) hx hb dX11_fitsGrowth_80 (by decide) ?_
                refine lv_goto (tgt := 85) hx hb dX11_fitsGrowth_81 (by decide) ?_
                refine lv_istore_n (lv' := [(3, .int 1), (4, .int l4_1), (0, .ref y0), (1, .int p1), (2, .int p2)]) hx hb dX11_fitsGrowth_85 rfl hl (by decide) rfl (fun ls hl => ?_)
                obtain ⟨t36, et36⟩ : ∃ y : Int32, y = l4_1 + 1 := ⟨_, rfl⟩
                have zt36 : t36.toInt = l4_1.toInt + 1 := by rw [et36]; exact add_i rfl (by decide) (by omega) (by omega)
                refine lv_iinc (v := t36) (lv' := [(4, .int t36), (3, .int 1), (0, .ref y0), (1, .int p1), (2, .int p2)]) hx hb dX11_fitsGrowth_86 hl (k := 1) rfl (by rw [et36]; rfl) (by decide) rfl (fun ls hl => ?_)
                refine lv_goto (tgt := 5) hx hb dX11_fitsGrowth_89 (by decide) ?_
                have rg37 := fb_rng t36
                exact ih1 1 t36 ⟨by decide, by decide⟩ ⟨show (0 : Int) ≤ t36.toInt by omega, show t36.toInt ≤ (2147483647 : Int) by omega⟩ (by show (2147483647 - t36.toInt).toNat < n1; omega) _ _ _ hP hD hS (lv_sub hl [0, 1, 2, 3, 4] rfl)
            · skip
              have zc20 : ¬ (t19.toInt < 0) := by rw [fa_lt, show (0 : Int32).toInt = 0 from by decide] at c20; exact c20
              refine lv_aload_n hx hb dX11_fitsGrowth_39 rfl (lv_at hl 2 rfl) ?_
              refine va_get (D := (dC, dI)) (ci := 11) (v := .ref (r 71)) (C := RX11) (T := TX11) (N := 79) hx hb hts inB_11 hown hE.1 hP 0 rfl rfl 71 (by decide) (hts _ k_1391) (fun _ h9 => h9) rfl dX11_fitsGrowth_40 ?_
              refine lv_iload hx hb dX11_fitsGrowth_43 (lv_at hl 0 rfl) ?_
              refine ldI hx hb hE hP 33 rfl (vp_in_iff.mpr ⟨by omega, by omega⟩) rfl rfl dX11_fitsGrowth_45 ?_
              refine tI (y := t19) et19.symm ?_
              refine lv_iload_n hx hb dX11_fitsGrowth_46 rfl (lv_at hl 4 rfl) ?_
              refine lv_icmp_gt (tgt := 53) hx hb dX11_fitsGrowth_47 (by decide) (fun c38 => ?_) (fun c38 => ?_)
              · skip
                have zc38 : p2.toInt < t19.toInt := by rw [fa_lt] at c38; exact c38
                have rg39 := fb_rng t19
                refine lv_aload_n hx hb dX11_fitsGrowth_53 rfl (lv_at hl 2 rfl) ?_
                refine va_get (D := (dC, dI)) (ci := 11) (v := .ref (r 75)) (C := RX11) (T := TX11) (N := 79) hx hb hts inB_11 hown hE.1 hP 0 rfl rfl 75 (by decide) (hts _ k_1395) (fun _ h9 => h9) rfl dX11_fitsGrowth_54 ?_
                refine lv_bipush (v := 21) hx hb dX11_fitsGrowth_57 (by decide) ?_
                refine lv_iload_n hx hb dX11_fitsGrowth_59 rfl (lv_at hl 3 rfl) ?_
                refine lv_imul hx hb dX11_fitsGrowth_60 ?_
                refine lv_topi (fun t40 et40 => ?_)
                have rg41 := fb_rng p1
                have zt40 : t40.toInt = 21 * p1.toInt := by rw [et40]; exact mul_i (by decide) rfl (by omega) (by omega)
                refine lv_aload_n hx hb dX11_fitsGrowth_61 rfl (lv_at hl 2 rfl) ?_
                refine va_get (D := (dC, dI)) (ci := 11) (v := .ref (r 69)) (C := RX11) (T := TX11) (N := 79) hx hb hts inB_11 hown hE.1 hP 0 rfl rfl 69 (by decide) (hts _ k_1389) (fun _ h9 => h9) rfl dX11_fitsGrowth_62 ?_
                refine lv_iload hx hb dX11_fitsGrowth_65 (lv_at hl 0 rfl) ?_
                refine ldI hx hb hE hP 31 rfl (vp_in_iff.mpr ⟨by omega, by omega⟩) rfl rfl dX11_fitsGrowth_67 ?_
                refine lv_topi (fun t42 et42 => ?_)
                have zt42 : 0 ≤ t42.toInt ∧ t42.toInt ≤ 20 := by rw [et42]; exact hCf.2.2.2.2.1 l4_1.toInt.toNat (show l4_1.toInt.toNat < 30 by omega)
                refine lv_iadd hx hb dX11_fitsGrowth_68 ?_
                refine lv_topi (fun t43 et43 => ?_)
                have rg44 := fb_rng t40
                have rg45 := fb_rng t42
                have zt43 : t43.toInt = t40.toInt + t42.toInt := by rw [et43]; exact add_i rfl rfl (by omega) (by omega)
                refine ldZ hx hb hE hP 35 rfl (vp_in_iff.mpr ⟨by omega, by omega⟩) rfl rfl dX11_fitsGrowth_69 ?_
                refine lv_topi (fun t46 et46 => ?_)
                refine lv_aload_n hx hb dX11_fitsGrowth_70 rfl (lv_at hl 2 rfl) ?_
                refine va_get (D := (dC, dI)) (ci := 11) (v := .ref (r 72)) (C := RX11) (T := TX11) (N := 79) hx hb hts inB_11 hown hE.1 hP 0 rfl rfl 72 (by decide) (hts _ k_1392) (fun _ h9 => h9) rfl dX11_fitsGrowth_71 ?_
                refine lv_iload hx hb dX11_fitsGrowth_74 (lv_at hl 0 rfl) ?_
                refine ldZ hx hb hE hP 34 rfl (vp_in_iff.mpr ⟨by omega, by omega⟩) rfl rfl dX11_fitsGrowth_76 ?_
                refine lv_topi (fun t47 et47 => ?_)
                refine lv_icmp_ne (tgt := 84) hx hb dX11_fitsGrowth_77 (by decide) (fun c48 => ?_) (fun c48 => ?_)
                · skip
                  have zc48 : ¬ (t46.toInt = t47.toInt) := by rw [fa_eq] at c48; exact c48
                  have rg49 := fb_rng t46
                  have rg50 := fb_rng t47
                  refine lv_iconst (v := 0) hx hb dX11_fitsGrowth_84 (by decide) ?_
                  refine lv_istore_n (lv' := [(3, .int 0), (4, .int l4_1), (0, .ref y0), (1, .int p1), (2, .int p2)]) hx hb dX11_fitsGrowth_85 rfl hl (by decide) rfl (fun ls hl => ?_)
                  obtain ⟨t51, et51⟩ : ∃ y : Int32, y = l4_1 + 1 := ⟨_, rfl⟩
                  have zt51 : t51.toInt = l4_1.toInt + 1 := by rw [et51]; exact add_i rfl (by decide) (by omega) (by omega)
                  refine lv_iinc (v := t51) (lv' := [(4, .int t51), (3, .int 0), (0, .ref y0), (1, .int p1), (2, .int p2)]) hx hb dX11_fitsGrowth_86 hl (k := 1) rfl (by rw [et51]; rfl) (by decide) rfl (fun ls hl => ?_)
                  refine lv_goto (tgt := 5) hx hb dX11_fitsGrowth_89 (by decide) ?_
                  have rg52 := fb_rng t51
                  exact ih1 0 t51 ⟨by decide, by decide⟩ ⟨show (0 : Int) ≤ t51.toInt by omega, show t51.toInt ≤ (2147483647 : Int) by omega⟩ (by show (2147483647 - t51.toInt).toNat < n1; omega) _ _ _ hP hD hS (lv_sub hl [0, 1, 2, 3, 4] rfl)
                · skip
                  have zc48 : t46.toInt = t47.toInt := by rw [fa_eq] at c48; exact c48
                  have rg53 := fb_rng t46
                  have rg54 := fb_rng t47
                  refine lv_iconst (v := 1) hx hb dX11_fitsGrowth_80 (by decide) ?_
                  refine lv_goto (tgt := 85) hx hb dX11_fitsGrowth_81 (by decide) ?_
                  refine lv_istore_n (lv' := [(3, .int 1), (4, .int l4_1), (0, .ref y0), (1, .int p1), (2, .int p2)]) hx hb dX11_fitsGrowth_85 rfl hl (by decide) rfl (fun ls hl => ?_)
                  obtain ⟨t55, et55⟩ : ∃ y : Int32, y = l4_1 + 1 := ⟨_, rfl⟩
                  have zt55 : t55.toInt = l4_1.toInt + 1 := by rw [et55]; exact add_i rfl (by decide) (by omega) (by omega)
                  refine lv_iinc (v := t55) (lv' := [(4, .int t55), (3, .int 1), (0, .ref y0), (1, .int p1), (2, .int p2)]) hx hb dX11_fitsGrowth_86 hl (k := 1) rfl (by rw [et55]; rfl) (by decide) rfl (fun ls hl => ?_)
                  refine lv_goto (tgt := 5) hx hb dX11_fitsGrowth_89 (by decide) ?_
                  have rg56 := fb_rng t55
                  exact ih1 1 t55 ⟨by decide, by decide⟩ ⟨show (0 : Int) ≤ t55.toInt by omega, show t55.toInt ≤ (2147483647 : Int) by omega⟩ (by show (2147483647 - t55.toInt).toNat < n1; omega) _ _ _ hP hD hS (lv_sub hl [0, 1, 2, 3, 4] rfl)
              · skip
                have zc38 : ¬ (p2.toInt < t19.toInt) := by rw [fa_lt] at c38; exact c38
                have rg57 := fb_rng t19
                refine lv_goto (tgt := 86) hx hb dX11_fitsGrowth_50 (by decide) ?_
                obtain ⟨t58, et58⟩ : ∃ y : Int32, y = l4_1 + 1 := ⟨_, rfl⟩
                have zt58 : t58.toInt = l4_1.toInt + 1 := by rw [et58]; exact add_i rfl (by decide) (by omega) (by omega)
                refine lv_iinc (v := t58) (lv' := [(4, .int t58), (3, .int l3_1), (0, .ref y0), (1, .int p1), (2, .int p2)]) hx hb dX11_fitsGrowth_86 hl (k := 0) rfl (by rw [et58]; rfl) (by decide) rfl (fun ls hl => ?_)
                refine lv_goto (tgt := 5) hx hb dX11_fitsGrowth_89 (by decide) ?_
                have rg59 := fb_rng l3_1
                have rg60 := fb_rng t58
                exact ih1 l3_1 t58 ⟨show (0 : Int) ≤ l3_1.toInt by omega, show l3_1.toInt ≤ (1 : Int) by omega⟩ ⟨show (0 : Int) ≤ t58.toInt by omega, show t58.toInt ≤ (2147483647 : Int) by omega⟩ (by show (2147483647 - t58.toInt).toNat < n1; omega) _ _ _ hP hD hS (lv_sub hl [0, 1, 2, 3, 4] rfl)
  exact lp1 _ 1 0 ⟨by decide, by decide⟩ ⟨by decide, by decide⟩ (Nat.lt_succ_self _) _ _ _ hP hD hS (lv_sub hl [0, 1, 2, 3, 4] rfl)
set_option maxHeartbeats 4000000 in
set_option maxRecDepth 100000 in
theorem sY_X11_layGrowths_1 (l : Launch) (dC : Nat → ClassId) (dI : Nat → Nat → Nat) (cy : Nat → ClassId) (y0 : Nat) (r : Nat → Nat) (p1 : Int32) (v : Nat → Int32) (f : Nat → Nat → Int32) (w : Int64) (g : Nat → Int64) (hIv : YI v) (hCf : YC f) (hRf : progOK (f 4) (f 5) (v 9).toInt.toNat)  : ctI l (dC, dI) cy yX11_layGrowths cX11_layGrowths 5 .int 5 148 0 0 ((Nat → Int32) × (Nat → Nat → Int32) × (Int64) × (Nat → Int64)) [.ref y0, .int p1] (YW cy y0 r v f w g) (fun r u => KV [] u.1 v ∧ KF [7, 8, 24, 34, 35] u.2.1 f ∧ YI u.1 ∧ YC u.2.1 ∧ progOK (u.2.1 4) (u.2.1 5) (u.1 9).toInt.toNat ∧ u.1 0 = v 0 ∧ u.1 1 = v 1 ∧ u.1 2 = v 2 ∧ u.1 3 = v 3 ∧ u.1 4 = v 4 ∧ u.1 5 = v 5 ∧ u.1 8 = v 8 ∧ u.1 9 = v 9 ∧ u.1 10 = v 10 ∧ u.1 13 = v 13 ∧ u.1 14 = v 14 ∧ u.1 15 = v 15 ∧ u.1 17 = v 17 ∧ u.1 18 = v 18 ∧ u.1 24 = v 24 ∧ u.1 25 = v 25 ∧ u.1 35 = v 35 ∧ u.1 36 = v 36 ∧ u.1 38 = v 38 ∧ u.1 39 = v 39) (fun u => YW cy y0 r u.1 u.2.1 u.2.2.1 u.2.2.2) := by
  refine ctI_of (by decide) (Nat.le_of_ble_eq_true rfl) (fun p e s m below meth c A ls Q hx hb hml hts hown hE hP hD hA hl ret => ?_)
  have hUv : (v 35).toInt + (v 36).toInt ≤ 40 := hIv.2
  have hM_v : KV [] v v := fun _ _ => rfl
  have hA_f : KF [7, 8, 24, 34, 35] f f := fun _ _ => rfl
  have hown : s.vm.findClass RX11 = some m.cls := hown
  have hS : va_S A s.heap s.heap [] := va_S.rf
  have hl : lv_has ls 5 [(0, .ref y0), (1, .int p1)] := hl
  refine lv_iconst (v := 0) hx hb dX11_layGrowths_0 (by decide) ?_
  refine lv_istore_n (lv' := [(2, .int 0), (0, .ref y0), (1, .int p1)]) hx hb dX11_layGrowths_1 rfl hl (by decide) rfl (fun ls hl => ?_)
  refine lv_iconst (v := 0) hx hb dX11_layGrowths_2 (by decide) ?_
  refine lv_istore_n (lv' := [(3, .int 0), (2, .int 0), (0, .ref y0), (1, .int p1)]) hx hb dX11_layGrowths_3 rfl hl (by decide) rfl (fun ls hl => ?_)
  have lp1 : ∀ (n1 : Nat) (l2_1 : Int32) (l3_1 : Int32) (v1 : Nat → Int32) (f1 : Nat → Nat → Int32) (w1 : Int64) (g1 : Nat → Int64), YI v1 → YC f1 → progOK (f1 4) (f1 5) (v1 9).toInt.toNat → v1 0 = (v 0) → v1 1 = (v 1) → v1 2 = (v 2) → v1 3 = (v 3) → v1 4 = (v 4) → v1 5 = (v 5) → v1 8 = (v 8) → v1 9 = (v 9) → v1 10 = (v 10) → v1 13 = (v 13) → v1 14 = (v 14) → v1 15 = (v 15) → v1 17 = (v 17) → v1 18 = (v 18) → v1 24 = (v 24) → v1 25 = (v 25) → v1 35 = (v 35) → v1 36 = (v 36) → v1 38 = (v 38) → v1 39 = (v 39) → ((0 : Int) ≤ l3_1.toInt ∧ l3_1.toInt ≤ 2147483647) → KV [] v1 v → KF [7, 8, 24, 34, 35] f1 f → (2147483647 - l3_1.toInt).toNat < n1 → ∀ (H : Heap) (locs : List Loc) (ls : Array Slot), va_P (dC, dI) vwCl (YW cy y0 r v1 f1 w1 g1) H → va_D A (YW cy y0 r v1 f1 w1 g1) → va_S A s.heap H locs → lv_has ls 5 [(3, .int l3_1), (2, .int l2_1), (0, .ref y0), (1, .int p1)] → W p l e { frames := 5, cells := 0, slots := 0, locals := 148 } s m ([.ref y0, .int p1] : List Value).toArray below meth c H locs 0 0 Q (F0 m 4 ls []) := by
    intro n1
    induction n1 with
    | zero => intro l2_1 l3_1 v1 f1 w1 g1 hIv1 hCf1 hRf1 hq0_v1 hq1_v1 hq2_v1 hq3_v1 hq4_v1 hq5_v1 hq8_v1 hq9_v1 hq10_v1 hq13_v1 hq14_v1 hq15_v1 hq17_v1 hq18_v1 hq24_v1 hq25_v1 hq35_v1 hq36_v1 hq38_v1 hq39_v1 hr3_1 hM_v1 hA_f1 hm; exact absurd hm (Nat.not_lt_zero _)
    | succ n1 ih1 =>
      intro l2_1 l3_1 v1 f1 w1 g1 hIv1 hCf1 hRf1 hq0_v1 hq1_v1 hq2_v1 hq3_v1 hq4_v1 hq5_v1 hq8_v1 hq9_v1 hq10_v1 hq13_v1 hq14_v1 hq15_v1 hq17_v1 hq18_v1 hq24_v1 hq25_v1 hq35_v1 hq36_v1 hq38_v1 hq39_v1 hr3_1 hM_v1 hA_f1 hm1 H locs ls hP hD hS hl
      have hUv1 : (v1 35).toInt + (v1 36).toInt ≤ 40 := hIv1.2
      have zq9_v1 := congrArg Int32.toInt hq9_v1
      refine lv_iload_n hx hb dX11_layGrowths_4 rfl (lv_at hl 0 rfl) ?_
      refine lv_bipush (v := 30) hx hb dX11_layGrowths_5 (by decide) ?_
      refine lv_icmp_gt (tgt := 143) hx hb dX11_layGrowths_7 (by decide) (fun c2 => ?_) (fun c2 => ?_)
      · skip
        have zc2 : 30 < l3_1.toInt := by rw [fa_lt, show (30 : Int32).toInt = 30 from by decide] at c2; exact c2
        refine lv_iload_n hx hb dX11_layGrowths_143 rfl (lv_at hl 1 rfl) ?_
        exact ret l2_1 (v1, f1, w1, g1) _ _ _ _ _ _ rfl ⟨hM_v1, hA_f1, hIv1, hCf1, hRf1, (show v1 0 = v 0 from hq0_v1), (show v1 1 = v 1 from hq1_v1), (show v1 2 = v 2 from hq2_v1), (show v1 3 = v 3 from hq3_v1), (show v1 4 = v 4 from hq4_v1), (show v1 5 = v 5 from hq5_v1), (show v1 8 = v 8 from hq8_v1), (show v1 9 = v 9 from hq9_v1), (show v1 10 = v 10 from hq10_v1), (show v1 13 = v 13 from hq13_v1), (show v1 14 = v 14 from hq14_v1), (show v1 15 = v 15 from hq15_v1), (show v1 17 = v 17 from hq17_v1), (show v1 18 = v 18 from hq18_v1), (show v1 24 = v 24 from hq24_v1), (show v1 25 = v 25 from hq25_v1), (show v1 35 = v 35 from hq35_v1), (show v1 36 = v 36 from hq36_v1), (show v1 38 = v 38 from hq38_v1), (show v1 39 = v 39 from hq39_v1)⟩ hP hD hS dX11_layGrowths_144 (Nat.le_refl _) (Nat.le_refl _)
      · skip
        have zc2 : ¬ (30 < l3_1.toInt) := by rw [fa_lt, show (30 : Int32).toInt = 30 from by decide] at c2; exact c2
        refine lv_aload_n hx hb dX11_layGrowths_10 rfl (lv_at hl 2 rfl) ?_
        refine va_get (D := (dC, dI)) (ci := 11) (v := .int (v1 24)) (C := RX11) (T := TX11) (N := 79) hx hb hts inB_11 hown hE.1 hP 0 rfl rfl 48 (by decide) (hts _ k_1368) (fun _ h9 => h9) rfl dX11_layGrowths_11 ?_
        refine tI (y := (v 24)) hq24_v1 ?_
        have b24_v : 0 ≤ (v 24).toInt ∧ (v 24).toInt ≤ 6 := YIb.b hIv.1 24 (by decide)
        refine lv_if_le (tgt := 143) hx hb dX11_layGrowths_14 (by decide) (fun c3 => ?_) (fun c3 => ?_)
        · skip
          have zc3 : (v 24).toInt ≤ 0 := by rw [fa_le, show (0 : Int32).toInt = 0 from by decide] at c3; exact c3
          refine lv_iload_n hx hb dX11_layGrowths_143 rfl (lv_at hl 1 rfl) ?_
          exact ret l2_1 (v1, f1, w1, g1) _ _ _ _ _ _ rfl ⟨hM_v1, hA_f1, hIv1, hCf1, hRf1, (show v1 0 = v 0 from hq0_v1), (show v1 1 = v 1 from hq1_v1), (show v1 2 = v 2 from hq2_v1), (show v1 3 = v 3 from hq3_v1), (show v1 4 = v 4 from hq4_v1), (show v1 5 = v 5 from hq5_v1), (show v1 8 = v 8 from hq8_v1), (show v1 9 = v 9 from hq9_v1), (show v1 10 = v 10 from hq10_v1), (show v1 13 = v 13 from hq13_v1), (show v1 14 = v 14 from hq14_v1), (show v1 15 = v 15 from hq15_v1), (show v1 17 = v 17 from hq17_v1), (show v1 18 = v 18 from hq18_v1), (show v1 24 = v 24 from hq24_v1), (show v1 25 = v 25 from hq25_v1), (show v1 35 = v 35 from hq35_v1), (show v1 36 = v 36 from hq36_v1), (show v1 38 = v 38 from hq38_v1), (show v1 39 = v 39 from hq39_v1)⟩ hP hD hS dX11_layGrowths_144 (Nat.le_refl _) (Nat.le_refl _)
        · skip
          have zc3 : ¬ ((v 24).toInt ≤ 0) := by rw [fa_le, show (0 : Int32).toInt = 0 from by decide] at c3; exact c3
          refine lv_aload_n hx hb dX11_layGrowths_17 rfl (lv_at hl 2 rfl) ?_
          refine va_get (D := (dC, dI)) (ci := 11) (v := .int (v1 25)) (C := RX11) (T := TX11) (N := 79) hx hb hts inB_11 hown hE.1 hP 0 rfl rfl 49 (by decide) (hts _ k_1369) (fun _ h9 => h9) rfl dX11_layGrowths_18 ?_
          refine tI (y := (v 25)) hq25_v1 ?_
          have b25_v : 0 ≤ (v 25).toInt ∧ (v 25).toInt ≤ 6 := YIb.b hIv.1 25 (by decide)
          refine lv_if_le (tgt := 143) hx hb dX11_layGrowths_21 (by decide) (fun c4 => ?_) (fun c4 => ?_)
          · skip
            have zc4 : (v 25).toInt ≤ 0 := by rw [fa_le, show (0 : Int32).toInt = 0 from by decide] at c4; exact c4
            refine lv_iload_n hx hb dX11_layGrowths_143 rfl (lv_at hl 1 rfl) ?_
            exact ret l2_1 (v1, f1, w1, g1) _ _ _ _ _ _ rfl ⟨hM_v1, hA_f1, hIv1, hCf1, hRf1, (show v1 0 = v 0 from hq0_v1), (show v1 1 = v 1 from hq1_v1), (show v1 2 = v 2 from hq2_v1), (show v1 3 = v 3 from hq3_v1), (show v1 4 = v 4 from hq4_v1), (show v1 5 = v 5 from hq5_v1), (show v1 8 = v 8 from hq8_v1), (show v1 9 = v 9 from hq9_v1), (show v1 10 = v 10 from hq10_v1), (show v1 13 = v 13 from hq13_v1), (show v1 14 = v 14 from hq14_v1), (show v1 15 = v 15 from hq15_v1), (show v1 17 = v 17 from hq17_v1), (show v1 18 = v 18 from hq18_v1), (show v1 24 = v 24 from hq24_v1), (show v1 25 = v 25 from hq25_v1), (show v1 35 = v 35 from hq35_v1), (show v1 36 = v 36 from hq36_v1), (show v1 38 = v 38 from hq38_v1), (show v1 39 = v 39 from hq39_v1)⟩ hP hD hS dX11_layGrowths_144 (Nat.le_refl _) (Nat.le_refl _)
          · skip
            have zc4 : ¬ ((v 25).toInt ≤ 0) := by rw [fa_le, show (0 : Int32).toInt = 0 from by decide] at c4; exact c4
            refine lv_aload_n hx hb dX11_layGrowths_24 rfl (lv_at hl 2 rfl) ?_
            refine cbVv (n := 0) (rest := []) hx hb hml hown hts hE hP hD hS hA (sY_X11_begin_1 0 l dC dI cy y0 r  v1 f1 w1 g1 hIv1 hCf1 hRf1 ) k_1716 k_1718 k_68 k_114 k_1719 (by decide +kernel) ⟨Nat.le_of_ble_eq_true rfl, Nat.le_of_ble_eq_true rfl⟩ 0 11 rfl rfl (rfl) hl.1 rfl (Nat.le_of_ble_eq_true rfl) dX11_layGrowths_25 (fun u H locs hw hP hD hS => ?_)
            obtain ⟨hG5, hw⟩ := hw
            obtain ⟨v6, f7, w8, g9⟩ := u
            obtain ⟨kV_v6, kF_f7, hIv6, hCf7, hRf7, hk0_v6, hk1_v6, hk2_v6, hk3_v6, hk4_v6, hk5_v6, hk8_v6, hk9_v6, hk10_v6, hk13_v6, hk14_v6, hk15_v6, hk17_v6, hk18_v6, hk24_v6, hk25_v6, hk35_v6, hk36_v6, hk38_v6, hk39_v6⟩ := hw
            have hM_v6 : KV [] v6 v := KV.tr kV_v6 hM_v1 rfl
            have hA_f7 : KF [7, 8, 24, 34, 35] f7 f := KF.tr kF_f7 hA_f1 rfl
            have hP : va_P (dC, dI) vwCl (YW cy y0 r v6 f7 w8 g9) H := hP
            have hD : va_D A (YW cy y0 r v6 f7 w8 g9) := hD
            have hUv6 : (v6 35).toInt + (v6 36).toInt ≤ 40 := hIv6.2
            have hq0_v6 : v6 0 = (v 0) := hk0_v6.trans hq0_v1
            have hq1_v6 : v6 1 = (v 1) := hk1_v6.trans hq1_v1
            have hq2_v6 : v6 2 = (v 2) := hk2_v6.trans hq2_v1
            have hq3_v6 : v6 3 = (v 3) := hk3_v6.trans hq3_v1
            have hq4_v6 : v6 4 = (v 4) := hk4_v6.trans hq4_v1
            have hq5_v6 : v6 5 = (v 5) := hk5_v6.trans hq5_v1
            have hq8_v6 : v6 8 = (v 8) := hk8_v6.trans hq8_v1
            have hq9_v6 : v6 9 = (v 9) := hk9_v6.trans hq9_v1
            have zq9_v6 := congrArg Int32.toInt hq9_v6
            have hq10_v6 : v6 10 = (v 10) := hk10_v6.trans hq10_v1
            have hq13_v6 : v6 13 = (v 13) := hk13_v6.trans hq13_v1
            have hq14_v6 : v6 14 = (v 14) := hk14_v6.trans hq14_v1
            have hq15_v6 : v6 15 = (v 15) := hk15_v6.trans hq15_v1
            have hq17_v6 : v6 17 = (v 17) := hk17_v6.trans hq17_v1
            have hq18_v6 : v6 18 = (v 18) := hk18_v6.trans hq18_v1
            have hq24_v6 : v6 24 = (v 24) := hk24_v6.trans hq24_v1
            have hq25_v6 : v6 25 = (v 25) := hk25_v6.trans hq25_v1
            have hq35_v6 : v6 35 = (v 35) := hk35_v6.trans hq35_v1
            have hq36_v6 : v6 36 = (v 36) := hk36_v6.trans hq36_v1
            have hq38_v6 : v6 38 = (v 38) := hk38_v6.trans hq38_v1
            have hq39_v6 : v6 39 = (v 39) := hk39_v6.trans hq39_v1
            refine lv_iconst (v := 0) hx hb dX11_layGrowths_28 (by decide) ?_
            refine lv_istore (lv' := [(4, .int 0), (3, .int l3_1), (2, .int l2_1), (0, .ref y0), (1, .int p1)]) hx hb dX11_layGrowths_29 hl (by decide) rfl (fun ls hl => ?_)
            have lp10 : ∀ (n10 : Nat) (l4_10 : Int32) (v10 : Nat → Int32) (f10 : Nat → Nat → Int32) (w10 : Int64) (g10 : Nat → Int64), YI v10 → YC f10 → progOK (f10 4) (f10 5) (v10 9).toInt.toNat → v10 0 = (v 0) → v10 1 = (v 1) → v10 2 = (v 2) → v10 3 = (v 3) → v10 4 = (v 4) → v10 5 = (v 5) → v10 8 = (v 8) → v10 9 = (v 9) → v10 10 = (v 10) → v10 13 = (v 13) → v10 14 = (v 14) → v10 15 = (v 15) → v10 17 = (v 17) → v10 18 = (v 18) → v10 24 = (v 24) → v10 25 = (v 25) → v10 35 = (v 35) → v10 36 = (v 36) → v10 38 = (v 38) → v10 39 = (v 39) → ((0 : Int) ≤ l4_10.toInt ∧ l4_10.toInt ≤ 2147483647) → KV [] v10 v → KF [7, 8, 24, 34, 35] f10 f → (2147483647 - l4_10.toInt).toNat < n10 → ∀ (H : Heap) (locs : List Loc) (ls : Array Slot), va_P (dC, dI) vwCl (YW cy y0 r v10 f10 w10 g10) H → va_D A (YW cy y0 r v10 f10 w10 g10) → va_S A s.heap H locs → lv_has ls 5 [(4, .int l4_10), (3, .int l3_1), (2, .int l2_1), (0, .ref y0), (1, .int p1)] → W p l e { frames := 5, cells := 0, slots := 0, locals := 148 } s m ([.ref y0, .int p1] : List Value).toArray below meth c H locs 0 0 Q (F0 m 31 ls []) := by
              intro n10
              induction n10 with
              | zero => intro l4_10 v10 f10 w10 g10 hIv10 hCf10 hRf10 hq0_v10 hq1_v10 hq2_v10 hq3_v10 hq4_v10 hq5_v10 hq8_v10 hq9_v10 hq10_v10 hq13_v10 hq14_v10 hq15_v10 hq17_v10 hq18_v10 hq24_v10 hq25_v10 hq35_v10 hq36_v10 hq38_v10 hq39_v10 hr4_10 hM_v10 hA_f10 hm; exact absurd hm (Nat.not_lt_zero _)
              | succ n10 ih10 =>
                intro l4_10 v10 f10 w10 g10 hIv10 hCf10 hRf10 hq0_v10 hq1_v10 hq2_v10 hq3_v10 hq4_v10 hq5_v10 hq8_v10 hq9_v10 hq10_v10 hq13_v10 hq14_v10 hq15_v10 hq17_v10 hq18_v10 hq24_v10 hq25_v10 hq35_v10 hq36_v10 hq38_v10 hq39_v10 hr4_10 hM_v10 hA_f10 hm10 H locs ls hP hD hS hl
                have hUv10 : (v10 35).toInt + (v10 36).toInt ≤ 40 := hIv10.2
                have zq9_v10 := congrArg Int32.toInt hq9_v10
                refine lv_iload hx hb dX11_layGrowths_31 (lv_at hl 0 rfl) ?_
                refine lv_bipush (v := 20) hx hb dX11_layGrowths_33 (by decide) ?_
                refine lv_icmp_gt (tgt := 113) hx hb dX11_layGrowths_35 (by decide) (fun c11 => ?_) (fun c11 => ?_)
                · skip
                  have zc11 : 20 < l4_10.toInt := by rw [fa_lt, show (20 : Int32).toInt = 20 from by decide] at c11; exact c11
                  refine lv_aload_n hx hb dX11_layGrowths_113 rfl (lv_at hl 3 rfl) ?_
                  refine va_get (D := (dC, dI)) (ci := 11) (v := .ref (r 76)) (C := RX11) (T := TX11) (N := 79) hx hb hts inB_11 hown hE.1 hP 0 rfl rfl 76 (by decide) (hts _ k_1396) (fun _ h9 => h9) rfl dX11_layGrowths_114 ?_
                  refine lv_iload_n hx hb dX11_layGrowths_117 rfl (lv_at hl 1 rfl) ?_
                  refine lv_aload_n hx hb dX11_layGrowths_118 rfl (lv_at hl 3 rfl) ?_
                  refine lv_iload_n hx hb dX11_layGrowths_119 rfl (lv_at hl 1 rfl) ?_
                  refine lv_iload_n hx hb dX11_layGrowths_120 rfl (lv_at hl 4 rfl) ?_
                  refine cbVi (n := 2) (rest := [.int l3_1, .ref (r 76)]) hx hb hml hown hts hE hP hD hS hA (sY_X11_fitsGrowth_1 l dC dI cy y0 r l3_1 p1 v10 f10 w10 g10 hIv10 hCf10 hRf10 ⟨show (0 : Int) ≤ l3_1.toInt by omega, show l3_1.toInt ≤ (30 : Int) by omega⟩) k_2028 k_2030 k_98 k_114 k_2031 (by decide +kernel) ⟨Nat.le_of_ble_eq_true rfl, Nat.le_of_ble_eq_true rfl⟩ 0 11 rfl rfl (rfl) hl.1 rfl (Nat.le_of_ble_eq_true rfl) dX11_layGrowths_121 (fun r12 u H locs hw hP hD hS => ?_)
                  rcases hw with ⟨g13⟩ | ⟨g13⟩
                  · skip
                    subst g13
                    refine stZ hx hb hE hP hD hS 36 rfl (vp_in_iff.mpr ⟨by omega, by omega⟩) rfl dX11_layGrowths_124 (fun H locs hP hD hS => ?_)
                    obtain ⟨f14, ef14, hP, hD⟩ : ∃ fz9, fz9 = upd2 f10 35 (upd (f10 35) l3_1.toNatClampNeg (vp_nar .boolean 1)) ∧ va_P (dC, dI) vwCl (YW cy y0 r v10 fz9 w10 g10) H ∧ va_D A (YW cy y0 r v10 fz9 w10 g10) := ⟨_, rfl, hP, hD⟩
                    have hCf14 : YC f14 := by rw [ef14]; exact hCf10
                    have hRf14 : progOK (f14 4) (f14 5) (v10 9).toInt.toNat := by rw [ef14]; exact hRf10
                    have hA_f14 : KF [7, 8, 24, 34, 35] f14 f := by rw [ef14]; exact KF.up hA_f10 rfl
                    refine lv_iload_n hx hb dX11_layGrowths_125 rfl (lv_at hl 2 rfl) ?_
                    refine lv_aload_n hx hb dX11_layGrowths_126 rfl (lv_at hl 3 rfl) ?_
                    refine va_get (D := (dC, dI)) (ci := 11) (v := .ref (r 76)) (C := RX11) (T := TX11) (N := 79) hx hb hts inB_11 hown hE.1 hP 0 rfl rfl 76 (by decide) (hts _ k_1396) (fun _ h9 => h9) rfl dX11_layGrowths_127 ?_
                    refine lv_iload_n hx hb dX11_layGrowths_130 rfl (lv_at hl 1 rfl) ?_
                    refine ldZ hx hb hE hP 36 rfl (vp_in_iff.mpr ⟨by omega, by omega⟩) rfl rfl dX11_layGrowths_131 ?_
                    refine lv_topi (fun t15 et15 => ?_)
                    refine cbSi (n := 1) (rest := [.int l2_1]) hx hb hml hown hts hE hP hD hS hA (sY_X11_truth_1 l dC dI cy y0 r t15 v10 f14 w10 g10 hIv10 hCf14 hRf14 ) k_1761 k_1762 k_114 k_1763 (by decide +kernel) ⟨Nat.le_of_ble_eq_true rfl, Nat.le_of_ble_eq_true rfl⟩ (rfl) hl.1 rfl (Nat.le_of_ble_eq_true rfl) dX11_layGrowths_132 (fun r16 u H locs hw hP hD hS => ?_)
                    refine lv_iadd hx hb dX11_layGrowths_135 ?_
                    refine lv_topi (fun t17 et17 => ?_)
                    refine lv_istore_n (lv' := [(2, .int t17), (4, .int l4_10), (3, .int l3_1), (0, .ref y0), (1, .int p1)]) hx hb dX11_layGrowths_136 rfl hl (by decide) rfl (fun ls hl => ?_)
                    obtain ⟨t18, et18⟩ : ∃ y : Int32, y = l3_1 + 1 := ⟨_, rfl⟩
                    have rg19 := fb_rng l3_1
                    have zt18 : t18.toInt = l3_1.toInt + 1 := by rw [et18]; exact add_i rfl (by decide) (by omega) (by omega)
                    refine lv_iinc (v := t18) (lv' := [(3, .int t18), (2, .int t17), (4, .int l4_10), (0, .ref y0), (1, .int p1)]) hx hb dX11_layGrowths_137 hl (k := 2) rfl (by rw [et18]; rfl) (by decide) rfl (fun ls hl => ?_)
                    refine lv_goto (tgt := 4) hx hb dX11_layGrowths_140 (by decide) ?_
                    have rg20 := fb_rng t18
                    exact ih1 t17 t18 v10 f14 w10 g10 hIv10 hCf14 hRf14 hq0_v10 hq1_v10 hq2_v10 hq3_v10 hq4_v10 hq5_v10 hq8_v10 hq9_v10 hq10_v10 hq13_v10 hq14_v10 hq15_v10 hq17_v10 hq18_v10 hq24_v10 hq25_v10 hq35_v10 hq36_v10 hq38_v10 hq39_v10 ⟨show (0 : Int) ≤ t18.toInt by omega, show t18.toInt ≤ (2147483647 : Int) by omega⟩ hM_v10 hA_f14 (by show (2147483647 - t18.toInt).toNat < n1; omega) _ _ _ hP hD hS (lv_sub hl [0, 1, 3, 4] rfl)
                  · skip
                    subst g13
                    refine stZ hx hb hE hP hD hS 36 rfl (vp_in_iff.mpr ⟨by omega, by omega⟩) rfl dX11_layGrowths_124 (fun H locs hP hD hS => ?_)
                    obtain ⟨f21, ef21, hP, hD⟩ : ∃ fz9, fz9 = upd2 f10 35 (upd (f10 35) l3_1.toNatClampNeg (vp_nar .boolean 0)) ∧ va_P (dC, dI) vwCl (YW cy y0 r v10 fz9 w10 g10) H ∧ va_D A (YW cy y0 r v10 fz9 w10 g10) := ⟨_, rfl, hP, hD⟩
                    have hCf21 : YC f21 := by rw [ef21]; exact hCf10
                    have hRf21 : progOK (f21 4) (f21 5) (v10 9).toInt.toNat := by rw [ef21]; exact hRf10
                    have hA_f21 : KF [7, 8, 24, 34, 35] f21 f := by rw [ef21]; exact KF.up hA_f10 rfl
                    refine lv_iload_n hx hb dX11_layGrowths_125 rfl (lv_at hl 2 rfl) ?_
                    refine lv_aload_n hx hb dX11_layGrowths_126 rfl (lv_at hl 3 rfl) ?_
                    refine va_get (D := (dC, dI)) (ci := 11) (v := .ref (r 76)) (C := RX11) (T := TX11) (N := 79) hx hb hts inB_11 hown hE.1 hP 0 rfl rfl 76 (by decide) (hts _ k_1396) (fun _ h9 => h9) rfl dX11_layGrowths_127 ?_
                    refine lv_iload_n hx hb dX11_layGrowths_130 rfl (lv_at hl 1 rfl) ?_
                    refine ldZ hx hb hE hP 36 rfl (vp_in_iff.mpr ⟨by omega, by omega⟩) rfl rfl dX11_layGrowths_131 ?_
                    refine lv_topi (fun t22 et22 => ?_)
                    refine cbSi (n := 1) (rest := [.int l2_1]) hx hb hml hown hts hE hP hD hS hA (sY_X11_truth_1 l dC dI cy y0 r t22 v10 f21 w10 g10 hIv10 hCf21 hRf21 ) k_1761 k_1762 k_114 k_1763 (by decide +kernel) ⟨Nat.le_of_ble_eq_true rfl, Nat.le_of_ble_eq_true rfl⟩ (rfl) hl.1 rfl (Nat.le_of_ble_eq_true rfl) dX11_layGrowths_132 (fun r23 u H locs hw hP hD hS => ?_)
                    refine lv_iadd hx hb dX11_layGrowths_135 ?_
                    refine lv_topi (fun t24 et24 => ?_)
                    refine lv_istore_n (lv' := [(2, .int t24), (4, .int l4_10), (3, .int l3_1), (0, .ref y0), (1, .int p1)]) hx hb dX11_layGrowths_136 rfl hl (by decide) rfl (fun ls hl => ?_)
                    obtain ⟨t25, et25⟩ : ∃ y : Int32, y = l3_1 + 1 := ⟨_, rfl⟩
                    have rg26 := fb_rng l3_1
                    have zt25 : t25.toInt = l3_1.toInt + 1 := by rw [et25]; exact add_i rfl (by decide) (by omega) (by omega)
                    refine lv_iinc (v := t25) (lv' := [(3, .int t25), (2, .int t24), (4, .int l4_10), (0, .ref y0), (1, .int p1)]) hx hb dX11_layGrowths_137 hl (k := 2) rfl (by rw [et25]; rfl) (by decide) rfl (fun ls hl => ?_)
                    refine lv_goto (tgt := 4) hx hb dX11_layGrowths_140 (by decide) ?_
                    have rg27 := fb_rng t25
                    exact ih1 t24 t25 v10 f21 w10 g10 hIv10 hCf21 hRf21 hq0_v10 hq1_v10 hq2_v10 hq3_v10 hq4_v10 hq5_v10 hq8_v10 hq9_v10 hq10_v10 hq13_v10 hq14_v10 hq15_v10 hq17_v10 hq18_v10 hq24_v10 hq25_v10 hq35_v10 hq36_v10 hq38_v10 hq39_v10 ⟨show (0 : Int) ≤ t25.toInt by omega, show t25.toInt ≤ (2147483647 : Int) by omega⟩ hM_v10 hA_f21 (by show (2147483647 - t25.toInt).toNat < n1; omega) _ _ _ hP hD hS (lv_sub hl [0, 1, 3, 4] rfl)
                · skip
                  have zc11 : ¬ (20 < l4_10.toInt) := by rw [fa_lt, show (20 : Int32).toInt = 20 from by decide] at c11; exact c11
                  refine lv_aload_n hx hb dX11_layGrowths_38 rfl (lv_at hl 3 rfl) ?_
                  refine va_get (D := (dC, dI)) (ci := 11) (v := .ref (r 75)) (C := RX11) (T := TX11) (N := 79) hx hb hts inB_11 hown hE.1 hP 0 rfl rfl 75 (by decide) (hts _ k_1395) (fun _ h9 => h9) rfl dX11_layGrowths_39 ?_
                  refine lv_bipush (v := 21) hx hb dX11_layGrowths_42 (by decide) ?_
                  refine lv_iload_n hx hb dX11_layGrowths_44 rfl (lv_at hl 1 rfl) ?_
                  refine lv_imul hx hb dX11_layGrowths_45 ?_
                  refine lv_topi (fun t28 et28 => ?_)
                  have rg29 := fb_rng l3_1
                  have zt28 : t28.toInt = 21 * l3_1.toInt := by rw [et28]; exact mul_i (by decide) rfl (by omega) (by omega)
                  refine lv_iload hx hb dX11_layGrowths_46 (lv_at hl 0 rfl) ?_
                  refine lv_iadd hx hb dX11_layGrowths_48 ?_
                  refine lv_topi (fun t30 et30 => ?_)
                  have rg31 := fb_rng t28
                  have rg32 := fb_rng l4_10
                  have zt30 : t30.toInt = t28.toInt + l4_10.toInt := by rw [et30]; exact add_i rfl rfl (by omega) (by omega)
                  refine lv_aload_n hx hb dX11_layGrowths_49 rfl (lv_at hl 3 rfl) ?_
                  refine lv_iconst (v := 0) hx hb dX11_layGrowths_50 (by decide) ?_
                  refine lv_iconst (v := 0) hx hb dX11_layGrowths_51 (by decide) ?_
                  refine cbVi (n := 2) (rest := [.int t30, .ref (r 75)]) hx hb hml hown hts hE hP hD hS hA (sY_X11_fits_1 l dC dI cy y0 r 0 0 v10 f10 w10 g10 hIv10 hCf10 hRf10 ⟨by decide, by decide⟩ ⟨by decide, by decide⟩) k_1747 k_1749 k_73 k_114 k_1750 (by decide +kernel) ⟨Nat.le_of_ble_eq_true rfl, Nat.le_of_ble_eq_true rfl⟩ 0 11 rfl rfl (rfl) hl.1 rfl (Nat.le_of_ble_eq_true rfl) dX11_layGrowths_52 (fun r33 u H locs hw hP hD hS => ?_)
                  obtain ⟨v34, f35, w36, g37⟩ := u
                  obtain ⟨kV_v34, kF_f35, hIv34, hCf35, hRf35, hk0_v34, hk1_v34, hk2_v34, hk3_v34, hk4_v34, hk5_v34, hk8_v34, hk9_v34, hk10_v34, hk13_v34, hk14_v34, hk15_v34, hk17_v34, hk18_v34, hk24_v34, hk25_v34, hk35_v34, hk36_v34, hk38_v34, hk39_v34, hw⟩ := hw
                  have hM_v34 : KV [] v34 v := KV.tr kV_v34 hM_v10 rfl
                  have hA_f35 : KF [7, 8, 24, 34, 35] f35 f := KF.tr kF_f35 hA_f10 rfl
                  have hP : va_P (dC, dI) vwCl (YW cy y0 r v34 f35 w36 g37) H := hP
                  have hD : va_D A (YW cy y0 r v34 f35 w36 g37) := hD
                  have hUv34 : (v34 35).toInt + (v34 36).toInt ≤ 40 := hIv34.2
                  have hq0_v34 : v34 0 = (v 0) := hk0_v34.trans hq0_v10
                  have hq1_v34 : v34 1 = (v 1) := hk1_v34.trans hq1_v10
                  have hq2_v34 : v34 2 = (v 2) := hk2_v34.trans hq2_v10
                  have hq3_v34 : v34 3 = (v 3) := hk3_v34.trans hq3_v10
                  have hq4_v34 : v34 4 = (v 4) := hk4_v34.trans hq4_v10
                  have hq5_v34 : v34 5 = (v 5) := hk5_v34.trans hq5_v10
                  have hq8_v34 : v34 8 = (v 8) := hk8_v34.trans hq8_v10
                  have hq9_v34 : v34 9 = (v 9) := hk9_v34.trans hq9_v10
                  have zq9_v34 := congrArg Int32.toInt hq9_v34
                  have hq10_v34 : v34 10 = (v 10) := hk10_v34.trans hq10_v10
                  have hq13_v34 : v34 13 = (v 13) := hk13_v34.trans hq13_v10
                  have hq14_v34 : v34 14 = (v 14) := hk14_v34.trans hq14_v10
                  have hq15_v34 : v34 15 = (v 15) := hk15_v34.trans hq15_v10
                  have hq17_v34 : v34 17 = (v 17) := hk17_v34.trans hq17_v10
                  have hq18_v34 : v34 18 = (v 18) := hk18_v34.trans hq18_v10
                  have hq24_v34 : v34 24 = (v 24) := hk24_v34.trans hq24_v10
                  have hq25_v34 : v34 25 = (v 25) := hk25_v34.trans hq25_v10
                  have hq35_v34 : v34 35 = (v 35) := hk35_v34.trans hq35_v10
                  have hq36_v34 : v34 36 = (v 36) := hk36_v34.trans hq36_v10
                  have hq38_v34 : v34 38 = (v 38) := hk38_v34.trans hq38_v10
                  have hq39_v34 : v34 39 = (v 39) := hk39_v34.trans hq39_v10
                  rcases hw with ⟨g38⟩ | ⟨g38⟩
                  · skip
                    subst g38
                    refine stZ hx hb hE hP hD hS 35 rfl (vp_in_iff.mpr ⟨by omega, by omega⟩) rfl dX11_layGrowths_55 (fun H locs hP hD hS => ?_)
                    obtain ⟨f39, ef39, hP, hD⟩ : ∃ fz9, fz9 = upd2 f35 34 (upd (f35 34) t30.toNatClampNeg (vp_nar .boolean 1)) ∧ va_P (dC, dI) vwCl (YW cy y0 r v34 fz9 w36 g37) H ∧ va_D A (YW cy y0 r v34 fz9 w36 g37) := ⟨_, rfl, hP, hD⟩
                    have hCf39 : YC f39 := by rw [ef39]; exact hCf35
                    have hRf39 : progOK (f39 4) (f39 5) (v34 9).toInt.toNat := by rw [ef39]; exact hRf35
                    have hA_f39 : KF [7, 8, 24, 34, 35] f39 f := by rw [ef39]; exact KF.up hA_f35 rfl
                    refine lv_aload_n hx hb dX11_layGrowths_56 rfl (lv_at hl 3 rfl) ?_
                    refine va_get (D := (dC, dI)) (ci := 11) (v := .ref (r 60)) (C := RX11) (T := TX11) (N := 79) hx hb hts inB_11 hown hE.1 hP 0 rfl rfl 60 (by decide) (hts _ k_1380) (fun _ h9 => h9) rfl dX11_layGrowths_57 ?_
                    refine lv_iconst (v := 0) hx hb dX11_layGrowths_60 (by decide) ?_
                    refine lv_bipush (v := 99) hx hb dX11_layGrowths_61 (by decide) ?_
                    refine lv_aload_n hx hb dX11_layGrowths_63 rfl (lv_at hl 3 rfl) ?_
                    refine va_get (D := (dC, dI)) (ci := 11) (v := .ref (r 60)) (C := RX11) (T := TX11) (N := 79) hx hb hts inB_11 hown hE.1 hP 0 rfl rfl 60 (by decide) (hts _ k_1380) (fun _ h9 => h9) rfl dX11_layGrowths_64 ?_
                    refine lv_iconst (v := 0) hx hb dX11_layGrowths_67 (by decide) ?_
                    refine ldI hx hb hE hP 25 rfl (vp_in_nI (n := 0) (by decide) (by decide)) rfl rfl dX11_layGrowths_68 ?_
                    refine lv_topi (fun t40 et40 => ?_)
                    have zt40 : 0 % 39 < 6 ∨ 12 ≤ 0 % 39 ∨ (-1 ≤ t40.toInt ∧ t40.toInt ≤ 5) := by rw [et40]; exact wear_ld hCf39.2.1 (show 0 < 39 by omega)
                    refine lv_iload_n hx hb dX11_layGrowths_69 rfl (lv_at hl 1 rfl) ?_
                    refine lv_iadd hx hb dX11_layGrowths_70 ?_
                    refine lv_topi (fun t41 et41 => ?_)
                    have lt42 : (99 : Int32).toInt = 99 := by decide
                    refine cbSi (n := 2) (rest := [.int 0, .ref (r 60)]) hx hb hml hown hts hE hP hD hS hA (sY_X11_lesser_1 l dC dI cy y0 r 99 t41 v34 f39 w36 g37 hIv34 hCf39 hRf39 ) k_1799 k_1800 k_114 k_1801 (by decide +kernel) ⟨Nat.le_of_ble_eq_true rfl, Nat.le_of_ble_eq_true rfl⟩ (rfl) hl.1 rfl (Nat.le_of_ble_eq_true rfl) dX11_layGrowths_71 (fun r43 u H locs hw hP hD hS => ?_)
                    obtain ⟨pp44, pp45⟩ := hw
                    have pp44 : r43.toInt ≤ (99 : Int32).toInt := pp44
                    have pp45 : r43.toInt ≤ t41.toInt := pp45
                    refine stI hx hb hE hP hD hS 25 rfl (vp_in_nI (n := 0) (by decide) (by decide)) rfl dX11_layGrowths_74 (fun H locs hP hD hS => ?_)
                    obtain ⟨f46, ef46, hP, hD⟩ : ∃ fz9, fz9 = upd2 f39 24 (upd (f39 24) (0 : Int32).toNatClampNeg r43) ∧ va_P (dC, dI) vwCl (YW cy y0 r v34 fz9 w36 g37) H ∧ va_D A (YW cy y0 r v34 fz9 w36 g37) := ⟨_, rfl, hP, hD⟩
                    have hCf46 : YC f46 := by rw [ef46]; exact ⟨hCf39.1, (wear_st hCf39.2.1 (by show 0 % 39 < 6 ∨ 12 ≤ 0 % 39 ∨ (-1 ≤ r43.toInt ∧ r43.toInt ≤ 5); omega)), hCf39.2.2.1, hCf39.2.2.2.1, hCf39.2.2.2.2.1, hCf39.2.2.2.2.2⟩
                    have hRf46 : progOK (f46 4) (f46 5) (v34 9).toInt.toNat := by rw [ef46]; exact hRf39
                    have hA_f46 : KF [7, 8, 24, 34, 35] f46 f := by rw [ef46]; exact KF.up hA_f39 rfl
                    refine lv_aload_n hx hb dX11_layGrowths_75 rfl (lv_at hl 3 rfl) ?_
                    refine va_get (D := (dC, dI)) (ci := 11) (v := .ref (r 60)) (C := RX11) (T := TX11) (N := 79) hx hb hts inB_11 hown hE.1 hP 0 rfl rfl 60 (by decide) (hts _ k_1380) (fun _ h9 => h9) rfl dX11_layGrowths_76 ?_
                    refine lv_bipush (v := 30) hx hb dX11_layGrowths_79 (by decide) ?_
                    refine lv_bipush (v := 99) hx hb dX11_layGrowths_81 (by decide) ?_
                    refine lv_aload_n hx hb dX11_layGrowths_83 rfl (lv_at hl 3 rfl) ?_
                    refine va_get (D := (dC, dI)) (ci := 11) (v := .ref (r 60)) (C := RX11) (T := TX11) (N := 79) hx hb hts inB_11 hown hE.1 hP 0 rfl rfl 60 (by decide) (hts _ k_1380) (fun _ h9 => h9) rfl dX11_layGrowths_84 ?_
                    refine lv_bipush (v := 30) hx hb dX11_layGrowths_87 (by decide) ?_
                    refine ldI hx hb hE hP 25 rfl (vp_in_nI (n := 30) (by decide) (by decide)) rfl rfl dX11_layGrowths_89 ?_
                    refine lv_topi (fun t47 et47 => ?_)
                    have zt47 : 30 % 39 < 6 ∨ 12 ≤ 30 % 39 ∨ (-1 ≤ t47.toInt ∧ t47.toInt ≤ 5) := by rw [et47]; exact wear_ld hCf46.2.1 (show 30 < 39 by omega)
                    refine lv_iconst (v := 1) hx hb dX11_layGrowths_90 (by decide) ?_
                    refine lv_iadd hx hb dX11_layGrowths_91 ?_
                    refine lv_topi (fun t48 et48 => ?_)
                    refine cbSi (n := 2) (rest := [.int 30, .ref (r 60)]) hx hb hml hown hts hE hP hD hS hA (sY_X11_lesser_1 l dC dI cy y0 r 99 t48 v34 f46 w36 g37 hIv34 hCf46 hRf46 ) k_1799 k_1800 k_114 k_1801 (by decide +kernel) ⟨Nat.le_of_ble_eq_true rfl, Nat.le_of_ble_eq_true rfl⟩ (rfl) hl.1 rfl (Nat.le_of_ble_eq_true rfl) dX11_layGrowths_92 (fun r49 u H locs hw hP hD hS => ?_)
                    obtain ⟨pp50, pp51⟩ := hw
                    have pp50 : r49.toInt ≤ (99 : Int32).toInt := pp50
                    have pp51 : r49.toInt ≤ t48.toInt := pp51
                    refine stI hx hb hE hP hD hS 25 rfl (vp_in_nI (n := 30) (by decide) (by decide)) rfl dX11_layGrowths_95 (fun H locs hP hD hS => ?_)
                    obtain ⟨f52, ef52, hP, hD⟩ : ∃ fz9, fz9 = upd2 f46 24 (upd (f46 24) (30 : Int32).toNatClampNeg r49) ∧ va_P (dC, dI) vwCl (YW cy y0 r v34 fz9 w36 g37) H ∧ va_D A (YW cy y0 r v34 fz9 w36 g37) := ⟨_, rfl, hP, hD⟩
                    have hCf52 : YC f52 := by rw [ef52]; exact ⟨hCf46.1, (wear_st hCf46.2.1 (by show 30 % 39 < 6 ∨ 12 ≤ 30 % 39 ∨ (-1 ≤ r49.toInt ∧ r49.toInt ≤ 5); omega)), hCf46.2.2.1, hCf46.2.2.2.1, hCf46.2.2.2.2.1, hCf46.2.2.2.2.2⟩
                    have hRf52 : progOK (f52 4) (f52 5) (v34 9).toInt.toNat := by rw [ef52]; exact hRf46
                    have hA_f52 : KF [7, 8, 24, 34, 35] f52 f := by rw [ef52]; exact KF.up hA_f46 rfl
                    refine lv_aload_n hx hb dX11_layGrowths_96 rfl (lv_at hl 3 rfl) ?_
                    refine va_get (D := (dC, dI)) (ci := 11) (v := .ref (r 60)) (C := RX11) (T := TX11) (N := 79) hx hb hts inB_11 hown hE.1 hP 0 rfl rfl 60 (by decide) (hts _ k_1380) (fun _ h9 => h9) rfl dX11_layGrowths_97 ?_
                    refine lv_bipush (v := 37) hx hb dX11_layGrowths_100 (by decide) ?_
                    refine lv_dup2_11 hx hb dX11_layGrowths_102 rfl rfl ?_
                    refine ldI hx hb hE hP 25 rfl (vp_in_nI (n := 37) (by decide) (by decide)) rfl rfl dX11_layGrowths_103 ?_
                    refine lv_topi (fun t53 et53 => ?_)
                    have zt53 : 37 % 39 < 6 ∨ 12 ≤ 37 % 39 ∨ (-1 ≤ t53.toInt ∧ t53.toInt ≤ 5) := by rw [et53]; exact wear_ld hCf52.2.1 (show 37 < 39 by omega)
                    refine lv_iconst (v := 1) hx hb dX11_layGrowths_104 (by decide) ?_
                    refine lv_iadd hx hb dX11_layGrowths_105 ?_
                    refine lv_topi (fun t54 et54 => ?_)
                    refine stI hx hb hE hP hD hS 25 rfl (vp_in_nI (n := 37) (by decide) (by decide)) rfl dX11_layGrowths_106 (fun H locs hP hD hS => ?_)
                    obtain ⟨f55, ef55, hP, hD⟩ : ∃ fz9, fz9 = upd2 f52 24 (upd (f52 24) (37 : Int32).toNatClampNeg t54) ∧ va_P (dC, dI) vwCl (YW cy y0 r v34 fz9 w36 g37) H ∧ va_D A (YW cy y0 r v34 fz9 w36 g37) := ⟨_, rfl, hP, hD⟩
                    have hCf55 : YC f55 := by rw [ef55]; exact ⟨hCf52.1, (wear_st hCf52.2.1 (by show 37 % 39 < 6 ∨ 12 ≤ 37 % 39 ∨ (-1 ≤ t54.toInt ∧ t54.toInt ≤ 5); omega)), hCf52.2.2.1, hCf52.2.2.2.1, hCf52.2.2.2.2.1, hCf52.2.2.2.2.2⟩
                    have hRf55 : progOK (f55 4) (f55 5) (v34 9).toInt.toNat := by rw [ef55]; exact hRf52
                    have hA_f55 : KF [7, 8, 24, 34, 35] f55 f := by rw [ef55]; exact KF.up hA_f52 rfl
                    obtain ⟨t56, et56⟩ : ∃ y : Int32, y = l4_10 + 1 := ⟨_, rfl⟩
                    have zt56 : t56.toInt = l4_10.toInt + 1 := by rw [et56]; exact add_i rfl (by decide) (by omega) (by omega)
                    refine lv_iinc (v := t56) (lv' := [(4, .int t56), (3, .int l3_1), (2, .int l2_1), (0, .ref y0), (1, .int p1)]) hx hb dX11_layGrowths_107 hl (k := 0) rfl (by rw [et56]; rfl) (by decide) rfl (fun ls hl => ?_)
                    refine lv_goto (tgt := 31) hx hb dX11_layGrowths_110 (by decide) ?_
                    have rg57 := fb_rng t56
                    exact ih10 t56 v34 f55 w36 g37 hIv34 hCf55 hRf55 hq0_v34 hq1_v34 hq2_v34 hq3_v34 hq4_v34 hq5_v34 hq8_v34 hq9_v34 hq10_v34 hq13_v34 hq14_v34 hq15_v34 hq17_v34 hq18_v34 hq24_v34 hq25_v34 hq35_v34 hq36_v34 hq38_v34 hq39_v34 ⟨show (0 : Int) ≤ t56.toInt by omega, show t56.toInt ≤ (2147483647 : Int) by omega⟩ hM_v34 hA_f55 (by show (2147483647 - t56.toInt).toNat < n10; omega) _ _ _ hP hD hS (lv_sub hl [0, 1, 2, 3, 4] rfl)
                  · skip
                    subst g38
                    refine stZ hx hb hE hP hD hS 35 rfl (vp_in_iff.mpr ⟨by omega, by omega⟩) rfl dX11_layGrowths_55 (fun H locs hP hD hS => ?_)
                    obtain ⟨f58, ef58, hP, hD⟩ : ∃ fz9, fz9 = upd2 f35 34 (upd (f35 34) t30.toNatClampNeg (vp_nar .boolean 0)) ∧ va_P (dC, dI) vwCl (YW cy y0 r v34 fz9 w36 g37) H ∧ va_D A (YW cy y0 r v34 fz9 w36 g37) := ⟨_, rfl, hP, hD⟩
                    have hCf58 : YC f58 := by rw [ef58]; exact hCf35
                    have hRf58 : progOK (f58 4) (f58 5) (v34 9).toInt.toNat := by rw [ef58]; exact hRf35
                    have hA_f58 : KF [7, 8, 24, 34, 35] f58 f := by rw [ef58]; exact KF.up hA_f35 rfl
                    refine lv_aload_n hx hb dX11_layGrowths_56 rfl (lv_at hl 3 rfl) ?_
                    refine va_get (D := (dC, dI)) (ci := 11) (v := .ref (r 60)) (C := RX11) (T := TX11) (N := 79) hx hb hts inB_11 hown hE.1 hP 0 rfl rfl 60 (by decide) (hts _ k_1380) (fun _ h9 => h9) rfl dX11_layGrowths_57 ?_
                    refine lv_iconst (v := 0) hx hb dX11_layGrowths_60 (by decide) ?_
                    refine lv_bipush (v := 99) hx hb dX11_layGrowths_61 (by decide) ?_
                    refine lv_aload_n hx hb dX11_layGrowths_63 rfl (lv_at hl 3 rfl) ?_
                    refine va_get (D := (dC, dI)) (ci := 11) (v := .ref (r 60)) (C := RX11) (T := TX11) (N := 79) hx hb hts inB_11 hown hE.1 hP 0 rfl rfl 60 (by decide) (hts _ k_1380) (fun _ h9 => h9) rfl dX11_layGrowths_64 ?_
                    refine lv_iconst (v := 0) hx hb dX11_layGrowths_67 (by decide) ?_
                    refine ldI hx hb hE hP 25 rfl (vp_in_nI (n := 0) (by decide) (by decide)) rfl rfl dX11_layGrowths_68 ?_
                    refine lv_topi (fun t59 et59 => ?_)
                    have zt59 : 0 % 39 < 6 ∨ 12 ≤ 0 % 39 ∨ (-1 ≤ t59.toInt ∧ t59.toInt ≤ 5) := by rw [et59]; exact wear_ld hCf58.2.1 (show 0 < 39 by omega)
                    refine lv_iload_n hx hb dX11_layGrowths_69 rfl (lv_at hl 1 rfl) ?_
                    refine lv_iadd hx hb dX11_layGrowths_70 ?_
                    refine lv_topi (fun t60 et60 => ?_)
                    have lt61 : (99 : Int32).toInt = 99 := by decide
                    refine cbSi (n := 2) (rest := [.int 0, .ref (r 60)]) hx hb hml hown hts hE hP hD hS hA (sY_X11_lesser_1 l dC dI cy y0 r 99 t60 v34 f58 w36 g37 hIv34 hCf58 hRf58 ) k_1799 k_1800 k_114 k_1801 (by decide +kernel) ⟨Nat.le_of_ble_eq_true rfl, Nat.le_of_ble_eq_true rfl⟩ (rfl) hl.1 rfl (Nat.le_of_ble_eq_true rfl) dX11_layGrowths_71 (fun r62 u H locs hw hP hD hS => ?_)
                    obtain ⟨pp63, pp64⟩ := hw
                    have pp63 : r62.toInt ≤ (99 : Int32).toInt := pp63
                    have pp64 : r62.toInt ≤ t60.toInt := pp64
                    refine stI hx hb hE hP hD hS 25 rfl (vp_in_nI (n := 0) (by decide) (by decide)) rfl dX11_layGrowths_74 (fun H locs hP hD hS => ?_)
                    obtain ⟨f65, ef65, hP, hD⟩ : ∃ fz9, fz9 = upd2 f58 24 (upd (f58 24) (0 : Int32).toNatClampNeg r62) ∧ va_P (dC, dI) vwCl (YW cy y0 r v34 fz9 w36 g37) H ∧ va_D A (YW cy y0 r v34 fz9 w36 g37) := ⟨_, rfl, hP, hD⟩
                    have hCf65 : YC f65 := by rw [ef65]; exact ⟨hCf58.1, (wear_st hCf58.2.1 (by show 0 % 39 < 6 ∨ 12 ≤ 0 % 39 ∨ (-1 ≤ r62.toInt ∧ r62.toInt ≤ 5); omega)), hCf58.2.2.1, hCf58.2.2.2.1, hCf58.2.2.2.2.1, hCf58.2.2.2.2.2⟩
                    have hRf65 : progOK (f65 4) (f65 5) (v34 9).toInt.toNat := by rw [ef65]; exact hRf58
                    have hA_f65 : KF [7, 8, 24, 34, 35] f65 f := by rw [ef65]; exact KF.up hA_f58 rfl
                    refine lv_aload_n hx hb dX11_layGrowths_75 rfl (lv_at hl 3 rfl) ?_
                    refine va_get (D := (dC, dI)) (ci := 11) (v := .ref (r 60)) (C := RX11) (T := TX11) (N := 79) hx hb hts inB_11 hown hE.1 hP 0 rfl rfl 60 (by decide) (hts _ k_1380) (fun _ h9 => h9) rfl dX11_layGrowths_76 ?_
                    refine lv_bipush (v := 30) hx hb dX11_layGrowths_79 (by decide) ?_
                    refine lv_bipush (v := 99) hx hb dX11_layGrowths_81 (by decide) ?_
                    refine lv_aload_n hx hb dX11_layGrowths_83 rfl (lv_at hl 3 rfl) ?_
                    refine va_get (D := (dC, dI)) (ci := 11) (v := .ref (r 60)) (C := RX11) (T := TX11) (N := 79) hx hb hts inB_11 hown hE.1 hP 0 rfl rfl 60 (by decide) (hts _ k_1380) (fun _ h9 => h9) rfl dX11_layGrowths_84 ?_
                    refine lv_bipush (v := 30) hx hb dX11_layGrowths_87 (by decide) ?_
                    refine ldI hx hb hE hP 25 rfl (vp_in_nI (n := 30) (by decide) (by decide)) rfl rfl dX11_layGrowths_89 ?_
                    refine lv_topi (fun t66 et66 => ?_)
                    have zt66 : 30 % 39 < 6 ∨ 12 ≤ 30 % 39 ∨ (-1 ≤ t66.toInt ∧ t66.toInt ≤ 5) := by rw [et66]; exact wear_ld hCf65.2.1 (show 30 < 39 by omega)
                    refine lv_iconst (v := 1) hx hb dX11_layGrowths_90 (by decide) ?_
                    refine lv_iadd hx hb dX11_layGrowths_91 ?_
                    refine lv_topi (fun t67 et67 => ?_)
                    refine cbSi (n := 2) (rest := [.int 30, .ref (r 60)]) hx hb hml hown hts hE hP hD hS hA (sY_X11_lesser_1 l dC dI cy y0 r 99 t67 v34 f65 w36 g37 hIv34 hCf65 hRf65 ) k_1799 k_1800 k_114 k_1801 (by decide +kernel) ⟨Nat.le_of_ble_eq_true rfl, Nat.le_of_ble_eq_true rfl⟩ (rfl) hl.1 rfl (Nat.le_of_ble_eq_true rfl) dX11_layGrowths_92 (fun r68 u H locs hw hP hD hS => ?_)
                    obtain ⟨pp69, pp70⟩ := hw
                    have pp69 : r68.toInt ≤ (99 : Int32).toInt := pp69
                    have pp70 : r68.toInt ≤ t67.toInt := pp70
                    refine stI hx hb hE hP hD hS 25 rfl (vp_in_nI (n := 30) (by decide) (by decide)) rfl dX11_layGrowths_95 (fun H locs hP hD hS => ?_)
                    obtain ⟨f71, ef71, hP, hD⟩ : ∃ fz9, fz9 = upd2 f65 24 (upd (f65 24) (30 : Int32).toNatClampNeg r68) ∧ va_P (dC, dI) vwCl (YW cy y0 r v34 fz9 w36 g37) H ∧ va_D A (YW cy y0 r v34 fz9 w36 g37) := ⟨_, rfl, hP, hD⟩
                    have hCf71 : YC f71 := by rw [ef71]; exact ⟨hCf65.1, (wear_st hCf65.2.1 (by show 30 % 39 < 6 ∨ 12 ≤ 30 % 39 ∨ (-1 ≤ r68.toInt ∧ r68.toInt ≤ 5); omega)), hCf65.2.2.1, hCf65.2.2.2.1, hCf65.2.2.2.2.1, hCf65.2.2.2.2.2⟩
                    have hRf71 : progOK (f71 4) (f71 5) (v34 9).toInt.toNat := by rw [ef71]; exact hRf65
                    have hA_f71 : KF [7, 8, 24, 34, 35] f71 f := by rw [ef71]; exact KF.up hA_f65 rfl
                    refine lv_aload_n hx hb dX11_layGrowths_96 rfl (lv_at hl 3 rfl) ?_
                    refine va_get (D := (dC, dI)) (ci := 11) (v := .ref (r 60)) (C := RX11) (T := TX11) (N := 79) hx hb hts inB_11 hown hE.1 hP 0 rfl rfl 60 (by decide) (hts _ k_1380) (fun _ h9 => h9) rfl dX11_layGrowths_97 ?_
                    refine lv_bipush (v := 37) hx hb dX11_layGrowths_100 (by decide) ?_
                    refine lv_dup2_11 hx hb dX11_layGrowths_102 rfl rfl ?_
                    refine ldI hx hb hE hP 25 rfl (vp_in_nI (n := 37) (by decide) (by decide)) rfl rfl dX11_layGrowths_103 ?_
                    refine lv_topi (fun t72 et72 => ?_)
                    have zt72 : 37 % 39 < 6 ∨ 12 ≤ 37 % 39 ∨ (-1 ≤ t72.toInt ∧ t72.toInt ≤ 5) := by rw [et72]; exact wear_ld hCf71.2.1 (show 37 < 39 by omega)
                    refine lv_iconst (v := 1) hx hb dX11_layGrowths_104 (by decide) ?_
                    refine lv_iadd hx hb dX11_layGrowths_105 ?_
                    refine lv_topi (fun t73 et73 => ?_)
                    refine stI hx hb hE hP hD hS 25 rfl (vp_in_nI (n := 37) (by decide) (by decide)) rfl dX11_layGrowths_106 (fun H locs hP hD hS => ?_)
                    obtain ⟨f74, ef74, hP, hD⟩ : ∃ fz9, fz9 = upd2 f71 24 (upd (f71 24) (37 : Int32).toNatClampNeg t73) ∧ va_P (dC, dI) vwCl (YW cy y0 r v34 fz9 w36 g37) H ∧ va_D A (YW cy y0 r v34 fz9 w36 g37) := ⟨_, rfl, hP, hD⟩
                    have hCf74 : YC f74 := by rw [ef74]; exact ⟨hCf71.1, (wear_st hCf71.2.1 (by show 37 % 39 < 6 ∨ 12 ≤ 37 % 39 ∨ (-1 ≤ t73.toInt ∧ t73.toInt ≤ 5); omega)), hCf71.2.2.1, hCf71.2.2.2.1, hCf71.2.2.2.2.1, hCf71.2.2.2.2.2⟩
                    have hRf74 : progOK (f74 4) (f74 5) (v34 9).toInt.toNat := by rw [ef74]; exact hRf71
                    have hA_f74 : KF [7, 8, 24, 34, 35] f74 f := by rw [ef74]; exact KF.up hA_f71 rfl
                    obtain ⟨t75, et75⟩ : ∃ y : Int32, y = l4_10 + 1 := ⟨_, rfl⟩
                    have zt75 : t75.toInt = l4_10.toInt + 1 := by rw [et75]; exact add_i rfl (by decide) (by omega) (by omega)
                    refine lv_iinc (v := t75) (lv' := [(4, .int t75), (3, .int l3_1), (2, .int l2_1), (0, .ref y0), (1, .int p1)]) hx hb dX11_layGrowths_107 hl (k := 0) rfl (by rw [et75]; rfl) (by decide) rfl (fun ls hl => ?_)
                    refine lv_goto (tgt := 31) hx hb dX11_layGrowths_110 (by decide) ?_
                    have rg76 := fb_rng t75
                    exact ih10 t75 v34 f74 w36 g37 hIv34 hCf74 hRf74 hq0_v34 hq1_v34 hq2_v34 hq3_v34 hq4_v34 hq5_v34 hq8_v34 hq9_v34 hq10_v34 hq13_v34 hq14_v34 hq15_v34 hq17_v34 hq18_v34 hq24_v34 hq25_v34 hq35_v34 hq36_v34 hq38_v34 hq39_v34 ⟨show (0 : Int) ≤ t75.toInt by omega, show t75.toInt ≤ (2147483647 : Int) by omega⟩ hM_v34 hA_f74 (by show (2147483647 - t75.toInt).toNat < n10; omega) _ _ _ hP hD hS (lv_sub hl [0, 1, 2, 3, 4] rfl)
            exact lp10 _ 0 v6 f7 w8 g9 hIv6 hCf7 hRf7 hq0_v6 hq1_v6 hq2_v6 hq3_v6 hq4_v6 hq5_v6 hq8_v6 hq9_v6 hq10_v6 hq13_v6 hq14_v6 hq15_v6 hq17_v6 hq18_v6 hq24_v6 hq25_v6 hq35_v6 hq36_v6 hq38_v6 hq39_v6 ⟨by decide, by decide⟩ hM_v6 hA_f7 (Nat.lt_succ_self _) _ _ _ hP hD hS (lv_sub hl [0, 1, 2, 3, 4] rfl)
  exact lp1 _ 0 0 v f w g hIv hCf hRf rfl rfl rfl rfl rfl rfl rfl rfl rfl rfl rfl rfl rfl rfl rfl rfl rfl rfl rfl rfl ⟨by decide, by decide⟩ hM_v hA_f (Nat.lt_succ_self _) _ _ _ hP hD hS (lv_sub hl [0, 1, 2, 3] rfl)
set_option maxHeartbeats 4000000 in
set_option maxRecDepth 100000 in
theorem sY_X11_growths_1 (l : Launch) (dC : Nat → ClassId) (dI : Nat → Nat → Nat) (cy : Nat → ClassId) (y0 : Nat) (r : Nat → Nat) (p1 : Int32) (v : Nat → Int32) (f : Nat → Nat → Int32) (w : Int64) (g : Nat → Int64) (hIv : YI v) (hCf : YC f) (hRf : progOK (f 4) (f 5) (v 9).toInt.toNat)  : ctI l (dC, dI) cy yX11_growths cX11_growths 2 .int 6 172 0 0 ((Nat → Int32) × (Nat → Nat → Int32) × (Int64) × (Nat → Int64)) [.ref y0, .int p1] (YW cy y0 r v f w g) (fun r u => KV [] u.1 v ∧ KF [7, 8, 24, 34, 35] u.2.1 f ∧ YI u.1 ∧ YC u.2.1 ∧ progOK (u.2.1 4) (u.2.1 5) (u.1 9).toInt.toNat ∧ u.1 0 = v 0 ∧ u.1 1 = v 1 ∧ u.1 2 = v 2 ∧ u.1 3 = v 3 ∧ u.1 4 = v 4 ∧ u.1 5 = v 5 ∧ u.1 8 = v 8 ∧ u.1 9 = v 9 ∧ u.1 10 = v 10 ∧ u.1 13 = v 13 ∧ u.1 14 = v 14 ∧ u.1 15 = v 15 ∧ u.1 17 = v 17 ∧ u.1 18 = v 18 ∧ u.1 24 = v 24 ∧ u.1 25 = v 25 ∧ u.1 35 = v 35 ∧ u.1 36 = v 36 ∧ u.1 38 = v 38 ∧ u.1 39 = v 39) (fun u => YW cy y0 r u.1 u.2.1 u.2.2.1 u.2.2.2) := by
  refine ctI_of (by decide) (Nat.le_of_ble_eq_true rfl) (fun p e s m below meth c A ls Q hx hb hml hts hown hE hP hD hA hl ret => ?_)
  have hUv : (v 35).toInt + (v 36).toInt ≤ 40 := hIv.2
  have hM_v : KV [] v v := fun _ _ => rfl
  have hA_f : KF [7, 8, 24, 34, 35] f f := fun _ _ => rfl
  have hown : s.vm.findClass RX11 = some m.cls := hown
  have hS : va_S A s.heap s.heap [] := va_S.rf
  have hl : lv_has ls 2 [(0, .ref y0), (1, .int p1)] := hl
  refine lv_aload_n hx hb dX11_growths_0 rfl (lv_at hl 0 rfl) ?_
  refine lv_iload_n hx hb dX11_growths_1 rfl (lv_at hl 1 rfl) ?_
  refine cbVi (n := 1) (rest := []) hx hb hml hown hts hE hP hD hS hA (sY_X11_layGrowths_1 l dC dI cy y0 r p1 v f w g hIv hCf hRf ) k_2024 k_2026 k_97 k_114 k_2027 (by decide +kernel) ⟨Nat.le_of_ble_eq_true rfl, Nat.le_of_ble_eq_true rfl⟩ 0 11 rfl rfl (rfl) hl.1 rfl (Nat.le_of_ble_eq_true rfl) dX11_growths_2 (fun r1 u H locs hw hP hD hS => ?_)
  obtain ⟨v2, f3, w4, g5⟩ := u
  obtain ⟨kV_v2, kF_f3, hIv2, hCf3, hRf3, hk0_v2, hk1_v2, hk2_v2, hk3_v2, hk4_v2, hk5_v2, hk8_v2, hk9_v2, hk10_v2, hk13_v2, hk14_v2, hk15_v2, hk17_v2, hk18_v2, hk24_v2, hk25_v2, hk35_v2, hk36_v2, hk38_v2, hk39_v2⟩ := hw
  have hM_v2 : KV [] v2 v := KV.tr kV_v2 hM_v rfl
  have hA_f3 : KF [7, 8, 24, 34, 35] f3 f := KF.tr kF_f3 hA_f rfl
  have hP : va_P (dC, dI) vwCl (YW cy y0 r v2 f3 w4 g5) H := hP
  have hD : va_D A (YW cy y0 r v2 f3 w4 g5) := hD
  have hUv2 : (v2 35).toInt + (v2 36).toInt ≤ 40 := hIv2.2
  have hq9_v2 : v2 9 = (v 9) := hk9_v2
  have zq9_v2 := congrArg Int32.toInt hq9_v2
  exact ret r1 (v2, f3, w4, g5) _ _ _ _ _ _ rfl ⟨hM_v2, hA_f3, hIv2, hCf3, hRf3, hk0_v2, hk1_v2, hk2_v2, hk3_v2, hk4_v2, hk5_v2, hk8_v2, hk9_v2, hk10_v2, hk13_v2, hk14_v2, hk15_v2, hk17_v2, hk18_v2, hk24_v2, hk25_v2, hk35_v2, hk36_v2, hk38_v2, hk39_v2⟩ hP hD hS dX11_growths_5 (Nat.le_refl _) (Nat.le_refl _)
set_option maxHeartbeats 4000000 in
set_option maxRecDepth 100000 in
theorem sY_X11_sure_1 (l : Launch) (dC : Nat → ClassId) (dI : Nat → Nat → Nat) (cy : Nat → ClassId) (y0 : Nat) (r : Nat → Nat) (p1 : Int32) (p2 : Int32) (v : Nat → Int32) (f : Nat → Nat → Int32) (w : Int64) (g : Nat → Int64) (hIv : YI v) (hCf : YC f) (hRf : progOK (f 4) (f 5) (v 9).toInt.toNat)  : ctI l (dC, dI) cy yX11_sure cX11_sure 5 .int 6 172 0 0 ((Nat → Int32) × (Nat → Nat → Int32) × (Int64) × (Nat → Int64)) [.ref y0, .int p1, .int p2] (YW cy y0 r v f w g) (fun r u => KV [] u.1 v ∧ KF [7, 8, 24, 34, 35] u.2.1 f ∧ YI u.1 ∧ YC u.2.1 ∧ progOK (u.2.1 4) (u.2.1 5) (u.1 9).toInt.toNat ∧ u.1 0 = v 0 ∧ u.1 1 = v 1 ∧ u.1 2 = v 2 ∧ u.1 3 = v 3 ∧ u.1 4 = v 4 ∧ u.1 5 = v 5 ∧ u.1 8 = v 8 ∧ u.1 9 = v 9 ∧ u.1 10 = v 10 ∧ u.1 13 = v 13 ∧ u.1 14 = v 14 ∧ u.1 15 = v 15 ∧ u.1 17 = v 17 ∧ u.1 18 = v 18 ∧ u.1 24 = v 24 ∧ u.1 25 = v 25 ∧ u.1 35 = v 35 ∧ u.1 36 = v 36 ∧ u.1 38 = v 38 ∧ u.1 39 = v 39) (fun u => YW cy y0 r u.1 u.2.1 u.2.2.1 u.2.2.2) := by
  refine ctI_of (by decide) (Nat.le_of_ble_eq_true rfl) (fun p e s m below meth c A ls Q hx hb hml hts hown hE hP hD hA hl ret => ?_)
  have hUv : (v 35).toInt + (v 36).toInt ≤ 40 := hIv.2
  have hM_v : KV [] v v := fun _ _ => rfl
  have hA_f : KF [7, 8, 24, 34, 35] f f := fun _ _ => rfl
  have hown : s.vm.findClass RX11 = some m.cls := hown
  have hS : va_S A s.heap s.heap [] := va_S.rf
  have hl : lv_has ls 5 [(0, .ref y0), (1, .int p1), (2, .int p2)] := hl
  refine lv_iload_n hx hb dX11_sure_0 rfl (lv_at hl 1 rfl) ?_
  refine lv_iconst (v := 0) hx hb dX11_sure_1 (by decide) ?_
  refine lv_iconst (v := 1) hx hb dX11_sure_2 (by decide) ?_
  have lt1 : (0 : Int32).toInt = 0 := by decide
  have lt2 : (1 : Int32).toInt = 1 := by decide
  refine cbSi (n := 3) (rest := []) hx hb hml hown hts hE hP hD hS hA (sY_X11_isIn_1 0 l dC dI cy y0 r p1 0 1 v f w g hIv hCf hRf ) k_1736 k_1737 k_114 k_1738 (by decide +kernel) ⟨Nat.le_of_ble_eq_true rfl, Nat.le_of_ble_eq_true rfl⟩ (rfl) hl.1 rfl (Nat.le_of_ble_eq_true rfl) dX11_sure_3 (fun r3 u H locs hw hP hD hS => ?_)
  obtain ⟨hG4, hw⟩ := hw
  rcases hw with ⟨g5, g5_0, g5_1⟩ | ⟨g5⟩
  · skip
    subst g5
    refine lv_if_eq (tgt := 17) hx hb dX11_sure_6 (by decide) (fun c0 => absurd c0 (by decide)) (fun _ => ?_)
    refine lv_aload_n hx hb dX11_sure_9 rfl (lv_at hl 0 rfl) ?_
    refine lv_iload_n hx hb dX11_sure_10 rfl (lv_at hl 2 rfl) ?_
    refine cbVi (n := 1) (rest := []) hx hb hml hown hts hE hP hD hS hA (sY_X11_layGrowths_1 l dC dI cy y0 r p2 v f w g hIv hCf hRf ) k_2024 k_2026 k_97 k_114 k_2027 (by decide +kernel) ⟨Nat.le_of_ble_eq_true rfl, Nat.le_of_ble_eq_true rfl⟩ 0 11 rfl rfl (rfl) hl.1 rfl (Nat.le_of_ble_eq_true rfl) dX11_sure_11 (fun r6 u H locs hw hP hD hS => ?_)
    obtain ⟨v7, f8, w9, g10⟩ := u
    obtain ⟨kV_v7, kF_f8, hIv7, hCf8, hRf8, hk0_v7, hk1_v7, hk2_v7, hk3_v7, hk4_v7, hk5_v7, hk8_v7, hk9_v7, hk10_v7, hk13_v7, hk14_v7, hk15_v7, hk17_v7, hk18_v7, hk24_v7, hk25_v7, hk35_v7, hk36_v7, hk38_v7, hk39_v7⟩ := hw
    have hM_v7 : KV [] v7 v := KV.tr kV_v7 hM_v rfl
    have hA_f8 : KF [7, 8, 24, 34, 35] f8 f := KF.tr kF_f8 hA_f rfl
    have hP : va_P (dC, dI) vwCl (YW cy y0 r v7 f8 w9 g10) H := hP
    have hD : va_D A (YW cy y0 r v7 f8 w9 g10) := hD
    have hUv7 : (v7 35).toInt + (v7 36).toInt ≤ 40 := hIv7.2
    have hq9_v7 : v7 9 = (v 9) := hk9_v7
    have zq9_v7 := congrArg Int32.toInt hq9_v7
    refine lv_if_ne (tgt := 19) hx hb dX11_sure_14 (by decide) (fun c11 => ?_) (fun c11 => ?_)
    · skip
      have zc11 : ¬ (r6.toInt = 0) := by rw [fa_eq, show (0 : Int32).toInt = 0 from by decide] at c11; exact c11
      refine lv_iconst (v := (-1)) hx hb dX11_sure_19 (by decide) ?_
      refine lv_istore_n (lv' := [(3, .int (-1)), (0, .ref y0), (1, .int p1), (2, .int p2)]) hx hb dX11_sure_20 rfl hl (by decide) rfl (fun ls hl => ?_)
      refine lv_iconst (v := 0) hx hb dX11_sure_21 (by decide) ?_
      refine lv_istore (lv' := [(4, .int 0), (3, .int (-1)), (0, .ref y0), (1, .int p1), (2, .int p2)]) hx hb dX11_sure_22 hl (by decide) rfl (fun ls hl => ?_)
      have lp12 : ∀ (n12 : Nat) (l3_12 : Int32) (l4_12 : Int32), ((0 : Int) ≤ l4_12.toInt ∧ l4_12.toInt ≤ 2147483647) → (2147483647 - l4_12.toInt).toNat < n12 → ∀ (H : Heap) (locs : List Loc) (ls : Array Slot), va_P (dC, dI) vwCl (YW cy y0 r v7 f8 w9 g10) H → va_D A (YW cy y0 r v7 f8 w9 g10) → va_S A s.heap H locs → lv_has ls 5 [(4, .int l4_12), (3, .int l3_12), (0, .ref y0), (1, .int p1), (2, .int p2)] → W p l e { frames := 6, cells := 0, slots := 0, locals := 172 } s m ([.ref y0, .int p1, .int p2] : List Value).toArray below meth c H locs 0 0 Q (F0 m 24 ls []) := by
        intro n12
        induction n12 with
        | zero => intro l3_12 l4_12 hr4_12 hm; exact absurd hm (Nat.not_lt_zero _)
        | succ n12 ih12 =>
          intro l3_12 l4_12 hr4_12 hm12 H locs ls hP hD hS hl
          refine lv_iload hx hb dX11_sure_24 (lv_at hl 0 rfl) ?_
          refine lv_bipush (v := 30) hx hb dX11_sure_26 (by decide) ?_
          refine lv_icmp_gt (tgt := 59) hx hb dX11_sure_28 (by decide) (fun c13 => ?_) (fun c13 => ?_)
          · skip
            have zc13 : 30 < l4_12.toInt := by rw [fa_lt, show (30 : Int32).toInt = 30 from by decide] at c13; exact c13
            refine lv_iload_n hx hb dX11_sure_59 rfl (lv_at hl 1 rfl) ?_
            exact ret l3_12 (v7, f8, w9, g10) _ _ _ _ _ _ rfl ⟨hM_v7, hA_f8, hIv7, hCf8, hRf8, hk0_v7, hk1_v7, hk2_v7, hk3_v7, hk4_v7, hk5_v7, hk8_v7, hk9_v7, hk10_v7, hk13_v7, hk14_v7, hk15_v7, hk17_v7, hk18_v7, hk24_v7, hk25_v7, hk35_v7, hk36_v7, hk38_v7, hk39_v7⟩ hP hD hS dX11_sure_60 (Nat.le_refl _) (Nat.le_refl _)
          · skip
            have zc13 : ¬ (30 < l4_12.toInt) := by rw [fa_lt, show (30 : Int32).toInt = 30 from by decide] at c13; exact c13
            refine lv_aload_n hx hb dX11_sure_31 rfl (lv_at hl 2 rfl) ?_
            refine va_get (D := (dC, dI)) (ci := 11) (v := .ref (r 76)) (C := RX11) (T := TX11) (N := 79) hx hb hts inB_11 hown hE.1 hP 0 rfl rfl 76 (by decide) (hts _ k_1396) (fun _ h9 => h9) rfl dX11_sure_32 ?_
            refine lv_iload hx hb dX11_sure_35 (lv_at hl 0 rfl) ?_
            refine ldZ hx hb hE hP 36 rfl (vp_in_iff.mpr ⟨by omega, by omega⟩) rfl rfl dX11_sure_37 ?_
            refine lv_topi (fun t14 et14 => ?_)
            refine lv_if_eq (tgt := 53) hx hb dX11_sure_38 (by decide) (fun c15 => ?_) (fun c15 => ?_)
            · skip
              have zc15 : t14.toInt = 0 := by rw [fa_eq, show (0 : Int32).toInt = 0 from by decide] at c15; exact c15
              obtain ⟨t16, et16⟩ : ∃ y : Int32, y = l4_12 + 1 := ⟨_, rfl⟩
              have rg17 := fb_rng l4_12
              have zt16 : t16.toInt = l4_12.toInt + 1 := by rw [et16]; exact add_i rfl (by decide) (by omega) (by omega)
              refine lv_iinc (v := t16) (lv' := [(4, .int t16), (3, .int l3_12), (0, .ref y0), (1, .int p1), (2, .int p2)]) hx hb dX11_sure_53 hl (k := 0) rfl (by rw [et16]; rfl) (by decide) rfl (fun ls hl => ?_)
              refine lv_goto (tgt := 24) hx hb dX11_sure_56 (by decide) ?_
              have rg18 := fb_rng t16
              exact ih12 l3_12 t16 ⟨show (0 : Int) ≤ t16.toInt by omega, show t16.toInt ≤ (2147483647 : Int) by omega⟩ (by show (2147483647 - t16.toInt).toNat < n12; omega) _ _ _ hP hD hS (lv_sub hl [0, 1, 2, 3, 4] rfl)
            · skip
              have zc15 : ¬ (t14.toInt = 0) := by rw [fa_eq, show (0 : Int32).toInt = 0 from by decide] at c15; exact c15
              refine lv_iload_n hx hb dX11_sure_41 rfl (lv_at hl 1 rfl) ?_
              refine lv_if_lt (tgt := 50) hx hb dX11_sure_42 (by decide) (fun c19 => ?_) (fun c19 => ?_)
              · skip
                have zc19 : l3_12.toInt < 0 := by rw [fa_lt, show (0 : Int32).toInt = 0 from by decide] at c19; exact c19
                refine lv_iload hx hb dX11_sure_50 (lv_at hl 0 rfl) ?_
                refine lv_istore_n (lv' := [(3, .int l4_12), (4, .int l4_12), (0, .ref y0), (1, .int p1), (2, .int p2)]) hx hb dX11_sure_52 rfl hl (by decide) rfl (fun ls hl => ?_)
                obtain ⟨t20, et20⟩ : ∃ y : Int32, y = l4_12 + 1 := ⟨_, rfl⟩
                have rg21 := fb_rng l4_12
                have zt20 : t20.toInt = l4_12.toInt + 1 := by rw [et20]; exact add_i rfl (by decide) (by omega) (by omega)
                refine lv_iinc (v := t20) (lv' := [(4, .int t20), (3, .int l4_12), (0, .ref y0), (1, .int p1), (2, .int p2)]) hx hb dX11_sure_53 hl (k := 1) rfl (by rw [et20]; rfl) (by decide) rfl (fun ls hl => ?_)
                refine lv_goto (tgt := 24) hx hb dX11_sure_56 (by decide) ?_
                have rg22 := fb_rng t20
                exact ih12 l4_12 t20 ⟨show (0 : Int) ≤ t20.toInt by omega, show t20.toInt ≤ (2147483647 : Int) by omega⟩ (by show (2147483647 - t20.toInt).toNat < n12; omega) _ _ _ hP hD hS (lv_sub hl [0, 1, 2, 3, 4] rfl)
              · skip
                have zc19 : ¬ (l3_12.toInt < 0) := by rw [fa_lt, show (0 : Int32).toInt = 0 from by decide] at c19; exact c19
                refine lv_iload_n hx hb dX11_sure_45 rfl (lv_at hl 3 rfl) ?_
                refine lv_iconst (v := 1) hx hb dX11_sure_46 (by decide) ?_
                refine lv_icmp_ne (tgt := 53) hx hb dX11_sure_47 (by decide) (fun c23 => ?_) (fun c23 => ?_)
                · skip
                  have zc23 : ¬ (p1.toInt = 1) := by rw [fa_eq, show (1 : Int32).toInt = 1 from by decide] at c23; exact c23
                  obtain ⟨t24, et24⟩ : ∃ y : Int32, y = l4_12 + 1 := ⟨_, rfl⟩
                  have rg25 := fb_rng l4_12
                  have zt24 : t24.toInt = l4_12.toInt + 1 := by rw [et24]; exact add_i rfl (by decide) (by omega) (by omega)
                  refine lv_iinc (v := t24) (lv' := [(4, .int t24), (3, .int l3_12), (0, .ref y0), (1, .int p1), (2, .int p2)]) hx hb dX11_sure_53 hl (k := 0) rfl (by rw [et24]; rfl) (by decide) rfl (fun ls hl => ?_)
                  refine lv_goto (tgt := 24) hx hb dX11_sure_56 (by decide) ?_
                  have rg26 := fb_rng t24
                  exact ih12 l3_12 t24 ⟨show (0 : Int) ≤ t24.toInt by omega, show t24.toInt ≤ (2147483647 : Int) by omega⟩ (by show (2147483647 - t24.toInt).toNat < n12; omega) _ _ _ hP hD hS (lv_sub hl [0, 1, 2, 3, 4] rfl)
                · skip
                  have zc23 : p1.toInt = 1 := by rw [fa_eq, show (1 : Int32).toInt = 1 from by decide] at c23; exact c23
                  refine lv_iload hx hb dX11_sure_50 (lv_at hl 0 rfl) ?_
                  refine lv_istore_n (lv' := [(3, .int l4_12), (4, .int l4_12), (0, .ref y0), (1, .int p1), (2, .int p2)]) hx hb dX11_sure_52 rfl hl (by decide) rfl (fun ls hl => ?_)
                  obtain ⟨t27, et27⟩ : ∃ y : Int32, y = l4_12 + 1 := ⟨_, rfl⟩
                  have rg28 := fb_rng l4_12
                  have zt27 : t27.toInt = l4_12.toInt + 1 := by rw [et27]; exact add_i rfl (by decide) (by omega) (by omega)
                  refine lv_iinc (v := t27) (lv' := [(4, .int t27), (3, .int l4_12), (0, .ref y0), (1, .int p1), (2, .int p2)]) hx hb dX11_sure_53 hl (k := 1) rfl (by rw [et27]; rfl) (by decide) rfl (fun ls hl => ?_)
                  refine lv_goto (tgt := 24) hx hb dX11_sure_56 (by decide) ?_
                  have rg29 := fb_rng t27
                  exact ih12 l4_12 t27 ⟨show (0 : Int) ≤ t27.toInt by omega, show t27.toInt ≤ (2147483647 : Int) by omega⟩ (by show (2147483647 - t27.toInt).toNat < n12; omega) _ _ _ hP hD hS (lv_sub hl [0, 1, 2, 3, 4] rfl)
      exact lp12 _ (-1) 0 ⟨by decide, by decide⟩ (Nat.lt_succ_self _) _ _ _ hP hD hS (lv_sub hl [0, 1, 2, 3, 4] rfl)
    · skip
      have zc11 : r6.toInt = 0 := by rw [fa_eq, show (0 : Int32).toInt = 0 from by decide] at c11; exact c11
      refine lv_iconst (v := (-1)) hx hb dX11_sure_17 (by decide) ?_
      exact ret (-1) (v7, f8, w9, g10) _ _ _ _ _ _ rfl ⟨hM_v7, hA_f8, hIv7, hCf8, hRf8, hk0_v7, hk1_v7, hk2_v7, hk3_v7, hk4_v7, hk5_v7, hk8_v7, hk9_v7, hk10_v7, hk13_v7, hk14_v7, hk15_v7, hk17_v7, hk18_v7, hk24_v7, hk25_v7, hk35_v7, hk36_v7, hk38_v7, hk39_v7⟩ hP hD hS dX11_sure_18 (Nat.le_refl _) (Nat.le_refl _)
  · skip
    subst g5
    refine lv_if_eq (tgt := 17) hx hb dX11_sure_6 (by decide) (fun _ => ?_) (fun c0 => absurd (by decide) c0)
    refine lv_iconst (v := (-1)) hx hb dX11_sure_17 (by decide) ?_
    exact ret (-1) (v, f, w, g) _ _ _ _ _ _ rfl ⟨hM_v, hA_f, hIv, hCf, hRf, rfl, rfl, rfl, rfl, rfl, rfl, rfl, rfl, rfl, rfl, rfl, rfl, rfl, rfl, rfl, rfl, rfl, rfl, rfl, rfl⟩ hP hD hS dX11_sure_18 (Nat.le_refl _) (Nat.le_refl _)
