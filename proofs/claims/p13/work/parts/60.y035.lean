set_option maxHeartbeats 4000000 in
set_option maxRecDepth 100000 in
theorem sY_X11_dress_1 (l : Launch) (dC : Nat → ClassId) (dI : Nat → Nat → Nat) (cy : Nat → ClassId) (y0 : Nat) (r : Nat → Nat) (p1 : Int32) (v : Nat → Int32) (f : Nat → Nat → Int32) (w : Int64) (g : Nat → Int64) (hIv : YI v) (hCf : YC f) (hRf : progOK (f 4) (f 5) (v 9).toInt.toNat)  : ctI l (dC, dI) cy yX11_dress cX11_dress 7 .int 5 148 0 0 ((Nat → Int32) × (Nat → Nat → Int32) × (Int64) × (Nat → Int64)) [.ref y0, .int p1] (YW cy y0 r v f w g) (fun r u => KV [37] u.1 v ∧ KF [7, 8, 24, 26, 27, 28] u.2.1 f ∧ YI u.1 ∧ YC u.2.1 ∧ progOK (u.2.1 4) (u.2.1 5) (u.1 9).toInt.toNat ∧ u.1 0 = v 0 ∧ u.1 1 = v 1 ∧ u.1 2 = v 2 ∧ u.1 3 = v 3 ∧ u.1 4 = v 4 ∧ u.1 5 = v 5 ∧ u.1 8 = v 8 ∧ u.1 9 = v 9 ∧ u.1 10 = v 10 ∧ u.1 13 = v 13 ∧ u.1 14 = v 14 ∧ u.1 15 = v 15 ∧ u.1 17 = v 17 ∧ u.1 18 = v 18 ∧ u.1 24 = v 24 ∧ u.1 25 = v 25 ∧ u.1 35 = v 35 ∧ u.1 36 = v 36 ∧ u.1 38 = v 38 ∧ u.1 39 = v 39) (fun u => YW cy y0 r u.1 u.2.1 u.2.2.1 u.2.2.2) := by
  refine ctI_of (by decide) (Nat.le_of_ble_eq_true rfl) (fun p e s m below meth c A ls Q hx hb hml hts hown hE hP hD hA hl ret => ?_)
  have hUv : (v 35).toInt + (v 36).toInt ≤ 40 := hIv.2
  have hM_v : KV [37] v v := fun _ _ => rfl
  have hA_f : KF [7, 8, 24, 26, 27, 28] f f := fun _ _ => rfl
  have hown : s.vm.findClass RX11 = some m.cls := hown
  have hS : va_S A s.heap s.heap [] := va_S.rf
  have hl : lv_has ls 7 [(0, .ref y0), (1, .int p1)] := hl
  refine lv_iload_n hx hb dX11_dress_0 rfl (lv_at hl 1 rfl) ?_
  refine lv_iconst (v := 0) hx hb dX11_dress_1 (by decide) ?_
  refine lv_iconst (v := 1) hx hb dX11_dress_2 (by decide) ?_
  have lt1 : (0 : Int32).toInt = 0 := by decide
  have lt2 : (1 : Int32).toInt = 1 := by decide
  refine cbSi (n := 3) (rest := []) hx hb hml hown hts hE hP hD hS hA (sY_X11_isIn_1 0 l dC dI cy y0 r p1 0 1 v f w g hIv hCf hRf ) k_1736 k_1737 k_114 k_1738 (by decide +kernel) ⟨Nat.le_of_ble_eq_true rfl, Nat.le_of_ble_eq_true rfl⟩ (rfl) hl.1 rfl (Nat.le_of_ble_eq_true rfl) dX11_dress_3 (fun r3 u H locs hw hP hD hS => ?_)
  obtain ⟨hG4, hw⟩ := hw
  rcases hw with ⟨g5, g5_0, g5_1⟩ | ⟨g5⟩
  · skip
    subst g5
    refine lv_if_ne (tgt := 11) hx hb dX11_dress_6 (by decide) (fun _ => ?_) (fun c0 => absurd c0 (by decide))
    refine lv_aload_n hx hb dX11_dress_11 rfl (lv_at hl 0 rfl) ?_
    refine cbVv (n := 0) (rest := []) hx hb hml hown hts hE hP hD hS hA (sY_X11_layIlls_1 l dC dI cy y0 r  v f w g hIv hCf hRf ) k_1873 k_1875 k_84 k_114 k_1876 (by decide +kernel) ⟨Nat.le_of_ble_eq_true rfl, Nat.le_of_ble_eq_true rfl⟩ 0 11 rfl rfl (rfl) hl.1 rfl (Nat.le_of_ble_eq_true rfl) dX11_dress_12 (fun u H locs hw hP hD hS => ?_)
    obtain ⟨v6, f7, w8, g9⟩ := u
    obtain ⟨kV_v6, kF_f7, hIv6, hCf7, hRf7, hk0_v6, hk1_v6, hk2_v6, hk3_v6, hk4_v6, hk5_v6, hk8_v6, hk9_v6, hk10_v6, hk13_v6, hk14_v6, hk15_v6, hk17_v6, hk18_v6, hk24_v6, hk25_v6, hk35_v6, hk36_v6, hk38_v6, hk39_v6⟩ := hw
    have hM_v6 : KV [37] v6 v := KV.tr kV_v6 hM_v rfl
    have hA_f7 : KF [7, 8, 24, 26, 27, 28] f7 f := KF.tr kF_f7 hA_f rfl
    have hP : va_P (dC, dI) vwCl (YW cy y0 r v6 f7 w8 g9) H := hP
    have hD : va_D A (YW cy y0 r v6 f7 w8 g9) := hD
    have hUv6 : (v6 35).toInt + (v6 36).toInt ≤ 40 := hIv6.2
    have hq0_v6 : v6 0 = (v 0) := hk0_v6
    have hq1_v6 : v6 1 = (v 1) := hk1_v6
    have hq2_v6 : v6 2 = (v 2) := hk2_v6
    have hq3_v6 : v6 3 = (v 3) := hk3_v6
    have hq4_v6 : v6 4 = (v 4) := hk4_v6
    have hq5_v6 : v6 5 = (v 5) := hk5_v6
    have hq8_v6 : v6 8 = (v 8) := hk8_v6
    have hq9_v6 : v6 9 = (v 9) := hk9_v6
    have zq9_v6 := congrArg Int32.toInt hq9_v6
    have hq10_v6 : v6 10 = (v 10) := hk10_v6
    have hq13_v6 : v6 13 = (v 13) := hk13_v6
    have hq14_v6 : v6 14 = (v 14) := hk14_v6
    have hq15_v6 : v6 15 = (v 15) := hk15_v6
    have hq17_v6 : v6 17 = (v 17) := hk17_v6
    have hq18_v6 : v6 18 = (v 18) := hk18_v6
    have hq24_v6 : v6 24 = (v 24) := hk24_v6
    have hq25_v6 : v6 25 = (v 25) := hk25_v6
    have hq35_v6 : v6 35 = (v 35) := hk35_v6
    have hq36_v6 : v6 36 = (v 36) := hk36_v6
    have hq38_v6 : v6 38 = (v 38) := hk38_v6
    have hq39_v6 : v6 39 = (v 39) := hk39_v6
    refine lv_iconst (v := (-1)) hx hb dX11_dress_15 (by decide) ?_
    refine lv_istore_n (lv' := [(2, .int (-1)), (0, .ref y0), (1, .int p1)]) hx hb dX11_dress_16 rfl hl (by decide) rfl (fun ls hl => ?_)
    refine lv_iconst (v := 0) hx hb dX11_dress_17 (by decide) ?_
    refine lv_istore_n (lv' := [(3, .int 0), (2, .int (-1)), (0, .ref y0), (1, .int p1)]) hx hb dX11_dress_18 rfl hl (by decide) rfl (fun ls hl => ?_)
    refine lv_iconst (v := 0) hx hb dX11_dress_19 (by decide) ?_
    refine lv_istore (lv' := [(4, .int 0), (3, .int 0), (2, .int (-1)), (0, .ref y0), (1, .int p1)]) hx hb dX11_dress_20 hl (by decide) rfl (fun ls hl => ?_)
    have lp10 : ∀ (n10 : Nat) (l2_10 : Int32) (l3_10 : Int32) (l4_10 : Int32) (v10 : Nat → Int32) (f10 : Nat → Nat → Int32) (w10 : Int64) (g10 : Nat → Int64), YI v10 → YC f10 → progOK (f10 4) (f10 5) (v10 9).toInt.toNat → v10 0 = (v 0) → v10 1 = (v 1) → v10 2 = (v 2) → v10 3 = (v 3) → v10 4 = (v 4) → v10 5 = (v 5) → v10 8 = (v 8) → v10 9 = (v 9) → v10 10 = (v 10) → v10 13 = (v 13) → v10 14 = (v 14) → v10 15 = (v 15) → v10 17 = (v 17) → v10 18 = (v 18) → v10 24 = (v 24) → v10 25 = (v 25) → v10 35 = (v 35) → v10 36 = (v 36) → v10 38 = (v 38) → v10 39 = (v 39) → ((0 : Int) ≤ l4_10.toInt ∧ l4_10.toInt ≤ 2147483647) → KV [37] v10 v → KF [7, 8, 24, 26, 27, 28] f10 f → (2147483647 - l4_10.toInt).toNat < n10 → ∀ (H : Heap) (locs : List Loc) (ls : Array Slot), va_P (dC, dI) vwCl (YW cy y0 r v10 f10 w10 g10) H → va_D A (YW cy y0 r v10 f10 w10 g10) → va_S A s.heap H locs → lv_has ls 7 [(4, .int l4_10), (3, .int l3_10), (2, .int l2_10), (0, .ref y0), (1, .int p1)] → W p l e { frames := 5, cells := 0, slots := 0, locals := 148 } s m ([.ref y0, .int p1] : List Value).toArray below meth c H locs 0 0 Q (F0 m 22 ls []) := by
      intro n10
      induction n10 with
      | zero => intro l2_10 l3_10 l4_10 v10 f10 w10 g10 hIv10 hCf10 hRf10 hq0_v10 hq1_v10 hq2_v10 hq3_v10 hq4_v10 hq5_v10 hq8_v10 hq9_v10 hq10_v10 hq13_v10 hq14_v10 hq15_v10 hq17_v10 hq18_v10 hq24_v10 hq25_v10 hq35_v10 hq36_v10 hq38_v10 hq39_v10 hr4_10 hM_v10 hA_f10 hm; exact absurd hm (Nat.not_lt_zero _)
      | succ n10 ih10 =>
        intro l2_10 l3_10 l4_10 v10 f10 w10 g10 hIv10 hCf10 hRf10 hq0_v10 hq1_v10 hq2_v10 hq3_v10 hq4_v10 hq5_v10 hq8_v10 hq9_v10 hq10_v10 hq13_v10 hq14_v10 hq15_v10 hq17_v10 hq18_v10 hq24_v10 hq25_v10 hq35_v10 hq36_v10 hq38_v10 hq39_v10 hr4_10 hM_v10 hA_f10 hm10 H locs ls hP hD hS hl
        have hUv10 : (v10 35).toInt + (v10 36).toInt ≤ 40 := hIv10.2
        have zq9_v10 := congrArg Int32.toInt hq9_v10
        refine lv_iload hx hb dX11_dress_22 (lv_at hl 0 rfl) ?_
        refine lv_aload_n hx hb dX11_dress_24 rfl (lv_at hl 3 rfl) ?_
        refine va_get (D := (dC, dI)) (ci := 11) (v := .int (v10 25)) (C := RX11) (T := TX11) (N := 79) hx hb hts inB_11 hown hE.1 hP 0 rfl rfl 49 (by decide) (hts _ k_1369) (fun _ h9 => h9) rfl dX11_dress_25 ?_
        refine tI (y := (v 25)) hq25_v10 ?_
        have b25_v : 0 ≤ (v 25).toInt ∧ (v 25).toInt ≤ 6 := YIb.b hIv.1 25 (by decide)
        refine lv_iconst (v := 1) hx hb dX11_dress_28 (by decide) ?_
        refine lv_iadd hx hb dX11_dress_29 ?_
        refine lv_topi (fun t11 et11 => ?_)
        have rg12 := fb_rng (v 25)
        have zt11 : t11.toInt = (v 25).toInt + 1 := by rw [et11]; exact add_i rfl (by decide) (by omega) (by omega)
        refine lv_aload_n hx hb dX11_dress_30 rfl (lv_at hl 3 rfl) ?_
        refine va_get (D := (dC, dI)) (ci := 11) (v := .int (v10 24)) (C := RX11) (T := TX11) (N := 79) hx hb hts inB_11 hown hE.1 hP 0 rfl rfl 48 (by decide) (hts _ k_1368) (fun _ h9 => h9) rfl dX11_dress_31 ?_
        refine tI (y := (v 24)) hq24_v10 ?_
        have b24_v : 0 ≤ (v 24).toInt ∧ (v 24).toInt ≤ 6 := YIb.b hIv.1 24 (by decide)
        refine cbSi (n := 2) (rest := [.int l4_10]) hx hb hml hown hts hE hP hD hS hA (sY_X11_power_1 0 l dC dI cy y0 r t11 (v 24) v10 f10 w10 g10 hIv10 hCf10 hRf10 ) k_1877 k_1878 k_114 k_1879 (by decide +kernel) ⟨Nat.le_of_ble_eq_true rfl, Nat.le_of_ble_eq_true rfl⟩ (rfl) hl.1 rfl (Nat.le_of_ble_eq_true rfl) dX11_dress_34 (fun r13 u H locs hw hP hD hS => ?_)
        have hG14 := hw
        refine lv_icmp_ge (tgt := 122) hx hb dX11_dress_37 (by decide) (fun c15 => ?_) (fun c15 => ?_)
        · skip
          have zc15 : r13.toInt ≤ l4_10.toInt := by rw [fa_le] at c15; exact c15
          have rg16 := fb_rng l4_10
          have rg17 := fb_rng r13
          refine lv_aload_n hx hb dX11_dress_122 rfl (lv_at hl 3 rfl) ?_
          refine lv_aload_n hx hb dX11_dress_123 rfl (lv_at hl 3 rfl) ?_
          refine va_get (D := (dC, dI)) (ci := 11) (v := .int (v10 24)) (C := RX11) (T := TX11) (N := 79) hx hb hts inB_11 hown hE.1 hP 0 rfl rfl 48 (by decide) (hts _ k_1368) (fun _ h9 => h9) rfl dX11_dress_124 ?_
          refine tI (y := (v 24)) hq24_v10 ?_
          refine va_put (D := (dC, dI)) (ci := 11) (v := .int (v 24)) (ty := tyX11 67) (C := RX11) (T := TX11) (N := 79) hx hb hts inB_11 tyX11 tyX11_ok nmX11 hown hE.1 hP hD hS 0 rfl rfl 67 (by decide) (hts _ k_1387) (fun _ h9 => h9) rfl (tyX11_ok 67 (by decide)) rfl rfl (Nat.le_of_ble_eq_true rfl) dX11_dress_127 (fun H locs hP hD hS => ?_)
          have hP : va_P (dC, dI) vwCl (YW cy y0 r (upd v10 37 (v 24)) f10 w10 g10) H := hP
          have hD : va_D A (YW cy y0 r (upd v10 37 (v 24)) f10 w10 g10) := hD
          refine lv_iload_n hx hb dX11_dress_130 rfl (lv_at hl 4 rfl) ?_
          refine lv_if_ne (tgt := 138) hx hb dX11_dress_131 (by decide) (fun c18 => ?_) (fun c18 => ?_)
          · skip
            have zc18 : ¬ (p1.toInt = 0) := by rw [fa_eq, show (0 : Int32).toInt = 0 from by decide] at c18; exact c18
            refine lv_iload_n hx hb dX11_dress_138 rfl (lv_at hl 1 rfl) ?_
            exact ret l3_10 ((upd v10 37 (v 24)), f10, w10, g10) _ _ _ _ _ _ rfl ⟨(KV.up (j := 37) (x := (v 24)) hM_v10 rfl), hA_f10, ⟨(YIb.upd (j := 37) (x := (v 24)) hIv10.1 (show (0 : Int) ≤ (v 24).toInt by omega) (show (v 24).toInt ≤ (6 : Int) by omega)), hIv10.2⟩, hCf10, hRf10, hq0_v10, hq1_v10, hq2_v10, hq3_v10, hq4_v10, hq5_v10, hq8_v10, hq9_v10, hq10_v10, hq13_v10, hq14_v10, hq15_v10, hq17_v10, hq18_v10, hq24_v10, hq25_v10, hq35_v10, hq36_v10, hq38_v10, hq39_v10⟩ hP hD hS dX11_dress_139 (Nat.le_refl _) (Nat.le_refl _)
          · skip
            have zc18 : p1.toInt = 0 := by rw [fa_eq, show (0 : Int32).toInt = 0 from by decide] at c18; exact c18
            refine lv_iload_n hx hb dX11_dress_134 rfl (lv_at hl 2 rfl) ?_
            refine lv_goto (tgt := 139) hx hb dX11_dress_135 (by decide) ?_
            exact ret l2_10 ((upd v10 37 (v 24)), f10, w10, g10) _ _ _ _ _ _ rfl ⟨(KV.up (j := 37) (x := (v 24)) hM_v10 rfl), hA_f10, ⟨(YIb.upd (j := 37) (x := (v 24)) hIv10.1 (show (0 : Int) ≤ (v 24).toInt by omega) (show (v 24).toInt ≤ (6 : Int) by omega)), hIv10.2⟩, hCf10, hRf10, hq0_v10, hq1_v10, hq2_v10, hq3_v10, hq4_v10, hq5_v10, hq8_v10, hq9_v10, hq10_v10, hq13_v10, hq14_v10, hq15_v10, hq17_v10, hq18_v10, hq24_v10, hq25_v10, hq35_v10, hq36_v10, hq38_v10, hq39_v10⟩ hP hD hS dX11_dress_139 (Nat.le_refl _) (Nat.le_refl _)
        · skip
          have zc15 : ¬ (r13.toInt ≤ l4_10.toInt) := by rw [fa_le] at c15; exact c15
          have rg19 := fb_rng l4_10
          have rg20 := fb_rng r13
          refine lv_aload_n hx hb dX11_dress_40 rfl (lv_at hl 3 rfl) ?_
          refine lv_iload hx hb dX11_dress_41 (lv_at hl 0 rfl) ?_
          refine cbVi (n := 1) (rest := []) hx hb hml hown hts hE hP hD hS hA (sY_X11_layDress_1 l dC dI cy y0 r l4_10 v10 f10 w10 g10 hIv10 hCf10 hRf10 ⟨show (0 : Int) ≤ l4_10.toInt by omega, show l4_10.toInt ≤ (2147483647 : Int) by omega⟩) k_1880 k_1882 k_85 k_114 k_1883 (by decide +kernel) ⟨Nat.le_of_ble_eq_true rfl, Nat.le_of_ble_eq_true rfl⟩ 0 11 rfl rfl (rfl) hl.1 rfl (Nat.le_of_ble_eq_true rfl) dX11_dress_43 (fun r21 u H locs hw hP hD hS => ?_)
          obtain ⟨v22, f23, w24, g25⟩ := u
          obtain ⟨kV_v22, kF_f23, hIv22, hCf23, hRf23, hk0_v22, hk1_v22, hk2_v22, hk3_v22, hk4_v22, hk5_v22, hk8_v22, hk9_v22, hk10_v22, hk13_v22, hk14_v22, hk15_v22, hk17_v22, hk18_v22, hk24_v22, hk25_v22, hk35_v22, hk36_v22, hk38_v22, hk39_v22⟩ := hw
          have hM_v22 : KV [37] v22 v := KV.tr kV_v22 hM_v10 rfl
          have hA_f23 : KF [7, 8, 24, 26, 27, 28] f23 f := KF.tr kF_f23 hA_f10 rfl
          have hP : va_P (dC, dI) vwCl (YW cy y0 r v22 f23 w24 g25) H := hP
          have hD : va_D A (YW cy y0 r v22 f23 w24 g25) := hD
          have hUv22 : (v22 35).toInt + (v22 36).toInt ≤ 40 := hIv22.2
          have hq0_v22 : v22 0 = (v 0) := hk0_v22.trans hq0_v10
          have hq1_v22 : v22 1 = (v 1) := hk1_v22.trans hq1_v10
          have hq2_v22 : v22 2 = (v 2) := hk2_v22.trans hq2_v10
          have hq3_v22 : v22 3 = (v 3) := hk3_v22.trans hq3_v10
          have hq4_v22 : v22 4 = (v 4) := hk4_v22.trans hq4_v10
          have hq5_v22 : v22 5 = (v 5) := hk5_v22.trans hq5_v10
          have hq8_v22 : v22 8 = (v 8) := hk8_v22.trans hq8_v10
          have hq9_v22 : v22 9 = (v 9) := hk9_v22.trans hq9_v10
          have zq9_v22 := congrArg Int32.toInt hq9_v22
          have hq10_v22 : v22 10 = (v 10) := hk10_v22.trans hq10_v10
          have hq13_v22 : v22 13 = (v 13) := hk13_v22.trans hq13_v10
          have hq14_v22 : v22 14 = (v 14) := hk14_v22.trans hq14_v10
          have hq15_v22 : v22 15 = (v 15) := hk15_v22.trans hq15_v10
          have hq17_v22 : v22 17 = (v 17) := hk17_v22.trans hq17_v10
          have hq18_v22 : v22 18 = (v 18) := hk18_v22.trans hq18_v10
          have hq24_v22 : v22 24 = (v 24) := hk24_v22.trans hq24_v10
          have hq25_v22 : v22 25 = (v 25) := hk25_v22.trans hq25_v10
          have hq35_v22 : v22 35 = (v 35) := hk35_v22.trans hq35_v10
          have hq36_v22 : v22 36 = (v 36) := hk36_v22.trans hq36_v10
          have hq38_v22 : v22 38 = (v 38) := hk38_v22.trans hq38_v10
          have hq39_v22 : v22 39 = (v 39) := hk39_v22.trans hq39_v10
          refine lv_istore (lv' := [(5, .int r21), (4, .int l4_10), (3, .int l3_10), (2, .int l2_10), (0, .ref y0), (1, .int p1)]) hx hb dX11_dress_46 hl (by decide) rfl (fun ls hl => ?_)
          refine lv_iload hx hb dX11_dress_48 (lv_at hl 0 rfl) ?_
          refine lv_if_lt (tgt := 116) hx hb dX11_dress_50 (by decide) (fun c26 => ?_) (fun c26 => ?_)
          · skip
            have zc26 : r21.toInt < 0 := by rw [fa_lt, show (0 : Int32).toInt = 0 from by decide] at c26; exact c26
            obtain ⟨t27, et27⟩ : ∃ y : Int32, y = l4_10 + 1 := ⟨_, rfl⟩
            have zt27 : t27.toInt = l4_10.toInt + 1 := by rw [et27]; exact add_i rfl (by decide) (by omega) (by omega)
            refine lv_iinc (v := t27) (lv' := [(4, .int t27), (5, .int r21), (3, .int l3_10), (2, .int l2_10), (0, .ref y0), (1, .int p1)]) hx hb dX11_dress_116 hl (k := 1) rfl (by rw [et27]; rfl) (by decide) rfl (fun ls hl => ?_)
            refine lv_goto (tgt := 22) hx hb dX11_dress_119 (by decide) ?_
            have rg28 := fb_rng t27
            exact ih10 l2_10 l3_10 t27 v22 f23 w24 g25 hIv22 hCf23 hRf23 hq0_v22 hq1_v22 hq2_v22 hq3_v22 hq4_v22 hq5_v22 hq8_v22 hq9_v22 hq10_v22 hq13_v22 hq14_v22 hq15_v22 hq17_v22 hq18_v22 hq24_v22 hq25_v22 hq35_v22 hq36_v22 hq38_v22 hq39_v22 ⟨show (0 : Int) ≤ t27.toInt by omega, show t27.toInt ≤ (2147483647 : Int) by omega⟩ hM_v22 hA_f23 (by show (2147483647 - t27.toInt).toNat < n10; omega) _ _ _ hP hD hS (lv_sub hl [0, 2, 3, 4, 5] rfl)
          · skip
            have zc26 : ¬ (r21.toInt < 0) := by rw [fa_lt, show (0 : Int32).toInt = 0 from by decide] at c26; exact c26
            refine lv_iload hx hb dX11_dress_53 (lv_at hl 0 rfl) ?_
            refine lv_iload_n hx hb dX11_dress_55 rfl (lv_at hl 3 rfl) ?_
            refine lv_icmp_lt (tgt := 116) hx hb dX11_dress_56 (by decide) (fun c29 => ?_) (fun c29 => ?_)
            · skip
              have zc29 : r21.toInt < l2_10.toInt := by rw [fa_lt] at c29; exact c29
              have rg30 := fb_rng r21
              have rg31 := fb_rng l2_10
              obtain ⟨t32, et32⟩ : ∃ y : Int32, y = l4_10 + 1 := ⟨_, rfl⟩
              have zt32 : t32.toInt = l4_10.toInt + 1 := by rw [et32]; exact add_i rfl (by decide) (by omega) (by omega)
              refine lv_iinc (v := t32) (lv' := [(4, .int t32), (5, .int r21), (3, .int l3_10), (2, .int l2_10), (0, .ref y0), (1, .int p1)]) hx hb dX11_dress_116 hl (k := 1) rfl (by rw [et32]; rfl) (by decide) rfl (fun ls hl => ?_)
              refine lv_goto (tgt := 22) hx hb dX11_dress_119 (by decide) ?_
              have rg33 := fb_rng t32
              exact ih10 l2_10 l3_10 t32 v22 f23 w24 g25 hIv22 hCf23 hRf23 hq0_v22 hq1_v22 hq2_v22 hq3_v22 hq4_v22 hq5_v22 hq8_v22 hq9_v22 hq10_v22 hq13_v22 hq14_v22 hq15_v22 hq17_v22 hq18_v22 hq24_v22 hq25_v22 hq35_v22 hq36_v22 hq38_v22 hq39_v22 ⟨show (0 : Int) ≤ t32.toInt by omega, show t32.toInt ≤ (2147483647 : Int) by omega⟩ hM_v22 hA_f23 (by show (2147483647 - t32.toInt).toNat < n10; omega) _ _ _ hP hD hS (lv_sub hl [0, 2, 3, 4, 5] rfl)
            · skip
              have zc29 : ¬ (r21.toInt < l2_10.toInt) := by rw [fa_lt] at c29; exact c29
              have rg34 := fb_rng r21
              have rg35 := fb_rng l2_10
              refine lv_iload hx hb dX11_dress_59 (lv_at hl 0 rfl) ?_
              refine lv_iload_n hx hb dX11_dress_61 rfl (lv_at hl 3 rfl) ?_
              refine lv_icmp_ne (tgt := 76) hx hb dX11_dress_62 (by decide) (fun c36 => ?_) (fun c36 => ?_)
              · skip
                have zc36 : ¬ (r21.toInt = l2_10.toInt) := by rw [fa_eq] at c36; exact c36
                refine lv_iload hx hb dX11_dress_76 (lv_at hl 0 rfl) ?_
                refine lv_istore_n (lv' := [(2, .int r21), (5, .int r21), (4, .int l4_10), (3, .int l3_10), (0, .ref y0), (1, .int p1)]) hx hb dX11_dress_78 rfl hl (by decide) rfl (fun ls hl => ?_)
                refine lv_aload_n hx hb dX11_dress_79 rfl (lv_at hl 4 rfl) ?_
                refine cbVi (n := 0) (rest := []) hx hb hml hown hts hE hP hD hS hA (sY_X11_illOfRow_1 l dC dI cy y0 r  v22 f23 w24 g25 hIv22 hCf23 hRf23 ) k_1884 k_1886 k_86 k_114 k_1887 (by decide +kernel) ⟨Nat.le_of_ble_eq_true rfl, Nat.le_of_ble_eq_true rfl⟩ 0 11 rfl rfl (rfl) hl.1 rfl (Nat.le_of_ble_eq_true rfl) dX11_dress_80 (fun r37 u H locs hw hP hD hS => ?_)
                refine lv_istore_n (lv' := [(3, .int r37), (2, .int r21), (5, .int r21), (4, .int l4_10), (0, .ref y0), (1, .int p1)]) hx hb dX11_dress_83 rfl hl (by decide) rfl (fun ls hl => ?_)
                refine lv_iconst (v := 0) hx hb dX11_dress_84 (by decide) ?_
                refine lv_istore (lv' := [(6, .int 0), (3, .int r37), (2, .int r21), (5, .int r21), (4, .int l4_10), (0, .ref y0), (1, .int p1)]) hx hb dX11_dress_85 hl (by decide) rfl (fun ls hl => ?_)
                have lp38 : ∀ (n38 : Nat) (l6_38 : Int32) (v38 : Nat → Int32) (f38 : Nat → Nat → Int32) (w38 : Int64) (g38 : Nat → Int64), YI v38 → YC f38 → progOK (f38 4) (f38 5) (v38 9).toInt.toNat → v38 0 = (v 0) → v38 1 = (v 1) → v38 2 = (v 2) → v38 3 = (v 3) → v38 4 = (v 4) → v38 5 = (v 5) → v38 8 = (v 8) → v38 9 = (v 9) → v38 10 = (v 10) → v38 13 = (v 13) → v38 14 = (v 14) → v38 15 = (v 15) → v38 17 = (v 17) → v38 18 = (v 18) → v38 24 = (v 24) → v38 25 = (v 25) → v38 35 = (v 35) → v38 36 = (v 36) → v38 38 = (v 38) → v38 39 = (v 39) → ((0 : Int) ≤ l6_38.toInt ∧ l6_38.toInt ≤ 2147483647) → KV [37] v38 v → KF [7, 8, 24, 26, 27, 28] f38 f → (2147483647 - l6_38.toInt).toNat < n38 → ∀ (H : Heap) (locs : List Loc) (ls : Array Slot), va_P (dC, dI) vwCl (YW cy y0 r v38 f38 w38 g38) H → va_D A (YW cy y0 r v38 f38 w38 g38) → va_S A s.heap H locs → lv_has ls 7 [(6, .int l6_38), (3, .int r37), (2, .int r21), (5, .int r21), (4, .int l4_10), (0, .ref y0), (1, .int p1)] → W p l e { frames := 5, cells := 0, slots := 0, locals := 148 } s m ([.ref y0, .int p1] : List Value).toArray below meth c H locs 0 0 Q (F0 m 87 ls []) := by
                  intro n38
                  induction n38 with
                  | zero => intro l6_38 v38 f38 w38 g38 hIv38 hCf38 hRf38 hq0_v38 hq1_v38 hq2_v38 hq3_v38 hq4_v38 hq5_v38 hq8_v38 hq9_v38 hq10_v38 hq13_v38 hq14_v38 hq15_v38 hq17_v38 hq18_v38 hq24_v38 hq25_v38 hq35_v38 hq36_v38 hq38_v38 hq39_v38 hr6_38 hM_v38 hA_f38 hm; exact absurd hm (Nat.not_lt_zero _)
                  | succ n38 ih38 =>
                    intro l6_38 v38 f38 w38 g38 hIv38 hCf38 hRf38 hq0_v38 hq1_v38 hq2_v38 hq3_v38 hq4_v38 hq5_v38 hq8_v38 hq9_v38 hq10_v38 hq13_v38 hq14_v38 hq15_v38 hq17_v38 hq18_v38 hq24_v38 hq25_v38 hq35_v38 hq36_v38 hq38_v38 hq39_v38 hr6_38 hM_v38 hA_f38 hm38 H locs ls hP hD hS hl
                    have hUv38 : (v38 35).toInt + (v38 36).toInt ≤ 40 := hIv38.2
                    have zq9_v38 := congrArg Int32.toInt hq9_v38
                    refine lv_iload hx hb dX11_dress_87 (lv_at hl 0 rfl) ?_
                    refine lv_aload_n hx hb dX11_dress_89 rfl (lv_at hl 5 rfl) ?_
                    refine va_get (D := (dC, dI)) (ci := 11) (v := .int (v38 24)) (C := RX11) (T := TX11) (N := 79) hx hb hts inB_11 hown hE.1 hP 0 rfl rfl 48 (by decide) (hts _ k_1368) (fun _ h9 => h9) rfl dX11_dress_90 ?_
                    refine tI (y := (v 24)) hq24_v38 ?_
                    have b24_v : 0 ≤ (v 24).toInt ∧ (v 24).toInt ≤ 6 := YIb.b hIv.1 24 (by decide)
                    refine lv_icmp_ge (tgt := 116) hx hb dX11_dress_93 (by decide) (fun c39 => ?_) (fun c39 => ?_)
                    · skip
                      have zc39 : (v 24).toInt ≤ l6_38.toInt := by rw [fa_le] at c39; exact c39
                      have rg40 := fb_rng l6_38
                      have rg41 := fb_rng (v 24)
                      obtain ⟨t42, et42⟩ : ∃ y : Int32, y = l4_10 + 1 := ⟨_, rfl⟩
                      have zt42 : t42.toInt = l4_10.toInt + 1 := by rw [et42]; exact add_i rfl (by decide) (by omega) (by omega)
                      refine lv_iinc (v := t42) (lv' := [(4, .int t42), (6, .int l6_38), (3, .int r37), (2, .int r21), (5, .int r21), (0, .ref y0), (1, .int p1)]) hx hb dX11_dress_116 hl (k := 4) rfl (by rw [et42]; rfl) (by decide) rfl (fun ls hl => ?_)
                      refine lv_goto (tgt := 22) hx hb dX11_dress_119 (by decide) ?_
                      have rg43 := fb_rng t42
                      exact ih10 r21 r37 t42 v38 f38 w38 g38 hIv38 hCf38 hRf38 hq0_v38 hq1_v38 hq2_v38 hq3_v38 hq4_v38 hq5_v38 hq8_v38 hq9_v38 hq10_v38 hq13_v38 hq14_v38 hq15_v38 hq17_v38 hq18_v38 hq24_v38 hq25_v38 hq35_v38 hq36_v38 hq38_v38 hq39_v38 ⟨show (0 : Int) ≤ t42.toInt by omega, show t42.toInt ≤ (2147483647 : Int) by omega⟩ hM_v38 hA_f38 (by show (2147483647 - t42.toInt).toNat < n10; omega) _ _ _ hP hD hS (lv_sub hl [0, 2, 3, 5, 6] rfl)
                    · skip
                      have zc39 : ¬ ((v 24).toInt ≤ l6_38.toInt) := by rw [fa_le] at c39; exact c39
                      have rg44 := fb_rng l6_38
                      have rg45 := fb_rng (v 24)
                      refine lv_aload_n hx hb dX11_dress_96 rfl (lv_at hl 5 rfl) ?_
                      refine va_get (D := (dC, dI)) (ci := 11) (v := .ref (r 64)) (C := RX11) (T := TX11) (N := 79) hx hb hts inB_11 hown hE.1 hP 0 rfl rfl 64 (by decide) (hts _ k_1384) (fun _ h9 => h9) rfl dX11_dress_97 ?_
                      refine lv_iload hx hb dX11_dress_100 (lv_at hl 0 rfl) ?_
                      refine lv_aload_n hx hb dX11_dress_102 rfl (lv_at hl 5 rfl) ?_
                      refine va_get (D := (dC, dI)) (ci := 11) (v := .ref (r 65)) (C := RX11) (T := TX11) (N := 79) hx hb hts inB_11 hown hE.1 hP 0 rfl rfl 65 (by decide) (hts _ k_1385) (fun _ h9 => h9) rfl dX11_dress_103 ?_
                      refine lv_iload hx hb dX11_dress_106 (lv_at hl 0 rfl) ?_
                      refine ldI hx hb hE hP 28 rfl (vp_in_iff.mpr ⟨by omega, by omega⟩) rfl rfl dX11_dress_108 ?_
                      refine lv_topi (fun t46 et46 => ?_)
                      have zt46 : -1 ≤ t46.toInt ∧ t46.toInt ≤ 5 := by rw [et46]; exact hCf38.2.2.2.1 l6_38.toInt.toNat (show l6_38.toInt.toNat < 6 by omega)
                      refine stI hx hb hE hP hD hS 27 rfl (vp_in_iff.mpr ⟨by omega, by omega⟩) rfl dX11_dress_109 (fun H locs hP hD hS => ?_)
                      obtain ⟨f47, ef47, hP, hD⟩ : ∃ fz9, fz9 = upd2 f38 26 (upd (f38 26) l6_38.toNatClampNeg t46) ∧ va_P (dC, dI) vwCl (YW cy y0 r v38 fz9 w38 g38) H ∧ va_D A (YW cy y0 r v38 fz9 w38 g38) := ⟨_, rfl, hP, hD⟩
                      have hCf47 : YC f47 := by rw [ef47]; exact hCf38
                      have hRf47 : progOK (f47 4) (f47 5) (v38 9).toInt.toNat := by rw [ef47]; exact hRf38
                      have hA_f47 : KF [7, 8, 24, 26, 27, 28] f47 f := by rw [ef47]; exact KF.up hA_f38 rfl
                      obtain ⟨t48, et48⟩ : ∃ y : Int32, y = l6_38 + 1 := ⟨_, rfl⟩
                      have zt48 : t48.toInt = l6_38.toInt + 1 := by rw [et48]; exact add_i rfl (by decide) (by omega) (by omega)
                      refine lv_iinc (v := t48) (lv' := [(6, .int t48), (3, .int r37), (2, .int r21), (5, .int r21), (4, .int l4_10), (0, .ref y0), (1, .int p1)]) hx hb dX11_dress_110 hl (k := 0) rfl (by rw [et48]; rfl) (by decide) rfl (fun ls hl => ?_)
                      refine lv_goto (tgt := 87) hx hb dX11_dress_113 (by decide) ?_
                      have rg49 := fb_rng t48
                      exact ih38 t48 v38 f47 w38 g38 hIv38 hCf47 hRf47 hq0_v38 hq1_v38 hq2_v38 hq3_v38 hq4_v38 hq5_v38 hq8_v38 hq9_v38 hq10_v38 hq13_v38 hq14_v38 hq15_v38 hq17_v38 hq18_v38 hq24_v38 hq25_v38 hq35_v38 hq36_v38 hq38_v38 hq39_v38 ⟨show (0 : Int) ≤ t48.toInt by omega, show t48.toInt ≤ (2147483647 : Int) by omega⟩ hM_v38 hA_f47 (by show (2147483647 - t48.toInt).toNat < n38; omega) _ _ _ hP hD hS (lv_sub hl [0, 1, 2, 3, 4, 5, 6] rfl)
                exact lp38 _ 0 v22 f23 w24 g25 hIv22 hCf23 hRf23 hq0_v22 hq1_v22 hq2_v22 hq3_v22 hq4_v22 hq5_v22 hq8_v22 hq9_v22 hq10_v22 hq13_v22 hq14_v22 hq15_v22 hq17_v22 hq18_v22 hq24_v22 hq25_v22 hq35_v22 hq36_v22 hq38_v22 hq39_v22 ⟨by decide, by decide⟩ hM_v22 hA_f23 (Nat.lt_succ_self _) _ _ _ hP hD hS (lv_sub hl [0, 1, 2, 3, 4, 5, 6] rfl)
              · skip
                have zc36 : r21.toInt = l2_10.toInt := by rw [fa_eq] at c36; exact c36
                refine lv_aload_n hx hb dX11_dress_65 rfl (lv_at hl 4 rfl) ?_
                refine cbVi (n := 0) (rest := []) hx hb hml hown hts hE hP hD hS hA (sY_X11_illOfRow_1 l dC dI cy y0 r  v22 f23 w24 g25 hIv22 hCf23 hRf23 ) k_1884 k_1886 k_86 k_114 k_1887 (by decide +kernel) ⟨Nat.le_of_ble_eq_true rfl, Nat.le_of_ble_eq_true rfl⟩ 0 11 rfl rfl (rfl) hl.1 rfl (Nat.le_of_ble_eq_true rfl) dX11_dress_66 (fun r50 u H locs hw hP hD hS => ?_)
                refine lv_iload_n hx hb dX11_dress_69 rfl (lv_at hl 2 rfl) ?_
                refine lv_icmp_lt (tgt := 76) hx hb dX11_dress_70 (by decide) (fun c51 => ?_) (fun c51 => ?_)
                · skip
                  have zc51 : r50.toInt < l3_10.toInt := by rw [fa_lt] at c51; exact c51
                  have rg52 := fb_rng r50
                  have rg53 := fb_rng l3_10
                  refine lv_iload hx hb dX11_dress_76 (lv_at hl 0 rfl) ?_
                  refine lv_istore_n (lv' := [(2, .int r21), (5, .int r21), (4, .int l4_10), (3, .int l3_10), (0, .ref y0), (1, .int p1)]) hx hb dX11_dress_78 rfl hl (by decide) rfl (fun ls hl => ?_)
                  refine lv_aload_n hx hb dX11_dress_79 rfl (lv_at hl 4 rfl) ?_
                  refine cbVi (n := 0) (rest := []) hx hb hml hown hts hE hP hD hS hA (sY_X11_illOfRow_1 l dC dI cy y0 r  v22 f23 w24 g25 hIv22 hCf23 hRf23 ) k_1884 k_1886 k_86 k_114 k_1887 (by decide +kernel) ⟨Nat.le_of_ble_eq_true rfl, Nat.le_of_ble_eq_true rfl⟩ 0 11 rfl rfl (rfl) hl.1 rfl (Nat.le_of_ble_eq_true rfl) dX11_dress_80 (fun r54 u H locs hw hP hD hS => ?_)
                  refine lv_istore_n (lv' := [(3, .int r54), (2, .int r21), (5, .int r21), (4, .int l4_10), (0, .ref y0), (1, .int p1)]) hx hb dX11_dress_83 rfl hl (by decide) rfl (fun ls hl => ?_)
                  refine lv_iconst (v := 0) hx hb dX11_dress_84 (by decide) ?_
                  refine lv_istore (lv' := [(6, .int 0), (3, .int r54), (2, .int r21), (5, .int r21), (4, .int l4_10), (0, .ref y0), (1, .int p1)]) hx hb dX11_dress_85 hl (by decide) rfl (fun ls hl => ?_)
                  have lp55 : ∀ (n55 : Nat) (l6_55 : Int32) (v55 : Nat → Int32) (f55 : Nat → Nat → Int32) (w55 : Int64) (g55 : Nat → Int64), YI v55 → YC f55 → progOK (f55 4) (f55 5) (v55 9).toInt.toNat → v55 0 = (v 0) → v55 1 = (v 1) → v55 2 = (v 2) → v55 3 = (v 3) → v55 4 = (v 4) → v55 5 = (v 5) → v55 8 = (v 8) → v55 9 = (v 9) → v55 10 = (v 10) → v55 13 = (v 13) → v55 14 = (v 14) → v55 15 = (v 15) → v55 17 = (v 17) → v55 18 = (v 18) → v55 24 = (v 24) → v55 25 = (v 25) → v55 35 = (v 35) → v55 36 = (v 36) → v55 38 = (v 38) → v55 39 = (v 39) → ((0 : Int) ≤ l6_55.toInt ∧ l6_55.toInt ≤ 2147483647) → KV [37] v55 v → KF [7, 8, 24, 26, 27, 28] f55 f → (2147483647 - l6_55.toInt).toNat < n55 → ∀ (H : Heap) (locs : List Loc) (ls : Array Slot), va_P (dC, dI) vwCl (YW cy y0 r v55 f55 w55 g55) H → va_D A (YW cy y0 r v55 f55 w55 g55) → va_S A s.heap H locs → lv_has ls 7 [(6, .int l6_55), (3, .int r54), (2, .int r21), (5, .int r21), (4, .int l4_10), (0, .ref y0), (1, .int p1)] → W p l e { frames := 5, cells := 0, slots := 0, locals := 148 } s m ([.ref y0, .int p1] : List Value).toArray below meth c H locs 0 0 Q (F0 m 87 ls []) := by
                    intro n55
                    induction n55 with
                    | zero => intro l6_55 v55 f55 w55 g55 hIv55 hCf55 hRf55 hq0_v55 hq1_v55 hq2_v55 hq3_v55 hq4_v55 hq5_v55 hq8_v55 hq9_v55 hq10_v55 hq13_v55 hq14_v55 hq15_v55 hq17_v55 hq18_v55 hq24_v55 hq25_v55 hq35_v55 hq36_v55 hq38_v55 hq39_v55 hr6_55 hM_v55 hA_f55 hm; exact absurd hm (Nat.not_lt_zero _)
                    | succ n55 ih55 =>
                      intro l6_55 v55 f55 w55 g55 hIv55 hCf55 hRf55 hq0_v55 hq1_v55 hq2_v55 hq3_v55 hq4_v55 hq5_v55 hq8_v55 hq9_v55 hq10_v55 hq13_v55 hq14_v55 hq15_v55 hq17_v55 hq18_v55 hq24_v55 hq25_v55 hq35_v55 hq36_v55 hq38_v55 hq39_v55 hr6_55 hM_v55 hA_f55 hm55 H locs ls hP hD hS hl
                      have hUv55 : (v55 35).toInt + (v55 36).toInt ≤ 40 := hIv55.2
                      have zq9_v55 := congrArg Int32.toInt hq9_v55
                      refine lv_iload hx hb dX11_dress_87 (lv_at hl 0 rfl) ?_
                      refine lv_aload_n hx hb dX11_dress_89 rfl (lv_at hl 5 rfl) ?_
                      refine va_get (D := (dC, dI)) (ci := 11) (v := .int (v55 24)) (C := RX11) (T := TX11) (N := 79) hx hb hts inB_11 hown hE.1 hP 0 rfl rfl 48 (by decide) (hts _ k_1368) (fun _ h9 => h9) rfl dX11_dress_90 ?_
                      refine tI (y := (v 24)) hq24_v55 ?_
                      have b24_v : 0 ≤ (v 24).toInt ∧ (v 24).toInt ≤ 6 := YIb.b hIv.1 24 (by decide)
                      refine lv_icmp_ge (tgt := 116) hx hb dX11_dress_93 (by decide) (fun c56 => ?_) (fun c56 => ?_)
                      · skip
                        have zc56 : (v 24).toInt ≤ l6_55.toInt := by rw [fa_le] at c56; exact c56
                        have rg57 := fb_rng l6_55
                        have rg58 := fb_rng (v 24)
                        obtain ⟨t59, et59⟩ : ∃ y : Int32, y = l4_10 + 1 := ⟨_, rfl⟩
                        have zt59 : t59.toInt = l4_10.toInt + 1 := by rw [et59]; exact add_i rfl (by decide) (by omega) (by omega)
                        refine lv_iinc (v := t59) (lv' := [(4, .int t59), (6, .int l6_55), (3, .int r54), (2, .int r21), (5, .int r21), (0, .ref y0), (1, .int p1)]) hx hb dX11_dress_116 hl (k := 4) rfl (by rw [et59]; rfl) (by decide) rfl (fun ls hl => ?_)
                        refine lv_goto (tgt := 22) hx hb dX11_dress_119 (by decide) ?_
                        have rg60 := fb_rng t59
                        exact ih10 r21 r54 t59 v55 f55 w55 g55 hIv55 hCf55 hRf55 hq0_v55 hq1_v55 hq2_v55 hq3_v55 hq4_v55 hq5_v55 hq8_v55 hq9_v55 hq10_v55 hq13_v55 hq14_v55 hq15_v55 hq17_v55 hq18_v55 hq24_v55 hq25_v55 hq35_v55 hq36_v55 hq38_v55 hq39_v55 ⟨show (0 : Int) ≤ t59.toInt by omega, show t59.toInt ≤ (2147483647 : Int) by omega⟩ hM_v55 hA_f55 (by show (2147483647 - t59.toInt).toNat < n10; omega) _ _ _ hP hD hS (lv_sub hl [0, 2, 3, 5, 6] rfl)
                      · skip
                        have zc56 : ¬ ((v 24).toInt ≤ l6_55.toInt) := by rw [fa_le] at c56; exact c56
                        have rg61 := fb_rng l6_55
                        have rg62 := fb_rng (v 24)
                        refine lv_aload_n hx hb dX11_dress_96 rfl (lv_at hl 5 rfl) ?_
                        refine va_get (D := (dC, dI)) (ci := 11) (v := .ref (r 64)) (C := RX11) (T := TX11) (N := 79) hx hb hts inB_11 hown hE.1 hP 0 rfl rfl 64 (by decide) (hts _ k_1384) (fun _ h9 => h9) rfl dX11_dress_97 ?_
                        refine lv_iload hx hb dX11_dress_100 (lv_at hl 0 rfl) ?_
                        refine lv_aload_n hx hb dX11_dress_102 rfl (lv_at hl 5 rfl) ?_
                        refine va_get (D := (dC, dI)) (ci := 11) (v := .ref (r 65)) (C := RX11) (T := TX11) (N := 79) hx hb hts inB_11 hown hE.1 hP 0 rfl rfl 65 (by decide) (hts _ k_1385) (fun _ h9 => h9) rfl dX11_dress_103 ?_
                        refine lv_iload hx hb dX11_dress_106 (lv_at hl 0 rfl) ?_
                        refine ldI hx hb hE hP 28 rfl (vp_in_iff.mpr ⟨by omega, by omega⟩) rfl rfl dX11_dress_108 ?_
                        refine lv_topi (fun t63 et63 => ?_)
                        have zt63 : -1 ≤ t63.toInt ∧ t63.toInt ≤ 5 := by rw [et63]; exact hCf55.2.2.2.1 l6_55.toInt.toNat (show l6_55.toInt.toNat < 6 by omega)
                        refine stI hx hb hE hP hD hS 27 rfl (vp_in_iff.mpr ⟨by omega, by omega⟩) rfl dX11_dress_109 (fun H locs hP hD hS => ?_)
                        obtain ⟨f64, ef64, hP, hD⟩ : ∃ fz9, fz9 = upd2 f55 26 (upd (f55 26) l6_55.toNatClampNeg t63) ∧ va_P (dC, dI) vwCl (YW cy y0 r v55 fz9 w55 g55) H ∧ va_D A (YW cy y0 r v55 fz9 w55 g55) := ⟨_, rfl, hP, hD⟩
                        have hCf64 : YC f64 := by rw [ef64]; exact hCf55
                        have hRf64 : progOK (f64 4) (f64 5) (v55 9).toInt.toNat := by rw [ef64]; exact hRf55
                        have hA_f64 : KF [7, 8, 24, 26, 27, 28] f64 f := by rw [ef64]; exact KF.up hA_f55 rfl
                        obtain ⟨t65, et65⟩ : ∃ y : Int32, y = l6_55 + 1 := ⟨_, rfl⟩
                        have zt65 : t65.toInt = l6_55.toInt + 1 := by rw [et65]; exact add_i rfl (by decide) (by omega) (by omega)
                        refine lv_iinc (v := t65) (lv' := [(6, .int t65), (3, .int r54), (2, .int r21), (5, .int r21), (4, .int l4_10), (0, .ref y0), (1, .int p1)]) hx hb dX11_dress_110 hl (k := 0) rfl (by rw [et65]; rfl) (by decide) rfl (fun ls hl => ?_)
                        refine lv_goto (tgt := 87) hx hb dX11_dress_113 (by decide) ?_
                        have rg66 := fb_rng t65
                        exact ih55 t65 v55 f64 w55 g55 hIv55 hCf64 hRf64 hq0_v55 hq1_v55 hq2_v55 hq3_v55 hq4_v55 hq5_v55 hq8_v55 hq9_v55 hq10_v55 hq13_v55 hq14_v55 hq15_v55 hq17_v55 hq18_v55 hq24_v55 hq25_v55 hq35_v55 hq36_v55 hq38_v55 hq39_v55 ⟨show (0 : Int) ≤ t65.toInt by omega, show t65.toInt ≤ (2147483647 : Int) by omega⟩ hM_v55 hA_f64 (by show (2147483647 - t65.toInt).toNat < n55; omega) _ _ _ hP hD hS (lv_sub hl [0, 1, 2, 3, 4, 5, 6] rfl)
                  exact lp55 _ 0 v22 f23 w24 g25 hIv22 hCf23 hRf23 hq0_v22 hq1_v22 hq2_v22 hq3_v22 hq4_v22 hq5_v22 hq8_v22 hq9_v22 hq10_v22 hq13_v22 hq14_v22 hq15_v22 hq17_v22 hq18_v22 hq24_v22 hq25_v22 hq35_v22 hq36_v22 hq38_v22 hq39_v22 ⟨by decide, by decide⟩ hM_v22 hA_f23 (Nat.lt_succ_self _) _ _ _ hP hD hS (lv_sub hl [0, 1, 2, 3, 4, 5, 6] rfl)
                · skip
                  have zc51 : ¬ (r50.toInt < l3_10.toInt) := by rw [fa_lt] at c51; exact c51
                  have rg67 := fb_rng r50
                  have rg68 := fb_rng l3_10
                  refine lv_goto (tgt := 116) hx hb dX11_dress_73 (by decide) ?_
                  obtain ⟨t69, et69⟩ : ∃ y : Int32, y = l4_10 + 1 := ⟨_, rfl⟩
                  have zt69 : t69.toInt = l4_10.toInt + 1 := by rw [et69]; exact add_i rfl (by decide) (by omega) (by omega)
                  refine lv_iinc (v := t69) (lv' := [(4, .int t69), (5, .int r21), (3, .int l3_10), (2, .int l2_10), (0, .ref y0), (1, .int p1)]) hx hb dX11_dress_116 hl (k := 1) rfl (by rw [et69]; rfl) (by decide) rfl (fun ls hl => ?_)
                  refine lv_goto (tgt := 22) hx hb dX11_dress_119 (by decide) ?_
                  have rg70 := fb_rng t69
                  exact ih10 l2_10 l3_10 t69 v22 f23 w24 g25 hIv22 hCf23 hRf23 hq0_v22 hq1_v22 hq2_v22 hq3_v22 hq4_v22 hq5_v22 hq8_v22 hq9_v22 hq10_v22 hq13_v22 hq14_v22 hq15_v22 hq17_v22 hq18_v22 hq24_v22 hq25_v22 hq35_v22 hq36_v22 hq38_v22 hq39_v22 ⟨show (0 : Int) ≤ t69.toInt by omega, show t69.toInt ≤ (2147483647 : Int) by omega⟩ hM_v22 hA_f23 (by show (2147483647 - t69.toInt).toNat < n10; omega) _ _ _ hP hD hS (lv_sub hl [0, 2, 3, 4, 5] rfl)
    exact lp10 _ (-1) 0 0 v6 f7 w8 g9 hIv6 hCf7 hRf7 hq0_v6 hq1_v6 hq2_v6 hq3_v6 hq4_v6 hq5_v6 hq8_v6 hq9_v6 hq10_v6 hq13_v6 hq14_v6 hq15_v6 hq17_v6 hq18_v6 hq24_v6 hq25_v6 hq35_v6 hq36_v6 hq38_v6 hq39_v6 ⟨by decide, by decide⟩ hM_v6 hA_f7 (Nat.lt_succ_self _) _ _ _ hP hD hS (lv_sub hl [0, 1, 2, 3, 4] rfl)
  · skip
    subst g5
    refine lv_if_ne (tgt := 11) hx hb dX11_dress_6 (by decide) (fun c0 => absurd (by decide) c0) (fun _ => ?_)
    refine lv_iconst (v := (-1)) hx hb dX11_dress_9 (by decide) ?_
    exact ret (-1) (v, f, w, g) _ _ _ _ _ _ rfl ⟨hM_v, hA_f, hIv, hCf, hRf, rfl, rfl, rfl, rfl, rfl, rfl, rfl, rfl, rfl, rfl, rfl, rfl, rfl, rfl, rfl, rfl, rfl, rfl, rfl, rfl⟩ hP hD hS dX11_dress_10 (Nat.le_refl _) (Nat.le_refl _)
set_option maxHeartbeats 4000000 in
set_option maxRecDepth 100000 in
theorem sY_X11_isSewn_1 (l : Launch) (dC : Nat → ClassId) (dI : Nat → Nat → Nat) (cy : Nat → ClassId) (y0 : Nat) (r : Nat → Nat) (p1 : Int32) (p2 : Int32) (p3 : Int32) (p4 : Int32) (v : Nat → Int32) (f : Nat → Nat → Int32) (w : Int64) (g : Nat → Int64) (hIv : YI v) (hCf : YC f) (hRf : progOK (f 4) (f 5) (v 9).toInt.toNat) (hp1 : (0 : Int) ≤ p1.toInt ∧ p1.toInt ≤ 5) (hp2 : (0 : Int) ≤ p2.toInt ∧ p2.toInt ≤ 5) : ctI l (dC, dI) cy yX11_isSewn cX11_isSewn 5 .boolean 4 126 0 0 ((Nat → Int32) × (Nat → Nat → Int32) × (Int64) × (Nat → Int64)) [.ref y0, .int p1, .int p2, .int p3, .int p4] (YW cy y0 r v f w g) (fun r u => KV [] u.1 v ∧ KF [7, 8, 24] u.2.1 f ∧ YI u.1 ∧ YC u.2.1 ∧ progOK (u.2.1 4) (u.2.1 5) (u.1 9).toInt.toNat ∧ u.1 0 = v 0 ∧ u.1 1 = v 1 ∧ u.1 2 = v 2 ∧ u.1 3 = v 3 ∧ u.1 4 = v 4 ∧ u.1 5 = v 5 ∧ u.1 8 = v 8 ∧ u.1 9 = v 9 ∧ u.1 10 = v 10 ∧ u.1 13 = v 13 ∧ u.1 14 = v 14 ∧ u.1 15 = v 15 ∧ u.1 17 = v 17 ∧ u.1 18 = v 18 ∧ u.1 24 = v 24 ∧ u.1 25 = v 25 ∧ u.1 35 = v 35 ∧ u.1 36 = v 36 ∧ u.1 38 = v 38 ∧ u.1 39 = v 39 ∧ ((r = 1) ∨ (r = 0))) (fun u => YW cy y0 r u.1 u.2.1 u.2.2.1 u.2.2.2) := by
  refine ctI_of (by decide) (Nat.le_of_ble_eq_true rfl) (fun p e s m below meth c A ls Q hx hb hml hts hown hE hP hD hA hl ret => ?_)
  have hUv : (v 35).toInt + (v 36).toInt ≤ 40 := hIv.2
  have hM_v : KV [] v v := fun _ _ => rfl
  have hA_f : KF [7, 8, 24] f f := fun _ _ => rfl
  have hown : s.vm.findClass RX11 = some m.cls := hown
  have hS : va_S A s.heap s.heap [] := va_S.rf
  have hl : lv_has ls 5 [(0, .ref y0), (1, .int p1), (2, .int p2), (3, .int p3), (4, .int p4)] := hl
  refine lv_aload_n hx hb dX11_isSewn_0 rfl (lv_at hl 0 rfl) ?_
  refine cbVv (n := 0) (rest := []) hx hb hml hown hts hE hP hD hS hA (sY_X11_fill_1 0 l dC dI cy y0 r  v f w g hIv hCf hRf ) k_1739 k_1741 k_71 k_114 k_1742 (by decide +kernel) ⟨Nat.le_of_ble_eq_true rfl, Nat.le_of_ble_eq_true rfl⟩ 0 11 rfl rfl (rfl) hl.1 rfl (Nat.le_of_ble_eq_true rfl) dX11_isSewn_1 (fun u H locs hw hP hD hS => ?_)
  obtain ⟨hG1, hw⟩ := hw
  obtain ⟨v2, f3, w4, g5⟩ := u
  obtain ⟨kV_v2, kF_f3, hIv2, hCf3, hRf3, hk0_v2, hk1_v2, hk2_v2, hk3_v2, hk4_v2, hk5_v2, hk8_v2, hk9_v2, hk10_v2, hk13_v2, hk14_v2, hk15_v2, hk17_v2, hk18_v2, hk24_v2, hk25_v2, hk35_v2, hk36_v2, hk38_v2, hk39_v2⟩ := hw
  have hM_v2 : KV [] v2 v := KV.tr kV_v2 hM_v rfl
  have hA_f3 : KF [7, 8, 24] f3 f := KF.tr kF_f3 hA_f rfl
  have hP : va_P (dC, dI) vwCl (YW cy y0 r v2 f3 w4 g5) H := hP
  have hD : va_D A (YW cy y0 r v2 f3 w4 g5) := hD
  have hUv2 : (v2 35).toInt + (v2 36).toInt ≤ 40 := hIv2.2
  have hq9_v2 : v2 9 = (v 9) := hk9_v2
  have zq9_v2 := congrArg Int32.toInt hq9_v2
  refine lv_aload_n hx hb dX11_isSewn_4 rfl (lv_at hl 0 rfl) ?_
  refine va_get (D := (dC, dI)) (ci := 11) (v := .ref (r 60)) (C := RX11) (T := TX11) (N := 79) hx hb hts inB_11 hown hE.1 hP 0 rfl rfl 60 (by decide) (hts _ k_1380) (fun _ h9 => h9) rfl dX11_isSewn_5 ?_
  refine lv_bipush (v := 12) hx hb dX11_isSewn_8 (by decide) ?_
  refine lv_iload_n hx hb dX11_isSewn_10 rfl (lv_at hl 1 rfl) ?_
  refine lv_iadd hx hb dX11_isSewn_11 ?_
  refine lv_topi (fun t6 et6 => ?_)
  have rg7 := fb_rng p1
  have zt6 : t6.toInt = 12 + p1.toInt := by rw [et6]; exact add_i (by decide) rfl (by omega) (by omega)
  refine lv_dup2_11 hx hb dX11_isSewn_12 rfl rfl ?_
  refine ldI hx hb hE hP 25 rfl (vp_in_iff.mpr ⟨by omega, by omega⟩) rfl rfl dX11_isSewn_13 ?_
  refine lv_topi (fun t8 et8 => ?_)
  have zt8 : t6.toInt.toNat % 39 < 6 ∨ 12 ≤ t6.toInt.toNat % 39 ∨ (-1 ≤ t8.toInt ∧ t8.toInt ≤ 5) := by rw [et8]; exact wear_ld hCf3.2.1 (show t6.toInt.toNat < 39 by omega)
  refine lv_iload_n hx hb dX11_isSewn_14 rfl (lv_at hl 3 rfl) ?_
  refine lv_isub hx hb dX11_isSewn_15 ?_
  refine lv_topi (fun t9 et9 => ?_)
  refine stI hx hb hE hP hD hS 25 rfl (vp_in_iff.mpr ⟨by omega, by omega⟩) rfl dX11_isSewn_16 (fun H locs hP hD hS => ?_)
  obtain ⟨f10, ef10, hP, hD⟩ : ∃ fz9, fz9 = upd2 f3 24 (upd (f3 24) t6.toNatClampNeg t9) ∧ va_P (dC, dI) vwCl (YW cy y0 r v2 fz9 w4 g5) H ∧ va_D A (YW cy y0 r v2 fz9 w4 g5) := ⟨_, rfl, hP, hD⟩
  have hCf10 : YC f10 := by rw [ef10]; exact ⟨hCf3.1, (wear_st hCf3.2.1 (by show t6.toInt.toNat % 39 < 6 ∨ 12 ≤ t6.toInt.toNat % 39 ∨ (-1 ≤ t9.toInt ∧ t9.toInt ≤ 5); omega)), hCf3.2.2.1, hCf3.2.2.2.1, hCf3.2.2.2.2.1, hCf3.2.2.2.2.2⟩
  have hRf10 : progOK (f10 4) (f10 5) (v2 9).toInt.toNat := by rw [ef10]; exact hRf3
  have hA_f10 : KF [7, 8, 24] f10 f := by rw [ef10]; exact KF.up hA_f3 rfl
  refine lv_aload_n hx hb dX11_isSewn_17 rfl (lv_at hl 0 rfl) ?_
  refine va_get (D := (dC, dI)) (ci := 11) (v := .ref (r 60)) (C := RX11) (T := TX11) (N := 79) hx hb hts inB_11 hown hE.1 hP 0 rfl rfl 60 (by decide) (hts _ k_1380) (fun _ h9 => h9) rfl dX11_isSewn_18 ?_
  refine lv_bipush (v := 18) hx hb dX11_isSewn_21 (by decide) ?_
  refine lv_iload_n hx hb dX11_isSewn_23 rfl (lv_at hl 1 rfl) ?_
  refine lv_iadd hx hb dX11_isSewn_24 ?_
  refine lv_topi (fun t11 et11 => ?_)
  have zt11 : t11.toInt = 18 + p1.toInt := by rw [et11]; exact add_i (by decide) rfl (by omega) (by omega)
  refine lv_dup2_11 hx hb dX11_isSewn_25 rfl rfl ?_
  refine ldI hx hb hE hP 25 rfl (vp_in_iff.mpr ⟨by omega, by omega⟩) rfl rfl dX11_isSewn_26 ?_
  refine lv_topi (fun t12 et12 => ?_)
  have zt12 : t11.toInt.toNat % 39 < 6 ∨ 12 ≤ t11.toInt.toNat % 39 ∨ (-1 ≤ t12.toInt ∧ t12.toInt ≤ 5) := by rw [et12]; exact wear_ld hCf10.2.1 (show t11.toInt.toNat < 39 by omega)
  refine lv_iload hx hb dX11_isSewn_27 (lv_at hl 4 rfl) ?_
  refine lv_isub hx hb dX11_isSewn_29 ?_
  refine lv_topi (fun t13 et13 => ?_)
  refine stI hx hb hE hP hD hS 25 rfl (vp_in_iff.mpr ⟨by omega, by omega⟩) rfl dX11_isSewn_30 (fun H locs hP hD hS => ?_)
  obtain ⟨f14, ef14, hP, hD⟩ : ∃ fz9, fz9 = upd2 f10 24 (upd (f10 24) t11.toNatClampNeg t13) ∧ va_P (dC, dI) vwCl (YW cy y0 r v2 fz9 w4 g5) H ∧ va_D A (YW cy y0 r v2 fz9 w4 g5) := ⟨_, rfl, hP, hD⟩
  have hCf14 : YC f14 := by rw [ef14]; exact ⟨hCf10.1, (wear_st hCf10.2.1 (by show t11.toInt.toNat % 39 < 6 ∨ 12 ≤ t11.toInt.toNat % 39 ∨ (-1 ≤ t13.toInt ∧ t13.toInt ≤ 5); omega)), hCf10.2.2.1, hCf10.2.2.2.1, hCf10.2.2.2.2.1, hCf10.2.2.2.2.2⟩
  have hRf14 : progOK (f14 4) (f14 5) (v2 9).toInt.toNat := by rw [ef14]; exact hRf10
  have hA_f14 : KF [7, 8, 24] f14 f := by rw [ef14]; exact KF.up hA_f10 rfl
  refine lv_aload_n hx hb dX11_isSewn_31 rfl (lv_at hl 0 rfl) ?_
  refine lv_iload_n hx hb dX11_isSewn_32 rfl (lv_at hl 2 rfl) ?_
  refine lv_iload_n hx hb dX11_isSewn_33 rfl (lv_at hl 1 rfl) ?_
  refine cbVi (n := 2) (rest := []) hx hb hml hown hts hE hP hD hS hA (sY_X11_misfitOf_1 0 l dC dI cy y0 r p2 p1 v2 f14 w4 g5 hIv2 hCf14 hRf14 ⟨show (0 : Int) ≤ p2.toInt by omega, show p2.toInt ≤ (5 : Int) by omega⟩ ⟨show (0 : Int) ≤ p1.toInt by omega, show p1.toInt ≤ (5 : Int) by omega⟩) k_1751 k_1753 k_74 k_114 k_1754 (by decide +kernel) ⟨Nat.le_of_ble_eq_true rfl, Nat.le_of_ble_eq_true rfl⟩ 0 11 rfl rfl (rfl) hl.1 rfl (Nat.le_of_ble_eq_true rfl) dX11_isSewn_34 (fun r15 u H locs hw hP hD hS => ?_)
  obtain ⟨hG16, hw⟩ := hw
  obtain ⟨v17, f18, w19, g20⟩ := u
  obtain ⟨kV_v17, kF_f18, hIv17, hCf18, hRf18, hk0_v17, hk1_v17, hk2_v17, hk3_v17, hk4_v17, hk5_v17, hk8_v17, hk9_v17, hk10_v17, hk13_v17, hk14_v17, hk15_v17, hk17_v17, hk18_v17, hk24_v17, hk25_v17, hk35_v17, hk36_v17, hk38_v17, hk39_v17⟩ := hw
  have hM_v17 : KV [] v17 v := KV.tr kV_v17 hM_v2 rfl
  have hA_f18 : KF [7, 8, 24] f18 f := KF.tr kF_f18 hA_f14 rfl
  have hP : va_P (dC, dI) vwCl (YW cy y0 r v17 f18 w19 g20) H := hP
  have hD : va_D A (YW cy y0 r v17 f18 w19 g20) := hD
  have hUv17 : (v17 35).toInt + (v17 36).toInt ≤ 40 := hIv17.2
  have hq9_v17 : v17 9 = (v 9) := hk9_v17.trans hq9_v2
  have zq9_v17 := congrArg Int32.toInt hq9_v17
  refine lv_aload_n hx hb dX11_isSewn_37 rfl (lv_at hl 0 rfl) ?_
  refine va_get (D := (dC, dI)) (ci := 11) (v := .int (v17 26)) (C := RX11) (T := TX11) (N := 79) hx hb hts inB_11 hown hE.1 hP 0 rfl rfl 50 (by decide) (hts _ k_1370) (fun _ h9 => h9) rfl dX11_isSewn_38 ?_
  refine lv_icmp_gt (tgt := 48) hx hb dX11_isSewn_41 (by decide) (fun c21 => ?_) (fun c21 => ?_)
  · skip
    have zc21 : (v17 26).toInt < r15.toInt := by rw [fa_lt] at c21; exact c21
    have rg22 := fb_rng r15
    have rg23 := fb_rng (v17 26)
    refine lv_iconst (v := 0) hx hb dX11_isSewn_48 (by decide) ?_
    exact ret 0 (v17, f18, w19, g20) _ _ _ _ _ _ rfl ⟨hM_v17, hA_f18, hIv17, hCf18, hRf18, (hk0_v17.trans hk0_v2), (hk1_v17.trans hk1_v2), (hk2_v17.trans hk2_v2), (hk3_v17.trans hk3_v2), (hk4_v17.trans hk4_v2), (hk5_v17.trans hk5_v2), (hk8_v17.trans hk8_v2), (hk9_v17.trans hk9_v2), (hk10_v17.trans hk10_v2), (hk13_v17.trans hk13_v2), (hk14_v17.trans hk14_v2), (hk15_v17.trans hk15_v2), (hk17_v17.trans hk17_v2), (hk18_v17.trans hk18_v2), (hk24_v17.trans hk24_v2), (hk25_v17.trans hk25_v2), (hk35_v17.trans hk35_v2), (hk36_v17.trans hk36_v2), (hk38_v17.trans hk38_v2), (hk39_v17.trans hk39_v2), (Or.inr rfl)⟩ hP hD hS dX11_isSewn_49 (Nat.le_refl _) (Nat.le_refl _)
  · skip
    have zc21 : ¬ ((v17 26).toInt < r15.toInt) := by rw [fa_lt] at c21; exact c21
    have rg24 := fb_rng r15
    have rg25 := fb_rng (v17 26)
    refine lv_iconst (v := 1) hx hb dX11_isSewn_44 (by decide) ?_
    refine lv_goto (tgt := 49) hx hb dX11_isSewn_45 (by decide) ?_
    exact ret 1 (v17, f18, w19, g20) _ _ _ _ _ _ rfl ⟨hM_v17, hA_f18, hIv17, hCf18, hRf18, (hk0_v17.trans hk0_v2), (hk1_v17.trans hk1_v2), (hk2_v17.trans hk2_v2), (hk3_v17.trans hk3_v2), (hk4_v17.trans hk4_v2), (hk5_v17.trans hk5_v2), (hk8_v17.trans hk8_v2), (hk9_v17.trans hk9_v2), (hk10_v17.trans hk10_v2), (hk13_v17.trans hk13_v2), (hk14_v17.trans hk14_v2), (hk15_v17.trans hk15_v2), (hk17_v17.trans hk17_v2), (hk18_v17.trans hk18_v2), (hk24_v17.trans hk24_v2), (hk25_v17.trans hk25_v2), (hk35_v17.trans hk35_v2), (hk36_v17.trans hk36_v2), (hk38_v17.trans hk38_v2), (hk39_v17.trans hk39_v2), (Or.inl rfl)⟩ hP hD hS dX11_isSewn_49 (Nat.le_refl _) (Nat.le_refl _)
