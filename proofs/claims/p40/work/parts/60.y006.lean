set_option maxHeartbeats 4000000 in
set_option maxRecDepth 100000 in
theorem sY_X11_newName_1 (NF : Nat) (l : Launch) (dC : Nat → ClassId) (dI : Nat → Nat → Nat) (cy : Nat → ClassId) (y0 : Nat) (r : Nat → Nat) (p1 : Int32) (p2 : Int32) (v : Nat → Int32) (f : Nat → Nat → Int32) (w : Int64) (g : Nat → Int64) (hIv : YI v) (hCf : YC f) (hRf : progOK (f 4) (f 5) (v 9).toInt.toNat) (hp1 : (0 : Int) ≤ p1.toInt ∧ p1.toInt ≤ 6) (hp2 : (0 : Int) ≤ p2.toInt ∧ p2.toInt ≤ 5) : ctV l (dC, dI) cy yX11_newName cX11_newName 4 3 103 0 0 ((Nat → Int32) × (Nat → Nat → Int32) × (Int64) × (Nat → Int64)) [.ref y0, .int p1, .int p2] (YW cy y0 r v f w g) (fun u => gsY_X11_newName_1 NF p1 p2 v f w g = u ∧ KV [1, 2, 3, 5, 6, 7] u.1 v ∧ KF [] u.2.1 f ∧ YI u.1 ∧ YC u.2.1 ∧ progOK (u.2.1 4) (u.2.1 5) (u.1 9).toInt.toNat ∧ u.1 0 = v 0 ∧ u.1 4 = v 4 ∧ u.1 8 = v 8 ∧ u.1 9 = v 9 ∧ u.1 10 = v 10 ∧ u.1 13 = v 13 ∧ u.1 14 = v 14 ∧ u.1 15 = v 15 ∧ u.1 17 = v 17 ∧ u.1 18 = v 18 ∧ u.1 24 = v 24 ∧ u.1 25 = v 25 ∧ u.1 35 = v 35 ∧ u.1 36 = v 36 ∧ u.1 38 = v 38 ∧ u.1 39 = v 39 ∧ ((v 3).toInt ≤ (u.1 3).toInt) ∧ ((u.1 5).toInt = (v 5).toInt ∨ (v 3).toInt < (u.1 3).toInt ∨ ¬ (u.1 5).toInt = 59) ∧ u.2.1 2 = f 2 ∧ u.2.1 3 = f 3 ∧ u.2.1 6 = f 6) (fun u => YW cy y0 r u.1 u.2.1 u.2.2.1 u.2.2.2) := by
  refine ctV_of (by decide) (Nat.le_of_ble_eq_true rfl) (fun p e s m below meth c A ls Q hx hb hml hts hown hnm hE hP hD hA hl ret => ?_)
  have hUv : (v 35).toInt + (v 36).toInt ≤ 40 := hIv.2
  have hM_v : KV [1, 2, 3, 5, 6, 7] v v := fun _ _ => rfl
  have hA_f : KF [] f f := fun _ _ => rfl
  have b0_v : (0 : Int) ≤ (v 0).toInt ∧ (v 0).toInt ≤ 1600 := YIb.b hIv.1 0 (by decide)
  have b1_v : (0 : Int) ≤ (v 1).toInt ∧ (v 1).toInt ≤ 4 := YIb.b hIv.1 1 (by decide)
  have b8_v : (0 : Int) ≤ (v 8).toInt ∧ (v 8).toInt ≤ 320 := YIb.b hIv.1 8 (by decide)
  have b10_v : (0 : Int) ≤ (v 10).toInt ∧ (v 10).toInt ≤ 160 := YIb.b hIv.1 10 (by decide)
  have b13_v : (0 : Int) ≤ (v 13).toInt ∧ (v 13).toInt ≤ 31 := YIb.b hIv.1 13 (by decide)
  have b14_v : (0 : Int) ≤ (v 14).toInt ∧ (v 14).toInt ≤ 8 := YIb.b hIv.1 14 (by decide)
  have b15_v : (0 : Int) ≤ (v 15).toInt ∧ (v 15).toInt ≤ 1 := YIb.b hIv.1 15 (by decide)
  have b17_v : (0 : Int) ≤ (v 17).toInt ∧ (v 17).toInt ≤ 6 := YIb.b hIv.1 17 (by decide)
  have b18_v : (0 : Int) ≤ (v 18).toInt ∧ (v 18).toInt ≤ 6 := YIb.b hIv.1 18 (by decide)
  have hGR : GR (v 3).toInt (v 5).toInt (v 3).toInt (v 5).toInt := GR.refl _ _
  have hown : s.vm.findClass RX11 = some m.cls := hown
  have hS : va_S A s.heap s.heap [] := va_S.rf
  have hl : lv_has ls 4 [(0, .ref y0), (1, .int p1), (2, .int p2)] := hl
  refine lv_aload_n hx hb dX11_newName_0 rfl (lv_at hl 0 rfl) ?_
  refine cbVv (n := 0) (rest := []) hx hb hml hown hts hE hP hD hS hA (sY_X11_token_1 NF l dC dI cy y0 r  v f w g hIv hCf hRf ) k_1579 k_1581 k_42 k_114 k_1582 (by decide +kernel) ⟨Nat.le_of_ble_eq_true rfl, Nat.le_of_ble_eq_true rfl⟩ 0 11 rfl rfl (rfl) hl.1 rfl (Nat.le_of_ble_eq_true rfl) dX11_newName_1 (fun u H locs hw hP hD hS => ?_)
  obtain ⟨hG1, hw⟩ := hw
  obtain ⟨v2, f3, w4, g5⟩ := u
  obtain ⟨kV_v2, kF_f3, hIv2, hCf3, hRf3, hk0_v2, hk1_v2, hk2_v2, hk4_v2, hk8_v2, hk9_v2, hk10_v2, hk13_v2, hk14_v2, hk15_v2, hk17_v2, hk18_v2, hk24_v2, hk25_v2, hk35_v2, hk36_v2, hk38_v2, hk39_v2, pv6, pv7, kq8, kq9, kq10⟩ := hw
  have hM_v2 : KV [1, 2, 3, 5, 6, 7] v2 v := KV.tr kV_v2 hM_v rfl
  have hA_f3 : KF [] f3 f := KF.tr kF_f3 hA_f rfl
  have hP : va_P (dC, dI) vwCl (YW cy y0 r v2 f3 w4 g5) H := hP
  have hD : va_D A (YW cy y0 r v2 f3 w4 g5) := hD
  have b3_v2 : 0 ≤ (v2 3).toInt ∧ (v2 3).toInt ≤ 1600 := YIb.b hIv2.1 3 (by decide)
  have pv6 : (v 3).toInt ≤ (v2 3).toInt := pv6
  have pv7 : (v2 5).toInt = (v 5).toInt ∨ (v 3).toInt < (v2 3).toInt ∨ ¬ (v2 5).toInt = 59 := pv7
  have hs2_f3 : f3 2 = (f 2) := kq8
  have hs3_f3 : f3 3 = (f 3) := kq9
  have hs6_f3 : f3 6 = (f 6) := kq10
  have hUv2 : (v2 35).toInt + (v2 36).toInt ≤ 40 := hIv2.2
  have hq0_v2 : v2 0 = (v 0) := hk0_v2
  have zq0_v2 := congrArg Int32.toInt hq0_v2
  have hq1_v2 : v2 1 = (v 1) := hk1_v2
  have zq1_v2 := congrArg Int32.toInt hq1_v2
  have hq4_v2 : v2 4 = (v 4) := hk4_v2
  have hq8_v2 : v2 8 = (v 8) := hk8_v2
  have zq8_v2 := congrArg Int32.toInt hq8_v2
  have hq9_v2 : v2 9 = (v 9) := hk9_v2
  have zq9_v2 := congrArg Int32.toInt hq9_v2
  have hq10_v2 : v2 10 = (v 10) := hk10_v2
  have zq10_v2 := congrArg Int32.toInt hq10_v2
  have hq13_v2 : v2 13 = (v 13) := hk13_v2
  have zq13_v2 := congrArg Int32.toInt hq13_v2
  have hq14_v2 : v2 14 = (v 14) := hk14_v2
  have zq14_v2 := congrArg Int32.toInt hq14_v2
  have hq15_v2 : v2 15 = (v 15) := hk15_v2
  have zq15_v2 := congrArg Int32.toInt hq15_v2
  have hq17_v2 : v2 17 = (v 17) := hk17_v2
  have zq17_v2 := congrArg Int32.toInt hq17_v2
  have hq18_v2 : v2 18 = (v 18) := hk18_v2
  have zq18_v2 := congrArg Int32.toInt hq18_v2
  have hq24_v2 : v2 24 = (v 24) := hk24_v2
  have hq25_v2 : v2 25 = (v 25) := hk25_v2
  have hq35_v2 : v2 35 = (v 35) := hk35_v2
  have hq36_v2 : v2 36 = (v 36) := hk36_v2
  have hq38_v2 : v2 38 = (v 38) := hk38_v2
  have hq39_v2 : v2 39 = (v 39) := hk39_v2
  have hGR : GR (v 3).toInt (v 5).toInt (v2 3).toInt (v2 5).toInt := GR.tr hGR (show GR (v 3).toInt (v 5).toInt (v2 3).toInt (v2 5).toInt from ⟨pv6, pv7⟩) (by first | with_reducible rfl | with_reducible assumption | rfl | omega) (by first | with_reducible rfl | with_reducible assumption | rfl | omega)
  clear pv7
  refine lv_aload_n hx hb dX11_newName_4 rfl (lv_at hl 0 rfl) ?_
  refine cbVi (n := 0) (rest := []) hx hb hml hown hts hE hP hD hS hA (sY_X11_isName_1 NF l dC dI cy y0 r  v2 f3 w4 g5 hIv2 hCf3 hRf3 ) k_1613 k_1615 k_48 k_114 k_1616 (by decide +kernel) ⟨Nat.le_of_ble_eq_true rfl, Nat.le_of_ble_eq_true rfl⟩ 0 11 rfl rfl (rfl) hl.1 rfl (Nat.le_of_ble_eq_true rfl) dX11_newName_5 (fun r11 u H locs hw hP hD hS => ?_)
  obtain ⟨hG12, hw⟩ := hw
  rcases hw with ⟨g13⟩ | ⟨g13⟩
  · skip
    subst g13
    refine lv_if_ne (tgt := 16) hx hb dX11_newName_8 (by decide) (fun _ => ?_) (fun c0 => absurd c0 (by decide))
    refine lv_iconst (v := 0) hx hb dX11_newName_16 (by decide) ?_
    refine lv_istore_n (lv' := [(3, .int 0), (0, .ref y0), (1, .int p1), (2, .int p2)]) hx hb dX11_newName_17 rfl hl (by decide) rfl (fun ls hl => ?_)
    have lp14 : ∀ (n14 : Nat) (l3_14 : Int32) (v14 : Nat → Int32) (f14 : Nat → Nat → Int32) (w14 : Int64) (g14 : Nat → Int64), YI v14 → YC f14 → progOK (f14 4) (f14 5) (v14 9).toInt.toNat → v14 0 = (v 0) → v14 3 = (v2 3) → v14 4 = (v 4) → v14 5 = (v2 5) → v14 8 = (v 8) → v14 9 = (v 9) → v14 10 = (v 10) → v14 13 = (v 13) → v14 14 = (v 14) → v14 15 = (v 15) → v14 17 = (v 17) → v14 18 = (v 18) → v14 24 = (v 24) → v14 25 = (v 25) → v14 35 = (v 35) → v14 36 = (v 36) → v14 38 = (v 38) → v14 39 = (v 39) → gsY_X11_newName_1_L14 NF p1 p2 n14 l3_14 v14 f14 w14 g14 = (gsY_X11_newName_1 NF p1 p2 v f w g) → ((0 : Int) ≤ l3_14.toInt ∧ l3_14.toInt ≤ 2147483647) → (GR (v 3).toInt (v 5).toInt (v14 3).toInt (v14 5).toInt) → KV [1, 2, 3, 5, 6, 7] v14 v → KF [] f14 f → f14 2 = (f 2) → f14 3 = (f 3) → f14 6 = (f 6) → (2147483647 - l3_14.toInt).toNat < n14 → ∀ (H : Heap) (locs : List Loc) (ls : Array Slot), va_P (dC, dI) vwCl (YW cy y0 r v14 f14 w14 g14) H → va_D A (YW cy y0 r v14 f14 w14 g14) → va_S A s.heap H locs → lv_has ls 4 [(3, .int l3_14), (0, .ref y0), (1, .int p1), (2, .int p2)] → W p l e { frames := 3, cells := 0, slots := 0, locals := 103 } s m ([.ref y0, .int p1, .int p2] : List Value).toArray below meth c H locs 0 0 Q (F0 m 18 ls []) := by
      intro n14
      induction n14 with
      | zero => intro l3_14 v14 f14 w14 g14 hIv14 hCf14 hRf14 hq0_v14 hq3_v14 hq4_v14 hq5_v14 hq8_v14 hq9_v14 hq10_v14 hq13_v14 hq14_v14 hq15_v14 hq17_v14 hq18_v14 hq24_v14 hq25_v14 hq35_v14 hq36_v14 hq38_v14 hq39_v14 hT14 hr3_14 hx0_14 hM_v14 hA_f14 hs2_f14 hs3_f14 hs6_f14 hm; exact absurd hm (Nat.not_lt_zero _)
      | succ n14 ih14 =>
        intro l3_14 v14 f14 w14 g14 hIv14 hCf14 hRf14 hq0_v14 hq3_v14 hq4_v14 hq5_v14 hq8_v14 hq9_v14 hq10_v14 hq13_v14 hq14_v14 hq15_v14 hq17_v14 hq18_v14 hq24_v14 hq25_v14 hq35_v14 hq36_v14 hq38_v14 hq39_v14 hT14 hr3_14 hx0_14 hM_v14 hA_f14 hs2_f14 hs3_f14 hs6_f14 hm14 H locs ls hP hD hS hl
        have hUv14 : (v14 35).toInt + (v14 36).toInt ≤ 40 := hIv14.2
        have zq0_v14 := congrArg Int32.toInt hq0_v14
        try clear zq0_v2
        have zq3_v14 := congrArg Int32.toInt hq3_v14
        have zq5_v14 := congrArg Int32.toInt hq5_v14
        have zq8_v14 := congrArg Int32.toInt hq8_v14
        try clear zq8_v2
        have zq9_v14 := congrArg Int32.toInt hq9_v14
        try clear zq9_v2
        have zq10_v14 := congrArg Int32.toInt hq10_v14
        try clear zq10_v2
        have zq13_v14 := congrArg Int32.toInt hq13_v14
        try clear zq13_v2
        have zq14_v14 := congrArg Int32.toInt hq14_v14
        try clear zq14_v2
        have zq15_v14 := congrArg Int32.toInt hq15_v14
        try clear zq15_v2
        have zq17_v14 := congrArg Int32.toInt hq17_v14
        try clear zq17_v2
        have zq18_v14 := congrArg Int32.toInt hq18_v14
        try clear zq18_v2
        have b3_v14 : 0 ≤ (v14 3).toInt ∧ (v14 3).toInt ≤ 1600 := YIb.b hIv14.1 3 (by decide)
        have b3_v2 : 0 ≤ (v2 3).toInt ∧ (v2 3).toInt ≤ 1600 := YIb.b hIv2.1 3 (by decide)
        have hGR := hx0_14
        refine lv_iload_n hx hb dX11_newName_18 rfl (lv_at hl 0 rfl) ?_
        refine lv_iload_n hx hb dX11_newName_19 rfl (lv_at hl 3 rfl) ?_
        refine lv_icmp_ge (tgt := 57) hx hb dX11_newName_20 (by decide) (fun c15 => ?_) (fun c15 => ?_)
        · skip
          have zc15 : p2.toInt ≤ l3_14.toInt := by rw [fa_le] at c15; exact c15
          have rg16 := fb_rng l3_14
          have rg17 := fb_rng p2
          refine lv_aload_n hx hb dX11_newName_57 rfl (lv_at hl 1 rfl) ?_
          refine va_get (D := (dC, dI)) (ci := 11) (v := .int (v14 1)) (C := RX11) (T := TX11) (N := 79) hx hb hts inB_11 hown hE.1 hP 0 rfl rfl 2 (by decide) (hts _ k_1322) (fun _ h9 => h9) rfl dX11_newName_58 ?_
          have b1_v14 : 0 ≤ (v14 1).toInt ∧ (v14 1).toInt ≤ 4 := YIb.b hIv14.1 1 (by decide)
          refine lv_if_le (tgt := 65) hx hb dX11_newName_61 (by decide) (fun c18 => ?_) (fun c18 => ?_)
          · skip
            have zc18 : (v14 1).toInt ≤ 0 := by rw [fa_le, show (0 : Int32).toInt = 0 from by decide] at c18; exact c18
            refine lv_aload_n hx hb dX11_newName_65 rfl (lv_at hl 1 rfl) ?_
            refine va_get (D := (dC, dI)) (ci := 11) (v := .ref (r 10)) (C := RX11) (T := TX11) (N := 79) hx hb hts inB_11 hown hE.1 hP 0 rfl rfl 10 (by decide) (hts _ k_1330) (fun _ h9 => h9) rfl dX11_newName_66 ?_
            refine lv_iload_n hx hb dX11_newName_69 rfl (lv_at hl 2 rfl) ?_
            refine lv_iload_n hx hb dX11_newName_70 rfl (lv_at hl 3 rfl) ?_
            refine lv_iadd hx hb dX11_newName_71 ?_
            refine lv_topi (fun t19 et19 => ?_)
            have rg20 := fb_rng p1
            have zt19 : t19.toInt = p1.toInt + p2.toInt := by rw [et19]; exact add_i rfl rfl (by omega) (by omega)
            refine lv_aload_n hx hb dX11_newName_72 rfl (lv_at hl 1 rfl) ?_
            refine va_get (D := (dC, dI)) (ci := 11) (v := .long w14) (C := RX11) (T := TX11) (N := 79) hx hb hts inB_11 hown hE.1 hP 0 rfl rfl 9 (by decide) (hts _ k_1329) (fun _ h9 => h9) rfl dX11_newName_73 ?_
            refine va_last hx hb hE.1 hP hD hS 2 2 rfl rfl (vp_in_iff.mpr ⟨by omega, by omega⟩) dX11_newName_76 (fun H locs hP hD hS => ?_)
            obtain ⟨g21, eg21, hP, hD⟩ : ∃ fz9, fz9 = vp_updL g14 (t19).toNatClampNeg w14 ∧ va_P (dC, dI) vwCl (YW cy y0 r v14 f14 w14 fz9) H ∧ va_D A (YW cy y0 r v14 f14 w14 fz9) := ⟨_, rfl, hP, hD⟩
            refine lv_aload_n hx hb dX11_newName_77 rfl (lv_at hl 1 rfl) ?_
            refine cbVv (n := 0) (rest := []) hx hb hml hown hts hE hP hD hS hA (sY_X11_token_1 NF l dC dI cy y0 r  v14 f14 w14 g21 hIv14 hCf14 hRf14 ) k_1579 k_1581 k_42 k_114 k_1582 (by decide +kernel) ⟨Nat.le_of_ble_eq_true rfl, Nat.le_of_ble_eq_true rfl⟩ 0 11 rfl rfl (rfl) hl.1 rfl (Nat.le_of_ble_eq_true rfl) dX11_newName_78 (fun u H locs hw hP hD hS => ?_)
            obtain ⟨hG22, hw⟩ := hw
            obtain ⟨v23, f24, w25, g26⟩ := u
            obtain ⟨kV_v23, kF_f24, hIv23, hCf24, hRf24, hk0_v23, hk1_v23, hk2_v23, hk4_v23, hk8_v23, hk9_v23, hk10_v23, hk13_v23, hk14_v23, hk15_v23, hk17_v23, hk18_v23, hk24_v23, hk25_v23, hk35_v23, hk36_v23, hk38_v23, hk39_v23, pv27, pv28, kq29, kq30, kq31⟩ := hw
            have hM_v23 : KV [1, 2, 3, 5, 6, 7] v23 v := KV.tr kV_v23 hM_v14 rfl
            have hA_f24 : KF [] f24 f := KF.tr kF_f24 hA_f14 rfl
            have hP : va_P (dC, dI) vwCl (YW cy y0 r v23 f24 w25 g26) H := hP
            have hD : va_D A (YW cy y0 r v23 f24 w25 g26) := hD
            have b3_v23 : 0 ≤ (v23 3).toInt ∧ (v23 3).toInt ≤ 1600 := YIb.b hIv23.1 3 (by decide)
            have pv27 : (v14 3).toInt ≤ (v23 3).toInt := pv27
            have pv28 : (v23 5).toInt = (v14 5).toInt ∨ (v14 3).toInt < (v23 3).toInt ∨ ¬ (v23 5).toInt = 59 := pv28
            have hs2_f24 : f24 2 = (f 2) := kq29.trans hs2_f14
            have hs3_f24 : f24 3 = (f 3) := kq30.trans hs3_f14
            have hs6_f24 : f24 6 = (f 6) := kq31.trans hs6_f14
            have hUv23 : (v23 35).toInt + (v23 36).toInt ≤ 40 := hIv23.2
            have hq0_v23 : v23 0 = (v 0) := hk0_v23.trans hq0_v14
            have zq0_v23 := congrArg Int32.toInt hq0_v23
            try clear zq0_v14
            have hq1_v23 : v23 1 = (v14 1) := hk1_v23
            have zq1_v23 := congrArg Int32.toInt hq1_v23
            try clear zq1_v2
            have hq8_v23 : v23 8 = (v 8) := hk8_v23.trans hq8_v14
            have zq8_v23 := congrArg Int32.toInt hq8_v23
            try clear zq8_v14
            have hq9_v23 : v23 9 = (v 9) := hk9_v23.trans hq9_v14
            have zq9_v23 := congrArg Int32.toInt hq9_v23
            try clear zq9_v14
            have hq10_v23 : v23 10 = (v 10) := hk10_v23.trans hq10_v14
            have zq10_v23 := congrArg Int32.toInt hq10_v23
            try clear zq10_v14
            have hq13_v23 : v23 13 = (v 13) := hk13_v23.trans hq13_v14
            have zq13_v23 := congrArg Int32.toInt hq13_v23
            try clear zq13_v14
            have hq14_v23 : v23 14 = (v 14) := hk14_v23.trans hq14_v14
            have zq14_v23 := congrArg Int32.toInt hq14_v23
            try clear zq14_v14
            have hq15_v23 : v23 15 = (v 15) := hk15_v23.trans hq15_v14
            have zq15_v23 := congrArg Int32.toInt hq15_v23
            try clear zq15_v14
            have hq17_v23 : v23 17 = (v 17) := hk17_v23.trans hq17_v14
            have zq17_v23 := congrArg Int32.toInt hq17_v23
            try clear zq17_v14
            have hq18_v23 : v23 18 = (v 18) := hk18_v23.trans hq18_v14
            have zq18_v23 := congrArg Int32.toInt hq18_v23
            try clear zq18_v14
            have hGR : GR (v 3).toInt (v 5).toInt (v23 3).toInt (v23 5).toInt := GR.tr hGR (show GR (v14 3).toInt (v14 5).toInt (v23 3).toInt (v23 5).toInt from ⟨pv27, pv28⟩) (by first | with_reducible rfl | with_reducible assumption | rfl | omega) (by first | with_reducible rfl | with_reducible assumption | rfl | omega)
            clear pv28
            exact ret (v23, f24, w25, g26) _ _ _ _ _ _ ⟨(hT14.symm.trans (gsY_X11_newName_1_q0 c15 c18 et19 eg21 hG22)), hM_v23, hA_f24, hIv23, hCf24, hRf24, (hk0_v23.trans hq0_v14), (hk4_v23.trans hq4_v14), (hk8_v23.trans hq8_v14), (hk9_v23.trans hq9_v14), (hk10_v23.trans hq10_v14), (hk13_v23.trans hq13_v14), (hk14_v23.trans hq14_v14), (hk15_v23.trans hq15_v14), (hk17_v23.trans hq17_v14), (hk18_v23.trans hq18_v14), (hk24_v23.trans hq24_v14), (hk25_v23.trans hq25_v14), (hk35_v23.trans hq35_v14), (hk36_v23.trans hq36_v14), (hk38_v23.trans hq38_v14), (hk39_v23.trans hq39_v14), (by show (v 3).toInt ≤ (v23 3).toInt; exact (GR.cast hGR (by first | with_reducible rfl | with_reducible assumption | rfl | omega) (by first | with_reducible rfl | with_reducible assumption | rfl | omega)).1), (by show (v23 5).toInt = (v 5).toInt ∨ (v 3).toInt < (v23 3).toInt ∨ ¬ (v23 5).toInt = 59; exact (GR.cast hGR (by first | with_reducible rfl | with_reducible assumption | rfl | omega) (by first | with_reducible rfl | with_reducible assumption | rfl | omega)).2), hs2_f24, hs3_f24, hs6_f24⟩ hP hD hS dX11_newName_81 (Nat.le_refl _) (Nat.le_refl _)
          · skip
            have zc18 : ¬ ((v14 1).toInt ≤ 0) := by rw [fa_le, show (0 : Int32).toInt = 0 from by decide] at c18; exact c18
            exact ret (v14, f14, w14, g14) _ _ _ _ _ _ ⟨(hT14.symm.trans (gsY_X11_newName_1_q1 c15 c18)), hM_v14, hA_f14, hIv14, hCf14, hRf14, hq0_v14, hq4_v14, hq8_v14, hq9_v14, hq10_v14, hq13_v14, hq14_v14, hq15_v14, hq17_v14, hq18_v14, hq24_v14, hq25_v14, hq35_v14, hq36_v14, hq38_v14, hq39_v14, (by show (v 3).toInt ≤ (v14 3).toInt; exact (GR.cast hGR (by first | with_reducible rfl | with_reducible assumption | rfl | omega) (by first | with_reducible rfl | with_reducible assumption | rfl | omega)).1), (by show (v14 5).toInt = (v 5).toInt ∨ (v 3).toInt < (v14 3).toInt ∨ ¬ (v14 5).toInt = 59; exact (GR.cast hGR (by first | with_reducible rfl | with_reducible assumption | rfl | omega) (by first | with_reducible rfl | with_reducible assumption | rfl | omega)).2), hs2_f14, hs3_f14, hs6_f14⟩ hP hD hS dX11_newName_64 (Nat.le_refl _) (Nat.le_refl _)
        · skip
          have zc15 : ¬ (p2.toInt ≤ l3_14.toInt) := by rw [fa_le] at c15; exact c15
          have rg32 := fb_rng l3_14
          have rg33 := fb_rng p2
          refine lv_aload_n hx hb dX11_newName_23 rfl (lv_at hl 1 rfl) ?_
          refine va_get (D := (dC, dI)) (ci := 11) (v := .int (v14 1)) (C := RX11) (T := TX11) (N := 79) hx hb hts inB_11 hown hE.1 hP 0 rfl rfl 2 (by decide) (hts _ k_1322) (fun _ h9 => h9) rfl dX11_newName_24 ?_
          have b1_v14 : 0 ≤ (v14 1).toInt ∧ (v14 1).toInt ≤ 4 := YIb.b hIv14.1 1 (by decide)
          refine lv_if_ne (tgt := 57) hx hb dX11_newName_27 (by decide) (fun c34 => ?_) (fun c34 => ?_)
          · skip
            have zc34 : ¬ ((v14 1).toInt = 0) := by rw [fa_eq, show (0 : Int32).toInt = 0 from by decide] at c34; exact c34
            refine lv_aload_n hx hb dX11_newName_57 rfl (lv_at hl 1 rfl) ?_
            refine va_get (D := (dC, dI)) (ci := 11) (v := .int (v14 1)) (C := RX11) (T := TX11) (N := 79) hx hb hts inB_11 hown hE.1 hP 0 rfl rfl 2 (by decide) (hts _ k_1322) (fun _ h9 => h9) rfl dX11_newName_58 ?_
            refine lv_if_le (tgt := 65) hx hb dX11_newName_61 (by decide) (fun c35 => ?_) (fun c35 => ?_)
            · skip
              have zc35 : (v14 1).toInt ≤ 0 := by rw [fa_le, show (0 : Int32).toInt = 0 from by decide] at c35; exact c35
              refine lv_aload_n hx hb dX11_newName_65 rfl (lv_at hl 1 rfl) ?_
              refine va_get (D := (dC, dI)) (ci := 11) (v := .ref (r 10)) (C := RX11) (T := TX11) (N := 79) hx hb hts inB_11 hown hE.1 hP 0 rfl rfl 10 (by decide) (hts _ k_1330) (fun _ h9 => h9) rfl dX11_newName_66 ?_
              refine lv_iload_n hx hb dX11_newName_69 rfl (lv_at hl 2 rfl) ?_
              refine lv_iload_n hx hb dX11_newName_70 rfl (lv_at hl 3 rfl) ?_
              refine lv_iadd hx hb dX11_newName_71 ?_
              refine lv_topi (fun t36 et36 => ?_)
              have rg37 := fb_rng p1
              have zt36 : t36.toInt = p1.toInt + p2.toInt := by rw [et36]; exact add_i rfl rfl (by omega) (by omega)
              refine lv_aload_n hx hb dX11_newName_72 rfl (lv_at hl 1 rfl) ?_
              refine va_get (D := (dC, dI)) (ci := 11) (v := .long w14) (C := RX11) (T := TX11) (N := 79) hx hb hts inB_11 hown hE.1 hP 0 rfl rfl 9 (by decide) (hts _ k_1329) (fun _ h9 => h9) rfl dX11_newName_73 ?_
              refine va_last hx hb hE.1 hP hD hS 2 2 rfl rfl (vp_in_iff.mpr ⟨by omega, by omega⟩) dX11_newName_76 (fun H locs hP hD hS => ?_)
              obtain ⟨g38, eg38, hP, hD⟩ : ∃ fz9, fz9 = vp_updL g14 (t36).toNatClampNeg w14 ∧ va_P (dC, dI) vwCl (YW cy y0 r v14 f14 w14 fz9) H ∧ va_D A (YW cy y0 r v14 f14 w14 fz9) := ⟨_, rfl, hP, hD⟩
              refine lv_aload_n hx hb dX11_newName_77 rfl (lv_at hl 1 rfl) ?_
              refine cbVv (n := 0) (rest := []) hx hb hml hown hts hE hP hD hS hA (sY_X11_token_1 NF l dC dI cy y0 r  v14 f14 w14 g38 hIv14 hCf14 hRf14 ) k_1579 k_1581 k_42 k_114 k_1582 (by decide +kernel) ⟨Nat.le_of_ble_eq_true rfl, Nat.le_of_ble_eq_true rfl⟩ 0 11 rfl rfl (rfl) hl.1 rfl (Nat.le_of_ble_eq_true rfl) dX11_newName_78 (fun u H locs hw hP hD hS => ?_)
              obtain ⟨hG39, hw⟩ := hw
              obtain ⟨v40, f41, w42, g43⟩ := u
              obtain ⟨kV_v40, kF_f41, hIv40, hCf41, hRf41, hk0_v40, hk1_v40, hk2_v40, hk4_v40, hk8_v40, hk9_v40, hk10_v40, hk13_v40, hk14_v40, hk15_v40, hk17_v40, hk18_v40, hk24_v40, hk25_v40, hk35_v40, hk36_v40, hk38_v40, hk39_v40, pv44, pv45, kq46, kq47, kq48⟩ := hw
              have hM_v40 : KV [1, 2, 3, 5, 6, 7] v40 v := KV.tr kV_v40 hM_v14 rfl
              have hA_f41 : KF [] f41 f := KF.tr kF_f41 hA_f14 rfl
              have hP : va_P (dC, dI) vwCl (YW cy y0 r v40 f41 w42 g43) H := hP
              have hD : va_D A (YW cy y0 r v40 f41 w42 g43) := hD
              have b3_v40 : 0 ≤ (v40 3).toInt ∧ (v40 3).toInt ≤ 1600 := YIb.b hIv40.1 3 (by decide)
              have pv44 : (v14 3).toInt ≤ (v40 3).toInt := pv44
              have pv45 : (v40 5).toInt = (v14 5).toInt ∨ (v14 3).toInt < (v40 3).toInt ∨ ¬ (v40 5).toInt = 59 := pv45
              have hs2_f41 : f41 2 = (f 2) := kq46.trans hs2_f14
              have hs3_f41 : f41 3 = (f 3) := kq47.trans hs3_f14
              have hs6_f41 : f41 6 = (f 6) := kq48.trans hs6_f14
              have hUv40 : (v40 35).toInt + (v40 36).toInt ≤ 40 := hIv40.2
              have hq0_v40 : v40 0 = (v 0) := hk0_v40.trans hq0_v14
              have zq0_v40 := congrArg Int32.toInt hq0_v40
              try clear zq0_v14
              have hq1_v40 : v40 1 = (v14 1) := hk1_v40
              have zq1_v40 := congrArg Int32.toInt hq1_v40
              try clear zq1_v2
              have hq8_v40 : v40 8 = (v 8) := hk8_v40.trans hq8_v14
              have zq8_v40 := congrArg Int32.toInt hq8_v40
              try clear zq8_v14
              have hq9_v40 : v40 9 = (v 9) := hk9_v40.trans hq9_v14
              have zq9_v40 := congrArg Int32.toInt hq9_v40
              try clear zq9_v14
              have hq10_v40 : v40 10 = (v 10) := hk10_v40.trans hq10_v14
              have zq10_v40 := congrArg Int32.toInt hq10_v40
              try clear zq10_v14
              have hq13_v40 : v40 13 = (v 13) := hk13_v40.trans hq13_v14
              have zq13_v40 := congrArg Int32.toInt hq13_v40
              try clear zq13_v14
              have hq14_v40 : v40 14 = (v 14) := hk14_v40.trans hq14_v14
              have zq14_v40 := congrArg Int32.toInt hq14_v40
              try clear zq14_v14
              have hq15_v40 : v40 15 = (v 15) := hk15_v40.trans hq15_v14
              have zq15_v40 := congrArg Int32.toInt hq15_v40
              try clear zq15_v14
              have hq17_v40 : v40 17 = (v 17) := hk17_v40.trans hq17_v14
              have zq17_v40 := congrArg Int32.toInt hq17_v40
              try clear zq17_v14
              have hq18_v40 : v40 18 = (v 18) := hk18_v40.trans hq18_v14
              have zq18_v40 := congrArg Int32.toInt hq18_v40
              try clear zq18_v14
              have hGR : GR (v 3).toInt (v 5).toInt (v40 3).toInt (v40 5).toInt := GR.tr hGR (show GR (v14 3).toInt (v14 5).toInt (v40 3).toInt (v40 5).toInt from ⟨pv44, pv45⟩) (by first | with_reducible rfl | with_reducible assumption | rfl | omega) (by first | with_reducible rfl | with_reducible assumption | rfl | omega)
              clear pv45
              exact ret (v40, f41, w42, g43) _ _ _ _ _ _ ⟨(hT14.symm.trans (gsY_X11_newName_1_q2 c15 c34 c35 et36 eg38 hG39)), hM_v40, hA_f41, hIv40, hCf41, hRf41, (hk0_v40.trans hq0_v14), (hk4_v40.trans hq4_v14), (hk8_v40.trans hq8_v14), (hk9_v40.trans hq9_v14), (hk10_v40.trans hq10_v14), (hk13_v40.trans hq13_v14), (hk14_v40.trans hq14_v14), (hk15_v40.trans hq15_v14), (hk17_v40.trans hq17_v14), (hk18_v40.trans hq18_v14), (hk24_v40.trans hq24_v14), (hk25_v40.trans hq25_v14), (hk35_v40.trans hq35_v14), (hk36_v40.trans hq36_v14), (hk38_v40.trans hq38_v14), (hk39_v40.trans hq39_v14), (by show (v 3).toInt ≤ (v40 3).toInt; exact (GR.cast hGR (by first | with_reducible rfl | with_reducible assumption | rfl | omega) (by first | with_reducible rfl | with_reducible assumption | rfl | omega)).1), (by show (v40 5).toInt = (v 5).toInt ∨ (v 3).toInt < (v40 3).toInt ∨ ¬ (v40 5).toInt = 59; exact (GR.cast hGR (by first | with_reducible rfl | with_reducible assumption | rfl | omega) (by first | with_reducible rfl | with_reducible assumption | rfl | omega)).2), hs2_f41, hs3_f41, hs6_f41⟩ hP hD hS dX11_newName_81 (Nat.le_refl _) (Nat.le_refl _)
            · skip
              have zc35 : ¬ ((v14 1).toInt ≤ 0) := by rw [fa_le, show (0 : Int32).toInt = 0 from by decide] at c35; exact c35
              exact ret (v14, f14, w14, g14) _ _ _ _ _ _ ⟨(hT14.symm.trans (gsY_X11_newName_1_q3 c15 c34 c35)), hM_v14, hA_f14, hIv14, hCf14, hRf14, hq0_v14, hq4_v14, hq8_v14, hq9_v14, hq10_v14, hq13_v14, hq14_v14, hq15_v14, hq17_v14, hq18_v14, hq24_v14, hq25_v14, hq35_v14, hq36_v14, hq38_v14, hq39_v14, (by show (v 3).toInt ≤ (v14 3).toInt; exact (GR.cast hGR (by first | with_reducible rfl | with_reducible assumption | rfl | omega) (by first | with_reducible rfl | with_reducible assumption | rfl | omega)).1), (by show (v14 5).toInt = (v 5).toInt ∨ (v 3).toInt < (v14 3).toInt ∨ ¬ (v14 5).toInt = 59; exact (GR.cast hGR (by first | with_reducible rfl | with_reducible assumption | rfl | omega) (by first | with_reducible rfl | with_reducible assumption | rfl | omega)).2), hs2_f14, hs3_f14, hs6_f14⟩ hP hD hS dX11_newName_64 (Nat.le_refl _) (Nat.le_refl _)
          · skip
            have zc34 : (v14 1).toInt = 0 := by rw [fa_eq, show (0 : Int32).toInt = 0 from by decide] at c34; exact c34
            refine lv_aload_n hx hb dX11_newName_30 rfl (lv_at hl 1 rfl) ?_
            refine va_get (D := (dC, dI)) (ci := 11) (v := .ref (r 10)) (C := RX11) (T := TX11) (N := 79) hx hb hts inB_11 hown hE.1 hP 0 rfl rfl 10 (by decide) (hts _ k_1330) (fun _ h9 => h9) rfl dX11_newName_31 ?_
            refine lv_iload_n hx hb dX11_newName_34 rfl (lv_at hl 2 rfl) ?_
            refine lv_iload_n hx hb dX11_newName_35 rfl (lv_at hl 0 rfl) ?_
            refine lv_iadd hx hb dX11_newName_36 ?_
            refine lv_topi (fun t49 et49 => ?_)
            have rg50 := fb_rng p1
            have zt49 : t49.toInt = p1.toInt + l3_14.toInt := by rw [et49]; exact add_i rfl rfl (by omega) (by omega)
            refine va_lald hx hb hE.1 hP 2 2 rfl rfl (vp_in_iff.mpr ⟨by omega, by omega⟩) dX11_newName_37 ?_
            refine lv_topl (fun j51 ej51 => ?_)
            refine lv_aload_n hx hb dX11_newName_38 rfl (lv_at hl 1 rfl) ?_
            refine va_get (D := (dC, dI)) (ci := 11) (v := .long w14) (C := RX11) (T := TX11) (N := 79) hx hb hts inB_11 hown hE.1 hP 0 rfl rfl 9 (by decide) (hts _ k_1329) (fun _ h9 => h9) rfl dX11_newName_39 ?_
            refine W.lcmp hx hb dX11_newName_42 ?_
            refine lv_topi (fun t52 et52 => ?_)
            refine lv_if_ne (tgt := 51) hx hb dX11_newName_43 (by decide) (fun c53 => ?_) (fun c53 => ?_)
            · skip
              have zc53 : ¬ (t52.toInt = 0) := by rw [fa_eq, show (0 : Int32).toInt = 0 from by decide] at c53; exact c53
              obtain ⟨t54, et54⟩ : ∃ y : Int32, y = l3_14 + 1 := ⟨_, rfl⟩
              have zt54 : t54.toInt = l3_14.toInt + 1 := by rw [et54]; exact add_i rfl (by decide) (by omega) (by omega)
              refine lv_iinc (v := t54) (lv' := [(3, .int t54), (0, .ref y0), (1, .int p1), (2, .int p2)]) hx hb dX11_newName_51 hl (k := 0) rfl (by rw [et54]; rfl) (by decide) rfl (fun ls hl => ?_)
              refine lv_goto (tgt := 18) hx hb dX11_newName_54 (by decide) ?_
              have rg55 := fb_rng t54
              exact ih14 t54 v14 f14 w14 g14 hIv14 hCf14 hRf14 hq0_v14 hq3_v14 hq4_v14 hq5_v14 hq8_v14 hq9_v14 hq10_v14 hq13_v14 hq14_v14 hq15_v14 hq17_v14 hq18_v14 hq24_v14 hq25_v14 hq35_v14 hq36_v14 hq38_v14 hq39_v14 ((gsY_X11_newName_1_q4 c15 c34 et49 ej51 et52 c53 et54).symm.trans hT14) ⟨show (0 : Int) ≤ t54.toInt by omega, show t54.toInt ≤ (2147483647 : Int) by omega⟩ (by show GR (v 3).toInt (v 5).toInt (v14 3).toInt (v14 5).toInt; exact GR.cast hGR (by first | with_reducible rfl | with_reducible assumption | rfl | omega) (by first | with_reducible rfl | with_reducible assumption | rfl | omega)) hM_v14 hA_f14 hs2_f14 hs3_f14 hs6_f14 (by show (2147483647 - t54.toInt).toNat < n14; omega) _ _ _ hP hD hS (lv_sub hl [0, 1, 2, 3] rfl)
            · skip
              have zc53 : t52.toInt = 0 := by rw [fa_eq, show (0 : Int32).toInt = 0 from by decide] at c53; exact c53
              refine lv_aload_n hx hb dX11_newName_46 rfl (lv_at hl 1 rfl) ?_
              refine lv_iconst (v := 3) hx hb dX11_newName_47 (by decide) ?_
              refine cbVv (n := 1) (rest := []) hx hb hml hown hts hE hP hD hS hA (sY_X11_wrong_1 NF l dC dI cy y0 r 3 v14 f14 w14 g14 hIv14 hCf14 hRf14 ⟨by decide, by decide⟩) k_1641 k_1643 k_50 k_114 k_1644 (by decide +kernel) ⟨Nat.le_of_ble_eq_true rfl, Nat.le_of_ble_eq_true rfl⟩ 0 11 rfl rfl (rfl) hl.1 rfl (Nat.le_of_ble_eq_true rfl) dX11_newName_48 (fun u H locs hw hP hD hS => ?_)
              obtain ⟨hG56, hw⟩ := hw
              obtain ⟨v57, f58, w59, g60⟩ := u
              obtain ⟨kV_v57, kF_f58, hIv57, hCf58, hRf58, hk0_v57, hk3_v57, hk4_v57, hk5_v57, hk8_v57, hk9_v57, hk10_v57, hk13_v57, hk14_v57, hk15_v57, hk17_v57, hk18_v57, hk24_v57, hk25_v57, hk35_v57, hk36_v57, hk38_v57, hk39_v57, pv61, pv62, pv63, kq64, kq65, kq66⟩ := hw
              have hM_v57 : KV [1, 2, 3, 5, 6, 7] v57 v := KV.tr kV_v57 hM_v14 rfl
              have hA_f58 : KF [] f58 f := KF.tr kF_f58 hA_f14 rfl
              have hP : va_P (dC, dI) vwCl (YW cy y0 r v57 f58 w59 g60) H := hP
              have hD : va_D A (YW cy y0 r v57 f58 w59 g60) := hD
              have b3_v57 : 0 ≤ (v57 3).toInt ∧ (v57 3).toInt ≤ 1600 := YIb.b hIv57.1 3 (by decide)
              have b1_v57 : 0 ≤ (v57 1).toInt ∧ (v57 1).toInt ≤ 4 := YIb.b hIv57.1 1 (by decide)
              have pv61 : (v14 3).toInt ≤ (v57 3).toInt := pv61
              have pv62 : (v57 5).toInt = (v14 5).toInt ∨ (v14 3).toInt < (v57 3).toInt ∨ ¬ (v57 5).toInt = 59 := pv62
              have pv63 : 0 < (v57 1).toInt := pv63
              have hs2_f58 : f58 2 = (f 2) := kq64.trans hs2_f14
              have hs3_f58 : f58 3 = (f 3) := kq65.trans hs3_f14
              have hs6_f58 : f58 6 = (f 6) := kq66.trans hs6_f14
              have hUv57 : (v57 35).toInt + (v57 36).toInt ≤ 40 := hIv57.2
              have hq0_v57 : v57 0 = (v 0) := hk0_v57.trans hq0_v14
              have zq0_v57 := congrArg Int32.toInt hq0_v57
              try clear zq0_v14
              have hq3_v57 : v57 3 = (v2 3) := hk3_v57.trans hq3_v14
              have zq3_v57 := congrArg Int32.toInt hq3_v57
              try clear zq3_v14
              have hq4_v57 : v57 4 = (v 4) := hk4_v57.trans hq4_v14
              have hq5_v57 : v57 5 = (v2 5) := hk5_v57.trans hq5_v14
              have zq5_v57 := congrArg Int32.toInt hq5_v57
              try clear zq5_v14
              have hq8_v57 : v57 8 = (v 8) := hk8_v57.trans hq8_v14
              have zq8_v57 := congrArg Int32.toInt hq8_v57
              try clear zq8_v14
              have hq9_v57 : v57 9 = (v 9) := hk9_v57.trans hq9_v14
              have zq9_v57 := congrArg Int32.toInt hq9_v57
              try clear zq9_v14
              have hq10_v57 : v57 10 = (v 10) := hk10_v57.trans hq10_v14
              have zq10_v57 := congrArg Int32.toInt hq10_v57
              try clear zq10_v14
              have hq13_v57 : v57 13 = (v 13) := hk13_v57.trans hq13_v14
              have zq13_v57 := congrArg Int32.toInt hq13_v57
              try clear zq13_v14
              have hq14_v57 : v57 14 = (v 14) := hk14_v57.trans hq14_v14
              have zq14_v57 := congrArg Int32.toInt hq14_v57
              try clear zq14_v14
              have hq15_v57 : v57 15 = (v 15) := hk15_v57.trans hq15_v14
              have zq15_v57 := congrArg Int32.toInt hq15_v57
              try clear zq15_v14
              have hq17_v57 : v57 17 = (v 17) := hk17_v57.trans hq17_v14
              have zq17_v57 := congrArg Int32.toInt hq17_v57
              try clear zq17_v14
              have hq18_v57 : v57 18 = (v 18) := hk18_v57.trans hq18_v14
              have zq18_v57 := congrArg Int32.toInt hq18_v57
              try clear zq18_v14
              have hq24_v57 : v57 24 = (v 24) := hk24_v57.trans hq24_v14
              have hq25_v57 : v57 25 = (v 25) := hk25_v57.trans hq25_v14
              have hq35_v57 : v57 35 = (v 35) := hk35_v57.trans hq35_v14
              have hq36_v57 : v57 36 = (v 36) := hk36_v57.trans hq36_v14
              have hq38_v57 : v57 38 = (v 38) := hk38_v57.trans hq38_v14
              have hq39_v57 : v57 39 = (v 39) := hk39_v57.trans hq39_v14
              have hGR : GR (v 3).toInt (v 5).toInt (v57 3).toInt (v57 5).toInt := GR.tr hGR (show GR (v14 3).toInt (v14 5).toInt (v57 3).toInt (v57 5).toInt from ⟨pv61, pv62⟩) (by first | with_reducible rfl | with_reducible assumption | rfl | omega) (by first | with_reducible rfl | with_reducible assumption | rfl | omega)
              clear pv62
              obtain ⟨t67, et67⟩ : ∃ y : Int32, y = l3_14 + 1 := ⟨_, rfl⟩
              have zt67 : t67.toInt = l3_14.toInt + 1 := by rw [et67]; exact add_i rfl (by decide) (by omega) (by omega)
              refine lv_iinc (v := t67) (lv' := [(3, .int t67), (0, .ref y0), (1, .int p1), (2, .int p2)]) hx hb dX11_newName_51 hl (k := 0) rfl (by rw [et67]; rfl) (by decide) rfl (fun ls hl => ?_)
              refine lv_goto (tgt := 18) hx hb dX11_newName_54 (by decide) ?_
              have rg68 := fb_rng t67
              exact ih14 t67 v57 f58 w59 g60 hIv57 hCf58 hRf58 hq0_v57 hq3_v57 hq4_v57 hq5_v57 hq8_v57 hq9_v57 hq10_v57 hq13_v57 hq14_v57 hq15_v57 hq17_v57 hq18_v57 hq24_v57 hq25_v57 hq35_v57 hq36_v57 hq38_v57 hq39_v57 ((gsY_X11_newName_1_q5 c15 c34 et49 ej51 et52 c53 hG56 et67).symm.trans hT14) ⟨show (0 : Int) ≤ t67.toInt by omega, show t67.toInt ≤ (2147483647 : Int) by omega⟩ (by show GR (v 3).toInt (v 5).toInt (v57 3).toInt (v57 5).toInt; exact GR.cast hGR (by first | with_reducible rfl | with_reducible assumption | rfl | omega) (by first | with_reducible rfl | with_reducible assumption | rfl | omega)) hM_v57 hA_f58 hs2_f58 hs3_f58 hs6_f58 (by show (2147483647 - t67.toInt).toNat < n14; omega) _ _ _ hP hD hS (lv_sub hl [0, 1, 2, 3] rfl)
    exact lp14 (4294967296 + NF) 0 v2 f3 w4 g5 hIv2 hCf3 hRf3 hq0_v2 rfl hq4_v2 rfl hq8_v2 hq9_v2 hq10_v2 hq13_v2 hq14_v2 hq15_v2 hq17_v2 hq18_v2 hq24_v2 hq25_v2 hq35_v2 hq36_v2 hq38_v2 hq39_v2 (gsY_X11_newName_1_q6 hG1 hG12).symm ⟨by decide, by decide⟩ (by show GR (v 3).toInt (v 5).toInt (v2 3).toInt (v2 5).toInt; exact GR.cast hGR (by first | with_reducible rfl | with_reducible assumption | rfl | omega) (by first | with_reducible rfl | with_reducible assumption | rfl | omega)) hM_v2 hA_f3 hs2_f3 hs3_f3 hs6_f3 (by have q3 : (0 : Int32).toInt = 0 := (by decide); show (2147483647 - (0 : Int32).toInt).toNat < 4294967296 + NF; omega) _ _ _ hP hD hS (lv_sub hl [0, 1, 2, 3] rfl)
  · skip
    subst g13
    refine lv_if_ne (tgt := 16) hx hb dX11_newName_8 (by decide) (fun c0 => absurd (by decide) c0) (fun _ => ?_)
    refine lv_aload_n hx hb dX11_newName_11 rfl (lv_at hl 0 rfl) ?_
    refine lv_iconst (v := 2) hx hb dX11_newName_12 (by decide) ?_
    refine cbVv (n := 1) (rest := []) hx hb hml hown hts hE hP hD hS hA (sY_X11_wrong_1 NF l dC dI cy y0 r 2 v2 f3 w4 g5 hIv2 hCf3 hRf3 ⟨by decide, by decide⟩) k_1641 k_1643 k_50 k_114 k_1644 (by decide +kernel) ⟨Nat.le_of_ble_eq_true rfl, Nat.le_of_ble_eq_true rfl⟩ 0 11 rfl rfl (rfl) hl.1 rfl (Nat.le_of_ble_eq_true rfl) dX11_newName_13 (fun u H locs hw hP hD hS => ?_)
    obtain ⟨hG69, hw⟩ := hw
    obtain ⟨v70, f71, w72, g73⟩ := u
    obtain ⟨kV_v70, kF_f71, hIv70, hCf71, hRf71, hk0_v70, hk3_v70, hk4_v70, hk5_v70, hk8_v70, hk9_v70, hk10_v70, hk13_v70, hk14_v70, hk15_v70, hk17_v70, hk18_v70, hk24_v70, hk25_v70, hk35_v70, hk36_v70, hk38_v70, hk39_v70, pv74, pv75, pv76, kq77, kq78, kq79⟩ := hw
    have hM_v70 : KV [1, 2, 3, 5, 6, 7] v70 v := KV.tr kV_v70 hM_v2 rfl
    have hA_f71 : KF [] f71 f := KF.tr kF_f71 hA_f3 rfl
    have hP : va_P (dC, dI) vwCl (YW cy y0 r v70 f71 w72 g73) H := hP
    have hD : va_D A (YW cy y0 r v70 f71 w72 g73) := hD
    have b3_v70 : 0 ≤ (v70 3).toInt ∧ (v70 3).toInt ≤ 1600 := YIb.b hIv70.1 3 (by decide)
    have b1_v70 : 0 ≤ (v70 1).toInt ∧ (v70 1).toInt ≤ 4 := YIb.b hIv70.1 1 (by decide)
    have pv74 : (v2 3).toInt ≤ (v70 3).toInt := pv74
    have pv75 : (v70 5).toInt = (v2 5).toInt ∨ (v2 3).toInt < (v70 3).toInt ∨ ¬ (v70 5).toInt = 59 := pv75
    have pv76 : 0 < (v70 1).toInt := pv76
    have hs2_f71 : f71 2 = (f 2) := kq77.trans hs2_f3
    have hs3_f71 : f71 3 = (f 3) := kq78.trans hs3_f3
    have hs6_f71 : f71 6 = (f 6) := kq79.trans hs6_f3
    have hUv70 : (v70 35).toInt + (v70 36).toInt ≤ 40 := hIv70.2
    have hq0_v70 : v70 0 = (v 0) := hk0_v70.trans hq0_v2
    have zq0_v70 := congrArg Int32.toInt hq0_v70
    try clear zq0_v2
    have hq3_v70 : v70 3 = (v2 3) := hk3_v70
    have zq3_v70 := congrArg Int32.toInt hq3_v70
    have hq4_v70 : v70 4 = (v 4) := hk4_v70.trans hq4_v2
    have hq5_v70 : v70 5 = (v2 5) := hk5_v70
    have zq5_v70 := congrArg Int32.toInt hq5_v70
    have hq8_v70 : v70 8 = (v 8) := hk8_v70.trans hq8_v2
    have zq8_v70 := congrArg Int32.toInt hq8_v70
    try clear zq8_v2
    have hq9_v70 : v70 9 = (v 9) := hk9_v70.trans hq9_v2
    have zq9_v70 := congrArg Int32.toInt hq9_v70
    try clear zq9_v2
    have hq10_v70 : v70 10 = (v 10) := hk10_v70.trans hq10_v2
    have zq10_v70 := congrArg Int32.toInt hq10_v70
    try clear zq10_v2
    have hq13_v70 : v70 13 = (v 13) := hk13_v70.trans hq13_v2
    have zq13_v70 := congrArg Int32.toInt hq13_v70
    try clear zq13_v2
    have hq14_v70 : v70 14 = (v 14) := hk14_v70.trans hq14_v2
    have zq14_v70 := congrArg Int32.toInt hq14_v70
    try clear zq14_v2
    have hq15_v70 : v70 15 = (v 15) := hk15_v70.trans hq15_v2
    have zq15_v70 := congrArg Int32.toInt hq15_v70
    try clear zq15_v2
    have hq17_v70 : v70 17 = (v 17) := hk17_v70.trans hq17_v2
    have zq17_v70 := congrArg Int32.toInt hq17_v70
    try clear zq17_v2
    have hq18_v70 : v70 18 = (v 18) := hk18_v70.trans hq18_v2
    have zq18_v70 := congrArg Int32.toInt hq18_v70
    try clear zq18_v2
    have hq24_v70 : v70 24 = (v 24) := hk24_v70.trans hq24_v2
    have hq25_v70 : v70 25 = (v 25) := hk25_v70.trans hq25_v2
    have hq35_v70 : v70 35 = (v 35) := hk35_v70.trans hq35_v2
    have hq36_v70 : v70 36 = (v 36) := hk36_v70.trans hq36_v2
    have hq38_v70 : v70 38 = (v 38) := hk38_v70.trans hq38_v2
    have hq39_v70 : v70 39 = (v 39) := hk39_v70.trans hq39_v2
    have hGR : GR (v 3).toInt (v 5).toInt (v70 3).toInt (v70 5).toInt := GR.tr hGR (show GR (v2 3).toInt (v2 5).toInt (v70 3).toInt (v70 5).toInt from ⟨pv74, pv75⟩) (by first | with_reducible rfl | with_reducible assumption | rfl | omega) (by first | with_reducible rfl | with_reducible assumption | rfl | omega)
    clear pv75
    refine lv_iconst (v := 0) hx hb dX11_newName_16 (by decide) ?_
    refine lv_istore_n (lv' := [(3, .int 0), (0, .ref y0), (1, .int p1), (2, .int p2)]) hx hb dX11_newName_17 rfl hl (by decide) rfl (fun ls hl => ?_)
    have lp80 : ∀ (n80 : Nat) (l3_80 : Int32) (v80 : Nat → Int32) (f80 : Nat → Nat → Int32) (w80 : Int64) (g80 : Nat → Int64), YI v80 → YC f80 → progOK (f80 4) (f80 5) (v80 9).toInt.toNat → v80 0 = (v 0) → v80 3 = (v2 3) → v80 4 = (v 4) → v80 5 = (v2 5) → v80 8 = (v 8) → v80 9 = (v 9) → v80 10 = (v 10) → v80 13 = (v 13) → v80 14 = (v 14) → v80 15 = (v 15) → v80 17 = (v 17) → v80 18 = (v 18) → v80 24 = (v 24) → v80 25 = (v 25) → v80 35 = (v 35) → v80 36 = (v 36) → v80 38 = (v 38) → v80 39 = (v 39) → gsY_X11_newName_1_L80 NF p1 p2 n80 l3_80 v80 f80 w80 g80 = (gsY_X11_newName_1 NF p1 p2 v f w g) → ((0 : Int) ≤ l3_80.toInt ∧ l3_80.toInt ≤ 2147483647) → (GR (v 3).toInt (v 5).toInt (v80 3).toInt (v80 5).toInt) → KV [1, 2, 3, 5, 6, 7] v80 v → KF [] f80 f → f80 2 = (f 2) → f80 3 = (f 3) → f80 6 = (f 6) → (2147483647 - l3_80.toInt).toNat < n80 → ∀ (H : Heap) (locs : List Loc) (ls : Array Slot), va_P (dC, dI) vwCl (YW cy y0 r v80 f80 w80 g80) H → va_D A (YW cy y0 r v80 f80 w80 g80) → va_S A s.heap H locs → lv_has ls 4 [(3, .int l3_80), (0, .ref y0), (1, .int p1), (2, .int p2)] → W p l e { frames := 3, cells := 0, slots := 0, locals := 103 } s m ([.ref y0, .int p1, .int p2] : List Value).toArray below meth c H locs 0 0 Q (F0 m 18 ls []) := by
      intro n80
      induction n80 with
      | zero => intro l3_80 v80 f80 w80 g80 hIv80 hCf80 hRf80 hq0_v80 hq3_v80 hq4_v80 hq5_v80 hq8_v80 hq9_v80 hq10_v80 hq13_v80 hq14_v80 hq15_v80 hq17_v80 hq18_v80 hq24_v80 hq25_v80 hq35_v80 hq36_v80 hq38_v80 hq39_v80 hT80 hr3_80 hx0_80 hM_v80 hA_f80 hs2_f80 hs3_f80 hs6_f80 hm; exact absurd hm (Nat.not_lt_zero _)
      | succ n80 ih80 =>
        intro l3_80 v80 f80 w80 g80 hIv80 hCf80 hRf80 hq0_v80 hq3_v80 hq4_v80 hq5_v80 hq8_v80 hq9_v80 hq10_v80 hq13_v80 hq14_v80 hq15_v80 hq17_v80 hq18_v80 hq24_v80 hq25_v80 hq35_v80 hq36_v80 hq38_v80 hq39_v80 hT80 hr3_80 hx0_80 hM_v80 hA_f80 hs2_f80 hs3_f80 hs6_f80 hm80 H locs ls hP hD hS hl
        have hUv80 : (v80 35).toInt + (v80 36).toInt ≤ 40 := hIv80.2
        have zq0_v80 := congrArg Int32.toInt hq0_v80
        try clear zq0_v70
        have zq3_v80 := congrArg Int32.toInt hq3_v80
        try clear zq3_v70
        have zq5_v80 := congrArg Int32.toInt hq5_v80
        try clear zq5_v70
        have zq8_v80 := congrArg Int32.toInt hq8_v80
        try clear zq8_v70
        have zq9_v80 := congrArg Int32.toInt hq9_v80
        try clear zq9_v70
        have zq10_v80 := congrArg Int32.toInt hq10_v80
        try clear zq10_v70
        have zq13_v80 := congrArg Int32.toInt hq13_v80
        try clear zq13_v70
        have zq14_v80 := congrArg Int32.toInt hq14_v80
        try clear zq14_v70
        have zq15_v80 := congrArg Int32.toInt hq15_v80
        try clear zq15_v70
        have zq17_v80 := congrArg Int32.toInt hq17_v80
        try clear zq17_v70
        have zq18_v80 := congrArg Int32.toInt hq18_v80
        try clear zq18_v70
        have b3_v80 : 0 ≤ (v80 3).toInt ∧ (v80 3).toInt ≤ 1600 := YIb.b hIv80.1 3 (by decide)
        have b3_v2 : 0 ≤ (v2 3).toInt ∧ (v2 3).toInt ≤ 1600 := YIb.b hIv2.1 3 (by decide)
        have hGR := hx0_80
        refine lv_iload_n hx hb dX11_newName_18 rfl (lv_at hl 0 rfl) ?_
        refine lv_iload_n hx hb dX11_newName_19 rfl (lv_at hl 3 rfl) ?_
        refine lv_icmp_ge (tgt := 57) hx hb dX11_newName_20 (by decide) (fun c81 => ?_) (fun c81 => ?_)
        · skip
          have zc81 : p2.toInt ≤ l3_80.toInt := by rw [fa_le] at c81; exact c81
          have rg82 := fb_rng l3_80
          have rg83 := fb_rng p2
          refine lv_aload_n hx hb dX11_newName_57 rfl (lv_at hl 1 rfl) ?_
          refine va_get (D := (dC, dI)) (ci := 11) (v := .int (v80 1)) (C := RX11) (T := TX11) (N := 79) hx hb hts inB_11 hown hE.1 hP 0 rfl rfl 2 (by decide) (hts _ k_1322) (fun _ h9 => h9) rfl dX11_newName_58 ?_
          have b1_v80 : 0 ≤ (v80 1).toInt ∧ (v80 1).toInt ≤ 4 := YIb.b hIv80.1 1 (by decide)
          refine lv_if_le (tgt := 65) hx hb dX11_newName_61 (by decide) (fun c84 => ?_) (fun c84 => ?_)
          · skip
            have zc84 : (v80 1).toInt ≤ 0 := by rw [fa_le, show (0 : Int32).toInt = 0 from by decide] at c84; exact c84
            refine lv_aload_n hx hb dX11_newName_65 rfl (lv_at hl 1 rfl) ?_
            refine va_get (D := (dC, dI)) (ci := 11) (v := .ref (r 10)) (C := RX11) (T := TX11) (N := 79) hx hb hts inB_11 hown hE.1 hP 0 rfl rfl 10 (by decide) (hts _ k_1330) (fun _ h9 => h9) rfl dX11_newName_66 ?_
            refine lv_iload_n hx hb dX11_newName_69 rfl (lv_at hl 2 rfl) ?_
            refine lv_iload_n hx hb dX11_newName_70 rfl (lv_at hl 3 rfl) ?_
            refine lv_iadd hx hb dX11_newName_71 ?_
            refine lv_topi (fun t85 et85 => ?_)
            have rg86 := fb_rng p1
            have zt85 : t85.toInt = p1.toInt + p2.toInt := by rw [et85]; exact add_i rfl rfl (by omega) (by omega)
            refine lv_aload_n hx hb dX11_newName_72 rfl (lv_at hl 1 rfl) ?_
            refine va_get (D := (dC, dI)) (ci := 11) (v := .long w80) (C := RX11) (T := TX11) (N := 79) hx hb hts inB_11 hown hE.1 hP 0 rfl rfl 9 (by decide) (hts _ k_1329) (fun _ h9 => h9) rfl dX11_newName_73 ?_
            refine va_last hx hb hE.1 hP hD hS 2 2 rfl rfl (vp_in_iff.mpr ⟨by omega, by omega⟩) dX11_newName_76 (fun H locs hP hD hS => ?_)
            obtain ⟨g87, eg87, hP, hD⟩ : ∃ fz9, fz9 = vp_updL g80 (t85).toNatClampNeg w80 ∧ va_P (dC, dI) vwCl (YW cy y0 r v80 f80 w80 fz9) H ∧ va_D A (YW cy y0 r v80 f80 w80 fz9) := ⟨_, rfl, hP, hD⟩
            refine lv_aload_n hx hb dX11_newName_77 rfl (lv_at hl 1 rfl) ?_
            refine cbVv (n := 0) (rest := []) hx hb hml hown hts hE hP hD hS hA (sY_X11_token_1 NF l dC dI cy y0 r  v80 f80 w80 g87 hIv80 hCf80 hRf80 ) k_1579 k_1581 k_42 k_114 k_1582 (by decide +kernel) ⟨Nat.le_of_ble_eq_true rfl, Nat.le_of_ble_eq_true rfl⟩ 0 11 rfl rfl (rfl) hl.1 rfl (Nat.le_of_ble_eq_true rfl) dX11_newName_78 (fun u H locs hw hP hD hS => ?_)
            obtain ⟨hG88, hw⟩ := hw
            obtain ⟨v89, f90, w91, g92⟩ := u
            obtain ⟨kV_v89, kF_f90, hIv89, hCf90, hRf90, hk0_v89, hk1_v89, hk2_v89, hk4_v89, hk8_v89, hk9_v89, hk10_v89, hk13_v89, hk14_v89, hk15_v89, hk17_v89, hk18_v89, hk24_v89, hk25_v89, hk35_v89, hk36_v89, hk38_v89, hk39_v89, pv93, pv94, kq95, kq96, kq97⟩ := hw
            have hM_v89 : KV [1, 2, 3, 5, 6, 7] v89 v := KV.tr kV_v89 hM_v80 rfl
            have hA_f90 : KF [] f90 f := KF.tr kF_f90 hA_f80 rfl
            have hP : va_P (dC, dI) vwCl (YW cy y0 r v89 f90 w91 g92) H := hP
            have hD : va_D A (YW cy y0 r v89 f90 w91 g92) := hD
            have b3_v89 : 0 ≤ (v89 3).toInt ∧ (v89 3).toInt ≤ 1600 := YIb.b hIv89.1 3 (by decide)
            have pv93 : (v80 3).toInt ≤ (v89 3).toInt := pv93
            have pv94 : (v89 5).toInt = (v80 5).toInt ∨ (v80 3).toInt < (v89 3).toInt ∨ ¬ (v89 5).toInt = 59 := pv94
            have hs2_f90 : f90 2 = (f 2) := kq95.trans hs2_f80
            have hs3_f90 : f90 3 = (f 3) := kq96.trans hs3_f80
            have hs6_f90 : f90 6 = (f 6) := kq97.trans hs6_f80
            have hUv89 : (v89 35).toInt + (v89 36).toInt ≤ 40 := hIv89.2
            have hq0_v89 : v89 0 = (v 0) := hk0_v89.trans hq0_v80
            have zq0_v89 := congrArg Int32.toInt hq0_v89
            try clear zq0_v80
            have hq1_v89 : v89 1 = (v80 1) := hk1_v89
            have zq1_v89 := congrArg Int32.toInt hq1_v89
            try clear zq1_v2
            have hq8_v89 : v89 8 = (v 8) := hk8_v89.trans hq8_v80
            have zq8_v89 := congrArg Int32.toInt hq8_v89
            try clear zq8_v80
            have hq9_v89 : v89 9 = (v 9) := hk9_v89.trans hq9_v80
            have zq9_v89 := congrArg Int32.toInt hq9_v89
            try clear zq9_v80
            have hq10_v89 : v89 10 = (v 10) := hk10_v89.trans hq10_v80
            have zq10_v89 := congrArg Int32.toInt hq10_v89
            try clear zq10_v80
            have hq13_v89 : v89 13 = (v 13) := hk13_v89.trans hq13_v80
            have zq13_v89 := congrArg Int32.toInt hq13_v89
            try clear zq13_v80
            have hq14_v89 : v89 14 = (v 14) := hk14_v89.trans hq14_v80
            have zq14_v89 := congrArg Int32.toInt hq14_v89
            try clear zq14_v80
            have hq15_v89 : v89 15 = (v 15) := hk15_v89.trans hq15_v80
            have zq15_v89 := congrArg Int32.toInt hq15_v89
            try clear zq15_v80
            have hq17_v89 : v89 17 = (v 17) := hk17_v89.trans hq17_v80
            have zq17_v89 := congrArg Int32.toInt hq17_v89
            try clear zq17_v80
            have hq18_v89 : v89 18 = (v 18) := hk18_v89.trans hq18_v80
            have zq18_v89 := congrArg Int32.toInt hq18_v89
            try clear zq18_v80
            have hGR : GR (v 3).toInt (v 5).toInt (v89 3).toInt (v89 5).toInt := GR.tr hGR (show GR (v80 3).toInt (v80 5).toInt (v89 3).toInt (v89 5).toInt from ⟨pv93, pv94⟩) (by first | with_reducible rfl | with_reducible assumption | rfl | omega) (by first | with_reducible rfl | with_reducible assumption | rfl | omega)
            clear pv94
            exact ret (v89, f90, w91, g92) _ _ _ _ _ _ ⟨(hT80.symm.trans (gsY_X11_newName_1_q7 c81 c84 et85 eg87 hG88)), hM_v89, hA_f90, hIv89, hCf90, hRf90, (hk0_v89.trans hq0_v80), (hk4_v89.trans hq4_v80), (hk8_v89.trans hq8_v80), (hk9_v89.trans hq9_v80), (hk10_v89.trans hq10_v80), (hk13_v89.trans hq13_v80), (hk14_v89.trans hq14_v80), (hk15_v89.trans hq15_v80), (hk17_v89.trans hq17_v80), (hk18_v89.trans hq18_v80), (hk24_v89.trans hq24_v80), (hk25_v89.trans hq25_v80), (hk35_v89.trans hq35_v80), (hk36_v89.trans hq36_v80), (hk38_v89.trans hq38_v80), (hk39_v89.trans hq39_v80), (by show (v 3).toInt ≤ (v89 3).toInt; exact (GR.cast hGR (by first | with_reducible rfl | with_reducible assumption | rfl | omega) (by first | with_reducible rfl | with_reducible assumption | rfl | omega)).1), (by show (v89 5).toInt = (v 5).toInt ∨ (v 3).toInt < (v89 3).toInt ∨ ¬ (v89 5).toInt = 59; exact (GR.cast hGR (by first | with_reducible rfl | with_reducible assumption | rfl | omega) (by first | with_reducible rfl | with_reducible assumption | rfl | omega)).2), hs2_f90, hs3_f90, hs6_f90⟩ hP hD hS dX11_newName_81 (Nat.le_refl _) (Nat.le_refl _)
          · skip
            have zc84 : ¬ ((v80 1).toInt ≤ 0) := by rw [fa_le, show (0 : Int32).toInt = 0 from by decide] at c84; exact c84
            exact ret (v80, f80, w80, g80) _ _ _ _ _ _ ⟨(hT80.symm.trans (gsY_X11_newName_1_q8 c81 c84)), hM_v80, hA_f80, hIv80, hCf80, hRf80, hq0_v80, hq4_v80, hq8_v80, hq9_v80, hq10_v80, hq13_v80, hq14_v80, hq15_v80, hq17_v80, hq18_v80, hq24_v80, hq25_v80, hq35_v80, hq36_v80, hq38_v80, hq39_v80, (by show (v 3).toInt ≤ (v80 3).toInt; exact (GR.cast hGR (by first | with_reducible rfl | with_reducible assumption | rfl | omega) (by first | with_reducible rfl | with_reducible assumption | rfl | omega)).1), (by show (v80 5).toInt = (v 5).toInt ∨ (v 3).toInt < (v80 3).toInt ∨ ¬ (v80 5).toInt = 59; exact (GR.cast hGR (by first | with_reducible rfl | with_reducible assumption | rfl | omega) (by first | with_reducible rfl | with_reducible assumption | rfl | omega)).2), hs2_f80, hs3_f80, hs6_f80⟩ hP hD hS dX11_newName_64 (Nat.le_refl _) (Nat.le_refl _)
        · skip
          have zc81 : ¬ (p2.toInt ≤ l3_80.toInt) := by rw [fa_le] at c81; exact c81
          have rg98 := fb_rng l3_80
          have rg99 := fb_rng p2
          refine lv_aload_n hx hb dX11_newName_23 rfl (lv_at hl 1 rfl) ?_
          refine va_get (D := (dC, dI)) (ci := 11) (v := .int (v80 1)) (C := RX11) (T := TX11) (N := 79) hx hb hts inB_11 hown hE.1 hP 0 rfl rfl 2 (by decide) (hts _ k_1322) (fun _ h9 => h9) rfl dX11_newName_24 ?_
          have b1_v80 : 0 ≤ (v80 1).toInt ∧ (v80 1).toInt ≤ 4 := YIb.b hIv80.1 1 (by decide)
          refine lv_if_ne (tgt := 57) hx hb dX11_newName_27 (by decide) (fun c100 => ?_) (fun c100 => ?_)
          · skip
            have zc100 : ¬ ((v80 1).toInt = 0) := by rw [fa_eq, show (0 : Int32).toInt = 0 from by decide] at c100; exact c100
            refine lv_aload_n hx hb dX11_newName_57 rfl (lv_at hl 1 rfl) ?_
            refine va_get (D := (dC, dI)) (ci := 11) (v := .int (v80 1)) (C := RX11) (T := TX11) (N := 79) hx hb hts inB_11 hown hE.1 hP 0 rfl rfl 2 (by decide) (hts _ k_1322) (fun _ h9 => h9) rfl dX11_newName_58 ?_
            refine lv_if_le (tgt := 65) hx hb dX11_newName_61 (by decide) (fun c101 => ?_) (fun c101 => ?_)
            · skip
              have zc101 : (v80 1).toInt ≤ 0 := by rw [fa_le, show (0 : Int32).toInt = 0 from by decide] at c101; exact c101
              refine lv_aload_n hx hb dX11_newName_65 rfl (lv_at hl 1 rfl) ?_
              refine va_get (D := (dC, dI)) (ci := 11) (v := .ref (r 10)) (C := RX11) (T := TX11) (N := 79) hx hb hts inB_11 hown hE.1 hP 0 rfl rfl 10 (by decide) (hts _ k_1330) (fun _ h9 => h9) rfl dX11_newName_66 ?_
              refine lv_iload_n hx hb dX11_newName_69 rfl (lv_at hl 2 rfl) ?_
              refine lv_iload_n hx hb dX11_newName_70 rfl (lv_at hl 3 rfl) ?_
              refine lv_iadd hx hb dX11_newName_71 ?_
              refine lv_topi (fun t102 et102 => ?_)
              have rg103 := fb_rng p1
              have zt102 : t102.toInt = p1.toInt + p2.toInt := by rw [et102]; exact add_i rfl rfl (by omega) (by omega)
              refine lv_aload_n hx hb dX11_newName_72 rfl (lv_at hl 1 rfl) ?_
              refine va_get (D := (dC, dI)) (ci := 11) (v := .long w80) (C := RX11) (T := TX11) (N := 79) hx hb hts inB_11 hown hE.1 hP 0 rfl rfl 9 (by decide) (hts _ k_1329) (fun _ h9 => h9) rfl dX11_newName_73 ?_
              refine va_last hx hb hE.1 hP hD hS 2 2 rfl rfl (vp_in_iff.mpr ⟨by omega, by omega⟩) dX11_newName_76 (fun H locs hP hD hS => ?_)
              obtain ⟨g104, eg104, hP, hD⟩ : ∃ fz9, fz9 = vp_updL g80 (t102).toNatClampNeg w80 ∧ va_P (dC, dI) vwCl (YW cy y0 r v80 f80 w80 fz9) H ∧ va_D A (YW cy y0 r v80 f80 w80 fz9) := ⟨_, rfl, hP, hD⟩
              refine lv_aload_n hx hb dX11_newName_77 rfl (lv_at hl 1 rfl) ?_
              refine cbVv (n := 0) (rest := []) hx hb hml hown hts hE hP hD hS hA (sY_X11_token_1 NF l dC dI cy y0 r  v80 f80 w80 g104 hIv80 hCf80 hRf80 ) k_1579 k_1581 k_42 k_114 k_1582 (by decide +kernel) ⟨Nat.le_of_ble_eq_true rfl, Nat.le_of_ble_eq_true rfl⟩ 0 11 rfl rfl (rfl) hl.1 rfl (Nat.le_of_ble_eq_true rfl) dX11_newName_78 (fun u H locs hw hP hD hS => ?_)
              obtain ⟨hG105, hw⟩ := hw
              obtain ⟨v106, f107, w108, g109⟩ := u
              obtain ⟨kV_v106, kF_f107, hIv106, hCf107, hRf107, hk0_v106, hk1_v106, hk2_v106, hk4_v106, hk8_v106, hk9_v106, hk10_v106, hk13_v106, hk14_v106, hk15_v106, hk17_v106, hk18_v106, hk24_v106, hk25_v106, hk35_v106, hk36_v106, hk38_v106, hk39_v106, pv110, pv111, kq112, kq113, kq114⟩ := hw
              have hM_v106 : KV [1, 2, 3, 5, 6, 7] v106 v := KV.tr kV_v106 hM_v80 rfl
              have hA_f107 : KF [] f107 f := KF.tr kF_f107 hA_f80 rfl
              have hP : va_P (dC, dI) vwCl (YW cy y0 r v106 f107 w108 g109) H := hP
              have hD : va_D A (YW cy y0 r v106 f107 w108 g109) := hD
              have b3_v106 : 0 ≤ (v106 3).toInt ∧ (v106 3).toInt ≤ 1600 := YIb.b hIv106.1 3 (by decide)
              have pv110 : (v80 3).toInt ≤ (v106 3).toInt := pv110
              have pv111 : (v106 5).toInt = (v80 5).toInt ∨ (v80 3).toInt < (v106 3).toInt ∨ ¬ (v106 5).toInt = 59 := pv111
              have hs2_f107 : f107 2 = (f 2) := kq112.trans hs2_f80
              have hs3_f107 : f107 3 = (f 3) := kq113.trans hs3_f80
              have hs6_f107 : f107 6 = (f 6) := kq114.trans hs6_f80
              have hUv106 : (v106 35).toInt + (v106 36).toInt ≤ 40 := hIv106.2
              have hq0_v106 : v106 0 = (v 0) := hk0_v106.trans hq0_v80
              have zq0_v106 := congrArg Int32.toInt hq0_v106
              try clear zq0_v80
              have hq1_v106 : v106 1 = (v80 1) := hk1_v106
              have zq1_v106 := congrArg Int32.toInt hq1_v106
              try clear zq1_v2
              have hq8_v106 : v106 8 = (v 8) := hk8_v106.trans hq8_v80
              have zq8_v106 := congrArg Int32.toInt hq8_v106
              try clear zq8_v80
              have hq9_v106 : v106 9 = (v 9) := hk9_v106.trans hq9_v80
              have zq9_v106 := congrArg Int32.toInt hq9_v106
              try clear zq9_v80
              have hq10_v106 : v106 10 = (v 10) := hk10_v106.trans hq10_v80
              have zq10_v106 := congrArg Int32.toInt hq10_v106
              try clear zq10_v80
              have hq13_v106 : v106 13 = (v 13) := hk13_v106.trans hq13_v80
              have zq13_v106 := congrArg Int32.toInt hq13_v106
              try clear zq13_v80
              have hq14_v106 : v106 14 = (v 14) := hk14_v106.trans hq14_v80
              have zq14_v106 := congrArg Int32.toInt hq14_v106
              try clear zq14_v80
              have hq15_v106 : v106 15 = (v 15) := hk15_v106.trans hq15_v80
              have zq15_v106 := congrArg Int32.toInt hq15_v106
              try clear zq15_v80
              have hq17_v106 : v106 17 = (v 17) := hk17_v106.trans hq17_v80
              have zq17_v106 := congrArg Int32.toInt hq17_v106
              try clear zq17_v80
              have hq18_v106 : v106 18 = (v 18) := hk18_v106.trans hq18_v80
              have zq18_v106 := congrArg Int32.toInt hq18_v106
              try clear zq18_v80
              have hGR : GR (v 3).toInt (v 5).toInt (v106 3).toInt (v106 5).toInt := GR.tr hGR (show GR (v80 3).toInt (v80 5).toInt (v106 3).toInt (v106 5).toInt from ⟨pv110, pv111⟩) (by first | with_reducible rfl | with_reducible assumption | rfl | omega) (by first | with_reducible rfl | with_reducible assumption | rfl | omega)
              clear pv111
              exact ret (v106, f107, w108, g109) _ _ _ _ _ _ ⟨(hT80.symm.trans (gsY_X11_newName_1_q9 c81 c100 c101 et102 eg104 hG105)), hM_v106, hA_f107, hIv106, hCf107, hRf107, (hk0_v106.trans hq0_v80), (hk4_v106.trans hq4_v80), (hk8_v106.trans hq8_v80), (hk9_v106.trans hq9_v80), (hk10_v106.trans hq10_v80), (hk13_v106.trans hq13_v80), (hk14_v106.trans hq14_v80), (hk15_v106.trans hq15_v80), (hk17_v106.trans hq17_v80), (hk18_v106.trans hq18_v80), (hk24_v106.trans hq24_v80), (hk25_v106.trans hq25_v80), (hk35_v106.trans hq35_v80), (hk36_v106.trans hq36_v80), (hk38_v106.trans hq38_v80), (hk39_v106.trans hq39_v80), (by show (v 3).toInt ≤ (v106 3).toInt; exact (GR.cast hGR (by first | with_reducible rfl | with_reducible assumption | rfl | omega) (by first | with_reducible rfl | with_reducible assumption | rfl | omega)).1), (by show (v106 5).toInt = (v 5).toInt ∨ (v 3).toInt < (v106 3).toInt ∨ ¬ (v106 5).toInt = 59; exact (GR.cast hGR (by first | with_reducible rfl | with_reducible assumption | rfl | omega) (by first | with_reducible rfl | with_reducible assumption | rfl | omega)).2), hs2_f107, hs3_f107, hs6_f107⟩ hP hD hS dX11_newName_81 (Nat.le_refl _) (Nat.le_refl _)
            · skip
              have zc101 : ¬ ((v80 1).toInt ≤ 0) := by rw [fa_le, show (0 : Int32).toInt = 0 from by decide] at c101; exact c101
              exact ret (v80, f80, w80, g80) _ _ _ _ _ _ ⟨(hT80.symm.trans (gsY_X11_newName_1_q10 c81 c100 c101)), hM_v80, hA_f80, hIv80, hCf80, hRf80, hq0_v80, hq4_v80, hq8_v80, hq9_v80, hq10_v80, hq13_v80, hq14_v80, hq15_v80, hq17_v80, hq18_v80, hq24_v80, hq25_v80, hq35_v80, hq36_v80, hq38_v80, hq39_v80, (by show (v 3).toInt ≤ (v80 3).toInt; exact (GR.cast hGR (by first | with_reducible rfl | with_reducible assumption | rfl | omega) (by first | with_reducible rfl | with_reducible assumption | rfl | omega)).1), (by show (v80 5).toInt = (v 5).toInt ∨ (v 3).toInt < (v80 3).toInt ∨ ¬ (v80 5).toInt = 59; exact (GR.cast hGR (by first | with_reducible rfl | with_reducible assumption | rfl | omega) (by first | with_reducible rfl | with_reducible assumption | rfl | omega)).2), hs2_f80, hs3_f80, hs6_f80⟩ hP hD hS dX11_newName_64 (Nat.le_refl _) (Nat.le_refl _)
          · skip
            have zc100 : (v80 1).toInt = 0 := by rw [fa_eq, show (0 : Int32).toInt = 0 from by decide] at c100; exact c100
            refine lv_aload_n hx hb dX11_newName_30 rfl (lv_at hl 1 rfl) ?_
            refine va_get (D := (dC, dI)) (ci := 11) (v := .ref (r 10)) (C := RX11) (T := TX11) (N := 79) hx hb hts inB_11 hown hE.1 hP 0 rfl rfl 10 (by decide) (hts _ k_1330) (fun _ h9 => h9) rfl dX11_newName_31 ?_
            refine lv_iload_n hx hb dX11_newName_34 rfl (lv_at hl 2 rfl) ?_
            refine lv_iload_n hx hb dX11_newName_35 rfl (lv_at hl 0 rfl) ?_
            refine lv_iadd hx hb dX11_newName_36 ?_
            refine lv_topi (fun t115 et115 => ?_)
            have rg116 := fb_rng p1
            have zt115 : t115.toInt = p1.toInt + l3_80.toInt := by rw [et115]; exact add_i rfl rfl (by omega) (by omega)
            refine va_lald hx hb hE.1 hP 2 2 rfl rfl (vp_in_iff.mpr ⟨by omega, by omega⟩) dX11_newName_37 ?_
            refine lv_topl (fun j117 ej117 => ?_)
            refine lv_aload_n hx hb dX11_newName_38 rfl (lv_at hl 1 rfl) ?_
            refine va_get (D := (dC, dI)) (ci := 11) (v := .long w80) (C := RX11) (T := TX11) (N := 79) hx hb hts inB_11 hown hE.1 hP 0 rfl rfl 9 (by decide) (hts _ k_1329) (fun _ h9 => h9) rfl dX11_newName_39 ?_
            refine W.lcmp hx hb dX11_newName_42 ?_
            refine lv_topi (fun t118 et118 => ?_)
            refine lv_if_ne (tgt := 51) hx hb dX11_newName_43 (by decide) (fun c119 => ?_) (fun c119 => ?_)
            · skip
              have zc119 : ¬ (t118.toInt = 0) := by rw [fa_eq, show (0 : Int32).toInt = 0 from by decide] at c119; exact c119
              obtain ⟨t120, et120⟩ : ∃ y : Int32, y = l3_80 + 1 := ⟨_, rfl⟩
              have zt120 : t120.toInt = l3_80.toInt + 1 := by rw [et120]; exact add_i rfl (by decide) (by omega) (by omega)
              refine lv_iinc (v := t120) (lv' := [(3, .int t120), (0, .ref y0), (1, .int p1), (2, .int p2)]) hx hb dX11_newName_51 hl (k := 0) rfl (by rw [et120]; rfl) (by decide) rfl (fun ls hl => ?_)
              refine lv_goto (tgt := 18) hx hb dX11_newName_54 (by decide) ?_
              have rg121 := fb_rng t120
              exact ih80 t120 v80 f80 w80 g80 hIv80 hCf80 hRf80 hq0_v80 hq3_v80 hq4_v80 hq5_v80 hq8_v80 hq9_v80 hq10_v80 hq13_v80 hq14_v80 hq15_v80 hq17_v80 hq18_v80 hq24_v80 hq25_v80 hq35_v80 hq36_v80 hq38_v80 hq39_v80 ((gsY_X11_newName_1_q11 c81 c100 et115 ej117 et118 c119 et120).symm.trans hT80) ⟨show (0 : Int) ≤ t120.toInt by omega, show t120.toInt ≤ (2147483647 : Int) by omega⟩ (by show GR (v 3).toInt (v 5).toInt (v80 3).toInt (v80 5).toInt; exact GR.cast hGR (by first | with_reducible rfl | with_reducible assumption | rfl | omega) (by first | with_reducible rfl | with_reducible assumption | rfl | omega)) hM_v80 hA_f80 hs2_f80 hs3_f80 hs6_f80 (by show (2147483647 - t120.toInt).toNat < n80; omega) _ _ _ hP hD hS (lv_sub hl [0, 1, 2, 3] rfl)
            · skip
              have zc119 : t118.toInt = 0 := by rw [fa_eq, show (0 : Int32).toInt = 0 from by decide] at c119; exact c119
              refine lv_aload_n hx hb dX11_newName_46 rfl (lv_at hl 1 rfl) ?_
              refine lv_iconst (v := 3) hx hb dX11_newName_47 (by decide) ?_
              refine cbVv (n := 1) (rest := []) hx hb hml hown hts hE hP hD hS hA (sY_X11_wrong_1 NF l dC dI cy y0 r 3 v80 f80 w80 g80 hIv80 hCf80 hRf80 ⟨by decide, by decide⟩) k_1641 k_1643 k_50 k_114 k_1644 (by decide +kernel) ⟨Nat.le_of_ble_eq_true rfl, Nat.le_of_ble_eq_true rfl⟩ 0 11 rfl rfl (rfl) hl.1 rfl (Nat.le_of_ble_eq_true rfl) dX11_newName_48 (fun u H locs hw hP hD hS => ?_)
              obtain ⟨hG122, hw⟩ := hw
              obtain ⟨v123, f124, w125, g126⟩ := u
              obtain ⟨kV_v123, kF_f124, hIv123, hCf124, hRf124, hk0_v123, hk3_v123, hk4_v123, hk5_v123, hk8_v123, hk9_v123, hk10_v123, hk13_v123, hk14_v123, hk15_v123, hk17_v123, hk18_v123, hk24_v123, hk25_v123, hk35_v123, hk36_v123, hk38_v123, hk39_v123, pv127, pv128, pv129, kq130, kq131, kq132⟩ := hw
              have hM_v123 : KV [1, 2, 3, 5, 6, 7] v123 v := KV.tr kV_v123 hM_v80 rfl
              have hA_f124 : KF [] f124 f := KF.tr kF_f124 hA_f80 rfl
              have hP : va_P (dC, dI) vwCl (YW cy y0 r v123 f124 w125 g126) H := hP
              have hD : va_D A (YW cy y0 r v123 f124 w125 g126) := hD
              have b3_v123 : 0 ≤ (v123 3).toInt ∧ (v123 3).toInt ≤ 1600 := YIb.b hIv123.1 3 (by decide)
              have b1_v123 : 0 ≤ (v123 1).toInt ∧ (v123 1).toInt ≤ 4 := YIb.b hIv123.1 1 (by decide)
              have pv127 : (v80 3).toInt ≤ (v123 3).toInt := pv127
              have pv128 : (v123 5).toInt = (v80 5).toInt ∨ (v80 3).toInt < (v123 3).toInt ∨ ¬ (v123 5).toInt = 59 := pv128
              have pv129 : 0 < (v123 1).toInt := pv129
              have hs2_f124 : f124 2 = (f 2) := kq130.trans hs2_f80
              have hs3_f124 : f124 3 = (f 3) := kq131.trans hs3_f80
              have hs6_f124 : f124 6 = (f 6) := kq132.trans hs6_f80
              have hUv123 : (v123 35).toInt + (v123 36).toInt ≤ 40 := hIv123.2
              have hq0_v123 : v123 0 = (v 0) := hk0_v123.trans hq0_v80
              have zq0_v123 := congrArg Int32.toInt hq0_v123
              try clear zq0_v80
              have hq3_v123 : v123 3 = (v2 3) := hk3_v123.trans hq3_v80
              have zq3_v123 := congrArg Int32.toInt hq3_v123
              try clear zq3_v80
              have hq4_v123 : v123 4 = (v 4) := hk4_v123.trans hq4_v80
              have hq5_v123 : v123 5 = (v2 5) := hk5_v123.trans hq5_v80
              have zq5_v123 := congrArg Int32.toInt hq5_v123
              try clear zq5_v80
              have hq8_v123 : v123 8 = (v 8) := hk8_v123.trans hq8_v80
              have zq8_v123 := congrArg Int32.toInt hq8_v123
              try clear zq8_v80
              have hq9_v123 : v123 9 = (v 9) := hk9_v123.trans hq9_v80
              have zq9_v123 := congrArg Int32.toInt hq9_v123
              try clear zq9_v80
              have hq10_v123 : v123 10 = (v 10) := hk10_v123.trans hq10_v80
              have zq10_v123 := congrArg Int32.toInt hq10_v123
              try clear zq10_v80
              have hq13_v123 : v123 13 = (v 13) := hk13_v123.trans hq13_v80
              have zq13_v123 := congrArg Int32.toInt hq13_v123
              try clear zq13_v80
              have hq14_v123 : v123 14 = (v 14) := hk14_v123.trans hq14_v80
              have zq14_v123 := congrArg Int32.toInt hq14_v123
              try clear zq14_v80
              have hq15_v123 : v123 15 = (v 15) := hk15_v123.trans hq15_v80
              have zq15_v123 := congrArg Int32.toInt hq15_v123
              try clear zq15_v80
              have hq17_v123 : v123 17 = (v 17) := hk17_v123.trans hq17_v80
              have zq17_v123 := congrArg Int32.toInt hq17_v123
              try clear zq17_v80
              have hq18_v123 : v123 18 = (v 18) := hk18_v123.trans hq18_v80
              have zq18_v123 := congrArg Int32.toInt hq18_v123
              try clear zq18_v80
              have hq24_v123 : v123 24 = (v 24) := hk24_v123.trans hq24_v80
              have hq25_v123 : v123 25 = (v 25) := hk25_v123.trans hq25_v80
              have hq35_v123 : v123 35 = (v 35) := hk35_v123.trans hq35_v80
              have hq36_v123 : v123 36 = (v 36) := hk36_v123.trans hq36_v80
              have hq38_v123 : v123 38 = (v 38) := hk38_v123.trans hq38_v80
              have hq39_v123 : v123 39 = (v 39) := hk39_v123.trans hq39_v80
              have hGR : GR (v 3).toInt (v 5).toInt (v123 3).toInt (v123 5).toInt := GR.tr hGR (show GR (v80 3).toInt (v80 5).toInt (v123 3).toInt (v123 5).toInt from ⟨pv127, pv128⟩) (by first | with_reducible rfl | with_reducible assumption | rfl | omega) (by first | with_reducible rfl | with_reducible assumption | rfl | omega)
              clear pv128
              obtain ⟨t133, et133⟩ : ∃ y : Int32, y = l3_80 + 1 := ⟨_, rfl⟩
              have zt133 : t133.toInt = l3_80.toInt + 1 := by rw [et133]; exact add_i rfl (by decide) (by omega) (by omega)
              refine lv_iinc (v := t133) (lv' := [(3, .int t133), (0, .ref y0), (1, .int p1), (2, .int p2)]) hx hb dX11_newName_51 hl (k := 0) rfl (by rw [et133]; rfl) (by decide) rfl (fun ls hl => ?_)
              refine lv_goto (tgt := 18) hx hb dX11_newName_54 (by decide) ?_
              have rg134 := fb_rng t133
              exact ih80 t133 v123 f124 w125 g126 hIv123 hCf124 hRf124 hq0_v123 hq3_v123 hq4_v123 hq5_v123 hq8_v123 hq9_v123 hq10_v123 hq13_v123 hq14_v123 hq15_v123 hq17_v123 hq18_v123 hq24_v123 hq25_v123 hq35_v123 hq36_v123 hq38_v123 hq39_v123 ((gsY_X11_newName_1_q12 c81 c100 et115 ej117 et118 c119 hG122 et133).symm.trans hT80) ⟨show (0 : Int) ≤ t133.toInt by omega, show t133.toInt ≤ (2147483647 : Int) by omega⟩ (by show GR (v 3).toInt (v 5).toInt (v123 3).toInt (v123 5).toInt; exact GR.cast hGR (by first | with_reducible rfl | with_reducible assumption | rfl | omega) (by first | with_reducible rfl | with_reducible assumption | rfl | omega)) hM_v123 hA_f124 hs2_f124 hs3_f124 hs6_f124 (by show (2147483647 - t133.toInt).toNat < n80; omega) _ _ _ hP hD hS (lv_sub hl [0, 1, 2, 3] rfl)
    exact lp80 (4294967296 + NF) 0 v70 f71 w72 g73 hIv70 hCf71 hRf71 hq0_v70 hq3_v70 hq4_v70 hq5_v70 hq8_v70 hq9_v70 hq10_v70 hq13_v70 hq14_v70 hq15_v70 hq17_v70 hq18_v70 hq24_v70 hq25_v70 hq35_v70 hq36_v70 hq38_v70 hq39_v70 (gsY_X11_newName_1_q13 hG1 hG12 hG69).symm ⟨by decide, by decide⟩ (by show GR (v 3).toInt (v 5).toInt (v70 3).toInt (v70 5).toInt; exact GR.cast hGR (by first | with_reducible rfl | with_reducible assumption | rfl | omega) (by first | with_reducible rfl | with_reducible assumption | rfl | omega)) hM_v70 hA_f71 hs2_f71 hs3_f71 hs6_f71 (by have q3 : (0 : Int32).toInt = 0 := (by decide); show (2147483647 - (0 : Int32).toInt).toNat < 4294967296 + NF; omega) _ _ _ hP hD hS (lv_sub hl [0, 1, 2, 3] rfl)
set_option maxHeartbeats 4000000 in
set_option maxRecDepth 100000 in
theorem sY_X11_option_1 (NF : Nat) (l : Launch) (dC : Nat → ClassId) (dI : Nat → Nat → Nat) (cy : Nat → ClassId) (y0 : Nat) (r : Nat → Nat) (j1 : Int64) (p2 : Int32) (v : Nat → Int32) (f : Nat → Nat → Int32) (w : Int64) (g : Nat → Int64) (hIv : YI v) (hCf : YC f) (hRf : progOK (f 4) (f 5) (v 9).toInt.toNat)  : ctI l (dC, dI) cy yX11_option cX11_option 4 .int 5 149 0 0 ((Nat → Int32) × (Nat → Nat → Int32) × (Int64) × (Nat → Int64)) [.ref y0, .long j1, .int p2] (YW cy y0 r v f w g) (fun r u => gsY_X11_option_1 NF j1 p2 v f w g = (r, u) ∧ KV [1, 2, 3, 5, 6, 7] u.1 v ∧ KF [] u.2.1 f ∧ YI u.1 ∧ YC u.2.1 ∧ progOK (u.2.1 4) (u.2.1 5) (u.1 9).toInt.toNat ∧ u.1 0 = v 0 ∧ u.1 4 = v 4 ∧ u.1 8 = v 8 ∧ u.1 9 = v 9 ∧ u.1 10 = v 10 ∧ u.1 13 = v 13 ∧ u.1 14 = v 14 ∧ u.1 15 = v 15 ∧ u.1 17 = v 17 ∧ u.1 18 = v 18 ∧ u.1 24 = v 24 ∧ u.1 25 = v 25 ∧ u.1 35 = v 35 ∧ u.1 36 = v 36 ∧ u.1 38 = v 38 ∧ u.1 39 = v 39 ∧ ((v 3).toInt ≤ (u.1 3).toInt) ∧ ((u.1 5).toInt = (v 5).toInt ∨ (v 3).toInt < (u.1 3).toInt ∨ ¬ (u.1 5).toInt = 59) ∧ u.2.1 2 = f 2 ∧ u.2.1 3 = f 3 ∧ u.2.1 6 = f 6) (fun u => YW cy y0 r u.1 u.2.1 u.2.2.1 u.2.2.2) := by
  refine ctI_of (by decide) (Nat.le_of_ble_eq_true rfl) (fun p e s m below meth c A ls Q hx hb hml hts hown hE hP hD hA hl ret => ?_)
  have hUv : (v 35).toInt + (v 36).toInt ≤ 40 := hIv.2
  have hM_v : KV [1, 2, 3, 5, 6, 7] v v := fun _ _ => rfl
  have hA_f : KF [] f f := fun _ _ => rfl
  have b0_v : (0 : Int) ≤ (v 0).toInt ∧ (v 0).toInt ≤ 1600 := YIb.b hIv.1 0 (by decide)
  have b1_v : (0 : Int) ≤ (v 1).toInt ∧ (v 1).toInt ≤ 4 := YIb.b hIv.1 1 (by decide)
  have b8_v : (0 : Int) ≤ (v 8).toInt ∧ (v 8).toInt ≤ 320 := YIb.b hIv.1 8 (by decide)
  have b10_v : (0 : Int) ≤ (v 10).toInt ∧ (v 10).toInt ≤ 160 := YIb.b hIv.1 10 (by decide)
  have b13_v : (0 : Int) ≤ (v 13).toInt ∧ (v 13).toInt ≤ 31 := YIb.b hIv.1 13 (by decide)
  have b14_v : (0 : Int) ≤ (v 14).toInt ∧ (v 14).toInt ≤ 8 := YIb.b hIv.1 14 (by decide)
  have b15_v : (0 : Int) ≤ (v 15).toInt ∧ (v 15).toInt ≤ 1 := YIb.b hIv.1 15 (by decide)
  have b17_v : (0 : Int) ≤ (v 17).toInt ∧ (v 17).toInt ≤ 6 := YIb.b hIv.1 17 (by decide)
  have b18_v : (0 : Int) ≤ (v 18).toInt ∧ (v 18).toInt ≤ 6 := YIb.b hIv.1 18 (by decide)
  have hGR : GR (v 3).toInt (v 5).toInt (v 3).toInt (v 5).toInt := GR.refl _ _
  have hown : s.vm.findClass RX11 = some m.cls := hown
  have hS : va_S A s.heap s.heap [] := va_S.rf
  have hl : lv_has ls 4 [(0, .ref y0), (1, .long j1), (3, .int p2)] := hl
  refine lv_aload_n hx hb dX11_option_0 rfl (lv_at hl 0 rfl) ?_
  refine va_get (D := (dC, dI)) (ci := 11) (v := .int (v 1)) (C := RX11) (T := TX11) (N := 79) hx hb hts inB_11 hown hE.1 hP 0 rfl rfl 2 (by decide) (hts _ k_1322) (fun _ h9 => h9) rfl dX11_option_1 ?_
  have b1_v : 0 ≤ (v 1).toInt ∧ (v 1).toInt ≤ 4 := YIb.b hIv.1 1 (by decide)
  refine lv_if_ne (tgt := 24) hx hb dX11_option_4 (by decide) (fun c1 => ?_) (fun c1 => ?_)
  · skip
    have zc1 : ¬ ((v 1).toInt = 0) := by rw [fa_eq, show (0 : Int32).toInt = 0 from by decide] at c1; exact c1
    refine lv_iconst (v := 0) hx hb dX11_option_24 (by decide) ?_
    exact ret 0 (v, f, w, g) _ _ _ _ _ _ rfl ⟨(gsY_X11_option_1_q0 c1), hM_v, hA_f, hIv, hCf, hRf, rfl, rfl, rfl, rfl, rfl, rfl, rfl, rfl, rfl, rfl, rfl, rfl, rfl, rfl, rfl, rfl, (by show (v 3).toInt ≤ (v 3).toInt; exact (GR.cast hGR (by first | with_reducible rfl | with_reducible assumption | rfl | omega) (by first | with_reducible rfl | with_reducible assumption | rfl | omega)).1), (by show (v 5).toInt = (v 5).toInt ∨ (v 3).toInt < (v 3).toInt ∨ ¬ (v 5).toInt = 59; exact (GR.cast hGR (by first | with_reducible rfl | with_reducible assumption | rfl | omega) (by first | with_reducible rfl | with_reducible assumption | rfl | omega)).2), rfl, rfl, rfl⟩ hP hD hS dX11_option_25 (Nat.le_refl _) (Nat.le_refl _)
  · skip
    have zc1 : (v 1).toInt = 0 := by rw [fa_eq, show (0 : Int32).toInt = 0 from by decide] at c1; exact c1
    refine lv_aload_n hx hb dX11_option_7 rfl (lv_at hl 0 rfl) ?_
    refine lv_lload_n hx hb dX11_option_8 rfl (lv_at hl 1 rfl) ?_
    refine cbVi (n := 1) (rest := []) hx hb hml hown hts hE hP hD hS hA (sY_X11_isWord_1 NF l dC dI cy y0 r j1 v f w g hIv hCf hRf ) k_1601 k_1603 k_45 k_114 k_1604 (by decide +kernel) ⟨Nat.le_of_ble_eq_true rfl, Nat.le_of_ble_eq_true rfl⟩ 0 11 rfl rfl (rfl) hl.1 rfl (Nat.le_of_ble_eq_true rfl) dX11_option_9 (fun r2 u H locs hw hP hD hS => ?_)
    obtain ⟨hG3, hw⟩ := hw
    rcases hw with ⟨g4, g4_0⟩ | ⟨g4⟩
    · skip
      subst g4
      refine lv_if_eq (tgt := 24) hx hb dX11_option_12 (by decide) (fun c0 => absurd c0 (by decide)) (fun _ => ?_)
      refine lv_aload_n hx hb dX11_option_15 rfl (lv_at hl 0 rfl) ?_
      refine lv_lload_n hx hb dX11_option_16 rfl (lv_at hl 1 rfl) ?_
      refine lv_iload_n hx hb dX11_option_17 rfl (lv_at hl 2 rfl) ?_
      refine cbVi (n := 2) (rest := []) hx hb hml hown hts hE hP hD hS hA (sY_X11_told_1 NF l dC dI cy y0 r j1 p2 v f w g hIv hCf hRf ) k_1645 k_1647 k_51 k_114 k_1648 (by decide +kernel) ⟨Nat.le_of_ble_eq_true rfl, Nat.le_of_ble_eq_true rfl⟩ 0 11 rfl rfl (rfl) hl.1 rfl (Nat.le_of_ble_eq_true rfl) dX11_option_18 (fun r5 u H locs hw hP hD hS => ?_)
      obtain ⟨hG6, hw⟩ := hw
      obtain ⟨v7, f8, w9, g10⟩ := u
      obtain ⟨kV_v7, kF_f8, hIv7, hCf8, hRf8, hk0_v7, hk4_v7, hk8_v7, hk9_v7, hk10_v7, hk13_v7, hk14_v7, hk15_v7, hk17_v7, hk18_v7, hk24_v7, hk25_v7, hk35_v7, hk36_v7, hk38_v7, hk39_v7, pv11, pv12, kq13, kq14, kq15⟩ := hw
      have hM_v7 : KV [1, 2, 3, 5, 6, 7] v7 v := KV.tr kV_v7 hM_v rfl
      have hA_f8 : KF [] f8 f := KF.tr kF_f8 hA_f rfl
      have hP : va_P (dC, dI) vwCl (YW cy y0 r v7 f8 w9 g10) H := hP
      have hD : va_D A (YW cy y0 r v7 f8 w9 g10) := hD
      have b3_v7 : 0 ≤ (v7 3).toInt ∧ (v7 3).toInt ≤ 1600 := YIb.b hIv7.1 3 (by decide)
      have pv11 : (v 3).toInt ≤ (v7 3).toInt := pv11
      have pv12 : (v7 5).toInt = (v 5).toInt ∨ (v 3).toInt < (v7 3).toInt ∨ ¬ (v7 5).toInt = 59 := pv12
      have hs2_f8 : f8 2 = (f 2) := kq13
      have hs3_f8 : f8 3 = (f 3) := kq14
      have hs6_f8 : f8 6 = (f 6) := kq15
      have hUv7 : (v7 35).toInt + (v7 36).toInt ≤ 40 := hIv7.2
      have hq0_v7 : v7 0 = (v 0) := hk0_v7
      have zq0_v7 := congrArg Int32.toInt hq0_v7
      have hq8_v7 : v7 8 = (v 8) := hk8_v7
      have zq8_v7 := congrArg Int32.toInt hq8_v7
      have hq9_v7 : v7 9 = (v 9) := hk9_v7
      have zq9_v7 := congrArg Int32.toInt hq9_v7
      have hq10_v7 : v7 10 = (v 10) := hk10_v7
      have zq10_v7 := congrArg Int32.toInt hq10_v7
      have hq13_v7 : v7 13 = (v 13) := hk13_v7
      have zq13_v7 := congrArg Int32.toInt hq13_v7
      have hq14_v7 : v7 14 = (v 14) := hk14_v7
      have zq14_v7 := congrArg Int32.toInt hq14_v7
      have hq15_v7 : v7 15 = (v 15) := hk15_v7
      have zq15_v7 := congrArg Int32.toInt hq15_v7
      have hq17_v7 : v7 17 = (v 17) := hk17_v7
      have zq17_v7 := congrArg Int32.toInt hq17_v7
      have hq18_v7 : v7 18 = (v 18) := hk18_v7
      have zq18_v7 := congrArg Int32.toInt hq18_v7
      have hGR : GR (v 3).toInt (v 5).toInt (v7 3).toInt (v7 5).toInt := GR.tr hGR (show GR (v 3).toInt (v 5).toInt (v7 3).toInt (v7 5).toInt from ⟨pv11, pv12⟩) (by first | with_reducible rfl | with_reducible assumption | rfl | omega) (by first | with_reducible rfl | with_reducible assumption | rfl | omega)
      clear pv12
      refine lv_goto (tgt := 25) hx hb dX11_option_21 (by decide) ?_
      exact ret r5 (v7, f8, w9, g10) _ _ _ _ _ _ rfl ⟨(gsY_X11_option_1_q1 c1 hG3 hG6), hM_v7, hA_f8, hIv7, hCf8, hRf8, hk0_v7, hk4_v7, hk8_v7, hk9_v7, hk10_v7, hk13_v7, hk14_v7, hk15_v7, hk17_v7, hk18_v7, hk24_v7, hk25_v7, hk35_v7, hk36_v7, hk38_v7, hk39_v7, (by show (v 3).toInt ≤ (v7 3).toInt; exact (GR.cast hGR (by first | with_reducible rfl | with_reducible assumption | rfl | omega) (by first | with_reducible rfl | with_reducible assumption | rfl | omega)).1), (by show (v7 5).toInt = (v 5).toInt ∨ (v 3).toInt < (v7 3).toInt ∨ ¬ (v7 5).toInt = 59; exact (GR.cast hGR (by first | with_reducible rfl | with_reducible assumption | rfl | omega) (by first | with_reducible rfl | with_reducible assumption | rfl | omega)).2), hs2_f8, hs3_f8, hs6_f8⟩ hP hD hS dX11_option_25 (Nat.le_refl _) (Nat.le_refl _)
    · skip
      subst g4
      refine lv_if_eq (tgt := 24) hx hb dX11_option_12 (by decide) (fun _ => ?_) (fun c0 => absurd (by decide) c0)
      refine lv_iconst (v := 0) hx hb dX11_option_24 (by decide) ?_
      exact ret 0 (v, f, w, g) _ _ _ _ _ _ rfl ⟨(gsY_X11_option_1_q2 c1 hG3), hM_v, hA_f, hIv, hCf, hRf, rfl, rfl, rfl, rfl, rfl, rfl, rfl, rfl, rfl, rfl, rfl, rfl, rfl, rfl, rfl, rfl, (by show (v 3).toInt ≤ (v 3).toInt; exact (GR.cast hGR (by first | with_reducible rfl | with_reducible assumption | rfl | omega) (by first | with_reducible rfl | with_reducible assumption | rfl | omega)).1), (by show (v 5).toInt = (v 5).toInt ∨ (v 3).toInt < (v 3).toInt ∨ ¬ (v 5).toInt = 59; exact (GR.cast hGR (by first | with_reducible rfl | with_reducible assumption | rfl | omega) (by first | with_reducible rfl | with_reducible assumption | rfl | omega)).2), rfl, rfl, rfl⟩ hP hD hS dX11_option_25 (Nat.le_refl _) (Nat.le_refl _)
set_option maxHeartbeats 4000000 in
set_option maxRecDepth 100000 in
theorem sY_X11_readCoat_1 (NF : Nat) (l : Launch) (dC : Nat → ClassId) (dI : Nat → Nat → Nat) (cy : Nat → ClassId) (y0 : Nat) (r : Nat → Nat)  (v : Nat → Int32) (f : Nat → Nat → Int32) (w : Int64) (g : Nat → Int64) (hIv : YI v) (hCf : YC f) (hRf : progOK (f 4) (f 5) (v 9).toInt.toNat)  (hf0 : (v 18).toInt ≤ 5) : ctV l (dC, dI) cy yX11_readCoat cX11_readCoat 1 6 172 0 0 ((Nat → Int32) × (Nat → Nat → Int32) × (Int64) × (Nat → Int64)) [.ref y0] (YW cy y0 r v f w g) (fun u => gsY_X11_readCoat_1 NF v f w g = u ∧ KV [1, 2, 3, 5, 6, 7, 18] u.1 v ∧ KF [12, 13, 14, 15] u.2.1 f ∧ YI u.1 ∧ YC u.2.1 ∧ progOK (u.2.1 4) (u.2.1 5) (u.1 9).toInt.toNat ∧ u.1 0 = v 0 ∧ u.1 4 = v 4 ∧ u.1 8 = v 8 ∧ u.1 9 = v 9 ∧ u.1 10 = v 10 ∧ u.1 13 = v 13 ∧ u.1 14 = v 14 ∧ u.1 15 = v 15 ∧ u.1 17 = v 17 ∧ u.1 24 = v 24 ∧ u.1 25 = v 25 ∧ u.1 35 = v 35 ∧ u.1 36 = v 36 ∧ u.1 38 = v 38 ∧ u.1 39 = v 39 ∧ ((v 3).toInt ≤ (u.1 3).toInt) ∧ ((u.1 5).toInt = (v 5).toInt ∨ (v 3).toInt < (u.1 3).toInt ∨ ¬ (u.1 5).toInt = 59) ∧ u.2.1 2 = f 2 ∧ u.2.1 3 = f 3 ∧ u.2.1 6 = f 6) (fun u => YW cy y0 r u.1 u.2.1 u.2.2.1 u.2.2.2) := by
  refine ctV_of (by decide) (Nat.le_of_ble_eq_true rfl) (fun p e s m below meth c A ls Q hx hb hml hts hown hnm hE hP hD hA hl ret => ?_)
  have hUv : (v 35).toInt + (v 36).toInt ≤ 40 := hIv.2
  have hM_v : KV [1, 2, 3, 5, 6, 7, 18] v v := fun _ _ => rfl
  have hA_f : KF [12, 13, 14, 15] f f := fun _ _ => rfl
  have b0_v : (0 : Int) ≤ (v 0).toInt ∧ (v 0).toInt ≤ 1600 := YIb.b hIv.1 0 (by decide)
  have b1_v : (0 : Int) ≤ (v 1).toInt ∧ (v 1).toInt ≤ 4 := YIb.b hIv.1 1 (by decide)
  have b8_v : (0 : Int) ≤ (v 8).toInt ∧ (v 8).toInt ≤ 320 := YIb.b hIv.1 8 (by decide)
  have b10_v : (0 : Int) ≤ (v 10).toInt ∧ (v 10).toInt ≤ 160 := YIb.b hIv.1 10 (by decide)
  have b13_v : (0 : Int) ≤ (v 13).toInt ∧ (v 13).toInt ≤ 31 := YIb.b hIv.1 13 (by decide)
  have b14_v : (0 : Int) ≤ (v 14).toInt ∧ (v 14).toInt ≤ 8 := YIb.b hIv.1 14 (by decide)
  have b15_v : (0 : Int) ≤ (v 15).toInt ∧ (v 15).toInt ≤ 1 := YIb.b hIv.1 15 (by decide)
  have b17_v : (0 : Int) ≤ (v 17).toInt ∧ (v 17).toInt ≤ 6 := YIb.b hIv.1 17 (by decide)
  have b18_v : (0 : Int) ≤ (v 18).toInt ∧ (v 18).toInt ≤ 6 := YIb.b hIv.1 18 (by decide)
  have hGR : GR (v 3).toInt (v 5).toInt (v 3).toInt (v 5).toInt := GR.refl _ _
  have hown : s.vm.findClass RX11 = some m.cls := hown
  have hS : va_S A s.heap s.heap [] := va_S.rf
  have hl : lv_has ls 1 [(0, .ref y0)] := hl
  refine lv_aload_n hx hb dX11_readCoat_0 rfl (lv_at hl 0 rfl) ?_
  refine lv_bipush (v := 6) hx hb dX11_readCoat_1 (by decide) ?_
  refine lv_aload_n hx hb dX11_readCoat_3 rfl (lv_at hl 0 rfl) ?_
  refine va_get (D := (dC, dI)) (ci := 11) (v := .int (v 18)) (C := RX11) (T := TX11) (N := 79) hx hb hts inB_11 hown hE.1 hP 0 rfl rfl 42 (by decide) (hts _ k_1362) (fun _ h9 => h9) rfl dX11_readCoat_4 ?_
  have b18_v : 0 ≤ (v 18).toInt ∧ (v 18).toInt ≤ 6 := YIb.b hIv.1 18 (by decide)
  refine cbVv (n := 2) (rest := []) hx hb hml hown hts hE hP hD hS hA (sY_X11_newName_1 NF l dC dI cy y0 r 6 (v 18) v f w g hIv hCf hRf ⟨by decide, by decide⟩ ⟨show (0 : Int) ≤ (v 18).toInt by omega, show (v 18).toInt ≤ (5 : Int) by omega⟩) k_1609 k_1611 k_47 k_114 k_1612 (by decide +kernel) ⟨Nat.le_of_ble_eq_true rfl, Nat.le_of_ble_eq_true rfl⟩ 0 11 rfl rfl (rfl) hl.1 rfl (Nat.le_of_ble_eq_true rfl) dX11_readCoat_7 (fun u H locs hw hP hD hS => ?_)
  obtain ⟨hG1, hw⟩ := hw
  obtain ⟨v2, f3, w4, g5⟩ := u
  obtain ⟨kV_v2, kF_f3, hIv2, hCf3, hRf3, hk0_v2, hk4_v2, hk8_v2, hk9_v2, hk10_v2, hk13_v2, hk14_v2, hk15_v2, hk17_v2, hk18_v2, hk24_v2, hk25_v2, hk35_v2, hk36_v2, hk38_v2, hk39_v2, pv6, pv7, kq8, kq9, kq10⟩ := hw
  have hM_v2 : KV [1, 2, 3, 5, 6, 7, 18] v2 v := KV.tr kV_v2 hM_v rfl
  have hA_f3 : KF [12, 13, 14, 15] f3 f := KF.tr kF_f3 hA_f rfl
  have hP : va_P (dC, dI) vwCl (YW cy y0 r v2 f3 w4 g5) H := hP
  have hD : va_D A (YW cy y0 r v2 f3 w4 g5) := hD
  have b3_v2 : 0 ≤ (v2 3).toInt ∧ (v2 3).toInt ≤ 1600 := YIb.b hIv2.1 3 (by decide)
  have pv6 : (v 3).toInt ≤ (v2 3).toInt := pv6
  have pv7 : (v2 5).toInt = (v 5).toInt ∨ (v 3).toInt < (v2 3).toInt ∨ ¬ (v2 5).toInt = 59 := pv7
  have hs2_f3 : f3 2 = (f 2) := kq8
  have hs3_f3 : f3 3 = (f 3) := kq9
  have hs6_f3 : f3 6 = (f 6) := kq10
  have hUv2 : (v2 35).toInt + (v2 36).toInt ≤ 40 := hIv2.2
  have hq0_v2 : v2 0 = (v 0) := hk0_v2
  have zq0_v2 := congrArg Int32.toInt hq0_v2
  have hq8_v2 : v2 8 = (v 8) := hk8_v2
  have zq8_v2 := congrArg Int32.toInt hq8_v2
  have hq9_v2 : v2 9 = (v 9) := hk9_v2
  have zq9_v2 := congrArg Int32.toInt hq9_v2
  have hq10_v2 : v2 10 = (v 10) := hk10_v2
  have zq10_v2 := congrArg Int32.toInt hq10_v2
  have hq13_v2 : v2 13 = (v 13) := hk13_v2
  have zq13_v2 := congrArg Int32.toInt hq13_v2
  have hq14_v2 : v2 14 = (v 14) := hk14_v2
  have zq14_v2 := congrArg Int32.toInt hq14_v2
  have hq15_v2 : v2 15 = (v 15) := hk15_v2
  have zq15_v2 := congrArg Int32.toInt hq15_v2
  have hq17_v2 : v2 17 = (v 17) := hk17_v2
  have zq17_v2 := congrArg Int32.toInt hq17_v2
  have hq18_v2 : v2 18 = (v 18) := hk18_v2
  have zq18_v2 := congrArg Int32.toInt hq18_v2
  have hGR : GR (v 3).toInt (v 5).toInt (v2 3).toInt (v2 5).toInt := GR.tr hGR (show GR (v 3).toInt (v 5).toInt (v2 3).toInt (v2 5).toInt from ⟨pv6, pv7⟩) (by first | with_reducible rfl | with_reducible assumption | rfl | omega) (by first | with_reducible rfl | with_reducible assumption | rfl | omega)
  clear pv7
  refine lv_aload_n hx hb dX11_readCoat_10 rfl (lv_at hl 0 rfl) ?_
  refine va_get (D := (dC, dI)) (ci := 11) (v := .ref (r 30)) (C := RX11) (T := TX11) (N := 79) hx hb hts inB_11 hown hE.1 hP 0 rfl rfl 30 (by decide) (hts _ k_1350) (fun _ h9 => h9) rfl dX11_readCoat_11 ?_
  refine lv_aload_n hx hb dX11_readCoat_14 rfl (lv_at hl 0 rfl) ?_
  refine va_get (D := (dC, dI)) (ci := 11) (v := .int (v2 18)) (C := RX11) (T := TX11) (N := 79) hx hb hts inB_11 hown hE.1 hP 0 rfl rfl 42 (by decide) (hts _ k_1362) (fun _ h9 => h9) rfl dX11_readCoat_15 ?_
  refine tI (y := (v 18)) hq18_v2 ?_
  have b18_v : 0 ≤ (v 18).toInt ∧ (v 18).toInt ≤ 6 := YIb.b hIv.1 18 (by decide)
  refine lv_aload_n hx hb dX11_readCoat_18 rfl (lv_at hl 0 rfl) ?_
  refine lv_ldc2 (v := 1952541804) hx hb hown (hts _ k_1621) dX11_readCoat_19 ?_
  refine lv_bipush (v := 99) hx hb dX11_readCoat_22 (by decide) ?_
  refine cbVi (n := 2) (rest := [.int (v 18), .ref (r 30)]) hx hb hml hown hts hE hP hD hS hA (sY_X11_told_1 NF l dC dI cy y0 r 1952541804 99 v2 f3 w4 g5 hIv2 hCf3 hRf3 ) k_1645 k_1647 k_51 k_114 k_1648 (by decide +kernel) ⟨Nat.le_of_ble_eq_true rfl, Nat.le_of_ble_eq_true rfl⟩ 0 11 rfl rfl (rfl) hl.1 rfl (Nat.le_of_ble_eq_true rfl) dX11_readCoat_24 (fun r11 u H locs hw hP hD hS => ?_)
  obtain ⟨hG12, hw⟩ := hw
  obtain ⟨v13, f14, w15, g16⟩ := u
  obtain ⟨kV_v13, kF_f14, hIv13, hCf14, hRf14, hk0_v13, hk4_v13, hk8_v13, hk9_v13, hk10_v13, hk13_v13, hk14_v13, hk15_v13, hk17_v13, hk18_v13, hk24_v13, hk25_v13, hk35_v13, hk36_v13, hk38_v13, hk39_v13, pv17, pv18, kq19, kq20, kq21⟩ := hw
  have hM_v13 : KV [1, 2, 3, 5, 6, 7, 18] v13 v := KV.tr kV_v13 hM_v2 rfl
  have hA_f14 : KF [12, 13, 14, 15] f14 f := KF.tr kF_f14 hA_f3 rfl
  have hP : va_P (dC, dI) vwCl (YW cy y0 r v13 f14 w15 g16) H := hP
  have hD : va_D A (YW cy y0 r v13 f14 w15 g16) := hD
  have b3_v13 : 0 ≤ (v13 3).toInt ∧ (v13 3).toInt ≤ 1600 := YIb.b hIv13.1 3 (by decide)
  have pv17 : (v2 3).toInt ≤ (v13 3).toInt := pv17
  have pv18 : (v13 5).toInt = (v2 5).toInt ∨ (v2 3).toInt < (v13 3).toInt ∨ ¬ (v13 5).toInt = 59 := pv18
  have hs2_f14 : f14 2 = (f 2) := kq19.trans hs2_f3
  have hs3_f14 : f14 3 = (f 3) := kq20.trans hs3_f3
  have hs6_f14 : f14 6 = (f 6) := kq21.trans hs6_f3
  have hUv13 : (v13 35).toInt + (v13 36).toInt ≤ 40 := hIv13.2
  have hq0_v13 : v13 0 = (v 0) := hk0_v13.trans hq0_v2
  have zq0_v13 := congrArg Int32.toInt hq0_v13
  try clear zq0_v2
  have hq8_v13 : v13 8 = (v 8) := hk8_v13.trans hq8_v2
  have zq8_v13 := congrArg Int32.toInt hq8_v13
  try clear zq8_v2
  have hq9_v13 : v13 9 = (v 9) := hk9_v13.trans hq9_v2
  have zq9_v13 := congrArg Int32.toInt hq9_v13
  try clear zq9_v2
  have hq10_v13 : v13 10 = (v 10) := hk10_v13.trans hq10_v2
  have zq10_v13 := congrArg Int32.toInt hq10_v13
  try clear zq10_v2
  have hq13_v13 : v13 13 = (v 13) := hk13_v13.trans hq13_v2
  have zq13_v13 := congrArg Int32.toInt hq13_v13
  try clear zq13_v2
  have hq14_v13 : v13 14 = (v 14) := hk14_v13.trans hq14_v2
  have zq14_v13 := congrArg Int32.toInt hq14_v13
  try clear zq14_v2
  have hq15_v13 : v13 15 = (v 15) := hk15_v13.trans hq15_v2
  have zq15_v13 := congrArg Int32.toInt hq15_v13
  try clear zq15_v2
  have hq17_v13 : v13 17 = (v 17) := hk17_v13.trans hq17_v2
  have zq17_v13 := congrArg Int32.toInt hq17_v13
  try clear zq17_v2
  have hq18_v13 : v13 18 = (v 18) := hk18_v13.trans hq18_v2
  have zq18_v13 := congrArg Int32.toInt hq18_v13
  try clear zq18_v2
  have hGR : GR (v 3).toInt (v 5).toInt (v13 3).toInt (v13 5).toInt := GR.tr hGR (show GR (v2 3).toInt (v2 5).toInt (v13 3).toInt (v13 5).toInt from ⟨pv17, pv18⟩) (by first | with_reducible rfl | with_reducible assumption | rfl | omega) (by first | with_reducible rfl | with_reducible assumption | rfl | omega)
  clear pv18
  refine stI hx hb hE hP hD hS 13 rfl (vp_in_iff.mpr ⟨by omega, by omega⟩) rfl dX11_readCoat_27 (fun H locs hP hD hS => ?_)
  obtain ⟨f22, ef22, hP, hD⟩ : ∃ fz9, fz9 = upd2 f14 12 (upd (f14 12) (v 18).toNatClampNeg r11) ∧ va_P (dC, dI) vwCl (YW cy y0 r v13 fz9 w15 g16) H ∧ va_D A (YW cy y0 r v13 fz9 w15 g16) := ⟨_, rfl, hP, hD⟩
  have hCf22 : YC f22 := by rw [ef22]; exact hCf14
  have hRf22 : progOK (f22 4) (f22 5) (v13 9).toInt.toNat := by rw [ef22]; exact hRf14
  have hs2_f22 : f22 2 = (f 2) := by rw [ef22]; exact hs2_f14
  have hs3_f22 : f22 3 = (f 3) := by rw [ef22]; exact hs3_f14
  have hs6_f22 : f22 6 = (f 6) := by rw [ef22]; exact hs6_f14
  have hA_f22 : KF [12, 13, 14, 15] f22 f := by rw [ef22]; exact KF.up hA_f14 rfl
  refine lv_aload_n hx hb dX11_readCoat_28 rfl (lv_at hl 0 rfl) ?_
  refine va_get (D := (dC, dI)) (ci := 11) (v := .ref (r 31)) (C := RX11) (T := TX11) (N := 79) hx hb hts inB_11 hown hE.1 hP 0 rfl rfl 31 (by decide) (hts _ k_1351) (fun _ h9 => h9) rfl dX11_readCoat_29 ?_
  refine lv_aload_n hx hb dX11_readCoat_32 rfl (lv_at hl 0 rfl) ?_
  refine va_get (D := (dC, dI)) (ci := 11) (v := .int (v13 18)) (C := RX11) (T := TX11) (N := 79) hx hb hts inB_11 hown hE.1 hP 0 rfl rfl 42 (by decide) (hts _ k_1362) (fun _ h9 => h9) rfl dX11_readCoat_33 ?_
  refine tI (y := (v 18)) hq18_v13 ?_
  have b18_v : 0 ≤ (v 18).toInt ∧ (v 18).toInt ≤ 6 := YIb.b hIv.1 18 (by decide)
  refine lv_aload_n hx hb dX11_readCoat_36 rfl (lv_at hl 0 rfl) ?_
  refine lv_ldc2 (v := 2003395685) hx hb hown (hts _ k_1622) dX11_readCoat_37 ?_
  refine lv_bipush (v := 99) hx hb dX11_readCoat_40 (by decide) ?_
  refine cbVi (n := 2) (rest := [.int (v 18), .ref (r 31)]) hx hb hml hown hts hE hP hD hS hA (sY_X11_told_1 NF l dC dI cy y0 r 2003395685 99 v13 f22 w15 g16 hIv13 hCf22 hRf22 ) k_1645 k_1647 k_51 k_114 k_1648 (by decide +kernel) ⟨Nat.le_of_ble_eq_true rfl, Nat.le_of_ble_eq_true rfl⟩ 0 11 rfl rfl (rfl) hl.1 rfl (Nat.le_of_ble_eq_true rfl) dX11_readCoat_42 (fun r23 u H locs hw hP hD hS => ?_)
  obtain ⟨hG24, hw⟩ := hw
  obtain ⟨v25, f26, w27, g28⟩ := u
  obtain ⟨kV_v25, kF_f26, hIv25, hCf26, hRf26, hk0_v25, hk4_v25, hk8_v25, hk9_v25, hk10_v25, hk13_v25, hk14_v25, hk15_v25, hk17_v25, hk18_v25, hk24_v25, hk25_v25, hk35_v25, hk36_v25, hk38_v25, hk39_v25, pv29, pv30, kq31, kq32, kq33⟩ := hw
  have hM_v25 : KV [1, 2, 3, 5, 6, 7, 18] v25 v := KV.tr kV_v25 hM_v13 rfl
  have hA_f26 : KF [12, 13, 14, 15] f26 f := KF.tr kF_f26 hA_f22 rfl
  have hP : va_P (dC, dI) vwCl (YW cy y0 r v25 f26 w27 g28) H := hP
  have hD : va_D A (YW cy y0 r v25 f26 w27 g28) := hD
  have b3_v25 : 0 ≤ (v25 3).toInt ∧ (v25 3).toInt ≤ 1600 := YIb.b hIv25.1 3 (by decide)
  have pv29 : (v13 3).toInt ≤ (v25 3).toInt := pv29
  have pv30 : (v25 5).toInt = (v13 5).toInt ∨ (v13 3).toInt < (v25 3).toInt ∨ ¬ (v25 5).toInt = 59 := pv30
  have hs2_f26 : f26 2 = (f 2) := kq31.trans hs2_f22
  have hs3_f26 : f26 3 = (f 3) := kq32.trans hs3_f22
  have hs6_f26 : f26 6 = (f 6) := kq33.trans hs6_f22
  have hUv25 : (v25 35).toInt + (v25 36).toInt ≤ 40 := hIv25.2
  have hq0_v25 : v25 0 = (v 0) := hk0_v25.trans hq0_v13
  have zq0_v25 := congrArg Int32.toInt hq0_v25
  try clear zq0_v13
  have hq8_v25 : v25 8 = (v 8) := hk8_v25.trans hq8_v13
  have zq8_v25 := congrArg Int32.toInt hq8_v25
  try clear zq8_v13
  have hq9_v25 : v25 9 = (v 9) := hk9_v25.trans hq9_v13
  have zq9_v25 := congrArg Int32.toInt hq9_v25
  try clear zq9_v13
  have hq10_v25 : v25 10 = (v 10) := hk10_v25.trans hq10_v13
  have zq10_v25 := congrArg Int32.toInt hq10_v25
  try clear zq10_v13
  have hq13_v25 : v25 13 = (v 13) := hk13_v25.trans hq13_v13
  have zq13_v25 := congrArg Int32.toInt hq13_v25
  try clear zq13_v13
  have hq14_v25 : v25 14 = (v 14) := hk14_v25.trans hq14_v13
  have zq14_v25 := congrArg Int32.toInt hq14_v25
  try clear zq14_v13
  have hq15_v25 : v25 15 = (v 15) := hk15_v25.trans hq15_v13
  have zq15_v25 := congrArg Int32.toInt hq15_v25
  try clear zq15_v13
  have hq17_v25 : v25 17 = (v 17) := hk17_v25.trans hq17_v13
  have zq17_v25 := congrArg Int32.toInt hq17_v25
  try clear zq17_v13
  have hq18_v25 : v25 18 = (v 18) := hk18_v25.trans hq18_v13
  have zq18_v25 := congrArg Int32.toInt hq18_v25
  try clear zq18_v13
  have hGR : GR (v 3).toInt (v 5).toInt (v25 3).toInt (v25 5).toInt := GR.tr hGR (show GR (v13 3).toInt (v13 5).toInt (v25 3).toInt (v25 5).toInt from ⟨pv29, pv30⟩) (by first | with_reducible rfl | with_reducible assumption | rfl | omega) (by first | with_reducible rfl | with_reducible assumption | rfl | omega)
  clear pv30
  refine stI hx hb hE hP hD hS 14 rfl (vp_in_iff.mpr ⟨by omega, by omega⟩) rfl dX11_readCoat_45 (fun H locs hP hD hS => ?_)
  obtain ⟨f34, ef34, hP, hD⟩ : ∃ fz9, fz9 = upd2 f26 13 (upd (f26 13) (v 18).toNatClampNeg r23) ∧ va_P (dC, dI) vwCl (YW cy y0 r v25 fz9 w27 g28) H ∧ va_D A (YW cy y0 r v25 fz9 w27 g28) := ⟨_, rfl, hP, hD⟩
  have hCf34 : YC f34 := by rw [ef34]; exact hCf26
  have hRf34 : progOK (f34 4) (f34 5) (v25 9).toInt.toNat := by rw [ef34]; exact hRf26
  have hs2_f34 : f34 2 = (f 2) := by rw [ef34]; exact hs2_f26
  have hs3_f34 : f34 3 = (f 3) := by rw [ef34]; exact hs3_f26
  have hs6_f34 : f34 6 = (f 6) := by rw [ef34]; exact hs6_f26
  have hA_f34 : KF [12, 13, 14, 15] f34 f := by rw [ef34]; exact KF.up hA_f26 rfl
  refine lv_aload_n hx hb dX11_readCoat_46 rfl (lv_at hl 0 rfl) ?_
  refine va_get (D := (dC, dI)) (ci := 11) (v := .ref (r 32)) (C := RX11) (T := TX11) (N := 79) hx hb hts inB_11 hown hE.1 hP 0 rfl rfl 32 (by decide) (hts _ k_1352) (fun _ h9 => h9) rfl dX11_readCoat_47 ?_
  refine lv_aload_n hx hb dX11_readCoat_50 rfl (lv_at hl 0 rfl) ?_
  refine va_get (D := (dC, dI)) (ci := 11) (v := .int (v25 18)) (C := RX11) (T := TX11) (N := 79) hx hb hts inB_11 hown hE.1 hP 0 rfl rfl 42 (by decide) (hts _ k_1362) (fun _ h9 => h9) rfl dX11_readCoat_51 ?_
  refine tI (y := (v 18)) hq18_v25 ?_
  have b18_v : 0 ≤ (v 18).toInt ∧ (v 18).toInt ≤ 6 := YIb.b hIv.1 18 (by decide)
  refine lv_aload_n hx hb dX11_readCoat_54 rfl (lv_at hl 0 rfl) ?_
  refine lv_ldc2 (v := 1936023917) hx hb hown (hts _ k_1625) dX11_readCoat_55 ?_
  refine lv_bipush (v := 20) hx hb dX11_readCoat_58 (by decide) ?_
  refine cbVi (n := 2) (rest := [.int (v 18), .ref (r 32)]) hx hb hml hown hts hE hP hD hS hA (sY_X11_option_1 NF l dC dI cy y0 r 1936023917 20 v25 f34 w27 g28 hIv25 hCf34 hRf34 ) k_1657 k_1659 k_54 k_114 k_1660 (by decide +kernel) ⟨Nat.le_of_ble_eq_true rfl, Nat.le_of_ble_eq_true rfl⟩ 0 11 rfl rfl (rfl) hl.1 rfl (Nat.le_of_ble_eq_true rfl) dX11_readCoat_60 (fun r35 u H locs hw hP hD hS => ?_)
  obtain ⟨hG36, hw⟩ := hw
  obtain ⟨v37, f38, w39, g40⟩ := u
  obtain ⟨kV_v37, kF_f38, hIv37, hCf38, hRf38, hk0_v37, hk4_v37, hk8_v37, hk9_v37, hk10_v37, hk13_v37, hk14_v37, hk15_v37, hk17_v37, hk18_v37, hk24_v37, hk25_v37, hk35_v37, hk36_v37, hk38_v37, hk39_v37, pv41, pv42, kq43, kq44, kq45⟩ := hw
  have hM_v37 : KV [1, 2, 3, 5, 6, 7, 18] v37 v := KV.tr kV_v37 hM_v25 rfl
  have hA_f38 : KF [12, 13, 14, 15] f38 f := KF.tr kF_f38 hA_f34 rfl
  have hP : va_P (dC, dI) vwCl (YW cy y0 r v37 f38 w39 g40) H := hP
  have hD : va_D A (YW cy y0 r v37 f38 w39 g40) := hD
  have b3_v37 : 0 ≤ (v37 3).toInt ∧ (v37 3).toInt ≤ 1600 := YIb.b hIv37.1 3 (by decide)
  have pv41 : (v25 3).toInt ≤ (v37 3).toInt := pv41
  have pv42 : (v37 5).toInt = (v25 5).toInt ∨ (v25 3).toInt < (v37 3).toInt ∨ ¬ (v37 5).toInt = 59 := pv42
  have hs2_f38 : f38 2 = (f 2) := kq43.trans hs2_f34
  have hs3_f38 : f38 3 = (f 3) := kq44.trans hs3_f34
  have hs6_f38 : f38 6 = (f 6) := kq45.trans hs6_f34
  have hUv37 : (v37 35).toInt + (v37 36).toInt ≤ 40 := hIv37.2
  have hq0_v37 : v37 0 = (v 0) := hk0_v37.trans hq0_v25
  have zq0_v37 := congrArg Int32.toInt hq0_v37
  try clear zq0_v25
  have hq8_v37 : v37 8 = (v 8) := hk8_v37.trans hq8_v25
  have zq8_v37 := congrArg Int32.toInt hq8_v37
  try clear zq8_v25
  have hq9_v37 : v37 9 = (v 9) := hk9_v37.trans hq9_v25
  have zq9_v37 := congrArg Int32.toInt hq9_v37
  try clear zq9_v25
  have hq10_v37 : v37 10 = (v 10) := hk10_v37.trans hq10_v25
  have zq10_v37 := congrArg Int32.toInt hq10_v37
  try clear zq10_v25
  have hq13_v37 : v37 13 = (v 13) := hk13_v37.trans hq13_v25
  have zq13_v37 := congrArg Int32.toInt hq13_v37
  try clear zq13_v25
  have hq14_v37 : v37 14 = (v 14) := hk14_v37.trans hq14_v25
  have zq14_v37 := congrArg Int32.toInt hq14_v37
  try clear zq14_v25
  have hq15_v37 : v37 15 = (v 15) := hk15_v37.trans hq15_v25
  have zq15_v37 := congrArg Int32.toInt hq15_v37
  try clear zq15_v25
  have hq17_v37 : v37 17 = (v 17) := hk17_v37.trans hq17_v25
  have zq17_v37 := congrArg Int32.toInt hq17_v37
  try clear zq17_v25
  have hq18_v37 : v37 18 = (v 18) := hk18_v37.trans hq18_v25
  have zq18_v37 := congrArg Int32.toInt hq18_v37
  try clear zq18_v25
  have hGR : GR (v 3).toInt (v 5).toInt (v37 3).toInt (v37 5).toInt := GR.tr hGR (show GR (v25 3).toInt (v25 5).toInt (v37 3).toInt (v37 5).toInt from ⟨pv41, pv42⟩) (by first | with_reducible rfl | with_reducible assumption | rfl | omega) (by first | with_reducible rfl | with_reducible assumption | rfl | omega)
  clear pv42
  refine stI hx hb hE hP hD hS 15 rfl (vp_in_iff.mpr ⟨by omega, by omega⟩) rfl dX11_readCoat_63 (fun H locs hP hD hS => ?_)
  obtain ⟨f46, ef46, hP, hD⟩ : ∃ fz9, fz9 = upd2 f38 14 (upd (f38 14) (v 18).toNatClampNeg r35) ∧ va_P (dC, dI) vwCl (YW cy y0 r v37 fz9 w39 g40) H ∧ va_D A (YW cy y0 r v37 fz9 w39 g40) := ⟨_, rfl, hP, hD⟩
  have hCf46 : YC f46 := by rw [ef46]; exact hCf38
  have hRf46 : progOK (f46 4) (f46 5) (v37 9).toInt.toNat := by rw [ef46]; exact hRf38
  have hs2_f46 : f46 2 = (f 2) := by rw [ef46]; exact hs2_f38
  have hs3_f46 : f46 3 = (f 3) := by rw [ef46]; exact hs3_f38
  have hs6_f46 : f46 6 = (f 6) := by rw [ef46]; exact hs6_f38
  have hA_f46 : KF [12, 13, 14, 15] f46 f := by rw [ef46]; exact KF.up hA_f38 rfl
  refine lv_aload_n hx hb dX11_readCoat_64 rfl (lv_at hl 0 rfl) ?_
  refine va_get (D := (dC, dI)) (ci := 11) (v := .ref (r 33)) (C := RX11) (T := TX11) (N := 79) hx hb hts inB_11 hown hE.1 hP 0 rfl rfl 33 (by decide) (hts _ k_1353) (fun _ h9 => h9) rfl dX11_readCoat_65 ?_
  refine lv_aload_n hx hb dX11_readCoat_68 rfl (lv_at hl 0 rfl) ?_
  refine va_get (D := (dC, dI)) (ci := 11) (v := .int (v37 18)) (C := RX11) (T := TX11) (N := 79) hx hb hts inB_11 hown hE.1 hP 0 rfl rfl 42 (by decide) (hts _ k_1362) (fun _ h9 => h9) rfl dX11_readCoat_69 ?_
  refine tI (y := (v 18)) hq18_v37 ?_
  have b18_v : 0 ≤ (v 18).toInt ∧ (v 18).toInt ≤ 6 := YIb.b hIv.1 18 (by decide)
  refine lv_aload_n hx hb dX11_readCoat_72 rfl (lv_at hl 0 rfl) ?_
  refine lv_ldc2 (v := 2003792494) hx hb hown (hts _ k_1626) dX11_readCoat_73 ?_
  refine lv_bipush (v := 99) hx hb dX11_readCoat_76 (by decide) ?_
  refine cbVi (n := 2) (rest := [.int (v 18), .ref (r 33)]) hx hb hml hown hts hE hP hD hS hA (sY_X11_option_1 NF l dC dI cy y0 r 2003792494 99 v37 f46 w39 g40 hIv37 hCf46 hRf46 ) k_1657 k_1659 k_54 k_114 k_1660 (by decide +kernel) ⟨Nat.le_of_ble_eq_true rfl, Nat.le_of_ble_eq_true rfl⟩ 0 11 rfl rfl (rfl) hl.1 rfl (Nat.le_of_ble_eq_true rfl) dX11_readCoat_78 (fun r47 u H locs hw hP hD hS => ?_)
  obtain ⟨hG48, hw⟩ := hw
  obtain ⟨v49, f50, w51, g52⟩ := u
  obtain ⟨kV_v49, kF_f50, hIv49, hCf50, hRf50, hk0_v49, hk4_v49, hk8_v49, hk9_v49, hk10_v49, hk13_v49, hk14_v49, hk15_v49, hk17_v49, hk18_v49, hk24_v49, hk25_v49, hk35_v49, hk36_v49, hk38_v49, hk39_v49, pv53, pv54, kq55, kq56, kq57⟩ := hw
  have hM_v49 : KV [1, 2, 3, 5, 6, 7, 18] v49 v := KV.tr kV_v49 hM_v37 rfl
  have hA_f50 : KF [12, 13, 14, 15] f50 f := KF.tr kF_f50 hA_f46 rfl
  have hP : va_P (dC, dI) vwCl (YW cy y0 r v49 f50 w51 g52) H := hP
  have hD : va_D A (YW cy y0 r v49 f50 w51 g52) := hD
  have b3_v49 : 0 ≤ (v49 3).toInt ∧ (v49 3).toInt ≤ 1600 := YIb.b hIv49.1 3 (by decide)
  have pv53 : (v37 3).toInt ≤ (v49 3).toInt := pv53
  have pv54 : (v49 5).toInt = (v37 5).toInt ∨ (v37 3).toInt < (v49 3).toInt ∨ ¬ (v49 5).toInt = 59 := pv54
  have hs2_f50 : f50 2 = (f 2) := kq55.trans hs2_f46
  have hs3_f50 : f50 3 = (f 3) := kq56.trans hs3_f46
  have hs6_f50 : f50 6 = (f 6) := kq57.trans hs6_f46
  have hUv49 : (v49 35).toInt + (v49 36).toInt ≤ 40 := hIv49.2
  have hq0_v49 : v49 0 = (v 0) := hk0_v49.trans hq0_v37
  have zq0_v49 := congrArg Int32.toInt hq0_v49
  try clear zq0_v37
  have hq8_v49 : v49 8 = (v 8) := hk8_v49.trans hq8_v37
  have zq8_v49 := congrArg Int32.toInt hq8_v49
  try clear zq8_v37
  have hq9_v49 : v49 9 = (v 9) := hk9_v49.trans hq9_v37
  have zq9_v49 := congrArg Int32.toInt hq9_v49
  try clear zq9_v37
  have hq10_v49 : v49 10 = (v 10) := hk10_v49.trans hq10_v37
  have zq10_v49 := congrArg Int32.toInt hq10_v49
  try clear zq10_v37
  have hq13_v49 : v49 13 = (v 13) := hk13_v49.trans hq13_v37
  have zq13_v49 := congrArg Int32.toInt hq13_v49
  try clear zq13_v37
  have hq14_v49 : v49 14 = (v 14) := hk14_v49.trans hq14_v37
  have zq14_v49 := congrArg Int32.toInt hq14_v49
  try clear zq14_v37
  have hq15_v49 : v49 15 = (v 15) := hk15_v49.trans hq15_v37
  have zq15_v49 := congrArg Int32.toInt hq15_v49
  try clear zq15_v37
  have hq17_v49 : v49 17 = (v 17) := hk17_v49.trans hq17_v37
  have zq17_v49 := congrArg Int32.toInt hq17_v49
  try clear zq17_v37
  have hq18_v49 : v49 18 = (v 18) := hk18_v49.trans hq18_v37
  have zq18_v49 := congrArg Int32.toInt hq18_v49
  try clear zq18_v37
  have hGR : GR (v 3).toInt (v 5).toInt (v49 3).toInt (v49 5).toInt := GR.tr hGR (show GR (v37 3).toInt (v37 5).toInt (v49 3).toInt (v49 5).toInt from ⟨pv53, pv54⟩) (by first | with_reducible rfl | with_reducible assumption | rfl | omega) (by first | with_reducible rfl | with_reducible assumption | rfl | omega)
  clear pv54
  refine stI hx hb hE hP hD hS 16 rfl (vp_in_iff.mpr ⟨by omega, by omega⟩) rfl dX11_readCoat_81 (fun H locs hP hD hS => ?_)
  obtain ⟨f58, ef58, hP, hD⟩ : ∃ fz9, fz9 = upd2 f50 15 (upd (f50 15) (v 18).toNatClampNeg r47) ∧ va_P (dC, dI) vwCl (YW cy y0 r v49 fz9 w51 g52) H ∧ va_D A (YW cy y0 r v49 fz9 w51 g52) := ⟨_, rfl, hP, hD⟩
  have hCf58 : YC f58 := by rw [ef58]; exact hCf50
  have hRf58 : progOK (f58 4) (f58 5) (v49 9).toInt.toNat := by rw [ef58]; exact hRf50
  have hs2_f58 : f58 2 = (f 2) := by rw [ef58]; exact hs2_f50
  have hs3_f58 : f58 3 = (f 3) := by rw [ef58]; exact hs3_f50
  have hs6_f58 : f58 6 = (f 6) := by rw [ef58]; exact hs6_f50
  have hA_f58 : KF [12, 13, 14, 15] f58 f := by rw [ef58]; exact KF.up hA_f50 rfl
  refine lv_aload_n hx hb dX11_readCoat_82 rfl (lv_at hl 0 rfl) ?_
  refine va_get (D := (dC, dI)) (ci := 11) (v := .int (v49 1)) (C := RX11) (T := TX11) (N := 79) hx hb hts inB_11 hown hE.1 hP 0 rfl rfl 2 (by decide) (hts _ k_1322) (fun _ h9 => h9) rfl dX11_readCoat_83 ?_
  have b1_v49 : 0 ≤ (v49 1).toInt ∧ (v49 1).toInt ≤ 4 := YIb.b hIv49.1 1 (by decide)
  refine lv_if_ne (tgt := 99) hx hb dX11_readCoat_86 (by decide) (fun c59 => ?_) (fun c59 => ?_)
  · skip
    have zc59 : ¬ ((v49 1).toInt = 0) := by rw [fa_eq, show (0 : Int32).toInt = 0 from by decide] at c59; exact c59
    exact ret (v49, f58, w51, g52) _ _ _ _ _ _ ⟨(gsY_X11_readCoat_1_q0 hG1 hG12 ef22 hG24 ef34 hG36 ef46 hG48 ef58 c59), hM_v49, hA_f58, hIv49, hCf58, hRf58, (hk0_v49.trans (hk0_v37.trans (hk0_v25.trans (hk0_v13.trans hk0_v2)))), (hk4_v49.trans (hk4_v37.trans (hk4_v25.trans (hk4_v13.trans hk4_v2)))), (hk8_v49.trans (hk8_v37.trans (hk8_v25.trans (hk8_v13.trans hk8_v2)))), (hk9_v49.trans (hk9_v37.trans (hk9_v25.trans (hk9_v13.trans hk9_v2)))), (hk10_v49.trans (hk10_v37.trans (hk10_v25.trans (hk10_v13.trans hk10_v2)))), (hk13_v49.trans (hk13_v37.trans (hk13_v25.trans (hk13_v13.trans hk13_v2)))), (hk14_v49.trans (hk14_v37.trans (hk14_v25.trans (hk14_v13.trans hk14_v2)))), (hk15_v49.trans (hk15_v37.trans (hk15_v25.trans (hk15_v13.trans hk15_v2)))), (hk17_v49.trans (hk17_v37.trans (hk17_v25.trans (hk17_v13.trans hk17_v2)))), (hk24_v49.trans (hk24_v37.trans (hk24_v25.trans (hk24_v13.trans hk24_v2)))), (hk25_v49.trans (hk25_v37.trans (hk25_v25.trans (hk25_v13.trans hk25_v2)))), (hk35_v49.trans (hk35_v37.trans (hk35_v25.trans (hk35_v13.trans hk35_v2)))), (hk36_v49.trans (hk36_v37.trans (hk36_v25.trans (hk36_v13.trans hk36_v2)))), (hk38_v49.trans (hk38_v37.trans (hk38_v25.trans (hk38_v13.trans hk38_v2)))), (hk39_v49.trans (hk39_v37.trans (hk39_v25.trans (hk39_v13.trans hk39_v2)))), (by show (v 3).toInt ≤ (v49 3).toInt; exact (GR.cast hGR (by first | with_reducible rfl | with_reducible assumption | rfl | omega) (by first | with_reducible rfl | with_reducible assumption | rfl | omega)).1), (by show (v49 5).toInt = (v 5).toInt ∨ (v 3).toInt < (v49 3).toInt ∨ ¬ (v49 5).toInt = 59; exact (GR.cast hGR (by first | with_reducible rfl | with_reducible assumption | rfl | omega) (by first | with_reducible rfl | with_reducible assumption | rfl | omega)).2), hs2_f58, hs3_f58, hs6_f58⟩ hP hD hS dX11_readCoat_99 (Nat.le_refl _) (Nat.le_refl _)
  · skip
    have zc59 : (v49 1).toInt = 0 := by rw [fa_eq, show (0 : Int32).toInt = 0 from by decide] at c59; exact c59
    refine lv_aload_n hx hb dX11_readCoat_89 rfl (lv_at hl 0 rfl) ?_
    refine lv_dup hx hb dX11_readCoat_90 rfl ?_
    refine va_get (D := (dC, dI)) (ci := 11) (v := .int (v49 18)) (C := RX11) (T := TX11) (N := 79) hx hb hts inB_11 hown hE.1 hP 0 rfl rfl 42 (by decide) (hts _ k_1362) (fun _ h9 => h9) rfl dX11_readCoat_91 ?_
    refine tI (y := (v 18)) hq18_v49 ?_
    have b18_v : 0 ≤ (v 18).toInt ∧ (v 18).toInt ≤ 6 := YIb.b hIv.1 18 (by decide)
    refine lv_iconst (v := 1) hx hb dX11_readCoat_94 (by decide) ?_
    refine lv_iadd hx hb dX11_readCoat_95 ?_
    refine lv_topi (fun t60 et60 => ?_)
    have rg61 := fb_rng (v 18)
    have zt60 : t60.toInt = (v 18).toInt + 1 := by rw [et60]; exact add_i rfl (by decide) (by omega) (by omega)
    refine va_put (D := (dC, dI)) (ci := 11) (v := .int t60) (ty := tyX11 42) (C := RX11) (T := TX11) (N := 79) hx hb hts inB_11 tyX11 tyX11_ok nmX11 hown hE.1 hP hD hS 0 rfl rfl 42 (by decide) (hts _ k_1362) (fun _ h9 => h9) rfl (tyX11_ok 42 (by decide)) rfl rfl (Nat.le_of_ble_eq_true rfl) dX11_readCoat_96 (fun H locs hP hD hS => ?_)
    have hP : va_P (dC, dI) vwCl (YW cy y0 r (upd v49 18 t60) f58 w51 g52) H := hP
    have hD : va_D A (YW cy y0 r (upd v49 18 t60) f58 w51 g52) := hD
    exact ret ((upd v49 18 t60), f58, w51, g52) _ _ _ _ _ _ ⟨(gsY_X11_readCoat_1_q1 hG1 hG12 ef22 hG24 ef34 hG36 ef46 hG48 ef58 c59 et60), (KV.up (j := 18) (x := t60) hM_v49 rfl), hA_f58, ⟨(YIb.upd (j := 18) (x := t60) hIv49.1 (show (0 : Int) ≤ t60.toInt by omega) (show t60.toInt ≤ (6 : Int) by omega)), hIv49.2⟩, hCf58, hRf58, (hk0_v49.trans (hk0_v37.trans (hk0_v25.trans (hk0_v13.trans hk0_v2)))), (hk4_v49.trans (hk4_v37.trans (hk4_v25.trans (hk4_v13.trans hk4_v2)))), (hk8_v49.trans (hk8_v37.trans (hk8_v25.trans (hk8_v13.trans hk8_v2)))), (hk9_v49.trans (hk9_v37.trans (hk9_v25.trans (hk9_v13.trans hk9_v2)))), (hk10_v49.trans (hk10_v37.trans (hk10_v25.trans (hk10_v13.trans hk10_v2)))), (hk13_v49.trans (hk13_v37.trans (hk13_v25.trans (hk13_v13.trans hk13_v2)))), (hk14_v49.trans (hk14_v37.trans (hk14_v25.trans (hk14_v13.trans hk14_v2)))), (hk15_v49.trans (hk15_v37.trans (hk15_v25.trans (hk15_v13.trans hk15_v2)))), (hk17_v49.trans (hk17_v37.trans (hk17_v25.trans (hk17_v13.trans hk17_v2)))), (hk24_v49.trans (hk24_v37.trans (hk24_v25.trans (hk24_v13.trans hk24_v2)))), (hk25_v49.trans (hk25_v37.trans (hk25_v25.trans (hk25_v13.trans hk25_v2)))), (hk35_v49.trans (hk35_v37.trans (hk35_v25.trans (hk35_v13.trans hk35_v2)))), (hk36_v49.trans (hk36_v37.trans (hk36_v25.trans (hk36_v13.trans hk36_v2)))), (hk38_v49.trans (hk38_v37.trans (hk38_v25.trans (hk38_v13.trans hk38_v2)))), (hk39_v49.trans (hk39_v37.trans (hk39_v25.trans (hk39_v13.trans hk39_v2)))), (by show (v 3).toInt ≤ (v49 3).toInt; exact (GR.cast hGR (by first | with_reducible rfl | with_reducible assumption | rfl | omega) (by first | with_reducible rfl | with_reducible assumption | rfl | omega)).1), (by show (v49 5).toInt = (v 5).toInt ∨ (v 3).toInt < (v49 3).toInt ∨ ¬ (v49 5).toInt = 59; exact (GR.cast hGR (by first | with_reducible rfl | with_reducible assumption | rfl | omega) (by first | with_reducible rfl | with_reducible assumption | rfl | omega)).2), hs2_f58, hs3_f58, hs6_f58⟩ hP hD hS dX11_readCoat_99 (Nat.le_refl _) (Nat.le_refl _)
set_option maxHeartbeats 4000000 in
set_option maxRecDepth 100000 in
theorem sY_X11_readMan_1 (NF : Nat) (l : Launch) (dC : Nat → ClassId) (dI : Nat → Nat → Nat) (cy : Nat → ClassId) (y0 : Nat) (r : Nat → Nat)  (v : Nat → Int32) (f : Nat → Nat → Int32) (w : Int64) (g : Nat → Int64) (hIv : YI v) (hCf : YC f) (hRf : progOK (f 4) (f 5) (v 9).toInt.toNat)  (hf0 : (v 17).toInt ≤ 5) : ctV l (dC, dI) cy yX11_readMan cX11_readMan 1 6 172 0 0 ((Nat → Int32) × (Nat → Nat → Int32) × (Int64) × (Nat → Int64)) [.ref y0] (YW cy y0 r v f w g) (fun u => gsY_X11_readMan_1 NF v f w g = u ∧ KV [1, 2, 3, 5, 6, 7, 17] u.1 v ∧ KF [9, 10, 11] u.2.1 f ∧ YI u.1 ∧ YC u.2.1 ∧ progOK (u.2.1 4) (u.2.1 5) (u.1 9).toInt.toNat ∧ u.1 0 = v 0 ∧ u.1 4 = v 4 ∧ u.1 8 = v 8 ∧ u.1 9 = v 9 ∧ u.1 10 = v 10 ∧ u.1 13 = v 13 ∧ u.1 14 = v 14 ∧ u.1 15 = v 15 ∧ u.1 18 = v 18 ∧ u.1 24 = v 24 ∧ u.1 25 = v 25 ∧ u.1 35 = v 35 ∧ u.1 36 = v 36 ∧ u.1 38 = v 38 ∧ u.1 39 = v 39 ∧ ((v 3).toInt ≤ (u.1 3).toInt) ∧ ((u.1 5).toInt = (v 5).toInt ∨ (v 3).toInt < (u.1 3).toInt ∨ ¬ (u.1 5).toInt = 59) ∧ u.2.1 2 = f 2 ∧ u.2.1 3 = f 3 ∧ u.2.1 6 = f 6) (fun u => YW cy y0 r u.1 u.2.1 u.2.2.1 u.2.2.2) := by
  refine ctV_of (by decide) (Nat.le_of_ble_eq_true rfl) (fun p e s m below meth c A ls Q hx hb hml hts hown hnm hE hP hD hA hl ret => ?_)
  have hUv : (v 35).toInt + (v 36).toInt ≤ 40 := hIv.2
  have hM_v : KV [1, 2, 3, 5, 6, 7, 17] v v := fun _ _ => rfl
  have hA_f : KF [9, 10, 11] f f := fun _ _ => rfl
  have b0_v : (0 : Int) ≤ (v 0).toInt ∧ (v 0).toInt ≤ 1600 := YIb.b hIv.1 0 (by decide)
  have b1_v : (0 : Int) ≤ (v 1).toInt ∧ (v 1).toInt ≤ 4 := YIb.b hIv.1 1 (by decide)
  have b8_v : (0 : Int) ≤ (v 8).toInt ∧ (v 8).toInt ≤ 320 := YIb.b hIv.1 8 (by decide)
  have b10_v : (0 : Int) ≤ (v 10).toInt ∧ (v 10).toInt ≤ 160 := YIb.b hIv.1 10 (by decide)
  have b13_v : (0 : Int) ≤ (v 13).toInt ∧ (v 13).toInt ≤ 31 := YIb.b hIv.1 13 (by decide)
  have b14_v : (0 : Int) ≤ (v 14).toInt ∧ (v 14).toInt ≤ 8 := YIb.b hIv.1 14 (by decide)
  have b15_v : (0 : Int) ≤ (v 15).toInt ∧ (v 15).toInt ≤ 1 := YIb.b hIv.1 15 (by decide)
  have b17_v : (0 : Int) ≤ (v 17).toInt ∧ (v 17).toInt ≤ 6 := YIb.b hIv.1 17 (by decide)
  have b18_v : (0 : Int) ≤ (v 18).toInt ∧ (v 18).toInt ≤ 6 := YIb.b hIv.1 18 (by decide)
  have hGR : GR (v 3).toInt (v 5).toInt (v 3).toInt (v 5).toInt := GR.refl _ _
  have hown : s.vm.findClass RX11 = some m.cls := hown
  have hS : va_S A s.heap s.heap [] := va_S.rf
  have hl : lv_has ls 1 [(0, .ref y0)] := hl
  refine lv_aload_n hx hb dX11_readMan_0 rfl (lv_at hl 0 rfl) ?_
  refine lv_iconst (v := 0) hx hb dX11_readMan_1 (by decide) ?_
  refine lv_aload_n hx hb dX11_readMan_2 rfl (lv_at hl 0 rfl) ?_
  refine va_get (D := (dC, dI)) (ci := 11) (v := .int (v 17)) (C := RX11) (T := TX11) (N := 79) hx hb hts inB_11 hown hE.1 hP 0 rfl rfl 41 (by decide) (hts _ k_1361) (fun _ h9 => h9) rfl dX11_readMan_3 ?_
  have b17_v : 0 ≤ (v 17).toInt ∧ (v 17).toInt ≤ 6 := YIb.b hIv.1 17 (by decide)
  refine cbVv (n := 2) (rest := []) hx hb hml hown hts hE hP hD hS hA (sY_X11_newName_1 NF l dC dI cy y0 r 0 (v 17) v f w g hIv hCf hRf ⟨by decide, by decide⟩ ⟨show (0 : Int) ≤ (v 17).toInt by omega, show (v 17).toInt ≤ (5 : Int) by omega⟩) k_1609 k_1611 k_47 k_114 k_1612 (by decide +kernel) ⟨Nat.le_of_ble_eq_true rfl, Nat.le_of_ble_eq_true rfl⟩ 0 11 rfl rfl (rfl) hl.1 rfl (Nat.le_of_ble_eq_true rfl) dX11_readMan_6 (fun u H locs hw hP hD hS => ?_)
  obtain ⟨hG1, hw⟩ := hw
  obtain ⟨v2, f3, w4, g5⟩ := u
  obtain ⟨kV_v2, kF_f3, hIv2, hCf3, hRf3, hk0_v2, hk4_v2, hk8_v2, hk9_v2, hk10_v2, hk13_v2, hk14_v2, hk15_v2, hk17_v2, hk18_v2, hk24_v2, hk25_v2, hk35_v2, hk36_v2, hk38_v2, hk39_v2, pv6, pv7, kq8, kq9, kq10⟩ := hw
  have hM_v2 : KV [1, 2, 3, 5, 6, 7, 17] v2 v := KV.tr kV_v2 hM_v rfl
  have hA_f3 : KF [9, 10, 11] f3 f := KF.tr kF_f3 hA_f rfl
  have hP : va_P (dC, dI) vwCl (YW cy y0 r v2 f3 w4 g5) H := hP
  have hD : va_D A (YW cy y0 r v2 f3 w4 g5) := hD
  have b3_v2 : 0 ≤ (v2 3).toInt ∧ (v2 3).toInt ≤ 1600 := YIb.b hIv2.1 3 (by decide)
  have pv6 : (v 3).toInt ≤ (v2 3).toInt := pv6
  have pv7 : (v2 5).toInt = (v 5).toInt ∨ (v 3).toInt < (v2 3).toInt ∨ ¬ (v2 5).toInt = 59 := pv7
  have hs2_f3 : f3 2 = (f 2) := kq8
  have hs3_f3 : f3 3 = (f 3) := kq9
  have hs6_f3 : f3 6 = (f 6) := kq10
  have hUv2 : (v2 35).toInt + (v2 36).toInt ≤ 40 := hIv2.2
  have hq0_v2 : v2 0 = (v 0) := hk0_v2
  have zq0_v2 := congrArg Int32.toInt hq0_v2
  have hq8_v2 : v2 8 = (v 8) := hk8_v2
  have zq8_v2 := congrArg Int32.toInt hq8_v2
  have hq9_v2 : v2 9 = (v 9) := hk9_v2
  have zq9_v2 := congrArg Int32.toInt hq9_v2
  have hq10_v2 : v2 10 = (v 10) := hk10_v2
  have zq10_v2 := congrArg Int32.toInt hq10_v2
  have hq13_v2 : v2 13 = (v 13) := hk13_v2
  have zq13_v2 := congrArg Int32.toInt hq13_v2
  have hq14_v2 : v2 14 = (v 14) := hk14_v2
  have zq14_v2 := congrArg Int32.toInt hq14_v2
  have hq15_v2 : v2 15 = (v 15) := hk15_v2
  have zq15_v2 := congrArg Int32.toInt hq15_v2
  have hq17_v2 : v2 17 = (v 17) := hk17_v2
  have zq17_v2 := congrArg Int32.toInt hq17_v2
  have hq18_v2 : v2 18 = (v 18) := hk18_v2
  have zq18_v2 := congrArg Int32.toInt hq18_v2
  have hGR : GR (v 3).toInt (v 5).toInt (v2 3).toInt (v2 5).toInt := GR.tr hGR (show GR (v 3).toInt (v 5).toInt (v2 3).toInt (v2 5).toInt from ⟨pv6, pv7⟩) (by first | with_reducible rfl | with_reducible assumption | rfl | omega) (by first | with_reducible rfl | with_reducible assumption | rfl | omega)
  clear pv7
  refine lv_aload_n hx hb dX11_readMan_9 rfl (lv_at hl 0 rfl) ?_
  refine va_get (D := (dC, dI)) (ci := 11) (v := .ref (r 27)) (C := RX11) (T := TX11) (N := 79) hx hb hts inB_11 hown hE.1 hP 0 rfl rfl 27 (by decide) (hts _ k_1347) (fun _ h9 => h9) rfl dX11_readMan_10 ?_
  refine lv_aload_n hx hb dX11_readMan_13 rfl (lv_at hl 0 rfl) ?_
  refine va_get (D := (dC, dI)) (ci := 11) (v := .int (v2 17)) (C := RX11) (T := TX11) (N := 79) hx hb hts inB_11 hown hE.1 hP 0 rfl rfl 41 (by decide) (hts _ k_1361) (fun _ h9 => h9) rfl dX11_readMan_14 ?_
  refine tI (y := (v 17)) hq17_v2 ?_
  have b17_v : 0 ≤ (v 17).toInt ∧ (v 17).toInt ≤ 6 := YIb.b hIv.1 17 (by decide)
  refine lv_aload_n hx hb dX11_readMan_17 rfl (lv_at hl 0 rfl) ?_
  refine lv_ldc2 (v := 1952541804) hx hb hown (hts _ k_1621) dX11_readMan_18 ?_
  refine lv_bipush (v := 99) hx hb dX11_readMan_21 (by decide) ?_
  refine cbVi (n := 2) (rest := [.int (v 17), .ref (r 27)]) hx hb hml hown hts hE hP hD hS hA (sY_X11_told_1 NF l dC dI cy y0 r 1952541804 99 v2 f3 w4 g5 hIv2 hCf3 hRf3 ) k_1645 k_1647 k_51 k_114 k_1648 (by decide +kernel) ⟨Nat.le_of_ble_eq_true rfl, Nat.le_of_ble_eq_true rfl⟩ 0 11 rfl rfl (rfl) hl.1 rfl (Nat.le_of_ble_eq_true rfl) dX11_readMan_23 (fun r11 u H locs hw hP hD hS => ?_)
  obtain ⟨hG12, hw⟩ := hw
  obtain ⟨v13, f14, w15, g16⟩ := u
  obtain ⟨kV_v13, kF_f14, hIv13, hCf14, hRf14, hk0_v13, hk4_v13, hk8_v13, hk9_v13, hk10_v13, hk13_v13, hk14_v13, hk15_v13, hk17_v13, hk18_v13, hk24_v13, hk25_v13, hk35_v13, hk36_v13, hk38_v13, hk39_v13, pv17, pv18, kq19, kq20, kq21⟩ := hw
  have hM_v13 : KV [1, 2, 3, 5, 6, 7, 17] v13 v := KV.tr kV_v13 hM_v2 rfl
  have hA_f14 : KF [9, 10, 11] f14 f := KF.tr kF_f14 hA_f3 rfl
  have hP : va_P (dC, dI) vwCl (YW cy y0 r v13 f14 w15 g16) H := hP
  have hD : va_D A (YW cy y0 r v13 f14 w15 g16) := hD
  have b3_v13 : 0 ≤ (v13 3).toInt ∧ (v13 3).toInt ≤ 1600 := YIb.b hIv13.1 3 (by decide)
  have pv17 : (v2 3).toInt ≤ (v13 3).toInt := pv17
  have pv18 : (v13 5).toInt = (v2 5).toInt ∨ (v2 3).toInt < (v13 3).toInt ∨ ¬ (v13 5).toInt = 59 := pv18
  have hs2_f14 : f14 2 = (f 2) := kq19.trans hs2_f3
  have hs3_f14 : f14 3 = (f 3) := kq20.trans hs3_f3
  have hs6_f14 : f14 6 = (f 6) := kq21.trans hs6_f3
  have hUv13 : (v13 35).toInt + (v13 36).toInt ≤ 40 := hIv13.2
  have hq0_v13 : v13 0 = (v 0) := hk0_v13.trans hq0_v2
  have zq0_v13 := congrArg Int32.toInt hq0_v13
  try clear zq0_v2
  have hq8_v13 : v13 8 = (v 8) := hk8_v13.trans hq8_v2
  have zq8_v13 := congrArg Int32.toInt hq8_v13
  try clear zq8_v2
  have hq9_v13 : v13 9 = (v 9) := hk9_v13.trans hq9_v2
  have zq9_v13 := congrArg Int32.toInt hq9_v13
  try clear zq9_v2
  have hq10_v13 : v13 10 = (v 10) := hk10_v13.trans hq10_v2
  have zq10_v13 := congrArg Int32.toInt hq10_v13
  try clear zq10_v2
  have hq13_v13 : v13 13 = (v 13) := hk13_v13.trans hq13_v2
  have zq13_v13 := congrArg Int32.toInt hq13_v13
  try clear zq13_v2
  have hq14_v13 : v13 14 = (v 14) := hk14_v13.trans hq14_v2
  have zq14_v13 := congrArg Int32.toInt hq14_v13
  try clear zq14_v2
  have hq15_v13 : v13 15 = (v 15) := hk15_v13.trans hq15_v2
  have zq15_v13 := congrArg Int32.toInt hq15_v13
  try clear zq15_v2
  have hq17_v13 : v13 17 = (v 17) := hk17_v13.trans hq17_v2
  have zq17_v13 := congrArg Int32.toInt hq17_v13
  try clear zq17_v2
  have hq18_v13 : v13 18 = (v 18) := hk18_v13.trans hq18_v2
  have zq18_v13 := congrArg Int32.toInt hq18_v13
  try clear zq18_v2
  have hGR : GR (v 3).toInt (v 5).toInt (v13 3).toInt (v13 5).toInt := GR.tr hGR (show GR (v2 3).toInt (v2 5).toInt (v13 3).toInt (v13 5).toInt from ⟨pv17, pv18⟩) (by first | with_reducible rfl | with_reducible assumption | rfl | omega) (by first | with_reducible rfl | with_reducible assumption | rfl | omega)
  clear pv18
  refine stI hx hb hE hP hD hS 10 rfl (vp_in_iff.mpr ⟨by omega, by omega⟩) rfl dX11_readMan_26 (fun H locs hP hD hS => ?_)
  obtain ⟨f22, ef22, hP, hD⟩ : ∃ fz9, fz9 = upd2 f14 9 (upd (f14 9) (v 17).toNatClampNeg r11) ∧ va_P (dC, dI) vwCl (YW cy y0 r v13 fz9 w15 g16) H ∧ va_D A (YW cy y0 r v13 fz9 w15 g16) := ⟨_, rfl, hP, hD⟩
  have hCf22 : YC f22 := by rw [ef22]; exact hCf14
  have hRf22 : progOK (f22 4) (f22 5) (v13 9).toInt.toNat := by rw [ef22]; exact hRf14
  have hs2_f22 : f22 2 = (f 2) := by rw [ef22]; exact hs2_f14
  have hs3_f22 : f22 3 = (f 3) := by rw [ef22]; exact hs3_f14
  have hs6_f22 : f22 6 = (f 6) := by rw [ef22]; exact hs6_f14
  have hA_f22 : KF [9, 10, 11] f22 f := by rw [ef22]; exact KF.up hA_f14 rfl
  refine lv_aload_n hx hb dX11_readMan_27 rfl (lv_at hl 0 rfl) ?_
  refine va_get (D := (dC, dI)) (ci := 11) (v := .ref (r 28)) (C := RX11) (T := TX11) (N := 79) hx hb hts inB_11 hown hE.1 hP 0 rfl rfl 28 (by decide) (hts _ k_1348) (fun _ h9 => h9) rfl dX11_readMan_28 ?_
  refine lv_aload_n hx hb dX11_readMan_31 rfl (lv_at hl 0 rfl) ?_
  refine va_get (D := (dC, dI)) (ci := 11) (v := .int (v13 17)) (C := RX11) (T := TX11) (N := 79) hx hb hts inB_11 hown hE.1 hP 0 rfl rfl 41 (by decide) (hts _ k_1361) (fun _ h9 => h9) rfl dX11_readMan_32 ?_
  refine tI (y := (v 17)) hq17_v13 ?_
  have b17_v : 0 ≤ (v 17).toInt ∧ (v 17).toInt ≤ 6 := YIb.b hIv.1 17 (by decide)
  refine lv_aload_n hx hb dX11_readMan_35 rfl (lv_at hl 0 rfl) ?_
  refine lv_ldc2 (v := 2003395685) hx hb hown (hts _ k_1622) dX11_readMan_36 ?_
  refine lv_bipush (v := 99) hx hb dX11_readMan_39 (by decide) ?_
  refine cbVi (n := 2) (rest := [.int (v 17), .ref (r 28)]) hx hb hml hown hts hE hP hD hS hA (sY_X11_told_1 NF l dC dI cy y0 r 2003395685 99 v13 f22 w15 g16 hIv13 hCf22 hRf22 ) k_1645 k_1647 k_51 k_114 k_1648 (by decide +kernel) ⟨Nat.le_of_ble_eq_true rfl, Nat.le_of_ble_eq_true rfl⟩ 0 11 rfl rfl (rfl) hl.1 rfl (Nat.le_of_ble_eq_true rfl) dX11_readMan_41 (fun r23 u H locs hw hP hD hS => ?_)
  obtain ⟨hG24, hw⟩ := hw
  obtain ⟨v25, f26, w27, g28⟩ := u
  obtain ⟨kV_v25, kF_f26, hIv25, hCf26, hRf26, hk0_v25, hk4_v25, hk8_v25, hk9_v25, hk10_v25, hk13_v25, hk14_v25, hk15_v25, hk17_v25, hk18_v25, hk24_v25, hk25_v25, hk35_v25, hk36_v25, hk38_v25, hk39_v25, pv29, pv30, kq31, kq32, kq33⟩ := hw
  have hM_v25 : KV [1, 2, 3, 5, 6, 7, 17] v25 v := KV.tr kV_v25 hM_v13 rfl
  have hA_f26 : KF [9, 10, 11] f26 f := KF.tr kF_f26 hA_f22 rfl
  have hP : va_P (dC, dI) vwCl (YW cy y0 r v25 f26 w27 g28) H := hP
  have hD : va_D A (YW cy y0 r v25 f26 w27 g28) := hD
  have b3_v25 : 0 ≤ (v25 3).toInt ∧ (v25 3).toInt ≤ 1600 := YIb.b hIv25.1 3 (by decide)
  have pv29 : (v13 3).toInt ≤ (v25 3).toInt := pv29
  have pv30 : (v25 5).toInt = (v13 5).toInt ∨ (v13 3).toInt < (v25 3).toInt ∨ ¬ (v25 5).toInt = 59 := pv30
  have hs2_f26 : f26 2 = (f 2) := kq31.trans hs2_f22
  have hs3_f26 : f26 3 = (f 3) := kq32.trans hs3_f22
  have hs6_f26 : f26 6 = (f 6) := kq33.trans hs6_f22
  have hUv25 : (v25 35).toInt + (v25 36).toInt ≤ 40 := hIv25.2
  have hq0_v25 : v25 0 = (v 0) := hk0_v25.trans hq0_v13
  have zq0_v25 := congrArg Int32.toInt hq0_v25
  try clear zq0_v13
  have hq8_v25 : v25 8 = (v 8) := hk8_v25.trans hq8_v13
  have zq8_v25 := congrArg Int32.toInt hq8_v25
  try clear zq8_v13
  have hq9_v25 : v25 9 = (v 9) := hk9_v25.trans hq9_v13
  have zq9_v25 := congrArg Int32.toInt hq9_v25
  try clear zq9_v13
  have hq10_v25 : v25 10 = (v 10) := hk10_v25.trans hq10_v13
  have zq10_v25 := congrArg Int32.toInt hq10_v25
  try clear zq10_v13
  have hq13_v25 : v25 13 = (v 13) := hk13_v25.trans hq13_v13
  have zq13_v25 := congrArg Int32.toInt hq13_v25
  try clear zq13_v13
  have hq14_v25 : v25 14 = (v 14) := hk14_v25.trans hq14_v13
  have zq14_v25 := congrArg Int32.toInt hq14_v25
  try clear zq14_v13
  have hq15_v25 : v25 15 = (v 15) := hk15_v25.trans hq15_v13
  have zq15_v25 := congrArg Int32.toInt hq15_v25
  try clear zq15_v13
  have hq17_v25 : v25 17 = (v 17) := hk17_v25.trans hq17_v13
  have zq17_v25 := congrArg Int32.toInt hq17_v25
  try clear zq17_v13
  have hq18_v25 : v25 18 = (v 18) := hk18_v25.trans hq18_v13
  have zq18_v25 := congrArg Int32.toInt hq18_v25
  try clear zq18_v13
  have hGR : GR (v 3).toInt (v 5).toInt (v25 3).toInt (v25 5).toInt := GR.tr hGR (show GR (v13 3).toInt (v13 5).toInt (v25 3).toInt (v25 5).toInt from ⟨pv29, pv30⟩) (by first | with_reducible rfl | with_reducible assumption | rfl | omega) (by first | with_reducible rfl | with_reducible assumption | rfl | omega)
  clear pv30
  refine stI hx hb hE hP hD hS 11 rfl (vp_in_iff.mpr ⟨by omega, by omega⟩) rfl dX11_readMan_44 (fun H locs hP hD hS => ?_)
  obtain ⟨f34, ef34, hP, hD⟩ : ∃ fz9, fz9 = upd2 f26 10 (upd (f26 10) (v 17).toNatClampNeg r23) ∧ va_P (dC, dI) vwCl (YW cy y0 r v25 fz9 w27 g28) H ∧ va_D A (YW cy y0 r v25 fz9 w27 g28) := ⟨_, rfl, hP, hD⟩
  have hCf34 : YC f34 := by rw [ef34]; exact hCf26
  have hRf34 : progOK (f34 4) (f34 5) (v25 9).toInt.toNat := by rw [ef34]; exact hRf26
  have hs2_f34 : f34 2 = (f 2) := by rw [ef34]; exact hs2_f26
  have hs3_f34 : f34 3 = (f 3) := by rw [ef34]; exact hs3_f26
  have hs6_f34 : f34 6 = (f 6) := by rw [ef34]; exact hs6_f26
  have hA_f34 : KF [9, 10, 11] f34 f := by rw [ef34]; exact KF.up hA_f26 rfl
  refine lv_aload_n hx hb dX11_readMan_45 rfl (lv_at hl 0 rfl) ?_
  refine va_get (D := (dC, dI)) (ci := 11) (v := .ref (r 29)) (C := RX11) (T := TX11) (N := 79) hx hb hts inB_11 hown hE.1 hP 0 rfl rfl 29 (by decide) (hts _ k_1349) (fun _ h9 => h9) rfl dX11_readMan_46 ?_
  refine lv_aload_n hx hb dX11_readMan_49 rfl (lv_at hl 0 rfl) ?_
  refine va_get (D := (dC, dI)) (ci := 11) (v := .int (v25 17)) (C := RX11) (T := TX11) (N := 79) hx hb hts inB_11 hown hE.1 hP 0 rfl rfl 41 (by decide) (hts _ k_1361) (fun _ h9 => h9) rfl dX11_readMan_50 ?_
  refine tI (y := (v 17)) hq17_v25 ?_
  have b17_v : 0 ≤ (v 17).toInt ∧ (v 17).toInt ≤ 6 := YIb.b hIv.1 17 (by decide)
  refine lv_aload_n hx hb dX11_readMan_53 rfl (lv_at hl 0 rfl) ?_
  refine lv_ldc2 (v := 444301539187) hx hb hown (hts _ k_1623) dX11_readMan_54 ?_
  refine lv_bipush (v := 9) hx hb dX11_readMan_57 (by decide) ?_
  refine cbVi (n := 2) (rest := [.int (v 17), .ref (r 29)]) hx hb hml hown hts hE hP hD hS hA (sY_X11_option_1 NF l dC dI cy y0 r 444301539187 9 v25 f34 w27 g28 hIv25 hCf34 hRf34 ) k_1657 k_1659 k_54 k_114 k_1660 (by decide +kernel) ⟨Nat.le_of_ble_eq_true rfl, Nat.le_of_ble_eq_true rfl⟩ 0 11 rfl rfl (rfl) hl.1 rfl (Nat.le_of_ble_eq_true rfl) dX11_readMan_59 (fun r35 u H locs hw hP hD hS => ?_)
  obtain ⟨hG36, hw⟩ := hw
  obtain ⟨v37, f38, w39, g40⟩ := u
  obtain ⟨kV_v37, kF_f38, hIv37, hCf38, hRf38, hk0_v37, hk4_v37, hk8_v37, hk9_v37, hk10_v37, hk13_v37, hk14_v37, hk15_v37, hk17_v37, hk18_v37, hk24_v37, hk25_v37, hk35_v37, hk36_v37, hk38_v37, hk39_v37, pv41, pv42, kq43, kq44, kq45⟩ := hw
  have hM_v37 : KV [1, 2, 3, 5, 6, 7, 17] v37 v := KV.tr kV_v37 hM_v25 rfl
  have hA_f38 : KF [9, 10, 11] f38 f := KF.tr kF_f38 hA_f34 rfl
  have hP : va_P (dC, dI) vwCl (YW cy y0 r v37 f38 w39 g40) H := hP
  have hD : va_D A (YW cy y0 r v37 f38 w39 g40) := hD
  have b3_v37 : 0 ≤ (v37 3).toInt ∧ (v37 3).toInt ≤ 1600 := YIb.b hIv37.1 3 (by decide)
  have pv41 : (v25 3).toInt ≤ (v37 3).toInt := pv41
  have pv42 : (v37 5).toInt = (v25 5).toInt ∨ (v25 3).toInt < (v37 3).toInt ∨ ¬ (v37 5).toInt = 59 := pv42
  have hs2_f38 : f38 2 = (f 2) := kq43.trans hs2_f34
  have hs3_f38 : f38 3 = (f 3) := kq44.trans hs3_f34
  have hs6_f38 : f38 6 = (f 6) := kq45.trans hs6_f34
  have hUv37 : (v37 35).toInt + (v37 36).toInt ≤ 40 := hIv37.2
  have hq0_v37 : v37 0 = (v 0) := hk0_v37.trans hq0_v25
  have zq0_v37 := congrArg Int32.toInt hq0_v37
  try clear zq0_v25
  have hq8_v37 : v37 8 = (v 8) := hk8_v37.trans hq8_v25
  have zq8_v37 := congrArg Int32.toInt hq8_v37
  try clear zq8_v25
  have hq9_v37 : v37 9 = (v 9) := hk9_v37.trans hq9_v25
  have zq9_v37 := congrArg Int32.toInt hq9_v37
  try clear zq9_v25
  have hq10_v37 : v37 10 = (v 10) := hk10_v37.trans hq10_v25
  have zq10_v37 := congrArg Int32.toInt hq10_v37
  try clear zq10_v25
  have hq13_v37 : v37 13 = (v 13) := hk13_v37.trans hq13_v25
  have zq13_v37 := congrArg Int32.toInt hq13_v37
  try clear zq13_v25
  have hq14_v37 : v37 14 = (v 14) := hk14_v37.trans hq14_v25
  have zq14_v37 := congrArg Int32.toInt hq14_v37
  try clear zq14_v25
  have hq15_v37 : v37 15 = (v 15) := hk15_v37.trans hq15_v25
  have zq15_v37 := congrArg Int32.toInt hq15_v37
  try clear zq15_v25
  have hq17_v37 : v37 17 = (v 17) := hk17_v37.trans hq17_v25
  have zq17_v37 := congrArg Int32.toInt hq17_v37
  try clear zq17_v25
  have hq18_v37 : v37 18 = (v 18) := hk18_v37.trans hq18_v25
  have zq18_v37 := congrArg Int32.toInt hq18_v37
  try clear zq18_v25
  have hGR : GR (v 3).toInt (v 5).toInt (v37 3).toInt (v37 5).toInt := GR.tr hGR (show GR (v25 3).toInt (v25 5).toInt (v37 3).toInt (v37 5).toInt from ⟨pv41, pv42⟩) (by first | with_reducible rfl | with_reducible assumption | rfl | omega) (by first | with_reducible rfl | with_reducible assumption | rfl | omega)
  clear pv42
  refine stI hx hb hE hP hD hS 12 rfl (vp_in_iff.mpr ⟨by omega, by omega⟩) rfl dX11_readMan_62 (fun H locs hP hD hS => ?_)
  obtain ⟨f46, ef46, hP, hD⟩ : ∃ fz9, fz9 = upd2 f38 11 (upd (f38 11) (v 17).toNatClampNeg r35) ∧ va_P (dC, dI) vwCl (YW cy y0 r v37 fz9 w39 g40) H ∧ va_D A (YW cy y0 r v37 fz9 w39 g40) := ⟨_, rfl, hP, hD⟩
  have hCf46 : YC f46 := by rw [ef46]; exact hCf38
  have hRf46 : progOK (f46 4) (f46 5) (v37 9).toInt.toNat := by rw [ef46]; exact hRf38
  have hs2_f46 : f46 2 = (f 2) := by rw [ef46]; exact hs2_f38
  have hs3_f46 : f46 3 = (f 3) := by rw [ef46]; exact hs3_f38
  have hs6_f46 : f46 6 = (f 6) := by rw [ef46]; exact hs6_f38
  have hA_f46 : KF [9, 10, 11] f46 f := by rw [ef46]; exact KF.up hA_f38 rfl
  refine lv_aload_n hx hb dX11_readMan_63 rfl (lv_at hl 0 rfl) ?_
  refine va_get (D := (dC, dI)) (ci := 11) (v := .int (v37 1)) (C := RX11) (T := TX11) (N := 79) hx hb hts inB_11 hown hE.1 hP 0 rfl rfl 2 (by decide) (hts _ k_1322) (fun _ h9 => h9) rfl dX11_readMan_64 ?_
  have b1_v37 : 0 ≤ (v37 1).toInt ∧ (v37 1).toInt ≤ 4 := YIb.b hIv37.1 1 (by decide)
  refine lv_if_ne (tgt := 80) hx hb dX11_readMan_67 (by decide) (fun c47 => ?_) (fun c47 => ?_)
  · skip
    have zc47 : ¬ ((v37 1).toInt = 0) := by rw [fa_eq, show (0 : Int32).toInt = 0 from by decide] at c47; exact c47
    exact ret (v37, f46, w39, g40) _ _ _ _ _ _ ⟨(gsY_X11_readMan_1_q0 hG1 hG12 ef22 hG24 ef34 hG36 ef46 c47), hM_v37, hA_f46, hIv37, hCf46, hRf46, (hk0_v37.trans (hk0_v25.trans (hk0_v13.trans hk0_v2))), (hk4_v37.trans (hk4_v25.trans (hk4_v13.trans hk4_v2))), (hk8_v37.trans (hk8_v25.trans (hk8_v13.trans hk8_v2))), (hk9_v37.trans (hk9_v25.trans (hk9_v13.trans hk9_v2))), (hk10_v37.trans (hk10_v25.trans (hk10_v13.trans hk10_v2))), (hk13_v37.trans (hk13_v25.trans (hk13_v13.trans hk13_v2))), (hk14_v37.trans (hk14_v25.trans (hk14_v13.trans hk14_v2))), (hk15_v37.trans (hk15_v25.trans (hk15_v13.trans hk15_v2))), (hk18_v37.trans (hk18_v25.trans (hk18_v13.trans hk18_v2))), (hk24_v37.trans (hk24_v25.trans (hk24_v13.trans hk24_v2))), (hk25_v37.trans (hk25_v25.trans (hk25_v13.trans hk25_v2))), (hk35_v37.trans (hk35_v25.trans (hk35_v13.trans hk35_v2))), (hk36_v37.trans (hk36_v25.trans (hk36_v13.trans hk36_v2))), (hk38_v37.trans (hk38_v25.trans (hk38_v13.trans hk38_v2))), (hk39_v37.trans (hk39_v25.trans (hk39_v13.trans hk39_v2))), (by show (v 3).toInt ≤ (v37 3).toInt; exact (GR.cast hGR (by first | with_reducible rfl | with_reducible assumption | rfl | omega) (by first | with_reducible rfl | with_reducible assumption | rfl | omega)).1), (by show (v37 5).toInt = (v 5).toInt ∨ (v 3).toInt < (v37 3).toInt ∨ ¬ (v37 5).toInt = 59; exact (GR.cast hGR (by first | with_reducible rfl | with_reducible assumption | rfl | omega) (by first | with_reducible rfl | with_reducible assumption | rfl | omega)).2), hs2_f46, hs3_f46, hs6_f46⟩ hP hD hS dX11_readMan_80 (Nat.le_refl _) (Nat.le_refl _)
  · skip
    have zc47 : (v37 1).toInt = 0 := by rw [fa_eq, show (0 : Int32).toInt = 0 from by decide] at c47; exact c47
    refine lv_aload_n hx hb dX11_readMan_70 rfl (lv_at hl 0 rfl) ?_
    refine lv_dup hx hb dX11_readMan_71 rfl ?_
    refine va_get (D := (dC, dI)) (ci := 11) (v := .int (v37 17)) (C := RX11) (T := TX11) (N := 79) hx hb hts inB_11 hown hE.1 hP 0 rfl rfl 41 (by decide) (hts _ k_1361) (fun _ h9 => h9) rfl dX11_readMan_72 ?_
    refine tI (y := (v 17)) hq17_v37 ?_
    have b17_v : 0 ≤ (v 17).toInt ∧ (v 17).toInt ≤ 6 := YIb.b hIv.1 17 (by decide)
    refine lv_iconst (v := 1) hx hb dX11_readMan_75 (by decide) ?_
    refine lv_iadd hx hb dX11_readMan_76 ?_
    refine lv_topi (fun t48 et48 => ?_)
    have rg49 := fb_rng (v 17)
    have zt48 : t48.toInt = (v 17).toInt + 1 := by rw [et48]; exact add_i rfl (by decide) (by omega) (by omega)
    refine va_put (D := (dC, dI)) (ci := 11) (v := .int t48) (ty := tyX11 41) (C := RX11) (T := TX11) (N := 79) hx hb hts inB_11 tyX11 tyX11_ok nmX11 hown hE.1 hP hD hS 0 rfl rfl 41 (by decide) (hts _ k_1361) (fun _ h9 => h9) rfl (tyX11_ok 41 (by decide)) rfl rfl (Nat.le_of_ble_eq_true rfl) dX11_readMan_77 (fun H locs hP hD hS => ?_)
    have hP : va_P (dC, dI) vwCl (YW cy y0 r (upd v37 17 t48) f46 w39 g40) H := hP
    have hD : va_D A (YW cy y0 r (upd v37 17 t48) f46 w39 g40) := hD
    exact ret ((upd v37 17 t48), f46, w39, g40) _ _ _ _ _ _ ⟨(gsY_X11_readMan_1_q1 hG1 hG12 ef22 hG24 ef34 hG36 ef46 c47 et48), (KV.up (j := 17) (x := t48) hM_v37 rfl), hA_f46, ⟨(YIb.upd (j := 17) (x := t48) hIv37.1 (show (0 : Int) ≤ t48.toInt by omega) (show t48.toInt ≤ (6 : Int) by omega)), hIv37.2⟩, hCf46, hRf46, (hk0_v37.trans (hk0_v25.trans (hk0_v13.trans hk0_v2))), (hk4_v37.trans (hk4_v25.trans (hk4_v13.trans hk4_v2))), (hk8_v37.trans (hk8_v25.trans (hk8_v13.trans hk8_v2))), (hk9_v37.trans (hk9_v25.trans (hk9_v13.trans hk9_v2))), (hk10_v37.trans (hk10_v25.trans (hk10_v13.trans hk10_v2))), (hk13_v37.trans (hk13_v25.trans (hk13_v13.trans hk13_v2))), (hk14_v37.trans (hk14_v25.trans (hk14_v13.trans hk14_v2))), (hk15_v37.trans (hk15_v25.trans (hk15_v13.trans hk15_v2))), (hk18_v37.trans (hk18_v25.trans (hk18_v13.trans hk18_v2))), (hk24_v37.trans (hk24_v25.trans (hk24_v13.trans hk24_v2))), (hk25_v37.trans (hk25_v25.trans (hk25_v13.trans hk25_v2))), (hk35_v37.trans (hk35_v25.trans (hk35_v13.trans hk35_v2))), (hk36_v37.trans (hk36_v25.trans (hk36_v13.trans hk36_v2))), (hk38_v37.trans (hk38_v25.trans (hk38_v13.trans hk38_v2))), (hk39_v37.trans (hk39_v25.trans (hk39_v13.trans hk39_v2))), (by show (v 3).toInt ≤ (v37 3).toInt; exact (GR.cast hGR (by first | with_reducible rfl | with_reducible assumption | rfl | omega) (by first | with_reducible rfl | with_reducible assumption | rfl | omega)).1), (by show (v37 5).toInt = (v 5).toInt ∨ (v 3).toInt < (v37 3).toInt ∨ ¬ (v37 5).toInt = 59; exact (GR.cast hGR (by first | with_reducible rfl | with_reducible assumption | rfl | omega) (by first | with_reducible rfl | with_reducible assumption | rfl | omega)).2), hs2_f46, hs3_f46, hs6_f46⟩ hP hD hS dX11_readMan_80 (Nat.le_refl _) (Nat.le_refl _)
