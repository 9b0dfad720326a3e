set_option maxHeartbeats 4000000 in
set_option maxRecDepth 100000 in
theorem sY_X11_toldNumber_1 (NF : Nat) (l : Launch) (dC : Nat → ClassId) (dI : Nat → Nat → Nat) (cy : Nat → ClassId) (y0 : Nat) (r : Nat → Nat) (p1 : Int32) (p2 : Int32) (v : Nat → Int32) (f : Nat → Nat → Int32) (w : Int64) (g : Nat → Int64) (hIv : YI v) (hCf : YC f) (hRf : progOK (f 4) (f 5) (v 9).toInt.toNat)  : ctI l (dC, dI) cy yX11_toldNumber cX11_toldNumber 4 .int 3 103 0 0 ((Nat → Int32) × (Nat → Nat → Int32) × (Int64) × (Nat → Int64)) [.ref y0, .int p1, .int p2] (YW cy y0 r v f w g) (fun r u => gsY_X11_toldNumber_1 NF p1 p2 v f w g = (r, u) ∧ KV [1, 2, 3, 5, 6, 7] u.1 v ∧ KF [] u.2.1 f ∧ YI u.1 ∧ YC u.2.1 ∧ progOK (u.2.1 4) (u.2.1 5) (u.1 9).toInt.toNat ∧ u.1 0 = v 0 ∧ u.1 4 = v 4 ∧ u.1 8 = v 8 ∧ u.1 9 = v 9 ∧ u.1 10 = v 10 ∧ u.1 13 = v 13 ∧ u.1 14 = v 14 ∧ u.1 15 = v 15 ∧ u.1 17 = v 17 ∧ u.1 18 = v 18 ∧ u.1 24 = v 24 ∧ u.1 25 = v 25 ∧ u.1 35 = v 35 ∧ u.1 36 = v 36 ∧ u.1 38 = v 38 ∧ u.1 39 = v 39 ∧ ((v 3).toInt ≤ (u.1 3).toInt) ∧ ((u.1 5).toInt = (v 5).toInt ∨ (v 3).toInt < (u.1 3).toInt ∨ ¬ (u.1 5).toInt = 59) ∧ u.2.1 2 = f 2 ∧ u.2.1 3 = f 3 ∧ u.2.1 6 = f 6) (fun u => YW cy y0 r u.1 u.2.1 u.2.2.1 u.2.2.2) := by
  refine ctI_of (by decide) (Nat.le_of_ble_eq_true rfl) (fun p e s m below meth c A ls Q hx hb hml hts hown hE hP hD hA hl ret => ?_)
  have hUv : (v 35).toInt + (v 36).toInt ≤ 40 := hIv.2
  have hM_v : KV [1, 2, 3, 5, 6, 7] v v := fun _ _ => rfl
  have hA_f : KF [] f f := fun _ _ => rfl
  have b0_v : (0 : Int) ≤ (v 0).toInt ∧ (v 0).toInt ≤ 1600 := YIb.b hIv.1 0 (by decide)
  have b1_v : (0 : Int) ≤ (v 1).toInt ∧ (v 1).toInt ≤ 4 := YIb.b hIv.1 1 (by decide)
  have b8_v : (0 : Int) ≤ (v 8).toInt ∧ (v 8).toInt ≤ 320 := YIb.b hIv.1 8 (by decide)
  have b10_v : (0 : Int) ≤ (v 10).toInt ∧ (v 10).toInt ≤ 160 := YIb.b hIv.1 10 (by decide)
  have b13_v : (0 : Int) ≤ (v 13).toInt ∧ (v 13).toInt ≤ 31 := YIb.b hIv.1 13 (by decide)
  have b14_v : (0 : Int) ≤ (v 14).toInt ∧ (v 14).toInt ≤ 8 := YIb.b hIv.1 14 (by decide)
  have b15_v : (0 : Int) ≤ (v 15).toInt ∧ (v 15).toInt ≤ 1 := YIb.b hIv.1 15 (by decide)
  have b17_v : (0 : Int) ≤ (v 17).toInt ∧ (v 17).toInt ≤ 6 := YIb.b hIv.1 17 (by decide)
  have b18_v : (0 : Int) ≤ (v 18).toInt ∧ (v 18).toInt ≤ 6 := YIb.b hIv.1 18 (by decide)
  have hGR : GR (v 3).toInt (v 5).toInt (v 3).toInt (v 5).toInt := GR.refl _ _
  have hown : s.vm.findClass RX11 = some m.cls := hown
  have hS : va_S A s.heap s.heap [] := va_S.rf
  have hl : lv_has ls 4 [(0, .ref y0), (1, .int p1), (2, .int p2)] := hl
  refine lv_aload_n hx hb dX11_toldNumber_0 rfl (lv_at hl 0 rfl) ?_
  refine va_get (D := (dC, dI)) (ci := 11) (v := .int (v 1)) (C := RX11) (T := TX11) (N := 79) hx hb hts inB_11 hown hE.1 hP 0 rfl rfl 2 (by decide) (hts _ k_1322) (fun _ h9 => h9) rfl dX11_toldNumber_1 ?_
  have b1_v : 0 ≤ (v 1).toInt ∧ (v 1).toInt ≤ 4 := YIb.b hIv.1 1 (by decide)
  refine lv_if_le (tgt := 9) hx hb dX11_toldNumber_4 (by decide) (fun c1 => ?_) (fun c1 => ?_)
  · skip
    have zc1 : (v 1).toInt ≤ 0 := by rw [fa_le, show (0 : Int32).toInt = 0 from by decide] at c1; exact c1
    refine lv_aload_n hx hb dX11_toldNumber_9 rfl (lv_at hl 0 rfl) ?_
    refine va_get (D := (dC, dI)) (ci := 11) (v := .int (v 5)) (C := RX11) (T := TX11) (N := 79) hx hb hts inB_11 hown hE.1 hP 0 rfl rfl 6 (by decide) (hts _ k_1326) (fun _ h9 => h9) rfl dX11_toldNumber_10 ?_
    refine lv_iconst (v := 2) hx hb dX11_toldNumber_13 (by decide) ?_
    refine lv_icmp_eq (tgt := 25) hx hb dX11_toldNumber_14 (by decide) (fun c2 => ?_) (fun c2 => ?_)
    · skip
      have zc2 : (v 5).toInt = 2 := by rw [fa_eq, show (2 : Int32).toInt = 2 from by decide] at c2; exact c2
      refine lv_aload_n hx hb dX11_toldNumber_25 rfl (lv_at hl 0 rfl) ?_
      refine va_get (D := (dC, dI)) (ci := 11) (v := .int (v 7)) (C := RX11) (T := TX11) (N := 79) hx hb hts inB_11 hown hE.1 hP 0 rfl rfl 8 (by decide) (hts _ k_1328) (fun _ h9 => h9) rfl dX11_toldNumber_26 ?_
      refine lv_iload_n hx hb dX11_toldNumber_29 rfl (lv_at hl 1 rfl) ?_
      refine lv_icmp_lt (tgt := 41) hx hb dX11_toldNumber_30 (by decide) (fun c3 => ?_) (fun c3 => ?_)
      · skip
        have zc3 : (v 7).toInt < p1.toInt := by rw [fa_lt] at c3; exact c3
        have rg4 := fb_rng (v 7)
        have rg5 := fb_rng p1
        refine lv_aload_n hx hb dX11_toldNumber_41 rfl (lv_at hl 0 rfl) ?_
        refine lv_iconst (v := 4) hx hb dX11_toldNumber_42 (by decide) ?_
        refine cbVv (n := 1) (rest := []) hx hb hml hown hts hE hP hD hS hA (sY_X11_wrong_1 NF l dC dI cy y0 r 4 v f w g hIv hCf hRf ⟨by decide, by decide⟩) k_1641 k_1643 k_50 k_114 k_1644 (by decide +kernel) ⟨Nat.le_of_ble_eq_true rfl, Nat.le_of_ble_eq_true rfl⟩ 0 11 rfl rfl (rfl) hl.1 rfl (Nat.le_of_ble_eq_true rfl) dX11_toldNumber_43 (fun u H locs hw hP hD hS => ?_)
        obtain ⟨hG6, hw⟩ := hw
        obtain ⟨v7, f8, w9, g10⟩ := u
        obtain ⟨kV_v7, kF_f8, hIv7, hCf8, hRf8, hk0_v7, hk3_v7, hk4_v7, hk5_v7, hk8_v7, hk9_v7, hk10_v7, hk13_v7, hk14_v7, hk15_v7, hk17_v7, hk18_v7, hk24_v7, hk25_v7, hk35_v7, hk36_v7, hk38_v7, hk39_v7, pv11, pv12, pv13, kq14, kq15, kq16⟩ := hw
        have hM_v7 : KV [1, 2, 3, 5, 6, 7] v7 v := KV.tr kV_v7 hM_v rfl
        have hA_f8 : KF [] f8 f := KF.tr kF_f8 hA_f rfl
        have hP : va_P (dC, dI) vwCl (YW cy y0 r v7 f8 w9 g10) H := hP
        have hD : va_D A (YW cy y0 r v7 f8 w9 g10) := hD
        have b3_v7 : 0 ≤ (v7 3).toInt ∧ (v7 3).toInt ≤ 1600 := YIb.b hIv7.1 3 (by decide)
        have b1_v7 : 0 ≤ (v7 1).toInt ∧ (v7 1).toInt ≤ 4 := YIb.b hIv7.1 1 (by decide)
        have pv11 : (v 3).toInt ≤ (v7 3).toInt := pv11
        have pv12 : (v7 5).toInt = (v 5).toInt ∨ (v 3).toInt < (v7 3).toInt ∨ ¬ (v7 5).toInt = 59 := pv12
        have pv13 : 0 < (v7 1).toInt := pv13
        have hs2_f8 : f8 2 = (f 2) := kq14
        have hs3_f8 : f8 3 = (f 3) := kq15
        have hs6_f8 : f8 6 = (f 6) := kq16
        have hUv7 : (v7 35).toInt + (v7 36).toInt ≤ 40 := hIv7.2
        have hq0_v7 : v7 0 = (v 0) := hk0_v7
        have zq0_v7 := congrArg Int32.toInt hq0_v7
        have hq3_v7 : v7 3 = (v 3) := hk3_v7
        have zq3_v7 := congrArg Int32.toInt hq3_v7
        have hq5_v7 : v7 5 = (v 5) := hk5_v7
        have zq5_v7 := congrArg Int32.toInt hq5_v7
        have hq8_v7 : v7 8 = (v 8) := hk8_v7
        have zq8_v7 := congrArg Int32.toInt hq8_v7
        have hq9_v7 : v7 9 = (v 9) := hk9_v7
        have zq9_v7 := congrArg Int32.toInt hq9_v7
        have hq10_v7 : v7 10 = (v 10) := hk10_v7
        have zq10_v7 := congrArg Int32.toInt hq10_v7
        have hq13_v7 : v7 13 = (v 13) := hk13_v7
        have zq13_v7 := congrArg Int32.toInt hq13_v7
        have hq14_v7 : v7 14 = (v 14) := hk14_v7
        have zq14_v7 := congrArg Int32.toInt hq14_v7
        have hq15_v7 : v7 15 = (v 15) := hk15_v7
        have zq15_v7 := congrArg Int32.toInt hq15_v7
        have hq17_v7 : v7 17 = (v 17) := hk17_v7
        have zq17_v7 := congrArg Int32.toInt hq17_v7
        have hq18_v7 : v7 18 = (v 18) := hk18_v7
        have zq18_v7 := congrArg Int32.toInt hq18_v7
        have hGR : GR (v 3).toInt (v 5).toInt (v7 3).toInt (v7 5).toInt := GR.tr hGR (show GR (v 3).toInt (v 5).toInt (v7 3).toInt (v7 5).toInt from ⟨pv11, pv12⟩) (by first | rfl | assumption | omega) (by first | rfl | assumption | omega)
        clear pv12
        refine lv_aload_n hx hb dX11_toldNumber_46 rfl (lv_at hl 0 rfl) ?_
        refine va_get (D := (dC, dI)) (ci := 11) (v := .int (v7 7)) (C := RX11) (T := TX11) (N := 79) hx hb hts inB_11 hown hE.1 hP 0 rfl rfl 8 (by decide) (hts _ k_1328) (fun _ h9 => h9) rfl dX11_toldNumber_47 ?_
        refine lv_istore_n (lv' := [(3, .int (v7 7)), (0, .ref y0), (1, .int p1), (2, .int p2)]) hx hb dX11_toldNumber_50 rfl hl (by decide) rfl (fun ls hl => ?_)
        refine lv_aload_n hx hb dX11_toldNumber_51 rfl (lv_at hl 1 rfl) ?_
        refine va_get (D := (dC, dI)) (ci := 11) (v := .int (v7 1)) (C := RX11) (T := TX11) (N := 79) hx hb hts inB_11 hown hE.1 hP 0 rfl rfl 2 (by decide) (hts _ k_1322) (fun _ h9 => h9) rfl dX11_toldNumber_52 ?_
        have b1_v7 : 0 ≤ (v7 1).toInt ∧ (v7 1).toInt ≤ 4 := YIb.b hIv7.1 1 (by decide)
        refine lv_if_ne (tgt := 62) hx hb dX11_toldNumber_55 (by decide) (fun c17 => ?_) (fun c17 => ?_)
        · skip
          have zc17 : ¬ ((v7 1).toInt = 0) := by rw [fa_eq, show (0 : Int32).toInt = 0 from by decide] at c17; exact c17
          refine lv_iload_n hx hb dX11_toldNumber_62 rfl (lv_at hl 0 rfl) ?_
          exact ret (v7 7) (v7, f8, w9, g10) _ _ _ _ _ _ rfl ⟨(gsY_X11_toldNumber_1_q0 c1 c2 c3 hG6 c17), hM_v7, hA_f8, hIv7, hCf8, hRf8, hk0_v7, hk4_v7, hk8_v7, hk9_v7, hk10_v7, hk13_v7, hk14_v7, hk15_v7, hk17_v7, hk18_v7, hk24_v7, hk25_v7, hk35_v7, hk36_v7, hk38_v7, hk39_v7, (by show (v 3).toInt ≤ (v7 3).toInt; exact (GR.cast hGR (by first | rfl | assumption | omega) (by first | rfl | assumption | omega)).1), (by show (v7 5).toInt = (v 5).toInt ∨ (v 3).toInt < (v7 3).toInt ∨ ¬ (v7 5).toInt = 59; exact (GR.cast hGR (by first | rfl | assumption | omega) (by first | rfl | assumption | omega)).2), hs2_f8, hs3_f8, hs6_f8⟩ hP hD hS dX11_toldNumber_63 (Nat.le_refl _) (Nat.le_refl _)
        · skip
          have zc17 : (v7 1).toInt = 0 := by rw [fa_eq, show (0 : Int32).toInt = 0 from by decide] at c17; exact c17
          refine lv_aload_n hx hb dX11_toldNumber_58 rfl (lv_at hl 1 rfl) ?_
          refine cbVv (n := 0) (rest := []) hx hb hml hown hts hE hP hD hS hA (sY_X11_token_1 NF l dC dI cy y0 r  v7 f8 w9 g10 hIv7 hCf8 hRf8 ) k_1579 k_1581 k_42 k_114 k_1582 (by decide +kernel) ⟨Nat.le_of_ble_eq_true rfl, Nat.le_of_ble_eq_true rfl⟩ 0 11 rfl rfl (rfl) hl.1 rfl (Nat.le_of_ble_eq_true rfl) dX11_toldNumber_59 (fun u H locs hw hP hD hS => ?_)
          obtain ⟨hG18, hw⟩ := hw
          obtain ⟨v19, f20, w21, g22⟩ := u
          obtain ⟨kV_v19, kF_f20, hIv19, hCf20, hRf20, hk0_v19, hk1_v19, hk2_v19, hk4_v19, hk8_v19, hk9_v19, hk10_v19, hk13_v19, hk14_v19, hk15_v19, hk17_v19, hk18_v19, hk24_v19, hk25_v19, hk35_v19, hk36_v19, hk38_v19, hk39_v19, pv23, pv24, kq25, kq26, kq27⟩ := hw
          have hM_v19 : KV [1, 2, 3, 5, 6, 7] v19 v := KV.tr kV_v19 hM_v7 rfl
          have hA_f20 : KF [] f20 f := KF.tr kF_f20 hA_f8 rfl
          have hP : va_P (dC, dI) vwCl (YW cy y0 r v19 f20 w21 g22) H := hP
          have hD : va_D A (YW cy y0 r v19 f20 w21 g22) := hD
          have b3_v19 : 0 ≤ (v19 3).toInt ∧ (v19 3).toInt ≤ 1600 := YIb.b hIv19.1 3 (by decide)
          have pv23 : (v7 3).toInt ≤ (v19 3).toInt := pv23
          have pv24 : (v19 5).toInt = (v7 5).toInt ∨ (v7 3).toInt < (v19 3).toInt ∨ ¬ (v19 5).toInt = 59 := pv24
          have hs2_f20 : f20 2 = (f 2) := kq25.trans hs2_f8
          have hs3_f20 : f20 3 = (f 3) := kq26.trans hs3_f8
          have hs6_f20 : f20 6 = (f 6) := kq27.trans hs6_f8
          have hUv19 : (v19 35).toInt + (v19 36).toInt ≤ 40 := hIv19.2
          have hq0_v19 : v19 0 = (v 0) := hk0_v19.trans hq0_v7
          have zq0_v19 := congrArg Int32.toInt hq0_v19
          try clear zq0_v7
          have hq1_v19 : v19 1 = (v7 1) := hk1_v19
          have zq1_v19 := congrArg Int32.toInt hq1_v19
          have hq8_v19 : v19 8 = (v 8) := hk8_v19.trans hq8_v7
          have zq8_v19 := congrArg Int32.toInt hq8_v19
          try clear zq8_v7
          have hq9_v19 : v19 9 = (v 9) := hk9_v19.trans hq9_v7
          have zq9_v19 := congrArg Int32.toInt hq9_v19
          try clear zq9_v7
          have hq10_v19 : v19 10 = (v 10) := hk10_v19.trans hq10_v7
          have zq10_v19 := congrArg Int32.toInt hq10_v19
          try clear zq10_v7
          have hq13_v19 : v19 13 = (v 13) := hk13_v19.trans hq13_v7
          have zq13_v19 := congrArg Int32.toInt hq13_v19
          try clear zq13_v7
          have hq14_v19 : v19 14 = (v 14) := hk14_v19.trans hq14_v7
          have zq14_v19 := congrArg Int32.toInt hq14_v19
          try clear zq14_v7
          have hq15_v19 : v19 15 = (v 15) := hk15_v19.trans hq15_v7
          have zq15_v19 := congrArg Int32.toInt hq15_v19
          try clear zq15_v7
          have hq17_v19 : v19 17 = (v 17) := hk17_v19.trans hq17_v7
          have zq17_v19 := congrArg Int32.toInt hq17_v19
          try clear zq17_v7
          have hq18_v19 : v19 18 = (v 18) := hk18_v19.trans hq18_v7
          have zq18_v19 := congrArg Int32.toInt hq18_v19
          try clear zq18_v7
          have hGR : GR (v 3).toInt (v 5).toInt (v19 3).toInt (v19 5).toInt := GR.tr hGR (show GR (v7 3).toInt (v7 5).toInt (v19 3).toInt (v19 5).toInt from ⟨pv23, pv24⟩) (by first | rfl | assumption | omega) (by first | rfl | assumption | omega)
          clear pv24
          refine lv_iload_n hx hb dX11_toldNumber_62 rfl (lv_at hl 0 rfl) ?_
          exact ret (v7 7) (v19, f20, w21, g22) _ _ _ _ _ _ rfl ⟨(gsY_X11_toldNumber_1_q1 c1 c2 c3 hG6 c17 hG18), hM_v19, hA_f20, hIv19, hCf20, hRf20, (hk0_v19.trans hk0_v7), (hk4_v19.trans hk4_v7), (hk8_v19.trans hk8_v7), (hk9_v19.trans hk9_v7), (hk10_v19.trans hk10_v7), (hk13_v19.trans hk13_v7), (hk14_v19.trans hk14_v7), (hk15_v19.trans hk15_v7), (hk17_v19.trans hk17_v7), (hk18_v19.trans hk18_v7), (hk24_v19.trans hk24_v7), (hk25_v19.trans hk25_v7), (hk35_v19.trans hk35_v7), (hk36_v19.trans hk36_v7), (hk38_v19.trans hk38_v7), (hk39_v19.trans hk39_v7), (by show (v 3).toInt ≤ (v19 3).toInt; exact (GR.cast hGR (by first | rfl | assumption | omega) (by first | rfl | assumption | omega)).1), (by show (v19 5).toInt = (v 5).toInt ∨ (v 3).toInt < (v19 3).toInt ∨ ¬ (v19 5).toInt = 59; exact (GR.cast hGR (by first | rfl | assumption | omega) (by first | rfl | assumption | omega)).2), hs2_f20, hs3_f20, hs6_f20⟩ hP hD hS dX11_toldNumber_63 (Nat.le_refl _) (Nat.le_refl _)
      · skip
        have zc3 : ¬ ((v 7).toInt < p1.toInt) := by rw [fa_lt] at c3; exact c3
        have rg28 := fb_rng (v 7)
        have rg29 := fb_rng p1
        refine lv_aload_n hx hb dX11_toldNumber_33 rfl (lv_at hl 0 rfl) ?_
        refine va_get (D := (dC, dI)) (ci := 11) (v := .int (v 7)) (C := RX11) (T := TX11) (N := 79) hx hb hts inB_11 hown hE.1 hP 0 rfl rfl 8 (by decide) (hts _ k_1328) (fun _ h9 => h9) rfl dX11_toldNumber_34 ?_
        refine lv_iload_n hx hb dX11_toldNumber_37 rfl (lv_at hl 2 rfl) ?_
        refine lv_icmp_le (tgt := 46) hx hb dX11_toldNumber_38 (by decide) (fun c30 => ?_) (fun c30 => ?_)
        · skip
          have zc30 : (v 7).toInt ≤ p2.toInt := by rw [fa_le] at c30; exact c30
          have rg31 := fb_rng p2
          refine lv_aload_n hx hb dX11_toldNumber_46 rfl (lv_at hl 0 rfl) ?_
          refine va_get (D := (dC, dI)) (ci := 11) (v := .int (v 7)) (C := RX11) (T := TX11) (N := 79) hx hb hts inB_11 hown hE.1 hP 0 rfl rfl 8 (by decide) (hts _ k_1328) (fun _ h9 => h9) rfl dX11_toldNumber_47 ?_
          refine lv_istore_n (lv' := [(3, .int (v 7)), (0, .ref y0), (1, .int p1), (2, .int p2)]) hx hb dX11_toldNumber_50 rfl hl (by decide) rfl (fun ls hl => ?_)
          refine lv_aload_n hx hb dX11_toldNumber_51 rfl (lv_at hl 1 rfl) ?_
          refine va_get (D := (dC, dI)) (ci := 11) (v := .int (v 1)) (C := RX11) (T := TX11) (N := 79) hx hb hts inB_11 hown hE.1 hP 0 rfl rfl 2 (by decide) (hts _ k_1322) (fun _ h9 => h9) rfl dX11_toldNumber_52 ?_
          refine lv_if_ne (tgt := 62) hx hb dX11_toldNumber_55 (by decide) (fun c32 => ?_) (fun c32 => ?_)
          · skip
            have zc32 : ¬ ((v 1).toInt = 0) := by rw [fa_eq, show (0 : Int32).toInt = 0 from by decide] at c32; exact c32
            refine lv_iload_n hx hb dX11_toldNumber_62 rfl (lv_at hl 0 rfl) ?_
            exact ret (v 7) (v, f, w, g) _ _ _ _ _ _ rfl ⟨(gsY_X11_toldNumber_1_q2 c1 c2 c3 c30 c32), hM_v, hA_f, hIv, hCf, hRf, rfl, rfl, rfl, rfl, rfl, rfl, rfl, rfl, rfl, rfl, rfl, rfl, rfl, rfl, rfl, rfl, (by show (v 3).toInt ≤ (v 3).toInt; exact (GR.cast hGR (by first | rfl | assumption | omega) (by first | rfl | assumption | omega)).1), (by show (v 5).toInt = (v 5).toInt ∨ (v 3).toInt < (v 3).toInt ∨ ¬ (v 5).toInt = 59; exact (GR.cast hGR (by first | rfl | assumption | omega) (by first | rfl | assumption | omega)).2), rfl, rfl, rfl⟩ hP hD hS dX11_toldNumber_63 (Nat.le_refl _) (Nat.le_refl _)
          · skip
            have zc32 : (v 1).toInt = 0 := by rw [fa_eq, show (0 : Int32).toInt = 0 from by decide] at c32; exact c32
            refine lv_aload_n hx hb dX11_toldNumber_58 rfl (lv_at hl 1 rfl) ?_
            refine cbVv (n := 0) (rest := []) hx hb hml hown hts hE hP hD hS hA (sY_X11_token_1 NF l dC dI cy y0 r  v f w g hIv hCf hRf ) k_1579 k_1581 k_42 k_114 k_1582 (by decide +kernel) ⟨Nat.le_of_ble_eq_true rfl, Nat.le_of_ble_eq_true rfl⟩ 0 11 rfl rfl (rfl) hl.1 rfl (Nat.le_of_ble_eq_true rfl) dX11_toldNumber_59 (fun u H locs hw hP hD hS => ?_)
            obtain ⟨hG33, hw⟩ := hw
            obtain ⟨v34, f35, w36, g37⟩ := u
            obtain ⟨kV_v34, kF_f35, hIv34, hCf35, hRf35, hk0_v34, hk1_v34, hk2_v34, hk4_v34, hk8_v34, hk9_v34, hk10_v34, hk13_v34, hk14_v34, hk15_v34, hk17_v34, hk18_v34, hk24_v34, hk25_v34, hk35_v34, hk36_v34, hk38_v34, hk39_v34, pv38, pv39, kq40, kq41, kq42⟩ := hw
            have hM_v34 : KV [1, 2, 3, 5, 6, 7] v34 v := KV.tr kV_v34 hM_v rfl
            have hA_f35 : KF [] f35 f := KF.tr kF_f35 hA_f rfl
            have hP : va_P (dC, dI) vwCl (YW cy y0 r v34 f35 w36 g37) H := hP
            have hD : va_D A (YW cy y0 r v34 f35 w36 g37) := hD
            have b3_v34 : 0 ≤ (v34 3).toInt ∧ (v34 3).toInt ≤ 1600 := YIb.b hIv34.1 3 (by decide)
            have pv38 : (v 3).toInt ≤ (v34 3).toInt := pv38
            have pv39 : (v34 5).toInt = (v 5).toInt ∨ (v 3).toInt < (v34 3).toInt ∨ ¬ (v34 5).toInt = 59 := pv39
            have hs2_f35 : f35 2 = (f 2) := kq40
            have hs3_f35 : f35 3 = (f 3) := kq41
            have hs6_f35 : f35 6 = (f 6) := kq42
            have hUv34 : (v34 35).toInt + (v34 36).toInt ≤ 40 := hIv34.2
            have hq0_v34 : v34 0 = (v 0) := hk0_v34
            have zq0_v34 := congrArg Int32.toInt hq0_v34
            have hq1_v34 : v34 1 = (v 1) := hk1_v34
            have zq1_v34 := congrArg Int32.toInt hq1_v34
            have hq8_v34 : v34 8 = (v 8) := hk8_v34
            have zq8_v34 := congrArg Int32.toInt hq8_v34
            have hq9_v34 : v34 9 = (v 9) := hk9_v34
            have zq9_v34 := congrArg Int32.toInt hq9_v34
            have hq10_v34 : v34 10 = (v 10) := hk10_v34
            have zq10_v34 := congrArg Int32.toInt hq10_v34
            have hq13_v34 : v34 13 = (v 13) := hk13_v34
            have zq13_v34 := congrArg Int32.toInt hq13_v34
            have hq14_v34 : v34 14 = (v 14) := hk14_v34
            have zq14_v34 := congrArg Int32.toInt hq14_v34
            have hq15_v34 : v34 15 = (v 15) := hk15_v34
            have zq15_v34 := congrArg Int32.toInt hq15_v34
            have hq17_v34 : v34 17 = (v 17) := hk17_v34
            have zq17_v34 := congrArg Int32.toInt hq17_v34
            have hq18_v34 : v34 18 = (v 18) := hk18_v34
            have zq18_v34 := congrArg Int32.toInt hq18_v34
            have hGR : GR (v 3).toInt (v 5).toInt (v34 3).toInt (v34 5).toInt := GR.tr hGR (show GR (v 3).toInt (v 5).toInt (v34 3).toInt (v34 5).toInt from ⟨pv38, pv39⟩) (by first | rfl | assumption | omega) (by first | rfl | assumption | omega)
            clear pv39
            refine lv_iload_n hx hb dX11_toldNumber_62 rfl (lv_at hl 0 rfl) ?_
            exact ret (v 7) (v34, f35, w36, g37) _ _ _ _ _ _ rfl ⟨(gsY_X11_toldNumber_1_q3 c1 c2 c3 c30 c32 hG33), hM_v34, hA_f35, hIv34, hCf35, hRf35, hk0_v34, hk4_v34, hk8_v34, hk9_v34, hk10_v34, hk13_v34, hk14_v34, hk15_v34, hk17_v34, hk18_v34, hk24_v34, hk25_v34, hk35_v34, hk36_v34, hk38_v34, hk39_v34, (by show (v 3).toInt ≤ (v34 3).toInt; exact (GR.cast hGR (by first | rfl | assumption | omega) (by first | rfl | assumption | omega)).1), (by show (v34 5).toInt = (v 5).toInt ∨ (v 3).toInt < (v34 3).toInt ∨ ¬ (v34 5).toInt = 59; exact (GR.cast hGR (by first | rfl | assumption | omega) (by first | rfl | assumption | omega)).2), hs2_f35, hs3_f35, hs6_f35⟩ hP hD hS dX11_toldNumber_63 (Nat.le_refl _) (Nat.le_refl _)
        · skip
          have zc30 : ¬ ((v 7).toInt ≤ p2.toInt) := by rw [fa_le] at c30; exact c30
          have rg43 := fb_rng p2
          refine lv_aload_n hx hb dX11_toldNumber_41 rfl (lv_at hl 0 rfl) ?_
          refine lv_iconst (v := 4) hx hb dX11_toldNumber_42 (by decide) ?_
          refine cbVv (n := 1) (rest := []) hx hb hml hown hts hE hP hD hS hA (sY_X11_wrong_1 NF l dC dI cy y0 r 4 v f w g hIv hCf hRf ⟨by decide, by decide⟩) k_1641 k_1643 k_50 k_114 k_1644 (by decide +kernel) ⟨Nat.le_of_ble_eq_true rfl, Nat.le_of_ble_eq_true rfl⟩ 0 11 rfl rfl (rfl) hl.1 rfl (Nat.le_of_ble_eq_true rfl) dX11_toldNumber_43 (fun u H locs hw hP hD hS => ?_)
          obtain ⟨hG44, hw⟩ := hw
          obtain ⟨v45, f46, w47, g48⟩ := u
          obtain ⟨kV_v45, kF_f46, hIv45, hCf46, hRf46, hk0_v45, hk3_v45, hk4_v45, hk5_v45, hk8_v45, hk9_v45, hk10_v45, hk13_v45, hk14_v45, hk15_v45, hk17_v45, hk18_v45, hk24_v45, hk25_v45, hk35_v45, hk36_v45, hk38_v45, hk39_v45, pv49, pv50, pv51, kq52, kq53, kq54⟩ := hw
          have hM_v45 : KV [1, 2, 3, 5, 6, 7] v45 v := KV.tr kV_v45 hM_v rfl
          have hA_f46 : KF [] f46 f := KF.tr kF_f46 hA_f rfl
          have hP : va_P (dC, dI) vwCl (YW cy y0 r v45 f46 w47 g48) H := hP
          have hD : va_D A (YW cy y0 r v45 f46 w47 g48) := hD
          have b3_v45 : 0 ≤ (v45 3).toInt ∧ (v45 3).toInt ≤ 1600 := YIb.b hIv45.1 3 (by decide)
          have b1_v45 : 0 ≤ (v45 1).toInt ∧ (v45 1).toInt ≤ 4 := YIb.b hIv45.1 1 (by decide)
          have pv49 : (v 3).toInt ≤ (v45 3).toInt := pv49
          have pv50 : (v45 5).toInt = (v 5).toInt ∨ (v 3).toInt < (v45 3).toInt ∨ ¬ (v45 5).toInt = 59 := pv50
          have pv51 : 0 < (v45 1).toInt := pv51
          have hs2_f46 : f46 2 = (f 2) := kq52
          have hs3_f46 : f46 3 = (f 3) := kq53
          have hs6_f46 : f46 6 = (f 6) := kq54
          have hUv45 : (v45 35).toInt + (v45 36).toInt ≤ 40 := hIv45.2
          have hq0_v45 : v45 0 = (v 0) := hk0_v45
          have zq0_v45 := congrArg Int32.toInt hq0_v45
          have hq3_v45 : v45 3 = (v 3) := hk3_v45
          have zq3_v45 := congrArg Int32.toInt hq3_v45
          have hq5_v45 : v45 5 = (v 5) := hk5_v45
          have zq5_v45 := congrArg Int32.toInt hq5_v45
          have hq8_v45 : v45 8 = (v 8) := hk8_v45
          have zq8_v45 := congrArg Int32.toInt hq8_v45
          have hq9_v45 : v45 9 = (v 9) := hk9_v45
          have zq9_v45 := congrArg Int32.toInt hq9_v45
          have hq10_v45 : v45 10 = (v 10) := hk10_v45
          have zq10_v45 := congrArg Int32.toInt hq10_v45
          have hq13_v45 : v45 13 = (v 13) := hk13_v45
          have zq13_v45 := congrArg Int32.toInt hq13_v45
          have hq14_v45 : v45 14 = (v 14) := hk14_v45
          have zq14_v45 := congrArg Int32.toInt hq14_v45
          have hq15_v45 : v45 15 = (v 15) := hk15_v45
          have zq15_v45 := congrArg Int32.toInt hq15_v45
          have hq17_v45 : v45 17 = (v 17) := hk17_v45
          have zq17_v45 := congrArg Int32.toInt hq17_v45
          have hq18_v45 : v45 18 = (v 18) := hk18_v45
          have zq18_v45 := congrArg Int32.toInt hq18_v45
          have hGR : GR (v 3).toInt (v 5).toInt (v45 3).toInt (v45 5).toInt := GR.tr hGR (show GR (v 3).toInt (v 5).toInt (v45 3).toInt (v45 5).toInt from ⟨pv49, pv50⟩) (by first | rfl | assumption | omega) (by first | rfl | assumption | omega)
          clear pv50
          refine lv_aload_n hx hb dX11_toldNumber_46 rfl (lv_at hl 0 rfl) ?_
          refine va_get (D := (dC, dI)) (ci := 11) (v := .int (v45 7)) (C := RX11) (T := TX11) (N := 79) hx hb hts inB_11 hown hE.1 hP 0 rfl rfl 8 (by decide) (hts _ k_1328) (fun _ h9 => h9) rfl dX11_toldNumber_47 ?_
          refine lv_istore_n (lv' := [(3, .int (v45 7)), (0, .ref y0), (1, .int p1), (2, .int p2)]) hx hb dX11_toldNumber_50 rfl hl (by decide) rfl (fun ls hl => ?_)
          refine lv_aload_n hx hb dX11_toldNumber_51 rfl (lv_at hl 1 rfl) ?_
          refine va_get (D := (dC, dI)) (ci := 11) (v := .int (v45 1)) (C := RX11) (T := TX11) (N := 79) hx hb hts inB_11 hown hE.1 hP 0 rfl rfl 2 (by decide) (hts _ k_1322) (fun _ h9 => h9) rfl dX11_toldNumber_52 ?_
          have b1_v45 : 0 ≤ (v45 1).toInt ∧ (v45 1).toInt ≤ 4 := YIb.b hIv45.1 1 (by decide)
          refine lv_if_ne (tgt := 62) hx hb dX11_toldNumber_55 (by decide) (fun c55 => ?_) (fun c55 => ?_)
          · skip
            have zc55 : ¬ ((v45 1).toInt = 0) := by rw [fa_eq, show (0 : Int32).toInt = 0 from by decide] at c55; exact c55
            refine lv_iload_n hx hb dX11_toldNumber_62 rfl (lv_at hl 0 rfl) ?_
            exact ret (v45 7) (v45, f46, w47, g48) _ _ _ _ _ _ rfl ⟨(gsY_X11_toldNumber_1_q4 c1 c2 c3 c30 hG44 c55), hM_v45, hA_f46, hIv45, hCf46, hRf46, hk0_v45, hk4_v45, hk8_v45, hk9_v45, hk10_v45, hk13_v45, hk14_v45, hk15_v45, hk17_v45, hk18_v45, hk24_v45, hk25_v45, hk35_v45, hk36_v45, hk38_v45, hk39_v45, (by show (v 3).toInt ≤ (v45 3).toInt; exact (GR.cast hGR (by first | rfl | assumption | omega) (by first | rfl | assumption | omega)).1), (by show (v45 5).toInt = (v 5).toInt ∨ (v 3).toInt < (v45 3).toInt ∨ ¬ (v45 5).toInt = 59; exact (GR.cast hGR (by first | rfl | assumption | omega) (by first | rfl | assumption | omega)).2), hs2_f46, hs3_f46, hs6_f46⟩ hP hD hS dX11_toldNumber_63 (Nat.le_refl _) (Nat.le_refl _)
          · skip
            have zc55 : (v45 1).toInt = 0 := by rw [fa_eq, show (0 : Int32).toInt = 0 from by decide] at c55; exact c55
            refine lv_aload_n hx hb dX11_toldNumber_58 rfl (lv_at hl 1 rfl) ?_
            refine cbVv (n := 0) (rest := []) hx hb hml hown hts hE hP hD hS hA (sY_X11_token_1 NF l dC dI cy y0 r  v45 f46 w47 g48 hIv45 hCf46 hRf46 ) k_1579 k_1581 k_42 k_114 k_1582 (by decide +kernel) ⟨Nat.le_of_ble_eq_true rfl, Nat.le_of_ble_eq_true rfl⟩ 0 11 rfl rfl (rfl) hl.1 rfl (Nat.le_of_ble_eq_true rfl) dX11_toldNumber_59 (fun u H locs hw hP hD hS => ?_)
            obtain ⟨hG56, hw⟩ := hw
            obtain ⟨v57, f58, w59, g60⟩ := u
            obtain ⟨kV_v57, kF_f58, hIv57, hCf58, hRf58, hk0_v57, hk1_v57, hk2_v57, hk4_v57, hk8_v57, hk9_v57, hk10_v57, hk13_v57, hk14_v57, hk15_v57, hk17_v57, hk18_v57, hk24_v57, hk25_v57, hk35_v57, hk36_v57, hk38_v57, hk39_v57, pv61, pv62, kq63, kq64, kq65⟩ := hw
            have hM_v57 : KV [1, 2, 3, 5, 6, 7] v57 v := KV.tr kV_v57 hM_v45 rfl
            have hA_f58 : KF [] f58 f := KF.tr kF_f58 hA_f46 rfl
            have hP : va_P (dC, dI) vwCl (YW cy y0 r v57 f58 w59 g60) H := hP
            have hD : va_D A (YW cy y0 r v57 f58 w59 g60) := hD
            have b3_v57 : 0 ≤ (v57 3).toInt ∧ (v57 3).toInt ≤ 1600 := YIb.b hIv57.1 3 (by decide)
            have pv61 : (v45 3).toInt ≤ (v57 3).toInt := pv61
            have pv62 : (v57 5).toInt = (v45 5).toInt ∨ (v45 3).toInt < (v57 3).toInt ∨ ¬ (v57 5).toInt = 59 := pv62
            have hs2_f58 : f58 2 = (f 2) := kq63.trans hs2_f46
            have hs3_f58 : f58 3 = (f 3) := kq64.trans hs3_f46
            have hs6_f58 : f58 6 = (f 6) := kq65.trans hs6_f46
            have hUv57 : (v57 35).toInt + (v57 36).toInt ≤ 40 := hIv57.2
            have hq0_v57 : v57 0 = (v 0) := hk0_v57.trans hq0_v45
            have zq0_v57 := congrArg Int32.toInt hq0_v57
            try clear zq0_v45
            have hq1_v57 : v57 1 = (v45 1) := hk1_v57
            have zq1_v57 := congrArg Int32.toInt hq1_v57
            have hq8_v57 : v57 8 = (v 8) := hk8_v57.trans hq8_v45
            have zq8_v57 := congrArg Int32.toInt hq8_v57
            try clear zq8_v45
            have hq9_v57 : v57 9 = (v 9) := hk9_v57.trans hq9_v45
            have zq9_v57 := congrArg Int32.toInt hq9_v57
            try clear zq9_v45
            have hq10_v57 : v57 10 = (v 10) := hk10_v57.trans hq10_v45
            have zq10_v57 := congrArg Int32.toInt hq10_v57
            try clear zq10_v45
            have hq13_v57 : v57 13 = (v 13) := hk13_v57.trans hq13_v45
            have zq13_v57 := congrArg Int32.toInt hq13_v57
            try clear zq13_v45
            have hq14_v57 : v57 14 = (v 14) := hk14_v57.trans hq14_v45
            have zq14_v57 := congrArg Int32.toInt hq14_v57
            try clear zq14_v45
            have hq15_v57 : v57 15 = (v 15) := hk15_v57.trans hq15_v45
            have zq15_v57 := congrArg Int32.toInt hq15_v57
            try clear zq15_v45
            have hq17_v57 : v57 17 = (v 17) := hk17_v57.trans hq17_v45
            have zq17_v57 := congrArg Int32.toInt hq17_v57
            try clear zq17_v45
            have hq18_v57 : v57 18 = (v 18) := hk18_v57.trans hq18_v45
            have zq18_v57 := congrArg Int32.toInt hq18_v57
            try clear zq18_v45
            have hGR : GR (v 3).toInt (v 5).toInt (v57 3).toInt (v57 5).toInt := GR.tr hGR (show GR (v45 3).toInt (v45 5).toInt (v57 3).toInt (v57 5).toInt from ⟨pv61, pv62⟩) (by first | rfl | assumption | omega) (by first | rfl | assumption | omega)
            clear pv62
            refine lv_iload_n hx hb dX11_toldNumber_62 rfl (lv_at hl 0 rfl) ?_
            exact ret (v45 7) (v57, f58, w59, g60) _ _ _ _ _ _ rfl ⟨(gsY_X11_toldNumber_1_q5 c1 c2 c3 c30 hG44 c55 hG56), hM_v57, hA_f58, hIv57, hCf58, hRf58, (hk0_v57.trans hk0_v45), (hk4_v57.trans hk4_v45), (hk8_v57.trans hk8_v45), (hk9_v57.trans hk9_v45), (hk10_v57.trans hk10_v45), (hk13_v57.trans hk13_v45), (hk14_v57.trans hk14_v45), (hk15_v57.trans hk15_v45), (hk17_v57.trans hk17_v45), (hk18_v57.trans hk18_v45), (hk24_v57.trans hk24_v45), (hk25_v57.trans hk25_v45), (hk35_v57.trans hk35_v45), (hk36_v57.trans hk36_v45), (hk38_v57.trans hk38_v45), (hk39_v57.trans hk39_v45), (by show (v 3).toInt ≤ (v57 3).toInt; exact (GR.cast hGR (by first | rfl | assumption | omega) (by first | rfl | assumption | omega)).1), (by show (v57 5).toInt = (v 5).toInt ∨ (v 3).toInt < (v57 3).toInt ∨ ¬ (v57 5).toInt = 59; exact (GR.cast hGR (by first | rfl | assumption | omega) (by first | rfl | assumption | omega)).2), hs2_f58, hs3_f58, hs6_f58⟩ hP hD hS dX11_toldNumber_63 (Nat.le_refl _) (Nat.le_refl _)
    · skip
      have zc2 : ¬ ((v 5).toInt = 2) := by rw [fa_eq, show (2 : Int32).toInt = 2 from by decide] at c2; exact c2
      refine lv_aload_n hx hb dX11_toldNumber_17 rfl (lv_at hl 0 rfl) ?_
      refine lv_iconst (v := 2) hx hb dX11_toldNumber_18 (by decide) ?_
      refine cbVv (n := 1) (rest := []) hx hb hml hown hts hE hP hD hS hA (sY_X11_wrong_1 NF l dC dI cy y0 r 2 v f w g hIv hCf hRf ⟨by decide, by decide⟩) k_1641 k_1643 k_50 k_114 k_1644 (by decide +kernel) ⟨Nat.le_of_ble_eq_true rfl, Nat.le_of_ble_eq_true rfl⟩ 0 11 rfl rfl (rfl) hl.1 rfl (Nat.le_of_ble_eq_true rfl) dX11_toldNumber_19 (fun u H locs hw hP hD hS => ?_)
      obtain ⟨hG66, hw⟩ := hw
      obtain ⟨v67, f68, w69, g70⟩ := u
      obtain ⟨kV_v67, kF_f68, hIv67, hCf68, hRf68, hk0_v67, hk3_v67, hk4_v67, hk5_v67, hk8_v67, hk9_v67, hk10_v67, hk13_v67, hk14_v67, hk15_v67, hk17_v67, hk18_v67, hk24_v67, hk25_v67, hk35_v67, hk36_v67, hk38_v67, hk39_v67, pv71, pv72, pv73, kq74, kq75, kq76⟩ := hw
      have hM_v67 : KV [1, 2, 3, 5, 6, 7] v67 v := KV.tr kV_v67 hM_v rfl
      have hA_f68 : KF [] f68 f := KF.tr kF_f68 hA_f rfl
      have hP : va_P (dC, dI) vwCl (YW cy y0 r v67 f68 w69 g70) H := hP
      have hD : va_D A (YW cy y0 r v67 f68 w69 g70) := hD
      have b3_v67 : 0 ≤ (v67 3).toInt ∧ (v67 3).toInt ≤ 1600 := YIb.b hIv67.1 3 (by decide)
      have b1_v67 : 0 ≤ (v67 1).toInt ∧ (v67 1).toInt ≤ 4 := YIb.b hIv67.1 1 (by decide)
      have pv71 : (v 3).toInt ≤ (v67 3).toInt := pv71
      have pv72 : (v67 5).toInt = (v 5).toInt ∨ (v 3).toInt < (v67 3).toInt ∨ ¬ (v67 5).toInt = 59 := pv72
      have pv73 : 0 < (v67 1).toInt := pv73
      have hs2_f68 : f68 2 = (f 2) := kq74
      have hs3_f68 : f68 3 = (f 3) := kq75
      have hs6_f68 : f68 6 = (f 6) := kq76
      have hUv67 : (v67 35).toInt + (v67 36).toInt ≤ 40 := hIv67.2
      have hq0_v67 : v67 0 = (v 0) := hk0_v67
      have zq0_v67 := congrArg Int32.toInt hq0_v67
      have hq3_v67 : v67 3 = (v 3) := hk3_v67
      have zq3_v67 := congrArg Int32.toInt hq3_v67
      have hq5_v67 : v67 5 = (v 5) := hk5_v67
      have zq5_v67 := congrArg Int32.toInt hq5_v67
      have hq8_v67 : v67 8 = (v 8) := hk8_v67
      have zq8_v67 := congrArg Int32.toInt hq8_v67
      have hq9_v67 : v67 9 = (v 9) := hk9_v67
      have zq9_v67 := congrArg Int32.toInt hq9_v67
      have hq10_v67 : v67 10 = (v 10) := hk10_v67
      have zq10_v67 := congrArg Int32.toInt hq10_v67
      have hq13_v67 : v67 13 = (v 13) := hk13_v67
      have zq13_v67 := congrArg Int32.toInt hq13_v67
      have hq14_v67 : v67 14 = (v 14) := hk14_v67
      have zq14_v67 := congrArg Int32.toInt hq14_v67
      have hq15_v67 : v67 15 = (v 15) := hk15_v67
      have zq15_v67 := congrArg Int32.toInt hq15_v67
      have hq17_v67 : v67 17 = (v 17) := hk17_v67
      have zq17_v67 := congrArg Int32.toInt hq17_v67
      have hq18_v67 : v67 18 = (v 18) := hk18_v67
      have zq18_v67 := congrArg Int32.toInt hq18_v67
      have hGR : GR (v 3).toInt (v 5).toInt (v67 3).toInt (v67 5).toInt := GR.tr hGR (show GR (v 3).toInt (v 5).toInt (v67 3).toInt (v67 5).toInt from ⟨pv71, pv72⟩) (by first | rfl | assumption | omega) (by first | rfl | assumption | omega)
      clear pv72
      refine lv_goto (tgt := 46) hx hb dX11_toldNumber_22 (by decide) ?_
      refine lv_aload_n hx hb dX11_toldNumber_46 rfl (lv_at hl 0 rfl) ?_
      refine va_get (D := (dC, dI)) (ci := 11) (v := .int (v67 7)) (C := RX11) (T := TX11) (N := 79) hx hb hts inB_11 hown hE.1 hP 0 rfl rfl 8 (by decide) (hts _ k_1328) (fun _ h9 => h9) rfl dX11_toldNumber_47 ?_
      refine lv_istore_n (lv' := [(3, .int (v67 7)), (0, .ref y0), (1, .int p1), (2, .int p2)]) hx hb dX11_toldNumber_50 rfl hl (by decide) rfl (fun ls hl => ?_)
      refine lv_aload_n hx hb dX11_toldNumber_51 rfl (lv_at hl 1 rfl) ?_
      refine va_get (D := (dC, dI)) (ci := 11) (v := .int (v67 1)) (C := RX11) (T := TX11) (N := 79) hx hb hts inB_11 hown hE.1 hP 0 rfl rfl 2 (by decide) (hts _ k_1322) (fun _ h9 => h9) rfl dX11_toldNumber_52 ?_
      have b1_v67 : 0 ≤ (v67 1).toInt ∧ (v67 1).toInt ≤ 4 := YIb.b hIv67.1 1 (by decide)
      refine lv_if_ne (tgt := 62) hx hb dX11_toldNumber_55 (by decide) (fun c77 => ?_) (fun c77 => ?_)
      · skip
        have zc77 : ¬ ((v67 1).toInt = 0) := by rw [fa_eq, show (0 : Int32).toInt = 0 from by decide] at c77; exact c77
        refine lv_iload_n hx hb dX11_toldNumber_62 rfl (lv_at hl 0 rfl) ?_
        exact ret (v67 7) (v67, f68, w69, g70) _ _ _ _ _ _ rfl ⟨(gsY_X11_toldNumber_1_q6 c1 c2 hG66 c77), hM_v67, hA_f68, hIv67, hCf68, hRf68, hk0_v67, hk4_v67, hk8_v67, hk9_v67, hk10_v67, hk13_v67, hk14_v67, hk15_v67, hk17_v67, hk18_v67, hk24_v67, hk25_v67, hk35_v67, hk36_v67, hk38_v67, hk39_v67, (by show (v 3).toInt ≤ (v67 3).toInt; exact (GR.cast hGR (by first | rfl | assumption | omega) (by first | rfl | assumption | omega)).1), (by show (v67 5).toInt = (v 5).toInt ∨ (v 3).toInt < (v67 3).toInt ∨ ¬ (v67 5).toInt = 59; exact (GR.cast hGR (by first | rfl | assumption | omega) (by first | rfl | assumption | omega)).2), hs2_f68, hs3_f68, hs6_f68⟩ hP hD hS dX11_toldNumber_63 (Nat.le_refl _) (Nat.le_refl _)
      · skip
        have zc77 : (v67 1).toInt = 0 := by rw [fa_eq, show (0 : Int32).toInt = 0 from by decide] at c77; exact c77
        refine lv_aload_n hx hb dX11_toldNumber_58 rfl (lv_at hl 1 rfl) ?_
        refine cbVv (n := 0) (rest := []) hx hb hml hown hts hE hP hD hS hA (sY_X11_token_1 NF l dC dI cy y0 r  v67 f68 w69 g70 hIv67 hCf68 hRf68 ) k_1579 k_1581 k_42 k_114 k_1582 (by decide +kernel) ⟨Nat.le_of_ble_eq_true rfl, Nat.le_of_ble_eq_true rfl⟩ 0 11 rfl rfl (rfl) hl.1 rfl (Nat.le_of_ble_eq_true rfl) dX11_toldNumber_59 (fun u H locs hw hP hD hS => ?_)
        obtain ⟨hG78, hw⟩ := hw
        obtain ⟨v79, f80, w81, g82⟩ := u
        obtain ⟨kV_v79, kF_f80, hIv79, hCf80, hRf80, hk0_v79, hk1_v79, hk2_v79, hk4_v79, hk8_v79, hk9_v79, hk10_v79, hk13_v79, hk14_v79, hk15_v79, hk17_v79, hk18_v79, hk24_v79, hk25_v79, hk35_v79, hk36_v79, hk38_v79, hk39_v79, pv83, pv84, kq85, kq86, kq87⟩ := hw
        have hM_v79 : KV [1, 2, 3, 5, 6, 7] v79 v := KV.tr kV_v79 hM_v67 rfl
        have hA_f80 : KF [] f80 f := KF.tr kF_f80 hA_f68 rfl
        have hP : va_P (dC, dI) vwCl (YW cy y0 r v79 f80 w81 g82) H := hP
        have hD : va_D A (YW cy y0 r v79 f80 w81 g82) := hD
        have b3_v79 : 0 ≤ (v79 3).toInt ∧ (v79 3).toInt ≤ 1600 := YIb.b hIv79.1 3 (by decide)
        have pv83 : (v67 3).toInt ≤ (v79 3).toInt := pv83
        have pv84 : (v79 5).toInt = (v67 5).toInt ∨ (v67 3).toInt < (v79 3).toInt ∨ ¬ (v79 5).toInt = 59 := pv84
        have hs2_f80 : f80 2 = (f 2) := kq85.trans hs2_f68
        have hs3_f80 : f80 3 = (f 3) := kq86.trans hs3_f68
        have hs6_f80 : f80 6 = (f 6) := kq87.trans hs6_f68
        have hUv79 : (v79 35).toInt + (v79 36).toInt ≤ 40 := hIv79.2
        have hq0_v79 : v79 0 = (v 0) := hk0_v79.trans hq0_v67
        have zq0_v79 := congrArg Int32.toInt hq0_v79
        try clear zq0_v67
        have hq1_v79 : v79 1 = (v67 1) := hk1_v79
        have zq1_v79 := congrArg Int32.toInt hq1_v79
        have hq8_v79 : v79 8 = (v 8) := hk8_v79.trans hq8_v67
        have zq8_v79 := congrArg Int32.toInt hq8_v79
        try clear zq8_v67
        have hq9_v79 : v79 9 = (v 9) := hk9_v79.trans hq9_v67
        have zq9_v79 := congrArg Int32.toInt hq9_v79
        try clear zq9_v67
        have hq10_v79 : v79 10 = (v 10) := hk10_v79.trans hq10_v67
        have zq10_v79 := congrArg Int32.toInt hq10_v79
        try clear zq10_v67
        have hq13_v79 : v79 13 = (v 13) := hk13_v79.trans hq13_v67
        have zq13_v79 := congrArg Int32.toInt hq13_v79
        try clear zq13_v67
        have hq14_v79 : v79 14 = (v 14) := hk14_v79.trans hq14_v67
        have zq14_v79 := congrArg Int32.toInt hq14_v79
        try clear zq14_v67
        have hq15_v79 : v79 15 = (v 15) := hk15_v79.trans hq15_v67
        have zq15_v79 := congrArg Int32.toInt hq15_v79
        try clear zq15_v67
        have hq17_v79 : v79 17 = (v 17) := hk17_v79.trans hq17_v67
        have zq17_v79 := congrArg Int32.toInt hq17_v79
        try clear zq17_v67
        have hq18_v79 : v79 18 = (v 18) := hk18_v79.trans hq18_v67
        have zq18_v79 := congrArg Int32.toInt hq18_v79
        try clear zq18_v67
        have hGR : GR (v 3).toInt (v 5).toInt (v79 3).toInt (v79 5).toInt := GR.tr hGR (show GR (v67 3).toInt (v67 5).toInt (v79 3).toInt (v79 5).toInt from ⟨pv83, pv84⟩) (by first | rfl | assumption | omega) (by first | rfl | assumption | omega)
        clear pv84
        refine lv_iload_n hx hb dX11_toldNumber_62 rfl (lv_at hl 0 rfl) ?_
        exact ret (v67 7) (v79, f80, w81, g82) _ _ _ _ _ _ rfl ⟨(gsY_X11_toldNumber_1_q7 c1 c2 hG66 c77 hG78), hM_v79, hA_f80, hIv79, hCf80, hRf80, (hk0_v79.trans hk0_v67), (hk4_v79.trans hk4_v67), (hk8_v79.trans hk8_v67), (hk9_v79.trans hk9_v67), (hk10_v79.trans hk10_v67), (hk13_v79.trans hk13_v67), (hk14_v79.trans hk14_v67), (hk15_v79.trans hk15_v67), (hk17_v79.trans hk17_v67), (hk18_v79.trans hk18_v67), (hk24_v79.trans hk24_v67), (hk25_v79.trans hk25_v67), (hk35_v79.trans hk35_v67), (hk36_v79.trans hk36_v67), (hk38_v79.trans hk38_v67), (hk39_v79.trans hk39_v67), (by show (v 3).toInt ≤ (v79 3).toInt; exact (GR.cast hGR (by first | rfl | assumption | omega) (by first | rfl | assumption | omega)).1), (by show (v79 5).toInt = (v 5).toInt ∨ (v 3).toInt < (v79 3).toInt ∨ ¬ (v79 5).toInt = 59; exact (GR.cast hGR (by first | rfl | assumption | omega) (by first | rfl | assumption | omega)).2), hs2_f80, hs3_f80, hs6_f80⟩ hP hD hS dX11_toldNumber_63 (Nat.le_refl _) (Nat.le_refl _)
  · skip
    have zc1 : ¬ ((v 1).toInt ≤ 0) := by rw [fa_le, show (0 : Int32).toInt = 0 from by decide] at c1; exact c1
    refine lv_iconst (v := 0) hx hb dX11_toldNumber_7 (by decide) ?_
    exact ret 0 (v, f, w, g) _ _ _ _ _ _ rfl ⟨(gsY_X11_toldNumber_1_q8 c1), hM_v, hA_f, hIv, hCf, hRf, rfl, rfl, rfl, rfl, rfl, rfl, rfl, rfl, rfl, rfl, rfl, rfl, rfl, rfl, rfl, rfl, (by show (v 3).toInt ≤ (v 3).toInt; exact (GR.cast hGR (by first | rfl | assumption | omega) (by first | rfl | assumption | omega)).1), (by show (v 5).toInt = (v 5).toInt ∨ (v 3).toInt < (v 3).toInt ∨ ¬ (v 5).toInt = 59; exact (GR.cast hGR (by first | rfl | assumption | omega) (by first | rfl | assumption | omega)).2), rfl, rfl, rfl⟩ hP hD hS dX11_toldNumber_8 (Nat.le_refl _) (Nat.le_refl _)
