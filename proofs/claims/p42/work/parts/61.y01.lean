set_option maxHeartbeats 4000000 in
set_option maxRecDepth 100000 in
theorem sY_X11_isWord_1 (l : Launch) (dC : Nat → ClassId) (dI : Nat → Nat → Nat) (cy : Nat → ClassId) (y0 : Nat) (r : Nat → Nat) (j1 : Int64) (v : Nat → Int32) (f : Nat → Nat → Int32) (w : Int64) (g : Nat → Int64) (hIv : YI v) (hCf : YC f) (hRf : progOK (f 4) (f 5) (v 9).toInt.toNat)  : ctI l (dC, dI) cy yX11_isWord cX11_isWord 3 .boolean 1 60 0 0 Unit [.ref y0, .long j1] (YW cy y0 r v f w g) (fun r u => ((r = 1 ∧ (v 5).toInt = 1) ∨ (r = 0))) (fun u => YW cy y0 r v f w g) := by
  refine ctI_of (by decide) (Nat.le_of_ble_eq_true rfl) (fun p e s m below meth c A ls Q hx hb hml hts hown hE hP hD hA hl ret => ?_)
  have hUv : (v 35).toInt + (v 36).toInt ≤ 40 := hIv.2
  have hown : s.vm.findClass RX11 = some m.cls := hown
  have hS : va_S A s.heap s.heap [] := va_S.rf
  have hl : lv_has ls 3 [(0, .ref y0), (1, .long j1)] := hl
  refine lv_aload_n hx hb dX11_isWord_0 rfl (lv_at hl 0 rfl) ?_
  refine va_get (D := (dC, dI)) (ci := 11) (v := .int (v 5)) (C := RX11) (T := TX11) (N := 79) hx hb hts inB_11 hown hE.1 hP 0 rfl rfl 6 (by decide) (hts _ k_1326) (fun _ h9 => h9) rfl dX11_isWord_1 ?_
  refine lv_iconst (v := 1) hx hb dX11_isWord_4 (by decide) ?_
  refine lv_icmp_ne (tgt := 21) hx hb dX11_isWord_5 (by decide) (fun c1 => ?_) (fun c1 => ?_)
  · skip
    have zc1 : ¬ ((v 5).toInt = 1) := by rw [fa_eq, show (1 : Int32).toInt = 1 from by decide] at c1; exact c1
    refine lv_iconst (v := 0) hx hb dX11_isWord_21 (by decide) ?_
    exact ret 0 () _ _ _ _ _ _ rfl (Or.inr rfl) hP hD hS dX11_isWord_22 (Nat.le_refl _) (Nat.le_refl _)
  · skip
    have zc1 : (v 5).toInt = 1 := by rw [fa_eq, show (1 : Int32).toInt = 1 from by decide] at c1; exact c1
    refine lv_aload_n hx hb dX11_isWord_8 rfl (lv_at hl 0 rfl) ?_
    refine va_get (D := (dC, dI)) (ci := 11) (v := .long w) (C := RX11) (T := TX11) (N := 79) hx hb hts inB_11 hown hE.1 hP 0 rfl rfl 9 (by decide) (hts _ k_1329) (fun _ h9 => h9) rfl dX11_isWord_9 ?_
    refine lv_lload_n hx hb dX11_isWord_12 rfl (lv_at hl 1 rfl) ?_
    refine W.lcmp hx hb dX11_isWord_13 ?_
    refine lv_topi (fun t2 et2 => ?_)
    refine lv_if_ne (tgt := 21) hx hb dX11_isWord_14 (by decide) (fun c3 => ?_) (fun c3 => ?_)
    · skip
      have zc3 : ¬ (t2.toInt = 0) := by rw [fa_eq, show (0 : Int32).toInt = 0 from by decide] at c3; exact c3
      refine lv_iconst (v := 0) hx hb dX11_isWord_21 (by decide) ?_
      exact ret 0 () _ _ _ _ _ _ rfl (Or.inr rfl) hP hD hS dX11_isWord_22 (Nat.le_refl _) (Nat.le_refl _)
    · skip
      have zc3 : t2.toInt = 0 := by rw [fa_eq, show (0 : Int32).toInt = 0 from by decide] at c3; exact c3
      refine lv_iconst (v := 1) hx hb dX11_isWord_17 (by decide) ?_
      refine lv_goto (tgt := 22) hx hb dX11_isWord_18 (by decide) ?_
      exact ret 1 () _ _ _ _ _ _ rfl (Or.inl ⟨rfl, by omega⟩) hP hD hS dX11_isWord_22 (Nat.le_refl _) (Nat.le_refl _)
set_option maxHeartbeats 4000000 in
set_option maxRecDepth 100000 in
theorem sY_X11_want_1 (l : Launch) (dC : Nat → ClassId) (dI : Nat → Nat → Nat) (cy : Nat → ClassId) (y0 : Nat) (r : Nat → Nat) (j1 : Int64) (v : Nat → Int32) (f : Nat → Nat → Int32) (w : Int64) (g : Nat → Int64) (hIv : YI v) (hCf : YC f) (hRf : progOK (f 4) (f 5) (v 9).toInt.toNat)  : ctV l (dC, dI) cy yX11_want cX11_want 3 3 103 0 0 ((Nat → Int32) × (Nat → Nat → Int32) × (Int64) × (Nat → Int64)) [.ref y0, .long j1] (YW cy y0 r v f w g) (fun u => YI u.1 ∧ YC u.2.1 ∧ progOK (u.2.1 4) (u.2.1 5) (u.1 9).toInt.toNat ∧ u.1 0 = v 0 ∧ u.1 4 = v 4 ∧ u.1 8 = v 8 ∧ u.1 9 = v 9 ∧ u.1 10 = v 10 ∧ u.1 13 = v 13 ∧ u.1 14 = v 14 ∧ u.1 15 = v 15 ∧ u.1 17 = v 17 ∧ u.1 18 = v 18 ∧ u.1 24 = v 24 ∧ u.1 25 = v 25 ∧ u.1 35 = v 35 ∧ u.1 36 = v 36 ∧ u.1 38 = v 38 ∧ u.1 39 = v 39 ∧ ((v 3).toInt ≤ (u.1 3).toInt) ∧ ((u.1 5).toInt = (v 5).toInt ∨ (v 3).toInt < (u.1 3).toInt ∨ ¬ (u.1 5).toInt = 59) ∧ u.2.1 2 = f 2 ∧ u.2.1 3 = f 3 ∧ u.2.1 6 = f 6) (fun u => YW cy y0 r u.1 u.2.1 u.2.2.1 u.2.2.2) := by
  refine ctV_of (by decide) (Nat.le_of_ble_eq_true rfl) (fun p e s m below meth c A ls Q hx hb hml hts hown hnm hE hP hD hA hl ret => ?_)
  have hUv : (v 35).toInt + (v 36).toInt ≤ 40 := hIv.2
  have b0_v : (0 : Int) ≤ (v 0).toInt ∧ (v 0).toInt ≤ 1600 := YIb.b hIv.1 0 (by decide)
  have b1_v : (0 : Int) ≤ (v 1).toInt ∧ (v 1).toInt ≤ 4 := YIb.b hIv.1 1 (by decide)
  have b3_v : (0 : Int) ≤ (v 3).toInt ∧ (v 3).toInt ≤ 1600 := YIb.b hIv.1 3 (by decide)
  have b4_v : (0 : Int) ≤ (v 4).toInt ∧ (v 4).toInt ≤ 1600 := YIb.b hIv.1 4 (by decide)
  have b8_v : (0 : Int) ≤ (v 8).toInt ∧ (v 8).toInt ≤ 320 := YIb.b hIv.1 8 (by decide)
  have b9_v : (0 : Int) ≤ (v 9).toInt ∧ (v 9).toInt ≤ 320 := YIb.b hIv.1 9 (by decide)
  have b10_v : (0 : Int) ≤ (v 10).toInt ∧ (v 10).toInt ≤ 160 := YIb.b hIv.1 10 (by decide)
  have b13_v : (0 : Int) ≤ (v 13).toInt ∧ (v 13).toInt ≤ 31 := YIb.b hIv.1 13 (by decide)
  have b14_v : (0 : Int) ≤ (v 14).toInt ∧ (v 14).toInt ≤ 8 := YIb.b hIv.1 14 (by decide)
  have b17_v : (0 : Int) ≤ (v 17).toInt ∧ (v 17).toInt ≤ 6 := YIb.b hIv.1 17 (by decide)
  have b18_v : (0 : Int) ≤ (v 18).toInt ∧ (v 18).toInt ≤ 6 := YIb.b hIv.1 18 (by decide)
  have b24_v : (0 : Int) ≤ (v 24).toInt ∧ (v 24).toInt ≤ 6 := YIb.b hIv.1 24 (by decide)
  have b25_v : (0 : Int) ≤ (v 25).toInt ∧ (v 25).toInt ≤ 6 := YIb.b hIv.1 25 (by decide)
  have b35_v : (0 : Int) ≤ (v 35).toInt ∧ (v 35).toInt ≤ 40 := YIb.b hIv.1 35 (by decide)
  have b36_v : (0 : Int) ≤ (v 36).toInt ∧ (v 36).toInt ≤ 40 := YIb.b hIv.1 36 (by decide)
  have b37_v : (0 : Int) ≤ (v 37).toInt ∧ (v 37).toInt ≤ 6 := YIb.b hIv.1 37 (by decide)
  have b38_v : (0 : Int) ≤ (v 38).toInt ∧ (v 38).toInt ≤ 30 := YIb.b hIv.1 38 (by decide)
  have b39_v : (0 : Int) ≤ (v 39).toInt ∧ (v 39).toInt ≤ 100000 := YIb.b hIv.1 39 (by decide)
  have hown : s.vm.findClass RX11 = some m.cls := hown
  have hS : va_S A s.heap s.heap [] := va_S.rf
  have hl : lv_has ls 3 [(0, .ref y0), (1, .long j1)] := hl
  refine lv_aload_n hx hb dX11_want_0 rfl (lv_at hl 0 rfl) ?_
  refine va_get (D := (dC, dI)) (ci := 11) (v := .int (v 1)) (C := RX11) (T := TX11) (N := 79) hx hb hts inB_11 hown hE.1 hP 0 rfl rfl 2 (by decide) (hts _ k_1322) (fun _ h9 => h9) rfl dX11_want_1 ?_
  have b1_v : 0 ≤ (v 1).toInt ∧ (v 1).toInt ≤ 4 := YIb.b hIv.1 1 (by decide)
  refine lv_if_le (tgt := 8) hx hb dX11_want_4 (by decide) (fun c1 => ?_) (fun c1 => ?_)
  · skip
    have zc1 : (v 1).toInt ≤ 0 := by rw [fa_le, show (0 : Int32).toInt = 0 from by decide] at c1; exact c1
    refine lv_aload_n hx hb dX11_want_8 rfl (lv_at hl 0 rfl) ?_
    refine lv_lload_n hx hb dX11_want_9 rfl (lv_at hl 1 rfl) ?_
    refine cbVi (n := 1) (rest := []) hx hb hml hown hts hE hP hD hS hA (sY_X11_isWord_1 l dC dI cy y0 r j1 v f w g hIv hCf hRf ) k_1601 k_1603 k_45 k_114 k_1604 (by decide +kernel) ⟨Nat.le_of_ble_eq_true rfl, Nat.le_of_ble_eq_true rfl⟩ 0 11 rfl rfl (rfl) hl.1 rfl (Nat.le_of_ble_eq_true rfl) dX11_want_10 (fun r2 u H locs hw hP hD hS => ?_)
    rcases hw with ⟨g3, g3_0⟩ | ⟨g3⟩
    · skip
      subst g3
      refine lv_if_ne (tgt := 24) hx hb dX11_want_13 (by decide) (fun _ => ?_) (fun c0 => absurd c0 (by decide))
      refine lv_aload_n hx hb dX11_want_24 rfl (lv_at hl 0 rfl) ?_
      refine cbVv (n := 0) (rest := []) hx hb hml hown hts hE hP hD hS hA (sY_X11_token_1 l dC dI cy y0 r  v f w g hIv hCf hRf ) k_1579 k_1581 k_42 k_114 k_1582 (by decide +kernel) ⟨Nat.le_of_ble_eq_true rfl, Nat.le_of_ble_eq_true rfl⟩ 0 11 rfl rfl (rfl) hl.1 rfl (Nat.le_of_ble_eq_true rfl) dX11_want_25 (fun u H locs hw hP hD hS => ?_)
      obtain ⟨v4, f5, w6, g7⟩ := u
      obtain ⟨hIv4, hCf5, hRf5, hk0_v4, hk1_v4, hk4_v4, hk8_v4, hk9_v4, hk10_v4, hk13_v4, hk14_v4, hk15_v4, hk17_v4, hk18_v4, hk24_v4, hk25_v4, hk35_v4, hk36_v4, hk38_v4, hk39_v4, pv8, pv9, kq10, kq11, kq12⟩ := hw
      have hP : va_P (dC, dI) vwCl (YW cy y0 r v4 f5 w6 g7) H := hP
      have hD : va_D A (YW cy y0 r v4 f5 w6 g7) := hD
      have b3_v4 : 0 ≤ (v4 3).toInt ∧ (v4 3).toInt ≤ 1600 := YIb.b hIv4.1 3 (by decide)
      have pv8 : (v 3).toInt ≤ (v4 3).toInt := pv8
      have pv9 : (v4 5).toInt = (v 5).toInt ∨ (v 3).toInt < (v4 3).toInt ∨ ¬ (v4 5).toInt = 59 := pv9
      have hs2_f5 : f5 2 = (f 2) := kq10
      have hs3_f5 : f5 3 = (f 3) := kq11
      have hs6_f5 : f5 6 = (f 6) := kq12
      have hUv4 : (v4 35).toInt + (v4 36).toInt ≤ 40 := hIv4.2
      have hq0_v4 : v4 0 = (v 0) := hk0_v4
      have hq1_v4 : v4 1 = (v 1) := hk1_v4
      have zq1_v4 := congrArg Int32.toInt hq1_v4
      have hq4_v4 : v4 4 = (v 4) := hk4_v4
      have zq4_v4 := congrArg Int32.toInt hq4_v4
      have hq8_v4 : v4 8 = (v 8) := hk8_v4
      have zq8_v4 := congrArg Int32.toInt hq8_v4
      have hq9_v4 : v4 9 = (v 9) := hk9_v4
      have zq9_v4 := congrArg Int32.toInt hq9_v4
      have hq10_v4 : v4 10 = (v 10) := hk10_v4
      have zq10_v4 := congrArg Int32.toInt hq10_v4
      have hq13_v4 : v4 13 = (v 13) := hk13_v4
      have zq13_v4 := congrArg Int32.toInt hq13_v4
      have hq14_v4 : v4 14 = (v 14) := hk14_v4
      have zq14_v4 := congrArg Int32.toInt hq14_v4
      have hq15_v4 : v4 15 = (v 15) := hk15_v4
      have zq15_v4 := congrArg Int32.toInt hq15_v4
      have hq17_v4 : v4 17 = (v 17) := hk17_v4
      have zq17_v4 := congrArg Int32.toInt hq17_v4
      have hq18_v4 : v4 18 = (v 18) := hk18_v4
      have zq18_v4 := congrArg Int32.toInt hq18_v4
      have hq24_v4 : v4 24 = (v 24) := hk24_v4
      have hq25_v4 : v4 25 = (v 25) := hk25_v4
      have hq35_v4 : v4 35 = (v 35) := hk35_v4
      have zq35_v4 := congrArg Int32.toInt hq35_v4
      have hq36_v4 : v4 36 = (v 36) := hk36_v4
      have zq36_v4 := congrArg Int32.toInt hq36_v4
      have hq38_v4 : v4 38 = (v 38) := hk38_v4
      have hq39_v4 : v4 39 = (v 39) := hk39_v4
      exact ret (v4, f5, w6, g7) _ _ _ _ _ _ ⟨hIv4, hCf5, hRf5, hk0_v4, hk4_v4, hk8_v4, hk9_v4, hk10_v4, hk13_v4, hk14_v4, hk15_v4, hk17_v4, hk18_v4, hk24_v4, hk25_v4, hk35_v4, hk36_v4, hk38_v4, hk39_v4, (by show (v 3).toInt ≤ (v4 3).toInt; omega), (by show (v4 5).toInt = (v 5).toInt ∨ (v 3).toInt < (v4 3).toInt ∨ ¬ (v4 5).toInt = 59; omega), hs2_f5, hs3_f5, hs6_f5⟩ hP hD hS dX11_want_28 (Nat.le_refl _) (Nat.le_refl _)
    · skip
      subst g3
      refine lv_if_ne (tgt := 24) hx hb dX11_want_13 (by decide) (fun c0 => absurd (by decide) c0) (fun _ => ?_)
      refine lv_aload_n hx hb dX11_want_16 rfl (lv_at hl 0 rfl) ?_
      refine lv_iconst (v := 2) hx hb dX11_want_17 (by decide) ?_
      refine cbVv (n := 1) (rest := []) hx hb hml hown hts hE hP hD hS hA (sY_X11_wrong_1 l dC dI cy y0 r 2 v f w g hIv hCf hRf ⟨by decide, by decide⟩) k_1641 k_1643 k_50 k_114 k_1644 (by decide +kernel) ⟨Nat.le_of_ble_eq_true rfl, Nat.le_of_ble_eq_true rfl⟩ 0 11 rfl rfl (rfl) hl.1 rfl (Nat.le_of_ble_eq_true rfl) dX11_want_18 (fun u H locs hw hP hD hS => ?_)
      obtain ⟨v13, f14, w15, g16⟩ := u
      obtain ⟨hIv13, hCf14, hRf14, hk0_v13, hk3_v13, hk4_v13, hk5_v13, hk8_v13, hk9_v13, hk10_v13, hk13_v13, hk14_v13, hk15_v13, hk17_v13, hk18_v13, hk24_v13, hk25_v13, hk35_v13, hk36_v13, hk38_v13, hk39_v13, pv17, pv18, pv19, kq20, kq21, kq22⟩ := hw
      have hP : va_P (dC, dI) vwCl (YW cy y0 r v13 f14 w15 g16) H := hP
      have hD : va_D A (YW cy y0 r v13 f14 w15 g16) := hD
      have b3_v13 : 0 ≤ (v13 3).toInt ∧ (v13 3).toInt ≤ 1600 := YIb.b hIv13.1 3 (by decide)
      have b1_v13 : 0 ≤ (v13 1).toInt ∧ (v13 1).toInt ≤ 4 := YIb.b hIv13.1 1 (by decide)
      have pv17 : (v 3).toInt ≤ (v13 3).toInt := pv17
      have pv18 : (v13 5).toInt = (v 5).toInt ∨ (v 3).toInt < (v13 3).toInt ∨ ¬ (v13 5).toInt = 59 := pv18
      have pv19 : 0 < (v13 1).toInt := pv19
      have hs2_f14 : f14 2 = (f 2) := kq20
      have hs3_f14 : f14 3 = (f 3) := kq21
      have hs6_f14 : f14 6 = (f 6) := kq22
      have hUv13 : (v13 35).toInt + (v13 36).toInt ≤ 40 := hIv13.2
      have hq0_v13 : v13 0 = (v 0) := hk0_v13
      have hq3_v13 : v13 3 = (v 3) := hk3_v13
      have zq3_v13 := congrArg Int32.toInt hq3_v13
      have hq4_v13 : v13 4 = (v 4) := hk4_v13
      have zq4_v13 := congrArg Int32.toInt hq4_v13
      have hq5_v13 : v13 5 = (v 5) := hk5_v13
      have zq5_v13 := congrArg Int32.toInt hq5_v13
      have hq8_v13 : v13 8 = (v 8) := hk8_v13
      have zq8_v13 := congrArg Int32.toInt hq8_v13
      have hq9_v13 : v13 9 = (v 9) := hk9_v13
      have zq9_v13 := congrArg Int32.toInt hq9_v13
      have hq10_v13 : v13 10 = (v 10) := hk10_v13
      have zq10_v13 := congrArg Int32.toInt hq10_v13
      have hq13_v13 : v13 13 = (v 13) := hk13_v13
      have zq13_v13 := congrArg Int32.toInt hq13_v13
      have hq14_v13 : v13 14 = (v 14) := hk14_v13
      have zq14_v13 := congrArg Int32.toInt hq14_v13
      have hq15_v13 : v13 15 = (v 15) := hk15_v13
      have zq15_v13 := congrArg Int32.toInt hq15_v13
      have hq17_v13 : v13 17 = (v 17) := hk17_v13
      have zq17_v13 := congrArg Int32.toInt hq17_v13
      have hq18_v13 : v13 18 = (v 18) := hk18_v13
      have zq18_v13 := congrArg Int32.toInt hq18_v13
      have hq24_v13 : v13 24 = (v 24) := hk24_v13
      have hq25_v13 : v13 25 = (v 25) := hk25_v13
      have hq35_v13 : v13 35 = (v 35) := hk35_v13
      have zq35_v13 := congrArg Int32.toInt hq35_v13
      have hq36_v13 : v13 36 = (v 36) := hk36_v13
      have zq36_v13 := congrArg Int32.toInt hq36_v13
      have hq38_v13 : v13 38 = (v 38) := hk38_v13
      have hq39_v13 : v13 39 = (v 39) := hk39_v13
      refine lv_goto (tgt := 28) hx hb dX11_want_21 (by decide) ?_
      exact ret (v13, f14, w15, g16) _ _ _ _ _ _ ⟨hIv13, hCf14, hRf14, hk0_v13, hk4_v13, hk8_v13, hk9_v13, hk10_v13, hk13_v13, hk14_v13, hk15_v13, hk17_v13, hk18_v13, hk24_v13, hk25_v13, hk35_v13, hk36_v13, hk38_v13, hk39_v13, (by show (v 3).toInt ≤ (v13 3).toInt; omega), (by show (v13 5).toInt = (v 5).toInt ∨ (v 3).toInt < (v13 3).toInt ∨ ¬ (v13 5).toInt = 59; omega), hs2_f14, hs3_f14, hs6_f14⟩ hP hD hS dX11_want_28 (Nat.le_refl _) (Nat.le_refl _)
  · skip
    have zc1 : ¬ ((v 1).toInt ≤ 0) := by rw [fa_le, show (0 : Int32).toInt = 0 from by decide] at c1; exact c1
    exact ret (v, f, w, g) _ _ _ _ _ _ ⟨hIv, hCf, hRf, rfl, rfl, rfl, rfl, rfl, rfl, rfl, rfl, rfl, rfl, rfl, rfl, rfl, rfl, rfl, rfl, (by show (v 3).toInt ≤ (v 3).toInt; omega), (by show (v 5).toInt = (v 5).toInt ∨ (v 3).toInt < (v 3).toInt ∨ ¬ (v 5).toInt = 59; omega), rfl, rfl, rfl⟩ hP hD hS dX11_want_7 (Nat.le_refl _) (Nat.le_refl _)
set_option maxHeartbeats 4000000 in
set_option maxRecDepth 100000 in
theorem sY_X11_toldNumber_1 (l : Launch) (dC : Nat → ClassId) (dI : Nat → Nat → Nat) (cy : Nat → ClassId) (y0 : Nat) (r : Nat → Nat) (p1 : Int32) (p2 : Int32) (v : Nat → Int32) (f : Nat → Nat → Int32) (w : Int64) (g : Nat → Int64) (hIv : YI v) (hCf : YC f) (hRf : progOK (f 4) (f 5) (v 9).toInt.toNat)  : ctI l (dC, dI) cy yX11_toldNumber cX11_toldNumber 4 .int 3 103 0 0 ((Nat → Int32) × (Nat → Nat → Int32) × (Int64) × (Nat → Int64)) [.ref y0, .int p1, .int p2] (YW cy y0 r v f w g) (fun r u => YI u.1 ∧ YC u.2.1 ∧ progOK (u.2.1 4) (u.2.1 5) (u.1 9).toInt.toNat ∧ u.1 0 = v 0 ∧ u.1 4 = v 4 ∧ u.1 8 = v 8 ∧ u.1 9 = v 9 ∧ u.1 10 = v 10 ∧ u.1 13 = v 13 ∧ u.1 14 = v 14 ∧ u.1 15 = v 15 ∧ u.1 17 = v 17 ∧ u.1 18 = v 18 ∧ u.1 24 = v 24 ∧ u.1 25 = v 25 ∧ u.1 35 = v 35 ∧ u.1 36 = v 36 ∧ u.1 38 = v 38 ∧ u.1 39 = v 39 ∧ ((v 3).toInt ≤ (u.1 3).toInt) ∧ ((u.1 5).toInt = (v 5).toInt ∨ (v 3).toInt < (u.1 3).toInt ∨ ¬ (u.1 5).toInt = 59) ∧ u.2.1 2 = f 2 ∧ u.2.1 3 = f 3 ∧ u.2.1 6 = f 6) (fun u => YW cy y0 r u.1 u.2.1 u.2.2.1 u.2.2.2) := by
  refine ctI_of (by decide) (Nat.le_of_ble_eq_true rfl) (fun p e s m below meth c A ls Q hx hb hml hts hown hE hP hD hA hl ret => ?_)
  have hUv : (v 35).toInt + (v 36).toInt ≤ 40 := hIv.2
  have b0_v : (0 : Int) ≤ (v 0).toInt ∧ (v 0).toInt ≤ 1600 := YIb.b hIv.1 0 (by decide)
  have b1_v : (0 : Int) ≤ (v 1).toInt ∧ (v 1).toInt ≤ 4 := YIb.b hIv.1 1 (by decide)
  have b3_v : (0 : Int) ≤ (v 3).toInt ∧ (v 3).toInt ≤ 1600 := YIb.b hIv.1 3 (by decide)
  have b4_v : (0 : Int) ≤ (v 4).toInt ∧ (v 4).toInt ≤ 1600 := YIb.b hIv.1 4 (by decide)
  have b8_v : (0 : Int) ≤ (v 8).toInt ∧ (v 8).toInt ≤ 320 := YIb.b hIv.1 8 (by decide)
  have b9_v : (0 : Int) ≤ (v 9).toInt ∧ (v 9).toInt ≤ 320 := YIb.b hIv.1 9 (by decide)
  have b10_v : (0 : Int) ≤ (v 10).toInt ∧ (v 10).toInt ≤ 160 := YIb.b hIv.1 10 (by decide)
  have b13_v : (0 : Int) ≤ (v 13).toInt ∧ (v 13).toInt ≤ 31 := YIb.b hIv.1 13 (by decide)
  have b14_v : (0 : Int) ≤ (v 14).toInt ∧ (v 14).toInt ≤ 8 := YIb.b hIv.1 14 (by decide)
  have b17_v : (0 : Int) ≤ (v 17).toInt ∧ (v 17).toInt ≤ 6 := YIb.b hIv.1 17 (by decide)
  have b18_v : (0 : Int) ≤ (v 18).toInt ∧ (v 18).toInt ≤ 6 := YIb.b hIv.1 18 (by decide)
  have b24_v : (0 : Int) ≤ (v 24).toInt ∧ (v 24).toInt ≤ 6 := YIb.b hIv.1 24 (by decide)
  have b25_v : (0 : Int) ≤ (v 25).toInt ∧ (v 25).toInt ≤ 6 := YIb.b hIv.1 25 (by decide)
  have b35_v : (0 : Int) ≤ (v 35).toInt ∧ (v 35).toInt ≤ 40 := YIb.b hIv.1 35 (by decide)
  have b36_v : (0 : Int) ≤ (v 36).toInt ∧ (v 36).toInt ≤ 40 := YIb.b hIv.1 36 (by decide)
  have b37_v : (0 : Int) ≤ (v 37).toInt ∧ (v 37).toInt ≤ 6 := YIb.b hIv.1 37 (by decide)
  have b38_v : (0 : Int) ≤ (v 38).toInt ∧ (v 38).toInt ≤ 30 := YIb.b hIv.1 38 (by decide)
  have b39_v : (0 : Int) ≤ (v 39).toInt ∧ (v 39).toInt ≤ 100000 := YIb.b hIv.1 39 (by decide)
  have hown : s.vm.findClass RX11 = some m.cls := hown
  have hS : va_S A s.heap s.heap [] := va_S.rf
  have hl : lv_has ls 4 [(0, .ref y0), (1, .int p1), (2, .int p2)] := hl
  refine lv_aload_n hx hb dX11_toldNumber_0 rfl (lv_at hl 0 rfl) ?_
  refine va_get (D := (dC, dI)) (ci := 11) (v := .int (v 1)) (C := RX11) (T := TX11) (N := 79) hx hb hts inB_11 hown hE.1 hP 0 rfl rfl 2 (by decide) (hts _ k_1322) (fun _ h9 => h9) rfl dX11_toldNumber_1 ?_
  have b1_v : 0 ≤ (v 1).toInt ∧ (v 1).toInt ≤ 4 := YIb.b hIv.1 1 (by decide)
  refine lv_if_le (tgt := 9) hx hb dX11_toldNumber_4 (by decide) (fun c1 => ?_) (fun c1 => ?_)
  · skip
    have zc1 : (v 1).toInt ≤ 0 := by rw [fa_le, show (0 : Int32).toInt = 0 from by decide] at c1; exact c1
    refine lv_aload_n hx hb dX11_toldNumber_9 rfl (lv_at hl 0 rfl) ?_
    refine va_get (D := (dC, dI)) (ci := 11) (v := .int (v 5)) (C := RX11) (T := TX11) (N := 79) hx hb hts inB_11 hown hE.1 hP 0 rfl rfl 6 (by decide) (hts _ k_1326) (fun _ h9 => h9) rfl dX11_toldNumber_10 ?_
    refine lv_iconst (v := 2) hx hb dX11_toldNumber_13 (by decide) ?_
    refine lv_icmp_eq (tgt := 25) hx hb dX11_toldNumber_14 (by decide) (fun c2 => ?_) (fun c2 => ?_)
    · skip
      have zc2 : (v 5).toInt = 2 := by rw [fa_eq, show (2 : Int32).toInt = 2 from by decide] at c2; exact c2
      refine lv_aload_n hx hb dX11_toldNumber_25 rfl (lv_at hl 0 rfl) ?_
      refine va_get (D := (dC, dI)) (ci := 11) (v := .int (v 7)) (C := RX11) (T := TX11) (N := 79) hx hb hts inB_11 hown hE.1 hP 0 rfl rfl 8 (by decide) (hts _ k_1328) (fun _ h9 => h9) rfl dX11_toldNumber_26 ?_
      refine lv_iload_n hx hb dX11_toldNumber_29 rfl (lv_at hl 1 rfl) ?_
      refine lv_icmp_lt (tgt := 41) hx hb dX11_toldNumber_30 (by decide) (fun c3 => ?_) (fun c3 => ?_)
      · skip
        have zc3 : (v 7).toInt < p1.toInt := by rw [fa_lt] at c3; exact c3
        have rg4 := fb_rng (v 7)
        have rg5 := fb_rng p1
        refine lv_aload_n hx hb dX11_toldNumber_41 rfl (lv_at hl 0 rfl) ?_
        refine lv_iconst (v := 4) hx hb dX11_toldNumber_42 (by decide) ?_
        refine cbVv (n := 1) (rest := []) hx hb hml hown hts hE hP hD hS hA (sY_X11_wrong_1 l dC dI cy y0 r 4 v f w g hIv hCf hRf ⟨by decide, by decide⟩) k_1641 k_1643 k_50 k_114 k_1644 (by decide +kernel) ⟨Nat.le_of_ble_eq_true rfl, Nat.le_of_ble_eq_true rfl⟩ 0 11 rfl rfl (rfl) hl.1 rfl (Nat.le_of_ble_eq_true rfl) dX11_toldNumber_43 (fun u H locs hw hP hD hS => ?_)
        obtain ⟨v6, f7, w8, g9⟩ := u
        obtain ⟨hIv6, hCf7, hRf7, hk0_v6, hk3_v6, hk4_v6, hk5_v6, hk8_v6, hk9_v6, hk10_v6, hk13_v6, hk14_v6, hk15_v6, hk17_v6, hk18_v6, hk24_v6, hk25_v6, hk35_v6, hk36_v6, hk38_v6, hk39_v6, pv10, pv11, pv12, kq13, kq14, kq15⟩ := hw
        have hP : va_P (dC, dI) vwCl (YW cy y0 r v6 f7 w8 g9) H := hP
        have hD : va_D A (YW cy y0 r v6 f7 w8 g9) := hD
        have b3_v6 : 0 ≤ (v6 3).toInt ∧ (v6 3).toInt ≤ 1600 := YIb.b hIv6.1 3 (by decide)
        have b1_v6 : 0 ≤ (v6 1).toInt ∧ (v6 1).toInt ≤ 4 := YIb.b hIv6.1 1 (by decide)
        have pv10 : (v 3).toInt ≤ (v6 3).toInt := pv10
        have pv11 : (v6 5).toInt = (v 5).toInt ∨ (v 3).toInt < (v6 3).toInt ∨ ¬ (v6 5).toInt = 59 := pv11
        have pv12 : 0 < (v6 1).toInt := pv12
        have hs2_f7 : f7 2 = (f 2) := kq13
        have hs3_f7 : f7 3 = (f 3) := kq14
        have hs6_f7 : f7 6 = (f 6) := kq15
        have hUv6 : (v6 35).toInt + (v6 36).toInt ≤ 40 := hIv6.2
        have hq0_v6 : v6 0 = (v 0) := hk0_v6
        have hq3_v6 : v6 3 = (v 3) := hk3_v6
        have zq3_v6 := congrArg Int32.toInt hq3_v6
        have hq4_v6 : v6 4 = (v 4) := hk4_v6
        have zq4_v6 := congrArg Int32.toInt hq4_v6
        have hq5_v6 : v6 5 = (v 5) := hk5_v6
        have zq5_v6 := congrArg Int32.toInt hq5_v6
        have hq8_v6 : v6 8 = (v 8) := hk8_v6
        have zq8_v6 := congrArg Int32.toInt hq8_v6
        have hq9_v6 : v6 9 = (v 9) := hk9_v6
        have zq9_v6 := congrArg Int32.toInt hq9_v6
        have hq10_v6 : v6 10 = (v 10) := hk10_v6
        have zq10_v6 := congrArg Int32.toInt hq10_v6
        have hq13_v6 : v6 13 = (v 13) := hk13_v6
        have zq13_v6 := congrArg Int32.toInt hq13_v6
        have hq14_v6 : v6 14 = (v 14) := hk14_v6
        have zq14_v6 := congrArg Int32.toInt hq14_v6
        have hq15_v6 : v6 15 = (v 15) := hk15_v6
        have zq15_v6 := congrArg Int32.toInt hq15_v6
        have hq17_v6 : v6 17 = (v 17) := hk17_v6
        have zq17_v6 := congrArg Int32.toInt hq17_v6
        have hq18_v6 : v6 18 = (v 18) := hk18_v6
        have zq18_v6 := congrArg Int32.toInt hq18_v6
        have hq24_v6 : v6 24 = (v 24) := hk24_v6
        have hq25_v6 : v6 25 = (v 25) := hk25_v6
        have hq35_v6 : v6 35 = (v 35) := hk35_v6
        have zq35_v6 := congrArg Int32.toInt hq35_v6
        have hq36_v6 : v6 36 = (v 36) := hk36_v6
        have zq36_v6 := congrArg Int32.toInt hq36_v6
        have hq38_v6 : v6 38 = (v 38) := hk38_v6
        have hq39_v6 : v6 39 = (v 39) := hk39_v6
        refine lv_aload_n hx hb dX11_toldNumber_46 rfl (lv_at hl 0 rfl) ?_
        refine va_get (D := (dC, dI)) (ci := 11) (v := .int (v6 7)) (C := RX11) (T := TX11) (N := 79) hx hb hts inB_11 hown hE.1 hP 0 rfl rfl 8 (by decide) (hts _ k_1328) (fun _ h9 => h9) rfl dX11_toldNumber_47 ?_
        refine lv_istore_n (lv' := [(3, .int (v6 7)), (0, .ref y0), (1, .int p1), (2, .int p2)]) hx hb dX11_toldNumber_50 rfl hl (by decide) rfl (fun ls hl => ?_)
        refine lv_aload_n hx hb dX11_toldNumber_51 rfl (lv_at hl 1 rfl) ?_
        refine va_get (D := (dC, dI)) (ci := 11) (v := .int (v6 1)) (C := RX11) (T := TX11) (N := 79) hx hb hts inB_11 hown hE.1 hP 0 rfl rfl 2 (by decide) (hts _ k_1322) (fun _ h9 => h9) rfl dX11_toldNumber_52 ?_
        have b1_v6 : 0 ≤ (v6 1).toInt ∧ (v6 1).toInt ≤ 4 := YIb.b hIv6.1 1 (by decide)
        refine lv_if_ne (tgt := 62) hx hb dX11_toldNumber_55 (by decide) (fun c16 => ?_) (fun c16 => ?_)
        · skip
          have zc16 : ¬ ((v6 1).toInt = 0) := by rw [fa_eq, show (0 : Int32).toInt = 0 from by decide] at c16; exact c16
          refine lv_iload_n hx hb dX11_toldNumber_62 rfl (lv_at hl 0 rfl) ?_
          exact ret (v6 7) (v6, f7, w8, g9) _ _ _ _ _ _ rfl ⟨hIv6, hCf7, hRf7, hk0_v6, hk4_v6, hk8_v6, hk9_v6, hk10_v6, hk13_v6, hk14_v6, hk15_v6, hk17_v6, hk18_v6, hk24_v6, hk25_v6, hk35_v6, hk36_v6, hk38_v6, hk39_v6, (by show (v 3).toInt ≤ (v6 3).toInt; omega), (by show (v6 5).toInt = (v 5).toInt ∨ (v 3).toInt < (v6 3).toInt ∨ ¬ (v6 5).toInt = 59; omega), hs2_f7, hs3_f7, hs6_f7⟩ hP hD hS dX11_toldNumber_63 (Nat.le_refl _) (Nat.le_refl _)
        · skip
          have zc16 : (v6 1).toInt = 0 := by rw [fa_eq, show (0 : Int32).toInt = 0 from by decide] at c16; exact c16
          refine lv_aload_n hx hb dX11_toldNumber_58 rfl (lv_at hl 1 rfl) ?_
          refine cbVv (n := 0) (rest := []) hx hb hml hown hts hE hP hD hS hA (sY_X11_token_1 l dC dI cy y0 r  v6 f7 w8 g9 hIv6 hCf7 hRf7 ) k_1579 k_1581 k_42 k_114 k_1582 (by decide +kernel) ⟨Nat.le_of_ble_eq_true rfl, Nat.le_of_ble_eq_true rfl⟩ 0 11 rfl rfl (rfl) hl.1 rfl (Nat.le_of_ble_eq_true rfl) dX11_toldNumber_59 (fun u H locs hw hP hD hS => ?_)
          obtain ⟨v17, f18, w19, g20⟩ := u
          obtain ⟨hIv17, hCf18, hRf18, hk0_v17, hk1_v17, hk4_v17, hk8_v17, hk9_v17, hk10_v17, hk13_v17, hk14_v17, hk15_v17, hk17_v17, hk18_v17, hk24_v17, hk25_v17, hk35_v17, hk36_v17, hk38_v17, hk39_v17, pv21, pv22, kq23, kq24, kq25⟩ := hw
          have hP : va_P (dC, dI) vwCl (YW cy y0 r v17 f18 w19 g20) H := hP
          have hD : va_D A (YW cy y0 r v17 f18 w19 g20) := hD
          have b3_v17 : 0 ≤ (v17 3).toInt ∧ (v17 3).toInt ≤ 1600 := YIb.b hIv17.1 3 (by decide)
          have pv21 : (v6 3).toInt ≤ (v17 3).toInt := pv21
          have pv22 : (v17 5).toInt = (v6 5).toInt ∨ (v6 3).toInt < (v17 3).toInt ∨ ¬ (v17 5).toInt = 59 := pv22
          have hs2_f18 : f18 2 = (f 2) := kq23.trans hs2_f7
          have hs3_f18 : f18 3 = (f 3) := kq24.trans hs3_f7
          have hs6_f18 : f18 6 = (f 6) := kq25.trans hs6_f7
          have hUv17 : (v17 35).toInt + (v17 36).toInt ≤ 40 := hIv17.2
          have hq0_v17 : v17 0 = (v 0) := hk0_v17.trans hq0_v6
          have hq1_v17 : v17 1 = (v6 1) := hk1_v17
          have zq1_v17 := congrArg Int32.toInt hq1_v17
          have hq4_v17 : v17 4 = (v 4) := hk4_v17.trans hq4_v6
          have zq4_v17 := congrArg Int32.toInt hq4_v17
          have hq8_v17 : v17 8 = (v 8) := hk8_v17.trans hq8_v6
          have zq8_v17 := congrArg Int32.toInt hq8_v17
          have hq9_v17 : v17 9 = (v 9) := hk9_v17.trans hq9_v6
          have zq9_v17 := congrArg Int32.toInt hq9_v17
          have hq10_v17 : v17 10 = (v 10) := hk10_v17.trans hq10_v6
          have zq10_v17 := congrArg Int32.toInt hq10_v17
          have hq13_v17 : v17 13 = (v 13) := hk13_v17.trans hq13_v6
          have zq13_v17 := congrArg Int32.toInt hq13_v17
          have hq14_v17 : v17 14 = (v 14) := hk14_v17.trans hq14_v6
          have zq14_v17 := congrArg Int32.toInt hq14_v17
          have hq15_v17 : v17 15 = (v 15) := hk15_v17.trans hq15_v6
          have zq15_v17 := congrArg Int32.toInt hq15_v17
          have hq17_v17 : v17 17 = (v 17) := hk17_v17.trans hq17_v6
          have zq17_v17 := congrArg Int32.toInt hq17_v17
          have hq18_v17 : v17 18 = (v 18) := hk18_v17.trans hq18_v6
          have zq18_v17 := congrArg Int32.toInt hq18_v17
          have hq24_v17 : v17 24 = (v 24) := hk24_v17.trans hq24_v6
          have hq25_v17 : v17 25 = (v 25) := hk25_v17.trans hq25_v6
          have hq35_v17 : v17 35 = (v 35) := hk35_v17.trans hq35_v6
          have zq35_v17 := congrArg Int32.toInt hq35_v17
          have hq36_v17 : v17 36 = (v 36) := hk36_v17.trans hq36_v6
          have zq36_v17 := congrArg Int32.toInt hq36_v17
          have hq38_v17 : v17 38 = (v 38) := hk38_v17.trans hq38_v6
          have hq39_v17 : v17 39 = (v 39) := hk39_v17.trans hq39_v6
          refine lv_iload_n hx hb dX11_toldNumber_62 rfl (lv_at hl 0 rfl) ?_
          exact ret (v6 7) (v17, f18, w19, g20) _ _ _ _ _ _ rfl ⟨hIv17, hCf18, hRf18, (hk0_v17.trans hk0_v6), (hk4_v17.trans hk4_v6), (hk8_v17.trans hk8_v6), (hk9_v17.trans hk9_v6), (hk10_v17.trans hk10_v6), (hk13_v17.trans hk13_v6), (hk14_v17.trans hk14_v6), (hk15_v17.trans hk15_v6), (hk17_v17.trans hk17_v6), (hk18_v17.trans hk18_v6), (hk24_v17.trans hk24_v6), (hk25_v17.trans hk25_v6), (hk35_v17.trans hk35_v6), (hk36_v17.trans hk36_v6), (hk38_v17.trans hk38_v6), (hk39_v17.trans hk39_v6), (by show (v 3).toInt ≤ (v17 3).toInt; omega), (by show (v17 5).toInt = (v 5).toInt ∨ (v 3).toInt < (v17 3).toInt ∨ ¬ (v17 5).toInt = 59; omega), hs2_f18, hs3_f18, hs6_f18⟩ hP hD hS dX11_toldNumber_63 (Nat.le_refl _) (Nat.le_refl _)
      · skip
        have zc3 : ¬ ((v 7).toInt < p1.toInt) := by rw [fa_lt] at c3; exact c3
        have rg26 := fb_rng (v 7)
        have rg27 := fb_rng p1
        refine lv_aload_n hx hb dX11_toldNumber_33 rfl (lv_at hl 0 rfl) ?_
        refine va_get (D := (dC, dI)) (ci := 11) (v := .int (v 7)) (C := RX11) (T := TX11) (N := 79) hx hb hts inB_11 hown hE.1 hP 0 rfl rfl 8 (by decide) (hts _ k_1328) (fun _ h9 => h9) rfl dX11_toldNumber_34 ?_
        refine lv_iload_n hx hb dX11_toldNumber_37 rfl (lv_at hl 2 rfl) ?_
        refine lv_icmp_le (tgt := 46) hx hb dX11_toldNumber_38 (by decide) (fun c28 => ?_) (fun c28 => ?_)
        · skip
          have zc28 : (v 7).toInt ≤ p2.toInt := by rw [fa_le] at c28; exact c28
          have rg29 := fb_rng p2
          refine lv_aload_n hx hb dX11_toldNumber_46 rfl (lv_at hl 0 rfl) ?_
          refine va_get (D := (dC, dI)) (ci := 11) (v := .int (v 7)) (C := RX11) (T := TX11) (N := 79) hx hb hts inB_11 hown hE.1 hP 0 rfl rfl 8 (by decide) (hts _ k_1328) (fun _ h9 => h9) rfl dX11_toldNumber_47 ?_
          refine lv_istore_n (lv' := [(3, .int (v 7)), (0, .ref y0), (1, .int p1), (2, .int p2)]) hx hb dX11_toldNumber_50 rfl hl (by decide) rfl (fun ls hl => ?_)
          refine lv_aload_n hx hb dX11_toldNumber_51 rfl (lv_at hl 1 rfl) ?_
          refine va_get (D := (dC, dI)) (ci := 11) (v := .int (v 1)) (C := RX11) (T := TX11) (N := 79) hx hb hts inB_11 hown hE.1 hP 0 rfl rfl 2 (by decide) (hts _ k_1322) (fun _ h9 => h9) rfl dX11_toldNumber_52 ?_
          refine lv_if_ne (tgt := 62) hx hb dX11_toldNumber_55 (by decide) (fun c30 => ?_) (fun c30 => ?_)
          · skip
            have zc30 : ¬ ((v 1).toInt = 0) := by rw [fa_eq, show (0 : Int32).toInt = 0 from by decide] at c30; exact c30
            refine lv_iload_n hx hb dX11_toldNumber_62 rfl (lv_at hl 0 rfl) ?_
            exact ret (v 7) (v, f, w, g) _ _ _ _ _ _ rfl ⟨hIv, hCf, hRf, rfl, rfl, rfl, rfl, rfl, rfl, rfl, rfl, rfl, rfl, rfl, rfl, rfl, rfl, rfl, rfl, (by show (v 3).toInt ≤ (v 3).toInt; omega), (by show (v 5).toInt = (v 5).toInt ∨ (v 3).toInt < (v 3).toInt ∨ ¬ (v 5).toInt = 59; omega), rfl, rfl, rfl⟩ hP hD hS dX11_toldNumber_63 (Nat.le_refl _) (Nat.le_refl _)
          · skip
            have zc30 : (v 1).toInt = 0 := by rw [fa_eq, show (0 : Int32).toInt = 0 from by decide] at c30; exact c30
            refine lv_aload_n hx hb dX11_toldNumber_58 rfl (lv_at hl 1 rfl) ?_
            refine cbVv (n := 0) (rest := []) hx hb hml hown hts hE hP hD hS hA (sY_X11_token_1 l dC dI cy y0 r  v f w g hIv hCf hRf ) k_1579 k_1581 k_42 k_114 k_1582 (by decide +kernel) ⟨Nat.le_of_ble_eq_true rfl, Nat.le_of_ble_eq_true rfl⟩ 0 11 rfl rfl (rfl) hl.1 rfl (Nat.le_of_ble_eq_true rfl) dX11_toldNumber_59 (fun u H locs hw hP hD hS => ?_)
            obtain ⟨v31, f32, w33, g34⟩ := u
            obtain ⟨hIv31, hCf32, hRf32, hk0_v31, hk1_v31, hk4_v31, hk8_v31, hk9_v31, hk10_v31, hk13_v31, hk14_v31, hk15_v31, hk17_v31, hk18_v31, hk24_v31, hk25_v31, hk35_v31, hk36_v31, hk38_v31, hk39_v31, pv35, pv36, kq37, kq38, kq39⟩ := hw
            have hP : va_P (dC, dI) vwCl (YW cy y0 r v31 f32 w33 g34) H := hP
            have hD : va_D A (YW cy y0 r v31 f32 w33 g34) := hD
            have b3_v31 : 0 ≤ (v31 3).toInt ∧ (v31 3).toInt ≤ 1600 := YIb.b hIv31.1 3 (by decide)
            have pv35 : (v 3).toInt ≤ (v31 3).toInt := pv35
            have pv36 : (v31 5).toInt = (v 5).toInt ∨ (v 3).toInt < (v31 3).toInt ∨ ¬ (v31 5).toInt = 59 := pv36
            have hs2_f32 : f32 2 = (f 2) := kq37
            have hs3_f32 : f32 3 = (f 3) := kq38
            have hs6_f32 : f32 6 = (f 6) := kq39
            have hUv31 : (v31 35).toInt + (v31 36).toInt ≤ 40 := hIv31.2
            have hq0_v31 : v31 0 = (v 0) := hk0_v31
            have hq1_v31 : v31 1 = (v 1) := hk1_v31
            have zq1_v31 := congrArg Int32.toInt hq1_v31
            have hq4_v31 : v31 4 = (v 4) := hk4_v31
            have zq4_v31 := congrArg Int32.toInt hq4_v31
            have hq8_v31 : v31 8 = (v 8) := hk8_v31
            have zq8_v31 := congrArg Int32.toInt hq8_v31
            have hq9_v31 : v31 9 = (v 9) := hk9_v31
            have zq9_v31 := congrArg Int32.toInt hq9_v31
            have hq10_v31 : v31 10 = (v 10) := hk10_v31
            have zq10_v31 := congrArg Int32.toInt hq10_v31
            have hq13_v31 : v31 13 = (v 13) := hk13_v31
            have zq13_v31 := congrArg Int32.toInt hq13_v31
            have hq14_v31 : v31 14 = (v 14) := hk14_v31
            have zq14_v31 := congrArg Int32.toInt hq14_v31
            have hq15_v31 : v31 15 = (v 15) := hk15_v31
            have zq15_v31 := congrArg Int32.toInt hq15_v31
            have hq17_v31 : v31 17 = (v 17) := hk17_v31
            have zq17_v31 := congrArg Int32.toInt hq17_v31
            have hq18_v31 : v31 18 = (v 18) := hk18_v31
            have zq18_v31 := congrArg Int32.toInt hq18_v31
            have hq24_v31 : v31 24 = (v 24) := hk24_v31
            have hq25_v31 : v31 25 = (v 25) := hk25_v31
            have hq35_v31 : v31 35 = (v 35) := hk35_v31
            have zq35_v31 := congrArg Int32.toInt hq35_v31
            have hq36_v31 : v31 36 = (v 36) := hk36_v31
            have zq36_v31 := congrArg Int32.toInt hq36_v31
            have hq38_v31 : v31 38 = (v 38) := hk38_v31
            have hq39_v31 : v31 39 = (v 39) := hk39_v31
            refine lv_iload_n hx hb dX11_toldNumber_62 rfl (lv_at hl 0 rfl) ?_
            exact ret (v 7) (v31, f32, w33, g34) _ _ _ _ _ _ rfl ⟨hIv31, hCf32, hRf32, hk0_v31, hk4_v31, hk8_v31, hk9_v31, hk10_v31, hk13_v31, hk14_v31, hk15_v31, hk17_v31, hk18_v31, hk24_v31, hk25_v31, hk35_v31, hk36_v31, hk38_v31, hk39_v31, (by show (v 3).toInt ≤ (v31 3).toInt; omega), (by show (v31 5).toInt = (v 5).toInt ∨ (v 3).toInt < (v31 3).toInt ∨ ¬ (v31 5).toInt = 59; omega), hs2_f32, hs3_f32, hs6_f32⟩ hP hD hS dX11_toldNumber_63 (Nat.le_refl _) (Nat.le_refl _)
        · skip
          have zc28 : ¬ ((v 7).toInt ≤ p2.toInt) := by rw [fa_le] at c28; exact c28
          have rg40 := fb_rng p2
          refine lv_aload_n hx hb dX11_toldNumber_41 rfl (lv_at hl 0 rfl) ?_
          refine lv_iconst (v := 4) hx hb dX11_toldNumber_42 (by decide) ?_
          refine cbVv (n := 1) (rest := []) hx hb hml hown hts hE hP hD hS hA (sY_X11_wrong_1 l dC dI cy y0 r 4 v f w g hIv hCf hRf ⟨by decide, by decide⟩) k_1641 k_1643 k_50 k_114 k_1644 (by decide +kernel) ⟨Nat.le_of_ble_eq_true rfl, Nat.le_of_ble_eq_true rfl⟩ 0 11 rfl rfl (rfl) hl.1 rfl (Nat.le_of_ble_eq_true rfl) dX11_toldNumber_43 (fun u H locs hw hP hD hS => ?_)
          obtain ⟨v41, f42, w43, g44⟩ := u
          obtain ⟨hIv41, hCf42, hRf42, hk0_v41, hk3_v41, hk4_v41, hk5_v41, hk8_v41, hk9_v41, hk10_v41, hk13_v41, hk14_v41, hk15_v41, hk17_v41, hk18_v41, hk24_v41, hk25_v41, hk35_v41, hk36_v41, hk38_v41, hk39_v41, pv45, pv46, pv47, kq48, kq49, kq50⟩ := hw
          have hP : va_P (dC, dI) vwCl (YW cy y0 r v41 f42 w43 g44) H := hP
          have hD : va_D A (YW cy y0 r v41 f42 w43 g44) := hD
          have b3_v41 : 0 ≤ (v41 3).toInt ∧ (v41 3).toInt ≤ 1600 := YIb.b hIv41.1 3 (by decide)
          have b1_v41 : 0 ≤ (v41 1).toInt ∧ (v41 1).toInt ≤ 4 := YIb.b hIv41.1 1 (by decide)
          have pv45 : (v 3).toInt ≤ (v41 3).toInt := pv45
          have pv46 : (v41 5).toInt = (v 5).toInt ∨ (v 3).toInt < (v41 3).toInt ∨ ¬ (v41 5).toInt = 59 := pv46
          have pv47 : 0 < (v41 1).toInt := pv47
          have hs2_f42 : f42 2 = (f 2) := kq48
          have hs3_f42 : f42 3 = (f 3) := kq49
          have hs6_f42 : f42 6 = (f 6) := kq50
          have hUv41 : (v41 35).toInt + (v41 36).toInt ≤ 40 := hIv41.2
          have hq0_v41 : v41 0 = (v 0) := hk0_v41
          have hq3_v41 : v41 3 = (v 3) := hk3_v41
          have zq3_v41 := congrArg Int32.toInt hq3_v41
          have hq4_v41 : v41 4 = (v 4) := hk4_v41
          have zq4_v41 := congrArg Int32.toInt hq4_v41
          have hq5_v41 : v41 5 = (v 5) := hk5_v41
          have zq5_v41 := congrArg Int32.toInt hq5_v41
          have hq8_v41 : v41 8 = (v 8) := hk8_v41
          have zq8_v41 := congrArg Int32.toInt hq8_v41
          have hq9_v41 : v41 9 = (v 9) := hk9_v41
          have zq9_v41 := congrArg Int32.toInt hq9_v41
          have hq10_v41 : v41 10 = (v 10) := hk10_v41
          have zq10_v41 := congrArg Int32.toInt hq10_v41
          have hq13_v41 : v41 13 = (v 13) := hk13_v41
          have zq13_v41 := congrArg Int32.toInt hq13_v41
          have hq14_v41 : v41 14 = (v 14) := hk14_v41
          have zq14_v41 := congrArg Int32.toInt hq14_v41
          have hq15_v41 : v41 15 = (v 15) := hk15_v41
          have zq15_v41 := congrArg Int32.toInt hq15_v41
          have hq17_v41 : v41 17 = (v 17) := hk17_v41
          have zq17_v41 := congrArg Int32.toInt hq17_v41
          have hq18_v41 : v41 18 = (v 18) := hk18_v41
          have zq18_v41 := congrArg Int32.toInt hq18_v41
          have hq24_v41 : v41 24 = (v 24) := hk24_v41
          have hq25_v41 : v41 25 = (v 25) := hk25_v41
          have hq35_v41 : v41 35 = (v 35) := hk35_v41
          have zq35_v41 := congrArg Int32.toInt hq35_v41
          have hq36_v41 : v41 36 = (v 36) := hk36_v41
          have zq36_v41 := congrArg Int32.toInt hq36_v41
          have hq38_v41 : v41 38 = (v 38) := hk38_v41
          have hq39_v41 : v41 39 = (v 39) := hk39_v41
          refine lv_aload_n hx hb dX11_toldNumber_46 rfl (lv_at hl 0 rfl) ?_
          refine va_get (D := (dC, dI)) (ci := 11) (v := .int (v41 7)) (C := RX11) (T := TX11) (N := 79) hx hb hts inB_11 hown hE.1 hP 0 rfl rfl 8 (by decide) (hts _ k_1328) (fun _ h9 => h9) rfl dX11_toldNumber_47 ?_
          refine lv_istore_n (lv' := [(3, .int (v41 7)), (0, .ref y0), (1, .int p1), (2, .int p2)]) hx hb dX11_toldNumber_50 rfl hl (by decide) rfl (fun ls hl => ?_)
          refine lv_aload_n hx hb dX11_toldNumber_51 rfl (lv_at hl 1 rfl) ?_
          refine va_get (D := (dC, dI)) (ci := 11) (v := .int (v41 1)) (C := RX11) (T := TX11) (N := 79) hx hb hts inB_11 hown hE.1 hP 0 rfl rfl 2 (by decide) (hts _ k_1322) (fun _ h9 => h9) rfl dX11_toldNumber_52 ?_
          have b1_v41 : 0 ≤ (v41 1).toInt ∧ (v41 1).toInt ≤ 4 := YIb.b hIv41.1 1 (by decide)
          refine lv_if_ne (tgt := 62) hx hb dX11_toldNumber_55 (by decide) (fun c51 => ?_) (fun c51 => ?_)
          · skip
            have zc51 : ¬ ((v41 1).toInt = 0) := by rw [fa_eq, show (0 : Int32).toInt = 0 from by decide] at c51; exact c51
            refine lv_iload_n hx hb dX11_toldNumber_62 rfl (lv_at hl 0 rfl) ?_
            exact ret (v41 7) (v41, f42, w43, g44) _ _ _ _ _ _ rfl ⟨hIv41, hCf42, hRf42, hk0_v41, hk4_v41, hk8_v41, hk9_v41, hk10_v41, hk13_v41, hk14_v41, hk15_v41, hk17_v41, hk18_v41, hk24_v41, hk25_v41, hk35_v41, hk36_v41, hk38_v41, hk39_v41, (by show (v 3).toInt ≤ (v41 3).toInt; omega), (by show (v41 5).toInt = (v 5).toInt ∨ (v 3).toInt < (v41 3).toInt ∨ ¬ (v41 5).toInt = 59; omega), hs2_f42, hs3_f42, hs6_f42⟩ hP hD hS dX11_toldNumber_63 (Nat.le_refl _) (Nat.le_refl _)
          · skip
            have zc51 : (v41 1).toInt = 0 := by rw [fa_eq, show (0 : Int32).toInt = 0 from by decide] at c51; exact c51
            refine lv_aload_n hx hb dX11_toldNumber_58 rfl (lv_at hl 1 rfl) ?_
            refine cbVv (n := 0) (rest := []) hx hb hml hown hts hE hP hD hS hA (sY_X11_token_1 l dC dI cy y0 r  v41 f42 w43 g44 hIv41 hCf42 hRf42 ) k_1579 k_1581 k_42 k_114 k_1582 (by decide +kernel) ⟨Nat.le_of_ble_eq_true rfl, Nat.le_of_ble_eq_true rfl⟩ 0 11 rfl rfl (rfl) hl.1 rfl (Nat.le_of_ble_eq_true rfl) dX11_toldNumber_59 (fun u H locs hw hP hD hS => ?_)
            obtain ⟨v52, f53, w54, g55⟩ := u
            obtain ⟨hIv52, hCf53, hRf53, hk0_v52, hk1_v52, hk4_v52, hk8_v52, hk9_v52, hk10_v52, hk13_v52, hk14_v52, hk15_v52, hk17_v52, hk18_v52, hk24_v52, hk25_v52, hk35_v52, hk36_v52, hk38_v52, hk39_v52, pv56, pv57, kq58, kq59, kq60⟩ := hw
            have hP : va_P (dC, dI) vwCl (YW cy y0 r v52 f53 w54 g55) H := hP
            have hD : va_D A (YW cy y0 r v52 f53 w54 g55) := hD
            have b3_v52 : 0 ≤ (v52 3).toInt ∧ (v52 3).toInt ≤ 1600 := YIb.b hIv52.1 3 (by decide)
            have pv56 : (v41 3).toInt ≤ (v52 3).toInt := pv56
            have pv57 : (v52 5).toInt = (v41 5).toInt ∨ (v41 3).toInt < (v52 3).toInt ∨ ¬ (v52 5).toInt = 59 := pv57
            have hs2_f53 : f53 2 = (f 2) := kq58.trans hs2_f42
            have hs3_f53 : f53 3 = (f 3) := kq59.trans hs3_f42
            have hs6_f53 : f53 6 = (f 6) := kq60.trans hs6_f42
            have hUv52 : (v52 35).toInt + (v52 36).toInt ≤ 40 := hIv52.2
            have hq0_v52 : v52 0 = (v 0) := hk0_v52.trans hq0_v41
            have hq1_v52 : v52 1 = (v41 1) := hk1_v52
            have zq1_v52 := congrArg Int32.toInt hq1_v52
            have hq4_v52 : v52 4 = (v 4) := hk4_v52.trans hq4_v41
            have zq4_v52 := congrArg Int32.toInt hq4_v52
            have hq8_v52 : v52 8 = (v 8) := hk8_v52.trans hq8_v41
            have zq8_v52 := congrArg Int32.toInt hq8_v52
            have hq9_v52 : v52 9 = (v 9) := hk9_v52.trans hq9_v41
            have zq9_v52 := congrArg Int32.toInt hq9_v52
            have hq10_v52 : v52 10 = (v 10) := hk10_v52.trans hq10_v41
            have zq10_v52 := congrArg Int32.toInt hq10_v52
            have hq13_v52 : v52 13 = (v 13) := hk13_v52.trans hq13_v41
            have zq13_v52 := congrArg Int32.toInt hq13_v52
            have hq14_v52 : v52 14 = (v 14) := hk14_v52.trans hq14_v41
            have zq14_v52 := congrArg Int32.toInt hq14_v52
            have hq15_v52 : v52 15 = (v 15) := hk15_v52.trans hq15_v41
            have zq15_v52 := congrArg Int32.toInt hq15_v52
            have hq17_v52 : v52 17 = (v 17) := hk17_v52.trans hq17_v41
            have zq17_v52 := congrArg Int32.toInt hq17_v52
            have hq18_v52 : v52 18 = (v 18) := hk18_v52.trans hq18_v41
            have zq18_v52 := congrArg Int32.toInt hq18_v52
            have hq24_v52 : v52 24 = (v 24) := hk24_v52.trans hq24_v41
            have hq25_v52 : v52 25 = (v 25) := hk25_v52.trans hq25_v41
            have hq35_v52 : v52 35 = (v 35) := hk35_v52.trans hq35_v41
            have zq35_v52 := congrArg Int32.toInt hq35_v52
            have hq36_v52 : v52 36 = (v 36) := hk36_v52.trans hq36_v41
            have zq36_v52 := congrArg Int32.toInt hq36_v52
            have hq38_v52 : v52 38 = (v 38) := hk38_v52.trans hq38_v41
            have hq39_v52 : v52 39 = (v 39) := hk39_v52.trans hq39_v41
            refine lv_iload_n hx hb dX11_toldNumber_62 rfl (lv_at hl 0 rfl) ?_
            exact ret (v41 7) (v52, f53, w54, g55) _ _ _ _ _ _ rfl ⟨hIv52, hCf53, hRf53, (hk0_v52.trans hk0_v41), (hk4_v52.trans hk4_v41), (hk8_v52.trans hk8_v41), (hk9_v52.trans hk9_v41), (hk10_v52.trans hk10_v41), (hk13_v52.trans hk13_v41), (hk14_v52.trans hk14_v41), (hk15_v52.trans hk15_v41), (hk17_v52.trans hk17_v41), (hk18_v52.trans hk18_v41), (hk24_v52.trans hk24_v41), (hk25_v52.trans hk25_v41), (hk35_v52.trans hk35_v41), (hk36_v52.trans hk36_v41), (hk38_v52.trans hk38_v41), (hk39_v52.trans hk39_v41), (by show (v 3).toInt ≤ (v52 3).toInt; omega), (by show (v52 5).toInt = (v 5).toInt ∨ (v 3).toInt < (v52 3).toInt ∨ ¬ (v52 5).toInt = 59; omega), hs2_f53, hs3_f53, hs6_f53⟩ hP hD hS dX11_toldNumber_63 (Nat.le_refl _) (Nat.le_refl _)
    · skip
      have zc2 : ¬ ((v 5).toInt = 2) := by rw [fa_eq, show (2 : Int32).toInt = 2 from by decide] at c2; exact c2
      refine lv_aload_n hx hb dX11_toldNumber_17 rfl (lv_at hl 0 rfl) ?_
      refine lv_iconst (v := 2) hx hb dX11_toldNumber_18 (by decide) ?_
      refine cbVv (n := 1) (rest := []) hx hb hml hown hts hE hP hD hS hA (sY_X11_wrong_1 l dC dI cy y0 r 2 v f w g hIv hCf hRf ⟨by decide, by decide⟩) k_1641 k_1643 k_50 k_114 k_1644 (by decide +kernel) ⟨Nat.le_of_ble_eq_true rfl, Nat.le_of_ble_eq_true rfl⟩ 0 11 rfl rfl (rfl) hl.1 rfl (Nat.le_of_ble_eq_true rfl) dX11_toldNumber_19 (fun u H locs hw hP hD hS => ?_)
      obtain ⟨v61, f62, w63, g64⟩ := u
      obtain ⟨hIv61, hCf62, hRf62, hk0_v61, hk3_v61, hk4_v61, hk5_v61, hk8_v61, hk9_v61, hk10_v61, hk13_v61, hk14_v61, hk15_v61, hk17_v61, hk18_v61, hk24_v61, hk25_v61, hk35_v61, hk36_v61, hk38_v61, hk39_v61, pv65, pv66, pv67, kq68, kq69, kq70⟩ := hw
      have hP : va_P (dC, dI) vwCl (YW cy y0 r v61 f62 w63 g64) H := hP
      have hD : va_D A (YW cy y0 r v61 f62 w63 g64) := hD
      have b3_v61 : 0 ≤ (v61 3).toInt ∧ (v61 3).toInt ≤ 1600 := YIb.b hIv61.1 3 (by decide)
      have b1_v61 : 0 ≤ (v61 1).toInt ∧ (v61 1).toInt ≤ 4 := YIb.b hIv61.1 1 (by decide)
      have pv65 : (v 3).toInt ≤ (v61 3).toInt := pv65
      have pv66 : (v61 5).toInt = (v 5).toInt ∨ (v 3).toInt < (v61 3).toInt ∨ ¬ (v61 5).toInt = 59 := pv66
      have pv67 : 0 < (v61 1).toInt := pv67
      have hs2_f62 : f62 2 = (f 2) := kq68
      have hs3_f62 : f62 3 = (f 3) := kq69
      have hs6_f62 : f62 6 = (f 6) := kq70
      have hUv61 : (v61 35).toInt + (v61 36).toInt ≤ 40 := hIv61.2
      have hq0_v61 : v61 0 = (v 0) := hk0_v61
      have hq3_v61 : v61 3 = (v 3) := hk3_v61
      have zq3_v61 := congrArg Int32.toInt hq3_v61
      have hq4_v61 : v61 4 = (v 4) := hk4_v61
      have zq4_v61 := congrArg Int32.toInt hq4_v61
      have hq5_v61 : v61 5 = (v 5) := hk5_v61
      have zq5_v61 := congrArg Int32.toInt hq5_v61
      have hq8_v61 : v61 8 = (v 8) := hk8_v61
      have zq8_v61 := congrArg Int32.toInt hq8_v61
      have hq9_v61 : v61 9 = (v 9) := hk9_v61
      have zq9_v61 := congrArg Int32.toInt hq9_v61
      have hq10_v61 : v61 10 = (v 10) := hk10_v61
      have zq10_v61 := congrArg Int32.toInt hq10_v61
      have hq13_v61 : v61 13 = (v 13) := hk13_v61
      have zq13_v61 := congrArg Int32.toInt hq13_v61
      have hq14_v61 : v61 14 = (v 14) := hk14_v61
      have zq14_v61 := congrArg Int32.toInt hq14_v61
      have hq15_v61 : v61 15 = (v 15) := hk15_v61
      have zq15_v61 := congrArg Int32.toInt hq15_v61
      have hq17_v61 : v61 17 = (v 17) := hk17_v61
      have zq17_v61 := congrArg Int32.toInt hq17_v61
      have hq18_v61 : v61 18 = (v 18) := hk18_v61
      have zq18_v61 := congrArg Int32.toInt hq18_v61
      have hq24_v61 : v61 24 = (v 24) := hk24_v61
      have hq25_v61 : v61 25 = (v 25) := hk25_v61
      have hq35_v61 : v61 35 = (v 35) := hk35_v61
      have zq35_v61 := congrArg Int32.toInt hq35_v61
      have hq36_v61 : v61 36 = (v 36) := hk36_v61
      have zq36_v61 := congrArg Int32.toInt hq36_v61
      have hq38_v61 : v61 38 = (v 38) := hk38_v61
      have hq39_v61 : v61 39 = (v 39) := hk39_v61
      refine lv_goto (tgt := 46) hx hb dX11_toldNumber_22 (by decide) ?_
      refine lv_aload_n hx hb dX11_toldNumber_46 rfl (lv_at hl 0 rfl) ?_
      refine va_get (D := (dC, dI)) (ci := 11) (v := .int (v61 7)) (C := RX11) (T := TX11) (N := 79) hx hb hts inB_11 hown hE.1 hP 0 rfl rfl 8 (by decide) (hts _ k_1328) (fun _ h9 => h9) rfl dX11_toldNumber_47 ?_
      refine lv_istore_n (lv' := [(3, .int (v61 7)), (0, .ref y0), (1, .int p1), (2, .int p2)]) hx hb dX11_toldNumber_50 rfl hl (by decide) rfl (fun ls hl => ?_)
      refine lv_aload_n hx hb dX11_toldNumber_51 rfl (lv_at hl 1 rfl) ?_
      refine va_get (D := (dC, dI)) (ci := 11) (v := .int (v61 1)) (C := RX11) (T := TX11) (N := 79) hx hb hts inB_11 hown hE.1 hP 0 rfl rfl 2 (by decide) (hts _ k_1322) (fun _ h9 => h9) rfl dX11_toldNumber_52 ?_
      have b1_v61 : 0 ≤ (v61 1).toInt ∧ (v61 1).toInt ≤ 4 := YIb.b hIv61.1 1 (by decide)
      refine lv_if_ne (tgt := 62) hx hb dX11_toldNumber_55 (by decide) (fun c71 => ?_) (fun c71 => ?_)
      · skip
        have zc71 : ¬ ((v61 1).toInt = 0) := by rw [fa_eq, show (0 : Int32).toInt = 0 from by decide] at c71; exact c71
        refine lv_iload_n hx hb dX11_toldNumber_62 rfl (lv_at hl 0 rfl) ?_
        exact ret (v61 7) (v61, f62, w63, g64) _ _ _ _ _ _ rfl ⟨hIv61, hCf62, hRf62, hk0_v61, hk4_v61, hk8_v61, hk9_v61, hk10_v61, hk13_v61, hk14_v61, hk15_v61, hk17_v61, hk18_v61, hk24_v61, hk25_v61, hk35_v61, hk36_v61, hk38_v61, hk39_v61, (by show (v 3).toInt ≤ (v61 3).toInt; omega), (by show (v61 5).toInt = (v 5).toInt ∨ (v 3).toInt < (v61 3).toInt ∨ ¬ (v61 5).toInt = 59; omega), hs2_f62, hs3_f62, hs6_f62⟩ hP hD hS dX11_toldNumber_63 (Nat.le_refl _) (Nat.le_refl _)
      · skip
        have zc71 : (v61 1).toInt = 0 := by rw [fa_eq, show (0 : Int32).toInt = 0 from by decide] at c71; exact c71
        refine lv_aload_n hx hb dX11_toldNumber_58 rfl (lv_at hl 1 rfl) ?_
        refine cbVv (n := 0) (rest := []) hx hb hml hown hts hE hP hD hS hA (sY_X11_token_1 l dC dI cy y0 r  v61 f62 w63 g64 hIv61 hCf62 hRf62 ) k_1579 k_1581 k_42 k_114 k_1582 (by decide +kernel) ⟨Nat.le_of_ble_eq_true rfl, Nat.le_of_ble_eq_true rfl⟩ 0 11 rfl rfl (rfl) hl.1 rfl (Nat.le_of_ble_eq_true rfl) dX11_toldNumber_59 (fun u H locs hw hP hD hS => ?_)
        obtain ⟨v72, f73, w74, g75⟩ := u
        obtain ⟨hIv72, hCf73, hRf73, hk0_v72, hk1_v72, hk4_v72, hk8_v72, hk9_v72, hk10_v72, hk13_v72, hk14_v72, hk15_v72, hk17_v72, hk18_v72, hk24_v72, hk25_v72, hk35_v72, hk36_v72, hk38_v72, hk39_v72, pv76, pv77, kq78, kq79, kq80⟩ := hw
        have hP : va_P (dC, dI) vwCl (YW cy y0 r v72 f73 w74 g75) H := hP
        have hD : va_D A (YW cy y0 r v72 f73 w74 g75) := hD
        have b3_v72 : 0 ≤ (v72 3).toInt ∧ (v72 3).toInt ≤ 1600 := YIb.b hIv72.1 3 (by decide)
        have pv76 : (v61 3).toInt ≤ (v72 3).toInt := pv76
        have pv77 : (v72 5).toInt = (v61 5).toInt ∨ (v61 3).toInt < (v72 3).toInt ∨ ¬ (v72 5).toInt = 59 := pv77
        have hs2_f73 : f73 2 = (f 2) := kq78.trans hs2_f62
        have hs3_f73 : f73 3 = (f 3) := kq79.trans hs3_f62
        have hs6_f73 : f73 6 = (f 6) := kq80.trans hs6_f62
        have hUv72 : (v72 35).toInt + (v72 36).toInt ≤ 40 := hIv72.2
        have hq0_v72 : v72 0 = (v 0) := hk0_v72.trans hq0_v61
        have hq1_v72 : v72 1 = (v61 1) := hk1_v72
        have zq1_v72 := congrArg Int32.toInt hq1_v72
        have hq4_v72 : v72 4 = (v 4) := hk4_v72.trans hq4_v61
        have zq4_v72 := congrArg Int32.toInt hq4_v72
        have hq8_v72 : v72 8 = (v 8) := hk8_v72.trans hq8_v61
        have zq8_v72 := congrArg Int32.toInt hq8_v72
        have hq9_v72 : v72 9 = (v 9) := hk9_v72.trans hq9_v61
        have zq9_v72 := congrArg Int32.toInt hq9_v72
        have hq10_v72 : v72 10 = (v 10) := hk10_v72.trans hq10_v61
        have zq10_v72 := congrArg Int32.toInt hq10_v72
        have hq13_v72 : v72 13 = (v 13) := hk13_v72.trans hq13_v61
        have zq13_v72 := congrArg Int32.toInt hq13_v72
        have hq14_v72 : v72 14 = (v 14) := hk14_v72.trans hq14_v61
        have zq14_v72 := congrArg Int32.toInt hq14_v72
        have hq15_v72 : v72 15 = (v 15) := hk15_v72.trans hq15_v61
        have zq15_v72 := congrArg Int32.toInt hq15_v72
        have hq17_v72 : v72 17 = (v 17) := hk17_v72.trans hq17_v61
        have zq17_v72 := congrArg Int32.toInt hq17_v72
        have hq18_v72 : v72 18 = (v 18) := hk18_v72.trans hq18_v61
        have zq18_v72 := congrArg Int32.toInt hq18_v72
        have hq24_v72 : v72 24 = (v 24) := hk24_v72.trans hq24_v61
        have hq25_v72 : v72 25 = (v 25) := hk25_v72.trans hq25_v61
        have hq35_v72 : v72 35 = (v 35) := hk35_v72.trans hq35_v61
        have zq35_v72 := congrArg Int32.toInt hq35_v72
        have hq36_v72 : v72 36 = (v 36) := hk36_v72.trans hq36_v61
        have zq36_v72 := congrArg Int32.toInt hq36_v72
        have hq38_v72 : v72 38 = (v 38) := hk38_v72.trans hq38_v61
        have hq39_v72 : v72 39 = (v 39) := hk39_v72.trans hq39_v61
        refine lv_iload_n hx hb dX11_toldNumber_62 rfl (lv_at hl 0 rfl) ?_
        exact ret (v61 7) (v72, f73, w74, g75) _ _ _ _ _ _ rfl ⟨hIv72, hCf73, hRf73, (hk0_v72.trans hk0_v61), (hk4_v72.trans hk4_v61), (hk8_v72.trans hk8_v61), (hk9_v72.trans hk9_v61), (hk10_v72.trans hk10_v61), (hk13_v72.trans hk13_v61), (hk14_v72.trans hk14_v61), (hk15_v72.trans hk15_v61), (hk17_v72.trans hk17_v61), (hk18_v72.trans hk18_v61), (hk24_v72.trans hk24_v61), (hk25_v72.trans hk25_v61), (hk35_v72.trans hk35_v61), (hk36_v72.trans hk36_v61), (hk38_v72.trans hk38_v61), (hk39_v72.trans hk39_v61), (by show (v 3).toInt ≤ (v72 3).toInt; omega), (by show (v72 5).toInt = (v 5).toInt ∨ (v 3).toInt < (v72 3).toInt ∨ ¬ (v72 5).toInt = 59; omega), hs2_f73, hs3_f73, hs6_f73⟩ hP hD hS dX11_toldNumber_63 (Nat.le_refl _) (Nat.le_refl _)
  · skip
    have zc1 : ¬ ((v 1).toInt ≤ 0) := by rw [fa_le, show (0 : Int32).toInt = 0 from by decide] at c1; exact c1
    refine lv_iconst (v := 0) hx hb dX11_toldNumber_7 (by decide) ?_
    exact ret 0 (v, f, w, g) _ _ _ _ _ _ rfl ⟨hIv, hCf, hRf, rfl, rfl, rfl, rfl, rfl, rfl, rfl, rfl, rfl, rfl, rfl, rfl, rfl, rfl, rfl, rfl, (by show (v 3).toInt ≤ (v 3).toInt; omega), (by show (v 5).toInt = (v 5).toInt ∨ (v 3).toInt < (v 3).toInt ∨ ¬ (v 5).toInt = 59; omega), rfl, rfl, rfl⟩ hP hD hS dX11_toldNumber_8 (Nat.le_refl _) (Nat.le_refl _)
set_option maxHeartbeats 4000000 in
set_option maxRecDepth 100000 in
theorem sY_X11_told_1 (l : Launch) (dC : Nat → ClassId) (dI : Nat → Nat → Nat) (cy : Nat → ClassId) (y0 : Nat) (r : Nat → Nat) (j1 : Int64) (p2 : Int32) (v : Nat → Int32) (f : Nat → Nat → Int32) (w : Int64) (g : Nat → Int64) (hIv : YI v) (hCf : YC f) (hRf : progOK (f 4) (f 5) (v 9).toInt.toNat)  : ctI l (dC, dI) cy yX11_told cX11_told 4 .int 4 126 0 0 ((Nat → Int32) × (Nat → Nat → Int32) × (Int64) × (Nat → Int64)) [.ref y0, .long j1, .int p2] (YW cy y0 r v f w g) (fun r u => YI u.1 ∧ YC u.2.1 ∧ progOK (u.2.1 4) (u.2.1 5) (u.1 9).toInt.toNat ∧ u.1 0 = v 0 ∧ u.1 4 = v 4 ∧ u.1 8 = v 8 ∧ u.1 9 = v 9 ∧ u.1 10 = v 10 ∧ u.1 13 = v 13 ∧ u.1 14 = v 14 ∧ u.1 15 = v 15 ∧ u.1 17 = v 17 ∧ u.1 18 = v 18 ∧ u.1 24 = v 24 ∧ u.1 25 = v 25 ∧ u.1 35 = v 35 ∧ u.1 36 = v 36 ∧ u.1 38 = v 38 ∧ u.1 39 = v 39 ∧ ((v 3).toInt ≤ (u.1 3).toInt) ∧ ((u.1 5).toInt = (v 5).toInt ∨ (v 3).toInt < (u.1 3).toInt ∨ ¬ (u.1 5).toInt = 59) ∧ u.2.1 2 = f 2 ∧ u.2.1 3 = f 3 ∧ u.2.1 6 = f 6) (fun u => YW cy y0 r u.1 u.2.1 u.2.2.1 u.2.2.2) := by
  refine ctI_of (by decide) (Nat.le_of_ble_eq_true rfl) (fun p e s m below meth c A ls Q hx hb hml hts hown hE hP hD hA hl ret => ?_)
  have hUv : (v 35).toInt + (v 36).toInt ≤ 40 := hIv.2
  have b0_v : (0 : Int) ≤ (v 0).toInt ∧ (v 0).toInt ≤ 1600 := YIb.b hIv.1 0 (by decide)
  have b1_v : (0 : Int) ≤ (v 1).toInt ∧ (v 1).toInt ≤ 4 := YIb.b hIv.1 1 (by decide)
  have b3_v : (0 : Int) ≤ (v 3).toInt ∧ (v 3).toInt ≤ 1600 := YIb.b hIv.1 3 (by decide)
  have b4_v : (0 : Int) ≤ (v 4).toInt ∧ (v 4).toInt ≤ 1600 := YIb.b hIv.1 4 (by decide)
  have b8_v : (0 : Int) ≤ (v 8).toInt ∧ (v 8).toInt ≤ 320 := YIb.b hIv.1 8 (by decide)
  have b9_v : (0 : Int) ≤ (v 9).toInt ∧ (v 9).toInt ≤ 320 := YIb.b hIv.1 9 (by decide)
  have b10_v : (0 : Int) ≤ (v 10).toInt ∧ (v 10).toInt ≤ 160 := YIb.b hIv.1 10 (by decide)
  have b13_v : (0 : Int) ≤ (v 13).toInt ∧ (v 13).toInt ≤ 31 := YIb.b hIv.1 13 (by decide)
  have b14_v : (0 : Int) ≤ (v 14).toInt ∧ (v 14).toInt ≤ 8 := YIb.b hIv.1 14 (by decide)
  have b17_v : (0 : Int) ≤ (v 17).toInt ∧ (v 17).toInt ≤ 6 := YIb.b hIv.1 17 (by decide)
  have b18_v : (0 : Int) ≤ (v 18).toInt ∧ (v 18).toInt ≤ 6 := YIb.b hIv.1 18 (by decide)
  have b24_v : (0 : Int) ≤ (v 24).toInt ∧ (v 24).toInt ≤ 6 := YIb.b hIv.1 24 (by decide)
  have b25_v : (0 : Int) ≤ (v 25).toInt ∧ (v 25).toInt ≤ 6 := YIb.b hIv.1 25 (by decide)
  have b35_v : (0 : Int) ≤ (v 35).toInt ∧ (v 35).toInt ≤ 40 := YIb.b hIv.1 35 (by decide)
  have b36_v : (0 : Int) ≤ (v 36).toInt ∧ (v 36).toInt ≤ 40 := YIb.b hIv.1 36 (by decide)
  have b37_v : (0 : Int) ≤ (v 37).toInt ∧ (v 37).toInt ≤ 6 := YIb.b hIv.1 37 (by decide)
  have b38_v : (0 : Int) ≤ (v 38).toInt ∧ (v 38).toInt ≤ 30 := YIb.b hIv.1 38 (by decide)
  have b39_v : (0 : Int) ≤ (v 39).toInt ∧ (v 39).toInt ≤ 100000 := YIb.b hIv.1 39 (by decide)
  have hown : s.vm.findClass RX11 = some m.cls := hown
  have hS : va_S A s.heap s.heap [] := va_S.rf
  have hl : lv_has ls 4 [(0, .ref y0), (1, .long j1), (3, .int p2)] := hl
  refine lv_aload_n hx hb dX11_told_0 rfl (lv_at hl 0 rfl) ?_
  refine lv_lload_n hx hb dX11_told_1 rfl (lv_at hl 1 rfl) ?_
  refine cbVv (n := 1) (rest := []) hx hb hml hown hts hE hP hD hS hA (sY_X11_want_1 l dC dI cy y0 r j1 v f w g hIv hCf hRf ) k_1649 k_1651 k_52 k_114 k_1652 (by decide +kernel) ⟨Nat.le_of_ble_eq_true rfl, Nat.le_of_ble_eq_true rfl⟩ 0 11 rfl rfl (rfl) hl.1 rfl (Nat.le_of_ble_eq_true rfl) dX11_told_2 (fun u H locs hw hP hD hS => ?_)
  obtain ⟨v1, f2, w3, g4⟩ := u
  obtain ⟨hIv1, hCf2, hRf2, hk0_v1, hk4_v1, hk8_v1, hk9_v1, hk10_v1, hk13_v1, hk14_v1, hk15_v1, hk17_v1, hk18_v1, hk24_v1, hk25_v1, hk35_v1, hk36_v1, hk38_v1, hk39_v1, pv5, pv6, kq7, kq8, kq9⟩ := hw
  have hP : va_P (dC, dI) vwCl (YW cy y0 r v1 f2 w3 g4) H := hP
  have hD : va_D A (YW cy y0 r v1 f2 w3 g4) := hD
  have b3_v1 : 0 ≤ (v1 3).toInt ∧ (v1 3).toInt ≤ 1600 := YIb.b hIv1.1 3 (by decide)
  have pv5 : (v 3).toInt ≤ (v1 3).toInt := pv5
  have pv6 : (v1 5).toInt = (v 5).toInt ∨ (v 3).toInt < (v1 3).toInt ∨ ¬ (v1 5).toInt = 59 := pv6
  have hs2_f2 : f2 2 = (f 2) := kq7
  have hs3_f2 : f2 3 = (f 3) := kq8
  have hs6_f2 : f2 6 = (f 6) := kq9
  have hUv1 : (v1 35).toInt + (v1 36).toInt ≤ 40 := hIv1.2
  have hq0_v1 : v1 0 = (v 0) := hk0_v1
  have hq4_v1 : v1 4 = (v 4) := hk4_v1
  have zq4_v1 := congrArg Int32.toInt hq4_v1
  have hq8_v1 : v1 8 = (v 8) := hk8_v1
  have zq8_v1 := congrArg Int32.toInt hq8_v1
  have hq9_v1 : v1 9 = (v 9) := hk9_v1
  have zq9_v1 := congrArg Int32.toInt hq9_v1
  have hq10_v1 : v1 10 = (v 10) := hk10_v1
  have zq10_v1 := congrArg Int32.toInt hq10_v1
  have hq13_v1 : v1 13 = (v 13) := hk13_v1
  have zq13_v1 := congrArg Int32.toInt hq13_v1
  have hq14_v1 : v1 14 = (v 14) := hk14_v1
  have zq14_v1 := congrArg Int32.toInt hq14_v1
  have hq15_v1 : v1 15 = (v 15) := hk15_v1
  have zq15_v1 := congrArg Int32.toInt hq15_v1
  have hq17_v1 : v1 17 = (v 17) := hk17_v1
  have zq17_v1 := congrArg Int32.toInt hq17_v1
  have hq18_v1 : v1 18 = (v 18) := hk18_v1
  have zq18_v1 := congrArg Int32.toInt hq18_v1
  have hq24_v1 : v1 24 = (v 24) := hk24_v1
  have hq25_v1 : v1 25 = (v 25) := hk25_v1
  have hq35_v1 : v1 35 = (v 35) := hk35_v1
  have zq35_v1 := congrArg Int32.toInt hq35_v1
  have hq36_v1 : v1 36 = (v 36) := hk36_v1
  have zq36_v1 := congrArg Int32.toInt hq36_v1
  have hq38_v1 : v1 38 = (v 38) := hk38_v1
  have hq39_v1 : v1 39 = (v 39) := hk39_v1
  refine lv_aload_n hx hb dX11_told_5 rfl (lv_at hl 0 rfl) ?_
  refine lv_iconst (v := 0) hx hb dX11_told_6 (by decide) ?_
  refine lv_iload_n hx hb dX11_told_7 rfl (lv_at hl 2 rfl) ?_
  refine cbVi (n := 2) (rest := []) hx hb hml hown hts hE hP hD hS hA (sY_X11_toldNumber_1 l dC dI cy y0 r 0 p2 v1 f2 w3 g4 hIv1 hCf2 hRf2 ) k_1653 k_1655 k_53 k_114 k_1656 (by decide +kernel) ⟨Nat.le_of_ble_eq_true rfl, Nat.le_of_ble_eq_true rfl⟩ 0 11 rfl rfl (rfl) hl.1 rfl (Nat.le_of_ble_eq_true rfl) dX11_told_8 (fun r10 u H locs hw hP hD hS => ?_)
  obtain ⟨v11, f12, w13, g14⟩ := u
  obtain ⟨hIv11, hCf12, hRf12, hk0_v11, hk4_v11, hk8_v11, hk9_v11, hk10_v11, hk13_v11, hk14_v11, hk15_v11, hk17_v11, hk18_v11, hk24_v11, hk25_v11, hk35_v11, hk36_v11, hk38_v11, hk39_v11, pv15, pv16, kq17, kq18, kq19⟩ := hw
  have hP : va_P (dC, dI) vwCl (YW cy y0 r v11 f12 w13 g14) H := hP
  have hD : va_D A (YW cy y0 r v11 f12 w13 g14) := hD
  have b3_v11 : 0 ≤ (v11 3).toInt ∧ (v11 3).toInt ≤ 1600 := YIb.b hIv11.1 3 (by decide)
  have pv15 : (v1 3).toInt ≤ (v11 3).toInt := pv15
  have pv16 : (v11 5).toInt = (v1 5).toInt ∨ (v1 3).toInt < (v11 3).toInt ∨ ¬ (v11 5).toInt = 59 := pv16
  have hs2_f12 : f12 2 = (f 2) := kq17.trans hs2_f2
  have hs3_f12 : f12 3 = (f 3) := kq18.trans hs3_f2
  have hs6_f12 : f12 6 = (f 6) := kq19.trans hs6_f2
  have hUv11 : (v11 35).toInt + (v11 36).toInt ≤ 40 := hIv11.2
  have hq0_v11 : v11 0 = (v 0) := hk0_v11.trans hq0_v1
  have hq4_v11 : v11 4 = (v 4) := hk4_v11.trans hq4_v1
  have zq4_v11 := congrArg Int32.toInt hq4_v11
  have hq8_v11 : v11 8 = (v 8) := hk8_v11.trans hq8_v1
  have zq8_v11 := congrArg Int32.toInt hq8_v11
  have hq9_v11 : v11 9 = (v 9) := hk9_v11.trans hq9_v1
  have zq9_v11 := congrArg Int32.toInt hq9_v11
  have hq10_v11 : v11 10 = (v 10) := hk10_v11.trans hq10_v1
  have zq10_v11 := congrArg Int32.toInt hq10_v11
  have hq13_v11 : v11 13 = (v 13) := hk13_v11.trans hq13_v1
  have zq13_v11 := congrArg Int32.toInt hq13_v11
  have hq14_v11 : v11 14 = (v 14) := hk14_v11.trans hq14_v1
  have zq14_v11 := congrArg Int32.toInt hq14_v11
  have hq15_v11 : v11 15 = (v 15) := hk15_v11.trans hq15_v1
  have zq15_v11 := congrArg Int32.toInt hq15_v11
  have hq17_v11 : v11 17 = (v 17) := hk17_v11.trans hq17_v1
  have zq17_v11 := congrArg Int32.toInt hq17_v11
  have hq18_v11 : v11 18 = (v 18) := hk18_v11.trans hq18_v1
  have zq18_v11 := congrArg Int32.toInt hq18_v11
  have hq24_v11 : v11 24 = (v 24) := hk24_v11.trans hq24_v1
  have hq25_v11 : v11 25 = (v 25) := hk25_v11.trans hq25_v1
  have hq35_v11 : v11 35 = (v 35) := hk35_v11.trans hq35_v1
  have zq35_v11 := congrArg Int32.toInt hq35_v11
  have hq36_v11 : v11 36 = (v 36) := hk36_v11.trans hq36_v1
  have zq36_v11 := congrArg Int32.toInt hq36_v11
  have hq38_v11 : v11 38 = (v 38) := hk38_v11.trans hq38_v1
  have hq39_v11 : v11 39 = (v 39) := hk39_v11.trans hq39_v1
  exact ret r10 (v11, f12, w13, g14) _ _ _ _ _ _ rfl ⟨hIv11, hCf12, hRf12, (hk0_v11.trans hk0_v1), (hk4_v11.trans hk4_v1), (hk8_v11.trans hk8_v1), (hk9_v11.trans hk9_v1), (hk10_v11.trans hk10_v1), (hk13_v11.trans hk13_v1), (hk14_v11.trans hk14_v1), (hk15_v11.trans hk15_v1), (hk17_v11.trans hk17_v1), (hk18_v11.trans hk18_v1), (hk24_v11.trans hk24_v1), (hk25_v11.trans hk25_v1), (hk35_v11.trans hk35_v1), (hk36_v11.trans hk36_v1), (hk38_v11.trans hk38_v1), (hk39_v11.trans hk39_v1), (by show (v 3).toInt ≤ (v11 3).toInt; omega), (by show (v11 5).toInt = (v 5).toInt ∨ (v 3).toInt < (v11 3).toInt ∨ ¬ (v11 5).toInt = 59; omega), hs2_f12, hs3_f12, hs6_f12⟩ hP hD hS dX11_told_11 (Nat.le_refl _) (Nat.le_refl _)
set_option maxHeartbeats 4000000 in
set_option maxRecDepth 100000 in
theorem sY_X11_asked_1 (l : Launch) (dC : Nat → ClassId) (dI : Nat → Nat → Nat) (cy : Nat → ClassId) (y0 : Nat) (r : Nat → Nat)  (v : Nat → Int32) (f : Nat → Nat → Int32) (w : Int64) (g : Nat → Int64) (hIv : YI v) (hCf : YC f) (hRf : progOK (f 4) (f 5) (v 9).toInt.toNat)  : ctI l (dC, dI) cy yX11_asked cX11_asked 1 .int 1 60 0 0 Unit [.ref y0] (YW cy y0 r v f w g) (fun r u => ((-1 : Int) ≤ r.toInt ∧ r.toInt ≤ 5)) (fun u => YW cy y0 r v f w g) := by
  refine ctI_of (by decide) (Nat.le_of_ble_eq_true rfl) (fun p e s m below meth c A ls Q hx hb hml hts hown hE hP hD hA hl ret => ?_)
  have hUv : (v 35).toInt + (v 36).toInt ≤ 40 := hIv.2
  have hown : s.vm.findClass RX11 = some m.cls := hown
  have hS : va_S A s.heap s.heap [] := va_S.rf
  have hl : lv_has ls 1 [(0, .ref y0)] := hl
  refine lv_aload_n hx hb dX11_asked_0 rfl (lv_at hl 0 rfl) ?_
  refine va_get (D := (dC, dI)) (ci := 11) (v := .int (v 5)) (C := RX11) (T := TX11) (N := 79) hx hb hts inB_11 hown hE.1 hP 0 rfl rfl 6 (by decide) (hts _ k_1326) (fun _ h9 => h9) rfl dX11_asked_1 ?_
  refine lv_iconst (v := 1) hx hb dX11_asked_4 (by decide) ?_
  refine lv_icmp_eq (tgt := 10) hx hb dX11_asked_5 (by decide) (fun c1 => ?_) (fun c1 => ?_)
  · skip
    have zc1 : (v 5).toInt = 1 := by rw [fa_eq, show (1 : Int32).toInt = 1 from by decide] at c1; exact c1
    refine lv_aload_n hx hb dX11_asked_10 rfl (lv_at hl 0 rfl) ?_
    refine va_get (D := (dC, dI)) (ci := 11) (v := .long w) (C := RX11) (T := TX11) (N := 79) hx hb hts inB_11 hown hE.1 hP 0 rfl rfl 9 (by decide) (hts _ k_1329) (fun _ h9 => h9) rfl dX11_asked_11 ?_
    refine lv_ldc2 (v := 499984590964) hx hb hown (hts _ k_1633) dX11_asked_14 ?_
    refine W.lcmp hx hb dX11_asked_17 ?_
    refine lv_topi (fun t2 et2 => ?_)
    refine lv_if_ne (tgt := 23) hx hb dX11_asked_18 (by decide) (fun c3 => ?_) (fun c3 => ?_)
    · skip
      have zc3 : ¬ (t2.toInt = 0) := by rw [fa_eq, show (0 : Int32).toInt = 0 from by decide] at c3; exact c3
      refine lv_aload_n hx hb dX11_asked_23 rfl (lv_at hl 0 rfl) ?_
      refine va_get (D := (dC, dI)) (ci := 11) (v := .long w) (C := RX11) (T := TX11) (N := 79) hx hb hts inB_11 hown hE.1 hP 0 rfl rfl 9 (by decide) (hts _ k_1329) (fun _ h9 => h9) rfl dX11_asked_24 ?_
      refine lv_ldc2 (v := 465726042981) hx hb hown (hts _ k_1634) dX11_asked_27 ?_
      refine W.lcmp hx hb dX11_asked_30 ?_
      refine lv_topi (fun t4 et4 => ?_)
      refine lv_if_ne (tgt := 36) hx hb dX11_asked_31 (by decide) (fun c5 => ?_) (fun c5 => ?_)
      · skip
        have zc5 : ¬ (t4.toInt = 0) := by rw [fa_eq, show (0 : Int32).toInt = 0 from by decide] at c5; exact c5
        refine lv_aload_n hx hb dX11_asked_36 rfl (lv_at hl 0 rfl) ?_
        refine va_get (D := (dC, dI)) (ci := 11) (v := .long w) (C := RX11) (T := TX11) (N := 79) hx hb hts inB_11 hown hE.1 hP 0 rfl rfl 9 (by decide) (hts _ k_1329) (fun _ h9 => h9) rfl dX11_asked_37 ?_
        refine lv_ldc2 (v := 495673373300) hx hb hown (hts _ k_1635) dX11_asked_40 ?_
        refine W.lcmp hx hb dX11_asked_43 ?_
        refine lv_topi (fun t6 et6 => ?_)
        refine lv_if_ne (tgt := 49) hx hb dX11_asked_44 (by decide) (fun c7 => ?_) (fun c7 => ?_)
        · skip
          have zc7 : ¬ (t6.toInt = 0) := by rw [fa_eq, show (0 : Int32).toInt = 0 from by decide] at c7; exact c7
          refine lv_aload_n hx hb dX11_asked_49 rfl (lv_at hl 0 rfl) ?_
          refine va_get (D := (dC, dI)) (ci := 11) (v := .long w) (C := RX11) (T := TX11) (N := 79) hx hb hts inB_11 hown hE.1 hP 0 rfl rfl 9 (by decide) (hts _ k_1329) (fun _ h9 => h9) rfl dX11_asked_50 ?_
          refine lv_ldc2 (v := 1819242087) hx hb hown (hts _ k_1636) dX11_asked_53 ?_
          refine W.lcmp hx hb dX11_asked_56 ?_
          refine lv_topi (fun t8 et8 => ?_)
          refine lv_if_ne (tgt := 62) hx hb dX11_asked_57 (by decide) (fun c9 => ?_) (fun c9 => ?_)
          · skip
            have zc9 : ¬ (t8.toInt = 0) := by rw [fa_eq, show (0 : Int32).toInt = 0 from by decide] at c9; exact c9
            refine lv_aload_n hx hb dX11_asked_62 rfl (lv_at hl 0 rfl) ?_
            refine va_get (D := (dC, dI)) (ci := 11) (v := .long w) (C := RX11) (T := TX11) (N := 79) hx hb hts inB_11 hown hE.1 hP 0 rfl rfl 9 (by decide) (hts _ k_1329) (fun _ h9 => h9) rfl dX11_asked_63 ?_
            refine lv_ldc2 (v := 2003792494) hx hb hown (hts _ k_1626) dX11_asked_66 ?_
            refine W.lcmp hx hb dX11_asked_69 ?_
            refine lv_topi (fun t10 et10 => ?_)
            refine lv_if_ne (tgt := 75) hx hb dX11_asked_70 (by decide) (fun c11 => ?_) (fun c11 => ?_)
            · skip
              have zc11 : ¬ (t10.toInt = 0) := by rw [fa_eq, show (0 : Int32).toInt = 0 from by decide] at c11; exact c11
              refine lv_aload_n hx hb dX11_asked_75 rfl (lv_at hl 0 rfl) ?_
              refine va_get (D := (dC, dI)) (ci := 11) (v := .long w) (C := RX11) (T := TX11) (N := 79) hx hb hts inB_11 hown hE.1 hP 0 rfl rfl 9 (by decide) (hts _ k_1329) (fun _ h9 => h9) rfl dX11_asked_76 ?_
              refine lv_ldc2 (v := 6578553) hx hb hown (hts _ k_1637) dX11_asked_79 ?_
              refine W.lcmp hx hb dX11_asked_82 ?_
              refine lv_topi (fun t12 et12 => ?_)
              refine lv_if_ne (tgt := 90) hx hb dX11_asked_83 (by decide) (fun c13 => ?_) (fun c13 => ?_)
              · skip
                have zc13 : ¬ (t12.toInt = 0) := by rw [fa_eq, show (0 : Int32).toInt = 0 from by decide] at c13; exact c13
                refine lv_iconst (v := (-1)) hx hb dX11_asked_90 (by decide) ?_
                exact ret (-1) () _ _ _ _ _ _ rfl ⟨by decide, by decide⟩ hP hD hS dX11_asked_91 (Nat.le_refl _) (Nat.le_refl _)
              · skip
                have zc13 : t12.toInt = 0 := by rw [fa_eq, show (0 : Int32).toInt = 0 from by decide] at c13; exact c13
                refine lv_iconst (v := 5) hx hb dX11_asked_86 (by decide) ?_
                refine lv_goto (tgt := 91) hx hb dX11_asked_87 (by decide) ?_
                exact ret 5 () _ _ _ _ _ _ rfl ⟨by decide, by decide⟩ hP hD hS dX11_asked_91 (Nat.le_refl _) (Nat.le_refl _)
            · skip
              have zc11 : t10.toInt = 0 := by rw [fa_eq, show (0 : Int32).toInt = 0 from by decide] at c11; exact c11
              refine lv_iconst (v := 4) hx hb dX11_asked_73 (by decide) ?_
              exact ret 4 () _ _ _ _ _ _ rfl ⟨by decide, by decide⟩ hP hD hS dX11_asked_74 (Nat.le_refl _) (Nat.le_refl _)
          · skip
            have zc9 : t8.toInt = 0 := by rw [fa_eq, show (0 : Int32).toInt = 0 from by decide] at c9; exact c9
            refine lv_iconst (v := 3) hx hb dX11_asked_60 (by decide) ?_
            exact ret 3 () _ _ _ _ _ _ rfl ⟨by decide, by decide⟩ hP hD hS dX11_asked_61 (Nat.le_refl _) (Nat.le_refl _)
        · skip
          have zc7 : t6.toInt = 0 := by rw [fa_eq, show (0 : Int32).toInt = 0 from by decide] at c7; exact c7
          refine lv_iconst (v := 2) hx hb dX11_asked_47 (by decide) ?_
          exact ret 2 () _ _ _ _ _ _ rfl ⟨by decide, by decide⟩ hP hD hS dX11_asked_48 (Nat.le_refl _) (Nat.le_refl _)
      · skip
        have zc5 : t4.toInt = 0 := by rw [fa_eq, show (0 : Int32).toInt = 0 from by decide] at c5; exact c5
        refine lv_iconst (v := 1) hx hb dX11_asked_34 (by decide) ?_
        exact ret 1 () _ _ _ _ _ _ rfl ⟨by decide, by decide⟩ hP hD hS dX11_asked_35 (Nat.le_refl _) (Nat.le_refl _)
    · skip
      have zc3 : t2.toInt = 0 := by rw [fa_eq, show (0 : Int32).toInt = 0 from by decide] at c3; exact c3
      refine lv_iconst (v := 0) hx hb dX11_asked_21 (by decide) ?_
      exact ret 0 () _ _ _ _ _ _ rfl ⟨by decide, by decide⟩ hP hD hS dX11_asked_22 (Nat.le_refl _) (Nat.le_refl _)
  · skip
    have zc1 : ¬ ((v 5).toInt = 1) := by rw [fa_eq, show (1 : Int32).toInt = 1 from by decide] at c1; exact c1
    refine lv_iconst (v := (-1)) hx hb dX11_asked_8 (by decide) ?_
    exact ret (-1) () _ _ _ _ _ _ rfl ⟨by decide, by decide⟩ hP hD hS dX11_asked_9 (Nat.le_refl _) (Nat.le_refl _)
set_option maxHeartbeats 4000000 in
set_option maxRecDepth 100000 in
theorem sY_X11_countUnit_1 (l : Launch) (dC : Nat → ClassId) (dI : Nat → Nat → Nat) (cy : Nat → ClassId) (y0 : Nat) (r : Nat → Nat)  (v : Nat → Int32) (f : Nat → Nat → Int32) (w : Int64) (g : Nat → Int64) (hIv : YI v) (hCf : YC f) (hRf : progOK (f 4) (f 5) (v 9).toInt.toNat)  (hf0 : (v 13).toInt ≤ 30) : ctV l (dC, dI) cy yX11_countUnit cX11_countUnit 1 1 60 0 0 ((Nat → Int32) × (Nat → Nat → Int32) × (Int64) × (Nat → Int64)) [.ref y0] (YW cy y0 r v f w g) (fun u => YI u.1 ∧ YC u.2.1 ∧ progOK (u.2.1 4) (u.2.1 5) (u.1 9).toInt.toNat ∧ u.1 0 = v 0 ∧ u.1 1 = v 1 ∧ u.1 3 = v 3 ∧ u.1 4 = v 4 ∧ u.1 5 = v 5 ∧ u.1 8 = v 8 ∧ u.1 9 = v 9 ∧ u.1 10 = v 10 ∧ u.1 14 = v 14 ∧ u.1 15 = v 15 ∧ u.1 17 = v 17 ∧ u.1 18 = v 18 ∧ u.1 24 = v 24 ∧ u.1 25 = v 25 ∧ u.1 35 = v 35 ∧ u.1 36 = v 36 ∧ u.1 38 = v 38 ∧ u.1 39 = v 39 ∧ ((u.1 13).toInt = (v 13).toInt + 1) ∧ u.2.1 2 = f 2 ∧ u.2.1 3 = f 3 ∧ u.2.1 6 = f 6) (fun u => YW cy y0 r u.1 u.2.1 u.2.2.1 u.2.2.2) := by
  refine ctV_of (by decide) (Nat.le_of_ble_eq_true rfl) (fun p e s m below meth c A ls Q hx hb hml hts hown hnm hE hP hD hA hl ret => ?_)
  have hUv : (v 35).toInt + (v 36).toInt ≤ 40 := hIv.2
  have b0_v : (0 : Int) ≤ (v 0).toInt ∧ (v 0).toInt ≤ 1600 := YIb.b hIv.1 0 (by decide)
  have b1_v : (0 : Int) ≤ (v 1).toInt ∧ (v 1).toInt ≤ 4 := YIb.b hIv.1 1 (by decide)
  have b3_v : (0 : Int) ≤ (v 3).toInt ∧ (v 3).toInt ≤ 1600 := YIb.b hIv.1 3 (by decide)
  have b4_v : (0 : Int) ≤ (v 4).toInt ∧ (v 4).toInt ≤ 1600 := YIb.b hIv.1 4 (by decide)
  have b8_v : (0 : Int) ≤ (v 8).toInt ∧ (v 8).toInt ≤ 320 := YIb.b hIv.1 8 (by decide)
  have b9_v : (0 : Int) ≤ (v 9).toInt ∧ (v 9).toInt ≤ 320 := YIb.b hIv.1 9 (by decide)
  have b10_v : (0 : Int) ≤ (v 10).toInt ∧ (v 10).toInt ≤ 160 := YIb.b hIv.1 10 (by decide)
  have b13_v : (0 : Int) ≤ (v 13).toInt ∧ (v 13).toInt ≤ 31 := YIb.b hIv.1 13 (by decide)
  have b14_v : (0 : Int) ≤ (v 14).toInt ∧ (v 14).toInt ≤ 8 := YIb.b hIv.1 14 (by decide)
  have b17_v : (0 : Int) ≤ (v 17).toInt ∧ (v 17).toInt ≤ 6 := YIb.b hIv.1 17 (by decide)
  have b18_v : (0 : Int) ≤ (v 18).toInt ∧ (v 18).toInt ≤ 6 := YIb.b hIv.1 18 (by decide)
  have b24_v : (0 : Int) ≤ (v 24).toInt ∧ (v 24).toInt ≤ 6 := YIb.b hIv.1 24 (by decide)
  have b25_v : (0 : Int) ≤ (v 25).toInt ∧ (v 25).toInt ≤ 6 := YIb.b hIv.1 25 (by decide)
  have b35_v : (0 : Int) ≤ (v 35).toInt ∧ (v 35).toInt ≤ 40 := YIb.b hIv.1 35 (by decide)
  have b36_v : (0 : Int) ≤ (v 36).toInt ∧ (v 36).toInt ≤ 40 := YIb.b hIv.1 36 (by decide)
  have b37_v : (0 : Int) ≤ (v 37).toInt ∧ (v 37).toInt ≤ 6 := YIb.b hIv.1 37 (by decide)
  have b38_v : (0 : Int) ≤ (v 38).toInt ∧ (v 38).toInt ≤ 30 := YIb.b hIv.1 38 (by decide)
  have b39_v : (0 : Int) ≤ (v 39).toInt ∧ (v 39).toInt ≤ 100000 := YIb.b hIv.1 39 (by decide)
  have hown : s.vm.findClass RX11 = some m.cls := hown
  have hS : va_S A s.heap s.heap [] := va_S.rf
  have hl : lv_has ls 1 [(0, .ref y0)] := hl
  refine lv_aload_n hx hb dX11_countUnit_0 rfl (lv_at hl 0 rfl) ?_
  refine lv_dup hx hb dX11_countUnit_1 rfl ?_
  refine va_get (D := (dC, dI)) (ci := 11) (v := .int (v 11)) (C := RX11) (T := TX11) (N := 79) hx hb hts inB_11 hown hE.1 hP 0 rfl rfl 20 (by decide) (hts _ k_1340) (fun _ h9 => h9) rfl dX11_countUnit_2 ?_
  refine lv_iconst (v := 1) hx hb dX11_countUnit_5 (by decide) ?_
  refine lv_iadd hx hb dX11_countUnit_6 ?_
  refine lv_topi (fun t1 et1 => ?_)
  refine va_put (D := (dC, dI)) (ci := 11) (v := .int t1) (ty := tyX11 20) (C := RX11) (T := TX11) (N := 79) hx hb hts inB_11 tyX11 tyX11_ok nmX11 hown hE.1 hP hD hS 0 rfl rfl 20 (by decide) (hts _ k_1340) (fun _ h9 => h9) rfl (tyX11_ok 20 (by decide)) rfl rfl (Nat.le_of_ble_eq_true rfl) dX11_countUnit_7 (fun H locs hP hD hS => ?_)
  have hP : va_P (dC, dI) vwCl (YW cy y0 r (upd v 11 t1) f w g) H := hP
  have hD : va_D A (YW cy y0 r (upd v 11 t1) f w g) := hD
  refine lv_aload_n hx hb dX11_countUnit_10 rfl (lv_at hl 0 rfl) ?_
  refine lv_dup hx hb dX11_countUnit_11 rfl ?_
  refine va_get (D := (dC, dI)) (ci := 11) (v := .int (v 13)) (C := RX11) (T := TX11) (N := 79) hx hb hts inB_11 hown hE.1 hP 0 rfl rfl 22 (by decide) (hts _ k_1342) (fun _ h9 => h9) rfl dX11_countUnit_12 ?_
  have b13_v : 0 ≤ (v 13).toInt ∧ (v 13).toInt ≤ 31 := YIb.b hIv.1 13 (by decide)
  refine lv_iconst (v := 1) hx hb dX11_countUnit_15 (by decide) ?_
  refine lv_iadd hx hb dX11_countUnit_16 ?_
  refine lv_topi (fun t2 et2 => ?_)
  have rg3 := fb_rng (v 13)
  have zt2 : t2.toInt = (v 13).toInt + 1 := by rw [et2]; exact add_i rfl (by decide) (by omega) (by omega)
  refine va_put (D := (dC, dI)) (ci := 11) (v := .int t2) (ty := tyX11 22) (C := RX11) (T := TX11) (N := 79) hx hb hts inB_11 tyX11 tyX11_ok nmX11 hown hE.1 hP hD hS 0 rfl rfl 22 (by decide) (hts _ k_1342) (fun _ h9 => h9) rfl (tyX11_ok 22 (by decide)) rfl rfl (Nat.le_of_ble_eq_true rfl) dX11_countUnit_17 (fun H locs hP hD hS => ?_)
  have hP : va_P (dC, dI) vwCl (YW cy y0 r (upd (upd v 11 t1) 13 t2) f w g) H := hP
  have hD : va_D A (YW cy y0 r (upd (upd v 11 t1) 13 t2) f w g) := hD
  exact ret ((upd (upd v 11 t1) 13 t2), f, w, g) _ _ _ _ _ _ ⟨⟨(YIb.upd (j := 13) (x := t2) (YIb.upd (j := 11) (x := t1) hIv.1 (rlo _) (rhi _)) (show (0 : Int) ≤ t2.toInt by omega) (show t2.toInt ≤ (31 : Int) by omega)), hIv.2⟩, hCf, hRf, rfl, rfl, rfl, rfl, rfl, rfl, rfl, rfl, rfl, rfl, rfl, rfl, rfl, rfl, rfl, rfl, rfl, rfl, (by show t2.toInt = (v 13).toInt + 1; omega), rfl, rfl, rfl⟩ hP hD hS dX11_countUnit_20 (Nat.le_refl _) (Nat.le_refl _)
set_option maxHeartbeats 4000000 in
set_option maxRecDepth 100000 in
theorem sY_X11_add_1 (l : Launch) (dC : Nat → ClassId) (dI : Nat → Nat → Nat) (cy : Nat → ClassId) (y0 : Nat) (r : Nat → Nat) (p1 : Int32) (p2 : Int32) (v : Nat → Int32) (f : Nat → Nat → Int32) (w : Int64) (g : Nat → Int64) (hIv : YI v) (hCf : YC f) (hRf : progOK (f 4) (f 5) (v 9).toInt.toNat)  (hf0 : (v 8).toInt ≤ 319) : ctV l (dC, dI) cy yX11_add cX11_add 3 1 60 0 0 ((Nat → Int32) × (Nat → Nat → Int32) × (Int64) × (Nat → Int64)) [.ref y0, .int p1, .int p2] (YW cy y0 r v f w g) (fun u => YI u.1 ∧ YC u.2.1 ∧ progOK (u.2.1 4) (u.2.1 5) (u.1 9).toInt.toNat ∧ u.1 0 = v 0 ∧ u.1 1 = v 1 ∧ u.1 3 = v 3 ∧ u.1 4 = v 4 ∧ u.1 5 = v 5 ∧ u.1 9 = v 9 ∧ u.1 10 = v 10 ∧ u.1 13 = v 13 ∧ u.1 14 = v 14 ∧ u.1 15 = v 15 ∧ u.1 17 = v 17 ∧ u.1 18 = v 18 ∧ u.1 24 = v 24 ∧ u.1 25 = v 25 ∧ u.1 35 = v 35 ∧ u.1 36 = v 36 ∧ u.1 38 = v 38 ∧ u.1 39 = v 39 ∧ ((u.1 8).toInt = (v 8).toInt + 1) ∧ ((u.2.1 2) = upd (f 2) ((v 8).toInt).toNat p1) ∧ ((u.2.1 3) = upd (f 3) ((v 8).toInt).toNat p2) ∧ u.2.1 6 = f 6) (fun u => YW cy y0 r u.1 u.2.1 u.2.2.1 u.2.2.2) := by
  refine ctV_of (by decide) (Nat.le_of_ble_eq_true rfl) (fun p e s m below meth c A ls Q hx hb hml hts hown hnm hE hP hD hA hl ret => ?_)
  have hUv : (v 35).toInt + (v 36).toInt ≤ 40 := hIv.2
  have b0_v : (0 : Int) ≤ (v 0).toInt ∧ (v 0).toInt ≤ 1600 := YIb.b hIv.1 0 (by decide)
  have b1_v : (0 : Int) ≤ (v 1).toInt ∧ (v 1).toInt ≤ 4 := YIb.b hIv.1 1 (by decide)
  have b3_v : (0 : Int) ≤ (v 3).toInt ∧ (v 3).toInt ≤ 1600 := YIb.b hIv.1 3 (by decide)
  have b4_v : (0 : Int) ≤ (v 4).toInt ∧ (v 4).toInt ≤ 1600 := YIb.b hIv.1 4 (by decide)
  have b8_v : (0 : Int) ≤ (v 8).toInt ∧ (v 8).toInt ≤ 320 := YIb.b hIv.1 8 (by decide)
  have b9_v : (0 : Int) ≤ (v 9).toInt ∧ (v 9).toInt ≤ 320 := YIb.b hIv.1 9 (by decide)
  have b10_v : (0 : Int) ≤ (v 10).toInt ∧ (v 10).toInt ≤ 160 := YIb.b hIv.1 10 (by decide)
  have b13_v : (0 : Int) ≤ (v 13).toInt ∧ (v 13).toInt ≤ 31 := YIb.b hIv.1 13 (by decide)
  have b14_v : (0 : Int) ≤ (v 14).toInt ∧ (v 14).toInt ≤ 8 := YIb.b hIv.1 14 (by decide)
  have b17_v : (0 : Int) ≤ (v 17).toInt ∧ (v 17).toInt ≤ 6 := YIb.b hIv.1 17 (by decide)
  have b18_v : (0 : Int) ≤ (v 18).toInt ∧ (v 18).toInt ≤ 6 := YIb.b hIv.1 18 (by decide)
  have b24_v : (0 : Int) ≤ (v 24).toInt ∧ (v 24).toInt ≤ 6 := YIb.b hIv.1 24 (by decide)
  have b25_v : (0 : Int) ≤ (v 25).toInt ∧ (v 25).toInt ≤ 6 := YIb.b hIv.1 25 (by decide)
  have b35_v : (0 : Int) ≤ (v 35).toInt ∧ (v 35).toInt ≤ 40 := YIb.b hIv.1 35 (by decide)
  have b36_v : (0 : Int) ≤ (v 36).toInt ∧ (v 36).toInt ≤ 40 := YIb.b hIv.1 36 (by decide)
  have b37_v : (0 : Int) ≤ (v 37).toInt ∧ (v 37).toInt ≤ 6 := YIb.b hIv.1 37 (by decide)
  have b38_v : (0 : Int) ≤ (v 38).toInt ∧ (v 38).toInt ≤ 30 := YIb.b hIv.1 38 (by decide)
  have b39_v : (0 : Int) ≤ (v 39).toInt ∧ (v 39).toInt ≤ 100000 := YIb.b hIv.1 39 (by decide)
  have hown : s.vm.findClass RX11 = some m.cls := hown
  have hS : va_S A s.heap s.heap [] := va_S.rf
  have hl : lv_has ls 3 [(0, .ref y0), (1, .int p1), (2, .int p2)] := hl
  refine lv_aload_n hx hb dX11_add_0 rfl (lv_at hl 0 rfl) ?_
  refine va_get (D := (dC, dI)) (ci := 11) (v := .ref (r 11)) (C := RX11) (T := TX11) (N := 79) hx hb hts inB_11 hown hE.1 hP 0 rfl rfl 11 (by decide) (hts _ k_1331) (fun _ h9 => h9) rfl dX11_add_1 ?_
  refine lv_aload_n hx hb dX11_add_4 rfl (lv_at hl 0 rfl) ?_
  refine va_get (D := (dC, dI)) (ci := 11) (v := .int (v 8)) (C := RX11) (T := TX11) (N := 79) hx hb hts inB_11 hown hE.1 hP 0 rfl rfl 17 (by decide) (hts _ k_1337) (fun _ h9 => h9) rfl dX11_add_5 ?_
  have b8_v : 0 ≤ (v 8).toInt ∧ (v 8).toInt ≤ 320 := YIb.b hIv.1 8 (by decide)
  refine lv_iload_n hx hb dX11_add_8 rfl (lv_at hl 1 rfl) ?_
  refine stI hx hb hE hP hD hS 3 rfl (vp_in_iff.mpr ⟨by omega, by omega⟩) rfl dX11_add_9 (fun H locs hP hD hS => ?_)
  obtain ⟨f1, ef1, hP, hD⟩ : ∃ fz9, fz9 = upd2 f 2 (upd (f 2) (v 8).toNatClampNeg p1) ∧ va_P (dC, dI) vwCl (YW cy y0 r v fz9 w g) H ∧ va_D A (YW cy y0 r v fz9 w g) := ⟨_, rfl, hP, hD⟩
  have hCf1 : YC f1 := by rw [ef1]; exact hCf
  have hRf1 : progOK (f1 4) (f1 5) (v 9).toInt.toNat := by rw [ef1]; exact hRf
  have hs2_f1 : f1 2 = (upd (f 2) ((v 8).toInt.toNat) p1) := by rw [ef1]; show upd (f 2) ((v 8).toInt.toNat) p1 = _; rfl
  have hs3_f1 : f1 3 = (f 3) := by rw [ef1]; exact rfl
  have hs6_f1 : f1 6 = (f 6) := by rw [ef1]; exact rfl
  refine lv_aload_n hx hb dX11_add_10 rfl (lv_at hl 0 rfl) ?_
  refine va_get (D := (dC, dI)) (ci := 11) (v := .ref (r 12)) (C := RX11) (T := TX11) (N := 79) hx hb hts inB_11 hown hE.1 hP 0 rfl rfl 12 (by decide) (hts _ k_1332) (fun _ h9 => h9) rfl dX11_add_11 ?_
  refine lv_aload_n hx hb dX11_add_14 rfl (lv_at hl 0 rfl) ?_
  refine va_get (D := (dC, dI)) (ci := 11) (v := .int (v 8)) (C := RX11) (T := TX11) (N := 79) hx hb hts inB_11 hown hE.1 hP 0 rfl rfl 17 (by decide) (hts _ k_1337) (fun _ h9 => h9) rfl dX11_add_15 ?_
  refine lv_iload_n hx hb dX11_add_18 rfl (lv_at hl 2 rfl) ?_
  refine stI hx hb hE hP hD hS 4 rfl (vp_in_iff.mpr ⟨by omega, by omega⟩) rfl dX11_add_19 (fun H locs hP hD hS => ?_)
  obtain ⟨f2, ef2, hP, hD⟩ : ∃ fz9, fz9 = upd2 f1 3 (upd (f1 3) (v 8).toNatClampNeg p2) ∧ va_P (dC, dI) vwCl (YW cy y0 r v fz9 w g) H ∧ va_D A (YW cy y0 r v fz9 w g) := ⟨_, rfl, hP, hD⟩
  have hCf2 : YC f2 := by rw [ef2]; exact hCf1
  have hRf2 : progOK (f2 4) (f2 5) (v 9).toInt.toNat := by rw [ef2]; exact hRf1
  have hs2_f2 : f2 2 = (upd (f 2) ((v 8).toInt.toNat) p1) := by rw [ef2]; exact hs2_f1
  have hs3_f2 : f2 3 = (upd (f 3) ((v 8).toInt.toNat) p2) := by rw [ef2]; show upd (f1 3) ((v 8).toInt.toNat) p2 = _; rw [hs3_f1]
  have hs6_f2 : f2 6 = (f 6) := by rw [ef2]; exact hs6_f1
  refine lv_aload_n hx hb dX11_add_20 rfl (lv_at hl 0 rfl) ?_
  refine lv_dup hx hb dX11_add_21 rfl ?_
  refine va_get (D := (dC, dI)) (ci := 11) (v := .int (v 8)) (C := RX11) (T := TX11) (N := 79) hx hb hts inB_11 hown hE.1 hP 0 rfl rfl 17 (by decide) (hts _ k_1337) (fun _ h9 => h9) rfl dX11_add_22 ?_
  refine lv_iconst (v := 1) hx hb dX11_add_25 (by decide) ?_
  refine lv_iadd hx hb dX11_add_26 ?_
  refine lv_topi (fun t3 et3 => ?_)
  have rg4 := fb_rng (v 8)
  have zt3 : t3.toInt = (v 8).toInt + 1 := by rw [et3]; exact add_i rfl (by decide) (by omega) (by omega)
  refine va_put (D := (dC, dI)) (ci := 11) (v := .int t3) (ty := tyX11 17) (C := RX11) (T := TX11) (N := 79) hx hb hts inB_11 tyX11 tyX11_ok nmX11 hown hE.1 hP hD hS 0 rfl rfl 17 (by decide) (hts _ k_1337) (fun _ h9 => h9) rfl (tyX11_ok 17 (by decide)) rfl rfl (Nat.le_of_ble_eq_true rfl) dX11_add_27 (fun H locs hP hD hS => ?_)
  have hP : va_P (dC, dI) vwCl (YW cy y0 r (upd v 8 t3) f2 w g) H := hP
  have hD : va_D A (YW cy y0 r (upd v 8 t3) f2 w g) := hD
  exact ret ((upd v 8 t3), f2, w, g) _ _ _ _ _ _ ⟨⟨(YIb.upd (j := 8) (x := t3) hIv.1 (show (0 : Int) ≤ t3.toInt by omega) (show t3.toInt ≤ (320 : Int) by omega)), hIv.2⟩, hCf2, hRf2, rfl, rfl, rfl, rfl, rfl, rfl, rfl, rfl, rfl, rfl, rfl, rfl, rfl, rfl, rfl, rfl, rfl, rfl, (by show t3.toInt = (v 8).toInt + 1; omega), (by show (f2 2) = upd (f 2) ((v 8).toInt).toNat p1; rw [hs2_f2]; first | done | rfl), (by show (f2 3) = upd (f 3) ((v 8).toInt).toNat p2; rw [hs3_f2]; first | done | rfl), hs6_f2⟩ hP hD hS dX11_add_30 (Nat.le_refl _) (Nat.le_refl _)
set_option maxHeartbeats 4000000 in
set_option maxRecDepth 100000 in
theorem sY_X11_isFull_1 (l : Launch) (dC : Nat → ClassId) (dI : Nat → Nat → Nat) (cy : Nat → ClassId) (y0 : Nat) (r : Nat → Nat)  (v : Nat → Int32) (f : Nat → Nat → Int32) (w : Int64) (g : Nat → Int64) (hIv : YI v) (hCf : YC f) (hRf : progOK (f 4) (f 5) (v 9).toInt.toNat)  : ctI l (dC, dI) cy yX11_isFull cX11_isFull 1 .boolean 1 60 0 0 Unit [.ref y0] (YW cy y0 r v f w g) (fun r u => ((r = 1) ∨ (r = 0 ∧ ¬ (v 13).toInt = 30))) (fun u => YW cy y0 r v f w g) := by
  refine ctI_of (by decide) (Nat.le_of_ble_eq_true rfl) (fun p e s m below meth c A ls Q hx hb hml hts hown hE hP hD hA hl ret => ?_)
  have hUv : (v 35).toInt + (v 36).toInt ≤ 40 := hIv.2
  have hown : s.vm.findClass RX11 = some m.cls := hown
  have hS : va_S A s.heap s.heap [] := va_S.rf
  have hl : lv_has ls 1 [(0, .ref y0)] := hl
  refine lv_aload_n hx hb dX11_isFull_0 rfl (lv_at hl 0 rfl) ?_
  refine va_get (D := (dC, dI)) (ci := 11) (v := .int (v 11)) (C := RX11) (T := TX11) (N := 79) hx hb hts inB_11 hown hE.1 hP 0 rfl rfl 20 (by decide) (hts _ k_1340) (fun _ h9 => h9) rfl dX11_isFull_1 ?_
  refine lv_bipush (v := 60) hx hb dX11_isFull_4 (by decide) ?_
  refine lv_icmp_eq (tgt := 18) hx hb dX11_isFull_6 (by decide) (fun c1 => ?_) (fun c1 => ?_)
  · skip
    have zc1 : (v 11).toInt = 60 := by rw [fa_eq, show (60 : Int32).toInt = 60 from by decide] at c1; exact c1
    refine lv_iconst (v := 1) hx hb dX11_isFull_18 (by decide) ?_
    refine lv_goto (tgt := 23) hx hb dX11_isFull_19 (by decide) ?_
    exact ret 1 () _ _ _ _ _ _ rfl (Or.inl rfl) hP hD hS dX11_isFull_23 (Nat.le_refl _) (Nat.le_refl _)
  · skip
    have zc1 : ¬ ((v 11).toInt = 60) := by rw [fa_eq, show (60 : Int32).toInt = 60 from by decide] at c1; exact c1
    refine lv_aload_n hx hb dX11_isFull_9 rfl (lv_at hl 0 rfl) ?_
    refine va_get (D := (dC, dI)) (ci := 11) (v := .int (v 13)) (C := RX11) (T := TX11) (N := 79) hx hb hts inB_11 hown hE.1 hP 0 rfl rfl 22 (by decide) (hts _ k_1342) (fun _ h9 => h9) rfl dX11_isFull_10 ?_
    have b13_v : 0 ≤ (v 13).toInt ∧ (v 13).toInt ≤ 31 := YIb.b hIv.1 13 (by decide)
    refine lv_bipush (v := 30) hx hb dX11_isFull_13 (by decide) ?_
    refine lv_icmp_ne (tgt := 22) hx hb dX11_isFull_15 (by decide) (fun c2 => ?_) (fun c2 => ?_)
    · skip
      have zc2 : ¬ ((v 13).toInt = 30) := by rw [fa_eq, show (30 : Int32).toInt = 30 from by decide] at c2; exact c2
      refine lv_iconst (v := 0) hx hb dX11_isFull_22 (by decide) ?_
      exact ret 0 () _ _ _ _ _ _ rfl (Or.inr ⟨rfl, by omega⟩) hP hD hS dX11_isFull_23 (Nat.le_refl _) (Nat.le_refl _)
    · skip
      have zc2 : (v 13).toInt = 30 := by rw [fa_eq, show (30 : Int32).toInt = 30 from by decide] at c2; exact c2
      refine lv_iconst (v := 1) hx hb dX11_isFull_18 (by decide) ?_
      refine lv_goto (tgt := 23) hx hb dX11_isFull_19 (by decide) ?_
      exact ret 1 () _ _ _ _ _ _ rfl (Or.inl rfl) hP hD hS dX11_isFull_23 (Nat.le_refl _) (Nat.le_refl _)
set_option maxHeartbeats 4000000 in
set_option maxRecDepth 100000 in
theorem sY_X11_openUp_1 (l : Launch) (dC : Nat → ClassId) (dI : Nat → Nat → Nat) (cy : Nat → ClassId) (y0 : Nat) (r : Nat → Nat) (p1 : Int32) (v : Nat → Int32) (f : Nat → Nat → Int32) (w : Int64) (g : Nat → Int64) (hIv : YI v) (hCf : YC f) (hRf : progOK (f 4) (f 5) (v 9).toInt.toNat)  (hf0 : (v 10).toInt ≤ 159) (hf1 : (v 14).toInt ≤ 7) : ctV l (dC, dI) cy yX11_openUp cX11_openUp 2 3 103 0 0 ((Nat → Int32) × (Nat → Nat → Int32) × (Int64) × (Nat → Int64)) [.ref y0, .int p1] (YW cy y0 r v f w g) (fun u => YI u.1 ∧ YC u.2.1 ∧ progOK (u.2.1 4) (u.2.1 5) (u.1 9).toInt.toNat ∧ u.1 0 = v 0 ∧ u.1 1 = v 1 ∧ u.1 4 = v 4 ∧ u.1 8 = v 8 ∧ u.1 9 = v 9 ∧ u.1 13 = v 13 ∧ u.1 15 = v 15 ∧ u.1 17 = v 17 ∧ u.1 18 = v 18 ∧ u.1 24 = v 24 ∧ u.1 25 = v 25 ∧ u.1 35 = v 35 ∧ u.1 36 = v 36 ∧ u.1 38 = v 38 ∧ u.1 39 = v 39 ∧ ((v 3).toInt ≤ (u.1 3).toInt) ∧ ((u.1 5).toInt = (v 5).toInt ∨ (v 3).toInt < (u.1 3).toInt ∨ ¬ (u.1 5).toInt = 59) ∧ ((u.1 10).toInt = (v 10).toInt + 1) ∧ ((u.1 14).toInt = (v 14).toInt + 1) ∧ ((u.2.1 6) = upd (f 6) ((v 10).toInt).toNat p1) ∧ u.2.1 2 = f 2 ∧ u.2.1 3 = f 3) (fun u => YW cy y0 r u.1 u.2.1 u.2.2.1 u.2.2.2) := by
  refine ctV_of (by decide) (Nat.le_of_ble_eq_true rfl) (fun p e s m below meth c A ls Q hx hb hml hts hown hnm hE hP hD hA hl ret => ?_)
  have hUv : (v 35).toInt + (v 36).toInt ≤ 40 := hIv.2
  have b0_v : (0 : Int) ≤ (v 0).toInt ∧ (v 0).toInt ≤ 1600 := YIb.b hIv.1 0 (by decide)
  have b1_v : (0 : Int) ≤ (v 1).toInt ∧ (v 1).toInt ≤ 4 := YIb.b hIv.1 1 (by decide)
  have b3_v : (0 : Int) ≤ (v 3).toInt ∧ (v 3).toInt ≤ 1600 := YIb.b hIv.1 3 (by decide)
  have b4_v : (0 : Int) ≤ (v 4).toInt ∧ (v 4).toInt ≤ 1600 := YIb.b hIv.1 4 (by decide)
  have b8_v : (0 : Int) ≤ (v 8).toInt ∧ (v 8).toInt ≤ 320 := YIb.b hIv.1 8 (by decide)
  have b9_v : (0 : Int) ≤ (v 9).toInt ∧ (v 9).toInt ≤ 320 := YIb.b hIv.1 9 (by decide)
  have b10_v : (0 : Int) ≤ (v 10).toInt ∧ (v 10).toInt ≤ 160 := YIb.b hIv.1 10 (by decide)
  have b13_v : (0 : Int) ≤ (v 13).toInt ∧ (v 13).toInt ≤ 31 := YIb.b hIv.1 13 (by decide)
  have b14_v : (0 : Int) ≤ (v 14).toInt ∧ (v 14).toInt ≤ 8 := YIb.b hIv.1 14 (by decide)
  have b17_v : (0 : Int) ≤ (v 17).toInt ∧ (v 17).toInt ≤ 6 := YIb.b hIv.1 17 (by decide)
  have b18_v : (0 : Int) ≤ (v 18).toInt ∧ (v 18).toInt ≤ 6 := YIb.b hIv.1 18 (by decide)
  have b24_v : (0 : Int) ≤ (v 24).toInt ∧ (v 24).toInt ≤ 6 := YIb.b hIv.1 24 (by decide)
  have b25_v : (0 : Int) ≤ (v 25).toInt ∧ (v 25).toInt ≤ 6 := YIb.b hIv.1 25 (by decide)
  have b35_v : (0 : Int) ≤ (v 35).toInt ∧ (v 35).toInt ≤ 40 := YIb.b hIv.1 35 (by decide)
  have b36_v : (0 : Int) ≤ (v 36).toInt ∧ (v 36).toInt ≤ 40 := YIb.b hIv.1 36 (by decide)
  have b37_v : (0 : Int) ≤ (v 37).toInt ∧ (v 37).toInt ≤ 6 := YIb.b hIv.1 37 (by decide)
  have b38_v : (0 : Int) ≤ (v 38).toInt ∧ (v 38).toInt ≤ 30 := YIb.b hIv.1 38 (by decide)
  have b39_v : (0 : Int) ≤ (v 39).toInt ∧ (v 39).toInt ≤ 100000 := YIb.b hIv.1 39 (by decide)
  have hown : s.vm.findClass RX11 = some m.cls := hown
  have hS : va_S A s.heap s.heap [] := va_S.rf
  have hl : lv_has ls 2 [(0, .ref y0), (1, .int p1)] := hl
  refine lv_aload_n hx hb dX11_openUp_0 rfl (lv_at hl 0 rfl) ?_
  refine va_get (D := (dC, dI)) (ci := 11) (v := .ref (r 15)) (C := RX11) (T := TX11) (N := 79) hx hb hts inB_11 hown hE.1 hP 0 rfl rfl 15 (by decide) (hts _ k_1335) (fun _ h9 => h9) rfl dX11_openUp_1 ?_
  refine lv_aload_n hx hb dX11_openUp_4 rfl (lv_at hl 0 rfl) ?_
  refine va_get (D := (dC, dI)) (ci := 11) (v := .int (v 10)) (C := RX11) (T := TX11) (N := 79) hx hb hts inB_11 hown hE.1 hP 0 rfl rfl 19 (by decide) (hts _ k_1339) (fun _ h9 => h9) rfl dX11_openUp_5 ?_
  have b10_v : 0 ≤ (v 10).toInt ∧ (v 10).toInt ≤ 160 := YIb.b hIv.1 10 (by decide)
  refine lv_iload_n hx hb dX11_openUp_8 rfl (lv_at hl 1 rfl) ?_
  refine stI hx hb hE hP hD hS 7 rfl (vp_in_iff.mpr ⟨by omega, by omega⟩) rfl dX11_openUp_9 (fun H locs hP hD hS => ?_)
  obtain ⟨f1, ef1, hP, hD⟩ : ∃ fz9, fz9 = upd2 f 6 (upd (f 6) (v 10).toNatClampNeg p1) ∧ va_P (dC, dI) vwCl (YW cy y0 r v fz9 w g) H ∧ va_D A (YW cy y0 r v fz9 w g) := ⟨_, rfl, hP, hD⟩
  have hCf1 : YC f1 := by rw [ef1]; exact hCf
  have hRf1 : progOK (f1 4) (f1 5) (v 9).toInt.toNat := by rw [ef1]; exact hRf
  have hs2_f1 : f1 2 = (f 2) := by rw [ef1]; exact rfl
  have hs3_f1 : f1 3 = (f 3) := by rw [ef1]; exact rfl
  have hs6_f1 : f1 6 = (upd (f 6) ((v 10).toInt.toNat) p1) := by rw [ef1]; show upd (f 6) ((v 10).toInt.toNat) p1 = _; rfl
  refine lv_aload_n hx hb dX11_openUp_10 rfl (lv_at hl 0 rfl) ?_
  refine lv_dup hx hb dX11_openUp_11 rfl ?_
  refine va_get (D := (dC, dI)) (ci := 11) (v := .int (v 10)) (C := RX11) (T := TX11) (N := 79) hx hb hts inB_11 hown hE.1 hP 0 rfl rfl 19 (by decide) (hts _ k_1339) (fun _ h9 => h9) rfl dX11_openUp_12 ?_
  refine lv_iconst (v := 1) hx hb dX11_openUp_15 (by decide) ?_
  refine lv_iadd hx hb dX11_openUp_16 ?_
  refine lv_topi (fun t2 et2 => ?_)
  have rg3 := fb_rng (v 10)
  have zt2 : t2.toInt = (v 10).toInt + 1 := by rw [et2]; exact add_i rfl (by decide) (by omega) (by omega)
  refine va_put (D := (dC, dI)) (ci := 11) (v := .int t2) (ty := tyX11 19) (C := RX11) (T := TX11) (N := 79) hx hb hts inB_11 tyX11 tyX11_ok nmX11 hown hE.1 hP hD hS 0 rfl rfl 19 (by decide) (hts _ k_1339) (fun _ h9 => h9) rfl (tyX11_ok 19 (by decide)) rfl rfl (Nat.le_of_ble_eq_true rfl) dX11_openUp_17 (fun H locs hP hD hS => ?_)
  have hP : va_P (dC, dI) vwCl (YW cy y0 r (upd v 10 t2) f1 w g) H := hP
  have hD : va_D A (YW cy y0 r (upd v 10 t2) f1 w g) := hD
  refine lv_aload_n hx hb dX11_openUp_20 rfl (lv_at hl 0 rfl) ?_
  refine lv_dup hx hb dX11_openUp_21 rfl ?_
  refine va_get (D := (dC, dI)) (ci := 11) (v := .int (v 14)) (C := RX11) (T := TX11) (N := 79) hx hb hts inB_11 hown hE.1 hP 0 rfl rfl 23 (by decide) (hts _ k_1343) (fun _ h9 => h9) rfl dX11_openUp_22 ?_
  have b14_v : 0 ≤ (v 14).toInt ∧ (v 14).toInt ≤ 8 := YIb.b hIv.1 14 (by decide)
  refine lv_iconst (v := 1) hx hb dX11_openUp_25 (by decide) ?_
  refine lv_iadd hx hb dX11_openUp_26 ?_
  refine lv_topi (fun t4 et4 => ?_)
  have rg5 := fb_rng (v 14)
  have zt4 : t4.toInt = (v 14).toInt + 1 := by rw [et4]; exact add_i rfl (by decide) (by omega) (by omega)
  refine va_put (D := (dC, dI)) (ci := 11) (v := .int t4) (ty := tyX11 23) (C := RX11) (T := TX11) (N := 79) hx hb hts inB_11 tyX11 tyX11_ok nmX11 hown hE.1 hP hD hS 0 rfl rfl 23 (by decide) (hts _ k_1343) (fun _ h9 => h9) rfl (tyX11_ok 23 (by decide)) rfl rfl (Nat.le_of_ble_eq_true rfl) dX11_openUp_27 (fun H locs hP hD hS => ?_)
  have hP : va_P (dC, dI) vwCl (YW cy y0 r (upd (upd v 10 t2) 14 t4) f1 w g) H := hP
  have hD : va_D A (YW cy y0 r (upd (upd v 10 t2) 14 t4) f1 w g) := hD
  refine lv_aload_n hx hb dX11_openUp_30 rfl (lv_at hl 0 rfl) ?_
  refine va_get (D := (dC, dI)) (ci := 11) (v := .int (v 1)) (C := RX11) (T := TX11) (N := 79) hx hb hts inB_11 hown hE.1 hP 0 rfl rfl 2 (by decide) (hts _ k_1322) (fun _ h9 => h9) rfl dX11_openUp_31 ?_
  have b1_v : 0 ≤ (v 1).toInt ∧ (v 1).toInt ≤ 4 := YIb.b hIv.1 1 (by decide)
  refine lv_if_ne (tgt := 41) hx hb dX11_openUp_34 (by decide) (fun c6 => ?_) (fun c6 => ?_)
  · skip
    have zc6 : ¬ ((v 1).toInt = 0) := by rw [fa_eq, show (0 : Int32).toInt = 0 from by decide] at c6; exact c6
    exact ret ((upd (upd v 10 t2) 14 t4), f1, w, g) _ _ _ _ _ _ ⟨⟨(YIb.upd (j := 14) (x := t4) (YIb.upd (j := 10) (x := t2) hIv.1 (show (0 : Int) ≤ t2.toInt by omega) (show t2.toInt ≤ (160 : Int) by omega)) (show (0 : Int) ≤ t4.toInt by omega) (show t4.toInt ≤ (8 : Int) by omega)), hIv.2⟩, hCf1, hRf1, rfl, rfl, rfl, rfl, rfl, rfl, rfl, rfl, rfl, rfl, rfl, rfl, rfl, rfl, rfl, (by show (v 3).toInt ≤ (v 3).toInt; omega), (by show (v 5).toInt = (v 5).toInt ∨ (v 3).toInt < (v 3).toInt ∨ ¬ (v 5).toInt = 59; omega), (by show t2.toInt = (v 10).toInt + 1; omega), (by show t4.toInt = (v 14).toInt + 1; omega), (by show (f1 6) = upd (f 6) ((v 10).toInt).toNat p1; rw [hs6_f1]; first | done | rfl), hs2_f1, hs3_f1⟩ hP hD hS dX11_openUp_41 (Nat.le_refl _) (Nat.le_refl _)
  · skip
    have zc6 : (v 1).toInt = 0 := by rw [fa_eq, show (0 : Int32).toInt = 0 from by decide] at c6; exact c6
    refine lv_aload_n hx hb dX11_openUp_37 rfl (lv_at hl 0 rfl) ?_
    refine cbVv (n := 0) (rest := []) hx hb hml hown hts hE hP hD hS hA (sY_X11_token_1 l dC dI cy y0 r  (upd (upd v 10 t2) 14 t4) f1 w g ⟨(YIb.upd (j := 14) (x := t4) (YIb.upd (j := 10) (x := t2) hIv.1 (show (0 : Int) ≤ t2.toInt by omega) (show t2.toInt ≤ (160 : Int) by omega)) (show (0 : Int) ≤ t4.toInt by omega) (show t4.toInt ≤ (8 : Int) by omega)), hIv.2⟩ hCf1 hRf1 ) k_1579 k_1581 k_42 k_114 k_1582 (by decide +kernel) ⟨Nat.le_of_ble_eq_true rfl, Nat.le_of_ble_eq_true rfl⟩ 0 11 rfl rfl (rfl) hl.1 rfl (Nat.le_of_ble_eq_true rfl) dX11_openUp_38 (fun u H locs hw hP hD hS => ?_)
    obtain ⟨v7, f8, w9, g10⟩ := u
    obtain ⟨hIv7, hCf8, hRf8, hk0_v7, hk1_v7, hk4_v7, hk8_v7, hk9_v7, hk10_v7, hk13_v7, hk14_v7, hk15_v7, hk17_v7, hk18_v7, hk24_v7, hk25_v7, hk35_v7, hk36_v7, hk38_v7, hk39_v7, pv11, pv12, kq13, kq14, kq15⟩ := hw
    have hP : va_P (dC, dI) vwCl (YW cy y0 r v7 f8 w9 g10) H := hP
    have hD : va_D A (YW cy y0 r v7 f8 w9 g10) := hD
    have b3_v7 : 0 ≤ (v7 3).toInt ∧ (v7 3).toInt ≤ 1600 := YIb.b hIv7.1 3 (by decide)
    have pv11 : (v 3).toInt ≤ (v7 3).toInt := pv11
    have pv12 : (v7 5).toInt = (v 5).toInt ∨ (v 3).toInt < (v7 3).toInt ∨ ¬ (v7 5).toInt = 59 := pv12
    have hs2_f8 : f8 2 = (f 2) := kq13.trans hs2_f1
    have hs3_f8 : f8 3 = (f 3) := kq14.trans hs3_f1
    have hs6_f8 : f8 6 = (upd (f 6) ((v 10).toInt.toNat) p1) := kq15.trans hs6_f1
    have hUv7 : (v7 35).toInt + (v7 36).toInt ≤ 40 := hIv7.2
    have hq0_v7 : v7 0 = (v 0) := hk0_v7
    have hq1_v7 : v7 1 = (v 1) := hk1_v7
    have zq1_v7 := congrArg Int32.toInt hq1_v7
    have hq4_v7 : v7 4 = (v 4) := hk4_v7
    have zq4_v7 := congrArg Int32.toInt hq4_v7
    have hq8_v7 : v7 8 = (v 8) := hk8_v7
    have zq8_v7 := congrArg Int32.toInt hq8_v7
    have hq9_v7 : v7 9 = (v 9) := hk9_v7
    have zq9_v7 := congrArg Int32.toInt hq9_v7
    have hq10_v7 : v7 10 = t2 := hk10_v7
    have zq10_v7 := congrArg Int32.toInt hq10_v7
    have hq13_v7 : v7 13 = (v 13) := hk13_v7
    have zq13_v7 := congrArg Int32.toInt hq13_v7
    have hq14_v7 : v7 14 = t4 := hk14_v7
    have zq14_v7 := congrArg Int32.toInt hq14_v7
    have hq15_v7 : v7 15 = (v 15) := hk15_v7
    have zq15_v7 := congrArg Int32.toInt hq15_v7
    have hq17_v7 : v7 17 = (v 17) := hk17_v7
    have zq17_v7 := congrArg Int32.toInt hq17_v7
    have hq18_v7 : v7 18 = (v 18) := hk18_v7
    have zq18_v7 := congrArg Int32.toInt hq18_v7
    have hq24_v7 : v7 24 = (v 24) := hk24_v7
    have hq25_v7 : v7 25 = (v 25) := hk25_v7
    have hq35_v7 : v7 35 = (v 35) := hk35_v7
    have zq35_v7 := congrArg Int32.toInt hq35_v7
    have hq36_v7 : v7 36 = (v 36) := hk36_v7
    have zq36_v7 := congrArg Int32.toInt hq36_v7
    have hq38_v7 : v7 38 = (v 38) := hk38_v7
    have hq39_v7 : v7 39 = (v 39) := hk39_v7
    exact ret (v7, f8, w9, g10) _ _ _ _ _ _ ⟨hIv7, hCf8, hRf8, hk0_v7, hk1_v7, hk4_v7, hk8_v7, hk9_v7, hk13_v7, hk15_v7, hk17_v7, hk18_v7, hk24_v7, hk25_v7, hk35_v7, hk36_v7, hk38_v7, hk39_v7, (by show (v 3).toInt ≤ (v7 3).toInt; omega), (by show (v7 5).toInt = (v 5).toInt ∨ (v 3).toInt < (v7 3).toInt ∨ ¬ (v7 5).toInt = 59; omega), (by show (v7 10).toInt = (v 10).toInt + 1; omega), (by show (v7 14).toInt = (v 14).toInt + 1; omega), (by show (f8 6) = upd (f 6) ((v 10).toInt).toNat p1; rw [hs6_f8]; first | done | rfl), hs2_f8, hs3_f8⟩ hP hD hS dX11_openUp_41 (Nat.le_refl _) (Nat.le_refl _)
set_option maxHeartbeats 4000000 in
set_option maxRecDepth 100000 in
theorem sY_X11_tight_1 (l : Launch) (dC : Nat → ClassId) (dI : Nat → Nat → Nat) (cy : Nat → ClassId) (y0 : Nat) (r : Nat → Nat) (p0 : Int32) (v : Nat → Int32) (f : Nat → Nat → Int32) (w : Int64) (g : Nat → Int64) (hIv : YI v) (hCf : YC f) (hRf : progOK (f 4) (f 5) (v 9).toInt.toNat)  : ctI l (dC, dI) cy yX11_tight cX11_tight 1 .int 1 60 0 0 Unit [.int p0] (YW cy y0 r v f w g) (fun r u => ((1 : Int) ≤ r.toInt ∧ r.toInt ≤ 6)) (fun u => YW cy y0 r v f w g) := by
  refine ctI_of (by decide) (Nat.le_of_ble_eq_true rfl) (fun p e s m below meth c A ls Q hx hb hml hts hown hE hP hD hA hl ret => ?_)
  have hUv : (v 35).toInt + (v 36).toInt ≤ 40 := hIv.2
  have hown : s.vm.findClass RX11 = some m.cls := hown
  have hS : va_S A s.heap s.heap [] := va_S.rf
  have hl : lv_has ls 1 [(0, .int p0)] := hl
  refine lv_iload_n hx hb dX11_tight_0 rfl (lv_at hl 0 rfl) ?_
  by_cases c1 : p0 = 21
  · skip
    refine lv_lookup (off := 79) (tgt := 80) hx hb dX11_tight_1 (by decide) (by rw [c1]; decide) (by decide) ?_
    have zc1 : p0.toInt = 21 := by rw [fa_eq, show (21 : Int32).toInt = 21 from by decide] at c1; exact c1
    refine lv_iconst (v := 3) hx hb dX11_tight_80 (by decide) ?_
    exact ret 3 () _ _ _ _ _ _ rfl ⟨by decide, by decide⟩ hP hD hS dX11_tight_81 (Nat.le_refl _) (Nat.le_refl _)
  · skip
    have zc1 : ¬ (p0.toInt = 21) := by rw [fa_eq, show (21 : Int32).toInt = 21 from by decide] at c1; exact c1
    by_cases c2 : p0 = 38
    · skip
      refine lv_lookup (off := 77) (tgt := 78) hx hb dX11_tight_1 (by decide) (by rw [c2]; decide) (by decide) ?_
      have zc2 : p0.toInt = 38 := by rw [fa_eq, show (38 : Int32).toInt = 38 from by decide] at c2; exact c2
      refine lv_iconst (v := 2) hx hb dX11_tight_78 (by decide) ?_
      exact ret 2 () _ _ _ _ _ _ rfl ⟨by decide, by decide⟩ hP hD hS dX11_tight_79 (Nat.le_refl _) (Nat.le_refl _)
    · skip
      have zc2 : ¬ (p0.toInt = 38) := by rw [fa_eq, show (38 : Int32).toInt = 38 from by decide] at c2; exact c2
      by_cases c3 : p0 = 43
      · skip
        refine lv_lookup (off := 83) (tgt := 84) hx hb dX11_tight_1 (by decide) (by rw [c3]; decide) (by decide) ?_
        have zc3 : p0.toInt = 43 := by rw [fa_eq, show (43 : Int32).toInt = 43 from by decide] at c3; exact c3
        refine lv_iconst (v := 5) hx hb dX11_tight_84 (by decide) ?_
        exact ret 5 () _ _ _ _ _ _ rfl ⟨by decide, by decide⟩ hP hD hS dX11_tight_85 (Nat.le_refl _) (Nat.le_refl _)
      · skip
        have zc3 : ¬ (p0.toInt = 43) := by rw [fa_eq, show (43 : Int32).toInt = 43 from by decide] at c3; exact c3
        by_cases c4 : p0 = 45
        · skip
          refine lv_lookup (off := 83) (tgt := 84) hx hb dX11_tight_1 (by decide) (by rw [c4]; decide) (by decide) ?_
          have zc4 : p0.toInt = 45 := by rw [fa_eq, show (45 : Int32).toInt = 45 from by decide] at c4; exact c4
          refine lv_iconst (v := 5) hx hb dX11_tight_84 (by decide) ?_
          exact ret 5 () _ _ _ _ _ _ rfl ⟨by decide, by decide⟩ hP hD hS dX11_tight_85 (Nat.le_refl _) (Nat.le_refl _)
        · skip
          have zc4 : ¬ (p0.toInt = 45) := by rw [fa_eq, show (45 : Int32).toInt = 45 from by decide] at c4; exact c4
          by_cases c5 : p0 = 60
          · skip
            refine lv_lookup (off := 81) (tgt := 82) hx hb dX11_tight_1 (by decide) (by rw [c5]; decide) (by decide) ?_
            have zc5 : p0.toInt = 60 := by rw [fa_eq, show (60 : Int32).toInt = 60 from by decide] at c5; exact c5
            refine lv_iconst (v := 4) hx hb dX11_tight_82 (by decide) ?_
            exact ret 4 () _ _ _ _ _ _ rfl ⟨by decide, by decide⟩ hP hD hS dX11_tight_83 (Nat.le_refl _) (Nat.le_refl _)
          · skip
            have zc5 : ¬ (p0.toInt = 60) := by rw [fa_eq, show (60 : Int32).toInt = 60 from by decide] at c5; exact c5
            by_cases c6 : p0 = 61
            · skip
              refine lv_lookup (off := 81) (tgt := 82) hx hb dX11_tight_1 (by decide) (by rw [c6]; decide) (by decide) ?_
              have zc6 : p0.toInt = 61 := by rw [fa_eq, show (61 : Int32).toInt = 61 from by decide] at c6; exact c6
              refine lv_iconst (v := 4) hx hb dX11_tight_82 (by decide) ?_
              exact ret 4 () _ _ _ _ _ _ rfl ⟨by decide, by decide⟩ hP hD hS dX11_tight_83 (Nat.le_refl _) (Nat.le_refl _)
            · skip
              have zc6 : ¬ (p0.toInt = 61) := by rw [fa_eq, show (61 : Int32).toInt = 61 from by decide] at c6; exact c6
              by_cases c7 : p0 = 62
              · skip
                refine lv_lookup (off := 81) (tgt := 82) hx hb dX11_tight_1 (by decide) (by rw [c7]; decide) (by decide) ?_
                have zc7 : p0.toInt = 62 := by rw [fa_eq, show (62 : Int32).toInt = 62 from by decide] at c7; exact c7
                refine lv_iconst (v := 4) hx hb dX11_tight_82 (by decide) ?_
                exact ret 4 () _ _ _ _ _ _ rfl ⟨by decide, by decide⟩ hP hD hS dX11_tight_83 (Nat.le_refl _) (Nat.le_refl _)
              · skip
                have zc7 : ¬ (p0.toInt = 62) := by rw [fa_eq, show (62 : Int32).toInt = 62 from by decide] at c7; exact c7
                by_cases c8 : p0 = 124
                · skip
                  refine lv_lookup (off := 75) (tgt := 76) hx hb dX11_tight_1 (by decide) (by rw [c8]; decide) (by decide) ?_
                  have zc8 : p0.toInt = 124 := by rw [fa_eq, show (124 : Int32).toInt = 124 from by decide] at c8; exact c8
                  refine lv_iconst (v := 1) hx hb dX11_tight_76 (by decide) ?_
                  exact ret 1 () _ _ _ _ _ _ rfl ⟨by decide, by decide⟩ hP hD hS dX11_tight_77 (Nat.le_refl _) (Nat.le_refl _)
                · skip
                  have zc8 : ¬ (p0.toInt = 124) := by rw [fa_eq, show (124 : Int32).toInt = 124 from by decide] at c8; exact c8
                  refine lv_lookup (off := 85) (tgt := 86) hx hb dX11_tight_1 (by decide) (by show Op.lookupswitch.offset [(21, 79), (38, 77), (43, 83), (45, 83), (60, 81), (61, 81), (62, 81), (124, 75)] 85 p0.toInt = 85; rw [lv_osw c1 (by decide), lv_osw c2 (by decide), lv_osw c3 (by decide), lv_osw c4 (by decide), lv_osw c5 (by decide), lv_osw c6 (by decide), lv_osw c7 (by decide), lv_osw c8 (by decide)]; rfl) (by decide) ?_
                  refine lv_bipush (v := 6) hx hb dX11_tight_86 (by decide) ?_
                  exact ret 6 () _ _ _ _ _ _ rfl ⟨by decide, by decide⟩ hP hD hS dX11_tight_88 (Nat.le_refl _) (Nat.le_refl _)
set_option maxHeartbeats 4000000 in
set_option maxRecDepth 100000 in
theorem sY_X11_mayNot_1 (l : Launch) (dC : Nat → ClassId) (dI : Nat → Nat → Nat) (cy : Nat → ClassId) (y0 : Nat) (r : Nat → Nat)  (v : Nat → Int32) (f : Nat → Nat → Int32) (w : Int64) (g : Nat → Int64) (hIv : YI v) (hCf : YC f) (hRf : progOK (f 4) (f 5) (v 9).toInt.toNat)  : ctI l (dC, dI) cy yX11_mayNot cX11_mayNot 1 .boolean 2 80 0 0 Unit [.ref y0] (YW cy y0 r v f w g) (fun r u => ((r = 1) ∨ (r = 0))) (fun u => YW cy y0 r v f w g) := by
  refine ctI_of (by decide) (Nat.le_of_ble_eq_true rfl) (fun p e s m below meth c A ls Q hx hb hml hts hown hE hP hD hA hl ret => ?_)
  have hUv : (v 35).toInt + (v 36).toInt ≤ 40 := hIv.2
  have hown : s.vm.findClass RX11 = some m.cls := hown
  have hS : va_S A s.heap s.heap [] := va_S.rf
  have hl : lv_has ls 1 [(0, .ref y0)] := hl
  refine lv_aload_n hx hb dX11_mayNot_0 rfl (lv_at hl 0 rfl) ?_
  refine va_get (D := (dC, dI)) (ci := 11) (v := .int (v 10)) (C := RX11) (T := TX11) (N := 79) hx hb hts inB_11 hown hE.1 hP 0 rfl rfl 19 (by decide) (hts _ k_1339) (fun _ h9 => h9) rfl dX11_mayNot_1 ?_
  have b10_v : 0 ≤ (v 10).toInt ∧ (v 10).toInt ≤ 160 := YIb.b hIv.1 10 (by decide)
  refine lv_if_eq (tgt := 41) hx hb dX11_mayNot_4 (by decide) (fun c1 => ?_) (fun c1 => ?_)
  · skip
    have zc1 : (v 10).toInt = 0 := by rw [fa_eq, show (0 : Int32).toInt = 0 from by decide] at c1; exact c1
    refine lv_iconst (v := 1) hx hb dX11_mayNot_41 (by decide) ?_
    refine lv_goto (tgt := 46) hx hb dX11_mayNot_42 (by decide) ?_
    exact ret 1 () _ _ _ _ _ _ rfl (Or.inl rfl) hP hD hS dX11_mayNot_46 (Nat.le_refl _) (Nat.le_refl _)
  · skip
    have zc1 : ¬ ((v 10).toInt = 0) := by rw [fa_eq, show (0 : Int32).toInt = 0 from by decide] at c1; exact c1
    refine lv_aload_n hx hb dX11_mayNot_7 rfl (lv_at hl 0 rfl) ?_
    refine va_get (D := (dC, dI)) (ci := 11) (v := .ref (r 15)) (C := RX11) (T := TX11) (N := 79) hx hb hts inB_11 hown hE.1 hP 0 rfl rfl 15 (by decide) (hts _ k_1335) (fun _ h9 => h9) rfl dX11_mayNot_8 ?_
    refine lv_aload_n hx hb dX11_mayNot_11 rfl (lv_at hl 0 rfl) ?_
    refine va_get (D := (dC, dI)) (ci := 11) (v := .int (v 10)) (C := RX11) (T := TX11) (N := 79) hx hb hts inB_11 hown hE.1 hP 0 rfl rfl 19 (by decide) (hts _ k_1339) (fun _ h9 => h9) rfl dX11_mayNot_12 ?_
    refine lv_iconst (v := 1) hx hb dX11_mayNot_15 (by decide) ?_
    refine lv_isub hx hb dX11_mayNot_16 ?_
    refine lv_topi (fun t2 et2 => ?_)
    have rg3 := fb_rng (v 10)
    have zt2 : t2.toInt = (v 10).toInt - 1 := by rw [et2]; exact sub_i rfl (by decide) (by omega) (by omega)
    refine ldI hx hb hE hP 7 rfl (vp_in_iff.mpr ⟨by omega, by omega⟩) rfl rfl dX11_mayNot_17 ?_
    refine lv_topi (fun t4 et4 => ?_)
    refine lv_bipush (v := 20) hx hb dX11_mayNot_18 (by decide) ?_
    refine lv_icmp_eq (tgt := 41) hx hb dX11_mayNot_20 (by decide) (fun c5 => ?_) (fun c5 => ?_)
    · skip
      have zc5 : t4.toInt = 20 := by rw [fa_eq, show (20 : Int32).toInt = 20 from by decide] at c5; exact c5
      refine lv_iconst (v := 1) hx hb dX11_mayNot_41 (by decide) ?_
      refine lv_goto (tgt := 46) hx hb dX11_mayNot_42 (by decide) ?_
      exact ret 1 () _ _ _ _ _ _ rfl (Or.inl rfl) hP hD hS dX11_mayNot_46 (Nat.le_refl _) (Nat.le_refl _)
    · skip
      have zc5 : ¬ (t4.toInt = 20) := by rw [fa_eq, show (20 : Int32).toInt = 20 from by decide] at c5; exact c5
      refine lv_aload_n hx hb dX11_mayNot_23 rfl (lv_at hl 0 rfl) ?_
      refine va_get (D := (dC, dI)) (ci := 11) (v := .ref (r 15)) (C := RX11) (T := TX11) (N := 79) hx hb hts inB_11 hown hE.1 hP 0 rfl rfl 15 (by decide) (hts _ k_1335) (fun _ h9 => h9) rfl dX11_mayNot_24 ?_
      refine lv_aload_n hx hb dX11_mayNot_27 rfl (lv_at hl 0 rfl) ?_
      refine va_get (D := (dC, dI)) (ci := 11) (v := .int (v 10)) (C := RX11) (T := TX11) (N := 79) hx hb hts inB_11 hown hE.1 hP 0 rfl rfl 19 (by decide) (hts _ k_1339) (fun _ h9 => h9) rfl dX11_mayNot_28 ?_
      refine lv_iconst (v := 1) hx hb dX11_mayNot_31 (by decide) ?_
      refine lv_isub hx hb dX11_mayNot_32 ?_
      refine tI (y := t2) et2.symm ?_
      refine ldI hx hb hE hP 7 rfl (vp_in_iff.mpr ⟨by omega, by omega⟩) rfl rfl dX11_mayNot_33 ?_
      refine tI (y := t4) et4.symm ?_
      refine cbSi (n := 1) (rest := []) hx hb hml hown hts hE hP hD hS hA (sY_X11_tight_1 l dC dI cy y0 r t4 v f w g hIv hCf hRf ) k_1677 k_1678 k_114 k_1679 (by decide +kernel) ⟨Nat.le_of_ble_eq_true rfl, Nat.le_of_ble_eq_true rfl⟩ (rfl) hl.1 rfl (Nat.le_of_ble_eq_true rfl) dX11_mayNot_34 (fun r6 u H locs hw hP hD hS => ?_)
      refine lv_iconst (v := 4) hx hb dX11_mayNot_37 (by decide) ?_
      refine lv_icmp_ge (tgt := 45) hx hb dX11_mayNot_38 (by decide) (fun c7 => ?_) (fun c7 => ?_)
      · skip
        have zc7 : 4 ≤ r6.toInt := by rw [fa_le, show (4 : Int32).toInt = 4 from by decide] at c7; exact c7
        refine lv_iconst (v := 0) hx hb dX11_mayNot_45 (by decide) ?_
        exact ret 0 () _ _ _ _ _ _ rfl (Or.inr rfl) hP hD hS dX11_mayNot_46 (Nat.le_refl _) (Nat.le_refl _)
      · skip
        have zc7 : ¬ (4 ≤ r6.toInt) := by rw [fa_le, show (4 : Int32).toInt = 4 from by decide] at c7; exact c7
        refine lv_iconst (v := 1) hx hb dX11_mayNot_41 (by decide) ?_
        refine lv_goto (tgt := 46) hx hb dX11_mayNot_42 (by decide) ?_
        exact ret 1 () _ _ _ _ _ _ rfl (Or.inl rfl) hP hD hS dX11_mayNot_46 (Nat.le_refl _) (Nat.le_refl _)
set_option maxHeartbeats 4000000 in
set_option maxRecDepth 100000 in
theorem sY_X11_unit_1 (l : Launch) (dC : Nat → ClassId) (dI : Nat → Nat → Nat) (cy : Nat → ClassId) (y0 : Nat) (r : Nat → Nat)  (v : Nat → Int32) (f : Nat → Nat → Int32) (w : Int64) (g : Nat → Int64) (hIv : YI v) (hCf : YC f) (hRf : progOK (f 4) (f 5) (v 9).toInt.toNat)  (hf0 : (v 8).toInt + (v 10).toInt ≤ 10 * (v 13).toInt + 1) (hf1 : (v 10).toInt ≤ (v 14).toInt + (v 13).toInt + 1) (hf2 : (v 13).toInt ≤ 30) (hf3 : (v 14).toInt ≤ 7) (hg0 : FI 0 (v 10).toInt (v 14).toInt (v 8).toInt (f 6) (f 2) (f 3)) : ctV l (dC, dI) cy yX11_unit cX11_unit 3 4 124 0 0 ((Nat → Int32) × (Nat → Nat → Int32) × (Int64) × (Nat → Int64)) [.ref y0] (YW cy y0 r v f w g) (fun u => YI u.1 ∧ YC u.2.1 ∧ progOK (u.2.1 4) (u.2.1 5) (u.1 9).toInt.toNat ∧ u.1 0 = v 0 ∧ u.1 4 = v 4 ∧ u.1 9 = v 9 ∧ u.1 15 = v 15 ∧ u.1 17 = v 17 ∧ u.1 18 = v 18 ∧ u.1 24 = v 24 ∧ u.1 25 = v 25 ∧ u.1 35 = v 35 ∧ u.1 36 = v 36 ∧ u.1 38 = v 38 ∧ u.1 39 = v 39 ∧ ((v 3).toInt ≤ (u.1 3).toInt) ∧ ((u.1 5).toInt = (v 5).toInt ∨ (v 3).toInt < (u.1 3).toInt ∨ ¬ (u.1 5).toInt = 59) ∧ (0 < (u.1 1).toInt ∨ ((u.1 8).toInt + (u.1 10).toInt ≤ 10 * (u.1 13).toInt ∧ (u.1 10).toInt ≤ (u.1 14).toInt + (u.1 13).toInt ∧ (u.1 13).toInt ≤ 30 ∧ (u.1 14).toInt ≤ 7 ∧ (v 13).toInt < (u.1 13).toInt)) ∧ ((u.1 1).toInt = 0 → FI 1 (u.1 10).toInt (u.1 14).toInt (u.1 8).toInt (u.2.1 6) (u.2.1 2) (u.2.1 3))) (fun u => YW cy y0 r u.1 u.2.1 u.2.2.1 u.2.2.2) := by
  refine ctV_of (by decide) (Nat.le_of_ble_eq_true rfl) (fun p e s m below meth c A ls Q hx hb hml hts hown hnm hE hP hD hA hl ret => ?_)
  have hUv : (v 35).toInt + (v 36).toInt ≤ 40 := hIv.2
  have hFI := hg0
  have b0_v : (0 : Int) ≤ (v 0).toInt ∧ (v 0).toInt ≤ 1600 := YIb.b hIv.1 0 (by decide)
  have b1_v : (0 : Int) ≤ (v 1).toInt ∧ (v 1).toInt ≤ 4 := YIb.b hIv.1 1 (by decide)
  have b3_v : (0 : Int) ≤ (v 3).toInt ∧ (v 3).toInt ≤ 1600 := YIb.b hIv.1 3 (by decide)
  have b4_v : (0 : Int) ≤ (v 4).toInt ∧ (v 4).toInt ≤ 1600 := YIb.b hIv.1 4 (by decide)
  have b8_v : (0 : Int) ≤ (v 8).toInt ∧ (v 8).toInt ≤ 320 := YIb.b hIv.1 8 (by decide)
  have b9_v : (0 : Int) ≤ (v 9).toInt ∧ (v 9).toInt ≤ 320 := YIb.b hIv.1 9 (by decide)
  have b10_v : (0 : Int) ≤ (v 10).toInt ∧ (v 10).toInt ≤ 160 := YIb.b hIv.1 10 (by decide)
  have b13_v : (0 : Int) ≤ (v 13).toInt ∧ (v 13).toInt ≤ 31 := YIb.b hIv.1 13 (by decide)
  have b14_v : (0 : Int) ≤ (v 14).toInt ∧ (v 14).toInt ≤ 8 := YIb.b hIv.1 14 (by decide)
  have b17_v : (0 : Int) ≤ (v 17).toInt ∧ (v 17).toInt ≤ 6 := YIb.b hIv.1 17 (by decide)
  have b18_v : (0 : Int) ≤ (v 18).toInt ∧ (v 18).toInt ≤ 6 := YIb.b hIv.1 18 (by decide)
  have b24_v : (0 : Int) ≤ (v 24).toInt ∧ (v 24).toInt ≤ 6 := YIb.b hIv.1 24 (by decide)
  have b25_v : (0 : Int) ≤ (v 25).toInt ∧ (v 25).toInt ≤ 6 := YIb.b hIv.1 25 (by decide)
  have b35_v : (0 : Int) ≤ (v 35).toInt ∧ (v 35).toInt ≤ 40 := YIb.b hIv.1 35 (by decide)
  have b36_v : (0 : Int) ≤ (v 36).toInt ∧ (v 36).toInt ≤ 40 := YIb.b hIv.1 36 (by decide)
  have b37_v : (0 : Int) ≤ (v 37).toInt ∧ (v 37).toInt ≤ 6 := YIb.b hIv.1 37 (by decide)
  have b38_v : (0 : Int) ≤ (v 38).toInt ∧ (v 38).toInt ≤ 30 := YIb.b hIv.1 38 (by decide)
  have b39_v : (0 : Int) ≤ (v 39).toInt ∧ (v 39).toInt ≤ 100000 := YIb.b hIv.1 39 (by decide)
  have hown : s.vm.findClass RX11 = some m.cls := hown
  have hS : va_S A s.heap s.heap [] := va_S.rf
  have hl : lv_has ls 3 [(0, .ref y0)] := hl
  refine lv_iconst (v := 1) hx hb dX11_unit_0 (by decide) ?_
  refine lv_istore_n (lv' := [(1, .int 1), (0, .ref y0)]) hx hb dX11_unit_1 rfl hl (by decide) rfl (fun ls hl => ?_)
  have lp1 : ∀ (n1 : Nat) (l1_1 : Int32) (v1 : Nat → Int32) (f1 : Nat → Nat → Int32) (w1 : Int64) (g1 : Nat → Int64), YI v1 → YC f1 → progOK (f1 4) (f1 5) (v1 9).toInt.toNat → v1 0 = (v 0) → v1 4 = (v 4) → v1 8 = (v 8) → v1 9 = (v 9) → v1 15 = (v 15) → v1 17 = (v 17) → v1 18 = (v 18) → v1 24 = (v 24) → v1 25 = (v 25) → v1 35 = (v 35) → v1 36 = (v 36) → v1 38 = (v 38) → v1 39 = (v 39) → ((0 : Int) ≤ l1_1.toInt ∧ l1_1.toInt ≤ 1) → ((v1 1).toInt = 0 → FI 0 (v1 10).toInt (v1 14).toInt (v1 8).toInt (f1 6) (f1 2) (f1 3)) → (0 < (v1 1).toInt ∨ ((v1 8).toInt + (v1 10).toInt + (8 - (v1 14).toInt) ≤ 10 * (v1 13).toInt + 9 ∧ (v1 10).toInt ≤ (v1 14).toInt + (v1 13).toInt + 1 ∧ (v1 13).toInt ≤ 30 ∧ (v1 14).toInt ≤ 7)) → ((v 13).toInt ≤ (v1 13).toInt) → ((v 3).toInt ≤ (v1 3).toInt) → ((v1 5).toInt = (v 5).toInt ∨ (v 3).toInt < (v1 3).toInt ∨ ¬ (v1 5).toInt = 59) → f1 2 = (f 2) → f1 3 = (f 3) → (2 * (9 - (v1 14).toInt) + l1_1.toInt).toNat < n1 → ∀ (H : Heap) (locs : List Loc) (ls : Array Slot), va_P (dC, dI) vwCl (YW cy y0 r v1 f1 w1 g1) H → va_D A (YW cy y0 r v1 f1 w1 g1) → va_S A s.heap H locs → lv_has ls 3 [(1, .int l1_1), (0, .ref y0)] → W p l e { frames := 4, cells := 0, slots := 0, locals := 124 } s m ([.ref y0] : List Value).toArray below meth c H locs 0 0 Q (F0 m 2 ls []) := by
    intro n1
    induction n1 with
    | zero => intro l1_1 v1 f1 w1 g1 hIv1 hCf1 hRf1 hq0_v1 hq4_v1 hq8_v1 hq9_v1 hq15_v1 hq17_v1 hq18_v1 hq24_v1 hq25_v1 hq35_v1 hq36_v1 hq38_v1 hq39_v1 hr1_1 hx0_1 hx1_1 hx2_1 hx3_1 hx4_1 hs2_f1 hs3_f1 hm; exact absurd hm (Nat.not_lt_zero _)
    | succ n1 ih1 =>
      intro l1_1 v1 f1 w1 g1 hIv1 hCf1 hRf1 hq0_v1 hq4_v1 hq8_v1 hq9_v1 hq15_v1 hq17_v1 hq18_v1 hq24_v1 hq25_v1 hq35_v1 hq36_v1 hq38_v1 hq39_v1 hr1_1 hx0_1 hx1_1 hx2_1 hx3_1 hx4_1 hs2_f1 hs3_f1 hm1 H locs ls hP hD hS hl
      have hUv1 : (v1 35).toInt + (v1 36).toInt ≤ 40 := hIv1.2
      have zq4_v1 := congrArg Int32.toInt hq4_v1
      have zq8_v1 := congrArg Int32.toInt hq8_v1
      have zq9_v1 := congrArg Int32.toInt hq9_v1
      have zq15_v1 := congrArg Int32.toInt hq15_v1
      have zq17_v1 := congrArg Int32.toInt hq17_v1
      have zq18_v1 := congrArg Int32.toInt hq18_v1
      have zq35_v1 := congrArg Int32.toInt hq35_v1
      have zq36_v1 := congrArg Int32.toInt hq36_v1
      have b1_v1 : 0 ≤ (v1 1).toInt ∧ (v1 1).toInt ≤ 4 := YIb.b hIv1.1 1 (by decide)
      have b10_v1 : 0 ≤ (v1 10).toInt ∧ (v1 10).toInt ≤ 160 := YIb.b hIv1.1 10 (by decide)
      have b14_v1 : 0 ≤ (v1 14).toInt ∧ (v1 14).toInt ≤ 8 := YIb.b hIv1.1 14 (by decide)
      have b8_v1 : 0 ≤ (v1 8).toInt ∧ (v1 8).toInt ≤ 320 := YIb.b hIv1.1 8 (by decide)
      have b8_v : 0 ≤ (v 8).toInt ∧ (v 8).toInt ≤ 320 := YIb.b hIv.1 8 (by decide)
      have b13_v1 : 0 ≤ (v1 13).toInt ∧ (v1 13).toInt ≤ 31 := YIb.b hIv1.1 13 (by decide)
      have b3_v1 : 0 ≤ (v1 3).toInt ∧ (v1 3).toInt ≤ 1600 := YIb.b hIv1.1 3 (by decide)
      rw [hs2_f1] at hx0_1
      rw [hs3_f1] at hx0_1
      have hFJ := hx0_1
      refine lv_iload_n hx hb dX11_unit_2 rfl (lv_at hl 0 rfl) ?_
      have jp101 : ∀ (H : Heap) (locs : List Loc) (ls : Array Slot), va_P (dC, dI) vwCl (YW cy y0 r v1 f1 w1 g1) H → va_D A (YW cy y0 r v1 f1 w1 g1) → va_S A s.heap H locs → lv_has ls 3 [(1, .int l1_1), (0, .ref y0)] → W p l e { frames := 4, cells := 0, slots := 0, locals := 124 } s m ([.ref y0] : List Value).toArray below meth c H locs 0 0 Q (F0 m 101 ls []) := by
        intro H locs ls hP hD hS hl
        refine lv_aload_n hx hb dX11_unit_101 rfl (lv_at hl 1 rfl) ?_
        refine va_get (D := (dC, dI)) (ci := 11) (v := .int (v1 1)) (C := RX11) (T := TX11) (N := 79) hx hb hts inB_11 hown hE.1 hP 0 rfl rfl 2 (by decide) (hts _ k_1322) (fun _ h9 => h9) rfl dX11_unit_102 ?_
        refine lv_if_le (tgt := 109) hx hb dX11_unit_105 (by decide) (fun c2 => ?_) (fun c2 => ?_)
        · skip
          have zc2 : (v1 1).toInt ≤ 0 := by rw [fa_le, show (0 : Int32).toInt = 0 from by decide] at c2; exact c2
          refine lv_aload_n hx hb dX11_unit_109 rfl (lv_at hl 1 rfl) ?_
          refine cbVi (n := 0) (rest := []) hx hb hml hown hts hE hP hD hS hA (sY_X11_asked_1 l dC dI cy y0 r  v1 f1 w1 g1 hIv1 hCf1 hRf1 ) k_1692 k_1694 k_62 k_114 k_1695 (by decide +kernel) ⟨Nat.le_of_ble_eq_true rfl, Nat.le_of_ble_eq_true rfl⟩ 0 11 rfl rfl (rfl) hl.1 rfl (Nat.le_of_ble_eq_true rfl) dX11_unit_110 (fun r3 u H locs hw hP hD hS => ?_)
          refine lv_istore_n (lv' := [(2, .int r3), (1, .int l1_1), (0, .ref y0)]) hx hb dX11_unit_113 rfl hl (by decide) rfl (fun ls hl => ?_)
          have jp133 : ∀ (H : Heap) (locs : List Loc) (ls : Array Slot), va_P (dC, dI) vwCl (YW cy y0 r v1 f1 w1 g1) H → va_D A (YW cy y0 r v1 f1 w1 g1) → va_S A s.heap H locs → lv_has ls 3 [(2, .int r3), (1, .int l1_1), (0, .ref y0)] → W p l e { frames := 4, cells := 0, slots := 0, locals := 124 } s m ([.ref y0] : List Value).toArray below meth c H locs 0 0 Q (F0 m 133 ls []) := by
            intro H locs ls hP hD hS hl
            refine lv_aload_n hx hb dX11_unit_133 rfl (lv_at hl 2 rfl) ?_
            refine lv_iconst (v := 2) hx hb dX11_unit_134 (by decide) ?_
            refine cbVv (n := 1) (rest := []) hx hb hml hown hts hE hP hD hS hA (sY_X11_wrong_1 l dC dI cy y0 r 2 v1 f1 w1 g1 hIv1 hCf1 hRf1 ⟨by decide, by decide⟩) k_1641 k_1643 k_50 k_114 k_1644 (by decide +kernel) ⟨Nat.le_of_ble_eq_true rfl, Nat.le_of_ble_eq_true rfl⟩ 0 11 rfl rfl (rfl) hl.1 rfl (Nat.le_of_ble_eq_true rfl) dX11_unit_135 (fun u H locs hw hP hD hS => ?_)
            obtain ⟨v4, f5, w6, g7⟩ := u
            obtain ⟨hIv4, hCf5, hRf5, hk0_v4, hk3_v4, hk4_v4, hk5_v4, hk8_v4, hk9_v4, hk10_v4, hk13_v4, hk14_v4, hk15_v4, hk17_v4, hk18_v4, hk24_v4, hk25_v4, hk35_v4, hk36_v4, hk38_v4, hk39_v4, pv8, pv9, pv10, kq11, kq12, kq13⟩ := hw
            have hP : va_P (dC, dI) vwCl (YW cy y0 r v4 f5 w6 g7) H := hP
            have hD : va_D A (YW cy y0 r v4 f5 w6 g7) := hD
            have b3_v4 : 0 ≤ (v4 3).toInt ∧ (v4 3).toInt ≤ 1600 := YIb.b hIv4.1 3 (by decide)
            have b1_v4 : 0 ≤ (v4 1).toInt ∧ (v4 1).toInt ≤ 4 := YIb.b hIv4.1 1 (by decide)
            have pv8 : (v1 3).toInt ≤ (v4 3).toInt := pv8
            have pv9 : (v4 5).toInt = (v1 5).toInt ∨ (v1 3).toInt < (v4 3).toInt ∨ ¬ (v4 5).toInt = 59 := pv9
            have pv10 : 0 < (v4 1).toInt := pv10
            have hs2_f5 : f5 2 = (f 2) := kq11.trans hs2_f1
            have hs3_f5 : f5 3 = (f 3) := kq12.trans hs3_f1
            have hs6_f5 : f5 6 = (f1 6) := kq13
            have hUv4 : (v4 35).toInt + (v4 36).toInt ≤ 40 := hIv4.2
            have hq0_v4 : v4 0 = (v 0) := hk0_v4.trans hq0_v1
            have hq3_v4 : v4 3 = (v1 3) := hk3_v4
            have zq3_v4 := congrArg Int32.toInt hq3_v4
            have hq4_v4 : v4 4 = (v 4) := hk4_v4.trans hq4_v1
            have zq4_v4 := congrArg Int32.toInt hq4_v4
            have hq5_v4 : v4 5 = (v1 5) := hk5_v4
            have zq5_v4 := congrArg Int32.toInt hq5_v4
            have hq8_v4 : v4 8 = (v 8) := hk8_v4.trans hq8_v1
            have zq8_v4 := congrArg Int32.toInt hq8_v4
            have hq9_v4 : v4 9 = (v 9) := hk9_v4.trans hq9_v1
            have zq9_v4 := congrArg Int32.toInt hq9_v4
            have hq10_v4 : v4 10 = (v1 10) := hk10_v4
            have zq10_v4 := congrArg Int32.toInt hq10_v4
            have hq13_v4 : v4 13 = (v1 13) := hk13_v4
            have zq13_v4 := congrArg Int32.toInt hq13_v4
            have hq14_v4 : v4 14 = (v1 14) := hk14_v4
            have zq14_v4 := congrArg Int32.toInt hq14_v4
            have hq15_v4 : v4 15 = (v 15) := hk15_v4.trans hq15_v1
            have zq15_v4 := congrArg Int32.toInt hq15_v4
            have hq17_v4 : v4 17 = (v 17) := hk17_v4.trans hq17_v1
            have zq17_v4 := congrArg Int32.toInt hq17_v4
            have hq18_v4 : v4 18 = (v 18) := hk18_v4.trans hq18_v1
            have zq18_v4 := congrArg Int32.toInt hq18_v4
            have hq24_v4 : v4 24 = (v 24) := hk24_v4.trans hq24_v1
            have hq25_v4 : v4 25 = (v 25) := hk25_v4.trans hq25_v1
            have hq35_v4 : v4 35 = (v 35) := hk35_v4.trans hq35_v1
            have zq35_v4 := congrArg Int32.toInt hq35_v4
            have hq36_v4 : v4 36 = (v 36) := hk36_v4.trans hq36_v1
            have zq36_v4 := congrArg Int32.toInt hq36_v4
            have hq38_v4 : v4 38 = (v 38) := hk38_v4.trans hq38_v1
            have hq39_v4 : v4 39 = (v 39) := hk39_v4.trans hq39_v1
            refine lv_aload_n hx hb dX11_unit_138 rfl (lv_at hl 2 rfl) ?_
            refine va_get (D := (dC, dI)) (ci := 11) (v := .int (v4 1)) (C := RX11) (T := TX11) (N := 79) hx hb hts inB_11 hown hE.1 hP 0 rfl rfl 2 (by decide) (hts _ k_1322) (fun _ h9 => h9) rfl dX11_unit_139 ?_
            have b1_v4 : 0 ≤ (v4 1).toInt ∧ (v4 1).toInt ≤ 4 := YIb.b hIv4.1 1 (by decide)
            refine lv_if_le (tgt := 146) hx hb dX11_unit_142 (by decide) (fun c14 => ?_) (fun c14 => ?_)
            · skip
              have zc14 : (v4 1).toInt ≤ 0 := by rw [fa_le, show (0 : Int32).toInt = 0 from by decide] at c14; exact c14
              refine lv_aload_n hx hb dX11_unit_146 rfl (lv_at hl 2 rfl) ?_
              refine cbVv (n := 0) (rest := []) hx hb hml hown hts hE hP hD hS hA (sY_X11_countUnit_1 l dC dI cy y0 r  v4 f5 w6 g7 hIv4 hCf5 hRf5 (by show (v4 13).toInt ≤ 30; omega)) k_1688 k_1690 k_61 k_114 k_1691 (by decide +kernel) ⟨Nat.le_of_ble_eq_true rfl, Nat.le_of_ble_eq_true rfl⟩ 0 11 rfl rfl (rfl) hl.1 rfl (Nat.le_of_ble_eq_true rfl) dX11_unit_147 (fun u H locs hw hP hD hS => ?_)
              obtain ⟨v15, f16, w17, g18⟩ := u
              obtain ⟨hIv15, hCf16, hRf16, hk0_v15, hk1_v15, hk3_v15, hk4_v15, hk5_v15, hk8_v15, hk9_v15, hk10_v15, hk14_v15, hk15_v15, hk17_v15, hk18_v15, hk24_v15, hk25_v15, hk35_v15, hk36_v15, hk38_v15, hk39_v15, pv19, kq20, kq21, kq22⟩ := hw
              have hP : va_P (dC, dI) vwCl (YW cy y0 r v15 f16 w17 g18) H := hP
              have hD : va_D A (YW cy y0 r v15 f16 w17 g18) := hD
              have b13_v15 : 0 ≤ (v15 13).toInt ∧ (v15 13).toInt ≤ 31 := YIb.b hIv15.1 13 (by decide)
              have pv19 : (v15 13).toInt = (v4 13).toInt + 1 := pv19
              have hs2_f16 : f16 2 = (f 2) := kq20.trans hs2_f5
              have hs3_f16 : f16 3 = (f 3) := kq21.trans hs3_f5
              have hs6_f16 : f16 6 = (f1 6) := kq22.trans hs6_f5
              have hUv15 : (v15 35).toInt + (v15 36).toInt ≤ 40 := hIv15.2
              have hq0_v15 : v15 0 = (v 0) := hk0_v15.trans hq0_v4
              have hq1_v15 : v15 1 = (v4 1) := hk1_v15
              have zq1_v15 := congrArg Int32.toInt hq1_v15
              have hq3_v15 : v15 3 = (v1 3) := hk3_v15.trans hq3_v4
              have zq3_v15 := congrArg Int32.toInt hq3_v15
              have hq4_v15 : v15 4 = (v 4) := hk4_v15.trans hq4_v4
              have zq4_v15 := congrArg Int32.toInt hq4_v15
              have hq5_v15 : v15 5 = (v1 5) := hk5_v15.trans hq5_v4
              have zq5_v15 := congrArg Int32.toInt hq5_v15
              have hq8_v15 : v15 8 = (v 8) := hk8_v15.trans hq8_v4
              have zq8_v15 := congrArg Int32.toInt hq8_v15
              have hq9_v15 : v15 9 = (v 9) := hk9_v15.trans hq9_v4
              have zq9_v15 := congrArg Int32.toInt hq9_v15
              have hq10_v15 : v15 10 = (v1 10) := hk10_v15.trans hq10_v4
              have zq10_v15 := congrArg Int32.toInt hq10_v15
              have hq14_v15 : v15 14 = (v1 14) := hk14_v15.trans hq14_v4
              have zq14_v15 := congrArg Int32.toInt hq14_v15
              have hq15_v15 : v15 15 = (v 15) := hk15_v15.trans hq15_v4
              have zq15_v15 := congrArg Int32.toInt hq15_v15
              have hq17_v15 : v15 17 = (v 17) := hk17_v15.trans hq17_v4
              have zq17_v15 := congrArg Int32.toInt hq17_v15
              have hq18_v15 : v15 18 = (v 18) := hk18_v15.trans hq18_v4
              have zq18_v15 := congrArg Int32.toInt hq18_v15
              have hq24_v15 : v15 24 = (v 24) := hk24_v15.trans hq24_v4
              have hq25_v15 : v15 25 = (v 25) := hk25_v15.trans hq25_v4
              have hq35_v15 : v15 35 = (v 35) := hk35_v15.trans hq35_v4
              have zq35_v15 := congrArg Int32.toInt hq35_v15
              have hq36_v15 : v15 36 = (v 36) := hk36_v15.trans hq36_v4
              have zq36_v15 := congrArg Int32.toInt hq36_v15
              have hq38_v15 : v15 38 = (v 38) := hk38_v15.trans hq38_v4
              have hq39_v15 : v15 39 = (v 39) := hk39_v15.trans hq39_v4
              refine lv_aload_n hx hb dX11_unit_150 rfl (lv_at hl 2 rfl) ?_
              refine lv_iload_n hx hb dX11_unit_151 rfl (lv_at hl 0 rfl) ?_
              refine lv_if_ge (tgt := 159) hx hb dX11_unit_152 (by decide) (fun c23 => ?_) (fun c23 => ?_)
              · skip
                have zc23 : 0 ≤ r3.toInt := by rw [fa_le, show (0 : Int32).toInt = 0 from by decide] at c23; exact c23
                refine lv_iconst (v := 1) hx hb dX11_unit_159 (by decide) ?_
                refine lv_iload_n hx hb dX11_unit_160 rfl (lv_at hl 0 rfl) ?_
                refine lv_if_ge (tgt := 171) hx hb dX11_unit_161 (by decide) (fun c24 => ?_) (fun c24 => ?_)
                · skip
                  have zc24 : 0 ≤ r3.toInt := by rw [fa_le, show (0 : Int32).toInt = 0 from by decide] at c24; exact c24
                  refine lv_iload_n hx hb dX11_unit_171 rfl (lv_at hl 0 rfl) ?_
                  refine cbVv (n := 2) (rest := []) hx hb hml hown hts hE hP hD hS hA (sY_X11_add_1 l dC dI cy y0 r 1 r3 v15 f16 w17 g18 hIv15 hCf16 hRf16 (by have q1 : (1 : Int32).toInt = 1 := (by decide); show (v15 8).toInt ≤ 319; omega)) k_1696 k_1698 k_63 k_114 k_1699 (by decide +kernel) ⟨Nat.le_of_ble_eq_true rfl, Nat.le_of_ble_eq_true rfl⟩ 0 11 rfl rfl (rfl) hl.1 rfl (Nat.le_of_ble_eq_true rfl) dX11_unit_172 (fun u H locs hw hP hD hS => ?_)
                  obtain ⟨v25, f26, w27, g28⟩ := u
                  obtain ⟨hIv25, hCf26, hRf26, hk0_v25, hk1_v25, hk3_v25, hk4_v25, hk5_v25, hk9_v25, hk10_v25, hk13_v25, hk14_v25, hk15_v25, hk17_v25, hk18_v25, hk24_v25, hk25_v25, hk35_v25, hk36_v25, hk38_v25, hk39_v25, pv29, pg30, pg31, kq32⟩ := hw
                  have hP : va_P (dC, dI) vwCl (YW cy y0 r v25 f26 w27 g28) H := hP
                  have hD : va_D A (YW cy y0 r v25 f26 w27 g28) := hD
                  have b8_v25 : 0 ≤ (v25 8).toInt ∧ (v25 8).toInt ≤ 320 := YIb.b hIv25.1 8 (by decide)
                  have pv29 : (v25 8).toInt = (v15 8).toInt + 1 := pv29
                  have pg30 : (f26 2) = upd (f16 2) ((v15 8).toInt).toNat 1 := pg30
                  rw [hs2_f16] at pg30
                  have pg31 : (f26 3) = upd (f16 3) ((v15 8).toInt).toNat r3 := pg31
                  rw [hs3_f16] at pg31
                  have hs6_f26 : f26 6 = (f1 6) := kq32.trans hs6_f16
                  have hUv25 : (v25 35).toInt + (v25 36).toInt ≤ 40 := hIv25.2
                  have hq0_v25 : v25 0 = (v 0) := hk0_v25.trans hq0_v15
                  have hq1_v25 : v25 1 = (v4 1) := hk1_v25.trans hq1_v15
                  have zq1_v25 := congrArg Int32.toInt hq1_v25
                  have hq3_v25 : v25 3 = (v1 3) := hk3_v25.trans hq3_v15
                  have zq3_v25 := congrArg Int32.toInt hq3_v25
                  have hq4_v25 : v25 4 = (v 4) := hk4_v25.trans hq4_v15
                  have zq4_v25 := congrArg Int32.toInt hq4_v25
                  have hq5_v25 : v25 5 = (v1 5) := hk5_v25.trans hq5_v15
                  have zq5_v25 := congrArg Int32.toInt hq5_v25
                  have hq9_v25 : v25 9 = (v 9) := hk9_v25.trans hq9_v15
                  have zq9_v25 := congrArg Int32.toInt hq9_v25
                  have hq10_v25 : v25 10 = (v1 10) := hk10_v25.trans hq10_v15
                  have zq10_v25 := congrArg Int32.toInt hq10_v25
                  have hq13_v25 : v25 13 = (v15 13) := hk13_v25
                  have zq13_v25 := congrArg Int32.toInt hq13_v25
                  have hq14_v25 : v25 14 = (v1 14) := hk14_v25.trans hq14_v15
                  have zq14_v25 := congrArg Int32.toInt hq14_v25
                  have hq15_v25 : v25 15 = (v 15) := hk15_v25.trans hq15_v15
                  have zq15_v25 := congrArg Int32.toInt hq15_v25
                  have hq17_v25 : v25 17 = (v 17) := hk17_v25.trans hq17_v15
                  have zq17_v25 := congrArg Int32.toInt hq17_v25
                  have hq18_v25 : v25 18 = (v 18) := hk18_v25.trans hq18_v15
                  have zq18_v25 := congrArg Int32.toInt hq18_v25
                  have hq24_v25 : v25 24 = (v 24) := hk24_v25.trans hq24_v15
                  have hq25_v25 : v25 25 = (v 25) := hk25_v25.trans hq25_v15
                  have hq35_v25 : v25 35 = (v 35) := hk35_v25.trans hq35_v15
                  have zq35_v25 := congrArg Int32.toInt hq35_v25
                  have hq36_v25 : v25 36 = (v 36) := hk36_v25.trans hq36_v15
                  have zq36_v25 := congrArg Int32.toInt hq36_v25
                  have hq38_v25 : v25 38 = (v 38) := hk38_v25.trans hq38_v15
                  have hq39_v25 : v25 39 = (v 39) := hk39_v25.trans hq39_v15
                  have hFU : FI 1 (v25 10).toInt (v25 14).toInt (v25 8).toInt (f1 6) (f26 2) (f26 3) := FI.unit (hFJ (by omega)) pg30 pg31 (by omega) (Or.inr ⟨rfl, by omega, by omega⟩) (by omega) (by omega) (by omega) (by omega)
                  refine lv_aload_n hx hb dX11_unit_175 rfl (lv_at hl 2 rfl) ?_
                  refine cbVv (n := 0) (rest := []) hx hb hml hown hts hE hP hD hS hA (sY_X11_token_1 l dC dI cy y0 r  v25 f26 w27 g28 hIv25 hCf26 hRf26 ) k_1579 k_1581 k_42 k_114 k_1582 (by decide +kernel) ⟨Nat.le_of_ble_eq_true rfl, Nat.le_of_ble_eq_true rfl⟩ 0 11 rfl rfl (rfl) hl.1 rfl (Nat.le_of_ble_eq_true rfl) dX11_unit_176 (fun u H locs hw hP hD hS => ?_)
                  obtain ⟨v33, f34, w35, g36⟩ := u
                  obtain ⟨hIv33, hCf34, hRf34, hk0_v33, hk1_v33, hk4_v33, hk8_v33, hk9_v33, hk10_v33, hk13_v33, hk14_v33, hk15_v33, hk17_v33, hk18_v33, hk24_v33, hk25_v33, hk35_v33, hk36_v33, hk38_v33, hk39_v33, pv37, pv38, kq39, kq40, kq41⟩ := hw
                  have hP : va_P (dC, dI) vwCl (YW cy y0 r v33 f34 w35 g36) H := hP
                  have hD : va_D A (YW cy y0 r v33 f34 w35 g36) := hD
                  have b3_v33 : 0 ≤ (v33 3).toInt ∧ (v33 3).toInt ≤ 1600 := YIb.b hIv33.1 3 (by decide)
                  have pv37 : (v25 3).toInt ≤ (v33 3).toInt := pv37
                  have pv38 : (v33 5).toInt = (v25 5).toInt ∨ (v25 3).toInt < (v33 3).toInt ∨ ¬ (v33 5).toInt = 59 := pv38
                  have hs2_f34 : f34 2 = (f26 2) := kq39
                  have hs3_f34 : f34 3 = (f26 3) := kq40
                  have hs6_f34 : f34 6 = (f1 6) := kq41.trans hs6_f26
                  have hUv33 : (v33 35).toInt + (v33 36).toInt ≤ 40 := hIv33.2
                  have hq0_v33 : v33 0 = (v 0) := hk0_v33.trans hq0_v25
                  have hq1_v33 : v33 1 = (v4 1) := hk1_v33.trans hq1_v25
                  have zq1_v33 := congrArg Int32.toInt hq1_v33
                  have hq4_v33 : v33 4 = (v 4) := hk4_v33.trans hq4_v25
                  have zq4_v33 := congrArg Int32.toInt hq4_v33
                  have hq8_v33 : v33 8 = (v25 8) := hk8_v33
                  have zq8_v33 := congrArg Int32.toInt hq8_v33
                  have hq9_v33 : v33 9 = (v 9) := hk9_v33.trans hq9_v25
                  have zq9_v33 := congrArg Int32.toInt hq9_v33
                  have hq10_v33 : v33 10 = (v1 10) := hk10_v33.trans hq10_v25
                  have zq10_v33 := congrArg Int32.toInt hq10_v33
                  have hq13_v33 : v33 13 = (v15 13) := hk13_v33.trans hq13_v25
                  have zq13_v33 := congrArg Int32.toInt hq13_v33
                  have hq14_v33 : v33 14 = (v1 14) := hk14_v33.trans hq14_v25
                  have zq14_v33 := congrArg Int32.toInt hq14_v33
                  have hq15_v33 : v33 15 = (v 15) := hk15_v33.trans hq15_v25
                  have zq15_v33 := congrArg Int32.toInt hq15_v33
                  have hq17_v33 : v33 17 = (v 17) := hk17_v33.trans hq17_v25
                  have zq17_v33 := congrArg Int32.toInt hq17_v33
                  have hq18_v33 : v33 18 = (v 18) := hk18_v33.trans hq18_v25
                  have zq18_v33 := congrArg Int32.toInt hq18_v33
                  have hq24_v33 : v33 24 = (v 24) := hk24_v33.trans hq24_v25
                  have hq25_v33 : v33 25 = (v 25) := hk25_v33.trans hq25_v25
                  have hq35_v33 : v33 35 = (v 35) := hk35_v33.trans hq35_v25
                  have zq35_v33 := congrArg Int32.toInt hq35_v33
                  have hq36_v33 : v33 36 = (v 36) := hk36_v33.trans hq36_v25
                  have zq36_v33 := congrArg Int32.toInt hq36_v33
                  have hq38_v33 : v33 38 = (v 38) := hk38_v33.trans hq38_v25
                  have hq39_v33 : v33 39 = (v 39) := hk39_v33.trans hq39_v25
                  exact ret (v33, f34, w35, g36) _ _ _ _ _ _ ⟨hIv33, hCf34, hRf34, (hk0_v33.trans (hk0_v25.trans (hk0_v15.trans (hk0_v4.trans (show v1 0 = v 0 from hq0_v1))))), (hk4_v33.trans (hk4_v25.trans (hk4_v15.trans (hk4_v4.trans (show v1 4 = v 4 from hq4_v1))))), (hk9_v33.trans (hk9_v25.trans (hk9_v15.trans (hk9_v4.trans (show v1 9 = v 9 from hq9_v1))))), (hk15_v33.trans (hk15_v25.trans (hk15_v15.trans (hk15_v4.trans (show v1 15 = v 15 from hq15_v1))))), (hk17_v33.trans (hk17_v25.trans (hk17_v15.trans (hk17_v4.trans (show v1 17 = v 17 from hq17_v1))))), (hk18_v33.trans (hk18_v25.trans (hk18_v15.trans (hk18_v4.trans (show v1 18 = v 18 from hq18_v1))))), (hk24_v33.trans (hk24_v25.trans (hk24_v15.trans (hk24_v4.trans (show v1 24 = v 24 from hq24_v1))))), (hk25_v33.trans (hk25_v25.trans (hk25_v15.trans (hk25_v4.trans (show v1 25 = v 25 from hq25_v1))))), (hk35_v33.trans (hk35_v25.trans (hk35_v15.trans (hk35_v4.trans (show v1 35 = v 35 from hq35_v1))))), (hk36_v33.trans (hk36_v25.trans (hk36_v15.trans (hk36_v4.trans (show v1 36 = v 36 from hq36_v1))))), (hk38_v33.trans (hk38_v25.trans (hk38_v15.trans (hk38_v4.trans (show v1 38 = v 38 from hq38_v1))))), (hk39_v33.trans (hk39_v25.trans (hk39_v15.trans (hk39_v4.trans (show v1 39 = v 39 from hq39_v1))))), (by show (v 3).toInt ≤ (v33 3).toInt; omega), (by show (v33 5).toInt = (v 5).toInt ∨ (v 3).toInt < (v33 3).toInt ∨ ¬ (v33 5).toInt = 59; omega), (by show 0 < (v33 1).toInt ∨ ((v33 8).toInt + (v33 10).toInt ≤ 10 * (v33 13).toInt ∧ (v33 10).toInt ≤ (v33 14).toInt + (v33 13).toInt ∧ (v33 13).toInt ≤ 30 ∧ (v33 14).toInt ≤ 7 ∧ (v 13).toInt < (v33 13).toInt); omega), (by show (v33 1).toInt = 0 → FI 1 (v33 10).toInt (v33 14).toInt (v33 8).toInt (f34 6) (f34 2) (f34 3); rw [hs6_f34, hs2_f34, hs3_f34]; intro hz9; first | exact FI.cast hFU (by omega) (by omega) (by omega) | (exfalso; omega))⟩ hP hD hS dX11_unit_179 (Nat.le_refl _) (Nat.le_refl _)
                · skip
                  have zc24 : ¬ (0 ≤ r3.toInt) := by rw [fa_le, show (0 : Int32).toInt = 0 from by decide] at c24; exact c24
                  refine lv_aload_n hx hb dX11_unit_164 rfl (lv_at hl 2 rfl) ?_
                  refine va_get (D := (dC, dI)) (ci := 11) (v := .int (v15 7)) (C := RX11) (T := TX11) (N := 79) hx hb hts inB_11 hown hE.1 hP 0 rfl rfl 8 (by decide) (hts _ k_1328) (fun _ h9 => h9) rfl dX11_unit_165 ?_
                  refine lv_goto (tgt := 172) hx hb dX11_unit_168 (by decide) ?_
                  refine cbVv (n := 2) (rest := []) hx hb hml hown hts hE hP hD hS hA (sY_X11_add_1 l dC dI cy y0 r 1 (v15 7) v15 f16 w17 g18 hIv15 hCf16 hRf16 (by have q1 : (1 : Int32).toInt = 1 := (by decide); show (v15 8).toInt ≤ 319; omega)) k_1696 k_1698 k_63 k_114 k_1699 (by decide +kernel) ⟨Nat.le_of_ble_eq_true rfl, Nat.le_of_ble_eq_true rfl⟩ 0 11 rfl rfl (rfl) hl.1 rfl (Nat.le_of_ble_eq_true rfl) dX11_unit_172 (fun u H locs hw hP hD hS => ?_)
                  obtain ⟨v42, f43, w44, g45⟩ := u
                  obtain ⟨hIv42, hCf43, hRf43, hk0_v42, hk1_v42, hk3_v42, hk4_v42, hk5_v42, hk9_v42, hk10_v42, hk13_v42, hk14_v42, hk15_v42, hk17_v42, hk18_v42, hk24_v42, hk25_v42, hk35_v42, hk36_v42, hk38_v42, hk39_v42, pv46, pg47, pg48, kq49⟩ := hw
                  have hP : va_P (dC, dI) vwCl (YW cy y0 r v42 f43 w44 g45) H := hP
                  have hD : va_D A (YW cy y0 r v42 f43 w44 g45) := hD
                  have b8_v42 : 0 ≤ (v42 8).toInt ∧ (v42 8).toInt ≤ 320 := YIb.b hIv42.1 8 (by decide)
                  have pv46 : (v42 8).toInt = (v15 8).toInt + 1 := pv46
                  have pg47 : (f43 2) = upd (f16 2) ((v15 8).toInt).toNat 1 := pg47
                  rw [hs2_f16] at pg47
                  have pg48 : (f43 3) = upd (f16 3) ((v15 8).toInt).toNat (v15 7) := pg48
                  rw [hs3_f16] at pg48
                  have hs6_f43 : f43 6 = (f1 6) := kq49.trans hs6_f16
                  have hUv42 : (v42 35).toInt + (v42 36).toInt ≤ 40 := hIv42.2
                  have hq0_v42 : v42 0 = (v 0) := hk0_v42.trans hq0_v15
                  have hq1_v42 : v42 1 = (v4 1) := hk1_v42.trans hq1_v15
                  have zq1_v42 := congrArg Int32.toInt hq1_v42
                  have hq3_v42 : v42 3 = (v1 3) := hk3_v42.trans hq3_v15
                  have zq3_v42 := congrArg Int32.toInt hq3_v42
                  have hq4_v42 : v42 4 = (v 4) := hk4_v42.trans hq4_v15
                  have zq4_v42 := congrArg Int32.toInt hq4_v42
                  have hq5_v42 : v42 5 = (v1 5) := hk5_v42.trans hq5_v15
                  have zq5_v42 := congrArg Int32.toInt hq5_v42
                  have hq9_v42 : v42 9 = (v 9) := hk9_v42.trans hq9_v15
                  have zq9_v42 := congrArg Int32.toInt hq9_v42
                  have hq10_v42 : v42 10 = (v1 10) := hk10_v42.trans hq10_v15
                  have zq10_v42 := congrArg Int32.toInt hq10_v42
                  have hq13_v42 : v42 13 = (v15 13) := hk13_v42
                  have zq13_v42 := congrArg Int32.toInt hq13_v42
                  have hq14_v42 : v42 14 = (v1 14) := hk14_v42.trans hq14_v15
                  have zq14_v42 := congrArg Int32.toInt hq14_v42
                  have hq15_v42 : v42 15 = (v 15) := hk15_v42.trans hq15_v15
                  have zq15_v42 := congrArg Int32.toInt hq15_v42
                  have hq17_v42 : v42 17 = (v 17) := hk17_v42.trans hq17_v15
                  have zq17_v42 := congrArg Int32.toInt hq17_v42
                  have hq18_v42 : v42 18 = (v 18) := hk18_v42.trans hq18_v15
                  have zq18_v42 := congrArg Int32.toInt hq18_v42
                  have hq24_v42 : v42 24 = (v 24) := hk24_v42.trans hq24_v15
                  have hq25_v42 : v42 25 = (v 25) := hk25_v42.trans hq25_v15
                  have hq35_v42 : v42 35 = (v 35) := hk35_v42.trans hq35_v15
                  have zq35_v42 := congrArg Int32.toInt hq35_v42
                  have hq36_v42 : v42 36 = (v 36) := hk36_v42.trans hq36_v15
                  have zq36_v42 := congrArg Int32.toInt hq36_v42
                  have hq38_v42 : v42 38 = (v 38) := hk38_v42.trans hq38_v15
                  have hq39_v42 : v42 39 = (v 39) := hk39_v42.trans hq39_v15
                  have hFU : FI 1 (v42 10).toInt (v42 14).toInt (v42 8).toInt (f1 6) (f43 2) (f43 3) := FI.unit (hFJ (by omega)) pg47 pg48 (by omega) (Or.inr ⟨rfl, by omega, by omega⟩) (by omega) (by omega) (by omega) (by omega)
                  refine lv_aload_n hx hb dX11_unit_175 rfl (lv_at hl 2 rfl) ?_
                  refine cbVv (n := 0) (rest := []) hx hb hml hown hts hE hP hD hS hA (sY_X11_token_1 l dC dI cy y0 r  v42 f43 w44 g45 hIv42 hCf43 hRf43 ) k_1579 k_1581 k_42 k_114 k_1582 (by decide +kernel) ⟨Nat.le_of_ble_eq_true rfl, Nat.le_of_ble_eq_true rfl⟩ 0 11 rfl rfl (rfl) hl.1 rfl (Nat.le_of_ble_eq_true rfl) dX11_unit_176 (fun u H locs hw hP hD hS => ?_)
                  obtain ⟨v50, f51, w52, g53⟩ := u
                  obtain ⟨hIv50, hCf51, hRf51, hk0_v50, hk1_v50, hk4_v50, hk8_v50, hk9_v50, hk10_v50, hk13_v50, hk14_v50, hk15_v50, hk17_v50, hk18_v50, hk24_v50, hk25_v50, hk35_v50, hk36_v50, hk38_v50, hk39_v50, pv54, pv55, kq56, kq57, kq58⟩ := hw
                  have hP : va_P (dC, dI) vwCl (YW cy y0 r v50 f51 w52 g53) H := hP
                  have hD : va_D A (YW cy y0 r v50 f51 w52 g53) := hD
                  have b3_v50 : 0 ≤ (v50 3).toInt ∧ (v50 3).toInt ≤ 1600 := YIb.b hIv50.1 3 (by decide)
                  have pv54 : (v42 3).toInt ≤ (v50 3).toInt := pv54
                  have pv55 : (v50 5).toInt = (v42 5).toInt ∨ (v42 3).toInt < (v50 3).toInt ∨ ¬ (v50 5).toInt = 59 := pv55
                  have hs2_f51 : f51 2 = (f43 2) := kq56
                  have hs3_f51 : f51 3 = (f43 3) := kq57
                  have hs6_f51 : f51 6 = (f1 6) := kq58.trans hs6_f43
                  have hUv50 : (v50 35).toInt + (v50 36).toInt ≤ 40 := hIv50.2
                  have hq0_v50 : v50 0 = (v 0) := hk0_v50.trans hq0_v42
                  have hq1_v50 : v50 1 = (v4 1) := hk1_v50.trans hq1_v42
                  have zq1_v50 := congrArg Int32.toInt hq1_v50
                  have hq4_v50 : v50 4 = (v 4) := hk4_v50.trans hq4_v42
                  have zq4_v50 := congrArg Int32.toInt hq4_v50
                  have hq8_v50 : v50 8 = (v42 8) := hk8_v50
                  have zq8_v50 := congrArg Int32.toInt hq8_v50
                  have hq9_v50 : v50 9 = (v 9) := hk9_v50.trans hq9_v42
                  have zq9_v50 := congrArg Int32.toInt hq9_v50
                  have hq10_v50 : v50 10 = (v1 10) := hk10_v50.trans hq10_v42
                  have zq10_v50 := congrArg Int32.toInt hq10_v50
                  have hq13_v50 : v50 13 = (v15 13) := hk13_v50.trans hq13_v42
                  have zq13_v50 := congrArg Int32.toInt hq13_v50
                  have hq14_v50 : v50 14 = (v1 14) := hk14_v50.trans hq14_v42
                  have zq14_v50 := congrArg Int32.toInt hq14_v50
                  have hq15_v50 : v50 15 = (v 15) := hk15_v50.trans hq15_v42
                  have zq15_v50 := congrArg Int32.toInt hq15_v50
                  have hq17_v50 : v50 17 = (v 17) := hk17_v50.trans hq17_v42
                  have zq17_v50 := congrArg Int32.toInt hq17_v50
                  have hq18_v50 : v50 18 = (v 18) := hk18_v50.trans hq18_v42
                  have zq18_v50 := congrArg Int32.toInt hq18_v50
                  have hq24_v50 : v50 24 = (v 24) := hk24_v50.trans hq24_v42
                  have hq25_v50 : v50 25 = (v 25) := hk25_v50.trans hq25_v42
                  have hq35_v50 : v50 35 = (v 35) := hk35_v50.trans hq35_v42
                  have zq35_v50 := congrArg Int32.toInt hq35_v50
                  have hq36_v50 : v50 36 = (v 36) := hk36_v50.trans hq36_v42
                  have zq36_v50 := congrArg Int32.toInt hq36_v50
                  have hq38_v50 : v50 38 = (v 38) := hk38_v50.trans hq38_v42
                  have hq39_v50 : v50 39 = (v 39) := hk39_v50.trans hq39_v42
                  exact ret (v50, f51, w52, g53) _ _ _ _ _ _ ⟨hIv50, hCf51, hRf51, (hk0_v50.trans (hk0_v42.trans (hk0_v15.trans (hk0_v4.trans (show v1 0 = v 0 from hq0_v1))))), (hk4_v50.trans (hk4_v42.trans (hk4_v15.trans (hk4_v4.trans (show v1 4 = v 4 from hq4_v1))))), (hk9_v50.trans (hk9_v42.trans (hk9_v15.trans (hk9_v4.trans (show v1 9 = v 9 from hq9_v1))))), (hk15_v50.trans (hk15_v42.trans (hk15_v15.trans (hk15_v4.trans (show v1 15 = v 15 from hq15_v1))))), (hk17_v50.trans (hk17_v42.trans (hk17_v15.trans (hk17_v4.trans (show v1 17 = v 17 from hq17_v1))))), (hk18_v50.trans (hk18_v42.trans (hk18_v15.trans (hk18_v4.trans (show v1 18 = v 18 from hq18_v1))))), (hk24_v50.trans (hk24_v42.trans (hk24_v15.trans (hk24_v4.trans (show v1 24 = v 24 from hq24_v1))))), (hk25_v50.trans (hk25_v42.trans (hk25_v15.trans (hk25_v4.trans (show v1 25 = v 25 from hq25_v1))))), (hk35_v50.trans (hk35_v42.trans (hk35_v15.trans (hk35_v4.trans (show v1 35 = v 35 from hq35_v1))))), (hk36_v50.trans (hk36_v42.trans (hk36_v15.trans (hk36_v4.trans (show v1 36 = v 36 from hq36_v1))))), (hk38_v50.trans (hk38_v42.trans (hk38_v15.trans (hk38_v4.trans (show v1 38 = v 38 from hq38_v1))))), (hk39_v50.trans (hk39_v42.trans (hk39_v15.trans (hk39_v4.trans (show v1 39 = v 39 from hq39_v1))))), (by show (v 3).toInt ≤ (v50 3).toInt; omega), (by show (v50 5).toInt = (v 5).toInt ∨ (v 3).toInt < (v50 3).toInt ∨ ¬ (v50 5).toInt = 59; omega), (by show 0 < (v50 1).toInt ∨ ((v50 8).toInt + (v50 10).toInt ≤ 10 * (v50 13).toInt ∧ (v50 10).toInt ≤ (v50 14).toInt + (v50 13).toInt ∧ (v50 13).toInt ≤ 30 ∧ (v50 14).toInt ≤ 7 ∧ (v 13).toInt < (v50 13).toInt); omega), (by show (v50 1).toInt = 0 → FI 1 (v50 10).toInt (v50 14).toInt (v50 8).toInt (f51 6) (f51 2) (f51 3); rw [hs6_f51, hs2_f51, hs3_f51]; intro hz9; first | exact FI.cast hFU (by omega) (by omega) (by omega) | (exfalso; omega))⟩ hP hD hS dX11_unit_179 (Nat.le_refl _) (Nat.le_refl _)
              · skip
                have zc23 : ¬ (0 ≤ r3.toInt) := by rw [fa_le, show (0 : Int32).toInt = 0 from by decide] at c23; exact c23
                refine lv_iconst (v := 0) hx hb dX11_unit_155 (by decide) ?_
                refine lv_goto (tgt := 160) hx hb dX11_unit_156 (by decide) ?_
                refine lv_iload_n hx hb dX11_unit_160 rfl (lv_at hl 0 rfl) ?_
                refine lv_if_ge (tgt := 171) hx hb dX11_unit_161 (by decide) (fun c59 => ?_) (fun c59 => ?_)
                · skip
                  have zc59 : 0 ≤ r3.toInt := by rw [fa_le, show (0 : Int32).toInt = 0 from by decide] at c59; exact c59
                  refine lv_iload_n hx hb dX11_unit_171 rfl (lv_at hl 0 rfl) ?_
                  refine cbVv (n := 2) (rest := []) hx hb hml hown hts hE hP hD hS hA (sY_X11_add_1 l dC dI cy y0 r 0 r3 v15 f16 w17 g18 hIv15 hCf16 hRf16 (by have q1 : (0 : Int32).toInt = 0 := (by decide); show (v15 8).toInt ≤ 319; omega)) k_1696 k_1698 k_63 k_114 k_1699 (by decide +kernel) ⟨Nat.le_of_ble_eq_true rfl, Nat.le_of_ble_eq_true rfl⟩ 0 11 rfl rfl (rfl) hl.1 rfl (Nat.le_of_ble_eq_true rfl) dX11_unit_172 (fun u H locs hw hP hD hS => ?_)
                  obtain ⟨v60, f61, w62, g63⟩ := u
                  obtain ⟨hIv60, hCf61, hRf61, hk0_v60, hk1_v60, hk3_v60, hk4_v60, hk5_v60, hk9_v60, hk10_v60, hk13_v60, hk14_v60, hk15_v60, hk17_v60, hk18_v60, hk24_v60, hk25_v60, hk35_v60, hk36_v60, hk38_v60, hk39_v60, pv64, pg65, pg66, kq67⟩ := hw
                  have hP : va_P (dC, dI) vwCl (YW cy y0 r v60 f61 w62 g63) H := hP
                  have hD : va_D A (YW cy y0 r v60 f61 w62 g63) := hD
                  have b8_v60 : 0 ≤ (v60 8).toInt ∧ (v60 8).toInt ≤ 320 := YIb.b hIv60.1 8 (by decide)
                  have pv64 : (v60 8).toInt = (v15 8).toInt + 1 := pv64
                  have pg65 : (f61 2) = upd (f16 2) ((v15 8).toInt).toNat 0 := pg65
                  rw [hs2_f16] at pg65
                  have pg66 : (f61 3) = upd (f16 3) ((v15 8).toInt).toNat r3 := pg66
                  rw [hs3_f16] at pg66
                  have hs6_f61 : f61 6 = (f1 6) := kq67.trans hs6_f16
                  have hUv60 : (v60 35).toInt + (v60 36).toInt ≤ 40 := hIv60.2
                  have hq0_v60 : v60 0 = (v 0) := hk0_v60.trans hq0_v15
                  have hq1_v60 : v60 1 = (v4 1) := hk1_v60.trans hq1_v15
                  have zq1_v60 := congrArg Int32.toInt hq1_v60
                  have hq3_v60 : v60 3 = (v1 3) := hk3_v60.trans hq3_v15
                  have zq3_v60 := congrArg Int32.toInt hq3_v60
                  have hq4_v60 : v60 4 = (v 4) := hk4_v60.trans hq4_v15
                  have zq4_v60 := congrArg Int32.toInt hq4_v60
                  have hq5_v60 : v60 5 = (v1 5) := hk5_v60.trans hq5_v15
                  have zq5_v60 := congrArg Int32.toInt hq5_v60
                  have hq9_v60 : v60 9 = (v 9) := hk9_v60.trans hq9_v15
                  have zq9_v60 := congrArg Int32.toInt hq9_v60
                  have hq10_v60 : v60 10 = (v1 10) := hk10_v60.trans hq10_v15
                  have zq10_v60 := congrArg Int32.toInt hq10_v60
                  have hq13_v60 : v60 13 = (v15 13) := hk13_v60
                  have zq13_v60 := congrArg Int32.toInt hq13_v60
                  have hq14_v60 : v60 14 = (v1 14) := hk14_v60.trans hq14_v15
                  have zq14_v60 := congrArg Int32.toInt hq14_v60
                  have hq15_v60 : v60 15 = (v 15) := hk15_v60.trans hq15_v15
                  have zq15_v60 := congrArg Int32.toInt hq15_v60
                  have hq17_v60 : v60 17 = (v 17) := hk17_v60.trans hq17_v15
                  have zq17_v60 := congrArg Int32.toInt hq17_v60
                  have hq18_v60 : v60 18 = (v 18) := hk18_v60.trans hq18_v15
                  have zq18_v60 := congrArg Int32.toInt hq18_v60
                  have hq24_v60 : v60 24 = (v 24) := hk24_v60.trans hq24_v15
                  have hq25_v60 : v60 25 = (v 25) := hk25_v60.trans hq25_v15
                  have hq35_v60 : v60 35 = (v 35) := hk35_v60.trans hq35_v15
                  have zq35_v60 := congrArg Int32.toInt hq35_v60
                  have hq36_v60 : v60 36 = (v 36) := hk36_v60.trans hq36_v15
                  have zq36_v60 := congrArg Int32.toInt hq36_v60
                  have hq38_v60 : v60 38 = (v 38) := hk38_v60.trans hq38_v15
                  have hq39_v60 : v60 39 = (v 39) := hk39_v60.trans hq39_v15
                  have hFU : FI 1 (v60 10).toInt (v60 14).toInt (v60 8).toInt (f1 6) (f61 2) (f61 3) := FI.unit (hFJ (by omega)) pg65 pg66 (by omega) (Or.inl rfl) (by omega) (by omega) (by omega) (by omega)
                  refine lv_aload_n hx hb dX11_unit_175 rfl (lv_at hl 2 rfl) ?_
                  refine cbVv (n := 0) (rest := []) hx hb hml hown hts hE hP hD hS hA (sY_X11_token_1 l dC dI cy y0 r  v60 f61 w62 g63 hIv60 hCf61 hRf61 ) k_1579 k_1581 k_42 k_114 k_1582 (by decide +kernel) ⟨Nat.le_of_ble_eq_true rfl, Nat.le_of_ble_eq_true rfl⟩ 0 11 rfl rfl (rfl) hl.1 rfl (Nat.le_of_ble_eq_true rfl) dX11_unit_176 (fun u H locs hw hP hD hS => ?_)
                  obtain ⟨v68, f69, w70, g71⟩ := u
                  obtain ⟨hIv68, hCf69, hRf69, hk0_v68, hk1_v68, hk4_v68, hk8_v68, hk9_v68, hk10_v68, hk13_v68, hk14_v68, hk15_v68, hk17_v68, hk18_v68, hk24_v68, hk25_v68, hk35_v68, hk36_v68, hk38_v68, hk39_v68, pv72, pv73, kq74, kq75, kq76⟩ := hw
                  have hP : va_P (dC, dI) vwCl (YW cy y0 r v68 f69 w70 g71) H := hP
                  have hD : va_D A (YW cy y0 r v68 f69 w70 g71) := hD
                  have b3_v68 : 0 ≤ (v68 3).toInt ∧ (v68 3).toInt ≤ 1600 := YIb.b hIv68.1 3 (by decide)
                  have pv72 : (v60 3).toInt ≤ (v68 3).toInt := pv72
                  have pv73 : (v68 5).toInt = (v60 5).toInt ∨ (v60 3).toInt < (v68 3).toInt ∨ ¬ (v68 5).toInt = 59 := pv73
                  have hs2_f69 : f69 2 = (f61 2) := kq74
                  have hs3_f69 : f69 3 = (f61 3) := kq75
                  have hs6_f69 : f69 6 = (f1 6) := kq76.trans hs6_f61
                  have hUv68 : (v68 35).toInt + (v68 36).toInt ≤ 40 := hIv68.2
                  have hq0_v68 : v68 0 = (v 0) := hk0_v68.trans hq0_v60
                  have hq1_v68 : v68 1 = (v4 1) := hk1_v68.trans hq1_v60
                  have zq1_v68 := congrArg Int32.toInt hq1_v68
                  have hq4_v68 : v68 4 = (v 4) := hk4_v68.trans hq4_v60
                  have zq4_v68 := congrArg Int32.toInt hq4_v68
                  have hq8_v68 : v68 8 = (v60 8) := hk8_v68
                  have zq8_v68 := congrArg Int32.toInt hq8_v68
                  have hq9_v68 : v68 9 = (v 9) := hk9_v68.trans hq9_v60
                  have zq9_v68 := congrArg Int32.toInt hq9_v68
                  have hq10_v68 : v68 10 = (v1 10) := hk10_v68.trans hq10_v60
                  have zq10_v68 := congrArg Int32.toInt hq10_v68
                  have hq13_v68 : v68 13 = (v15 13) := hk13_v68.trans hq13_v60
                  have zq13_v68 := congrArg Int32.toInt hq13_v68
                  have hq14_v68 : v68 14 = (v1 14) := hk14_v68.trans hq14_v60
                  have zq14_v68 := congrArg Int32.toInt hq14_v68
                  have hq15_v68 : v68 15 = (v 15) := hk15_v68.trans hq15_v60
                  have zq15_v68 := congrArg Int32.toInt hq15_v68
                  have hq17_v68 : v68 17 = (v 17) := hk17_v68.trans hq17_v60
                  have zq17_v68 := congrArg Int32.toInt hq17_v68
                  have hq18_v68 : v68 18 = (v 18) := hk18_v68.trans hq18_v60
                  have zq18_v68 := congrArg Int32.toInt hq18_v68
                  have hq24_v68 : v68 24 = (v 24) := hk24_v68.trans hq24_v60
                  have hq25_v68 : v68 25 = (v 25) := hk25_v68.trans hq25_v60
                  have hq35_v68 : v68 35 = (v 35) := hk35_v68.trans hq35_v60
                  have zq35_v68 := congrArg Int32.toInt hq35_v68
                  have hq36_v68 : v68 36 = (v 36) := hk36_v68.trans hq36_v60
                  have zq36_v68 := congrArg Int32.toInt hq36_v68
                  have hq38_v68 : v68 38 = (v 38) := hk38_v68.trans hq38_v60
                  have hq39_v68 : v68 39 = (v 39) := hk39_v68.trans hq39_v60
                  exact ret (v68, f69, w70, g71) _ _ _ _ _ _ ⟨hIv68, hCf69, hRf69, (hk0_v68.trans (hk0_v60.trans (hk0_v15.trans (hk0_v4.trans (show v1 0 = v 0 from hq0_v1))))), (hk4_v68.trans (hk4_v60.trans (hk4_v15.trans (hk4_v4.trans (show v1 4 = v 4 from hq4_v1))))), (hk9_v68.trans (hk9_v60.trans (hk9_v15.trans (hk9_v4.trans (show v1 9 = v 9 from hq9_v1))))), (hk15_v68.trans (hk15_v60.trans (hk15_v15.trans (hk15_v4.trans (show v1 15 = v 15 from hq15_v1))))), (hk17_v68.trans (hk17_v60.trans (hk17_v15.trans (hk17_v4.trans (show v1 17 = v 17 from hq17_v1))))), (hk18_v68.trans (hk18_v60.trans (hk18_v15.trans (hk18_v4.trans (show v1 18 = v 18 from hq18_v1))))), (hk24_v68.trans (hk24_v60.trans (hk24_v15.trans (hk24_v4.trans (show v1 24 = v 24 from hq24_v1))))), (hk25_v68.trans (hk25_v60.trans (hk25_v15.trans (hk25_v4.trans (show v1 25 = v 25 from hq25_v1))))), (hk35_v68.trans (hk35_v60.trans (hk35_v15.trans (hk35_v4.trans (show v1 35 = v 35 from hq35_v1))))), (hk36_v68.trans (hk36_v60.trans (hk36_v15.trans (hk36_v4.trans (show v1 36 = v 36 from hq36_v1))))), (hk38_v68.trans (hk38_v60.trans (hk38_v15.trans (hk38_v4.trans (show v1 38 = v 38 from hq38_v1))))), (hk39_v68.trans (hk39_v60.trans (hk39_v15.trans (hk39_v4.trans (show v1 39 = v 39 from hq39_v1))))), (by show (v 3).toInt ≤ (v68 3).toInt; omega), (by show (v68 5).toInt = (v 5).toInt ∨ (v 3).toInt < (v68 3).toInt ∨ ¬ (v68 5).toInt = 59; omega), (by show 0 < (v68 1).toInt ∨ ((v68 8).toInt + (v68 10).toInt ≤ 10 * (v68 13).toInt ∧ (v68 10).toInt ≤ (v68 14).toInt + (v68 13).toInt ∧ (v68 13).toInt ≤ 30 ∧ (v68 14).toInt ≤ 7 ∧ (v 13).toInt < (v68 13).toInt); omega), (by show (v68 1).toInt = 0 → FI 1 (v68 10).toInt (v68 14).toInt (v68 8).toInt (f69 6) (f69 2) (f69 3); rw [hs6_f69, hs2_f69, hs3_f69]; intro hz9; first | exact FI.cast hFU (by omega) (by omega) (by omega) | (exfalso; omega))⟩ hP hD hS dX11_unit_179 (Nat.le_refl _) (Nat.le_refl _)
                · skip
                  have zc59 : ¬ (0 ≤ r3.toInt) := by rw [fa_le, show (0 : Int32).toInt = 0 from by decide] at c59; exact c59
                  refine lv_aload_n hx hb dX11_unit_164 rfl (lv_at hl 2 rfl) ?_
                  refine va_get (D := (dC, dI)) (ci := 11) (v := .int (v15 7)) (C := RX11) (T := TX11) (N := 79) hx hb hts inB_11 hown hE.1 hP 0 rfl rfl 8 (by decide) (hts _ k_1328) (fun _ h9 => h9) rfl dX11_unit_165 ?_
                  refine lv_goto (tgt := 172) hx hb dX11_unit_168 (by decide) ?_
                  refine cbVv (n := 2) (rest := []) hx hb hml hown hts hE hP hD hS hA (sY_X11_add_1 l dC dI cy y0 r 0 (v15 7) v15 f16 w17 g18 hIv15 hCf16 hRf16 (by have q1 : (0 : Int32).toInt = 0 := (by decide); show (v15 8).toInt ≤ 319; omega)) k_1696 k_1698 k_63 k_114 k_1699 (by decide +kernel) ⟨Nat.le_of_ble_eq_true rfl, Nat.le_of_ble_eq_true rfl⟩ 0 11 rfl rfl (rfl) hl.1 rfl (Nat.le_of_ble_eq_true rfl) dX11_unit_172 (fun u H locs hw hP hD hS => ?_)
                  obtain ⟨v77, f78, w79, g80⟩ := u
                  obtain ⟨hIv77, hCf78, hRf78, hk0_v77, hk1_v77, hk3_v77, hk4_v77, hk5_v77, hk9_v77, hk10_v77, hk13_v77, hk14_v77, hk15_v77, hk17_v77, hk18_v77, hk24_v77, hk25_v77, hk35_v77, hk36_v77, hk38_v77, hk39_v77, pv81, pg82, pg83, kq84⟩ := hw
                  have hP : va_P (dC, dI) vwCl (YW cy y0 r v77 f78 w79 g80) H := hP
                  have hD : va_D A (YW cy y0 r v77 f78 w79 g80) := hD
                  have b8_v77 : 0 ≤ (v77 8).toInt ∧ (v77 8).toInt ≤ 320 := YIb.b hIv77.1 8 (by decide)
                  have pv81 : (v77 8).toInt = (v15 8).toInt + 1 := pv81
                  have pg82 : (f78 2) = upd (f16 2) ((v15 8).toInt).toNat 0 := pg82
                  rw [hs2_f16] at pg82
                  have pg83 : (f78 3) = upd (f16 3) ((v15 8).toInt).toNat (v15 7) := pg83
                  rw [hs3_f16] at pg83
                  have hs6_f78 : f78 6 = (f1 6) := kq84.trans hs6_f16
                  have hUv77 : (v77 35).toInt + (v77 36).toInt ≤ 40 := hIv77.2
                  have hq0_v77 : v77 0 = (v 0) := hk0_v77.trans hq0_v15
                  have hq1_v77 : v77 1 = (v4 1) := hk1_v77.trans hq1_v15
                  have zq1_v77 := congrArg Int32.toInt hq1_v77
                  have hq3_v77 : v77 3 = (v1 3) := hk3_v77.trans hq3_v15
                  have zq3_v77 := congrArg Int32.toInt hq3_v77
                  have hq4_v77 : v77 4 = (v 4) := hk4_v77.trans hq4_v15
                  have zq4_v77 := congrArg Int32.toInt hq4_v77
                  have hq5_v77 : v77 5 = (v1 5) := hk5_v77.trans hq5_v15
                  have zq5_v77 := congrArg Int32.toInt hq5_v77
                  have hq9_v77 : v77 9 = (v 9) := hk9_v77.trans hq9_v15
                  have zq9_v77 := congrArg Int32.toInt hq9_v77
                  have hq10_v77 : v77 10 = (v1 10) := hk10_v77.trans hq10_v15
                  have zq10_v77 := congrArg Int32.toInt hq10_v77
                  have hq13_v77 : v77 13 = (v15 13) := hk13_v77
                  have zq13_v77 := congrArg Int32.toInt hq13_v77
                  have hq14_v77 : v77 14 = (v1 14) := hk14_v77.trans hq14_v15
                  have zq14_v77 := congrArg Int32.toInt hq14_v77
                  have hq15_v77 : v77 15 = (v 15) := hk15_v77.trans hq15_v15
                  have zq15_v77 := congrArg Int32.toInt hq15_v77
                  have hq17_v77 : v77 17 = (v 17) := hk17_v77.trans hq17_v15
                  have zq17_v77 := congrArg Int32.toInt hq17_v77
                  have hq18_v77 : v77 18 = (v 18) := hk18_v77.trans hq18_v15
                  have zq18_v77 := congrArg Int32.toInt hq18_v77
                  have hq24_v77 : v77 24 = (v 24) := hk24_v77.trans hq24_v15
                  have hq25_v77 : v77 25 = (v 25) := hk25_v77.trans hq25_v15
                  have hq35_v77 : v77 35 = (v 35) := hk35_v77.trans hq35_v15
                  have zq35_v77 := congrArg Int32.toInt hq35_v77
                  have hq36_v77 : v77 36 = (v 36) := hk36_v77.trans hq36_v15
                  have zq36_v77 := congrArg Int32.toInt hq36_v77
                  have hq38_v77 : v77 38 = (v 38) := hk38_v77.trans hq38_v15
                  have hq39_v77 : v77 39 = (v 39) := hk39_v77.trans hq39_v15
                  have hFU : FI 1 (v77 10).toInt (v77 14).toInt (v77 8).toInt (f1 6) (f78 2) (f78 3) := FI.unit (hFJ (by omega)) pg82 pg83 (by omega) (Or.inl rfl) (by omega) (by omega) (by omega) (by omega)
                  refine lv_aload_n hx hb dX11_unit_175 rfl (lv_at hl 2 rfl) ?_
                  refine cbVv (n := 0) (rest := []) hx hb hml hown hts hE hP hD hS hA (sY_X11_token_1 l dC dI cy y0 r  v77 f78 w79 g80 hIv77 hCf78 hRf78 ) k_1579 k_1581 k_42 k_114 k_1582 (by decide +kernel) ⟨Nat.le_of_ble_eq_true rfl, Nat.le_of_ble_eq_true rfl⟩ 0 11 rfl rfl (rfl) hl.1 rfl (Nat.le_of_ble_eq_true rfl) dX11_unit_176 (fun u H locs hw hP hD hS => ?_)
                  obtain ⟨v85, f86, w87, g88⟩ := u
                  obtain ⟨hIv85, hCf86, hRf86, hk0_v85, hk1_v85, hk4_v85, hk8_v85, hk9_v85, hk10_v85, hk13_v85, hk14_v85, hk15_v85, hk17_v85, hk18_v85, hk24_v85, hk25_v85, hk35_v85, hk36_v85, hk38_v85, hk39_v85, pv89, pv90, kq91, kq92, kq93⟩ := hw
                  have hP : va_P (dC, dI) vwCl (YW cy y0 r v85 f86 w87 g88) H := hP
                  have hD : va_D A (YW cy y0 r v85 f86 w87 g88) := hD
                  have b3_v85 : 0 ≤ (v85 3).toInt ∧ (v85 3).toInt ≤ 1600 := YIb.b hIv85.1 3 (by decide)
                  have pv89 : (v77 3).toInt ≤ (v85 3).toInt := pv89
                  have pv90 : (v85 5).toInt = (v77 5).toInt ∨ (v77 3).toInt < (v85 3).toInt ∨ ¬ (v85 5).toInt = 59 := pv90
                  have hs2_f86 : f86 2 = (f78 2) := kq91
                  have hs3_f86 : f86 3 = (f78 3) := kq92
                  have hs6_f86 : f86 6 = (f1 6) := kq93.trans hs6_f78
                  have hUv85 : (v85 35).toInt + (v85 36).toInt ≤ 40 := hIv85.2
                  have hq0_v85 : v85 0 = (v 0) := hk0_v85.trans hq0_v77
                  have hq1_v85 : v85 1 = (v4 1) := hk1_v85.trans hq1_v77
                  have zq1_v85 := congrArg Int32.toInt hq1_v85
                  have hq4_v85 : v85 4 = (v 4) := hk4_v85.trans hq4_v77
                  have zq4_v85 := congrArg Int32.toInt hq4_v85
                  have hq8_v85 : v85 8 = (v77 8) := hk8_v85
                  have zq8_v85 := congrArg Int32.toInt hq8_v85
                  have hq9_v85 : v85 9 = (v 9) := hk9_v85.trans hq9_v77
                  have zq9_v85 := congrArg Int32.toInt hq9_v85
                  have hq10_v85 : v85 10 = (v1 10) := hk10_v85.trans hq10_v77
                  have zq10_v85 := congrArg Int32.toInt hq10_v85
                  have hq13_v85 : v85 13 = (v15 13) := hk13_v85.trans hq13_v77
                  have zq13_v85 := congrArg Int32.toInt hq13_v85
                  have hq14_v85 : v85 14 = (v1 14) := hk14_v85.trans hq14_v77
                  have zq14_v85 := congrArg Int32.toInt hq14_v85
                  have hq15_v85 : v85 15 = (v 15) := hk15_v85.trans hq15_v77
                  have zq15_v85 := congrArg Int32.toInt hq15_v85
                  have hq17_v85 : v85 17 = (v 17) := hk17_v85.trans hq17_v77
                  have zq17_v85 := congrArg Int32.toInt hq17_v85
                  have hq18_v85 : v85 18 = (v 18) := hk18_v85.trans hq18_v77
                  have zq18_v85 := congrArg Int32.toInt hq18_v85
                  have hq24_v85 : v85 24 = (v 24) := hk24_v85.trans hq24_v77
                  have hq25_v85 : v85 25 = (v 25) := hk25_v85.trans hq25_v77
                  have hq35_v85 : v85 35 = (v 35) := hk35_v85.trans hq35_v77
                  have zq35_v85 := congrArg Int32.toInt hq35_v85
                  have hq36_v85 : v85 36 = (v 36) := hk36_v85.trans hq36_v77
                  have zq36_v85 := congrArg Int32.toInt hq36_v85
                  have hq38_v85 : v85 38 = (v 38) := hk38_v85.trans hq38_v77
                  have hq39_v85 : v85 39 = (v 39) := hk39_v85.trans hq39_v77
                  exact ret (v85, f86, w87, g88) _ _ _ _ _ _ ⟨hIv85, hCf86, hRf86, (hk0_v85.trans (hk0_v77.trans (hk0_v15.trans (hk0_v4.trans (show v1 0 = v 0 from hq0_v1))))), (hk4_v85.trans (hk4_v77.trans (hk4_v15.trans (hk4_v4.trans (show v1 4 = v 4 from hq4_v1))))), (hk9_v85.trans (hk9_v77.trans (hk9_v15.trans (hk9_v4.trans (show v1 9 = v 9 from hq9_v1))))), (hk15_v85.trans (hk15_v77.trans (hk15_v15.trans (hk15_v4.trans (show v1 15 = v 15 from hq15_v1))))), (hk17_v85.trans (hk17_v77.trans (hk17_v15.trans (hk17_v4.trans (show v1 17 = v 17 from hq17_v1))))), (hk18_v85.trans (hk18_v77.trans (hk18_v15.trans (hk18_v4.trans (show v1 18 = v 18 from hq18_v1))))), (hk24_v85.trans (hk24_v77.trans (hk24_v15.trans (hk24_v4.trans (show v1 24 = v 24 from hq24_v1))))), (hk25_v85.trans (hk25_v77.trans (hk25_v15.trans (hk25_v4.trans (show v1 25 = v 25 from hq25_v1))))), (hk35_v85.trans (hk35_v77.trans (hk35_v15.trans (hk35_v4.trans (show v1 35 = v 35 from hq35_v1))))), (hk36_v85.trans (hk36_v77.trans (hk36_v15.trans (hk36_v4.trans (show v1 36 = v 36 from hq36_v1))))), (hk38_v85.trans (hk38_v77.trans (hk38_v15.trans (hk38_v4.trans (show v1 38 = v 38 from hq38_v1))))), (hk39_v85.trans (hk39_v77.trans (hk39_v15.trans (hk39_v4.trans (show v1 39 = v 39 from hq39_v1))))), (by show (v 3).toInt ≤ (v85 3).toInt; omega), (by show (v85 5).toInt = (v 5).toInt ∨ (v 3).toInt < (v85 3).toInt ∨ ¬ (v85 5).toInt = 59; omega), (by show 0 < (v85 1).toInt ∨ ((v85 8).toInt + (v85 10).toInt ≤ 10 * (v85 13).toInt ∧ (v85 10).toInt ≤ (v85 14).toInt + (v85 13).toInt ∧ (v85 13).toInt ≤ 30 ∧ (v85 14).toInt ≤ 7 ∧ (v 13).toInt < (v85 13).toInt); omega), (by show (v85 1).toInt = 0 → FI 1 (v85 10).toInt (v85 14).toInt (v85 8).toInt (f86 6) (f86 2) (f86 3); rw [hs6_f86, hs2_f86, hs3_f86]; intro hz9; first | exact FI.cast hFU (by omega) (by omega) (by omega) | (exfalso; omega))⟩ hP hD hS dX11_unit_179 (Nat.le_refl _) (Nat.le_refl _)
            · skip
              have zc14 : ¬ ((v4 1).toInt ≤ 0) := by rw [fa_le, show (0 : Int32).toInt = 0 from by decide] at c14; exact c14
              exact ret (v4, f5, w6, g7) _ _ _ _ _ _ ⟨hIv4, hCf5, hRf5, (hk0_v4.trans (show v1 0 = v 0 from hq0_v1)), (hk4_v4.trans (show v1 4 = v 4 from hq4_v1)), (hk9_v4.trans (show v1 9 = v 9 from hq9_v1)), (hk15_v4.trans (show v1 15 = v 15 from hq15_v1)), (hk17_v4.trans (show v1 17 = v 17 from hq17_v1)), (hk18_v4.trans (show v1 18 = v 18 from hq18_v1)), (hk24_v4.trans (show v1 24 = v 24 from hq24_v1)), (hk25_v4.trans (show v1 25 = v 25 from hq25_v1)), (hk35_v4.trans (show v1 35 = v 35 from hq35_v1)), (hk36_v4.trans (show v1 36 = v 36 from hq36_v1)), (hk38_v4.trans (show v1 38 = v 38 from hq38_v1)), (hk39_v4.trans (show v1 39 = v 39 from hq39_v1)), (by show (v 3).toInt ≤ (v4 3).toInt; omega), (by show (v4 5).toInt = (v 5).toInt ∨ (v 3).toInt < (v4 3).toInt ∨ ¬ (v4 5).toInt = 59; omega), (by show 0 < (v4 1).toInt ∨ ((v4 8).toInt + (v4 10).toInt ≤ 10 * (v4 13).toInt ∧ (v4 10).toInt ≤ (v4 14).toInt + (v4 13).toInt ∧ (v4 13).toInt ≤ 30 ∧ (v4 14).toInt ≤ 7 ∧ (v 13).toInt < (v4 13).toInt); omega), (by show (v4 1).toInt = 0 → FI 1 (v4 10).toInt (v4 14).toInt (v4 8).toInt (f5 6) (f5 2) (f5 3); rw [hs6_f5, hs2_f5, hs3_f5]; intro hz9; first | exact FI.cast hFU (by omega) (by omega) (by omega) | (exfalso; omega))⟩ hP hD hS dX11_unit_145 (Nat.le_refl _) (Nat.le_refl _)
          have jp126 : ∀ (H : Heap) (locs : List Loc) (ls : Array Slot), va_P (dC, dI) vwCl (YW cy y0 r v1 f1 w1 g1) H → va_D A (YW cy y0 r v1 f1 w1 g1) → va_S A s.heap H locs → lv_has ls 3 [(2, .int r3), (1, .int l1_1), (0, .ref y0)] → W p l e { frames := 4, cells := 0, slots := 0, locals := 124 } s m ([.ref y0] : List Value).toArray below meth c H locs 0 0 Q (F0 m 126 ls []) := by
            intro H locs ls hP hD hS hl
            refine lv_aload_n hx hb dX11_unit_126 rfl (lv_at hl 2 rfl) ?_
            refine cbVi (n := 0) (rest := []) hx hb hml hown hts hE hP hD hS hA (sY_X11_isFull_1 l dC dI cy y0 r  v1 f1 w1 g1 hIv1 hCf1 hRf1 ) k_1684 k_1686 k_60 k_114 k_1687 (by decide +kernel) ⟨Nat.le_of_ble_eq_true rfl, Nat.le_of_ble_eq_true rfl⟩ 0 11 rfl rfl (rfl) hl.1 rfl (Nat.le_of_ble_eq_true rfl) dX11_unit_127 (fun r94 u H locs hw hP hD hS => ?_)
            rcases hw with ⟨g95⟩ | ⟨g95, g95_0⟩
            · skip
              subst g95
              refine lv_if_eq (tgt := 138) hx hb dX11_unit_130 (by decide) (fun c0 => absurd c0 (by decide)) (fun _ => ?_)
              exact jp133 _ _ _ hP hD hS hl
            · skip
              subst g95
              refine lv_if_eq (tgt := 138) hx hb dX11_unit_130 (by decide) (fun _ => ?_) (fun c0 => absurd (by decide) c0)
              refine lv_aload_n hx hb dX11_unit_138 rfl (lv_at hl 2 rfl) ?_
              refine va_get (D := (dC, dI)) (ci := 11) (v := .int (v1 1)) (C := RX11) (T := TX11) (N := 79) hx hb hts inB_11 hown hE.1 hP 0 rfl rfl 2 (by decide) (hts _ k_1322) (fun _ h9 => h9) rfl dX11_unit_139 ?_
              refine lv_if_le (tgt := 146) hx hb dX11_unit_142 (by decide) (fun c96 => ?_) (fun c96 => ?_)
              · skip
                have zc96 : (v1 1).toInt ≤ 0 := by rw [fa_le, show (0 : Int32).toInt = 0 from by decide] at c96; exact c96
                refine lv_aload_n hx hb dX11_unit_146 rfl (lv_at hl 2 rfl) ?_
                refine cbVv (n := 0) (rest := []) hx hb hml hown hts hE hP hD hS hA (sY_X11_countUnit_1 l dC dI cy y0 r  v1 f1 w1 g1 hIv1 hCf1 hRf1 (by show (v1 13).toInt ≤ 30; omega)) k_1688 k_1690 k_61 k_114 k_1691 (by decide +kernel) ⟨Nat.le_of_ble_eq_true rfl, Nat.le_of_ble_eq_true rfl⟩ 0 11 rfl rfl (rfl) hl.1 rfl (Nat.le_of_ble_eq_true rfl) dX11_unit_147 (fun u H locs hw hP hD hS => ?_)
                obtain ⟨v97, f98, w99, g100⟩ := u
                obtain ⟨hIv97, hCf98, hRf98, hk0_v97, hk1_v97, hk3_v97, hk4_v97, hk5_v97, hk8_v97, hk9_v97, hk10_v97, hk14_v97, hk15_v97, hk17_v97, hk18_v97, hk24_v97, hk25_v97, hk35_v97, hk36_v97, hk38_v97, hk39_v97, pv101, kq102, kq103, kq104⟩ := hw
                have hP : va_P (dC, dI) vwCl (YW cy y0 r v97 f98 w99 g100) H := hP
                have hD : va_D A (YW cy y0 r v97 f98 w99 g100) := hD
                have b13_v97 : 0 ≤ (v97 13).toInt ∧ (v97 13).toInt ≤ 31 := YIb.b hIv97.1 13 (by decide)
                have pv101 : (v97 13).toInt = (v1 13).toInt + 1 := pv101
                have hs2_f98 : f98 2 = (f 2) := kq102.trans hs2_f1
                have hs3_f98 : f98 3 = (f 3) := kq103.trans hs3_f1
                have hs6_f98 : f98 6 = (f1 6) := kq104
                have hUv97 : (v97 35).toInt + (v97 36).toInt ≤ 40 := hIv97.2
                have hq0_v97 : v97 0 = (v 0) := hk0_v97.trans hq0_v1
                have hq1_v97 : v97 1 = (v1 1) := hk1_v97
                have zq1_v97 := congrArg Int32.toInt hq1_v97
                have hq3_v97 : v97 3 = (v1 3) := hk3_v97
                have zq3_v97 := congrArg Int32.toInt hq3_v97
                have hq4_v97 : v97 4 = (v 4) := hk4_v97.trans hq4_v1
                have zq4_v97 := congrArg Int32.toInt hq4_v97
                have hq5_v97 : v97 5 = (v1 5) := hk5_v97
                have zq5_v97 := congrArg Int32.toInt hq5_v97
                have hq8_v97 : v97 8 = (v 8) := hk8_v97.trans hq8_v1
                have zq8_v97 := congrArg Int32.toInt hq8_v97
                have hq9_v97 : v97 9 = (v 9) := hk9_v97.trans hq9_v1
                have zq9_v97 := congrArg Int32.toInt hq9_v97
                have hq10_v97 : v97 10 = (v1 10) := hk10_v97
                have zq10_v97 := congrArg Int32.toInt hq10_v97
                have hq14_v97 : v97 14 = (v1 14) := hk14_v97
                have zq14_v97 := congrArg Int32.toInt hq14_v97
                have hq15_v97 : v97 15 = (v 15) := hk15_v97.trans hq15_v1
                have zq15_v97 := congrArg Int32.toInt hq15_v97
                have hq17_v97 : v97 17 = (v 17) := hk17_v97.trans hq17_v1
                have zq17_v97 := congrArg Int32.toInt hq17_v97
                have hq18_v97 : v97 18 = (v 18) := hk18_v97.trans hq18_v1
                have zq18_v97 := congrArg Int32.toInt hq18_v97
                have hq24_v97 : v97 24 = (v 24) := hk24_v97.trans hq24_v1
                have hq25_v97 : v97 25 = (v 25) := hk25_v97.trans hq25_v1
                have hq35_v97 : v97 35 = (v 35) := hk35_v97.trans hq35_v1
                have zq35_v97 := congrArg Int32.toInt hq35_v97
                have hq36_v97 : v97 36 = (v 36) := hk36_v97.trans hq36_v1
                have zq36_v97 := congrArg Int32.toInt hq36_v97
                have hq38_v97 : v97 38 = (v 38) := hk38_v97.trans hq38_v1
                have hq39_v97 : v97 39 = (v 39) := hk39_v97.trans hq39_v1
                refine lv_aload_n hx hb dX11_unit_150 rfl (lv_at hl 2 rfl) ?_
                refine lv_iload_n hx hb dX11_unit_151 rfl (lv_at hl 0 rfl) ?_
                refine lv_if_ge (tgt := 159) hx hb dX11_unit_152 (by decide) (fun c105 => ?_) (fun c105 => ?_)
                · skip
                  have zc105 : 0 ≤ r3.toInt := by rw [fa_le, show (0 : Int32).toInt = 0 from by decide] at c105; exact c105
                  refine lv_iconst (v := 1) hx hb dX11_unit_159 (by decide) ?_
                  refine lv_iload_n hx hb dX11_unit_160 rfl (lv_at hl 0 rfl) ?_
                  refine lv_if_ge (tgt := 171) hx hb dX11_unit_161 (by decide) (fun c106 => ?_) (fun c106 => ?_)
                  · skip
                    have zc106 : 0 ≤ r3.toInt := by rw [fa_le, show (0 : Int32).toInt = 0 from by decide] at c106; exact c106
                    refine lv_iload_n hx hb dX11_unit_171 rfl (lv_at hl 0 rfl) ?_
                    refine cbVv (n := 2) (rest := []) hx hb hml hown hts hE hP hD hS hA (sY_X11_add_1 l dC dI cy y0 r 1 r3 v97 f98 w99 g100 hIv97 hCf98 hRf98 (by have q1 : (1 : Int32).toInt = 1 := (by decide); show (v97 8).toInt ≤ 319; omega)) k_1696 k_1698 k_63 k_114 k_1699 (by decide +kernel) ⟨Nat.le_of_ble_eq_true rfl, Nat.le_of_ble_eq_true rfl⟩ 0 11 rfl rfl (rfl) hl.1 rfl (Nat.le_of_ble_eq_true rfl) dX11_unit_172 (fun u H locs hw hP hD hS => ?_)
                    obtain ⟨v107, f108, w109, g110⟩ := u
                    obtain ⟨hIv107, hCf108, hRf108, hk0_v107, hk1_v107, hk3_v107, hk4_v107, hk5_v107, hk9_v107, hk10_v107, hk13_v107, hk14_v107, hk15_v107, hk17_v107, hk18_v107, hk24_v107, hk25_v107, hk35_v107, hk36_v107, hk38_v107, hk39_v107, pv111, pg112, pg113, kq114⟩ := hw
                    have hP : va_P (dC, dI) vwCl (YW cy y0 r v107 f108 w109 g110) H := hP
                    have hD : va_D A (YW cy y0 r v107 f108 w109 g110) := hD
                    have b8_v107 : 0 ≤ (v107 8).toInt ∧ (v107 8).toInt ≤ 320 := YIb.b hIv107.1 8 (by decide)
                    have pv111 : (v107 8).toInt = (v97 8).toInt + 1 := pv111
                    have pg112 : (f108 2) = upd (f98 2) ((v97 8).toInt).toNat 1 := pg112
                    rw [hs2_f98] at pg112
                    have pg113 : (f108 3) = upd (f98 3) ((v97 8).toInt).toNat r3 := pg113
                    rw [hs3_f98] at pg113
                    have hs6_f108 : f108 6 = (f1 6) := kq114.trans hs6_f98
                    have hUv107 : (v107 35).toInt + (v107 36).toInt ≤ 40 := hIv107.2
                    have hq0_v107 : v107 0 = (v 0) := hk0_v107.trans hq0_v97
                    have hq1_v107 : v107 1 = (v1 1) := hk1_v107.trans hq1_v97
                    have zq1_v107 := congrArg Int32.toInt hq1_v107
                    have hq3_v107 : v107 3 = (v1 3) := hk3_v107.trans hq3_v97
                    have zq3_v107 := congrArg Int32.toInt hq3_v107
                    have hq4_v107 : v107 4 = (v 4) := hk4_v107.trans hq4_v97
                    have zq4_v107 := congrArg Int32.toInt hq4_v107
                    have hq5_v107 : v107 5 = (v1 5) := hk5_v107.trans hq5_v97
                    have zq5_v107 := congrArg Int32.toInt hq5_v107
                    have hq9_v107 : v107 9 = (v 9) := hk9_v107.trans hq9_v97
                    have zq9_v107 := congrArg Int32.toInt hq9_v107
                    have hq10_v107 : v107 10 = (v1 10) := hk10_v107.trans hq10_v97
                    have zq10_v107 := congrArg Int32.toInt hq10_v107
                    have hq13_v107 : v107 13 = (v97 13) := hk13_v107
                    have zq13_v107 := congrArg Int32.toInt hq13_v107
                    have hq14_v107 : v107 14 = (v1 14) := hk14_v107.trans hq14_v97
                    have zq14_v107 := congrArg Int32.toInt hq14_v107
                    have hq15_v107 : v107 15 = (v 15) := hk15_v107.trans hq15_v97
                    have zq15_v107 := congrArg Int32.toInt hq15_v107
                    have hq17_v107 : v107 17 = (v 17) := hk17_v107.trans hq17_v97
                    have zq17_v107 := congrArg Int32.toInt hq17_v107
                    have hq18_v107 : v107 18 = (v 18) := hk18_v107.trans hq18_v97
                    have zq18_v107 := congrArg Int32.toInt hq18_v107
                    have hq24_v107 : v107 24 = (v 24) := hk24_v107.trans hq24_v97
                    have hq25_v107 : v107 25 = (v 25) := hk25_v107.trans hq25_v97
                    have hq35_v107 : v107 35 = (v 35) := hk35_v107.trans hq35_v97
                    have zq35_v107 := congrArg Int32.toInt hq35_v107
                    have hq36_v107 : v107 36 = (v 36) := hk36_v107.trans hq36_v97
                    have zq36_v107 := congrArg Int32.toInt hq36_v107
                    have hq38_v107 : v107 38 = (v 38) := hk38_v107.trans hq38_v97
                    have hq39_v107 : v107 39 = (v 39) := hk39_v107.trans hq39_v97
                    have hFU : FI 1 (v107 10).toInt (v107 14).toInt (v107 8).toInt (f1 6) (f108 2) (f108 3) := FI.unit (hFJ (by omega)) pg112 pg113 (by omega) (Or.inr ⟨rfl, by omega, by omega⟩) (by omega) (by omega) (by omega) (by omega)
                    refine lv_aload_n hx hb dX11_unit_175 rfl (lv_at hl 2 rfl) ?_
                    refine cbVv (n := 0) (rest := []) hx hb hml hown hts hE hP hD hS hA (sY_X11_token_1 l dC dI cy y0 r  v107 f108 w109 g110 hIv107 hCf108 hRf108 ) k_1579 k_1581 k_42 k_114 k_1582 (by decide +kernel) ⟨Nat.le_of_ble_eq_true rfl, Nat.le_of_ble_eq_true rfl⟩ 0 11 rfl rfl (rfl) hl.1 rfl (Nat.le_of_ble_eq_true rfl) dX11_unit_176 (fun u H locs hw hP hD hS => ?_)
                    obtain ⟨v115, f116, w117, g118⟩ := u
                    obtain ⟨hIv115, hCf116, hRf116, hk0_v115, hk1_v115, hk4_v115, hk8_v115, hk9_v115, hk10_v115, hk13_v115, hk14_v115, hk15_v115, hk17_v115, hk18_v115, hk24_v115, hk25_v115, hk35_v115, hk36_v115, hk38_v115, hk39_v115, pv119, pv120, kq121, kq122, kq123⟩ := hw
                    have hP : va_P (dC, dI) vwCl (YW cy y0 r v115 f116 w117 g118) H := hP
                    have hD : va_D A (YW cy y0 r v115 f116 w117 g118) := hD
                    have b3_v115 : 0 ≤ (v115 3).toInt ∧ (v115 3).toInt ≤ 1600 := YIb.b hIv115.1 3 (by decide)
                    have pv119 : (v107 3).toInt ≤ (v115 3).toInt := pv119
                    have pv120 : (v115 5).toInt = (v107 5).toInt ∨ (v107 3).toInt < (v115 3).toInt ∨ ¬ (v115 5).toInt = 59 := pv120
                    have hs2_f116 : f116 2 = (f108 2) := kq121
                    have hs3_f116 : f116 3 = (f108 3) := kq122
                    have hs6_f116 : f116 6 = (f1 6) := kq123.trans hs6_f108
                    have hUv115 : (v115 35).toInt + (v115 36).toInt ≤ 40 := hIv115.2
                    have hq0_v115 : v115 0 = (v 0) := hk0_v115.trans hq0_v107
                    have hq1_v115 : v115 1 = (v1 1) := hk1_v115.trans hq1_v107
                    have zq1_v115 := congrArg Int32.toInt hq1_v115
                    have hq4_v115 : v115 4 = (v 4) := hk4_v115.trans hq4_v107
                    have zq4_v115 := congrArg Int32.toInt hq4_v115
                    have hq8_v115 : v115 8 = (v107 8) := hk8_v115
                    have zq8_v115 := congrArg Int32.toInt hq8_v115
                    have hq9_v115 : v115 9 = (v 9) := hk9_v115.trans hq9_v107
                    have zq9_v115 := congrArg Int32.toInt hq9_v115
                    have hq10_v115 : v115 10 = (v1 10) := hk10_v115.trans hq10_v107
                    have zq10_v115 := congrArg Int32.toInt hq10_v115
                    have hq13_v115 : v115 13 = (v97 13) := hk13_v115.trans hq13_v107
                    have zq13_v115 := congrArg Int32.toInt hq13_v115
                    have hq14_v115 : v115 14 = (v1 14) := hk14_v115.trans hq14_v107
                    have zq14_v115 := congrArg Int32.toInt hq14_v115
                    have hq15_v115 : v115 15 = (v 15) := hk15_v115.trans hq15_v107
                    have zq15_v115 := congrArg Int32.toInt hq15_v115
                    have hq17_v115 : v115 17 = (v 17) := hk17_v115.trans hq17_v107
                    have zq17_v115 := congrArg Int32.toInt hq17_v115
                    have hq18_v115 : v115 18 = (v 18) := hk18_v115.trans hq18_v107
                    have zq18_v115 := congrArg Int32.toInt hq18_v115
                    have hq24_v115 : v115 24 = (v 24) := hk24_v115.trans hq24_v107
                    have hq25_v115 : v115 25 = (v 25) := hk25_v115.trans hq25_v107
                    have hq35_v115 : v115 35 = (v 35) := hk35_v115.trans hq35_v107
                    have zq35_v115 := congrArg Int32.toInt hq35_v115
                    have hq36_v115 : v115 36 = (v 36) := hk36_v115.trans hq36_v107
                    have zq36_v115 := congrArg Int32.toInt hq36_v115
                    have hq38_v115 : v115 38 = (v 38) := hk38_v115.trans hq38_v107
                    have hq39_v115 : v115 39 = (v 39) := hk39_v115.trans hq39_v107
                    exact ret (v115, f116, w117, g118) _ _ _ _ _ _ ⟨hIv115, hCf116, hRf116, (hk0_v115.trans (hk0_v107.trans (hk0_v97.trans (show v1 0 = v 0 from hq0_v1)))), (hk4_v115.trans (hk4_v107.trans (hk4_v97.trans (show v1 4 = v 4 from hq4_v1)))), (hk9_v115.trans (hk9_v107.trans (hk9_v97.trans (show v1 9 = v 9 from hq9_v1)))), (hk15_v115.trans (hk15_v107.trans (hk15_v97.trans (show v1 15 = v 15 from hq15_v1)))), (hk17_v115.trans (hk17_v107.trans (hk17_v97.trans (show v1 17 = v 17 from hq17_v1)))), (hk18_v115.trans (hk18_v107.trans (hk18_v97.trans (show v1 18 = v 18 from hq18_v1)))), (hk24_v115.trans (hk24_v107.trans (hk24_v97.trans (show v1 24 = v 24 from hq24_v1)))), (hk25_v115.trans (hk25_v107.trans (hk25_v97.trans (show v1 25 = v 25 from hq25_v1)))), (hk35_v115.trans (hk35_v107.trans (hk35_v97.trans (show v1 35 = v 35 from hq35_v1)))), (hk36_v115.trans (hk36_v107.trans (hk36_v97.trans (show v1 36 = v 36 from hq36_v1)))), (hk38_v115.trans (hk38_v107.trans (hk38_v97.trans (show v1 38 = v 38 from hq38_v1)))), (hk39_v115.trans (hk39_v107.trans (hk39_v97.trans (show v1 39 = v 39 from hq39_v1)))), (by show (v 3).toInt ≤ (v115 3).toInt; omega), (by show (v115 5).toInt = (v 5).toInt ∨ (v 3).toInt < (v115 3).toInt ∨ ¬ (v115 5).toInt = 59; omega), (by show 0 < (v115 1).toInt ∨ ((v115 8).toInt + (v115 10).toInt ≤ 10 * (v115 13).toInt ∧ (v115 10).toInt ≤ (v115 14).toInt + (v115 13).toInt ∧ (v115 13).toInt ≤ 30 ∧ (v115 14).toInt ≤ 7 ∧ (v 13).toInt < (v115 13).toInt); omega), (by show (v115 1).toInt = 0 → FI 1 (v115 10).toInt (v115 14).toInt (v115 8).toInt (f116 6) (f116 2) (f116 3); rw [hs6_f116, hs2_f116, hs3_f116]; intro hz9; first | exact FI.cast hFU (by omega) (by omega) (by omega) | (exfalso; omega))⟩ hP hD hS dX11_unit_179 (Nat.le_refl _) (Nat.le_refl _)
                  · skip
                    have zc106 : ¬ (0 ≤ r3.toInt) := by rw [fa_le, show (0 : Int32).toInt = 0 from by decide] at c106; exact c106
                    refine lv_aload_n hx hb dX11_unit_164 rfl (lv_at hl 2 rfl) ?_
                    refine va_get (D := (dC, dI)) (ci := 11) (v := .int (v97 7)) (C := RX11) (T := TX11) (N := 79) hx hb hts inB_11 hown hE.1 hP 0 rfl rfl 8 (by decide) (hts _ k_1328) (fun _ h9 => h9) rfl dX11_unit_165 ?_
                    refine lv_goto (tgt := 172) hx hb dX11_unit_168 (by decide) ?_
                    refine cbVv (n := 2) (rest := []) hx hb hml hown hts hE hP hD hS hA (sY_X11_add_1 l dC dI cy y0 r 1 (v97 7) v97 f98 w99 g100 hIv97 hCf98 hRf98 (by have q1 : (1 : Int32).toInt = 1 := (by decide); show (v97 8).toInt ≤ 319; omega)) k_1696 k_1698 k_63 k_114 k_1699 (by decide +kernel) ⟨Nat.le_of_ble_eq_true rfl, Nat.le_of_ble_eq_true rfl⟩ 0 11 rfl rfl (rfl) hl.1 rfl (Nat.le_of_ble_eq_true rfl) dX11_unit_172 (fun u H locs hw hP hD hS => ?_)
                    obtain ⟨v124, f125, w126, g127⟩ := u
                    obtain ⟨hIv124, hCf125, hRf125, hk0_v124, hk1_v124, hk3_v124, hk4_v124, hk5_v124, hk9_v124, hk10_v124, hk13_v124, hk14_v124, hk15_v124, hk17_v124, hk18_v124, hk24_v124, hk25_v124, hk35_v124, hk36_v124, hk38_v124, hk39_v124, pv128, pg129, pg130, kq131⟩ := hw
                    have hP : va_P (dC, dI) vwCl (YW cy y0 r v124 f125 w126 g127) H := hP
                    have hD : va_D A (YW cy y0 r v124 f125 w126 g127) := hD
                    have b8_v124 : 0 ≤ (v124 8).toInt ∧ (v124 8).toInt ≤ 320 := YIb.b hIv124.1 8 (by decide)
                    have pv128 : (v124 8).toInt = (v97 8).toInt + 1 := pv128
                    have pg129 : (f125 2) = upd (f98 2) ((v97 8).toInt).toNat 1 := pg129
                    rw [hs2_f98] at pg129
                    have pg130 : (f125 3) = upd (f98 3) ((v97 8).toInt).toNat (v97 7) := pg130
                    rw [hs3_f98] at pg130
                    have hs6_f125 : f125 6 = (f1 6) := kq131.trans hs6_f98
                    have hUv124 : (v124 35).toInt + (v124 36).toInt ≤ 40 := hIv124.2
                    have hq0_v124 : v124 0 = (v 0) := hk0_v124.trans hq0_v97
                    have hq1_v124 : v124 1 = (v1 1) := hk1_v124.trans hq1_v97
                    have zq1_v124 := congrArg Int32.toInt hq1_v124
                    have hq3_v124 : v124 3 = (v1 3) := hk3_v124.trans hq3_v97
                    have zq3_v124 := congrArg Int32.toInt hq3_v124
                    have hq4_v124 : v124 4 = (v 4) := hk4_v124.trans hq4_v97
                    have zq4_v124 := congrArg Int32.toInt hq4_v124
                    have hq5_v124 : v124 5 = (v1 5) := hk5_v124.trans hq5_v97
                    have zq5_v124 := congrArg Int32.toInt hq5_v124
                    have hq9_v124 : v124 9 = (v 9) := hk9_v124.trans hq9_v97
                    have zq9_v124 := congrArg Int32.toInt hq9_v124
                    have hq10_v124 : v124 10 = (v1 10) := hk10_v124.trans hq10_v97
                    have zq10_v124 := congrArg Int32.toInt hq10_v124
                    have hq13_v124 : v124 13 = (v97 13) := hk13_v124
                    have zq13_v124 := congrArg Int32.toInt hq13_v124
                    have hq14_v124 : v124 14 = (v1 14) := hk14_v124.trans hq14_v97
                    have zq14_v124 := congrArg Int32.toInt hq14_v124
                    have hq15_v124 : v124 15 = (v 15) := hk15_v124.trans hq15_v97
                    have zq15_v124 := congrArg Int32.toInt hq15_v124
                    have hq17_v124 : v124 17 = (v 17) := hk17_v124.trans hq17_v97
                    have zq17_v124 := congrArg Int32.toInt hq17_v124
                    have hq18_v124 : v124 18 = (v 18) := hk18_v124.trans hq18_v97
                    have zq18_v124 := congrArg Int32.toInt hq18_v124
                    have hq24_v124 : v124 24 = (v 24) := hk24_v124.trans hq24_v97
                    have hq25_v124 : v124 25 = (v 25) := hk25_v124.trans hq25_v97
                    have hq35_v124 : v124 35 = (v 35) := hk35_v124.trans hq35_v97
                    have zq35_v124 := congrArg Int32.toInt hq35_v124
                    have hq36_v124 : v124 36 = (v 36) := hk36_v124.trans hq36_v97
                    have zq36_v124 := congrArg Int32.toInt hq36_v124
                    have hq38_v124 : v124 38 = (v 38) := hk38_v124.trans hq38_v97
                    have hq39_v124 : v124 39 = (v 39) := hk39_v124.trans hq39_v97
                    have hFU : FI 1 (v124 10).toInt (v124 14).toInt (v124 8).toInt (f1 6) (f125 2) (f125 3) := FI.unit (hFJ (by omega)) pg129 pg130 (by omega) (Or.inr ⟨rfl, by omega, by omega⟩) (by omega) (by omega) (by omega) (by omega)
                    refine lv_aload_n hx hb dX11_unit_175 rfl (lv_at hl 2 rfl) ?_
                    refine cbVv (n := 0) (rest := []) hx hb hml hown hts hE hP hD hS hA (sY_X11_token_1 l dC dI cy y0 r  v124 f125 w126 g127 hIv124 hCf125 hRf125 ) k_1579 k_1581 k_42 k_114 k_1582 (by decide +kernel) ⟨Nat.le_of_ble_eq_true rfl, Nat.le_of_ble_eq_true rfl⟩ 0 11 rfl rfl (rfl) hl.1 rfl (Nat.le_of_ble_eq_true rfl) dX11_unit_176 (fun u H locs hw hP hD hS => ?_)
                    obtain ⟨v132, f133, w134, g135⟩ := u
                    obtain ⟨hIv132, hCf133, hRf133, hk0_v132, hk1_v132, hk4_v132, hk8_v132, hk9_v132, hk10_v132, hk13_v132, hk14_v132, hk15_v132, hk17_v132, hk18_v132, hk24_v132, hk25_v132, hk35_v132, hk36_v132, hk38_v132, hk39_v132, pv136, pv137, kq138, kq139, kq140⟩ := hw
                    have hP : va_P (dC, dI) vwCl (YW cy y0 r v132 f133 w134 g135) H := hP
                    have hD : va_D A (YW cy y0 r v132 f133 w134 g135) := hD
                    have b3_v132 : 0 ≤ (v132 3).toInt ∧ (v132 3).toInt ≤ 1600 := YIb.b hIv132.1 3 (by decide)
                    have pv136 : (v124 3).toInt ≤ (v132 3).toInt := pv136
                    have pv137 : (v132 5).toInt = (v124 5).toInt ∨ (v124 3).toInt < (v132 3).toInt ∨ ¬ (v132 5).toInt = 59 := pv137
                    have hs2_f133 : f133 2 = (f125 2) := kq138
                    have hs3_f133 : f133 3 = (f125 3) := kq139
                    have hs6_f133 : f133 6 = (f1 6) := kq140.trans hs6_f125
                    have hUv132 : (v132 35).toInt + (v132 36).toInt ≤ 40 := hIv132.2
                    have hq0_v132 : v132 0 = (v 0) := hk0_v132.trans hq0_v124
                    have hq1_v132 : v132 1 = (v1 1) := hk1_v132.trans hq1_v124
                    have zq1_v132 := congrArg Int32.toInt hq1_v132
                    have hq4_v132 : v132 4 = (v 4) := hk4_v132.trans hq4_v124
                    have zq4_v132 := congrArg Int32.toInt hq4_v132
                    have hq8_v132 : v132 8 = (v124 8) := hk8_v132
                    have zq8_v132 := congrArg Int32.toInt hq8_v132
                    have hq9_v132 : v132 9 = (v 9) := hk9_v132.trans hq9_v124
                    have zq9_v132 := congrArg Int32.toInt hq9_v132
                    have hq10_v132 : v132 10 = (v1 10) := hk10_v132.trans hq10_v124
                    have zq10_v132 := congrArg Int32.toInt hq10_v132
                    have hq13_v132 : v132 13 = (v97 13) := hk13_v132.trans hq13_v124
                    have zq13_v132 := congrArg Int32.toInt hq13_v132
                    have hq14_v132 : v132 14 = (v1 14) := hk14_v132.trans hq14_v124
                    have zq14_v132 := congrArg Int32.toInt hq14_v132
                    have hq15_v132 : v132 15 = (v 15) := hk15_v132.trans hq15_v124
                    have zq15_v132 := congrArg Int32.toInt hq15_v132
                    have hq17_v132 : v132 17 = (v 17) := hk17_v132.trans hq17_v124
                    have zq17_v132 := congrArg Int32.toInt hq17_v132
                    have hq18_v132 : v132 18 = (v 18) := hk18_v132.trans hq18_v124
                    have zq18_v132 := congrArg Int32.toInt hq18_v132
                    have hq24_v132 : v132 24 = (v 24) := hk24_v132.trans hq24_v124
                    have hq25_v132 : v132 25 = (v 25) := hk25_v132.trans hq25_v124
                    have hq35_v132 : v132 35 = (v 35) := hk35_v132.trans hq35_v124
                    have zq35_v132 := congrArg Int32.toInt hq35_v132
                    have hq36_v132 : v132 36 = (v 36) := hk36_v132.trans hq36_v124
                    have zq36_v132 := congrArg Int32.toInt hq36_v132
                    have hq38_v132 : v132 38 = (v 38) := hk38_v132.trans hq38_v124
                    have hq39_v132 : v132 39 = (v 39) := hk39_v132.trans hq39_v124
                    exact ret (v132, f133, w134, g135) _ _ _ _ _ _ ⟨hIv132, hCf133, hRf133, (hk0_v132.trans (hk0_v124.trans (hk0_v97.trans (show v1 0 = v 0 from hq0_v1)))), (hk4_v132.trans (hk4_v124.trans (hk4_v97.trans (show v1 4 = v 4 from hq4_v1)))), (hk9_v132.trans (hk9_v124.trans (hk9_v97.trans (show v1 9 = v 9 from hq9_v1)))), (hk15_v132.trans (hk15_v124.trans (hk15_v97.trans (show v1 15 = v 15 from hq15_v1)))), (hk17_v132.trans (hk17_v124.trans (hk17_v97.trans (show v1 17 = v 17 from hq17_v1)))), (hk18_v132.trans (hk18_v124.trans (hk18_v97.trans (show v1 18 = v 18 from hq18_v1)))), (hk24_v132.trans (hk24_v124.trans (hk24_v97.trans (show v1 24 = v 24 from hq24_v1)))), (hk25_v132.trans (hk25_v124.trans (hk25_v97.trans (show v1 25 = v 25 from hq25_v1)))), (hk35_v132.trans (hk35_v124.trans (hk35_v97.trans (show v1 35 = v 35 from hq35_v1)))), (hk36_v132.trans (hk36_v124.trans (hk36_v97.trans (show v1 36 = v 36 from hq36_v1)))), (hk38_v132.trans (hk38_v124.trans (hk38_v97.trans (show v1 38 = v 38 from hq38_v1)))), (hk39_v132.trans (hk39_v124.trans (hk39_v97.trans (show v1 39 = v 39 from hq39_v1)))), (by show (v 3).toInt ≤ (v132 3).toInt; omega), (by show (v132 5).toInt = (v 5).toInt ∨ (v 3).toInt < (v132 3).toInt ∨ ¬ (v132 5).toInt = 59; omega), (by show 0 < (v132 1).toInt ∨ ((v132 8).toInt + (v132 10).toInt ≤ 10 * (v132 13).toInt ∧ (v132 10).toInt ≤ (v132 14).toInt + (v132 13).toInt ∧ (v132 13).toInt ≤ 30 ∧ (v132 14).toInt ≤ 7 ∧ (v 13).toInt < (v132 13).toInt); omega), (by show (v132 1).toInt = 0 → FI 1 (v132 10).toInt (v132 14).toInt (v132 8).toInt (f133 6) (f133 2) (f133 3); rw [hs6_f133, hs2_f133, hs3_f133]; intro hz9; first | exact FI.cast hFU (by omega) (by omega) (by omega) | (exfalso; omega))⟩ hP hD hS dX11_unit_179 (Nat.le_refl _) (Nat.le_refl _)
                · skip
                  have zc105 : ¬ (0 ≤ r3.toInt) := by rw [fa_le, show (0 : Int32).toInt = 0 from by decide] at c105; exact c105
                  refine lv_iconst (v := 0) hx hb dX11_unit_155 (by decide) ?_
                  refine lv_goto (tgt := 160) hx hb dX11_unit_156 (by decide) ?_
                  refine lv_iload_n hx hb dX11_unit_160 rfl (lv_at hl 0 rfl) ?_
                  refine lv_if_ge (tgt := 171) hx hb dX11_unit_161 (by decide) (fun c141 => ?_) (fun c141 => ?_)
                  · skip
                    have zc141 : 0 ≤ r3.toInt := by rw [fa_le, show (0 : Int32).toInt = 0 from by decide] at c141; exact c141
                    refine lv_iload_n hx hb dX11_unit_171 rfl (lv_at hl 0 rfl) ?_
                    refine cbVv (n := 2) (rest := []) hx hb hml hown hts hE hP hD hS hA (sY_X11_add_1 l dC dI cy y0 r 0 r3 v97 f98 w99 g100 hIv97 hCf98 hRf98 (by have q1 : (0 : Int32).toInt = 0 := (by decide); show (v97 8).toInt ≤ 319; omega)) k_1696 k_1698 k_63 k_114 k_1699 (by decide +kernel) ⟨Nat.le_of_ble_eq_true rfl, Nat.le_of_ble_eq_true rfl⟩ 0 11 rfl rfl (rfl) hl.1 rfl (Nat.le_of_ble_eq_true rfl) dX11_unit_172 (fun u H locs hw hP hD hS => ?_)
                    obtain ⟨v142, f143, w144, g145⟩ := u
                    obtain ⟨hIv142, hCf143, hRf143, hk0_v142, hk1_v142, hk3_v142, hk4_v142, hk5_v142, hk9_v142, hk10_v142, hk13_v142, hk14_v142, hk15_v142, hk17_v142, hk18_v142, hk24_v142, hk25_v142, hk35_v142, hk36_v142, hk38_v142, hk39_v142, pv146, pg147, pg148, kq149⟩ := hw
                    have hP : va_P (dC, dI) vwCl (YW cy y0 r v142 f143 w144 g145) H := hP
                    have hD : va_D A (YW cy y0 r v142 f143 w144 g145) := hD
                    have b8_v142 : 0 ≤ (v142 8).toInt ∧ (v142 8).toInt ≤ 320 := YIb.b hIv142.1 8 (by decide)
                    have pv146 : (v142 8).toInt = (v97 8).toInt + 1 := pv146
                    have pg147 : (f143 2) = upd (f98 2) ((v97 8).toInt).toNat 0 := pg147
                    rw [hs2_f98] at pg147
                    have pg148 : (f143 3) = upd (f98 3) ((v97 8).toInt).toNat r3 := pg148
                    rw [hs3_f98] at pg148
                    have hs6_f143 : f143 6 = (f1 6) := kq149.trans hs6_f98
                    have hUv142 : (v142 35).toInt + (v142 36).toInt ≤ 40 := hIv142.2
                    have hq0_v142 : v142 0 = (v 0) := hk0_v142.trans hq0_v97
                    have hq1_v142 : v142 1 = (v1 1) := hk1_v142.trans hq1_v97
                    have zq1_v142 := congrArg Int32.toInt hq1_v142
                    have hq3_v142 : v142 3 = (v1 3) := hk3_v142.trans hq3_v97
                    have zq3_v142 := congrArg Int32.toInt hq3_v142
                    have hq4_v142 : v142 4 = (v 4) := hk4_v142.trans hq4_v97
                    have zq4_v142 := congrArg Int32.toInt hq4_v142
                    have hq5_v142 : v142 5 = (v1 5) := hk5_v142.trans hq5_v97
                    have zq5_v142 := congrArg Int32.toInt hq5_v142
                    have hq9_v142 : v142 9 = (v 9) := hk9_v142.trans hq9_v97
                    have zq9_v142 := congrArg Int32.toInt hq9_v142
                    have hq10_v142 : v142 10 = (v1 10) := hk10_v142.trans hq10_v97
                    have zq10_v142 := congrArg Int32.toInt hq10_v142
                    have hq13_v142 : v142 13 = (v97 13) := hk13_v142
                    have zq13_v142 := congrArg Int32.toInt hq13_v142
                    have hq14_v142 : v142 14 = (v1 14) := hk14_v142.trans hq14_v97
                    have zq14_v142 := congrArg Int32.toInt hq14_v142
                    have hq15_v142 : v142 15 = (v 15) := hk15_v142.trans hq15_v97
                    have zq15_v142 := congrArg Int32.toInt hq15_v142
                    have hq17_v142 : v142 17 = (v 17) := hk17_v142.trans hq17_v97
                    have zq17_v142 := congrArg Int32.toInt hq17_v142
                    have hq18_v142 : v142 18 = (v 18) := hk18_v142.trans hq18_v97
                    have zq18_v142 := congrArg Int32.toInt hq18_v142
                    have hq24_v142 : v142 24 = (v 24) := hk24_v142.trans hq24_v97
                    have hq25_v142 : v142 25 = (v 25) := hk25_v142.trans hq25_v97
                    have hq35_v142 : v142 35 = (v 35) := hk35_v142.trans hq35_v97
                    have zq35_v142 := congrArg Int32.toInt hq35_v142
                    have hq36_v142 : v142 36 = (v 36) := hk36_v142.trans hq36_v97
                    have zq36_v142 := congrArg Int32.toInt hq36_v142
                    have hq38_v142 : v142 38 = (v 38) := hk38_v142.trans hq38_v97
                    have hq39_v142 : v142 39 = (v 39) := hk39_v142.trans hq39_v97
                    have hFU : FI 1 (v142 10).toInt (v142 14).toInt (v142 8).toInt (f1 6) (f143 2) (f143 3) := FI.unit (hFJ (by omega)) pg147 pg148 (by omega) (Or.inl rfl) (by omega) (by omega) (by omega) (by omega)
                    refine lv_aload_n hx hb dX11_unit_175 rfl (lv_at hl 2 rfl) ?_
                    refine cbVv (n := 0) (rest := []) hx hb hml hown hts hE hP hD hS hA (sY_X11_token_1 l dC dI cy y0 r  v142 f143 w144 g145 hIv142 hCf143 hRf143 ) k_1579 k_1581 k_42 k_114 k_1582 (by decide +kernel) ⟨Nat.le_of_ble_eq_true rfl, Nat.le_of_ble_eq_true rfl⟩ 0 11 rfl rfl (rfl) hl.1 rfl (Nat.le_of_ble_eq_true rfl) dX11_unit_176 (fun u H locs hw hP hD hS => ?_)
                    obtain ⟨v150, f151, w152, g153⟩ := u
                    obtain ⟨hIv150, hCf151, hRf151, hk0_v150, hk1_v150, hk4_v150, hk8_v150, hk9_v150, hk10_v150, hk13_v150, hk14_v150, hk15_v150, hk17_v150, hk18_v150, hk24_v150, hk25_v150, hk35_v150, hk36_v150, hk38_v150, hk39_v150, pv154, pv155, kq156, kq157, kq158⟩ := hw
                    have hP : va_P (dC, dI) vwCl (YW cy y0 r v150 f151 w152 g153) H := hP
                    have hD : va_D A (YW cy y0 r v150 f151 w152 g153) := hD
                    have b3_v150 : 0 ≤ (v150 3).toInt ∧ (v150 3).toInt ≤ 1600 := YIb.b hIv150.1 3 (by decide)
                    have pv154 : (v142 3).toInt ≤ (v150 3).toInt := pv154
                    have pv155 : (v150 5).toInt = (v142 5).toInt ∨ (v142 3).toInt < (v150 3).toInt ∨ ¬ (v150 5).toInt = 59 := pv155
                    have hs2_f151 : f151 2 = (f143 2) := kq156
                    have hs3_f151 : f151 3 = (f143 3) := kq157
                    have hs6_f151 : f151 6 = (f1 6) := kq158.trans hs6_f143
                    have hUv150 : (v150 35).toInt + (v150 36).toInt ≤ 40 := hIv150.2
                    have hq0_v150 : v150 0 = (v 0) := hk0_v150.trans hq0_v142
                    have hq1_v150 : v150 1 = (v1 1) := hk1_v150.trans hq1_v142
                    have zq1_v150 := congrArg Int32.toInt hq1_v150
                    have hq4_v150 : v150 4 = (v 4) := hk4_v150.trans hq4_v142
                    have zq4_v150 := congrArg Int32.toInt hq4_v150
                    have hq8_v150 : v150 8 = (v142 8) := hk8_v150
                    have zq8_v150 := congrArg Int32.toInt hq8_v150
                    have hq9_v150 : v150 9 = (v 9) := hk9_v150.trans hq9_v142
                    have zq9_v150 := congrArg Int32.toInt hq9_v150
                    have hq10_v150 : v150 10 = (v1 10) := hk10_v150.trans hq10_v142
                    have zq10_v150 := congrArg Int32.toInt hq10_v150
                    have hq13_v150 : v150 13 = (v97 13) := hk13_v150.trans hq13_v142
                    have zq13_v150 := congrArg Int32.toInt hq13_v150
                    have hq14_v150 : v150 14 = (v1 14) := hk14_v150.trans hq14_v142
                    have zq14_v150 := congrArg Int32.toInt hq14_v150
                    have hq15_v150 : v150 15 = (v 15) := hk15_v150.trans hq15_v142
                    have zq15_v150 := congrArg Int32.toInt hq15_v150
                    have hq17_v150 : v150 17 = (v 17) := hk17_v150.trans hq17_v142
                    have zq17_v150 := congrArg Int32.toInt hq17_v150
                    have hq18_v150 : v150 18 = (v 18) := hk18_v150.trans hq18_v142
                    have zq18_v150 := congrArg Int32.toInt hq18_v150
                    have hq24_v150 : v150 24 = (v 24) := hk24_v150.trans hq24_v142
                    have hq25_v150 : v150 25 = (v 25) := hk25_v150.trans hq25_v142
                    have hq35_v150 : v150 35 = (v 35) := hk35_v150.trans hq35_v142
                    have zq35_v150 := congrArg Int32.toInt hq35_v150
                    have hq36_v150 : v150 36 = (v 36) := hk36_v150.trans hq36_v142
                    have zq36_v150 := congrArg Int32.toInt hq36_v150
                    have hq38_v150 : v150 38 = (v 38) := hk38_v150.trans hq38_v142
                    have hq39_v150 : v150 39 = (v 39) := hk39_v150.trans hq39_v142
                    exact ret (v150, f151, w152, g153) _ _ _ _ _ _ ⟨hIv150, hCf151, hRf151, (hk0_v150.trans (hk0_v142.trans (hk0_v97.trans (show v1 0 = v 0 from hq0_v1)))), (hk4_v150.trans (hk4_v142.trans (hk4_v97.trans (show v1 4 = v 4 from hq4_v1)))), (hk9_v150.trans (hk9_v142.trans (hk9_v97.trans (show v1 9 = v 9 from hq9_v1)))), (hk15_v150.trans (hk15_v142.trans (hk15_v97.trans (show v1 15 = v 15 from hq15_v1)))), (hk17_v150.trans (hk17_v142.trans (hk17_v97.trans (show v1 17 = v 17 from hq17_v1)))), (hk18_v150.trans (hk18_v142.trans (hk18_v97.trans (show v1 18 = v 18 from hq18_v1)))), (hk24_v150.trans (hk24_v142.trans (hk24_v97.trans (show v1 24 = v 24 from hq24_v1)))), (hk25_v150.trans (hk25_v142.trans (hk25_v97.trans (show v1 25 = v 25 from hq25_v1)))), (hk35_v150.trans (hk35_v142.trans (hk35_v97.trans (show v1 35 = v 35 from hq35_v1)))), (hk36_v150.trans (hk36_v142.trans (hk36_v97.trans (show v1 36 = v 36 from hq36_v1)))), (hk38_v150.trans (hk38_v142.trans (hk38_v97.trans (show v1 38 = v 38 from hq38_v1)))), (hk39_v150.trans (hk39_v142.trans (hk39_v97.trans (show v1 39 = v 39 from hq39_v1)))), (by show (v 3).toInt ≤ (v150 3).toInt; omega), (by show (v150 5).toInt = (v 5).toInt ∨ (v 3).toInt < (v150 3).toInt ∨ ¬ (v150 5).toInt = 59; omega), (by show 0 < (v150 1).toInt ∨ ((v150 8).toInt + (v150 10).toInt ≤ 10 * (v150 13).toInt ∧ (v150 10).toInt ≤ (v150 14).toInt + (v150 13).toInt ∧ (v150 13).toInt ≤ 30 ∧ (v150 14).toInt ≤ 7 ∧ (v 13).toInt < (v150 13).toInt); omega), (by show (v150 1).toInt = 0 → FI 1 (v150 10).toInt (v150 14).toInt (v150 8).toInt (f151 6) (f151 2) (f151 3); rw [hs6_f151, hs2_f151, hs3_f151]; intro hz9; first | exact FI.cast hFU (by omega) (by omega) (by omega) | (exfalso; omega))⟩ hP hD hS dX11_unit_179 (Nat.le_refl _) (Nat.le_refl _)
                  · skip
                    have zc141 : ¬ (0 ≤ r3.toInt) := by rw [fa_le, show (0 : Int32).toInt = 0 from by decide] at c141; exact c141
                    refine lv_aload_n hx hb dX11_unit_164 rfl (lv_at hl 2 rfl) ?_
                    refine va_get (D := (dC, dI)) (ci := 11) (v := .int (v97 7)) (C := RX11) (T := TX11) (N := 79) hx hb hts inB_11 hown hE.1 hP 0 rfl rfl 8 (by decide) (hts _ k_1328) (fun _ h9 => h9) rfl dX11_unit_165 ?_
                    refine lv_goto (tgt := 172) hx hb dX11_unit_168 (by decide) ?_
                    refine cbVv (n := 2) (rest := []) hx hb hml hown hts hE hP hD hS hA (sY_X11_add_1 l dC dI cy y0 r 0 (v97 7) v97 f98 w99 g100 hIv97 hCf98 hRf98 (by have q1 : (0 : Int32).toInt = 0 := (by decide); show (v97 8).toInt ≤ 319; omega)) k_1696 k_1698 k_63 k_114 k_1699 (by decide +kernel) ⟨Nat.le_of_ble_eq_true rfl, Nat.le_of_ble_eq_true rfl⟩ 0 11 rfl rfl (rfl) hl.1 rfl (Nat.le_of_ble_eq_true rfl) dX11_unit_172 (fun u H locs hw hP hD hS => ?_)
                    obtain ⟨v159, f160, w161, g162⟩ := u
                    obtain ⟨hIv159, hCf160, hRf160, hk0_v159, hk1_v159, hk3_v159, hk4_v159, hk5_v159, hk9_v159, hk10_v159, hk13_v159, hk14_v159, hk15_v159, hk17_v159, hk18_v159, hk24_v159, hk25_v159, hk35_v159, hk36_v159, hk38_v159, hk39_v159, pv163, pg164, pg165, kq166⟩ := hw
                    have hP : va_P (dC, dI) vwCl (YW cy y0 r v159 f160 w161 g162) H := hP
                    have hD : va_D A (YW cy y0 r v159 f160 w161 g162) := hD
                    have b8_v159 : 0 ≤ (v159 8).toInt ∧ (v159 8).toInt ≤ 320 := YIb.b hIv159.1 8 (by decide)
                    have pv163 : (v159 8).toInt = (v97 8).toInt + 1 := pv163
                    have pg164 : (f160 2) = upd (f98 2) ((v97 8).toInt).toNat 0 := pg164
                    rw [hs2_f98] at pg164
                    have pg165 : (f160 3) = upd (f98 3) ((v97 8).toInt).toNat (v97 7) := pg165
                    rw [hs3_f98] at pg165
                    have hs6_f160 : f160 6 = (f1 6) := kq166.trans hs6_f98
                    have hUv159 : (v159 35).toInt + (v159 36).toInt ≤ 40 := hIv159.2
                    have hq0_v159 : v159 0 = (v 0) := hk0_v159.trans hq0_v97
                    have hq1_v159 : v159 1 = (v1 1) := hk1_v159.trans hq1_v97
                    have zq1_v159 := congrArg Int32.toInt hq1_v159
                    have hq3_v159 : v159 3 = (v1 3) := hk3_v159.trans hq3_v97
                    have zq3_v159 := congrArg Int32.toInt hq3_v159
                    have hq4_v159 : v159 4 = (v 4) := hk4_v159.trans hq4_v97
                    have zq4_v159 := congrArg Int32.toInt hq4_v159
                    have hq5_v159 : v159 5 = (v1 5) := hk5_v159.trans hq5_v97
                    have zq5_v159 := congrArg Int32.toInt hq5_v159
                    have hq9_v159 : v159 9 = (v 9) := hk9_v159.trans hq9_v97
                    have zq9_v159 := congrArg Int32.toInt hq9_v159
                    have hq10_v159 : v159 10 = (v1 10) := hk10_v159.trans hq10_v97
                    have zq10_v159 := congrArg Int32.toInt hq10_v159
                    have hq13_v159 : v159 13 = (v97 13) := hk13_v159
                    have zq13_v159 := congrArg Int32.toInt hq13_v159
                    have hq14_v159 : v159 14 = (v1 14) := hk14_v159.trans hq14_v97
                    have zq14_v159 := congrArg Int32.toInt hq14_v159
                    have hq15_v159 : v159 15 = (v 15) := hk15_v159.trans hq15_v97
                    have zq15_v159 := congrArg Int32.toInt hq15_v159
                    have hq17_v159 : v159 17 = (v 17) := hk17_v159.trans hq17_v97
                    have zq17_v159 := congrArg Int32.toInt hq17_v159
                    have hq18_v159 : v159 18 = (v 18) := hk18_v159.trans hq18_v97
                    have zq18_v159 := congrArg Int32.toInt hq18_v159
                    have hq24_v159 : v159 24 = (v 24) := hk24_v159.trans hq24_v97
                    have hq25_v159 : v159 25 = (v 25) := hk25_v159.trans hq25_v97
                    have hq35_v159 : v159 35 = (v 35) := hk35_v159.trans hq35_v97
                    have zq35_v159 := congrArg Int32.toInt hq35_v159
                    have hq36_v159 : v159 36 = (v 36) := hk36_v159.trans hq36_v97
                    have zq36_v159 := congrArg Int32.toInt hq36_v159
                    have hq38_v159 : v159 38 = (v 38) := hk38_v159.trans hq38_v97
                    have hq39_v159 : v159 39 = (v 39) := hk39_v159.trans hq39_v97
                    have hFU : FI 1 (v159 10).toInt (v159 14).toInt (v159 8).toInt (f1 6) (f160 2) (f160 3) := FI.unit (hFJ (by omega)) pg164 pg165 (by omega) (Or.inl rfl) (by omega) (by omega) (by omega) (by omega)
                    refine lv_aload_n hx hb dX11_unit_175 rfl (lv_at hl 2 rfl) ?_
                    refine cbVv (n := 0) (rest := []) hx hb hml hown hts hE hP hD hS hA (sY_X11_token_1 l dC dI cy y0 r  v159 f160 w161 g162 hIv159 hCf160 hRf160 ) k_1579 k_1581 k_42 k_114 k_1582 (by decide +kernel) ⟨Nat.le_of_ble_eq_true rfl, Nat.le_of_ble_eq_true rfl⟩ 0 11 rfl rfl (rfl) hl.1 rfl (Nat.le_of_ble_eq_true rfl) dX11_unit_176 (fun u H locs hw hP hD hS => ?_)
                    obtain ⟨v167, f168, w169, g170⟩ := u
                    obtain ⟨hIv167, hCf168, hRf168, hk0_v167, hk1_v167, hk4_v167, hk8_v167, hk9_v167, hk10_v167, hk13_v167, hk14_v167, hk15_v167, hk17_v167, hk18_v167, hk24_v167, hk25_v167, hk35_v167, hk36_v167, hk38_v167, hk39_v167, pv171, pv172, kq173, kq174, kq175⟩ := hw
                    have hP : va_P (dC, dI) vwCl (YW cy y0 r v167 f168 w169 g170) H := hP
                    have hD : va_D A (YW cy y0 r v167 f168 w169 g170) := hD
                    have b3_v167 : 0 ≤ (v167 3).toInt ∧ (v167 3).toInt ≤ 1600 := YIb.b hIv167.1 3 (by decide)
                    have pv171 : (v159 3).toInt ≤ (v167 3).toInt := pv171
                    have pv172 : (v167 5).toInt = (v159 5).toInt ∨ (v159 3).toInt < (v167 3).toInt ∨ ¬ (v167 5).toInt = 59 := pv172
                    have hs2_f168 : f168 2 = (f160 2) := kq173
                    have hs3_f168 : f168 3 = (f160 3) := kq174
                    have hs6_f168 : f168 6 = (f1 6) := kq175.trans hs6_f160
                    have hUv167 : (v167 35).toInt + (v167 36).toInt ≤ 40 := hIv167.2
                    have hq0_v167 : v167 0 = (v 0) := hk0_v167.trans hq0_v159
                    have hq1_v167 : v167 1 = (v1 1) := hk1_v167.trans hq1_v159
                    have zq1_v167 := congrArg Int32.toInt hq1_v167
                    have hq4_v167 : v167 4 = (v 4) := hk4_v167.trans hq4_v159
                    have zq4_v167 := congrArg Int32.toInt hq4_v167
                    have hq8_v167 : v167 8 = (v159 8) := hk8_v167
                    have zq8_v167 := congrArg Int32.toInt hq8_v167
                    have hq9_v167 : v167 9 = (v 9) := hk9_v167.trans hq9_v159
                    have zq9_v167 := congrArg Int32.toInt hq9_v167
                    have hq10_v167 : v167 10 = (v1 10) := hk10_v167.trans hq10_v159
                    have zq10_v167 := congrArg Int32.toInt hq10_v167
                    have hq13_v167 : v167 13 = (v97 13) := hk13_v167.trans hq13_v159
                    have zq13_v167 := congrArg Int32.toInt hq13_v167
                    have hq14_v167 : v167 14 = (v1 14) := hk14_v167.trans hq14_v159
                    have zq14_v167 := congrArg Int32.toInt hq14_v167
                    have hq15_v167 : v167 15 = (v 15) := hk15_v167.trans hq15_v159
                    have zq15_v167 := congrArg Int32.toInt hq15_v167
                    have hq17_v167 : v167 17 = (v 17) := hk17_v167.trans hq17_v159
                    have zq17_v167 := congrArg Int32.toInt hq17_v167
                    have hq18_v167 : v167 18 = (v 18) := hk18_v167.trans hq18_v159
                    have zq18_v167 := congrArg Int32.toInt hq18_v167
                    have hq24_v167 : v167 24 = (v 24) := hk24_v167.trans hq24_v159
                    have hq25_v167 : v167 25 = (v 25) := hk25_v167.trans hq25_v159
                    have hq35_v167 : v167 35 = (v 35) := hk35_v167.trans hq35_v159
                    have zq35_v167 := congrArg Int32.toInt hq35_v167
                    have hq36_v167 : v167 36 = (v 36) := hk36_v167.trans hq36_v159
                    have zq36_v167 := congrArg Int32.toInt hq36_v167
                    have hq38_v167 : v167 38 = (v 38) := hk38_v167.trans hq38_v159
                    have hq39_v167 : v167 39 = (v 39) := hk39_v167.trans hq39_v159
                    exact ret (v167, f168, w169, g170) _ _ _ _ _ _ ⟨hIv167, hCf168, hRf168, (hk0_v167.trans (hk0_v159.trans (hk0_v97.trans (show v1 0 = v 0 from hq0_v1)))), (hk4_v167.trans (hk4_v159.trans (hk4_v97.trans (show v1 4 = v 4 from hq4_v1)))), (hk9_v167.trans (hk9_v159.trans (hk9_v97.trans (show v1 9 = v 9 from hq9_v1)))), (hk15_v167.trans (hk15_v159.trans (hk15_v97.trans (show v1 15 = v 15 from hq15_v1)))), (hk17_v167.trans (hk17_v159.trans (hk17_v97.trans (show v1 17 = v 17 from hq17_v1)))), (hk18_v167.trans (hk18_v159.trans (hk18_v97.trans (show v1 18 = v 18 from hq18_v1)))), (hk24_v167.trans (hk24_v159.trans (hk24_v97.trans (show v1 24 = v 24 from hq24_v1)))), (hk25_v167.trans (hk25_v159.trans (hk25_v97.trans (show v1 25 = v 25 from hq25_v1)))), (hk35_v167.trans (hk35_v159.trans (hk35_v97.trans (show v1 35 = v 35 from hq35_v1)))), (hk36_v167.trans (hk36_v159.trans (hk36_v97.trans (show v1 36 = v 36 from hq36_v1)))), (hk38_v167.trans (hk38_v159.trans (hk38_v97.trans (show v1 38 = v 38 from hq38_v1)))), (hk39_v167.trans (hk39_v159.trans (hk39_v97.trans (show v1 39 = v 39 from hq39_v1)))), (by show (v 3).toInt ≤ (v167 3).toInt; omega), (by show (v167 5).toInt = (v 5).toInt ∨ (v 3).toInt < (v167 3).toInt ∨ ¬ (v167 5).toInt = 59; omega), (by show 0 < (v167 1).toInt ∨ ((v167 8).toInt + (v167 10).toInt ≤ 10 * (v167 13).toInt ∧ (v167 10).toInt ≤ (v167 14).toInt + (v167 13).toInt ∧ (v167 13).toInt ≤ 30 ∧ (v167 14).toInt ≤ 7 ∧ (v 13).toInt < (v167 13).toInt); omega), (by show (v167 1).toInt = 0 → FI 1 (v167 10).toInt (v167 14).toInt (v167 8).toInt (f168 6) (f168 2) (f168 3); rw [hs6_f168, hs2_f168, hs3_f168]; intro hz9; first | exact FI.cast hFU (by omega) (by omega) (by omega) | (exfalso; omega))⟩ hP hD hS dX11_unit_179 (Nat.le_refl _) (Nat.le_refl _)
              · skip
                have zc96 : ¬ ((v1 1).toInt ≤ 0) := by rw [fa_le, show (0 : Int32).toInt = 0 from by decide] at c96; exact c96
                exact ret (v1, f1, w1, g1) _ _ _ _ _ _ ⟨hIv1, hCf1, hRf1, (show v1 0 = v 0 from hq0_v1), (show v1 4 = v 4 from hq4_v1), (show v1 9 = v 9 from hq9_v1), (show v1 15 = v 15 from hq15_v1), (show v1 17 = v 17 from hq17_v1), (show v1 18 = v 18 from hq18_v1), (show v1 24 = v 24 from hq24_v1), (show v1 25 = v 25 from hq25_v1), (show v1 35 = v 35 from hq35_v1), (show v1 36 = v 36 from hq36_v1), (show v1 38 = v 38 from hq38_v1), (show v1 39 = v 39 from hq39_v1), (by show (v 3).toInt ≤ (v1 3).toInt; omega), (by show (v1 5).toInt = (v 5).toInt ∨ (v 3).toInt < (v1 3).toInt ∨ ¬ (v1 5).toInt = 59; omega), (by show 0 < (v1 1).toInt ∨ ((v1 8).toInt + (v1 10).toInt ≤ 10 * (v1 13).toInt ∧ (v1 10).toInt ≤ (v1 14).toInt + (v1 13).toInt ∧ (v1 13).toInt ≤ 30 ∧ (v1 14).toInt ≤ 7 ∧ (v 13).toInt < (v1 13).toInt); omega), (by show (v1 1).toInt = 0 → FI 1 (v1 10).toInt (v1 14).toInt (v1 8).toInt (f1 6) (f1 2) (f1 3); rw [hs2_f1, hs3_f1]; intro hz9; first | exact FI.cast hFU (by omega) (by omega) (by omega) | (exfalso; omega))⟩ hP hD hS dX11_unit_145 (Nat.le_refl _) (Nat.le_refl _)
          refine lv_aload_n hx hb dX11_unit_114 rfl (lv_at hl 2 rfl) ?_
          refine va_get (D := (dC, dI)) (ci := 11) (v := .int (v1 5)) (C := RX11) (T := TX11) (N := 79) hx hb hts inB_11 hown hE.1 hP 0 rfl rfl 6 (by decide) (hts _ k_1326) (fun _ h9 => h9) rfl dX11_unit_115 ?_
          refine lv_iconst (v := 2) hx hb dX11_unit_118 (by decide) ?_
          refine lv_icmp_eq (tgt := 126) hx hb dX11_unit_119 (by decide) (fun c176 => ?_) (fun c176 => ?_)
          · skip
            have zc176 : (v1 5).toInt = 2 := by rw [fa_eq, show (2 : Int32).toInt = 2 from by decide] at c176; exact c176
            exact jp126 _ _ _ hP hD hS hl
          · skip
            have zc176 : ¬ ((v1 5).toInt = 2) := by rw [fa_eq, show (2 : Int32).toInt = 2 from by decide] at c176; exact c176
            refine lv_iload_n hx hb dX11_unit_122 rfl (lv_at hl 0 rfl) ?_
            refine lv_if_lt (tgt := 133) hx hb dX11_unit_123 (by decide) (fun c177 => ?_) (fun c177 => ?_)
            · skip
              have zc177 : r3.toInt < 0 := by rw [fa_lt, show (0 : Int32).toInt = 0 from by decide] at c177; exact c177
              exact jp133 _ _ _ hP hD hS hl
            · skip
              have zc177 : ¬ (r3.toInt < 0) := by rw [fa_lt, show (0 : Int32).toInt = 0 from by decide] at c177; exact c177
              exact jp126 _ _ _ hP hD hS hl
        · skip
          have zc2 : ¬ ((v1 1).toInt ≤ 0) := by rw [fa_le, show (0 : Int32).toInt = 0 from by decide] at c2; exact c2
          exact ret (v1, f1, w1, g1) _ _ _ _ _ _ ⟨hIv1, hCf1, hRf1, (show v1 0 = v 0 from hq0_v1), (show v1 4 = v 4 from hq4_v1), (show v1 9 = v 9 from hq9_v1), (show v1 15 = v 15 from hq15_v1), (show v1 17 = v 17 from hq17_v1), (show v1 18 = v 18 from hq18_v1), (show v1 24 = v 24 from hq24_v1), (show v1 25 = v 25 from hq25_v1), (show v1 35 = v 35 from hq35_v1), (show v1 36 = v 36 from hq36_v1), (show v1 38 = v 38 from hq38_v1), (show v1 39 = v 39 from hq39_v1), (by show (v 3).toInt ≤ (v1 3).toInt; omega), (by show (v1 5).toInt = (v 5).toInt ∨ (v 3).toInt < (v1 3).toInt ∨ ¬ (v1 5).toInt = 59; omega), (by show 0 < (v1 1).toInt ∨ ((v1 8).toInt + (v1 10).toInt ≤ 10 * (v1 13).toInt ∧ (v1 10).toInt ≤ (v1 14).toInt + (v1 13).toInt ∧ (v1 13).toInt ≤ 30 ∧ (v1 14).toInt ≤ 7 ∧ (v 13).toInt < (v1 13).toInt); omega), (by show (v1 1).toInt = 0 → FI 1 (v1 10).toInt (v1 14).toInt (v1 8).toInt (f1 6) (f1 2) (f1 3); rw [hs2_f1, hs3_f1]; intro hz9; first | exact FI.cast hFU (by omega) (by omega) (by omega) | (exfalso; omega))⟩ hP hD hS dX11_unit_108 (Nat.le_refl _) (Nat.le_refl _)
      refine lv_if_eq (tgt := 101) hx hb dX11_unit_3 (by decide) (fun c178 => ?_) (fun c178 => ?_)
      · skip
        have zc178 : l1_1.toInt = 0 := by rw [fa_eq, show (0 : Int32).toInt = 0 from by decide] at c178; exact c178
        exact jp101 _ _ _ hP hD hS hl
      · skip
        have zc178 : ¬ (l1_1.toInt = 0) := by rw [fa_eq, show (0 : Int32).toInt = 0 from by decide] at c178; exact c178
        refine lv_aload_n hx hb dX11_unit_6 rfl (lv_at hl 1 rfl) ?_
        refine va_get (D := (dC, dI)) (ci := 11) (v := .int (v1 1)) (C := RX11) (T := TX11) (N := 79) hx hb hts inB_11 hown hE.1 hP 0 rfl rfl 2 (by decide) (hts _ k_1322) (fun _ h9 => h9) rfl dX11_unit_7 ?_
        refine lv_if_ne (tgt := 101) hx hb dX11_unit_10 (by decide) (fun c179 => ?_) (fun c179 => ?_)
        · skip
          have zc179 : ¬ ((v1 1).toInt = 0) := by rw [fa_eq, show (0 : Int32).toInt = 0 from by decide] at c179; exact c179
          exact jp101 _ _ _ hP hD hS hl
        · skip
          have zc179 : (v1 1).toInt = 0 := by rw [fa_eq, show (0 : Int32).toInt = 0 from by decide] at c179; exact c179
          have jp53 : ∀ (H : Heap) (locs : List Loc) (ls : Array Slot), va_P (dC, dI) vwCl (YW cy y0 r v1 f1 w1 g1) H → va_D A (YW cy y0 r v1 f1 w1 g1) → va_S A s.heap H locs → lv_has ls 3 [(1, .int l1_1), (0, .ref y0)] → W p l e { frames := 4, cells := 0, slots := 0, locals := 124 } s m ([.ref y0] : List Value).toArray below meth c H locs 0 0 Q (F0 m 53 ls []) := by
            intro H locs ls hP hD hS hl
            refine lv_aload_n hx hb dX11_unit_53 rfl (lv_at hl 1 rfl) ?_
            refine va_get (D := (dC, dI)) (ci := 11) (v := .int (v1 5)) (C := RX11) (T := TX11) (N := 79) hx hb hts inB_11 hown hE.1 hP 0 rfl rfl 6 (by decide) (hts _ k_1326) (fun _ h9 => h9) rfl dX11_unit_54 ?_
            refine lv_bipush (v := 40) hx hb dX11_unit_57 (by decide) ?_
            refine lv_icmp_ne (tgt := 96) hx hb dX11_unit_59 (by decide) (fun c180 => ?_) (fun c180 => ?_)
            · skip
              have zc180 : ¬ ((v1 5).toInt = 40) := by rw [fa_eq, show (40 : Int32).toInt = 40 from by decide] at c180; exact c180
              refine lv_iconst (v := 0) hx hb dX11_unit_96 (by decide) ?_
              refine lv_istore_n (lv' := [(1, .int 0), (0, .ref y0)]) hx hb dX11_unit_97 rfl hl (by decide) rfl (fun ls hl => ?_)
              refine lv_goto (tgt := 2) hx hb dX11_unit_98 (by decide) ?_
              exact ih1 0 v1 f1 w1 g1 hIv1 hCf1 hRf1 hq0_v1 hq4_v1 hq8_v1 hq9_v1 hq15_v1 hq17_v1 hq18_v1 hq24_v1 hq25_v1 hq35_v1 hq36_v1 hq38_v1 hq39_v1 ⟨by decide, by decide⟩ (by show (v1 1).toInt = 0 → FI 0 (v1 10).toInt (v1 14).toInt (v1 8).toInt (f1 6) (f1 2) (f1 3); rw [hs2_f1, hs3_f1]; intro hz9; first | exact FI.cast hFK (by omega) (by omega) (by omega) | exact FI.cast (hFJ (by omega)) (by omega) (by omega) (by omega) | (exfalso; omega)) (by show 0 < (v1 1).toInt ∨ ((v1 8).toInt + (v1 10).toInt + (8 - (v1 14).toInt) ≤ 10 * (v1 13).toInt + 9 ∧ (v1 10).toInt ≤ (v1 14).toInt + (v1 13).toInt + 1 ∧ (v1 13).toInt ≤ 30 ∧ (v1 14).toInt ≤ 7); omega) (by show (v 13).toInt ≤ (v1 13).toInt; omega) (by show (v 3).toInt ≤ (v1 3).toInt; omega) (by show (v1 5).toInt = (v 5).toInt ∨ (v 3).toInt < (v1 3).toInt ∨ ¬ (v1 5).toInt = 59; omega) hs2_f1 hs3_f1 (by show (2 * (9 - (v1 14).toInt) + (0 : Int32).toInt).toNat < n1; omega) _ _ _ hP hD hS (lv_sub hl [0, 1] rfl)
            · skip
              have zc180 : (v1 5).toInt = 40 := by rw [fa_eq, show (40 : Int32).toInt = 40 from by decide] at c180; exact c180
              refine lv_aload_n hx hb dX11_unit_62 rfl (lv_at hl 1 rfl) ?_
              refine cbVi (n := 0) (rest := []) hx hb hml hown hts hE hP hD hS hA (sY_X11_isFull_1 l dC dI cy y0 r  v1 f1 w1 g1 hIv1 hCf1 hRf1 ) k_1684 k_1686 k_60 k_114 k_1687 (by decide +kernel) ⟨Nat.le_of_ble_eq_true rfl, Nat.le_of_ble_eq_true rfl⟩ 0 11 rfl rfl (rfl) hl.1 rfl (Nat.le_of_ble_eq_true rfl) dX11_unit_63 (fun r181 u H locs hw hP hD hS => ?_)
              rcases hw with ⟨g182⟩ | ⟨g182, g182_0⟩
              · skip
                subst g182
                refine lv_if_ne (tgt := 78) hx hb dX11_unit_66 (by decide) (fun _ => ?_) (fun c0 => absurd c0 (by decide))
                refine lv_aload_n hx hb dX11_unit_78 rfl (lv_at hl 1 rfl) ?_
                refine lv_iconst (v := 2) hx hb dX11_unit_79 (by decide) ?_
                refine cbVv (n := 1) (rest := []) hx hb hml hown hts hE hP hD hS hA (sY_X11_wrong_1 l dC dI cy y0 r 2 v1 f1 w1 g1 hIv1 hCf1 hRf1 ⟨by decide, by decide⟩) k_1641 k_1643 k_50 k_114 k_1644 (by decide +kernel) ⟨Nat.le_of_ble_eq_true rfl, Nat.le_of_ble_eq_true rfl⟩ 0 11 rfl rfl (rfl) hl.1 rfl (Nat.le_of_ble_eq_true rfl) dX11_unit_80 (fun u H locs hw hP hD hS => ?_)
                obtain ⟨v183, f184, w185, g186⟩ := u
                obtain ⟨hIv183, hCf184, hRf184, hk0_v183, hk3_v183, hk4_v183, hk5_v183, hk8_v183, hk9_v183, hk10_v183, hk13_v183, hk14_v183, hk15_v183, hk17_v183, hk18_v183, hk24_v183, hk25_v183, hk35_v183, hk36_v183, hk38_v183, hk39_v183, pv187, pv188, pv189, kq190, kq191, kq192⟩ := hw
                have hP : va_P (dC, dI) vwCl (YW cy y0 r v183 f184 w185 g186) H := hP
                have hD : va_D A (YW cy y0 r v183 f184 w185 g186) := hD
                have b3_v183 : 0 ≤ (v183 3).toInt ∧ (v183 3).toInt ≤ 1600 := YIb.b hIv183.1 3 (by decide)
                have b1_v183 : 0 ≤ (v183 1).toInt ∧ (v183 1).toInt ≤ 4 := YIb.b hIv183.1 1 (by decide)
                have pv187 : (v1 3).toInt ≤ (v183 3).toInt := pv187
                have pv188 : (v183 5).toInt = (v1 5).toInt ∨ (v1 3).toInt < (v183 3).toInt ∨ ¬ (v183 5).toInt = 59 := pv188
                have pv189 : 0 < (v183 1).toInt := pv189
                have hs2_f184 : f184 2 = (f 2) := kq190.trans hs2_f1
                have hs3_f184 : f184 3 = (f 3) := kq191.trans hs3_f1
                have hs6_f184 : f184 6 = (f1 6) := kq192
                have hUv183 : (v183 35).toInt + (v183 36).toInt ≤ 40 := hIv183.2
                have hq0_v183 : v183 0 = (v 0) := hk0_v183.trans hq0_v1
                have hq3_v183 : v183 3 = (v1 3) := hk3_v183
                have zq3_v183 := congrArg Int32.toInt hq3_v183
                have hq4_v183 : v183 4 = (v 4) := hk4_v183.trans hq4_v1
                have zq4_v183 := congrArg Int32.toInt hq4_v183
                have hq5_v183 : v183 5 = (v1 5) := hk5_v183
                have zq5_v183 := congrArg Int32.toInt hq5_v183
                have hq8_v183 : v183 8 = (v 8) := hk8_v183.trans hq8_v1
                have zq8_v183 := congrArg Int32.toInt hq8_v183
                have hq9_v183 : v183 9 = (v 9) := hk9_v183.trans hq9_v1
                have zq9_v183 := congrArg Int32.toInt hq9_v183
                have hq10_v183 : v183 10 = (v1 10) := hk10_v183
                have zq10_v183 := congrArg Int32.toInt hq10_v183
                have hq13_v183 : v183 13 = (v1 13) := hk13_v183
                have zq13_v183 := congrArg Int32.toInt hq13_v183
                have hq14_v183 : v183 14 = (v1 14) := hk14_v183
                have zq14_v183 := congrArg Int32.toInt hq14_v183
                have hq15_v183 : v183 15 = (v 15) := hk15_v183.trans hq15_v1
                have zq15_v183 := congrArg Int32.toInt hq15_v183
                have hq17_v183 : v183 17 = (v 17) := hk17_v183.trans hq17_v1
                have zq17_v183 := congrArg Int32.toInt hq17_v183
                have hq18_v183 : v183 18 = (v 18) := hk18_v183.trans hq18_v1
                have zq18_v183 := congrArg Int32.toInt hq18_v183
                have hq24_v183 : v183 24 = (v 24) := hk24_v183.trans hq24_v1
                have hq25_v183 : v183 25 = (v 25) := hk25_v183.trans hq25_v1
                have hq35_v183 : v183 35 = (v 35) := hk35_v183.trans hq35_v1
                have zq35_v183 := congrArg Int32.toInt hq35_v183
                have hq36_v183 : v183 36 = (v 36) := hk36_v183.trans hq36_v1
                have zq36_v183 := congrArg Int32.toInt hq36_v183
                have hq38_v183 : v183 38 = (v 38) := hk38_v183.trans hq38_v1
                have hq39_v183 : v183 39 = (v 39) := hk39_v183.trans hq39_v1
                refine lv_aload_n hx hb dX11_unit_83 rfl (lv_at hl 1 rfl) ?_
                refine cbVv (n := 0) (rest := []) hx hb hml hown hts hE hP hD hS hA (sY_X11_countUnit_1 l dC dI cy y0 r  v183 f184 w185 g186 hIv183 hCf184 hRf184 (by show (v183 13).toInt ≤ 30; omega)) k_1688 k_1690 k_61 k_114 k_1691 (by decide +kernel) ⟨Nat.le_of_ble_eq_true rfl, Nat.le_of_ble_eq_true rfl⟩ 0 11 rfl rfl (rfl) hl.1 rfl (Nat.le_of_ble_eq_true rfl) dX11_unit_84 (fun u H locs hw hP hD hS => ?_)
                obtain ⟨v193, f194, w195, g196⟩ := u
                obtain ⟨hIv193, hCf194, hRf194, hk0_v193, hk1_v193, hk3_v193, hk4_v193, hk5_v193, hk8_v193, hk9_v193, hk10_v193, hk14_v193, hk15_v193, hk17_v193, hk18_v193, hk24_v193, hk25_v193, hk35_v193, hk36_v193, hk38_v193, hk39_v193, pv197, kq198, kq199, kq200⟩ := hw
                have hP : va_P (dC, dI) vwCl (YW cy y0 r v193 f194 w195 g196) H := hP
                have hD : va_D A (YW cy y0 r v193 f194 w195 g196) := hD
                have b13_v193 : 0 ≤ (v193 13).toInt ∧ (v193 13).toInt ≤ 31 := YIb.b hIv193.1 13 (by decide)
                have pv197 : (v193 13).toInt = (v183 13).toInt + 1 := pv197
                have hs2_f194 : f194 2 = (f 2) := kq198.trans hs2_f184
                have hs3_f194 : f194 3 = (f 3) := kq199.trans hs3_f184
                have hs6_f194 : f194 6 = (f1 6) := kq200.trans hs6_f184
                have hUv193 : (v193 35).toInt + (v193 36).toInt ≤ 40 := hIv193.2
                have hq0_v193 : v193 0 = (v 0) := hk0_v193.trans hq0_v183
                have hq1_v193 : v193 1 = (v183 1) := hk1_v193
                have zq1_v193 := congrArg Int32.toInt hq1_v193
                have hq3_v193 : v193 3 = (v1 3) := hk3_v193.trans hq3_v183
                have zq3_v193 := congrArg Int32.toInt hq3_v193
                have hq4_v193 : v193 4 = (v 4) := hk4_v193.trans hq4_v183
                have zq4_v193 := congrArg Int32.toInt hq4_v193
                have hq5_v193 : v193 5 = (v1 5) := hk5_v193.trans hq5_v183
                have zq5_v193 := congrArg Int32.toInt hq5_v193
                have hq8_v193 : v193 8 = (v 8) := hk8_v193.trans hq8_v183
                have zq8_v193 := congrArg Int32.toInt hq8_v193
                have hq9_v193 : v193 9 = (v 9) := hk9_v193.trans hq9_v183
                have zq9_v193 := congrArg Int32.toInt hq9_v193
                have hq10_v193 : v193 10 = (v1 10) := hk10_v193.trans hq10_v183
                have zq10_v193 := congrArg Int32.toInt hq10_v193
                have hq14_v193 : v193 14 = (v1 14) := hk14_v193.trans hq14_v183
                have zq14_v193 := congrArg Int32.toInt hq14_v193
                have hq15_v193 : v193 15 = (v 15) := hk15_v193.trans hq15_v183
                have zq15_v193 := congrArg Int32.toInt hq15_v193
                have hq17_v193 : v193 17 = (v 17) := hk17_v193.trans hq17_v183
                have zq17_v193 := congrArg Int32.toInt hq17_v193
                have hq18_v193 : v193 18 = (v 18) := hk18_v193.trans hq18_v183
                have zq18_v193 := congrArg Int32.toInt hq18_v193
                have hq24_v193 : v193 24 = (v 24) := hk24_v193.trans hq24_v183
                have hq25_v193 : v193 25 = (v 25) := hk25_v193.trans hq25_v183
                have hq35_v193 : v193 35 = (v 35) := hk35_v193.trans hq35_v183
                have zq35_v193 := congrArg Int32.toInt hq35_v193
                have hq36_v193 : v193 36 = (v 36) := hk36_v193.trans hq36_v183
                have zq36_v193 := congrArg Int32.toInt hq36_v193
                have hq38_v193 : v193 38 = (v 38) := hk38_v193.trans hq38_v183
                have hq39_v193 : v193 39 = (v 39) := hk39_v193.trans hq39_v183
                refine lv_aload_n hx hb dX11_unit_87 rfl (lv_at hl 1 rfl) ?_
                refine lv_bipush (v := 20) hx hb dX11_unit_88 (by decide) ?_
                refine cbVv (n := 1) (rest := []) hx hb hml hown hts hE hP hD hS hA (sY_X11_openUp_1 l dC dI cy y0 r 20 v193 f194 w195 g196 hIv193 hCf194 hRf194 (by have q1 : (20 : Int32).toInt = 20 := (by decide); show (v193 10).toInt ≤ 159; omega) (by have q1 : (20 : Int32).toInt = 20 := (by decide); show (v193 14).toInt ≤ 7; omega)) k_1680 k_1682 k_59 k_114 k_1683 (by decide +kernel) ⟨Nat.le_of_ble_eq_true rfl, Nat.le_of_ble_eq_true rfl⟩ 0 11 rfl rfl (rfl) hl.1 rfl (Nat.le_of_ble_eq_true rfl) dX11_unit_90 (fun u H locs hw hP hD hS => ?_)
                obtain ⟨v201, f202, w203, g204⟩ := u
                obtain ⟨hIv201, hCf202, hRf202, hk0_v201, hk1_v201, hk4_v201, hk8_v201, hk9_v201, hk13_v201, hk15_v201, hk17_v201, hk18_v201, hk24_v201, hk25_v201, hk35_v201, hk36_v201, hk38_v201, hk39_v201, pv205, pv206, pv207, pv208, pg209, kq210, kq211⟩ := hw
                have hP : va_P (dC, dI) vwCl (YW cy y0 r v201 f202 w203 g204) H := hP
                have hD : va_D A (YW cy y0 r v201 f202 w203 g204) := hD
                have b3_v201 : 0 ≤ (v201 3).toInt ∧ (v201 3).toInt ≤ 1600 := YIb.b hIv201.1 3 (by decide)
                have b10_v201 : 0 ≤ (v201 10).toInt ∧ (v201 10).toInt ≤ 160 := YIb.b hIv201.1 10 (by decide)
                have b14_v201 : 0 ≤ (v201 14).toInt ∧ (v201 14).toInt ≤ 8 := YIb.b hIv201.1 14 (by decide)
                have pv205 : (v193 3).toInt ≤ (v201 3).toInt := pv205
                have pv206 : (v201 5).toInt = (v193 5).toInt ∨ (v193 3).toInt < (v201 3).toInt ∨ ¬ (v201 5).toInt = 59 := pv206
                have pv207 : (v201 10).toInt = (v193 10).toInt + 1 := pv207
                have pv208 : (v201 14).toInt = (v193 14).toInt + 1 := pv208
                have pg209 : (f202 6) = upd (f194 6) ((v193 10).toInt).toNat 20 := pg209
                rw [hs6_f194] at pg209
                have hs2_f202 : f202 2 = (f 2) := kq210.trans hs2_f194
                have hs3_f202 : f202 3 = (f 3) := kq211.trans hs3_f194
                have hUv201 : (v201 35).toInt + (v201 36).toInt ≤ 40 := hIv201.2
                have hq0_v201 : v201 0 = (v 0) := hk0_v201.trans hq0_v193
                have hq1_v201 : v201 1 = (v183 1) := hk1_v201.trans hq1_v193
                have zq1_v201 := congrArg Int32.toInt hq1_v201
                have hq4_v201 : v201 4 = (v 4) := hk4_v201.trans hq4_v193
                have zq4_v201 := congrArg Int32.toInt hq4_v201
                have hq8_v201 : v201 8 = (v 8) := hk8_v201.trans hq8_v193
                have zq8_v201 := congrArg Int32.toInt hq8_v201
                have hq9_v201 : v201 9 = (v 9) := hk9_v201.trans hq9_v193
                have zq9_v201 := congrArg Int32.toInt hq9_v201
                have hq13_v201 : v201 13 = (v193 13) := hk13_v201
                have zq13_v201 := congrArg Int32.toInt hq13_v201
                have hq15_v201 : v201 15 = (v 15) := hk15_v201.trans hq15_v193
                have zq15_v201 := congrArg Int32.toInt hq15_v201
                have hq17_v201 : v201 17 = (v 17) := hk17_v201.trans hq17_v193
                have zq17_v201 := congrArg Int32.toInt hq17_v201
                have hq18_v201 : v201 18 = (v 18) := hk18_v201.trans hq18_v193
                have zq18_v201 := congrArg Int32.toInt hq18_v201
                have hq24_v201 : v201 24 = (v 24) := hk24_v201.trans hq24_v193
                have hq25_v201 : v201 25 = (v 25) := hk25_v201.trans hq25_v193
                have hq35_v201 : v201 35 = (v 35) := hk35_v201.trans hq35_v193
                have zq35_v201 := congrArg Int32.toInt hq35_v201
                have hq36_v201 : v201 36 = (v 36) := hk36_v201.trans hq36_v193
                have zq36_v201 := congrArg Int32.toInt hq36_v201
                have hq38_v201 : v201 38 = (v 38) := hk38_v201.trans hq38_v193
                have hq39_v201 : v201 39 = (v 39) := hk39_v201.trans hq39_v193
                have hFK : FI 0 (v201 10).toInt (v201 14).toInt (v201 8).toInt (f202 6) (f 2) (f 3) := FI.push (hFJ (by omega)) pg209 (by omega) (by decide) (by omega) (by omega) (by omega)
                refine lv_goto (tgt := 2) hx hb dX11_unit_93 (by decide) ?_
                have rg212 := fb_rng l1_1
                exact ih1 l1_1 v201 f202 w203 g204 hIv201 hCf202 hRf202 hq0_v201 hq4_v201 hq8_v201 hq9_v201 hq15_v201 hq17_v201 hq18_v201 hq24_v201 hq25_v201 hq35_v201 hq36_v201 hq38_v201 hq39_v201 ⟨show (0 : Int) ≤ l1_1.toInt by omega, show l1_1.toInt ≤ (1 : Int) by omega⟩ (by show (v201 1).toInt = 0 → FI 0 (v201 10).toInt (v201 14).toInt (v201 8).toInt (f202 6) (f202 2) (f202 3); rw [hs2_f202, hs3_f202]; intro hz9; first | exact FI.cast hFK (by omega) (by omega) (by omega) | exact FI.cast (hFJ (by omega)) (by omega) (by omega) (by omega) | (exfalso; omega)) (by show 0 < (v201 1).toInt ∨ ((v201 8).toInt + (v201 10).toInt + (8 - (v201 14).toInt) ≤ 10 * (v201 13).toInt + 9 ∧ (v201 10).toInt ≤ (v201 14).toInt + (v201 13).toInt + 1 ∧ (v201 13).toInt ≤ 30 ∧ (v201 14).toInt ≤ 7); omega) (by show (v 13).toInt ≤ (v201 13).toInt; omega) (by show (v 3).toInt ≤ (v201 3).toInt; omega) (by show (v201 5).toInt = (v 5).toInt ∨ (v 3).toInt < (v201 3).toInt ∨ ¬ (v201 5).toInt = 59; omega) hs2_f202 hs3_f202 (by show (2 * (9 - (v201 14).toInt) + l1_1.toInt).toNat < n1; omega) _ _ _ hP hD hS (lv_sub hl [0, 1] rfl)
              · skip
                subst g182
                refine lv_if_ne (tgt := 78) hx hb dX11_unit_66 (by decide) (fun c0 => absurd (by decide) c0) (fun _ => ?_)
                refine lv_aload_n hx hb dX11_unit_69 rfl (lv_at hl 1 rfl) ?_
                refine va_get (D := (dC, dI)) (ci := 11) (v := .int (v1 14)) (C := RX11) (T := TX11) (N := 79) hx hb hts inB_11 hown hE.1 hP 0 rfl rfl 23 (by decide) (hts _ k_1343) (fun _ h9 => h9) rfl dX11_unit_70 ?_
                refine lv_bipush (v := 6) hx hb dX11_unit_73 (by decide) ?_
                refine lv_icmp_le (tgt := 83) hx hb dX11_unit_75 (by decide) (fun c213 => ?_) (fun c213 => ?_)
                · skip
                  have zc213 : (v1 14).toInt ≤ 6 := by rw [fa_le, show (6 : Int32).toInt = 6 from by decide] at c213; exact c213
                  refine lv_aload_n hx hb dX11_unit_83 rfl (lv_at hl 1 rfl) ?_
                  refine cbVv (n := 0) (rest := []) hx hb hml hown hts hE hP hD hS hA (sY_X11_countUnit_1 l dC dI cy y0 r  v1 f1 w1 g1 hIv1 hCf1 hRf1 (by show (v1 13).toInt ≤ 30; omega)) k_1688 k_1690 k_61 k_114 k_1691 (by decide +kernel) ⟨Nat.le_of_ble_eq_true rfl, Nat.le_of_ble_eq_true rfl⟩ 0 11 rfl rfl (rfl) hl.1 rfl (Nat.le_of_ble_eq_true rfl) dX11_unit_84 (fun u H locs hw hP hD hS => ?_)
                  obtain ⟨v214, f215, w216, g217⟩ := u
                  obtain ⟨hIv214, hCf215, hRf215, hk0_v214, hk1_v214, hk3_v214, hk4_v214, hk5_v214, hk8_v214, hk9_v214, hk10_v214, hk14_v214, hk15_v214, hk17_v214, hk18_v214, hk24_v214, hk25_v214, hk35_v214, hk36_v214, hk38_v214, hk39_v214, pv218, kq219, kq220, kq221⟩ := hw
                  have hP : va_P (dC, dI) vwCl (YW cy y0 r v214 f215 w216 g217) H := hP
                  have hD : va_D A (YW cy y0 r v214 f215 w216 g217) := hD
                  have b13_v214 : 0 ≤ (v214 13).toInt ∧ (v214 13).toInt ≤ 31 := YIb.b hIv214.1 13 (by decide)
                  have pv218 : (v214 13).toInt = (v1 13).toInt + 1 := pv218
                  have hs2_f215 : f215 2 = (f 2) := kq219.trans hs2_f1
                  have hs3_f215 : f215 3 = (f 3) := kq220.trans hs3_f1
                  have hs6_f215 : f215 6 = (f1 6) := kq221
                  have hUv214 : (v214 35).toInt + (v214 36).toInt ≤ 40 := hIv214.2
                  have hq0_v214 : v214 0 = (v 0) := hk0_v214.trans hq0_v1
                  have hq1_v214 : v214 1 = (v1 1) := hk1_v214
                  have zq1_v214 := congrArg Int32.toInt hq1_v214
                  have hq3_v214 : v214 3 = (v1 3) := hk3_v214
                  have zq3_v214 := congrArg Int32.toInt hq3_v214
                  have hq4_v214 : v214 4 = (v 4) := hk4_v214.trans hq4_v1
                  have zq4_v214 := congrArg Int32.toInt hq4_v214
                  have hq5_v214 : v214 5 = (v1 5) := hk5_v214
                  have zq5_v214 := congrArg Int32.toInt hq5_v214
                  have hq8_v214 : v214 8 = (v 8) := hk8_v214.trans hq8_v1
                  have zq8_v214 := congrArg Int32.toInt hq8_v214
                  have hq9_v214 : v214 9 = (v 9) := hk9_v214.trans hq9_v1
                  have zq9_v214 := congrArg Int32.toInt hq9_v214
                  have hq10_v214 : v214 10 = (v1 10) := hk10_v214
                  have zq10_v214 := congrArg Int32.toInt hq10_v214
                  have hq14_v214 : v214 14 = (v1 14) := hk14_v214
                  have zq14_v214 := congrArg Int32.toInt hq14_v214
                  have hq15_v214 : v214 15 = (v 15) := hk15_v214.trans hq15_v1
                  have zq15_v214 := congrArg Int32.toInt hq15_v214
                  have hq17_v214 : v214 17 = (v 17) := hk17_v214.trans hq17_v1
                  have zq17_v214 := congrArg Int32.toInt hq17_v214
                  have hq18_v214 : v214 18 = (v 18) := hk18_v214.trans hq18_v1
                  have zq18_v214 := congrArg Int32.toInt hq18_v214
                  have hq24_v214 : v214 24 = (v 24) := hk24_v214.trans hq24_v1
                  have hq25_v214 : v214 25 = (v 25) := hk25_v214.trans hq25_v1
                  have hq35_v214 : v214 35 = (v 35) := hk35_v214.trans hq35_v1
                  have zq35_v214 := congrArg Int32.toInt hq35_v214
                  have hq36_v214 : v214 36 = (v 36) := hk36_v214.trans hq36_v1
                  have zq36_v214 := congrArg Int32.toInt hq36_v214
                  have hq38_v214 : v214 38 = (v 38) := hk38_v214.trans hq38_v1
                  have hq39_v214 : v214 39 = (v 39) := hk39_v214.trans hq39_v1
                  refine lv_aload_n hx hb dX11_unit_87 rfl (lv_at hl 1 rfl) ?_
                  refine lv_bipush (v := 20) hx hb dX11_unit_88 (by decide) ?_
                  refine cbVv (n := 1) (rest := []) hx hb hml hown hts hE hP hD hS hA (sY_X11_openUp_1 l dC dI cy y0 r 20 v214 f215 w216 g217 hIv214 hCf215 hRf215 (by have q1 : (20 : Int32).toInt = 20 := (by decide); show (v214 10).toInt ≤ 159; omega) (by have q1 : (20 : Int32).toInt = 20 := (by decide); show (v214 14).toInt ≤ 7; omega)) k_1680 k_1682 k_59 k_114 k_1683 (by decide +kernel) ⟨Nat.le_of_ble_eq_true rfl, Nat.le_of_ble_eq_true rfl⟩ 0 11 rfl rfl (rfl) hl.1 rfl (Nat.le_of_ble_eq_true rfl) dX11_unit_90 (fun u H locs hw hP hD hS => ?_)
                  obtain ⟨v222, f223, w224, g225⟩ := u
                  obtain ⟨hIv222, hCf223, hRf223, hk0_v222, hk1_v222, hk4_v222, hk8_v222, hk9_v222, hk13_v222, hk15_v222, hk17_v222, hk18_v222, hk24_v222, hk25_v222, hk35_v222, hk36_v222, hk38_v222, hk39_v222, pv226, pv227, pv228, pv229, pg230, kq231, kq232⟩ := hw
                  have hP : va_P (dC, dI) vwCl (YW cy y0 r v222 f223 w224 g225) H := hP
                  have hD : va_D A (YW cy y0 r v222 f223 w224 g225) := hD
                  have b3_v222 : 0 ≤ (v222 3).toInt ∧ (v222 3).toInt ≤ 1600 := YIb.b hIv222.1 3 (by decide)
                  have b10_v222 : 0 ≤ (v222 10).toInt ∧ (v222 10).toInt ≤ 160 := YIb.b hIv222.1 10 (by decide)
                  have b14_v222 : 0 ≤ (v222 14).toInt ∧ (v222 14).toInt ≤ 8 := YIb.b hIv222.1 14 (by decide)
                  have pv226 : (v214 3).toInt ≤ (v222 3).toInt := pv226
                  have pv227 : (v222 5).toInt = (v214 5).toInt ∨ (v214 3).toInt < (v222 3).toInt ∨ ¬ (v222 5).toInt = 59 := pv227
                  have pv228 : (v222 10).toInt = (v214 10).toInt + 1 := pv228
                  have pv229 : (v222 14).toInt = (v214 14).toInt + 1 := pv229
                  have pg230 : (f223 6) = upd (f215 6) ((v214 10).toInt).toNat 20 := pg230
                  rw [hs6_f215] at pg230
                  have hs2_f223 : f223 2 = (f 2) := kq231.trans hs2_f215
                  have hs3_f223 : f223 3 = (f 3) := kq232.trans hs3_f215
                  have hUv222 : (v222 35).toInt + (v222 36).toInt ≤ 40 := hIv222.2
                  have hq0_v222 : v222 0 = (v 0) := hk0_v222.trans hq0_v214
                  have hq1_v222 : v222 1 = (v1 1) := hk1_v222.trans hq1_v214
                  have zq1_v222 := congrArg Int32.toInt hq1_v222
                  have hq4_v222 : v222 4 = (v 4) := hk4_v222.trans hq4_v214
                  have zq4_v222 := congrArg Int32.toInt hq4_v222
                  have hq8_v222 : v222 8 = (v 8) := hk8_v222.trans hq8_v214
                  have zq8_v222 := congrArg Int32.toInt hq8_v222
                  have hq9_v222 : v222 9 = (v 9) := hk9_v222.trans hq9_v214
                  have zq9_v222 := congrArg Int32.toInt hq9_v222
                  have hq13_v222 : v222 13 = (v214 13) := hk13_v222
                  have zq13_v222 := congrArg Int32.toInt hq13_v222
                  have hq15_v222 : v222 15 = (v 15) := hk15_v222.trans hq15_v214
                  have zq15_v222 := congrArg Int32.toInt hq15_v222
                  have hq17_v222 : v222 17 = (v 17) := hk17_v222.trans hq17_v214
                  have zq17_v222 := congrArg Int32.toInt hq17_v222
                  have hq18_v222 : v222 18 = (v 18) := hk18_v222.trans hq18_v214
                  have zq18_v222 := congrArg Int32.toInt hq18_v222
                  have hq24_v222 : v222 24 = (v 24) := hk24_v222.trans hq24_v214
                  have hq25_v222 : v222 25 = (v 25) := hk25_v222.trans hq25_v214
                  have hq35_v222 : v222 35 = (v 35) := hk35_v222.trans hq35_v214
                  have zq35_v222 := congrArg Int32.toInt hq35_v222
                  have hq36_v222 : v222 36 = (v 36) := hk36_v222.trans hq36_v214
                  have zq36_v222 := congrArg Int32.toInt hq36_v222
                  have hq38_v222 : v222 38 = (v 38) := hk38_v222.trans hq38_v214
                  have hq39_v222 : v222 39 = (v 39) := hk39_v222.trans hq39_v214
                  have hFK : FI 0 (v222 10).toInt (v222 14).toInt (v222 8).toInt (f223 6) (f 2) (f 3) := FI.push (hFJ (by omega)) pg230 (by omega) (by decide) (by omega) (by omega) (by omega)
                  refine lv_goto (tgt := 2) hx hb dX11_unit_93 (by decide) ?_
                  have rg233 := fb_rng l1_1
                  exact ih1 l1_1 v222 f223 w224 g225 hIv222 hCf223 hRf223 hq0_v222 hq4_v222 hq8_v222 hq9_v222 hq15_v222 hq17_v222 hq18_v222 hq24_v222 hq25_v222 hq35_v222 hq36_v222 hq38_v222 hq39_v222 ⟨show (0 : Int) ≤ l1_1.toInt by omega, show l1_1.toInt ≤ (1 : Int) by omega⟩ (by show (v222 1).toInt = 0 → FI 0 (v222 10).toInt (v222 14).toInt (v222 8).toInt (f223 6) (f223 2) (f223 3); rw [hs2_f223, hs3_f223]; intro hz9; first | exact FI.cast hFK (by omega) (by omega) (by omega) | exact FI.cast (hFJ (by omega)) (by omega) (by omega) (by omega) | (exfalso; omega)) (by show 0 < (v222 1).toInt ∨ ((v222 8).toInt + (v222 10).toInt + (8 - (v222 14).toInt) ≤ 10 * (v222 13).toInt + 9 ∧ (v222 10).toInt ≤ (v222 14).toInt + (v222 13).toInt + 1 ∧ (v222 13).toInt ≤ 30 ∧ (v222 14).toInt ≤ 7); omega) (by show (v 13).toInt ≤ (v222 13).toInt; omega) (by show (v 3).toInt ≤ (v222 3).toInt; omega) (by show (v222 5).toInt = (v 5).toInt ∨ (v 3).toInt < (v222 3).toInt ∨ ¬ (v222 5).toInt = 59; omega) hs2_f223 hs3_f223 (by show (2 * (9 - (v222 14).toInt) + l1_1.toInt).toNat < n1; omega) _ _ _ hP hD hS (lv_sub hl [0, 1] rfl)
                · skip
                  have zc213 : ¬ ((v1 14).toInt ≤ 6) := by rw [fa_le, show (6 : Int32).toInt = 6 from by decide] at c213; exact c213
                  refine lv_aload_n hx hb dX11_unit_78 rfl (lv_at hl 1 rfl) ?_
                  refine lv_iconst (v := 2) hx hb dX11_unit_79 (by decide) ?_
                  refine cbVv (n := 1) (rest := []) hx hb hml hown hts hE hP hD hS hA (sY_X11_wrong_1 l dC dI cy y0 r 2 v1 f1 w1 g1 hIv1 hCf1 hRf1 ⟨by decide, by decide⟩) k_1641 k_1643 k_50 k_114 k_1644 (by decide +kernel) ⟨Nat.le_of_ble_eq_true rfl, Nat.le_of_ble_eq_true rfl⟩ 0 11 rfl rfl (rfl) hl.1 rfl (Nat.le_of_ble_eq_true rfl) dX11_unit_80 (fun u H locs hw hP hD hS => ?_)
                  obtain ⟨v234, f235, w236, g237⟩ := u
                  obtain ⟨hIv234, hCf235, hRf235, hk0_v234, hk3_v234, hk4_v234, hk5_v234, hk8_v234, hk9_v234, hk10_v234, hk13_v234, hk14_v234, hk15_v234, hk17_v234, hk18_v234, hk24_v234, hk25_v234, hk35_v234, hk36_v234, hk38_v234, hk39_v234, pv238, pv239, pv240, kq241, kq242, kq243⟩ := hw
                  have hP : va_P (dC, dI) vwCl (YW cy y0 r v234 f235 w236 g237) H := hP
                  have hD : va_D A (YW cy y0 r v234 f235 w236 g237) := hD
                  have b3_v234 : 0 ≤ (v234 3).toInt ∧ (v234 3).toInt ≤ 1600 := YIb.b hIv234.1 3 (by decide)
                  have b1_v234 : 0 ≤ (v234 1).toInt ∧ (v234 1).toInt ≤ 4 := YIb.b hIv234.1 1 (by decide)
                  have pv238 : (v1 3).toInt ≤ (v234 3).toInt := pv238
                  have pv239 : (v234 5).toInt = (v1 5).toInt ∨ (v1 3).toInt < (v234 3).toInt ∨ ¬ (v234 5).toInt = 59 := pv239
                  have pv240 : 0 < (v234 1).toInt := pv240
                  have hs2_f235 : f235 2 = (f 2) := kq241.trans hs2_f1
                  have hs3_f235 : f235 3 = (f 3) := kq242.trans hs3_f1
                  have hs6_f235 : f235 6 = (f1 6) := kq243
                  have hUv234 : (v234 35).toInt + (v234 36).toInt ≤ 40 := hIv234.2
                  have hq0_v234 : v234 0 = (v 0) := hk0_v234.trans hq0_v1
                  have hq3_v234 : v234 3 = (v1 3) := hk3_v234
                  have zq3_v234 := congrArg Int32.toInt hq3_v234
                  have hq4_v234 : v234 4 = (v 4) := hk4_v234.trans hq4_v1
                  have zq4_v234 := congrArg Int32.toInt hq4_v234
                  have hq5_v234 : v234 5 = (v1 5) := hk5_v234
                  have zq5_v234 := congrArg Int32.toInt hq5_v234
                  have hq8_v234 : v234 8 = (v 8) := hk8_v234.trans hq8_v1
                  have zq8_v234 := congrArg Int32.toInt hq8_v234
                  have hq9_v234 : v234 9 = (v 9) := hk9_v234.trans hq9_v1
                  have zq9_v234 := congrArg Int32.toInt hq9_v234
                  have hq10_v234 : v234 10 = (v1 10) := hk10_v234
                  have zq10_v234 := congrArg Int32.toInt hq10_v234
                  have hq13_v234 : v234 13 = (v1 13) := hk13_v234
                  have zq13_v234 := congrArg Int32.toInt hq13_v234
                  have hq14_v234 : v234 14 = (v1 14) := hk14_v234
                  have zq14_v234 := congrArg Int32.toInt hq14_v234
                  have hq15_v234 : v234 15 = (v 15) := hk15_v234.trans hq15_v1
                  have zq15_v234 := congrArg Int32.toInt hq15_v234
                  have hq17_v234 : v234 17 = (v 17) := hk17_v234.trans hq17_v1
                  have zq17_v234 := congrArg Int32.toInt hq17_v234
                  have hq18_v234 : v234 18 = (v 18) := hk18_v234.trans hq18_v1
                  have zq18_v234 := congrArg Int32.toInt hq18_v234
                  have hq24_v234 : v234 24 = (v 24) := hk24_v234.trans hq24_v1
                  have hq25_v234 : v234 25 = (v 25) := hk25_v234.trans hq25_v1
                  have hq35_v234 : v234 35 = (v 35) := hk35_v234.trans hq35_v1
                  have zq35_v234 := congrArg Int32.toInt hq35_v234
                  have hq36_v234 : v234 36 = (v 36) := hk36_v234.trans hq36_v1
                  have zq36_v234 := congrArg Int32.toInt hq36_v234
                  have hq38_v234 : v234 38 = (v 38) := hk38_v234.trans hq38_v1
                  have hq39_v234 : v234 39 = (v 39) := hk39_v234.trans hq39_v1
                  refine lv_aload_n hx hb dX11_unit_83 rfl (lv_at hl 1 rfl) ?_
                  refine cbVv (n := 0) (rest := []) hx hb hml hown hts hE hP hD hS hA (sY_X11_countUnit_1 l dC dI cy y0 r  v234 f235 w236 g237 hIv234 hCf235 hRf235 (by show (v234 13).toInt ≤ 30; omega)) k_1688 k_1690 k_61 k_114 k_1691 (by decide +kernel) ⟨Nat.le_of_ble_eq_true rfl, Nat.le_of_ble_eq_true rfl⟩ 0 11 rfl rfl (rfl) hl.1 rfl (Nat.le_of_ble_eq_true rfl) dX11_unit_84 (fun u H locs hw hP hD hS => ?_)
                  obtain ⟨v244, f245, w246, g247⟩ := u
                  obtain ⟨hIv244, hCf245, hRf245, hk0_v244, hk1_v244, hk3_v244, hk4_v244, hk5_v244, hk8_v244, hk9_v244, hk10_v244, hk14_v244, hk15_v244, hk17_v244, hk18_v244, hk24_v244, hk25_v244, hk35_v244, hk36_v244, hk38_v244, hk39_v244, pv248, kq249, kq250, kq251⟩ := hw
                  have hP : va_P (dC, dI) vwCl (YW cy y0 r v244 f245 w246 g247) H := hP
                  have hD : va_D A (YW cy y0 r v244 f245 w246 g247) := hD
                  have b13_v244 : 0 ≤ (v244 13).toInt ∧ (v244 13).toInt ≤ 31 := YIb.b hIv244.1 13 (by decide)
                  have pv248 : (v244 13).toInt = (v234 13).toInt + 1 := pv248
                  have hs2_f245 : f245 2 = (f 2) := kq249.trans hs2_f235
                  have hs3_f245 : f245 3 = (f 3) := kq250.trans hs3_f235
                  have hs6_f245 : f245 6 = (f1 6) := kq251.trans hs6_f235
                  have hUv244 : (v244 35).toInt + (v244 36).toInt ≤ 40 := hIv244.2
                  have hq0_v244 : v244 0 = (v 0) := hk0_v244.trans hq0_v234
                  have hq1_v244 : v244 1 = (v234 1) := hk1_v244
                  have zq1_v244 := congrArg Int32.toInt hq1_v244
                  have hq3_v244 : v244 3 = (v1 3) := hk3_v244.trans hq3_v234
                  have zq3_v244 := congrArg Int32.toInt hq3_v244
                  have hq4_v244 : v244 4 = (v 4) := hk4_v244.trans hq4_v234
                  have zq4_v244 := congrArg Int32.toInt hq4_v244
                  have hq5_v244 : v244 5 = (v1 5) := hk5_v244.trans hq5_v234
                  have zq5_v244 := congrArg Int32.toInt hq5_v244
                  have hq8_v244 : v244 8 = (v 8) := hk8_v244.trans hq8_v234
                  have zq8_v244 := congrArg Int32.toInt hq8_v244
                  have hq9_v244 : v244 9 = (v 9) := hk9_v244.trans hq9_v234
                  have zq9_v244 := congrArg Int32.toInt hq9_v244
                  have hq10_v244 : v244 10 = (v1 10) := hk10_v244.trans hq10_v234
                  have zq10_v244 := congrArg Int32.toInt hq10_v244
                  have hq14_v244 : v244 14 = (v1 14) := hk14_v244.trans hq14_v234
                  have zq14_v244 := congrArg Int32.toInt hq14_v244
                  have hq15_v244 : v244 15 = (v 15) := hk15_v244.trans hq15_v234
                  have zq15_v244 := congrArg Int32.toInt hq15_v244
                  have hq17_v244 : v244 17 = (v 17) := hk17_v244.trans hq17_v234
                  have zq17_v244 := congrArg Int32.toInt hq17_v244
                  have hq18_v244 : v244 18 = (v 18) := hk18_v244.trans hq18_v234
                  have zq18_v244 := congrArg Int32.toInt hq18_v244
                  have hq24_v244 : v244 24 = (v 24) := hk24_v244.trans hq24_v234
                  have hq25_v244 : v244 25 = (v 25) := hk25_v244.trans hq25_v234
                  have hq35_v244 : v244 35 = (v 35) := hk35_v244.trans hq35_v234
                  have zq35_v244 := congrArg Int32.toInt hq35_v244
                  have hq36_v244 : v244 36 = (v 36) := hk36_v244.trans hq36_v234
                  have zq36_v244 := congrArg Int32.toInt hq36_v244
                  have hq38_v244 : v244 38 = (v 38) := hk38_v244.trans hq38_v234
                  have hq39_v244 : v244 39 = (v 39) := hk39_v244.trans hq39_v234
                  refine lv_aload_n hx hb dX11_unit_87 rfl (lv_at hl 1 rfl) ?_
                  refine lv_bipush (v := 20) hx hb dX11_unit_88 (by decide) ?_
                  refine cbVv (n := 1) (rest := []) hx hb hml hown hts hE hP hD hS hA (sY_X11_openUp_1 l dC dI cy y0 r 20 v244 f245 w246 g247 hIv244 hCf245 hRf245 (by have q1 : (20 : Int32).toInt = 20 := (by decide); show (v244 10).toInt ≤ 159; omega) (by have q1 : (20 : Int32).toInt = 20 := (by decide); show (v244 14).toInt ≤ 7; omega)) k_1680 k_1682 k_59 k_114 k_1683 (by decide +kernel) ⟨Nat.le_of_ble_eq_true rfl, Nat.le_of_ble_eq_true rfl⟩ 0 11 rfl rfl (rfl) hl.1 rfl (Nat.le_of_ble_eq_true rfl) dX11_unit_90 (fun u H locs hw hP hD hS => ?_)
                  obtain ⟨v252, f253, w254, g255⟩ := u
                  obtain ⟨hIv252, hCf253, hRf253, hk0_v252, hk1_v252, hk4_v252, hk8_v252, hk9_v252, hk13_v252, hk15_v252, hk17_v252, hk18_v252, hk24_v252, hk25_v252, hk35_v252, hk36_v252, hk38_v252, hk39_v252, pv256, pv257, pv258, pv259, pg260, kq261, kq262⟩ := hw
                  have hP : va_P (dC, dI) vwCl (YW cy y0 r v252 f253 w254 g255) H := hP
                  have hD : va_D A (YW cy y0 r v252 f253 w254 g255) := hD
                  have b3_v252 : 0 ≤ (v252 3).toInt ∧ (v252 3).toInt ≤ 1600 := YIb.b hIv252.1 3 (by decide)
                  have b10_v252 : 0 ≤ (v252 10).toInt ∧ (v252 10).toInt ≤ 160 := YIb.b hIv252.1 10 (by decide)
                  have b14_v252 : 0 ≤ (v252 14).toInt ∧ (v252 14).toInt ≤ 8 := YIb.b hIv252.1 14 (by decide)
                  have pv256 : (v244 3).toInt ≤ (v252 3).toInt := pv256
                  have pv257 : (v252 5).toInt = (v244 5).toInt ∨ (v244 3).toInt < (v252 3).toInt ∨ ¬ (v252 5).toInt = 59 := pv257
                  have pv258 : (v252 10).toInt = (v244 10).toInt + 1 := pv258
                  have pv259 : (v252 14).toInt = (v244 14).toInt + 1 := pv259
                  have pg260 : (f253 6) = upd (f245 6) ((v244 10).toInt).toNat 20 := pg260
                  rw [hs6_f245] at pg260
                  have hs2_f253 : f253 2 = (f 2) := kq261.trans hs2_f245
                  have hs3_f253 : f253 3 = (f 3) := kq262.trans hs3_f245
                  have hUv252 : (v252 35).toInt + (v252 36).toInt ≤ 40 := hIv252.2
                  have hq0_v252 : v252 0 = (v 0) := hk0_v252.trans hq0_v244
                  have hq1_v252 : v252 1 = (v234 1) := hk1_v252.trans hq1_v244
                  have zq1_v252 := congrArg Int32.toInt hq1_v252
                  have hq4_v252 : v252 4 = (v 4) := hk4_v252.trans hq4_v244
                  have zq4_v252 := congrArg Int32.toInt hq4_v252
                  have hq8_v252 : v252 8 = (v 8) := hk8_v252.trans hq8_v244
                  have zq8_v252 := congrArg Int32.toInt hq8_v252
                  have hq9_v252 : v252 9 = (v 9) := hk9_v252.trans hq9_v244
                  have zq9_v252 := congrArg Int32.toInt hq9_v252
                  have hq13_v252 : v252 13 = (v244 13) := hk13_v252
                  have zq13_v252 := congrArg Int32.toInt hq13_v252
                  have hq15_v252 : v252 15 = (v 15) := hk15_v252.trans hq15_v244
                  have zq15_v252 := congrArg Int32.toInt hq15_v252
                  have hq17_v252 : v252 17 = (v 17) := hk17_v252.trans hq17_v244
                  have zq17_v252 := congrArg Int32.toInt hq17_v252
                  have hq18_v252 : v252 18 = (v 18) := hk18_v252.trans hq18_v244
                  have zq18_v252 := congrArg Int32.toInt hq18_v252
                  have hq24_v252 : v252 24 = (v 24) := hk24_v252.trans hq24_v244
                  have hq25_v252 : v252 25 = (v 25) := hk25_v252.trans hq25_v244
                  have hq35_v252 : v252 35 = (v 35) := hk35_v252.trans hq35_v244
                  have zq35_v252 := congrArg Int32.toInt hq35_v252
                  have hq36_v252 : v252 36 = (v 36) := hk36_v252.trans hq36_v244
                  have zq36_v252 := congrArg Int32.toInt hq36_v252
                  have hq38_v252 : v252 38 = (v 38) := hk38_v252.trans hq38_v244
                  have hq39_v252 : v252 39 = (v 39) := hk39_v252.trans hq39_v244
                  have hFK : FI 0 (v252 10).toInt (v252 14).toInt (v252 8).toInt (f253 6) (f 2) (f 3) := FI.push (hFJ (by omega)) pg260 (by omega) (by decide) (by omega) (by omega) (by omega)
                  refine lv_goto (tgt := 2) hx hb dX11_unit_93 (by decide) ?_
                  have rg263 := fb_rng l1_1
                  exact ih1 l1_1 v252 f253 w254 g255 hIv252 hCf253 hRf253 hq0_v252 hq4_v252 hq8_v252 hq9_v252 hq15_v252 hq17_v252 hq18_v252 hq24_v252 hq25_v252 hq35_v252 hq36_v252 hq38_v252 hq39_v252 ⟨show (0 : Int) ≤ l1_1.toInt by omega, show l1_1.toInt ≤ (1 : Int) by omega⟩ (by show (v252 1).toInt = 0 → FI 0 (v252 10).toInt (v252 14).toInt (v252 8).toInt (f253 6) (f253 2) (f253 3); rw [hs2_f253, hs3_f253]; intro hz9; first | exact FI.cast hFK (by omega) (by omega) (by omega) | exact FI.cast (hFJ (by omega)) (by omega) (by omega) (by omega) | (exfalso; omega)) (by show 0 < (v252 1).toInt ∨ ((v252 8).toInt + (v252 10).toInt + (8 - (v252 14).toInt) ≤ 10 * (v252 13).toInt + 9 ∧ (v252 10).toInt ≤ (v252 14).toInt + (v252 13).toInt + 1 ∧ (v252 13).toInt ≤ 30 ∧ (v252 14).toInt ≤ 7); omega) (by show (v 13).toInt ≤ (v252 13).toInt; omega) (by show (v 3).toInt ≤ (v252 3).toInt; omega) (by show (v252 5).toInt = (v 5).toInt ∨ (v 3).toInt < (v252 3).toInt ∨ ¬ (v252 5).toInt = 59; omega) hs2_f253 hs3_f253 (by show (2 * (9 - (v252 14).toInt) + l1_1.toInt).toNat < n1; omega) _ _ _ hP hD hS (lv_sub hl [0, 1] rfl)
          refine lv_aload_n hx hb dX11_unit_13 rfl (lv_at hl 1 rfl) ?_
          refine lv_ldc2 (v := 7237492) hx hb hown (hts _ k_1640) dX11_unit_14 ?_
          refine cbVi (n := 1) (rest := []) hx hb hml hown hts hE hP hD hS hA (sY_X11_isWord_1 l dC dI cy y0 r 7237492 v1 f1 w1 g1 hIv1 hCf1 hRf1 ) k_1601 k_1603 k_45 k_114 k_1604 (by decide +kernel) ⟨Nat.le_of_ble_eq_true rfl, Nat.le_of_ble_eq_true rfl⟩ 0 11 rfl rfl (rfl) hl.1 rfl (Nat.le_of_ble_eq_true rfl) dX11_unit_17 (fun r264 u H locs hw hP hD hS => ?_)
          rcases hw with ⟨g265, g265_0⟩ | ⟨g265⟩
          · skip
            subst g265
            refine lv_if_eq (tgt := 53) hx hb dX11_unit_20 (by decide) (fun c0 => absurd c0 (by decide)) (fun _ => ?_)
            refine lv_aload_n hx hb dX11_unit_23 rfl (lv_at hl 1 rfl) ?_
            refine cbVi (n := 0) (rest := []) hx hb hml hown hts hE hP hD hS hA (sY_X11_mayNot_1 l dC dI cy y0 r  v1 f1 w1 g1 hIv1 hCf1 hRf1 ) k_1673 k_1675 k_58 k_114 k_1676 (by decide +kernel) ⟨Nat.le_of_ble_eq_true rfl, Nat.le_of_ble_eq_true rfl⟩ 0 11 rfl rfl (rfl) hl.1 rfl (Nat.le_of_ble_eq_true rfl) dX11_unit_24 (fun r266 u H locs hw hP hD hS => ?_)
            rcases hw with ⟨g267⟩ | ⟨g267⟩
            · skip
              subst g267
              refine lv_if_eq (tgt := 53) hx hb dX11_unit_27 (by decide) (fun c0 => absurd c0 (by decide)) (fun _ => ?_)
              refine lv_aload_n hx hb dX11_unit_30 rfl (lv_at hl 1 rfl) ?_
              refine va_get (D := (dC, dI)) (ci := 11) (v := .int (v1 14)) (C := RX11) (T := TX11) (N := 79) hx hb hts inB_11 hown hE.1 hP 0 rfl rfl 23 (by decide) (hts _ k_1343) (fun _ h9 => h9) rfl dX11_unit_31 ?_
              refine lv_bipush (v := 6) hx hb dX11_unit_34 (by decide) ?_
              refine lv_icmp_le (tgt := 44) hx hb dX11_unit_36 (by decide) (fun c268 => ?_) (fun c268 => ?_)
              · skip
                have zc268 : (v1 14).toInt ≤ 6 := by rw [fa_le, show (6 : Int32).toInt = 6 from by decide] at c268; exact c268
                refine lv_aload_n hx hb dX11_unit_44 rfl (lv_at hl 1 rfl) ?_
                refine lv_bipush (v := 21) hx hb dX11_unit_45 (by decide) ?_
                refine cbVv (n := 1) (rest := []) hx hb hml hown hts hE hP hD hS hA (sY_X11_openUp_1 l dC dI cy y0 r 21 v1 f1 w1 g1 hIv1 hCf1 hRf1 (by have q1 : (21 : Int32).toInt = 21 := (by decide); show (v1 10).toInt ≤ 159; omega) (by have q1 : (21 : Int32).toInt = 21 := (by decide); show (v1 14).toInt ≤ 7; omega)) k_1680 k_1682 k_59 k_114 k_1683 (by decide +kernel) ⟨Nat.le_of_ble_eq_true rfl, Nat.le_of_ble_eq_true rfl⟩ 0 11 rfl rfl (rfl) hl.1 rfl (Nat.le_of_ble_eq_true rfl) dX11_unit_47 (fun u H locs hw hP hD hS => ?_)
                obtain ⟨v269, f270, w271, g272⟩ := u
                obtain ⟨hIv269, hCf270, hRf270, hk0_v269, hk1_v269, hk4_v269, hk8_v269, hk9_v269, hk13_v269, hk15_v269, hk17_v269, hk18_v269, hk24_v269, hk25_v269, hk35_v269, hk36_v269, hk38_v269, hk39_v269, pv273, pv274, pv275, pv276, pg277, kq278, kq279⟩ := hw
                have hP : va_P (dC, dI) vwCl (YW cy y0 r v269 f270 w271 g272) H := hP
                have hD : va_D A (YW cy y0 r v269 f270 w271 g272) := hD
                have b3_v269 : 0 ≤ (v269 3).toInt ∧ (v269 3).toInt ≤ 1600 := YIb.b hIv269.1 3 (by decide)
                have b10_v269 : 0 ≤ (v269 10).toInt ∧ (v269 10).toInt ≤ 160 := YIb.b hIv269.1 10 (by decide)
                have b14_v269 : 0 ≤ (v269 14).toInt ∧ (v269 14).toInt ≤ 8 := YIb.b hIv269.1 14 (by decide)
                have pv273 : (v1 3).toInt ≤ (v269 3).toInt := pv273
                have pv274 : (v269 5).toInt = (v1 5).toInt ∨ (v1 3).toInt < (v269 3).toInt ∨ ¬ (v269 5).toInt = 59 := pv274
                have pv275 : (v269 10).toInt = (v1 10).toInt + 1 := pv275
                have pv276 : (v269 14).toInt = (v1 14).toInt + 1 := pv276
                have pg277 : (f270 6) = upd (f1 6) ((v1 10).toInt).toNat 21 := pg277
                have hs2_f270 : f270 2 = (f 2) := kq278.trans hs2_f1
                have hs3_f270 : f270 3 = (f 3) := kq279.trans hs3_f1
                have hUv269 : (v269 35).toInt + (v269 36).toInt ≤ 40 := hIv269.2
                have hq0_v269 : v269 0 = (v 0) := hk0_v269.trans hq0_v1
                have hq1_v269 : v269 1 = (v1 1) := hk1_v269
                have zq1_v269 := congrArg Int32.toInt hq1_v269
                have hq4_v269 : v269 4 = (v 4) := hk4_v269.trans hq4_v1
                have zq4_v269 := congrArg Int32.toInt hq4_v269
                have hq8_v269 : v269 8 = (v 8) := hk8_v269.trans hq8_v1
                have zq8_v269 := congrArg Int32.toInt hq8_v269
                have hq9_v269 : v269 9 = (v 9) := hk9_v269.trans hq9_v1
                have zq9_v269 := congrArg Int32.toInt hq9_v269
                have hq13_v269 : v269 13 = (v1 13) := hk13_v269
                have zq13_v269 := congrArg Int32.toInt hq13_v269
                have hq15_v269 : v269 15 = (v 15) := hk15_v269.trans hq15_v1
                have zq15_v269 := congrArg Int32.toInt hq15_v269
                have hq17_v269 : v269 17 = (v 17) := hk17_v269.trans hq17_v1
                have zq17_v269 := congrArg Int32.toInt hq17_v269
                have hq18_v269 : v269 18 = (v 18) := hk18_v269.trans hq18_v1
                have zq18_v269 := congrArg Int32.toInt hq18_v269
                have hq24_v269 : v269 24 = (v 24) := hk24_v269.trans hq24_v1
                have hq25_v269 : v269 25 = (v 25) := hk25_v269.trans hq25_v1
                have hq35_v269 : v269 35 = (v 35) := hk35_v269.trans hq35_v1
                have zq35_v269 := congrArg Int32.toInt hq35_v269
                have hq36_v269 : v269 36 = (v 36) := hk36_v269.trans hq36_v1
                have zq36_v269 := congrArg Int32.toInt hq36_v269
                have hq38_v269 : v269 38 = (v 38) := hk38_v269.trans hq38_v1
                have hq39_v269 : v269 39 = (v 39) := hk39_v269.trans hq39_v1
                have hFK : FI 0 (v269 10).toInt (v269 14).toInt (v269 8).toInt (f270 6) (f 2) (f 3) := FI.push (hFJ (by omega)) pg277 (by omega) (by decide) (by omega) (by omega) (by omega)
                refine lv_goto (tgt := 2) hx hb dX11_unit_50 (by decide) ?_
                have rg280 := fb_rng l1_1
                exact ih1 l1_1 v269 f270 w271 g272 hIv269 hCf270 hRf270 hq0_v269 hq4_v269 hq8_v269 hq9_v269 hq15_v269 hq17_v269 hq18_v269 hq24_v269 hq25_v269 hq35_v269 hq36_v269 hq38_v269 hq39_v269 ⟨show (0 : Int) ≤ l1_1.toInt by omega, show l1_1.toInt ≤ (1 : Int) by omega⟩ (by show (v269 1).toInt = 0 → FI 0 (v269 10).toInt (v269 14).toInt (v269 8).toInt (f270 6) (f270 2) (f270 3); rw [hs2_f270, hs3_f270]; intro hz9; first | exact FI.cast hFK (by omega) (by omega) (by omega) | exact FI.cast (hFJ (by omega)) (by omega) (by omega) (by omega) | (exfalso; omega)) (by show 0 < (v269 1).toInt ∨ ((v269 8).toInt + (v269 10).toInt + (8 - (v269 14).toInt) ≤ 10 * (v269 13).toInt + 9 ∧ (v269 10).toInt ≤ (v269 14).toInt + (v269 13).toInt + 1 ∧ (v269 13).toInt ≤ 30 ∧ (v269 14).toInt ≤ 7); omega) (by show (v 13).toInt ≤ (v269 13).toInt; omega) (by show (v 3).toInt ≤ (v269 3).toInt; omega) (by show (v269 5).toInt = (v 5).toInt ∨ (v 3).toInt < (v269 3).toInt ∨ ¬ (v269 5).toInt = 59; omega) hs2_f270 hs3_f270 (by show (2 * (9 - (v269 14).toInt) + l1_1.toInt).toNat < n1; omega) _ _ _ hP hD hS (lv_sub hl [0, 1] rfl)
              · skip
                have zc268 : ¬ ((v1 14).toInt ≤ 6) := by rw [fa_le, show (6 : Int32).toInt = 6 from by decide] at c268; exact c268
                refine lv_aload_n hx hb dX11_unit_39 rfl (lv_at hl 1 rfl) ?_
                refine lv_iconst (v := 2) hx hb dX11_unit_40 (by decide) ?_
                refine cbVv (n := 1) (rest := []) hx hb hml hown hts hE hP hD hS hA (sY_X11_wrong_1 l dC dI cy y0 r 2 v1 f1 w1 g1 hIv1 hCf1 hRf1 ⟨by decide, by decide⟩) k_1641 k_1643 k_50 k_114 k_1644 (by decide +kernel) ⟨Nat.le_of_ble_eq_true rfl, Nat.le_of_ble_eq_true rfl⟩ 0 11 rfl rfl (rfl) hl.1 rfl (Nat.le_of_ble_eq_true rfl) dX11_unit_41 (fun u H locs hw hP hD hS => ?_)
                obtain ⟨v281, f282, w283, g284⟩ := u
                obtain ⟨hIv281, hCf282, hRf282, hk0_v281, hk3_v281, hk4_v281, hk5_v281, hk8_v281, hk9_v281, hk10_v281, hk13_v281, hk14_v281, hk15_v281, hk17_v281, hk18_v281, hk24_v281, hk25_v281, hk35_v281, hk36_v281, hk38_v281, hk39_v281, pv285, pv286, pv287, kq288, kq289, kq290⟩ := hw
                have hP : va_P (dC, dI) vwCl (YW cy y0 r v281 f282 w283 g284) H := hP
                have hD : va_D A (YW cy y0 r v281 f282 w283 g284) := hD
                have b3_v281 : 0 ≤ (v281 3).toInt ∧ (v281 3).toInt ≤ 1600 := YIb.b hIv281.1 3 (by decide)
                have b1_v281 : 0 ≤ (v281 1).toInt ∧ (v281 1).toInt ≤ 4 := YIb.b hIv281.1 1 (by decide)
                have pv285 : (v1 3).toInt ≤ (v281 3).toInt := pv285
                have pv286 : (v281 5).toInt = (v1 5).toInt ∨ (v1 3).toInt < (v281 3).toInt ∨ ¬ (v281 5).toInt = 59 := pv286
                have pv287 : 0 < (v281 1).toInt := pv287
                have hs2_f282 : f282 2 = (f 2) := kq288.trans hs2_f1
                have hs3_f282 : f282 3 = (f 3) := kq289.trans hs3_f1
                have hs6_f282 : f282 6 = (f1 6) := kq290
                have hUv281 : (v281 35).toInt + (v281 36).toInt ≤ 40 := hIv281.2
                have hq0_v281 : v281 0 = (v 0) := hk0_v281.trans hq0_v1
                have hq3_v281 : v281 3 = (v1 3) := hk3_v281
                have zq3_v281 := congrArg Int32.toInt hq3_v281
                have hq4_v281 : v281 4 = (v 4) := hk4_v281.trans hq4_v1
                have zq4_v281 := congrArg Int32.toInt hq4_v281
                have hq5_v281 : v281 5 = (v1 5) := hk5_v281
                have zq5_v281 := congrArg Int32.toInt hq5_v281
                have hq8_v281 : v281 8 = (v 8) := hk8_v281.trans hq8_v1
                have zq8_v281 := congrArg Int32.toInt hq8_v281
                have hq9_v281 : v281 9 = (v 9) := hk9_v281.trans hq9_v1
                have zq9_v281 := congrArg Int32.toInt hq9_v281
                have hq10_v281 : v281 10 = (v1 10) := hk10_v281
                have zq10_v281 := congrArg Int32.toInt hq10_v281
                have hq13_v281 : v281 13 = (v1 13) := hk13_v281
                have zq13_v281 := congrArg Int32.toInt hq13_v281
                have hq14_v281 : v281 14 = (v1 14) := hk14_v281
                have zq14_v281 := congrArg Int32.toInt hq14_v281
                have hq15_v281 : v281 15 = (v 15) := hk15_v281.trans hq15_v1
                have zq15_v281 := congrArg Int32.toInt hq15_v281
                have hq17_v281 : v281 17 = (v 17) := hk17_v281.trans hq17_v1
                have zq17_v281 := congrArg Int32.toInt hq17_v281
                have hq18_v281 : v281 18 = (v 18) := hk18_v281.trans hq18_v1
                have zq18_v281 := congrArg Int32.toInt hq18_v281
                have hq24_v281 : v281 24 = (v 24) := hk24_v281.trans hq24_v1
                have hq25_v281 : v281 25 = (v 25) := hk25_v281.trans hq25_v1
                have hq35_v281 : v281 35 = (v 35) := hk35_v281.trans hq35_v1
                have zq35_v281 := congrArg Int32.toInt hq35_v281
                have hq36_v281 : v281 36 = (v 36) := hk36_v281.trans hq36_v1
                have zq36_v281 := congrArg Int32.toInt hq36_v281
                have hq38_v281 : v281 38 = (v 38) := hk38_v281.trans hq38_v1
                have hq39_v281 : v281 39 = (v 39) := hk39_v281.trans hq39_v1
                refine lv_aload_n hx hb dX11_unit_44 rfl (lv_at hl 1 rfl) ?_
                refine lv_bipush (v := 21) hx hb dX11_unit_45 (by decide) ?_
                refine cbVv (n := 1) (rest := []) hx hb hml hown hts hE hP hD hS hA (sY_X11_openUp_1 l dC dI cy y0 r 21 v281 f282 w283 g284 hIv281 hCf282 hRf282 (by have q1 : (21 : Int32).toInt = 21 := (by decide); show (v281 10).toInt ≤ 159; omega) (by have q1 : (21 : Int32).toInt = 21 := (by decide); show (v281 14).toInt ≤ 7; omega)) k_1680 k_1682 k_59 k_114 k_1683 (by decide +kernel) ⟨Nat.le_of_ble_eq_true rfl, Nat.le_of_ble_eq_true rfl⟩ 0 11 rfl rfl (rfl) hl.1 rfl (Nat.le_of_ble_eq_true rfl) dX11_unit_47 (fun u H locs hw hP hD hS => ?_)
                obtain ⟨v291, f292, w293, g294⟩ := u
                obtain ⟨hIv291, hCf292, hRf292, hk0_v291, hk1_v291, hk4_v291, hk8_v291, hk9_v291, hk13_v291, hk15_v291, hk17_v291, hk18_v291, hk24_v291, hk25_v291, hk35_v291, hk36_v291, hk38_v291, hk39_v291, pv295, pv296, pv297, pv298, pg299, kq300, kq301⟩ := hw
                have hP : va_P (dC, dI) vwCl (YW cy y0 r v291 f292 w293 g294) H := hP
                have hD : va_D A (YW cy y0 r v291 f292 w293 g294) := hD
                have b3_v291 : 0 ≤ (v291 3).toInt ∧ (v291 3).toInt ≤ 1600 := YIb.b hIv291.1 3 (by decide)
                have b10_v291 : 0 ≤ (v291 10).toInt ∧ (v291 10).toInt ≤ 160 := YIb.b hIv291.1 10 (by decide)
                have b14_v291 : 0 ≤ (v291 14).toInt ∧ (v291 14).toInt ≤ 8 := YIb.b hIv291.1 14 (by decide)
                have pv295 : (v281 3).toInt ≤ (v291 3).toInt := pv295
                have pv296 : (v291 5).toInt = (v281 5).toInt ∨ (v281 3).toInt < (v291 3).toInt ∨ ¬ (v291 5).toInt = 59 := pv296
                have pv297 : (v291 10).toInt = (v281 10).toInt + 1 := pv297
                have pv298 : (v291 14).toInt = (v281 14).toInt + 1 := pv298
                have pg299 : (f292 6) = upd (f282 6) ((v281 10).toInt).toNat 21 := pg299
                rw [hs6_f282] at pg299
                have hs2_f292 : f292 2 = (f 2) := kq300.trans hs2_f282
                have hs3_f292 : f292 3 = (f 3) := kq301.trans hs3_f282
                have hUv291 : (v291 35).toInt + (v291 36).toInt ≤ 40 := hIv291.2
                have hq0_v291 : v291 0 = (v 0) := hk0_v291.trans hq0_v281
                have hq1_v291 : v291 1 = (v281 1) := hk1_v291
                have zq1_v291 := congrArg Int32.toInt hq1_v291
                have hq4_v291 : v291 4 = (v 4) := hk4_v291.trans hq4_v281
                have zq4_v291 := congrArg Int32.toInt hq4_v291
                have hq8_v291 : v291 8 = (v 8) := hk8_v291.trans hq8_v281
                have zq8_v291 := congrArg Int32.toInt hq8_v291
                have hq9_v291 : v291 9 = (v 9) := hk9_v291.trans hq9_v281
                have zq9_v291 := congrArg Int32.toInt hq9_v291
                have hq13_v291 : v291 13 = (v1 13) := hk13_v291.trans hq13_v281
                have zq13_v291 := congrArg Int32.toInt hq13_v291
                have hq15_v291 : v291 15 = (v 15) := hk15_v291.trans hq15_v281
                have zq15_v291 := congrArg Int32.toInt hq15_v291
                have hq17_v291 : v291 17 = (v 17) := hk17_v291.trans hq17_v281
                have zq17_v291 := congrArg Int32.toInt hq17_v291
                have hq18_v291 : v291 18 = (v 18) := hk18_v291.trans hq18_v281
                have zq18_v291 := congrArg Int32.toInt hq18_v291
                have hq24_v291 : v291 24 = (v 24) := hk24_v291.trans hq24_v281
                have hq25_v291 : v291 25 = (v 25) := hk25_v291.trans hq25_v281
                have hq35_v291 : v291 35 = (v 35) := hk35_v291.trans hq35_v281
                have zq35_v291 := congrArg Int32.toInt hq35_v291
                have hq36_v291 : v291 36 = (v 36) := hk36_v291.trans hq36_v281
                have zq36_v291 := congrArg Int32.toInt hq36_v291
                have hq38_v291 : v291 38 = (v 38) := hk38_v291.trans hq38_v281
                have hq39_v291 : v291 39 = (v 39) := hk39_v291.trans hq39_v281
                have hFK : FI 0 (v291 10).toInt (v291 14).toInt (v291 8).toInt (f292 6) (f 2) (f 3) := FI.push (hFJ (by omega)) pg299 (by omega) (by decide) (by omega) (by omega) (by omega)
                refine lv_goto (tgt := 2) hx hb dX11_unit_50 (by decide) ?_
                have rg302 := fb_rng l1_1
                exact ih1 l1_1 v291 f292 w293 g294 hIv291 hCf292 hRf292 hq0_v291 hq4_v291 hq8_v291 hq9_v291 hq15_v291 hq17_v291 hq18_v291 hq24_v291 hq25_v291 hq35_v291 hq36_v291 hq38_v291 hq39_v291 ⟨show (0 : Int) ≤ l1_1.toInt by omega, show l1_1.toInt ≤ (1 : Int) by omega⟩ (by show (v291 1).toInt = 0 → FI 0 (v291 10).toInt (v291 14).toInt (v291 8).toInt (f292 6) (f292 2) (f292 3); rw [hs2_f292, hs3_f292]; intro hz9; first | exact FI.cast hFK (by omega) (by omega) (by omega) | exact FI.cast (hFJ (by omega)) (by omega) (by omega) (by omega) | (exfalso; omega)) (by show 0 < (v291 1).toInt ∨ ((v291 8).toInt + (v291 10).toInt + (8 - (v291 14).toInt) ≤ 10 * (v291 13).toInt + 9 ∧ (v291 10).toInt ≤ (v291 14).toInt + (v291 13).toInt + 1 ∧ (v291 13).toInt ≤ 30 ∧ (v291 14).toInt ≤ 7); omega) (by show (v 13).toInt ≤ (v291 13).toInt; omega) (by show (v 3).toInt ≤ (v291 3).toInt; omega) (by show (v291 5).toInt = (v 5).toInt ∨ (v 3).toInt < (v291 3).toInt ∨ ¬ (v291 5).toInt = 59; omega) hs2_f292 hs3_f292 (by show (2 * (9 - (v291 14).toInt) + l1_1.toInt).toNat < n1; omega) _ _ _ hP hD hS (lv_sub hl [0, 1] rfl)
            · skip
              subst g267
              refine lv_if_eq (tgt := 53) hx hb dX11_unit_27 (by decide) (fun _ => ?_) (fun c0 => absurd (by decide) c0)
              exact jp53 _ _ _ hP hD hS hl
          · skip
            subst g265
            refine lv_if_eq (tgt := 53) hx hb dX11_unit_20 (by decide) (fun _ => ?_) (fun c0 => absurd (by decide) c0)
            exact jp53 _ _ _ hP hD hS hl
  exact lp1 _ 1 v f w g hIv hCf hRf rfl rfl rfl rfl rfl rfl rfl rfl rfl rfl rfl rfl rfl ⟨by decide, by decide⟩ (by show (v 1).toInt = 0 → FI 0 (v 10).toInt (v 14).toInt (v 8).toInt (f 6) (f 2) (f 3); exact fun _ => hFI) (by show 0 < (v 1).toInt ∨ ((v 8).toInt + (v 10).toInt + (8 - (v 14).toInt) ≤ 10 * (v 13).toInt + 9 ∧ (v 10).toInt ≤ (v 14).toInt + (v 13).toInt + 1 ∧ (v 13).toInt ≤ 30 ∧ (v 14).toInt ≤ 7); omega) (by show (v 13).toInt ≤ (v 13).toInt; omega) (by show (v 3).toInt ≤ (v 3).toInt; omega) (by show (v 5).toInt = (v 5).toInt ∨ (v 3).toInt < (v 3).toInt ∨ ¬ (v 5).toInt = 59; omega) rfl rfl (Nat.lt_succ_self _) _ _ _ hP hD hS (lv_sub hl [0, 1] rfl)
