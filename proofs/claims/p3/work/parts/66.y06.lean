set_option maxHeartbeats 4000000 in
set_option maxRecDepth 100000 in
theorem sY_X11_option_1 (l : Launch) (dC : Nat → ClassId) (dI : Nat → Nat → Nat) (cy : Nat → ClassId) (y0 : Nat) (r : Nat → Nat) (j1 : Int64) (p2 : Int32) (v : Nat → Int32) (f : Nat → Nat → Int32) (w : Int64) (g : Nat → Int64) (hIv : YI v) (hCf : YC f) (hRf : progOK (f 4) (f 5) (v 9).toInt.toNat)  : ctI l (dC, dI) cy yX11_option cX11_option 4 .int 5 149 0 0 ((Nat → Int32) × (Nat → Nat → Int32) × (Int64) × (Nat → Int64)) [.ref y0, .long j1, .int p2] (YW cy y0 r v f w g) (fun r u => YI u.1 ∧ YC u.2.1 ∧ progOK (u.2.1 4) (u.2.1 5) (u.1 9).toInt.toNat ∧ u.1 0 = v 0 ∧ u.1 4 = v 4 ∧ u.1 8 = v 8 ∧ u.1 9 = v 9 ∧ u.1 10 = v 10 ∧ u.1 13 = v 13 ∧ u.1 14 = v 14 ∧ u.1 15 = v 15 ∧ u.1 17 = v 17 ∧ u.1 18 = v 18 ∧ u.1 24 = v 24 ∧ u.1 25 = v 25 ∧ u.1 35 = v 35 ∧ u.1 36 = v 36 ∧ u.1 38 = v 38 ∧ u.1 39 = v 39 ∧ ((v 3).toInt ≤ (u.1 3).toInt) ∧ ((u.1 5).toInt = (v 5).toInt ∨ (v 3).toInt < (u.1 3).toInt ∨ ¬ (u.1 5).toInt = 59) ∧ u.2.1 2 = f 2 ∧ u.2.1 3 = f 3 ∧ u.2.1 6 = f 6) (fun u => YW cy y0 r u.1 u.2.1 u.2.2.1 u.2.2.2) := by
  refine ctI_of (by decide) (Nat.le_of_ble_eq_true rfl) (fun p e s m below meth c A ls Q hx hb hml hts hown hE hP hD hA hl ret => ?_)
  have hUv : (v 35).toInt + (v 36).toInt ≤ 40 := hIv.2
  have b0_v : (0 : Int) ≤ (v 0).toInt ∧ (v 0).toInt ≤ 1600 := YIb.b hIv.1 0 (by decide)
  have b1_v : (0 : Int) ≤ (v 1).toInt ∧ (v 1).toInt ≤ 4 := YIb.b hIv.1 1 (by decide)
  have b8_v : (0 : Int) ≤ (v 8).toInt ∧ (v 8).toInt ≤ 320 := YIb.b hIv.1 8 (by decide)
  have b10_v : (0 : Int) ≤ (v 10).toInt ∧ (v 10).toInt ≤ 160 := YIb.b hIv.1 10 (by decide)
  have b13_v : (0 : Int) ≤ (v 13).toInt ∧ (v 13).toInt ≤ 31 := YIb.b hIv.1 13 (by decide)
  have b14_v : (0 : Int) ≤ (v 14).toInt ∧ (v 14).toInt ≤ 8 := YIb.b hIv.1 14 (by decide)
  have b15_v : (0 : Int) ≤ (v 15).toInt ∧ (v 15).toInt ≤ 1 := YIb.b hIv.1 15 (by decide)
  have b17_v : (0 : Int) ≤ (v 17).toInt ∧ (v 17).toInt ≤ 6 := YIb.b hIv.1 17 (by decide)
  have b18_v : (0 : Int) ≤ (v 18).toInt ∧ (v 18).toInt ≤ 6 := YIb.b hIv.1 18 (by decide)
  have hown : s.vm.findClass RX11 = some m.cls := hown
  have hS : va_S A s.heap s.heap [] := va_S.rf
  have hl : lv_has ls 4 [(0, .ref y0), (1, .long j1), (3, .int p2)] := hl
  refine lv_aload_n hx hb dX11_option_0 rfl (lv_at hl 0 rfl) ?_
  refine va_get (D := (dC, dI)) (ci := 11) (v := .int (v 1)) (C := RX11) (T := TX11) (N := 79) hx hb hts inB_11 hown hE.1 hP 0 rfl rfl 2 (by decide) (hts _ k_1322) (fun _ h9 => h9) rfl dX11_option_1 ?_
  have b1_v : 0 ≤ (v 1).toInt ∧ (v 1).toInt ≤ 4 := YIb.b hIv.1 1 (by decide)
  refine lv_if_ne (tgt := 24) hx hb dX11_option_4 (by decide) (fun c1 => ?_) (fun c1 => ?_)
  · skip
    have zc1 : ¬ ((v 1).toInt = 0) := by rw [fa_eq, show (0 : Int32).toInt = 0 from by decide] at c1; exact c1
    refine lv_iconst (v := 0) hx hb dX11_option_24 (by decide) ?_
    exact ret 0 (v, f, w, g) _ _ _ _ _ _ rfl ⟨hIv, hCf, hRf, rfl, rfl, rfl, rfl, rfl, rfl, rfl, rfl, rfl, rfl, rfl, rfl, rfl, rfl, rfl, rfl, (by show (v 3).toInt ≤ (v 3).toInt; omega), (by show (v 5).toInt = (v 5).toInt ∨ (v 3).toInt < (v 3).toInt ∨ ¬ (v 5).toInt = 59; omega), rfl, rfl, rfl⟩ hP hD hS dX11_option_25 (Nat.le_refl _) (Nat.le_refl _)
  · skip
    have zc1 : (v 1).toInt = 0 := by rw [fa_eq, show (0 : Int32).toInt = 0 from by decide] at c1; exact c1
    refine lv_aload_n hx hb dX11_option_7 rfl (lv_at hl 0 rfl) ?_
    refine lv_lload_n hx hb dX11_option_8 rfl (lv_at hl 1 rfl) ?_
    refine cbVi (n := 1) (rest := []) hx hb hml hown hts hE hP hD hS hA (sY_X11_isWord_1 l dC dI cy y0 r j1 v f w g hIv hCf hRf ) k_1601 k_1603 k_45 k_114 k_1604 (by decide +kernel) ⟨Nat.le_of_ble_eq_true rfl, Nat.le_of_ble_eq_true rfl⟩ 0 11 rfl rfl (rfl) hl.1 rfl (Nat.le_of_ble_eq_true rfl) dX11_option_9 (fun r2 u H locs hw hP hD hS => ?_)
    rcases hw with ⟨g3, g3_0⟩ | ⟨g3⟩
    · skip
      subst g3
      refine lv_if_eq (tgt := 24) hx hb dX11_option_12 (by decide) (fun c0 => absurd c0 (by decide)) (fun _ => ?_)
      refine lv_aload_n hx hb dX11_option_15 rfl (lv_at hl 0 rfl) ?_
      refine lv_lload_n hx hb dX11_option_16 rfl (lv_at hl 1 rfl) ?_
      refine lv_iload_n hx hb dX11_option_17 rfl (lv_at hl 2 rfl) ?_
      refine cbVi (n := 2) (rest := []) hx hb hml hown hts hE hP hD hS hA (sY_X11_told_1 l dC dI cy y0 r j1 p2 v f w g hIv hCf hRf ) k_1645 k_1647 k_51 k_114 k_1648 (by decide +kernel) ⟨Nat.le_of_ble_eq_true rfl, Nat.le_of_ble_eq_true rfl⟩ 0 11 rfl rfl (rfl) hl.1 rfl (Nat.le_of_ble_eq_true rfl) dX11_option_18 (fun r4 u H locs hw hP hD hS => ?_)
      obtain ⟨v5, f6, w7, g8⟩ := u
      obtain ⟨hIv5, hCf6, hRf6, hk0_v5, hk4_v5, hk8_v5, hk9_v5, hk10_v5, hk13_v5, hk14_v5, hk15_v5, hk17_v5, hk18_v5, hk24_v5, hk25_v5, hk35_v5, hk36_v5, hk38_v5, hk39_v5, pv9, pv10, kq11, kq12, kq13⟩ := hw
      have hP : va_P (dC, dI) vwCl (YW cy y0 r v5 f6 w7 g8) H := hP
      have hD : va_D A (YW cy y0 r v5 f6 w7 g8) := hD
      have b3_v5 : 0 ≤ (v5 3).toInt ∧ (v5 3).toInt ≤ 1600 := YIb.b hIv5.1 3 (by decide)
      have pv9 : (v 3).toInt ≤ (v5 3).toInt := pv9
      have pv10 : (v5 5).toInt = (v 5).toInt ∨ (v 3).toInt < (v5 3).toInt ∨ ¬ (v5 5).toInt = 59 := pv10
      have hs2_f6 : f6 2 = (f 2) := kq11
      have hs3_f6 : f6 3 = (f 3) := kq12
      have hs6_f6 : f6 6 = (f 6) := kq13
      have hUv5 : (v5 35).toInt + (v5 36).toInt ≤ 40 := hIv5.2
      have hq0_v5 : v5 0 = (v 0) := hk0_v5
      have zq0_v5 := congrArg Int32.toInt hq0_v5
      have hq4_v5 : v5 4 = (v 4) := hk4_v5
      have zq4_v5 := congrArg Int32.toInt hq4_v5
      have hq8_v5 : v5 8 = (v 8) := hk8_v5
      have zq8_v5 := congrArg Int32.toInt hq8_v5
      have hq9_v5 : v5 9 = (v 9) := hk9_v5
      have zq9_v5 := congrArg Int32.toInt hq9_v5
      have hq10_v5 : v5 10 = (v 10) := hk10_v5
      have zq10_v5 := congrArg Int32.toInt hq10_v5
      have hq13_v5 : v5 13 = (v 13) := hk13_v5
      have zq13_v5 := congrArg Int32.toInt hq13_v5
      have hq14_v5 : v5 14 = (v 14) := hk14_v5
      have zq14_v5 := congrArg Int32.toInt hq14_v5
      have hq15_v5 : v5 15 = (v 15) := hk15_v5
      have zq15_v5 := congrArg Int32.toInt hq15_v5
      have hq17_v5 : v5 17 = (v 17) := hk17_v5
      have zq17_v5 := congrArg Int32.toInt hq17_v5
      have hq18_v5 : v5 18 = (v 18) := hk18_v5
      have zq18_v5 := congrArg Int32.toInt hq18_v5
      have hq24_v5 : v5 24 = (v 24) := hk24_v5
      have hq25_v5 : v5 25 = (v 25) := hk25_v5
      have hq35_v5 : v5 35 = (v 35) := hk35_v5
      have zq35_v5 := congrArg Int32.toInt hq35_v5
      have hq36_v5 : v5 36 = (v 36) := hk36_v5
      have zq36_v5 := congrArg Int32.toInt hq36_v5
      have hq38_v5 : v5 38 = (v 38) := hk38_v5
      have hq39_v5 : v5 39 = (v 39) := hk39_v5
      refine lv_goto (tgt := 25) hx hb dX11_option_21 (by decide) ?_
      exact ret r4 (v5, f6, w7, g8) _ _ _ _ _ _ rfl ⟨hIv5, hCf6, hRf6, hk0_v5, hk4_v5, hk8_v5, hk9_v5, hk10_v5, hk13_v5, hk14_v5, hk15_v5, hk17_v5, hk18_v5, hk24_v5, hk25_v5, hk35_v5, hk36_v5, hk38_v5, hk39_v5, (by show (v 3).toInt ≤ (v5 3).toInt; omega), (by show (v5 5).toInt = (v 5).toInt ∨ (v 3).toInt < (v5 3).toInt ∨ ¬ (v5 5).toInt = 59; omega), hs2_f6, hs3_f6, hs6_f6⟩ hP hD hS dX11_option_25 (Nat.le_refl _) (Nat.le_refl _)
    · skip
      subst g3
      refine lv_if_eq (tgt := 24) hx hb dX11_option_12 (by decide) (fun _ => ?_) (fun c0 => absurd (by decide) c0)
      refine lv_iconst (v := 0) hx hb dX11_option_24 (by decide) ?_
      exact ret 0 (v, f, w, g) _ _ _ _ _ _ rfl ⟨hIv, hCf, hRf, rfl, rfl, rfl, rfl, rfl, rfl, rfl, rfl, rfl, rfl, rfl, rfl, rfl, rfl, rfl, rfl, (by show (v 3).toInt ≤ (v 3).toInt; omega), (by show (v 5).toInt = (v 5).toInt ∨ (v 3).toInt < (v 3).toInt ∨ ¬ (v 5).toInt = 59; omega), rfl, rfl, rfl⟩ hP hD hS dX11_option_25 (Nat.le_refl _) (Nat.le_refl _)
set_option maxHeartbeats 4000000 in
set_option maxRecDepth 100000 in
theorem sY_X11_readCoat_1 (l : Launch) (dC : Nat → ClassId) (dI : Nat → Nat → Nat) (cy : Nat → ClassId) (y0 : Nat) (r : Nat → Nat)  (v : Nat → Int32) (f : Nat → Nat → Int32) (w : Int64) (g : Nat → Int64) (hIv : YI v) (hCf : YC f) (hRf : progOK (f 4) (f 5) (v 9).toInt.toNat)  (hf0 : (v 18).toInt ≤ 5) : ctV l (dC, dI) cy yX11_readCoat cX11_readCoat 1 6 172 0 0 ((Nat → Int32) × (Nat → Nat → Int32) × (Int64) × (Nat → Int64)) [.ref y0] (YW cy y0 r v f w g) (fun u => YI u.1 ∧ YC u.2.1 ∧ progOK (u.2.1 4) (u.2.1 5) (u.1 9).toInt.toNat ∧ u.1 0 = v 0 ∧ u.1 4 = v 4 ∧ u.1 8 = v 8 ∧ u.1 9 = v 9 ∧ u.1 10 = v 10 ∧ u.1 13 = v 13 ∧ u.1 14 = v 14 ∧ u.1 15 = v 15 ∧ u.1 17 = v 17 ∧ u.1 24 = v 24 ∧ u.1 25 = v 25 ∧ u.1 35 = v 35 ∧ u.1 36 = v 36 ∧ u.1 38 = v 38 ∧ u.1 39 = v 39 ∧ ((v 3).toInt ≤ (u.1 3).toInt) ∧ ((u.1 5).toInt = (v 5).toInt ∨ (v 3).toInt < (u.1 3).toInt ∨ ¬ (u.1 5).toInt = 59) ∧ u.2.1 2 = f 2 ∧ u.2.1 3 = f 3 ∧ u.2.1 6 = f 6) (fun u => YW cy y0 r u.1 u.2.1 u.2.2.1 u.2.2.2) := by
  refine ctV_of (by decide) (Nat.le_of_ble_eq_true rfl) (fun p e s m below meth c A ls Q hx hb hml hts hown hnm hE hP hD hA hl ret => ?_)
  have hUv : (v 35).toInt + (v 36).toInt ≤ 40 := hIv.2
  have b0_v : (0 : Int) ≤ (v 0).toInt ∧ (v 0).toInt ≤ 1600 := YIb.b hIv.1 0 (by decide)
  have b1_v : (0 : Int) ≤ (v 1).toInt ∧ (v 1).toInt ≤ 4 := YIb.b hIv.1 1 (by decide)
  have b8_v : (0 : Int) ≤ (v 8).toInt ∧ (v 8).toInt ≤ 320 := YIb.b hIv.1 8 (by decide)
  have b10_v : (0 : Int) ≤ (v 10).toInt ∧ (v 10).toInt ≤ 160 := YIb.b hIv.1 10 (by decide)
  have b13_v : (0 : Int) ≤ (v 13).toInt ∧ (v 13).toInt ≤ 31 := YIb.b hIv.1 13 (by decide)
  have b14_v : (0 : Int) ≤ (v 14).toInt ∧ (v 14).toInt ≤ 8 := YIb.b hIv.1 14 (by decide)
  have b15_v : (0 : Int) ≤ (v 15).toInt ∧ (v 15).toInt ≤ 1 := YIb.b hIv.1 15 (by decide)
  have b17_v : (0 : Int) ≤ (v 17).toInt ∧ (v 17).toInt ≤ 6 := YIb.b hIv.1 17 (by decide)
  have b18_v : (0 : Int) ≤ (v 18).toInt ∧ (v 18).toInt ≤ 6 := YIb.b hIv.1 18 (by decide)
  have hown : s.vm.findClass RX11 = some m.cls := hown
  have hS : va_S A s.heap s.heap [] := va_S.rf
  have hl : lv_has ls 1 [(0, .ref y0)] := hl
  refine lv_aload_n hx hb dX11_readCoat_0 rfl (lv_at hl 0 rfl) ?_
  refine lv_bipush (v := 6) hx hb dX11_readCoat_1 (by decide) ?_
  refine lv_aload_n hx hb dX11_readCoat_3 rfl (lv_at hl 0 rfl) ?_
  refine va_get (D := (dC, dI)) (ci := 11) (v := .int (v 18)) (C := RX11) (T := TX11) (N := 79) hx hb hts inB_11 hown hE.1 hP 0 rfl rfl 42 (by decide) (hts _ k_1362) (fun _ h9 => h9) rfl dX11_readCoat_4 ?_
  have b18_v : 0 ≤ (v 18).toInt ∧ (v 18).toInt ≤ 6 := YIb.b hIv.1 18 (by decide)
  refine cbVv (n := 2) (rest := []) hx hb hml hown hts hE hP hD hS hA (sY_X11_newName_1 l dC dI cy y0 r 6 (v 18) v f w g hIv hCf hRf ⟨by decide, by decide⟩ ⟨show (0 : Int) ≤ (v 18).toInt by omega, show (v 18).toInt ≤ (5 : Int) by omega⟩) k_1609 k_1611 k_47 k_114 k_1612 (by decide +kernel) ⟨Nat.le_of_ble_eq_true rfl, Nat.le_of_ble_eq_true rfl⟩ 0 11 rfl rfl (rfl) hl.1 rfl (Nat.le_of_ble_eq_true rfl) dX11_readCoat_7 (fun u H locs hw hP hD hS => ?_)
  obtain ⟨v1, f2, w3, g4⟩ := u
  obtain ⟨hIv1, hCf2, hRf2, hk0_v1, hk4_v1, hk8_v1, hk9_v1, hk10_v1, hk13_v1, hk14_v1, hk15_v1, hk17_v1, hk18_v1, hk24_v1, hk25_v1, hk35_v1, hk36_v1, hk38_v1, hk39_v1, pv5, pv6, kq7, kq8, kq9⟩ := hw
  have hP : va_P (dC, dI) vwCl (YW cy y0 r v1 f2 w3 g4) H := hP
  have hD : va_D A (YW cy y0 r v1 f2 w3 g4) := hD
  have b3_v1 : 0 ≤ (v1 3).toInt ∧ (v1 3).toInt ≤ 1600 := YIb.b hIv1.1 3 (by decide)
  have pv5 : (v 3).toInt ≤ (v1 3).toInt := pv5
  have pv6 : (v1 5).toInt = (v 5).toInt ∨ (v 3).toInt < (v1 3).toInt ∨ ¬ (v1 5).toInt = 59 := pv6
  have hs2_f2 : f2 2 = (f 2) := kq7
  have hs3_f2 : f2 3 = (f 3) := kq8
  have hs6_f2 : f2 6 = (f 6) := kq9
  have hUv1 : (v1 35).toInt + (v1 36).toInt ≤ 40 := hIv1.2
  have hq0_v1 : v1 0 = (v 0) := hk0_v1
  have zq0_v1 := congrArg Int32.toInt hq0_v1
  have hq4_v1 : v1 4 = (v 4) := hk4_v1
  have zq4_v1 := congrArg Int32.toInt hq4_v1
  have hq8_v1 : v1 8 = (v 8) := hk8_v1
  have zq8_v1 := congrArg Int32.toInt hq8_v1
  have hq9_v1 : v1 9 = (v 9) := hk9_v1
  have zq9_v1 := congrArg Int32.toInt hq9_v1
  have hq10_v1 : v1 10 = (v 10) := hk10_v1
  have zq10_v1 := congrArg Int32.toInt hq10_v1
  have hq13_v1 : v1 13 = (v 13) := hk13_v1
  have zq13_v1 := congrArg Int32.toInt hq13_v1
  have hq14_v1 : v1 14 = (v 14) := hk14_v1
  have zq14_v1 := congrArg Int32.toInt hq14_v1
  have hq15_v1 : v1 15 = (v 15) := hk15_v1
  have zq15_v1 := congrArg Int32.toInt hq15_v1
  have hq17_v1 : v1 17 = (v 17) := hk17_v1
  have zq17_v1 := congrArg Int32.toInt hq17_v1
  have hq18_v1 : v1 18 = (v 18) := hk18_v1
  have zq18_v1 := congrArg Int32.toInt hq18_v1
  have hq24_v1 : v1 24 = (v 24) := hk24_v1
  have hq25_v1 : v1 25 = (v 25) := hk25_v1
  have hq35_v1 : v1 35 = (v 35) := hk35_v1
  have zq35_v1 := congrArg Int32.toInt hq35_v1
  have hq36_v1 : v1 36 = (v 36) := hk36_v1
  have zq36_v1 := congrArg Int32.toInt hq36_v1
  have hq38_v1 : v1 38 = (v 38) := hk38_v1
  have hq39_v1 : v1 39 = (v 39) := hk39_v1
  refine lv_aload_n hx hb dX11_readCoat_10 rfl (lv_at hl 0 rfl) ?_
  refine va_get (D := (dC, dI)) (ci := 11) (v := .ref (r 30)) (C := RX11) (T := TX11) (N := 79) hx hb hts inB_11 hown hE.1 hP 0 rfl rfl 30 (by decide) (hts _ k_1350) (fun _ h9 => h9) rfl dX11_readCoat_11 ?_
  refine lv_aload_n hx hb dX11_readCoat_14 rfl (lv_at hl 0 rfl) ?_
  refine va_get (D := (dC, dI)) (ci := 11) (v := .int (v1 18)) (C := RX11) (T := TX11) (N := 79) hx hb hts inB_11 hown hE.1 hP 0 rfl rfl 42 (by decide) (hts _ k_1362) (fun _ h9 => h9) rfl dX11_readCoat_15 ?_
  refine tI (y := (v 18)) hq18_v1 ?_
  have b18_v : 0 ≤ (v 18).toInt ∧ (v 18).toInt ≤ 6 := YIb.b hIv.1 18 (by decide)
  refine lv_aload_n hx hb dX11_readCoat_18 rfl (lv_at hl 0 rfl) ?_
  refine lv_ldc2 (v := 1952541804) hx hb hown (hts _ k_1621) dX11_readCoat_19 ?_
  refine lv_bipush (v := 99) hx hb dX11_readCoat_22 (by decide) ?_
  refine cbVi (n := 2) (rest := [.int (v 18), .ref (r 30)]) hx hb hml hown hts hE hP hD hS hA (sY_X11_told_1 l dC dI cy y0 r 1952541804 99 v1 f2 w3 g4 hIv1 hCf2 hRf2 ) k_1645 k_1647 k_51 k_114 k_1648 (by decide +kernel) ⟨Nat.le_of_ble_eq_true rfl, Nat.le_of_ble_eq_true rfl⟩ 0 11 rfl rfl (rfl) hl.1 rfl (Nat.le_of_ble_eq_true rfl) dX11_readCoat_24 (fun r10 u H locs hw hP hD hS => ?_)
  obtain ⟨v11, f12, w13, g14⟩ := u
  obtain ⟨hIv11, hCf12, hRf12, hk0_v11, hk4_v11, hk8_v11, hk9_v11, hk10_v11, hk13_v11, hk14_v11, hk15_v11, hk17_v11, hk18_v11, hk24_v11, hk25_v11, hk35_v11, hk36_v11, hk38_v11, hk39_v11, pv15, pv16, kq17, kq18, kq19⟩ := hw
  have hP : va_P (dC, dI) vwCl (YW cy y0 r v11 f12 w13 g14) H := hP
  have hD : va_D A (YW cy y0 r v11 f12 w13 g14) := hD
  have b3_v11 : 0 ≤ (v11 3).toInt ∧ (v11 3).toInt ≤ 1600 := YIb.b hIv11.1 3 (by decide)
  have pv15 : (v1 3).toInt ≤ (v11 3).toInt := pv15
  have pv16 : (v11 5).toInt = (v1 5).toInt ∨ (v1 3).toInt < (v11 3).toInt ∨ ¬ (v11 5).toInt = 59 := pv16
  have hs2_f12 : f12 2 = (f 2) := kq17.trans hs2_f2
  have hs3_f12 : f12 3 = (f 3) := kq18.trans hs3_f2
  have hs6_f12 : f12 6 = (f 6) := kq19.trans hs6_f2
  have hUv11 : (v11 35).toInt + (v11 36).toInt ≤ 40 := hIv11.2
  have hq0_v11 : v11 0 = (v 0) := hk0_v11.trans hq0_v1
  have zq0_v11 := congrArg Int32.toInt hq0_v11
  have hq4_v11 : v11 4 = (v 4) := hk4_v11.trans hq4_v1
  have zq4_v11 := congrArg Int32.toInt hq4_v11
  have hq8_v11 : v11 8 = (v 8) := hk8_v11.trans hq8_v1
  have zq8_v11 := congrArg Int32.toInt hq8_v11
  have hq9_v11 : v11 9 = (v 9) := hk9_v11.trans hq9_v1
  have zq9_v11 := congrArg Int32.toInt hq9_v11
  have hq10_v11 : v11 10 = (v 10) := hk10_v11.trans hq10_v1
  have zq10_v11 := congrArg Int32.toInt hq10_v11
  have hq13_v11 : v11 13 = (v 13) := hk13_v11.trans hq13_v1
  have zq13_v11 := congrArg Int32.toInt hq13_v11
  have hq14_v11 : v11 14 = (v 14) := hk14_v11.trans hq14_v1
  have zq14_v11 := congrArg Int32.toInt hq14_v11
  have hq15_v11 : v11 15 = (v 15) := hk15_v11.trans hq15_v1
  have zq15_v11 := congrArg Int32.toInt hq15_v11
  have hq17_v11 : v11 17 = (v 17) := hk17_v11.trans hq17_v1
  have zq17_v11 := congrArg Int32.toInt hq17_v11
  have hq18_v11 : v11 18 = (v 18) := hk18_v11.trans hq18_v1
  have zq18_v11 := congrArg Int32.toInt hq18_v11
  have hq24_v11 : v11 24 = (v 24) := hk24_v11.trans hq24_v1
  have hq25_v11 : v11 25 = (v 25) := hk25_v11.trans hq25_v1
  have hq35_v11 : v11 35 = (v 35) := hk35_v11.trans hq35_v1
  have zq35_v11 := congrArg Int32.toInt hq35_v11
  have hq36_v11 : v11 36 = (v 36) := hk36_v11.trans hq36_v1
  have zq36_v11 := congrArg Int32.toInt hq36_v11
  have hq38_v11 : v11 38 = (v 38) := hk38_v11.trans hq38_v1
  have hq39_v11 : v11 39 = (v 39) := hk39_v11.trans hq39_v1
  refine stI hx hb hE hP hD hS 13 rfl (vp_in_iff.mpr ⟨by omega, by omega⟩) rfl dX11_readCoat_27 (fun H locs hP hD hS => ?_)
  obtain ⟨f20, ef20, hP, hD⟩ : ∃ fz9, fz9 = upd2 f12 12 (upd (f12 12) (v 18).toNatClampNeg r10) ∧ va_P (dC, dI) vwCl (YW cy y0 r v11 fz9 w13 g14) H ∧ va_D A (YW cy y0 r v11 fz9 w13 g14) := ⟨_, rfl, hP, hD⟩
  have hCf20 : YC f20 := by rw [ef20]; exact hCf12
  have hRf20 : progOK (f20 4) (f20 5) (v11 9).toInt.toNat := by rw [ef20]; exact hRf12
  have hs2_f20 : f20 2 = (f 2) := by rw [ef20]; exact hs2_f12
  have hs3_f20 : f20 3 = (f 3) := by rw [ef20]; exact hs3_f12
  have hs6_f20 : f20 6 = (f 6) := by rw [ef20]; exact hs6_f12
  refine lv_aload_n hx hb dX11_readCoat_28 rfl (lv_at hl 0 rfl) ?_
  refine va_get (D := (dC, dI)) (ci := 11) (v := .ref (r 31)) (C := RX11) (T := TX11) (N := 79) hx hb hts inB_11 hown hE.1 hP 0 rfl rfl 31 (by decide) (hts _ k_1351) (fun _ h9 => h9) rfl dX11_readCoat_29 ?_
  refine lv_aload_n hx hb dX11_readCoat_32 rfl (lv_at hl 0 rfl) ?_
  refine va_get (D := (dC, dI)) (ci := 11) (v := .int (v11 18)) (C := RX11) (T := TX11) (N := 79) hx hb hts inB_11 hown hE.1 hP 0 rfl rfl 42 (by decide) (hts _ k_1362) (fun _ h9 => h9) rfl dX11_readCoat_33 ?_
  refine tI (y := (v 18)) hq18_v11 ?_
  have b18_v : 0 ≤ (v 18).toInt ∧ (v 18).toInt ≤ 6 := YIb.b hIv.1 18 (by decide)
  refine lv_aload_n hx hb dX11_readCoat_36 rfl (lv_at hl 0 rfl) ?_
  refine lv_ldc2 (v := 2003395685) hx hb hown (hts _ k_1622) dX11_readCoat_37 ?_
  refine lv_bipush (v := 99) hx hb dX11_readCoat_40 (by decide) ?_
  refine cbVi (n := 2) (rest := [.int (v 18), .ref (r 31)]) hx hb hml hown hts hE hP hD hS hA (sY_X11_told_1 l dC dI cy y0 r 2003395685 99 v11 f20 w13 g14 hIv11 hCf20 hRf20 ) k_1645 k_1647 k_51 k_114 k_1648 (by decide +kernel) ⟨Nat.le_of_ble_eq_true rfl, Nat.le_of_ble_eq_true rfl⟩ 0 11 rfl rfl (rfl) hl.1 rfl (Nat.le_of_ble_eq_true rfl) dX11_readCoat_42 (fun r21 u H locs hw hP hD hS => ?_)
  obtain ⟨v22, f23, w24, g25⟩ := u
  obtain ⟨hIv22, hCf23, hRf23, hk0_v22, hk4_v22, hk8_v22, hk9_v22, hk10_v22, hk13_v22, hk14_v22, hk15_v22, hk17_v22, hk18_v22, hk24_v22, hk25_v22, hk35_v22, hk36_v22, hk38_v22, hk39_v22, pv26, pv27, kq28, kq29, kq30⟩ := hw
  have hP : va_P (dC, dI) vwCl (YW cy y0 r v22 f23 w24 g25) H := hP
  have hD : va_D A (YW cy y0 r v22 f23 w24 g25) := hD
  have b3_v22 : 0 ≤ (v22 3).toInt ∧ (v22 3).toInt ≤ 1600 := YIb.b hIv22.1 3 (by decide)
  have pv26 : (v11 3).toInt ≤ (v22 3).toInt := pv26
  have pv27 : (v22 5).toInt = (v11 5).toInt ∨ (v11 3).toInt < (v22 3).toInt ∨ ¬ (v22 5).toInt = 59 := pv27
  have hs2_f23 : f23 2 = (f 2) := kq28.trans hs2_f20
  have hs3_f23 : f23 3 = (f 3) := kq29.trans hs3_f20
  have hs6_f23 : f23 6 = (f 6) := kq30.trans hs6_f20
  have hUv22 : (v22 35).toInt + (v22 36).toInt ≤ 40 := hIv22.2
  have hq0_v22 : v22 0 = (v 0) := hk0_v22.trans hq0_v11
  have zq0_v22 := congrArg Int32.toInt hq0_v22
  have hq4_v22 : v22 4 = (v 4) := hk4_v22.trans hq4_v11
  have zq4_v22 := congrArg Int32.toInt hq4_v22
  have hq8_v22 : v22 8 = (v 8) := hk8_v22.trans hq8_v11
  have zq8_v22 := congrArg Int32.toInt hq8_v22
  have hq9_v22 : v22 9 = (v 9) := hk9_v22.trans hq9_v11
  have zq9_v22 := congrArg Int32.toInt hq9_v22
  have hq10_v22 : v22 10 = (v 10) := hk10_v22.trans hq10_v11
  have zq10_v22 := congrArg Int32.toInt hq10_v22
  have hq13_v22 : v22 13 = (v 13) := hk13_v22.trans hq13_v11
  have zq13_v22 := congrArg Int32.toInt hq13_v22
  have hq14_v22 : v22 14 = (v 14) := hk14_v22.trans hq14_v11
  have zq14_v22 := congrArg Int32.toInt hq14_v22
  have hq15_v22 : v22 15 = (v 15) := hk15_v22.trans hq15_v11
  have zq15_v22 := congrArg Int32.toInt hq15_v22
  have hq17_v22 : v22 17 = (v 17) := hk17_v22.trans hq17_v11
  have zq17_v22 := congrArg Int32.toInt hq17_v22
  have hq18_v22 : v22 18 = (v 18) := hk18_v22.trans hq18_v11
  have zq18_v22 := congrArg Int32.toInt hq18_v22
  have hq24_v22 : v22 24 = (v 24) := hk24_v22.trans hq24_v11
  have hq25_v22 : v22 25 = (v 25) := hk25_v22.trans hq25_v11
  have hq35_v22 : v22 35 = (v 35) := hk35_v22.trans hq35_v11
  have zq35_v22 := congrArg Int32.toInt hq35_v22
  have hq36_v22 : v22 36 = (v 36) := hk36_v22.trans hq36_v11
  have zq36_v22 := congrArg Int32.toInt hq36_v22
  have hq38_v22 : v22 38 = (v 38) := hk38_v22.trans hq38_v11
  have hq39_v22 : v22 39 = (v 39) := hk39_v22.trans hq39_v11
  refine stI hx hb hE hP hD hS 14 rfl (vp_in_iff.mpr ⟨by omega, by omega⟩) rfl dX11_readCoat_45 (fun H locs hP hD hS => ?_)
  obtain ⟨f31, ef31, hP, hD⟩ : ∃ fz9, fz9 = upd2 f23 13 (upd (f23 13) (v 18).toNatClampNeg r21) ∧ va_P (dC, dI) vwCl (YW cy y0 r v22 fz9 w24 g25) H ∧ va_D A (YW cy y0 r v22 fz9 w24 g25) := ⟨_, rfl, hP, hD⟩
  have hCf31 : YC f31 := by rw [ef31]; exact hCf23
  have hRf31 : progOK (f31 4) (f31 5) (v22 9).toInt.toNat := by rw [ef31]; exact hRf23
  have hs2_f31 : f31 2 = (f 2) := by rw [ef31]; exact hs2_f23
  have hs3_f31 : f31 3 = (f 3) := by rw [ef31]; exact hs3_f23
  have hs6_f31 : f31 6 = (f 6) := by rw [ef31]; exact hs6_f23
  refine lv_aload_n hx hb dX11_readCoat_46 rfl (lv_at hl 0 rfl) ?_
  refine va_get (D := (dC, dI)) (ci := 11) (v := .ref (r 32)) (C := RX11) (T := TX11) (N := 79) hx hb hts inB_11 hown hE.1 hP 0 rfl rfl 32 (by decide) (hts _ k_1352) (fun _ h9 => h9) rfl dX11_readCoat_47 ?_
  refine lv_aload_n hx hb dX11_readCoat_50 rfl (lv_at hl 0 rfl) ?_
  refine va_get (D := (dC, dI)) (ci := 11) (v := .int (v22 18)) (C := RX11) (T := TX11) (N := 79) hx hb hts inB_11 hown hE.1 hP 0 rfl rfl 42 (by decide) (hts _ k_1362) (fun _ h9 => h9) rfl dX11_readCoat_51 ?_
  refine tI (y := (v 18)) hq18_v22 ?_
  have b18_v : 0 ≤ (v 18).toInt ∧ (v 18).toInt ≤ 6 := YIb.b hIv.1 18 (by decide)
  refine lv_aload_n hx hb dX11_readCoat_54 rfl (lv_at hl 0 rfl) ?_
  refine lv_ldc2 (v := 1936023917) hx hb hown (hts _ k_1625) dX11_readCoat_55 ?_
  refine lv_bipush (v := 20) hx hb dX11_readCoat_58 (by decide) ?_
  refine cbVi (n := 2) (rest := [.int (v 18), .ref (r 32)]) hx hb hml hown hts hE hP hD hS hA (sY_X11_option_1 l dC dI cy y0 r 1936023917 20 v22 f31 w24 g25 hIv22 hCf31 hRf31 ) k_1657 k_1659 k_54 k_114 k_1660 (by decide +kernel) ⟨Nat.le_of_ble_eq_true rfl, Nat.le_of_ble_eq_true rfl⟩ 0 11 rfl rfl (rfl) hl.1 rfl (Nat.le_of_ble_eq_true rfl) dX11_readCoat_60 (fun r32 u H locs hw hP hD hS => ?_)
  obtain ⟨v33, f34, w35, g36⟩ := u
  obtain ⟨hIv33, hCf34, hRf34, hk0_v33, hk4_v33, hk8_v33, hk9_v33, hk10_v33, hk13_v33, hk14_v33, hk15_v33, hk17_v33, hk18_v33, hk24_v33, hk25_v33, hk35_v33, hk36_v33, hk38_v33, hk39_v33, pv37, pv38, kq39, kq40, kq41⟩ := hw
  have hP : va_P (dC, dI) vwCl (YW cy y0 r v33 f34 w35 g36) H := hP
  have hD : va_D A (YW cy y0 r v33 f34 w35 g36) := hD
  have b3_v33 : 0 ≤ (v33 3).toInt ∧ (v33 3).toInt ≤ 1600 := YIb.b hIv33.1 3 (by decide)
  have pv37 : (v22 3).toInt ≤ (v33 3).toInt := pv37
  have pv38 : (v33 5).toInt = (v22 5).toInt ∨ (v22 3).toInt < (v33 3).toInt ∨ ¬ (v33 5).toInt = 59 := pv38
  have hs2_f34 : f34 2 = (f 2) := kq39.trans hs2_f31
  have hs3_f34 : f34 3 = (f 3) := kq40.trans hs3_f31
  have hs6_f34 : f34 6 = (f 6) := kq41.trans hs6_f31
  have hUv33 : (v33 35).toInt + (v33 36).toInt ≤ 40 := hIv33.2
  have hq0_v33 : v33 0 = (v 0) := hk0_v33.trans hq0_v22
  have zq0_v33 := congrArg Int32.toInt hq0_v33
  have hq4_v33 : v33 4 = (v 4) := hk4_v33.trans hq4_v22
  have zq4_v33 := congrArg Int32.toInt hq4_v33
  have hq8_v33 : v33 8 = (v 8) := hk8_v33.trans hq8_v22
  have zq8_v33 := congrArg Int32.toInt hq8_v33
  have hq9_v33 : v33 9 = (v 9) := hk9_v33.trans hq9_v22
  have zq9_v33 := congrArg Int32.toInt hq9_v33
  have hq10_v33 : v33 10 = (v 10) := hk10_v33.trans hq10_v22
  have zq10_v33 := congrArg Int32.toInt hq10_v33
  have hq13_v33 : v33 13 = (v 13) := hk13_v33.trans hq13_v22
  have zq13_v33 := congrArg Int32.toInt hq13_v33
  have hq14_v33 : v33 14 = (v 14) := hk14_v33.trans hq14_v22
  have zq14_v33 := congrArg Int32.toInt hq14_v33
  have hq15_v33 : v33 15 = (v 15) := hk15_v33.trans hq15_v22
  have zq15_v33 := congrArg Int32.toInt hq15_v33
  have hq17_v33 : v33 17 = (v 17) := hk17_v33.trans hq17_v22
  have zq17_v33 := congrArg Int32.toInt hq17_v33
  have hq18_v33 : v33 18 = (v 18) := hk18_v33.trans hq18_v22
  have zq18_v33 := congrArg Int32.toInt hq18_v33
  have hq24_v33 : v33 24 = (v 24) := hk24_v33.trans hq24_v22
  have hq25_v33 : v33 25 = (v 25) := hk25_v33.trans hq25_v22
  have hq35_v33 : v33 35 = (v 35) := hk35_v33.trans hq35_v22
  have zq35_v33 := congrArg Int32.toInt hq35_v33
  have hq36_v33 : v33 36 = (v 36) := hk36_v33.trans hq36_v22
  have zq36_v33 := congrArg Int32.toInt hq36_v33
  have hq38_v33 : v33 38 = (v 38) := hk38_v33.trans hq38_v22
  have hq39_v33 : v33 39 = (v 39) := hk39_v33.trans hq39_v22
  refine stI hx hb hE hP hD hS 15 rfl (vp_in_iff.mpr ⟨by omega, by omega⟩) rfl dX11_readCoat_63 (fun H locs hP hD hS => ?_)
  obtain ⟨f42, ef42, hP, hD⟩ : ∃ fz9, fz9 = upd2 f34 14 (upd (f34 14) (v 18).toNatClampNeg r32) ∧ va_P (dC, dI) vwCl (YW cy y0 r v33 fz9 w35 g36) H ∧ va_D A (YW cy y0 r v33 fz9 w35 g36) := ⟨_, rfl, hP, hD⟩
  have hCf42 : YC f42 := by rw [ef42]; exact hCf34
  have hRf42 : progOK (f42 4) (f42 5) (v33 9).toInt.toNat := by rw [ef42]; exact hRf34
  have hs2_f42 : f42 2 = (f 2) := by rw [ef42]; exact hs2_f34
  have hs3_f42 : f42 3 = (f 3) := by rw [ef42]; exact hs3_f34
  have hs6_f42 : f42 6 = (f 6) := by rw [ef42]; exact hs6_f34
  refine lv_aload_n hx hb dX11_readCoat_64 rfl (lv_at hl 0 rfl) ?_
  refine va_get (D := (dC, dI)) (ci := 11) (v := .ref (r 33)) (C := RX11) (T := TX11) (N := 79) hx hb hts inB_11 hown hE.1 hP 0 rfl rfl 33 (by decide) (hts _ k_1353) (fun _ h9 => h9) rfl dX11_readCoat_65 ?_
  refine lv_aload_n hx hb dX11_readCoat_68 rfl (lv_at hl 0 rfl) ?_
  refine va_get (D := (dC, dI)) (ci := 11) (v := .int (v33 18)) (C := RX11) (T := TX11) (N := 79) hx hb hts inB_11 hown hE.1 hP 0 rfl rfl 42 (by decide) (hts _ k_1362) (fun _ h9 => h9) rfl dX11_readCoat_69 ?_
  refine tI (y := (v 18)) hq18_v33 ?_
  have b18_v : 0 ≤ (v 18).toInt ∧ (v 18).toInt ≤ 6 := YIb.b hIv.1 18 (by decide)
  refine lv_aload_n hx hb dX11_readCoat_72 rfl (lv_at hl 0 rfl) ?_
  refine lv_ldc2 (v := 2003792494) hx hb hown (hts _ k_1626) dX11_readCoat_73 ?_
  refine lv_bipush (v := 99) hx hb dX11_readCoat_76 (by decide) ?_
  refine cbVi (n := 2) (rest := [.int (v 18), .ref (r 33)]) hx hb hml hown hts hE hP hD hS hA (sY_X11_option_1 l dC dI cy y0 r 2003792494 99 v33 f42 w35 g36 hIv33 hCf42 hRf42 ) k_1657 k_1659 k_54 k_114 k_1660 (by decide +kernel) ⟨Nat.le_of_ble_eq_true rfl, Nat.le_of_ble_eq_true rfl⟩ 0 11 rfl rfl (rfl) hl.1 rfl (Nat.le_of_ble_eq_true rfl) dX11_readCoat_78 (fun r43 u H locs hw hP hD hS => ?_)
  obtain ⟨v44, f45, w46, g47⟩ := u
  obtain ⟨hIv44, hCf45, hRf45, hk0_v44, hk4_v44, hk8_v44, hk9_v44, hk10_v44, hk13_v44, hk14_v44, hk15_v44, hk17_v44, hk18_v44, hk24_v44, hk25_v44, hk35_v44, hk36_v44, hk38_v44, hk39_v44, pv48, pv49, kq50, kq51, kq52⟩ := hw
  have hP : va_P (dC, dI) vwCl (YW cy y0 r v44 f45 w46 g47) H := hP
  have hD : va_D A (YW cy y0 r v44 f45 w46 g47) := hD
  have b3_v44 : 0 ≤ (v44 3).toInt ∧ (v44 3).toInt ≤ 1600 := YIb.b hIv44.1 3 (by decide)
  have pv48 : (v33 3).toInt ≤ (v44 3).toInt := pv48
  have pv49 : (v44 5).toInt = (v33 5).toInt ∨ (v33 3).toInt < (v44 3).toInt ∨ ¬ (v44 5).toInt = 59 := pv49
  have hs2_f45 : f45 2 = (f 2) := kq50.trans hs2_f42
  have hs3_f45 : f45 3 = (f 3) := kq51.trans hs3_f42
  have hs6_f45 : f45 6 = (f 6) := kq52.trans hs6_f42
  have hUv44 : (v44 35).toInt + (v44 36).toInt ≤ 40 := hIv44.2
  have hq0_v44 : v44 0 = (v 0) := hk0_v44.trans hq0_v33
  have zq0_v44 := congrArg Int32.toInt hq0_v44
  have hq4_v44 : v44 4 = (v 4) := hk4_v44.trans hq4_v33
  have zq4_v44 := congrArg Int32.toInt hq4_v44
  have hq8_v44 : v44 8 = (v 8) := hk8_v44.trans hq8_v33
  have zq8_v44 := congrArg Int32.toInt hq8_v44
  have hq9_v44 : v44 9 = (v 9) := hk9_v44.trans hq9_v33
  have zq9_v44 := congrArg Int32.toInt hq9_v44
  have hq10_v44 : v44 10 = (v 10) := hk10_v44.trans hq10_v33
  have zq10_v44 := congrArg Int32.toInt hq10_v44
  have hq13_v44 : v44 13 = (v 13) := hk13_v44.trans hq13_v33
  have zq13_v44 := congrArg Int32.toInt hq13_v44
  have hq14_v44 : v44 14 = (v 14) := hk14_v44.trans hq14_v33
  have zq14_v44 := congrArg Int32.toInt hq14_v44
  have hq15_v44 : v44 15 = (v 15) := hk15_v44.trans hq15_v33
  have zq15_v44 := congrArg Int32.toInt hq15_v44
  have hq17_v44 : v44 17 = (v 17) := hk17_v44.trans hq17_v33
  have zq17_v44 := congrArg Int32.toInt hq17_v44
  have hq18_v44 : v44 18 = (v 18) := hk18_v44.trans hq18_v33
  have zq18_v44 := congrArg Int32.toInt hq18_v44
  have hq24_v44 : v44 24 = (v 24) := hk24_v44.trans hq24_v33
  have hq25_v44 : v44 25 = (v 25) := hk25_v44.trans hq25_v33
  have hq35_v44 : v44 35 = (v 35) := hk35_v44.trans hq35_v33
  have zq35_v44 := congrArg Int32.toInt hq35_v44
  have hq36_v44 : v44 36 = (v 36) := hk36_v44.trans hq36_v33
  have zq36_v44 := congrArg Int32.toInt hq36_v44
  have hq38_v44 : v44 38 = (v 38) := hk38_v44.trans hq38_v33
  have hq39_v44 : v44 39 = (v 39) := hk39_v44.trans hq39_v33
  refine stI hx hb hE hP hD hS 16 rfl (vp_in_iff.mpr ⟨by omega, by omega⟩) rfl dX11_readCoat_81 (fun H locs hP hD hS => ?_)
  obtain ⟨f53, ef53, hP, hD⟩ : ∃ fz9, fz9 = upd2 f45 15 (upd (f45 15) (v 18).toNatClampNeg r43) ∧ va_P (dC, dI) vwCl (YW cy y0 r v44 fz9 w46 g47) H ∧ va_D A (YW cy y0 r v44 fz9 w46 g47) := ⟨_, rfl, hP, hD⟩
  have hCf53 : YC f53 := by rw [ef53]; exact hCf45
  have hRf53 : progOK (f53 4) (f53 5) (v44 9).toInt.toNat := by rw [ef53]; exact hRf45
  have hs2_f53 : f53 2 = (f 2) := by rw [ef53]; exact hs2_f45
  have hs3_f53 : f53 3 = (f 3) := by rw [ef53]; exact hs3_f45
  have hs6_f53 : f53 6 = (f 6) := by rw [ef53]; exact hs6_f45
  refine lv_aload_n hx hb dX11_readCoat_82 rfl (lv_at hl 0 rfl) ?_
  refine va_get (D := (dC, dI)) (ci := 11) (v := .int (v44 1)) (C := RX11) (T := TX11) (N := 79) hx hb hts inB_11 hown hE.1 hP 0 rfl rfl 2 (by decide) (hts _ k_1322) (fun _ h9 => h9) rfl dX11_readCoat_83 ?_
  have b1_v44 : 0 ≤ (v44 1).toInt ∧ (v44 1).toInt ≤ 4 := YIb.b hIv44.1 1 (by decide)
  refine lv_if_ne (tgt := 99) hx hb dX11_readCoat_86 (by decide) (fun c54 => ?_) (fun c54 => ?_)
  · skip
    have zc54 : ¬ ((v44 1).toInt = 0) := by rw [fa_eq, show (0 : Int32).toInt = 0 from by decide] at c54; exact c54
    exact ret (v44, f53, w46, g47) _ _ _ _ _ _ ⟨hIv44, hCf53, hRf53, (hk0_v44.trans (hk0_v33.trans (hk0_v22.trans (hk0_v11.trans hk0_v1)))), (hk4_v44.trans (hk4_v33.trans (hk4_v22.trans (hk4_v11.trans hk4_v1)))), (hk8_v44.trans (hk8_v33.trans (hk8_v22.trans (hk8_v11.trans hk8_v1)))), (hk9_v44.trans (hk9_v33.trans (hk9_v22.trans (hk9_v11.trans hk9_v1)))), (hk10_v44.trans (hk10_v33.trans (hk10_v22.trans (hk10_v11.trans hk10_v1)))), (hk13_v44.trans (hk13_v33.trans (hk13_v22.trans (hk13_v11.trans hk13_v1)))), (hk14_v44.trans (hk14_v33.trans (hk14_v22.trans (hk14_v11.trans hk14_v1)))), (hk15_v44.trans (hk15_v33.trans (hk15_v22.trans (hk15_v11.trans hk15_v1)))), (hk17_v44.trans (hk17_v33.trans (hk17_v22.trans (hk17_v11.trans hk17_v1)))), (hk24_v44.trans (hk24_v33.trans (hk24_v22.trans (hk24_v11.trans hk24_v1)))), (hk25_v44.trans (hk25_v33.trans (hk25_v22.trans (hk25_v11.trans hk25_v1)))), (hk35_v44.trans (hk35_v33.trans (hk35_v22.trans (hk35_v11.trans hk35_v1)))), (hk36_v44.trans (hk36_v33.trans (hk36_v22.trans (hk36_v11.trans hk36_v1)))), (hk38_v44.trans (hk38_v33.trans (hk38_v22.trans (hk38_v11.trans hk38_v1)))), (hk39_v44.trans (hk39_v33.trans (hk39_v22.trans (hk39_v11.trans hk39_v1)))), (by show (v 3).toInt ≤ (v44 3).toInt; omega), (by show (v44 5).toInt = (v 5).toInt ∨ (v 3).toInt < (v44 3).toInt ∨ ¬ (v44 5).toInt = 59; omega), hs2_f53, hs3_f53, hs6_f53⟩ hP hD hS dX11_readCoat_99 (Nat.le_refl _) (Nat.le_refl _)
  · skip
    have zc54 : (v44 1).toInt = 0 := by rw [fa_eq, show (0 : Int32).toInt = 0 from by decide] at c54; exact c54
    refine lv_aload_n hx hb dX11_readCoat_89 rfl (lv_at hl 0 rfl) ?_
    refine lv_dup hx hb dX11_readCoat_90 rfl ?_
    refine va_get (D := (dC, dI)) (ci := 11) (v := .int (v44 18)) (C := RX11) (T := TX11) (N := 79) hx hb hts inB_11 hown hE.1 hP 0 rfl rfl 42 (by decide) (hts _ k_1362) (fun _ h9 => h9) rfl dX11_readCoat_91 ?_
    refine tI (y := (v 18)) hq18_v44 ?_
    have b18_v : 0 ≤ (v 18).toInt ∧ (v 18).toInt ≤ 6 := YIb.b hIv.1 18 (by decide)
    refine lv_iconst (v := 1) hx hb dX11_readCoat_94 (by decide) ?_
    refine lv_iadd hx hb dX11_readCoat_95 ?_
    refine lv_topi (fun t55 et55 => ?_)
    have rg56 := fb_rng (v 18)
    have zt55 : t55.toInt = (v 18).toInt + 1 := by rw [et55]; exact add_i rfl (by decide) (by omega) (by omega)
    refine va_put (D := (dC, dI)) (ci := 11) (v := .int t55) (ty := tyX11 42) (C := RX11) (T := TX11) (N := 79) hx hb hts inB_11 tyX11 tyX11_ok nmX11 hown hE.1 hP hD hS 0 rfl rfl 42 (by decide) (hts _ k_1362) (fun _ h9 => h9) rfl (tyX11_ok 42 (by decide)) rfl rfl (Nat.le_of_ble_eq_true rfl) dX11_readCoat_96 (fun H locs hP hD hS => ?_)
    have hP : va_P (dC, dI) vwCl (YW cy y0 r (upd v44 18 t55) f53 w46 g47) H := hP
    have hD : va_D A (YW cy y0 r (upd v44 18 t55) f53 w46 g47) := hD
    exact ret ((upd v44 18 t55), f53, w46, g47) _ _ _ _ _ _ ⟨⟨(YIb.upd (j := 18) (x := t55) hIv44.1 (show (0 : Int) ≤ t55.toInt by omega) (show t55.toInt ≤ (6 : Int) by omega)), hIv44.2⟩, hCf53, hRf53, (hk0_v44.trans (hk0_v33.trans (hk0_v22.trans (hk0_v11.trans hk0_v1)))), (hk4_v44.trans (hk4_v33.trans (hk4_v22.trans (hk4_v11.trans hk4_v1)))), (hk8_v44.trans (hk8_v33.trans (hk8_v22.trans (hk8_v11.trans hk8_v1)))), (hk9_v44.trans (hk9_v33.trans (hk9_v22.trans (hk9_v11.trans hk9_v1)))), (hk10_v44.trans (hk10_v33.trans (hk10_v22.trans (hk10_v11.trans hk10_v1)))), (hk13_v44.trans (hk13_v33.trans (hk13_v22.trans (hk13_v11.trans hk13_v1)))), (hk14_v44.trans (hk14_v33.trans (hk14_v22.trans (hk14_v11.trans hk14_v1)))), (hk15_v44.trans (hk15_v33.trans (hk15_v22.trans (hk15_v11.trans hk15_v1)))), (hk17_v44.trans (hk17_v33.trans (hk17_v22.trans (hk17_v11.trans hk17_v1)))), (hk24_v44.trans (hk24_v33.trans (hk24_v22.trans (hk24_v11.trans hk24_v1)))), (hk25_v44.trans (hk25_v33.trans (hk25_v22.trans (hk25_v11.trans hk25_v1)))), (hk35_v44.trans (hk35_v33.trans (hk35_v22.trans (hk35_v11.trans hk35_v1)))), (hk36_v44.trans (hk36_v33.trans (hk36_v22.trans (hk36_v11.trans hk36_v1)))), (hk38_v44.trans (hk38_v33.trans (hk38_v22.trans (hk38_v11.trans hk38_v1)))), (hk39_v44.trans (hk39_v33.trans (hk39_v22.trans (hk39_v11.trans hk39_v1)))), (by show (v 3).toInt ≤ (v44 3).toInt; omega), (by show (v44 5).toInt = (v 5).toInt ∨ (v 3).toInt < (v44 3).toInt ∨ ¬ (v44 5).toInt = 59; omega), hs2_f53, hs3_f53, hs6_f53⟩ hP hD hS dX11_readCoat_99 (Nat.le_refl _) (Nat.le_refl _)
set_option maxHeartbeats 4000000 in
set_option maxRecDepth 100000 in
theorem sY_X11_readMan_1 (l : Launch) (dC : Nat → ClassId) (dI : Nat → Nat → Nat) (cy : Nat → ClassId) (y0 : Nat) (r : Nat → Nat)  (v : Nat → Int32) (f : Nat → Nat → Int32) (w : Int64) (g : Nat → Int64) (hIv : YI v) (hCf : YC f) (hRf : progOK (f 4) (f 5) (v 9).toInt.toNat)  (hf0 : (v 17).toInt ≤ 5) : ctV l (dC, dI) cy yX11_readMan cX11_readMan 1 6 172 0 0 ((Nat → Int32) × (Nat → Nat → Int32) × (Int64) × (Nat → Int64)) [.ref y0] (YW cy y0 r v f w g) (fun u => YI u.1 ∧ YC u.2.1 ∧ progOK (u.2.1 4) (u.2.1 5) (u.1 9).toInt.toNat ∧ u.1 0 = v 0 ∧ u.1 4 = v 4 ∧ u.1 8 = v 8 ∧ u.1 9 = v 9 ∧ u.1 10 = v 10 ∧ u.1 13 = v 13 ∧ u.1 14 = v 14 ∧ u.1 15 = v 15 ∧ u.1 18 = v 18 ∧ u.1 24 = v 24 ∧ u.1 25 = v 25 ∧ u.1 35 = v 35 ∧ u.1 36 = v 36 ∧ u.1 38 = v 38 ∧ u.1 39 = v 39 ∧ ((v 3).toInt ≤ (u.1 3).toInt) ∧ ((u.1 5).toInt = (v 5).toInt ∨ (v 3).toInt < (u.1 3).toInt ∨ ¬ (u.1 5).toInt = 59) ∧ u.2.1 2 = f 2 ∧ u.2.1 3 = f 3 ∧ u.2.1 6 = f 6) (fun u => YW cy y0 r u.1 u.2.1 u.2.2.1 u.2.2.2) := by
  refine ctV_of (by decide) (Nat.le_of_ble_eq_true rfl) (fun p e s m below meth c A ls Q hx hb hml hts hown hnm hE hP hD hA hl ret => ?_)
  have hUv : (v 35).toInt + (v 36).toInt ≤ 40 := hIv.2
  have b0_v : (0 : Int) ≤ (v 0).toInt ∧ (v 0).toInt ≤ 1600 := YIb.b hIv.1 0 (by decide)
  have b1_v : (0 : Int) ≤ (v 1).toInt ∧ (v 1).toInt ≤ 4 := YIb.b hIv.1 1 (by decide)
  have b8_v : (0 : Int) ≤ (v 8).toInt ∧ (v 8).toInt ≤ 320 := YIb.b hIv.1 8 (by decide)
  have b10_v : (0 : Int) ≤ (v 10).toInt ∧ (v 10).toInt ≤ 160 := YIb.b hIv.1 10 (by decide)
  have b13_v : (0 : Int) ≤ (v 13).toInt ∧ (v 13).toInt ≤ 31 := YIb.b hIv.1 13 (by decide)
  have b14_v : (0 : Int) ≤ (v 14).toInt ∧ (v 14).toInt ≤ 8 := YIb.b hIv.1 14 (by decide)
  have b15_v : (0 : Int) ≤ (v 15).toInt ∧ (v 15).toInt ≤ 1 := YIb.b hIv.1 15 (by decide)
  have b17_v : (0 : Int) ≤ (v 17).toInt ∧ (v 17).toInt ≤ 6 := YIb.b hIv.1 17 (by decide)
  have b18_v : (0 : Int) ≤ (v 18).toInt ∧ (v 18).toInt ≤ 6 := YIb.b hIv.1 18 (by decide)
  have hown : s.vm.findClass RX11 = some m.cls := hown
  have hS : va_S A s.heap s.heap [] := va_S.rf
  have hl : lv_has ls 1 [(0, .ref y0)] := hl
  refine lv_aload_n hx hb dX11_readMan_0 rfl (lv_at hl 0 rfl) ?_
  refine lv_iconst (v := 0) hx hb dX11_readMan_1 (by decide) ?_
  refine lv_aload_n hx hb dX11_readMan_2 rfl (lv_at hl 0 rfl) ?_
  refine va_get (D := (dC, dI)) (ci := 11) (v := .int (v 17)) (C := RX11) (T := TX11) (N := 79) hx hb hts inB_11 hown hE.1 hP 0 rfl rfl 41 (by decide) (hts _ k_1361) (fun _ h9 => h9) rfl dX11_readMan_3 ?_
  have b17_v : 0 ≤ (v 17).toInt ∧ (v 17).toInt ≤ 6 := YIb.b hIv.1 17 (by decide)
  refine cbVv (n := 2) (rest := []) hx hb hml hown hts hE hP hD hS hA (sY_X11_newName_1 l dC dI cy y0 r 0 (v 17) v f w g hIv hCf hRf ⟨by decide, by decide⟩ ⟨show (0 : Int) ≤ (v 17).toInt by omega, show (v 17).toInt ≤ (5 : Int) by omega⟩) k_1609 k_1611 k_47 k_114 k_1612 (by decide +kernel) ⟨Nat.le_of_ble_eq_true rfl, Nat.le_of_ble_eq_true rfl⟩ 0 11 rfl rfl (rfl) hl.1 rfl (Nat.le_of_ble_eq_true rfl) dX11_readMan_6 (fun u H locs hw hP hD hS => ?_)
  obtain ⟨v1, f2, w3, g4⟩ := u
  obtain ⟨hIv1, hCf2, hRf2, hk0_v1, hk4_v1, hk8_v1, hk9_v1, hk10_v1, hk13_v1, hk14_v1, hk15_v1, hk17_v1, hk18_v1, hk24_v1, hk25_v1, hk35_v1, hk36_v1, hk38_v1, hk39_v1, pv5, pv6, kq7, kq8, kq9⟩ := hw
  have hP : va_P (dC, dI) vwCl (YW cy y0 r v1 f2 w3 g4) H := hP
  have hD : va_D A (YW cy y0 r v1 f2 w3 g4) := hD
  have b3_v1 : 0 ≤ (v1 3).toInt ∧ (v1 3).toInt ≤ 1600 := YIb.b hIv1.1 3 (by decide)
  have pv5 : (v 3).toInt ≤ (v1 3).toInt := pv5
  have pv6 : (v1 5).toInt = (v 5).toInt ∨ (v 3).toInt < (v1 3).toInt ∨ ¬ (v1 5).toInt = 59 := pv6
  have hs2_f2 : f2 2 = (f 2) := kq7
  have hs3_f2 : f2 3 = (f 3) := kq8
  have hs6_f2 : f2 6 = (f 6) := kq9
  have hUv1 : (v1 35).toInt + (v1 36).toInt ≤ 40 := hIv1.2
  have hq0_v1 : v1 0 = (v 0) := hk0_v1
  have zq0_v1 := congrArg Int32.toInt hq0_v1
  have hq4_v1 : v1 4 = (v 4) := hk4_v1
  have zq4_v1 := congrArg Int32.toInt hq4_v1
  have hq8_v1 : v1 8 = (v 8) := hk8_v1
  have zq8_v1 := congrArg Int32.toInt hq8_v1
  have hq9_v1 : v1 9 = (v 9) := hk9_v1
  have zq9_v1 := congrArg Int32.toInt hq9_v1
  have hq10_v1 : v1 10 = (v 10) := hk10_v1
  have zq10_v1 := congrArg Int32.toInt hq10_v1
  have hq13_v1 : v1 13 = (v 13) := hk13_v1
  have zq13_v1 := congrArg Int32.toInt hq13_v1
  have hq14_v1 : v1 14 = (v 14) := hk14_v1
  have zq14_v1 := congrArg Int32.toInt hq14_v1
  have hq15_v1 : v1 15 = (v 15) := hk15_v1
  have zq15_v1 := congrArg Int32.toInt hq15_v1
  have hq17_v1 : v1 17 = (v 17) := hk17_v1
  have zq17_v1 := congrArg Int32.toInt hq17_v1
  have hq18_v1 : v1 18 = (v 18) := hk18_v1
  have zq18_v1 := congrArg Int32.toInt hq18_v1
  have hq24_v1 : v1 24 = (v 24) := hk24_v1
  have hq25_v1 : v1 25 = (v 25) := hk25_v1
  have hq35_v1 : v1 35 = (v 35) := hk35_v1
  have zq35_v1 := congrArg Int32.toInt hq35_v1
  have hq36_v1 : v1 36 = (v 36) := hk36_v1
  have zq36_v1 := congrArg Int32.toInt hq36_v1
  have hq38_v1 : v1 38 = (v 38) := hk38_v1
  have hq39_v1 : v1 39 = (v 39) := hk39_v1
  refine lv_aload_n hx hb dX11_readMan_9 rfl (lv_at hl 0 rfl) ?_
  refine va_get (D := (dC, dI)) (ci := 11) (v := .ref (r 27)) (C := RX11) (T := TX11) (N := 79) hx hb hts inB_11 hown hE.1 hP 0 rfl rfl 27 (by decide) (hts _ k_1347) (fun _ h9 => h9) rfl dX11_readMan_10 ?_
  refine lv_aload_n hx hb dX11_readMan_13 rfl (lv_at hl 0 rfl) ?_
  refine va_get (D := (dC, dI)) (ci := 11) (v := .int (v1 17)) (C := RX11) (T := TX11) (N := 79) hx hb hts inB_11 hown hE.1 hP 0 rfl rfl 41 (by decide) (hts _ k_1361) (fun _ h9 => h9) rfl dX11_readMan_14 ?_
  refine tI (y := (v 17)) hq17_v1 ?_
  have b17_v : 0 ≤ (v 17).toInt ∧ (v 17).toInt ≤ 6 := YIb.b hIv.1 17 (by decide)
  refine lv_aload_n hx hb dX11_readMan_17 rfl (lv_at hl 0 rfl) ?_
  refine lv_ldc2 (v := 1952541804) hx hb hown (hts _ k_1621) dX11_readMan_18 ?_
  refine lv_bipush (v := 99) hx hb dX11_readMan_21 (by decide) ?_
  refine cbVi (n := 2) (rest := [.int (v 17), .ref (r 27)]) hx hb hml hown hts hE hP hD hS hA (sY_X11_told_1 l dC dI cy y0 r 1952541804 99 v1 f2 w3 g4 hIv1 hCf2 hRf2 ) k_1645 k_1647 k_51 k_114 k_1648 (by decide +kernel) ⟨Nat.le_of_ble_eq_true rfl, Nat.le_of_ble_eq_true rfl⟩ 0 11 rfl rfl (rfl) hl.1 rfl (Nat.le_of_ble_eq_true rfl) dX11_readMan_23 (fun r10 u H locs hw hP hD hS => ?_)
  obtain ⟨v11, f12, w13, g14⟩ := u
  obtain ⟨hIv11, hCf12, hRf12, hk0_v11, hk4_v11, hk8_v11, hk9_v11, hk10_v11, hk13_v11, hk14_v11, hk15_v11, hk17_v11, hk18_v11, hk24_v11, hk25_v11, hk35_v11, hk36_v11, hk38_v11, hk39_v11, pv15, pv16, kq17, kq18, kq19⟩ := hw
  have hP : va_P (dC, dI) vwCl (YW cy y0 r v11 f12 w13 g14) H := hP
  have hD : va_D A (YW cy y0 r v11 f12 w13 g14) := hD
  have b3_v11 : 0 ≤ (v11 3).toInt ∧ (v11 3).toInt ≤ 1600 := YIb.b hIv11.1 3 (by decide)
  have pv15 : (v1 3).toInt ≤ (v11 3).toInt := pv15
  have pv16 : (v11 5).toInt = (v1 5).toInt ∨ (v1 3).toInt < (v11 3).toInt ∨ ¬ (v11 5).toInt = 59 := pv16
  have hs2_f12 : f12 2 = (f 2) := kq17.trans hs2_f2
  have hs3_f12 : f12 3 = (f 3) := kq18.trans hs3_f2
  have hs6_f12 : f12 6 = (f 6) := kq19.trans hs6_f2
  have hUv11 : (v11 35).toInt + (v11 36).toInt ≤ 40 := hIv11.2
  have hq0_v11 : v11 0 = (v 0) := hk0_v11.trans hq0_v1
  have zq0_v11 := congrArg Int32.toInt hq0_v11
  have hq4_v11 : v11 4 = (v 4) := hk4_v11.trans hq4_v1
  have zq4_v11 := congrArg Int32.toInt hq4_v11
  have hq8_v11 : v11 8 = (v 8) := hk8_v11.trans hq8_v1
  have zq8_v11 := congrArg Int32.toInt hq8_v11
  have hq9_v11 : v11 9 = (v 9) := hk9_v11.trans hq9_v1
  have zq9_v11 := congrArg Int32.toInt hq9_v11
  have hq10_v11 : v11 10 = (v 10) := hk10_v11.trans hq10_v1
  have zq10_v11 := congrArg Int32.toInt hq10_v11
  have hq13_v11 : v11 13 = (v 13) := hk13_v11.trans hq13_v1
  have zq13_v11 := congrArg Int32.toInt hq13_v11
  have hq14_v11 : v11 14 = (v 14) := hk14_v11.trans hq14_v1
  have zq14_v11 := congrArg Int32.toInt hq14_v11
  have hq15_v11 : v11 15 = (v 15) := hk15_v11.trans hq15_v1
  have zq15_v11 := congrArg Int32.toInt hq15_v11
  have hq17_v11 : v11 17 = (v 17) := hk17_v11.trans hq17_v1
  have zq17_v11 := congrArg Int32.toInt hq17_v11
  have hq18_v11 : v11 18 = (v 18) := hk18_v11.trans hq18_v1
  have zq18_v11 := congrArg Int32.toInt hq18_v11
  have hq24_v11 : v11 24 = (v 24) := hk24_v11.trans hq24_v1
  have hq25_v11 : v11 25 = (v 25) := hk25_v11.trans hq25_v1
  have hq35_v11 : v11 35 = (v 35) := hk35_v11.trans hq35_v1
  have zq35_v11 := congrArg Int32.toInt hq35_v11
  have hq36_v11 : v11 36 = (v 36) := hk36_v11.trans hq36_v1
  have zq36_v11 := congrArg Int32.toInt hq36_v11
  have hq38_v11 : v11 38 = (v 38) := hk38_v11.trans hq38_v1
  have hq39_v11 : v11 39 = (v 39) := hk39_v11.trans hq39_v1
  refine stI hx hb hE hP hD hS 10 rfl (vp_in_iff.mpr ⟨by omega, by omega⟩) rfl dX11_readMan_26 (fun H locs hP hD hS => ?_)
  obtain ⟨f20, ef20, hP, hD⟩ : ∃ fz9, fz9 = upd2 f12 9 (upd (f12 9) (v 17).toNatClampNeg r10) ∧ va_P (dC, dI) vwCl (YW cy y0 r v11 fz9 w13 g14) H ∧ va_D A (YW cy y0 r v11 fz9 w13 g14) := ⟨_, rfl, hP, hD⟩
  have hCf20 : YC f20 := by rw [ef20]; exact hCf12
  have hRf20 : progOK (f20 4) (f20 5) (v11 9).toInt.toNat := by rw [ef20]; exact hRf12
  have hs2_f20 : f20 2 = (f 2) := by rw [ef20]; exact hs2_f12
  have hs3_f20 : f20 3 = (f 3) := by rw [ef20]; exact hs3_f12
  have hs6_f20 : f20 6 = (f 6) := by rw [ef20]; exact hs6_f12
  refine lv_aload_n hx hb dX11_readMan_27 rfl (lv_at hl 0 rfl) ?_
  refine va_get (D := (dC, dI)) (ci := 11) (v := .ref (r 28)) (C := RX11) (T := TX11) (N := 79) hx hb hts inB_11 hown hE.1 hP 0 rfl rfl 28 (by decide) (hts _ k_1348) (fun _ h9 => h9) rfl dX11_readMan_28 ?_
  refine lv_aload_n hx hb dX11_readMan_31 rfl (lv_at hl 0 rfl) ?_
  refine va_get (D := (dC, dI)) (ci := 11) (v := .int (v11 17)) (C := RX11) (T := TX11) (N := 79) hx hb hts inB_11 hown hE.1 hP 0 rfl rfl 41 (by decide) (hts _ k_1361) (fun _ h9 => h9) rfl dX11_readMan_32 ?_
  refine tI (y := (v 17)) hq17_v11 ?_
  have b17_v : 0 ≤ (v 17).toInt ∧ (v 17).toInt ≤ 6 := YIb.b hIv.1 17 (by decide)
  refine lv_aload_n hx hb dX11_readMan_35 rfl (lv_at hl 0 rfl) ?_
  refine lv_ldc2 (v := 2003395685) hx hb hown (hts _ k_1622) dX11_readMan_36 ?_
  refine lv_bipush (v := 99) hx hb dX11_readMan_39 (by decide) ?_
  refine cbVi (n := 2) (rest := [.int (v 17), .ref (r 28)]) hx hb hml hown hts hE hP hD hS hA (sY_X11_told_1 l dC dI cy y0 r 2003395685 99 v11 f20 w13 g14 hIv11 hCf20 hRf20 ) k_1645 k_1647 k_51 k_114 k_1648 (by decide +kernel) ⟨Nat.le_of_ble_eq_true rfl, Nat.le_of_ble_eq_true rfl⟩ 0 11 rfl rfl (rfl) hl.1 rfl (Nat.le_of_ble_eq_true rfl) dX11_readMan_41 (fun r21 u H locs hw hP hD hS => ?_)
  obtain ⟨v22, f23, w24, g25⟩ := u
  obtain ⟨hIv22, hCf23, hRf23, hk0_v22, hk4_v22, hk8_v22, hk9_v22, hk10_v22, hk13_v22, hk14_v22, hk15_v22, hk17_v22, hk18_v22, hk24_v22, hk25_v22, hk35_v22, hk36_v22, hk38_v22, hk39_v22, pv26, pv27, kq28, kq29, kq30⟩ := hw
  have hP : va_P (dC, dI) vwCl (YW cy y0 r v22 f23 w24 g25) H := hP
  have hD : va_D A (YW cy y0 r v22 f23 w24 g25) := hD
  have b3_v22 : 0 ≤ (v22 3).toInt ∧ (v22 3).toInt ≤ 1600 := YIb.b hIv22.1 3 (by decide)
  have pv26 : (v11 3).toInt ≤ (v22 3).toInt := pv26
  have pv27 : (v22 5).toInt = (v11 5).toInt ∨ (v11 3).toInt < (v22 3).toInt ∨ ¬ (v22 5).toInt = 59 := pv27
  have hs2_f23 : f23 2 = (f 2) := kq28.trans hs2_f20
  have hs3_f23 : f23 3 = (f 3) := kq29.trans hs3_f20
  have hs6_f23 : f23 6 = (f 6) := kq30.trans hs6_f20
  have hUv22 : (v22 35).toInt + (v22 36).toInt ≤ 40 := hIv22.2
  have hq0_v22 : v22 0 = (v 0) := hk0_v22.trans hq0_v11
  have zq0_v22 := congrArg Int32.toInt hq0_v22
  have hq4_v22 : v22 4 = (v 4) := hk4_v22.trans hq4_v11
  have zq4_v22 := congrArg Int32.toInt hq4_v22
  have hq8_v22 : v22 8 = (v 8) := hk8_v22.trans hq8_v11
  have zq8_v22 := congrArg Int32.toInt hq8_v22
  have hq9_v22 : v22 9 = (v 9) := hk9_v22.trans hq9_v11
  have zq9_v22 := congrArg Int32.toInt hq9_v22
  have hq10_v22 : v22 10 = (v 10) := hk10_v22.trans hq10_v11
  have zq10_v22 := congrArg Int32.toInt hq10_v22
  have hq13_v22 : v22 13 = (v 13) := hk13_v22.trans hq13_v11
  have zq13_v22 := congrArg Int32.toInt hq13_v22
  have hq14_v22 : v22 14 = (v 14) := hk14_v22.trans hq14_v11
  have zq14_v22 := congrArg Int32.toInt hq14_v22
  have hq15_v22 : v22 15 = (v 15) := hk15_v22.trans hq15_v11
  have zq15_v22 := congrArg Int32.toInt hq15_v22
  have hq17_v22 : v22 17 = (v 17) := hk17_v22.trans hq17_v11
  have zq17_v22 := congrArg Int32.toInt hq17_v22
  have hq18_v22 : v22 18 = (v 18) := hk18_v22.trans hq18_v11
  have zq18_v22 := congrArg Int32.toInt hq18_v22
  have hq24_v22 : v22 24 = (v 24) := hk24_v22.trans hq24_v11
  have hq25_v22 : v22 25 = (v 25) := hk25_v22.trans hq25_v11
  have hq35_v22 : v22 35 = (v 35) := hk35_v22.trans hq35_v11
  have zq35_v22 := congrArg Int32.toInt hq35_v22
  have hq36_v22 : v22 36 = (v 36) := hk36_v22.trans hq36_v11
  have zq36_v22 := congrArg Int32.toInt hq36_v22
  have hq38_v22 : v22 38 = (v 38) := hk38_v22.trans hq38_v11
  have hq39_v22 : v22 39 = (v 39) := hk39_v22.trans hq39_v11
  refine stI hx hb hE hP hD hS 11 rfl (vp_in_iff.mpr ⟨by omega, by omega⟩) rfl dX11_readMan_44 (fun H locs hP hD hS => ?_)
  obtain ⟨f31, ef31, hP, hD⟩ : ∃ fz9, fz9 = upd2 f23 10 (upd (f23 10) (v 17).toNatClampNeg r21) ∧ va_P (dC, dI) vwCl (YW cy y0 r v22 fz9 w24 g25) H ∧ va_D A (YW cy y0 r v22 fz9 w24 g25) := ⟨_, rfl, hP, hD⟩
  have hCf31 : YC f31 := by rw [ef31]; exact hCf23
  have hRf31 : progOK (f31 4) (f31 5) (v22 9).toInt.toNat := by rw [ef31]; exact hRf23
  have hs2_f31 : f31 2 = (f 2) := by rw [ef31]; exact hs2_f23
  have hs3_f31 : f31 3 = (f 3) := by rw [ef31]; exact hs3_f23
  have hs6_f31 : f31 6 = (f 6) := by rw [ef31]; exact hs6_f23
  refine lv_aload_n hx hb dX11_readMan_45 rfl (lv_at hl 0 rfl) ?_
  refine va_get (D := (dC, dI)) (ci := 11) (v := .ref (r 29)) (C := RX11) (T := TX11) (N := 79) hx hb hts inB_11 hown hE.1 hP 0 rfl rfl 29 (by decide) (hts _ k_1349) (fun _ h9 => h9) rfl dX11_readMan_46 ?_
  refine lv_aload_n hx hb dX11_readMan_49 rfl (lv_at hl 0 rfl) ?_
  refine va_get (D := (dC, dI)) (ci := 11) (v := .int (v22 17)) (C := RX11) (T := TX11) (N := 79) hx hb hts inB_11 hown hE.1 hP 0 rfl rfl 41 (by decide) (hts _ k_1361) (fun _ h9 => h9) rfl dX11_readMan_50 ?_
  refine tI (y := (v 17)) hq17_v22 ?_
  have b17_v : 0 ≤ (v 17).toInt ∧ (v 17).toInt ≤ 6 := YIb.b hIv.1 17 (by decide)
  refine lv_aload_n hx hb dX11_readMan_53 rfl (lv_at hl 0 rfl) ?_
  refine lv_ldc2 (v := 444301539187) hx hb hown (hts _ k_1623) dX11_readMan_54 ?_
  refine lv_bipush (v := 9) hx hb dX11_readMan_57 (by decide) ?_
  refine cbVi (n := 2) (rest := [.int (v 17), .ref (r 29)]) hx hb hml hown hts hE hP hD hS hA (sY_X11_option_1 l dC dI cy y0 r 444301539187 9 v22 f31 w24 g25 hIv22 hCf31 hRf31 ) k_1657 k_1659 k_54 k_114 k_1660 (by decide +kernel) ⟨Nat.le_of_ble_eq_true rfl, Nat.le_of_ble_eq_true rfl⟩ 0 11 rfl rfl (rfl) hl.1 rfl (Nat.le_of_ble_eq_true rfl) dX11_readMan_59 (fun r32 u H locs hw hP hD hS => ?_)
  obtain ⟨v33, f34, w35, g36⟩ := u
  obtain ⟨hIv33, hCf34, hRf34, hk0_v33, hk4_v33, hk8_v33, hk9_v33, hk10_v33, hk13_v33, hk14_v33, hk15_v33, hk17_v33, hk18_v33, hk24_v33, hk25_v33, hk35_v33, hk36_v33, hk38_v33, hk39_v33, pv37, pv38, kq39, kq40, kq41⟩ := hw
  have hP : va_P (dC, dI) vwCl (YW cy y0 r v33 f34 w35 g36) H := hP
  have hD : va_D A (YW cy y0 r v33 f34 w35 g36) := hD
  have b3_v33 : 0 ≤ (v33 3).toInt ∧ (v33 3).toInt ≤ 1600 := YIb.b hIv33.1 3 (by decide)
  have pv37 : (v22 3).toInt ≤ (v33 3).toInt := pv37
  have pv38 : (v33 5).toInt = (v22 5).toInt ∨ (v22 3).toInt < (v33 3).toInt ∨ ¬ (v33 5).toInt = 59 := pv38
  have hs2_f34 : f34 2 = (f 2) := kq39.trans hs2_f31
  have hs3_f34 : f34 3 = (f 3) := kq40.trans hs3_f31
  have hs6_f34 : f34 6 = (f 6) := kq41.trans hs6_f31
  have hUv33 : (v33 35).toInt + (v33 36).toInt ≤ 40 := hIv33.2
  have hq0_v33 : v33 0 = (v 0) := hk0_v33.trans hq0_v22
  have zq0_v33 := congrArg Int32.toInt hq0_v33
  have hq4_v33 : v33 4 = (v 4) := hk4_v33.trans hq4_v22
  have zq4_v33 := congrArg Int32.toInt hq4_v33
  have hq8_v33 : v33 8 = (v 8) := hk8_v33.trans hq8_v22
  have zq8_v33 := congrArg Int32.toInt hq8_v33
  have hq9_v33 : v33 9 = (v 9) := hk9_v33.trans hq9_v22
  have zq9_v33 := congrArg Int32.toInt hq9_v33
  have hq10_v33 : v33 10 = (v 10) := hk10_v33.trans hq10_v22
  have zq10_v33 := congrArg Int32.toInt hq10_v33
  have hq13_v33 : v33 13 = (v 13) := hk13_v33.trans hq13_v22
  have zq13_v33 := congrArg Int32.toInt hq13_v33
  have hq14_v33 : v33 14 = (v 14) := hk14_v33.trans hq14_v22
  have zq14_v33 := congrArg Int32.toInt hq14_v33
  have hq15_v33 : v33 15 = (v 15) := hk15_v33.trans hq15_v22
  have zq15_v33 := congrArg Int32.toInt hq15_v33
  have hq17_v33 : v33 17 = (v 17) := hk17_v33.trans hq17_v22
  have zq17_v33 := congrArg Int32.toInt hq17_v33
  have hq18_v33 : v33 18 = (v 18) := hk18_v33.trans hq18_v22
  have zq18_v33 := congrArg Int32.toInt hq18_v33
  have hq24_v33 : v33 24 = (v 24) := hk24_v33.trans hq24_v22
  have hq25_v33 : v33 25 = (v 25) := hk25_v33.trans hq25_v22
  have hq35_v33 : v33 35 = (v 35) := hk35_v33.trans hq35_v22
  have zq35_v33 := congrArg Int32.toInt hq35_v33
  have hq36_v33 : v33 36 = (v 36) := hk36_v33.trans hq36_v22
  have zq36_v33 := congrArg Int32.toInt hq36_v33
  have hq38_v33 : v33 38 = (v 38) := hk38_v33.trans hq38_v22
  have hq39_v33 : v33 39 = (v 39) := hk39_v33.trans hq39_v22
  refine stI hx hb hE hP hD hS 12 rfl (vp_in_iff.mpr ⟨by omega, by omega⟩) rfl dX11_readMan_62 (fun H locs hP hD hS => ?_)
  obtain ⟨f42, ef42, hP, hD⟩ : ∃ fz9, fz9 = upd2 f34 11 (upd (f34 11) (v 17).toNatClampNeg r32) ∧ va_P (dC, dI) vwCl (YW cy y0 r v33 fz9 w35 g36) H ∧ va_D A (YW cy y0 r v33 fz9 w35 g36) := ⟨_, rfl, hP, hD⟩
  have hCf42 : YC f42 := by rw [ef42]; exact hCf34
  have hRf42 : progOK (f42 4) (f42 5) (v33 9).toInt.toNat := by rw [ef42]; exact hRf34
  have hs2_f42 : f42 2 = (f 2) := by rw [ef42]; exact hs2_f34
  have hs3_f42 : f42 3 = (f 3) := by rw [ef42]; exact hs3_f34
  have hs6_f42 : f42 6 = (f 6) := by rw [ef42]; exact hs6_f34
  refine lv_aload_n hx hb dX11_readMan_63 rfl (lv_at hl 0 rfl) ?_
  refine va_get (D := (dC, dI)) (ci := 11) (v := .int (v33 1)) (C := RX11) (T := TX11) (N := 79) hx hb hts inB_11 hown hE.1 hP 0 rfl rfl 2 (by decide) (hts _ k_1322) (fun _ h9 => h9) rfl dX11_readMan_64 ?_
  have b1_v33 : 0 ≤ (v33 1).toInt ∧ (v33 1).toInt ≤ 4 := YIb.b hIv33.1 1 (by decide)
  refine lv_if_ne (tgt := 80) hx hb dX11_readMan_67 (by decide) (fun c43 => ?_) (fun c43 => ?_)
  · skip
    have zc43 : ¬ ((v33 1).toInt = 0) := by rw [fa_eq, show (0 : Int32).toInt = 0 from by decide] at c43; exact c43
    exact ret (v33, f42, w35, g36) _ _ _ _ _ _ ⟨hIv33, hCf42, hRf42, (hk0_v33.trans (hk0_v22.trans (hk0_v11.trans hk0_v1))), (hk4_v33.trans (hk4_v22.trans (hk4_v11.trans hk4_v1))), (hk8_v33.trans (hk8_v22.trans (hk8_v11.trans hk8_v1))), (hk9_v33.trans (hk9_v22.trans (hk9_v11.trans hk9_v1))), (hk10_v33.trans (hk10_v22.trans (hk10_v11.trans hk10_v1))), (hk13_v33.trans (hk13_v22.trans (hk13_v11.trans hk13_v1))), (hk14_v33.trans (hk14_v22.trans (hk14_v11.trans hk14_v1))), (hk15_v33.trans (hk15_v22.trans (hk15_v11.trans hk15_v1))), (hk18_v33.trans (hk18_v22.trans (hk18_v11.trans hk18_v1))), (hk24_v33.trans (hk24_v22.trans (hk24_v11.trans hk24_v1))), (hk25_v33.trans (hk25_v22.trans (hk25_v11.trans hk25_v1))), (hk35_v33.trans (hk35_v22.trans (hk35_v11.trans hk35_v1))), (hk36_v33.trans (hk36_v22.trans (hk36_v11.trans hk36_v1))), (hk38_v33.trans (hk38_v22.trans (hk38_v11.trans hk38_v1))), (hk39_v33.trans (hk39_v22.trans (hk39_v11.trans hk39_v1))), (by show (v 3).toInt ≤ (v33 3).toInt; omega), (by show (v33 5).toInt = (v 5).toInt ∨ (v 3).toInt < (v33 3).toInt ∨ ¬ (v33 5).toInt = 59; omega), hs2_f42, hs3_f42, hs6_f42⟩ hP hD hS dX11_readMan_80 (Nat.le_refl _) (Nat.le_refl _)
  · skip
    have zc43 : (v33 1).toInt = 0 := by rw [fa_eq, show (0 : Int32).toInt = 0 from by decide] at c43; exact c43
    refine lv_aload_n hx hb dX11_readMan_70 rfl (lv_at hl 0 rfl) ?_
    refine lv_dup hx hb dX11_readMan_71 rfl ?_
    refine va_get (D := (dC, dI)) (ci := 11) (v := .int (v33 17)) (C := RX11) (T := TX11) (N := 79) hx hb hts inB_11 hown hE.1 hP 0 rfl rfl 41 (by decide) (hts _ k_1361) (fun _ h9 => h9) rfl dX11_readMan_72 ?_
    refine tI (y := (v 17)) hq17_v33 ?_
    have b17_v : 0 ≤ (v 17).toInt ∧ (v 17).toInt ≤ 6 := YIb.b hIv.1 17 (by decide)
    refine lv_iconst (v := 1) hx hb dX11_readMan_75 (by decide) ?_
    refine lv_iadd hx hb dX11_readMan_76 ?_
    refine lv_topi (fun t44 et44 => ?_)
    have rg45 := fb_rng (v 17)
    have zt44 : t44.toInt = (v 17).toInt + 1 := by rw [et44]; exact add_i rfl (by decide) (by omega) (by omega)
    refine va_put (D := (dC, dI)) (ci := 11) (v := .int t44) (ty := tyX11 41) (C := RX11) (T := TX11) (N := 79) hx hb hts inB_11 tyX11 tyX11_ok nmX11 hown hE.1 hP hD hS 0 rfl rfl 41 (by decide) (hts _ k_1361) (fun _ h9 => h9) rfl (tyX11_ok 41 (by decide)) rfl rfl (Nat.le_of_ble_eq_true rfl) dX11_readMan_77 (fun H locs hP hD hS => ?_)
    have hP : va_P (dC, dI) vwCl (YW cy y0 r (upd v33 17 t44) f42 w35 g36) H := hP
    have hD : va_D A (YW cy y0 r (upd v33 17 t44) f42 w35 g36) := hD
    exact ret ((upd v33 17 t44), f42, w35, g36) _ _ _ _ _ _ ⟨⟨(YIb.upd (j := 17) (x := t44) hIv33.1 (show (0 : Int) ≤ t44.toInt by omega) (show t44.toInt ≤ (6 : Int) by omega)), hIv33.2⟩, hCf42, hRf42, (hk0_v33.trans (hk0_v22.trans (hk0_v11.trans hk0_v1))), (hk4_v33.trans (hk4_v22.trans (hk4_v11.trans hk4_v1))), (hk8_v33.trans (hk8_v22.trans (hk8_v11.trans hk8_v1))), (hk9_v33.trans (hk9_v22.trans (hk9_v11.trans hk9_v1))), (hk10_v33.trans (hk10_v22.trans (hk10_v11.trans hk10_v1))), (hk13_v33.trans (hk13_v22.trans (hk13_v11.trans hk13_v1))), (hk14_v33.trans (hk14_v22.trans (hk14_v11.trans hk14_v1))), (hk15_v33.trans (hk15_v22.trans (hk15_v11.trans hk15_v1))), (hk18_v33.trans (hk18_v22.trans (hk18_v11.trans hk18_v1))), (hk24_v33.trans (hk24_v22.trans (hk24_v11.trans hk24_v1))), (hk25_v33.trans (hk25_v22.trans (hk25_v11.trans hk25_v1))), (hk35_v33.trans (hk35_v22.trans (hk35_v11.trans hk35_v1))), (hk36_v33.trans (hk36_v22.trans (hk36_v11.trans hk36_v1))), (hk38_v33.trans (hk38_v22.trans (hk38_v11.trans hk38_v1))), (hk39_v33.trans (hk39_v22.trans (hk39_v11.trans hk39_v1))), (by show (v 3).toInt ≤ (v33 3).toInt; omega), (by show (v33 5).toInt = (v 5).toInt ∨ (v 3).toInt < (v33 3).toInt ∨ ¬ (v33 5).toInt = 59; omega), hs2_f42, hs3_f42, hs6_f42⟩ hP hD hS dX11_readMan_80 (Nat.le_refl _) (Nat.le_refl _)
