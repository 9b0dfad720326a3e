set_option maxHeartbeats 4000000 in
set_option maxRecDepth 100000 in
theorem sY_X11_isWord_1 (l : Launch) (dC : Nat → ClassId) (dI : Nat → Nat → Nat) (cy : Nat → ClassId) (y0 : Nat) (r : Nat → Nat) (j1 : Int64) (v : Nat → Int32) (f : Nat → Nat → Int32) (w : Int64) (g : Nat → Int64) (hIv : YI v) (hCf : YC f) (hRf : progOK (f 4) (f 5) (v 9).toInt.toNat)  : ctI l (dC, dI) cy yX11_isWord cX11_isWord 3 .boolean 1 60 0 0 Unit [.ref y0, .long j1] (YW cy y0 r v f w g) (fun r u => ((r = 1 ∧ (v 5).toInt = 1) ∨ (r = 0))) (fun u => YW cy y0 r v f w g) := by
  refine ctI_of (by decide) (Nat.le_of_ble_eq_true rfl) (fun p e s m below meth c A ls Q hx hb hml hts hown hE hP hD hA hl ret => ?_)
  have hUv : (v 35).toInt + (v 36).toInt ≤ 40 := hIv.2
  have hown : s.vm.findClass RX11 = some m.cls := hown
  have hS : va_S A s.heap s.heap [] := va_S.rf
  have hl : lv_has ls 3 [(0, .ref y0), (1, .long j1)] := hl
  refine lv_aload_n hx hb dX11_isWord_0 rfl (lv_at hl 0 rfl) ?_
  refine va_get (D := (dC, dI)) (ci := 11) (v := .int (v 5)) (C := RX11) (T := TX11) (N := 79) hx hb hts inB_11 hown hE.1 hP 0 rfl rfl 6 (by decide) (hts _ k_1326) (fun _ h9 => h9) rfl dX11_isWord_1 ?_
  refine lv_iconst (v := 1) hx hb dX11_isWord_4 (by decide) ?_
  refine lv_icmp_ne (tgt := 21) hx hb dX11_isWord_5 (by decide) (fun c1 => ?_) (fun c1 => ?_)
  · skip
    have zc1 : ¬ ((v 5).toInt = 1) := by rw [fa_eq, show (1 : Int32).toInt = 1 from by decide] at c1; exact c1
    refine lv_iconst (v := 0) hx hb dX11_isWord_21 (by decide) ?_
    exact ret 0 () _ _ _ _ _ _ rfl (Or.inr rfl) hP hD hS dX11_isWord_22 (Nat.le_refl _) (Nat.le_refl _)
  · skip
    have zc1 : (v 5).toInt = 1 := by rw [fa_eq, show (1 : Int32).toInt = 1 from by decide] at c1; exact c1
    refine lv_aload_n hx hb dX11_isWord_8 rfl (lv_at hl 0 rfl) ?_
    refine va_get (D := (dC, dI)) (ci := 11) (v := .long w) (C := RX11) (T := TX11) (N := 79) hx hb hts inB_11 hown hE.1 hP 0 rfl rfl 9 (by decide) (hts _ k_1329) (fun _ h9 => h9) rfl dX11_isWord_9 ?_
    refine lv_lload_n hx hb dX11_isWord_12 rfl (lv_at hl 1 rfl) ?_
    refine W.lcmp hx hb dX11_isWord_13 ?_
    refine lv_topi (fun t2 et2 => ?_)
    refine lv_if_ne (tgt := 21) hx hb dX11_isWord_14 (by decide) (fun c3 => ?_) (fun c3 => ?_)
    · skip
      have zc3 : ¬ (t2.toInt = 0) := by rw [fa_eq, show (0 : Int32).toInt = 0 from by decide] at c3; exact c3
      refine lv_iconst (v := 0) hx hb dX11_isWord_21 (by decide) ?_
      exact ret 0 () _ _ _ _ _ _ rfl (Or.inr rfl) hP hD hS dX11_isWord_22 (Nat.le_refl _) (Nat.le_refl _)
    · skip
      have zc3 : t2.toInt = 0 := by rw [fa_eq, show (0 : Int32).toInt = 0 from by decide] at c3; exact c3
      refine lv_iconst (v := 1) hx hb dX11_isWord_17 (by decide) ?_
      refine lv_goto (tgt := 22) hx hb dX11_isWord_18 (by decide) ?_
      exact ret 1 () _ _ _ _ _ _ rfl (Or.inl ⟨rfl, by omega⟩) hP hD hS dX11_isWord_22 (Nat.le_refl _) (Nat.le_refl _)
set_option maxHeartbeats 4000000 in
set_option maxRecDepth 100000 in
theorem sY_X11_want_1 (l : Launch) (dC : Nat → ClassId) (dI : Nat → Nat → Nat) (cy : Nat → ClassId) (y0 : Nat) (r : Nat → Nat) (j1 : Int64) (v : Nat → Int32) (f : Nat → Nat → Int32) (w : Int64) (g : Nat → Int64) (hIv : YI v) (hCf : YC f) (hRf : progOK (f 4) (f 5) (v 9).toInt.toNat)  : ctV l (dC, dI) cy yX11_want cX11_want 3 3 103 0 0 ((Nat → Int32) × (Nat → Nat → Int32) × (Int64) × (Nat → Int64)) [.ref y0, .long j1] (YW cy y0 r v f w g) (fun u => YI u.1 ∧ YC u.2.1 ∧ progOK (u.2.1 4) (u.2.1 5) (u.1 9).toInt.toNat ∧ u.1 0 = v 0 ∧ u.1 4 = v 4 ∧ u.1 8 = v 8 ∧ u.1 9 = v 9 ∧ u.1 10 = v 10 ∧ u.1 24 = v 24 ∧ u.1 25 = v 25 ∧ u.1 35 = v 35 ∧ u.1 36 = v 36 ∧ u.1 38 = v 38 ∧ u.1 39 = v 39 ∧ ((v 3).toInt ≤ (u.1 3).toInt) ∧ ((u.1 5).toInt = (v 5).toInt ∨ (v 3).toInt < (u.1 3).toInt ∨ ¬ (u.1 5).toInt = 59)) (fun u => YW cy y0 r u.1 u.2.1 u.2.2.1 u.2.2.2) := by
  refine ctV_of (by decide) (Nat.le_of_ble_eq_true rfl) (fun p e s m below meth c A ls Q hx hb hml hts hown hnm hE hP hD hA hl ret => ?_)
  have hUv : (v 35).toInt + (v 36).toInt ≤ 40 := hIv.2
  have hown : s.vm.findClass RX11 = some m.cls := hown
  have hS : va_S A s.heap s.heap [] := va_S.rf
  have hl : lv_has ls 3 [(0, .ref y0), (1, .long j1)] := hl
  refine lv_aload_n hx hb dX11_want_0 rfl (lv_at hl 0 rfl) ?_
  refine va_get (D := (dC, dI)) (ci := 11) (v := .int (v 1)) (C := RX11) (T := TX11) (N := 79) hx hb hts inB_11 hown hE.1 hP 0 rfl rfl 2 (by decide) (hts _ k_1322) (fun _ h9 => h9) rfl dX11_want_1 ?_
  refine lv_if_le (tgt := 8) hx hb dX11_want_4 (by decide) (fun c1 => ?_) (fun c1 => ?_)
  · skip
    have zc1 : (v 1).toInt ≤ 0 := by rw [fa_le, show (0 : Int32).toInt = 0 from by decide] at c1; exact c1
    refine lv_aload_n hx hb dX11_want_8 rfl (lv_at hl 0 rfl) ?_
    refine lv_lload_n hx hb dX11_want_9 rfl (lv_at hl 1 rfl) ?_
    refine cbVi (n := 1) (rest := []) hx hb hml hown hts hE hP hD hS hA (sY_X11_isWord_1 l dC dI cy y0 r j1 v f w g hIv hCf hRf ) k_1601 k_1603 k_45 k_114 k_1604 (by decide +kernel) ⟨Nat.le_of_ble_eq_true rfl, Nat.le_of_ble_eq_true rfl⟩ 0 11 rfl rfl (rfl) hl.1 rfl (Nat.le_of_ble_eq_true rfl) dX11_want_10 (fun r2 u H locs hw hP hD hS => ?_)
    rcases hw with ⟨g3, g3_0⟩ | ⟨g3⟩
    · skip
      subst g3
      refine lv_if_ne (tgt := 24) hx hb dX11_want_13 (by decide) (fun _ => ?_) (fun c0 => absurd c0 (by decide))
      refine lv_aload_n hx hb dX11_want_24 rfl (lv_at hl 0 rfl) ?_
      refine cbVv (n := 0) (rest := []) hx hb hml hown hts hE hP hD hS hA (sY_X11_token_1 l dC dI cy y0 r  v f w g hIv hCf hRf ) k_1579 k_1581 k_42 k_114 k_1582 (by decide +kernel) ⟨Nat.le_of_ble_eq_true rfl, Nat.le_of_ble_eq_true rfl⟩ 0 11 rfl rfl (rfl) hl.1 rfl (Nat.le_of_ble_eq_true rfl) dX11_want_25 (fun u H locs hw hP hD hS => ?_)
      obtain ⟨v4, f5, w6, g7⟩ := u
      obtain ⟨hIv4, hCf5, hRf5, hk0_v4, hk1_v4, hk4_v4, hk8_v4, hk9_v4, hk10_v4, hk24_v4, hk25_v4, hk35_v4, hk36_v4, hk38_v4, hk39_v4, pv8, pv9⟩ := hw
      have hP : va_P (dC, dI) vwCl (YW cy y0 r v4 f5 w6 g7) H := hP
      have hD : va_D A (YW cy y0 r v4 f5 w6 g7) := hD
      have b3_v4 : 0 ≤ (v4 3).toInt ∧ (v4 3).toInt ≤ 1600 := YIb.b hIv4.1 3 (by decide)
      have pv8 : (v 3).toInt ≤ (v4 3).toInt := pv8
      have pv9 : (v4 5).toInt = (v 5).toInt ∨ (v 3).toInt < (v4 3).toInt ∨ ¬ (v4 5).toInt = 59 := pv9
      have hUv4 : (v4 35).toInt + (v4 36).toInt ≤ 40 := hIv4.2
      have hq0_v4 : v4 0 = (v 0) := hk0_v4
      have hq1_v4 : v4 1 = (v 1) := hk1_v4
      have hq4_v4 : v4 4 = (v 4) := hk4_v4
      have zq4_v4 := congrArg Int32.toInt hq4_v4
      have hq8_v4 : v4 8 = (v 8) := hk8_v4
      have hq9_v4 : v4 9 = (v 9) := hk9_v4
      have zq9_v4 := congrArg Int32.toInt hq9_v4
      have hq10_v4 : v4 10 = (v 10) := hk10_v4
      have hq24_v4 : v4 24 = (v 24) := hk24_v4
      have hq25_v4 : v4 25 = (v 25) := hk25_v4
      have hq35_v4 : v4 35 = (v 35) := hk35_v4
      have zq35_v4 := congrArg Int32.toInt hq35_v4
      have hq36_v4 : v4 36 = (v 36) := hk36_v4
      have zq36_v4 := congrArg Int32.toInt hq36_v4
      have hq38_v4 : v4 38 = (v 38) := hk38_v4
      have hq39_v4 : v4 39 = (v 39) := hk39_v4
      exact ret (v4, f5, w6, g7) _ _ _ _ _ _ ⟨hIv4, hCf5, hRf5, hk0_v4, hk4_v4, hk8_v4, hk9_v4, hk10_v4, hk24_v4, hk25_v4, hk35_v4, hk36_v4, hk38_v4, hk39_v4, (by show (v 3).toInt ≤ (v4 3).toInt; omega), (by show (v4 5).toInt = (v 5).toInt ∨ (v 3).toInt < (v4 3).toInt ∨ ¬ (v4 5).toInt = 59; omega)⟩ hP hD hS dX11_want_28 (Nat.le_refl _) (Nat.le_refl _)
    · skip
      subst g3
      refine lv_if_ne (tgt := 24) hx hb dX11_want_13 (by decide) (fun c0 => absurd (by decide) c0) (fun _ => ?_)
      refine lv_aload_n hx hb dX11_want_16 rfl (lv_at hl 0 rfl) ?_
      refine lv_iconst (v := 2) hx hb dX11_want_17 (by decide) ?_
      refine cbVv (n := 1) (rest := []) hx hb hml hown hts hE hP hD hS hA (sY_X11_wrong_1 l dC dI cy y0 r 2 v f w g hIv hCf hRf ) k_1641 k_1643 k_50 k_114 k_1644 (by decide +kernel) ⟨Nat.le_of_ble_eq_true rfl, Nat.le_of_ble_eq_true rfl⟩ 0 11 rfl rfl (rfl) hl.1 rfl (Nat.le_of_ble_eq_true rfl) dX11_want_18 (fun u H locs hw hP hD hS => ?_)
      obtain ⟨v10, f11, w12, g13⟩ := u
      obtain ⟨hIv10, hCf11, hRf11, hk0_v10, hk3_v10, hk4_v10, hk5_v10, hk8_v10, hk9_v10, hk10_v10, hk24_v10, hk25_v10, hk35_v10, hk36_v10, hk38_v10, hk39_v10, pv14, pv15⟩ := hw
      have hP : va_P (dC, dI) vwCl (YW cy y0 r v10 f11 w12 g13) H := hP
      have hD : va_D A (YW cy y0 r v10 f11 w12 g13) := hD
      have b3_v10 : 0 ≤ (v10 3).toInt ∧ (v10 3).toInt ≤ 1600 := YIb.b hIv10.1 3 (by decide)
      have pv14 : (v 3).toInt ≤ (v10 3).toInt := pv14
      have pv15 : (v10 5).toInt = (v 5).toInt ∨ (v 3).toInt < (v10 3).toInt ∨ ¬ (v10 5).toInt = 59 := pv15
      have hUv10 : (v10 35).toInt + (v10 36).toInt ≤ 40 := hIv10.2
      have hq0_v10 : v10 0 = (v 0) := hk0_v10
      have hq3_v10 : v10 3 = (v 3) := hk3_v10
      have zq3_v10 := congrArg Int32.toInt hq3_v10
      have hq4_v10 : v10 4 = (v 4) := hk4_v10
      have zq4_v10 := congrArg Int32.toInt hq4_v10
      have hq5_v10 : v10 5 = (v 5) := hk5_v10
      have zq5_v10 := congrArg Int32.toInt hq5_v10
      have hq8_v10 : v10 8 = (v 8) := hk8_v10
      have hq9_v10 : v10 9 = (v 9) := hk9_v10
      have zq9_v10 := congrArg Int32.toInt hq9_v10
      have hq10_v10 : v10 10 = (v 10) := hk10_v10
      have hq24_v10 : v10 24 = (v 24) := hk24_v10
      have hq25_v10 : v10 25 = (v 25) := hk25_v10
      have hq35_v10 : v10 35 = (v 35) := hk35_v10
      have zq35_v10 := congrArg Int32.toInt hq35_v10
      have hq36_v10 : v10 36 = (v 36) := hk36_v10
      have zq36_v10 := congrArg Int32.toInt hq36_v10
      have hq38_v10 : v10 38 = (v 38) := hk38_v10
      have hq39_v10 : v10 39 = (v 39) := hk39_v10
      refine lv_goto (tgt := 28) hx hb dX11_want_21 (by decide) ?_
      exact ret (v10, f11, w12, g13) _ _ _ _ _ _ ⟨hIv10, hCf11, hRf11, hk0_v10, hk4_v10, hk8_v10, hk9_v10, hk10_v10, hk24_v10, hk25_v10, hk35_v10, hk36_v10, hk38_v10, hk39_v10, (by show (v 3).toInt ≤ (v10 3).toInt; omega), (by show (v10 5).toInt = (v 5).toInt ∨ (v 3).toInt < (v10 3).toInt ∨ ¬ (v10 5).toInt = 59; omega)⟩ hP hD hS dX11_want_28 (Nat.le_refl _) (Nat.le_refl _)
  · skip
    have zc1 : ¬ ((v 1).toInt ≤ 0) := by rw [fa_le, show (0 : Int32).toInt = 0 from by decide] at c1; exact c1
    exact ret (v, f, w, g) _ _ _ _ _ _ ⟨hIv, hCf, hRf, rfl, rfl, rfl, rfl, rfl, rfl, rfl, rfl, rfl, rfl, rfl, (by show (v 3).toInt ≤ (v 3).toInt; omega), (by show (v 5).toInt = (v 5).toInt ∨ (v 3).toInt < (v 3).toInt ∨ ¬ (v 5).toInt = 59; omega)⟩ hP hD hS dX11_want_7 (Nat.le_refl _) (Nat.le_refl _)
set_option maxHeartbeats 4000000 in
set_option maxRecDepth 100000 in
theorem sY_X11_toldNumber_1 (l : Launch) (dC : Nat → ClassId) (dI : Nat → Nat → Nat) (cy : Nat → ClassId) (y0 : Nat) (r : Nat → Nat) (p1 : Int32) (p2 : Int32) (v : Nat → Int32) (f : Nat → Nat → Int32) (w : Int64) (g : Nat → Int64) (hIv : YI v) (hCf : YC f) (hRf : progOK (f 4) (f 5) (v 9).toInt.toNat)  : ctI l (dC, dI) cy yX11_toldNumber cX11_toldNumber 4 .int 3 103 0 0 ((Nat → Int32) × (Nat → Nat → Int32) × (Int64) × (Nat → Int64)) [.ref y0, .int p1, .int p2] (YW cy y0 r v f w g) (fun r u => YI u.1 ∧ YC u.2.1 ∧ progOK (u.2.1 4) (u.2.1 5) (u.1 9).toInt.toNat ∧ u.1 0 = v 0 ∧ u.1 4 = v 4 ∧ u.1 8 = v 8 ∧ u.1 9 = v 9 ∧ u.1 10 = v 10 ∧ u.1 24 = v 24 ∧ u.1 25 = v 25 ∧ u.1 35 = v 35 ∧ u.1 36 = v 36 ∧ u.1 38 = v 38 ∧ u.1 39 = v 39 ∧ ((v 3).toInt ≤ (u.1 3).toInt) ∧ ((u.1 5).toInt = (v 5).toInt ∨ (v 3).toInt < (u.1 3).toInt ∨ ¬ (u.1 5).toInt = 59)) (fun u => YW cy y0 r u.1 u.2.1 u.2.2.1 u.2.2.2) := by
  refine ctI_of (by decide) (Nat.le_of_ble_eq_true rfl) (fun p e s m below meth c A ls Q hx hb hml hts hown hE hP hD hA hl ret => ?_)
  have hUv : (v 35).toInt + (v 36).toInt ≤ 40 := hIv.2
  have hown : s.vm.findClass RX11 = some m.cls := hown
  have hS : va_S A s.heap s.heap [] := va_S.rf
  have hl : lv_has ls 4 [(0, .ref y0), (1, .int p1), (2, .int p2)] := hl
  refine lv_aload_n hx hb dX11_toldNumber_0 rfl (lv_at hl 0 rfl) ?_
  refine va_get (D := (dC, dI)) (ci := 11) (v := .int (v 1)) (C := RX11) (T := TX11) (N := 79) hx hb hts inB_11 hown hE.1 hP 0 rfl rfl 2 (by decide) (hts _ k_1322) (fun _ h9 => h9) rfl dX11_toldNumber_1 ?_
  refine lv_if_le (tgt := 9) hx hb dX11_toldNumber_4 (by decide) (fun c1 => ?_) (fun c1 => ?_)
  · skip
    have zc1 : (v 1).toInt ≤ 0 := by rw [fa_le, show (0 : Int32).toInt = 0 from by decide] at c1; exact c1
    refine lv_aload_n hx hb dX11_toldNumber_9 rfl (lv_at hl 0 rfl) ?_
    refine va_get (D := (dC, dI)) (ci := 11) (v := .int (v 5)) (C := RX11) (T := TX11) (N := 79) hx hb hts inB_11 hown hE.1 hP 0 rfl rfl 6 (by decide) (hts _ k_1326) (fun _ h9 => h9) rfl dX11_toldNumber_10 ?_
    refine lv_iconst (v := 2) hx hb dX11_toldNumber_13 (by decide) ?_
    refine lv_icmp_eq (tgt := 25) hx hb dX11_toldNumber_14 (by decide) (fun c2 => ?_) (fun c2 => ?_)
    · skip
      have zc2 : (v 5).toInt = 2 := by rw [fa_eq, show (2 : Int32).toInt = 2 from by decide] at c2; exact c2
      refine lv_aload_n hx hb dX11_toldNumber_25 rfl (lv_at hl 0 rfl) ?_
      refine va_get (D := (dC, dI)) (ci := 11) (v := .int (v 7)) (C := RX11) (T := TX11) (N := 79) hx hb hts inB_11 hown hE.1 hP 0 rfl rfl 8 (by decide) (hts _ k_1328) (fun _ h9 => h9) rfl dX11_toldNumber_26 ?_
      refine lv_iload_n hx hb dX11_toldNumber_29 rfl (lv_at hl 1 rfl) ?_
      refine lv_icmp_lt (tgt := 41) hx hb dX11_toldNumber_30 (by decide) (fun c3 => ?_) (fun c3 => ?_)
      · skip
        have zc3 : (v 7).toInt < p1.toInt := by rw [fa_lt] at c3; exact c3
        have rg4 := fb_rng (v 7)
        have rg5 := fb_rng p1
        refine lv_aload_n hx hb dX11_toldNumber_41 rfl (lv_at hl 0 rfl) ?_
        refine lv_iconst (v := 4) hx hb dX11_toldNumber_42 (by decide) ?_
        refine cbVv (n := 1) (rest := []) hx hb hml hown hts hE hP hD hS hA (sY_X11_wrong_1 l dC dI cy y0 r 4 v f w g hIv hCf hRf ) k_1641 k_1643 k_50 k_114 k_1644 (by decide +kernel) ⟨Nat.le_of_ble_eq_true rfl, Nat.le_of_ble_eq_true rfl⟩ 0 11 rfl rfl (rfl) hl.1 rfl (Nat.le_of_ble_eq_true rfl) dX11_toldNumber_43 (fun u H locs hw hP hD hS => ?_)
        obtain ⟨v6, f7, w8, g9⟩ := u
        obtain ⟨hIv6, hCf7, hRf7, hk0_v6, hk3_v6, hk4_v6, hk5_v6, hk8_v6, hk9_v6, hk10_v6, hk24_v6, hk25_v6, hk35_v6, hk36_v6, hk38_v6, hk39_v6, pv10, pv11⟩ := hw
        have hP : va_P (dC, dI) vwCl (YW cy y0 r v6 f7 w8 g9) H := hP
        have hD : va_D A (YW cy y0 r v6 f7 w8 g9) := hD
        have b3_v6 : 0 ≤ (v6 3).toInt ∧ (v6 3).toInt ≤ 1600 := YIb.b hIv6.1 3 (by decide)
        have pv10 : (v 3).toInt ≤ (v6 3).toInt := pv10
        have pv11 : (v6 5).toInt = (v 5).toInt ∨ (v 3).toInt < (v6 3).toInt ∨ ¬ (v6 5).toInt = 59 := pv11
        have hUv6 : (v6 35).toInt + (v6 36).toInt ≤ 40 := hIv6.2
        have hq0_v6 : v6 0 = (v 0) := hk0_v6
        have hq3_v6 : v6 3 = (v 3) := hk3_v6
        have zq3_v6 := congrArg Int32.toInt hq3_v6
        have hq4_v6 : v6 4 = (v 4) := hk4_v6
        have zq4_v6 := congrArg Int32.toInt hq4_v6
        have hq5_v6 : v6 5 = (v 5) := hk5_v6
        have zq5_v6 := congrArg Int32.toInt hq5_v6
        have hq8_v6 : v6 8 = (v 8) := hk8_v6
        have hq9_v6 : v6 9 = (v 9) := hk9_v6
        have zq9_v6 := congrArg Int32.toInt hq9_v6
        have hq10_v6 : v6 10 = (v 10) := hk10_v6
        have hq24_v6 : v6 24 = (v 24) := hk24_v6
        have hq25_v6 : v6 25 = (v 25) := hk25_v6
        have hq35_v6 : v6 35 = (v 35) := hk35_v6
        have zq35_v6 := congrArg Int32.toInt hq35_v6
        have hq36_v6 : v6 36 = (v 36) := hk36_v6
        have zq36_v6 := congrArg Int32.toInt hq36_v6
        have hq38_v6 : v6 38 = (v 38) := hk38_v6
        have hq39_v6 : v6 39 = (v 39) := hk39_v6
        refine lv_aload_n hx hb dX11_toldNumber_46 rfl (lv_at hl 0 rfl) ?_
        refine va_get (D := (dC, dI)) (ci := 11) (v := .int (v6 7)) (C := RX11) (T := TX11) (N := 79) hx hb hts inB_11 hown hE.1 hP 0 rfl rfl 8 (by decide) (hts _ k_1328) (fun _ h9 => h9) rfl dX11_toldNumber_47 ?_
        refine lv_istore_n (lv' := [(3, .int (v6 7)), (0, .ref y0), (1, .int p1), (2, .int p2)]) hx hb dX11_toldNumber_50 rfl hl (by decide) rfl (fun ls hl => ?_)
        refine lv_aload_n hx hb dX11_toldNumber_51 rfl (lv_at hl 1 rfl) ?_
        refine va_get (D := (dC, dI)) (ci := 11) (v := .int (v6 1)) (C := RX11) (T := TX11) (N := 79) hx hb hts inB_11 hown hE.1 hP 0 rfl rfl 2 (by decide) (hts _ k_1322) (fun _ h9 => h9) rfl dX11_toldNumber_52 ?_
        refine lv_if_ne (tgt := 62) hx hb dX11_toldNumber_55 (by decide) (fun c12 => ?_) (fun c12 => ?_)
        · skip
          have zc12 : ¬ ((v6 1).toInt = 0) := by rw [fa_eq, show (0 : Int32).toInt = 0 from by decide] at c12; exact c12
          refine lv_iload_n hx hb dX11_toldNumber_62 rfl (lv_at hl 0 rfl) ?_
          exact ret (v6 7) (v6, f7, w8, g9) _ _ _ _ _ _ rfl ⟨hIv6, hCf7, hRf7, hk0_v6, hk4_v6, hk8_v6, hk9_v6, hk10_v6, hk24_v6, hk25_v6, hk35_v6, hk36_v6, hk38_v6, hk39_v6, (by show (v 3).toInt ≤ (v6 3).toInt; omega), (by show (v6 5).toInt = (v 5).toInt ∨ (v 3).toInt < (v6 3).toInt ∨ ¬ (v6 5).toInt = 59; omega)⟩ hP hD hS dX11_toldNumber_63 (Nat.le_refl _) (Nat.le_refl _)
        · skip
          have zc12 : (v6 1).toInt = 0 := by rw [fa_eq, show (0 : Int32).toInt = 0 from by decide] at c12; exact c12
          refine lv_aload_n hx hb dX11_toldNumber_58 rfl (lv_at hl 1 rfl) ?_
          refine cbVv (n := 0) (rest := []) hx hb hml hown hts hE hP hD hS hA (sY_X11_token_1 l dC dI cy y0 r  v6 f7 w8 g9 hIv6 hCf7 hRf7 ) k_1579 k_1581 k_42 k_114 k_1582 (by decide +kernel) ⟨Nat.le_of_ble_eq_true rfl, Nat.le_of_ble_eq_true rfl⟩ 0 11 rfl rfl (rfl) hl.1 rfl (Nat.le_of_ble_eq_true rfl) dX11_toldNumber_59 (fun u H locs hw hP hD hS => ?_)
          obtain ⟨v13, f14, w15, g16⟩ := u
          obtain ⟨hIv13, hCf14, hRf14, hk0_v13, hk1_v13, hk4_v13, hk8_v13, hk9_v13, hk10_v13, hk24_v13, hk25_v13, hk35_v13, hk36_v13, hk38_v13, hk39_v13, pv17, pv18⟩ := hw
          have hP : va_P (dC, dI) vwCl (YW cy y0 r v13 f14 w15 g16) H := hP
          have hD : va_D A (YW cy y0 r v13 f14 w15 g16) := hD
          have b3_v13 : 0 ≤ (v13 3).toInt ∧ (v13 3).toInt ≤ 1600 := YIb.b hIv13.1 3 (by decide)
          have pv17 : (v6 3).toInt ≤ (v13 3).toInt := pv17
          have pv18 : (v13 5).toInt = (v6 5).toInt ∨ (v6 3).toInt < (v13 3).toInt ∨ ¬ (v13 5).toInt = 59 := pv18
          have hUv13 : (v13 35).toInt + (v13 36).toInt ≤ 40 := hIv13.2
          have hq0_v13 : v13 0 = (v 0) := hk0_v13.trans hq0_v6
          have hq1_v13 : v13 1 = (v6 1) := hk1_v13
          have hq4_v13 : v13 4 = (v 4) := hk4_v13.trans hq4_v6
          have zq4_v13 := congrArg Int32.toInt hq4_v13
          have hq8_v13 : v13 8 = (v 8) := hk8_v13.trans hq8_v6
          have hq9_v13 : v13 9 = (v 9) := hk9_v13.trans hq9_v6
          have zq9_v13 := congrArg Int32.toInt hq9_v13
          have hq10_v13 : v13 10 = (v 10) := hk10_v13.trans hq10_v6
          have hq24_v13 : v13 24 = (v 24) := hk24_v13.trans hq24_v6
          have hq25_v13 : v13 25 = (v 25) := hk25_v13.trans hq25_v6
          have hq35_v13 : v13 35 = (v 35) := hk35_v13.trans hq35_v6
          have zq35_v13 := congrArg Int32.toInt hq35_v13
          have hq36_v13 : v13 36 = (v 36) := hk36_v13.trans hq36_v6
          have zq36_v13 := congrArg Int32.toInt hq36_v13
          have hq38_v13 : v13 38 = (v 38) := hk38_v13.trans hq38_v6
          have hq39_v13 : v13 39 = (v 39) := hk39_v13.trans hq39_v6
          refine lv_iload_n hx hb dX11_toldNumber_62 rfl (lv_at hl 0 rfl) ?_
          exact ret (v6 7) (v13, f14, w15, g16) _ _ _ _ _ _ rfl ⟨hIv13, hCf14, hRf14, (hk0_v13.trans hk0_v6), (hk4_v13.trans hk4_v6), (hk8_v13.trans hk8_v6), (hk9_v13.trans hk9_v6), (hk10_v13.trans hk10_v6), (hk24_v13.trans hk24_v6), (hk25_v13.trans hk25_v6), (hk35_v13.trans hk35_v6), (hk36_v13.trans hk36_v6), (hk38_v13.trans hk38_v6), (hk39_v13.trans hk39_v6), (by show (v 3).toInt ≤ (v13 3).toInt; omega), (by show (v13 5).toInt = (v 5).toInt ∨ (v 3).toInt < (v13 3).toInt ∨ ¬ (v13 5).toInt = 59; omega)⟩ hP hD hS dX11_toldNumber_63 (Nat.le_refl _) (Nat.le_refl _)
      · skip
        have zc3 : ¬ ((v 7).toInt < p1.toInt) := by rw [fa_lt] at c3; exact c3
        have rg19 := fb_rng (v 7)
        have rg20 := fb_rng p1
        refine lv_aload_n hx hb dX11_toldNumber_33 rfl (lv_at hl 0 rfl) ?_
        refine va_get (D := (dC, dI)) (ci := 11) (v := .int (v 7)) (C := RX11) (T := TX11) (N := 79) hx hb hts inB_11 hown hE.1 hP 0 rfl rfl 8 (by decide) (hts _ k_1328) (fun _ h9 => h9) rfl dX11_toldNumber_34 ?_
        refine lv_iload_n hx hb dX11_toldNumber_37 rfl (lv_at hl 2 rfl) ?_
        refine lv_icmp_le (tgt := 46) hx hb dX11_toldNumber_38 (by decide) (fun c21 => ?_) (fun c21 => ?_)
        · skip
          have zc21 : (v 7).toInt ≤ p2.toInt := by rw [fa_le] at c21; exact c21
          have rg22 := fb_rng p2
          refine lv_aload_n hx hb dX11_toldNumber_46 rfl (lv_at hl 0 rfl) ?_
          refine va_get (D := (dC, dI)) (ci := 11) (v := .int (v 7)) (C := RX11) (T := TX11) (N := 79) hx hb hts inB_11 hown hE.1 hP 0 rfl rfl 8 (by decide) (hts _ k_1328) (fun _ h9 => h9) rfl dX11_toldNumber_47 ?_
          refine lv_istore_n (lv' := [(3, .int (v 7)), (0, .ref y0), (1, .int p1), (2, .int p2)]) hx hb dX11_toldNumber_50 rfl hl (by decide) rfl (fun ls hl => ?_)
          refine lv_aload_n hx hb dX11_toldNumber_51 rfl (lv_at hl 1 rfl) ?_
          refine va_get (D := (dC, dI)) (ci := 11) (v := .int (v 1)) (C := RX11) (T := TX11) (N := 79) hx hb hts inB_11 hown hE.1 hP 0 rfl rfl 2 (by decide) (hts _ k_1322) (fun _ h9 => h9) rfl dX11_toldNumber_52 ?_
          refine lv_if_ne (tgt := 62) hx hb dX11_toldNumber_55 (by decide) (fun c23 => ?_) (fun c23 => ?_)
          · skip
            have zc23 : ¬ ((v 1).toInt = 0) := by rw [fa_eq, show (0 : Int32).toInt = 0 from by decide] at c23; exact c23
            refine lv_iload_n hx hb dX11_toldNumber_62 rfl (lv_at hl 0 rfl) ?_
            exact ret (v 7) (v, f, w, g) _ _ _ _ _ _ rfl ⟨hIv, hCf, hRf, rfl, rfl, rfl, rfl, rfl, rfl, rfl, rfl, rfl, rfl, rfl, (by show (v 3).toInt ≤ (v 3).toInt; omega), (by show (v 5).toInt = (v 5).toInt ∨ (v 3).toInt < (v 3).toInt ∨ ¬ (v 5).toInt = 59; omega)⟩ hP hD hS dX11_toldNumber_63 (Nat.le_refl _) (Nat.le_refl _)
          · skip
            have zc23 : (v 1).toInt = 0 := by rw [fa_eq, show (0 : Int32).toInt = 0 from by decide] at c23; exact c23
            refine lv_aload_n hx hb dX11_toldNumber_58 rfl (lv_at hl 1 rfl) ?_
            refine cbVv (n := 0) (rest := []) hx hb hml hown hts hE hP hD hS hA (sY_X11_token_1 l dC dI cy y0 r  v f w g hIv hCf hRf ) k_1579 k_1581 k_42 k_114 k_1582 (by decide +kernel) ⟨Nat.le_of_ble_eq_true rfl, Nat.le_of_ble_eq_true rfl⟩ 0 11 rfl rfl (rfl) hl.1 rfl (Nat.le_of_ble_eq_true rfl) dX11_toldNumber_59 (fun u H locs hw hP hD hS => ?_)
            obtain ⟨v24, f25, w26, g27⟩ := u
            obtain ⟨hIv24, hCf25, hRf25, hk0_v24, hk1_v24, hk4_v24, hk8_v24, hk9_v24, hk10_v24, hk24_v24, hk25_v24, hk35_v24, hk36_v24, hk38_v24, hk39_v24, pv28, pv29⟩ := hw
            have hP : va_P (dC, dI) vwCl (YW cy y0 r v24 f25 w26 g27) H := hP
            have hD : va_D A (YW cy y0 r v24 f25 w26 g27) := hD
            have b3_v24 : 0 ≤ (v24 3).toInt ∧ (v24 3).toInt ≤ 1600 := YIb.b hIv24.1 3 (by decide)
            have pv28 : (v 3).toInt ≤ (v24 3).toInt := pv28
            have pv29 : (v24 5).toInt = (v 5).toInt ∨ (v 3).toInt < (v24 3).toInt ∨ ¬ (v24 5).toInt = 59 := pv29
            have hUv24 : (v24 35).toInt + (v24 36).toInt ≤ 40 := hIv24.2
            have hq0_v24 : v24 0 = (v 0) := hk0_v24
            have hq1_v24 : v24 1 = (v 1) := hk1_v24
            have hq4_v24 : v24 4 = (v 4) := hk4_v24
            have zq4_v24 := congrArg Int32.toInt hq4_v24
            have hq8_v24 : v24 8 = (v 8) := hk8_v24
            have hq9_v24 : v24 9 = (v 9) := hk9_v24
            have zq9_v24 := congrArg Int32.toInt hq9_v24
            have hq10_v24 : v24 10 = (v 10) := hk10_v24
            have hq24_v24 : v24 24 = (v 24) := hk24_v24
            have hq25_v24 : v24 25 = (v 25) := hk25_v24
            have hq35_v24 : v24 35 = (v 35) := hk35_v24
            have zq35_v24 := congrArg Int32.toInt hq35_v24
            have hq36_v24 : v24 36 = (v 36) := hk36_v24
            have zq36_v24 := congrArg Int32.toInt hq36_v24
            have hq38_v24 : v24 38 = (v 38) := hk38_v24
            have hq39_v24 : v24 39 = (v 39) := hk39_v24
            refine lv_iload_n hx hb dX11_toldNumber_62 rfl (lv_at hl 0 rfl) ?_
            exact ret (v 7) (v24, f25, w26, g27) _ _ _ _ _ _ rfl ⟨hIv24, hCf25, hRf25, hk0_v24, hk4_v24, hk8_v24, hk9_v24, hk10_v24, hk24_v24, hk25_v24, hk35_v24, hk36_v24, hk38_v24, hk39_v24, (by show (v 3).toInt ≤ (v24 3).toInt; omega), (by show (v24 5).toInt = (v 5).toInt ∨ (v 3).toInt < (v24 3).toInt ∨ ¬ (v24 5).toInt = 59; omega)⟩ hP hD hS dX11_toldNumber_63 (Nat.le_refl _) (Nat.le_refl _)
        · skip
          have zc21 : ¬ ((v 7).toInt ≤ p2.toInt) := by rw [fa_le] at c21; exact c21
          have rg30 := fb_rng p2
          refine lv_aload_n hx hb dX11_toldNumber_41 rfl (lv_at hl 0 rfl) ?_
          refine lv_iconst (v := 4) hx hb dX11_toldNumber_42 (by decide) ?_
          refine cbVv (n := 1) (rest := []) hx hb hml hown hts hE hP hD hS hA (sY_X11_wrong_1 l dC dI cy y0 r 4 v f w g hIv hCf hRf ) k_1641 k_1643 k_50 k_114 k_1644 (by decide +kernel) ⟨Nat.le_of_ble_eq_true rfl, Nat.le_of_ble_eq_true rfl⟩ 0 11 rfl rfl (rfl) hl.1 rfl (Nat.le_of_ble_eq_true rfl) dX11_toldNumber_43 (fun u H locs hw hP hD hS => ?_)
          obtain ⟨v31, f32, w33, g34⟩ := u
          obtain ⟨hIv31, hCf32, hRf32, hk0_v31, hk3_v31, hk4_v31, hk5_v31, hk8_v31, hk9_v31, hk10_v31, hk24_v31, hk25_v31, hk35_v31, hk36_v31, hk38_v31, hk39_v31, pv35, pv36⟩ := hw
          have hP : va_P (dC, dI) vwCl (YW cy y0 r v31 f32 w33 g34) H := hP
          have hD : va_D A (YW cy y0 r v31 f32 w33 g34) := hD
          have b3_v31 : 0 ≤ (v31 3).toInt ∧ (v31 3).toInt ≤ 1600 := YIb.b hIv31.1 3 (by decide)
          have pv35 : (v 3).toInt ≤ (v31 3).toInt := pv35
          have pv36 : (v31 5).toInt = (v 5).toInt ∨ (v 3).toInt < (v31 3).toInt ∨ ¬ (v31 5).toInt = 59 := pv36
          have hUv31 : (v31 35).toInt + (v31 36).toInt ≤ 40 := hIv31.2
          have hq0_v31 : v31 0 = (v 0) := hk0_v31
          have hq3_v31 : v31 3 = (v 3) := hk3_v31
          have zq3_v31 := congrArg Int32.toInt hq3_v31
          have hq4_v31 : v31 4 = (v 4) := hk4_v31
          have zq4_v31 := congrArg Int32.toInt hq4_v31
          have hq5_v31 : v31 5 = (v 5) := hk5_v31
          have zq5_v31 := congrArg Int32.toInt hq5_v31
          have hq8_v31 : v31 8 = (v 8) := hk8_v31
          have hq9_v31 : v31 9 = (v 9) := hk9_v31
          have zq9_v31 := congrArg Int32.toInt hq9_v31
          have hq10_v31 : v31 10 = (v 10) := hk10_v31
          have hq24_v31 : v31 24 = (v 24) := hk24_v31
          have hq25_v31 : v31 25 = (v 25) := hk25_v31
          have hq35_v31 : v31 35 = (v 35) := hk35_v31
          have zq35_v31 := congrArg Int32.toInt hq35_v31
          have hq36_v31 : v31 36 = (v 36) := hk36_v31
          have zq36_v31 := congrArg Int32.toInt hq36_v31
          have hq38_v31 : v31 38 = (v 38) := hk38_v31
          have hq39_v31 : v31 39 = (v 39) := hk39_v31
          refine lv_aload_n hx hb dX11_toldNumber_46 rfl (lv_at hl 0 rfl) ?_
          refine va_get (D := (dC, dI)) (ci := 11) (v := .int (v31 7)) (C := RX11) (T := TX11) (N := 79) hx hb hts inB_11 hown hE.1 hP 0 rfl rfl 8 (by decide) (hts _ k_1328) (fun _ h9 => h9) rfl dX11_toldNumber_47 ?_
          refine lv_istore_n (lv' := [(3, .int (v31 7)), (0, .ref y0), (1, .int p1), (2, .int p2)]) hx hb dX11_toldNumber_50 rfl hl (by decide) rfl (fun ls hl => ?_)
          refine lv_aload_n hx hb dX11_toldNumber_51 rfl (lv_at hl 1 rfl) ?_
          refine va_get (D := (dC, dI)) (ci := 11) (v := .int (v31 1)) (C := RX11) (T := TX11) (N := 79) hx hb hts inB_11 hown hE.1 hP 0 rfl rfl 2 (by decide) (hts _ k_1322) (fun _ h9 => h9) rfl dX11_toldNumber_52 ?_
          refine lv_if_ne (tgt := 62) hx hb dX11_toldNumber_55 (by decide) (fun c37 => ?_) (fun c37 => ?_)
          · skip
            have zc37 : ¬ ((v31 1).toInt = 0) := by rw [fa_eq, show (0 : Int32).toInt = 0 from by decide] at c37; exact c37
            refine lv_iload_n hx hb dX11_toldNumber_62 rfl (lv_at hl 0 rfl) ?_
            exact ret (v31 7) (v31, f32, w33, g34) _ _ _ _ _ _ rfl ⟨hIv31, hCf32, hRf32, hk0_v31, hk4_v31, hk8_v31, hk9_v31, hk10_v31, hk24_v31, hk25_v31, hk35_v31, hk36_v31, hk38_v31, hk39_v31, (by show (v 3).toInt ≤ (v31 3).toInt; omega), (by show (v31 5).toInt = (v 5).toInt ∨ (v 3).toInt < (v31 3).toInt ∨ ¬ (v31 5).toInt = 59; omega)⟩ hP hD hS dX11_toldNumber_63 (Nat.le_refl _) (Nat.le_refl _)
          · skip
            have zc37 : (v31 1).toInt = 0 := by rw [fa_eq, show (0 : Int32).toInt = 0 from by decide] at c37; exact c37
            refine lv_aload_n hx hb dX11_toldNumber_58 rfl (lv_at hl 1 rfl) ?_
            refine cbVv (n := 0) (rest := []) hx hb hml hown hts hE hP hD hS hA (sY_X11_token_1 l dC dI cy y0 r  v31 f32 w33 g34 hIv31 hCf32 hRf32 ) k_1579 k_1581 k_42 k_114 k_1582 (by decide +kernel) ⟨Nat.le_of_ble_eq_true rfl, Nat.le_of_ble_eq_true rfl⟩ 0 11 rfl rfl (rfl) hl.1 rfl (Nat.le_of_ble_eq_true rfl) dX11_toldNumber_59 (fun u H locs hw hP hD hS => ?_)
            obtain ⟨v38, f39, w40, g41⟩ := u
            obtain ⟨hIv38, hCf39, hRf39, hk0_v38, hk1_v38, hk4_v38, hk8_v38, hk9_v38, hk10_v38, hk24_v38, hk25_v38, hk35_v38, hk36_v38, hk38_v38, hk39_v38, pv42, pv43⟩ := hw
            have hP : va_P (dC, dI) vwCl (YW cy y0 r v38 f39 w40 g41) H := hP
            have hD : va_D A (YW cy y0 r v38 f39 w40 g41) := hD
            have b3_v38 : 0 ≤ (v38 3).toInt ∧ (v38 3).toInt ≤ 1600 := YIb.b hIv38.1 3 (by decide)
            have pv42 : (v31 3).toInt ≤ (v38 3).toInt := pv42
            have pv43 : (v38 5).toInt = (v31 5).toInt ∨ (v31 3).toInt < (v38 3).toInt ∨ ¬ (v38 5).toInt = 59 := pv43
            have hUv38 : (v38 35).toInt + (v38 36).toInt ≤ 40 := hIv38.2
            have hq0_v38 : v38 0 = (v 0) := hk0_v38.trans hq0_v31
            have hq1_v38 : v38 1 = (v31 1) := hk1_v38
            have hq4_v38 : v38 4 = (v 4) := hk4_v38.trans hq4_v31
            have zq4_v38 := congrArg Int32.toInt hq4_v38
            have hq8_v38 : v38 8 = (v 8) := hk8_v38.trans hq8_v31
            have hq9_v38 : v38 9 = (v 9) := hk9_v38.trans hq9_v31
            have zq9_v38 := congrArg Int32.toInt hq9_v38
            have hq10_v38 : v38 10 = (v 10) := hk10_v38.trans hq10_v31
            have hq24_v38 : v38 24 = (v 24) := hk24_v38.trans hq24_v31
            have hq25_v38 : v38 25 = (v 25) := hk25_v38.trans hq25_v31
            have hq35_v38 : v38 35 = (v 35) := hk35_v38.trans hq35_v31
            have zq35_v38 := congrArg Int32.toInt hq35_v38
            have hq36_v38 : v38 36 = (v 36) := hk36_v38.trans hq36_v31
            have zq36_v38 := congrArg Int32.toInt hq36_v38
            have hq38_v38 : v38 38 = (v 38) := hk38_v38.trans hq38_v31
            have hq39_v38 : v38 39 = (v 39) := hk39_v38.trans hq39_v31
            refine lv_iload_n hx hb dX11_toldNumber_62 rfl (lv_at hl 0 rfl) ?_
            exact ret (v31 7) (v38, f39, w40, g41) _ _ _ _ _ _ rfl ⟨hIv38, hCf39, hRf39, (hk0_v38.trans hk0_v31), (hk4_v38.trans hk4_v31), (hk8_v38.trans hk8_v31), (hk9_v38.trans hk9_v31), (hk10_v38.trans hk10_v31), (hk24_v38.trans hk24_v31), (hk25_v38.trans hk25_v31), (hk35_v38.trans hk35_v31), (hk36_v38.trans hk36_v31), (hk38_v38.trans hk38_v31), (hk39_v38.trans hk39_v31), (by show (v 3).toInt ≤ (v38 3).toInt; omega), (by show (v38 5).toInt = (v 5).toInt ∨ (v 3).toInt < (v38 3).toInt ∨ ¬ (v38 5).toInt = 59; omega)⟩ hP hD hS dX11_toldNumber_63 (Nat.le_refl _) (Nat.le_refl _)
    · skip
      have zc2 : ¬ ((v 5).toInt = 2) := by rw [fa_eq, show (2 : Int32).toInt = 2 from by decide] at c2; exact c2
      refine lv_aload_n hx hb dX11_toldNumber_17 rfl (lv_at hl 0 rfl) ?_
      refine lv_iconst (v := 2) hx hb dX11_toldNumber_18 (by decide) ?_
      refine cbVv (n := 1) (rest := []) hx hb hml hown hts hE hP hD hS hA (sY_X11_wrong_1 l dC dI cy y0 r 2 v f w g hIv hCf hRf ) k_1641 k_1643 k_50 k_114 k_1644 (by decide +kernel) ⟨Nat.le_of_ble_eq_true rfl, Nat.le_of_ble_eq_true rfl⟩ 0 11 rfl rfl (rfl) hl.1 rfl (Nat.le_of_ble_eq_true rfl) dX11_toldNumber_19 (fun u H locs hw hP hD hS => ?_)
      obtain ⟨v44, f45, w46, g47⟩ := u
      obtain ⟨hIv44, hCf45, hRf45, hk0_v44, hk3_v44, hk4_v44, hk5_v44, hk8_v44, hk9_v44, hk10_v44, hk24_v44, hk25_v44, hk35_v44, hk36_v44, hk38_v44, hk39_v44, pv48, pv49⟩ := hw
      have hP : va_P (dC, dI) vwCl (YW cy y0 r v44 f45 w46 g47) H := hP
      have hD : va_D A (YW cy y0 r v44 f45 w46 g47) := hD
      have b3_v44 : 0 ≤ (v44 3).toInt ∧ (v44 3).toInt ≤ 1600 := YIb.b hIv44.1 3 (by decide)
      have pv48 : (v 3).toInt ≤ (v44 3).toInt := pv48
      have pv49 : (v44 5).toInt = (v 5).toInt ∨ (v 3).toInt < (v44 3).toInt ∨ ¬ (v44 5).toInt = 59 := pv49
      have hUv44 : (v44 35).toInt + (v44 36).toInt ≤ 40 := hIv44.2
      have hq0_v44 : v44 0 = (v 0) := hk0_v44
      have hq3_v44 : v44 3 = (v 3) := hk3_v44
      have zq3_v44 := congrArg Int32.toInt hq3_v44
      have hq4_v44 : v44 4 = (v 4) := hk4_v44
      have zq4_v44 := congrArg Int32.toInt hq4_v44
      have hq5_v44 : v44 5 = (v 5) := hk5_v44
      have zq5_v44 := congrArg Int32.toInt hq5_v44
      have hq8_v44 : v44 8 = (v 8) := hk8_v44
      have hq9_v44 : v44 9 = (v 9) := hk9_v44
      have zq9_v44 := congrArg Int32.toInt hq9_v44
      have hq10_v44 : v44 10 = (v 10) := hk10_v44
      have hq24_v44 : v44 24 = (v 24) := hk24_v44
      have hq25_v44 : v44 25 = (v 25) := hk25_v44
      have hq35_v44 : v44 35 = (v 35) := hk35_v44
      have zq35_v44 := congrArg Int32.toInt hq35_v44
      have hq36_v44 : v44 36 = (v 36) := hk36_v44
      have zq36_v44 := congrArg Int32.toInt hq36_v44
      have hq38_v44 : v44 38 = (v 38) := hk38_v44
      have hq39_v44 : v44 39 = (v 39) := hk39_v44
      refine lv_goto (tgt := 46) hx hb dX11_toldNumber_22 (by decide) ?_
      refine lv_aload_n hx hb dX11_toldNumber_46 rfl (lv_at hl 0 rfl) ?_
      refine va_get (D := (dC, dI)) (ci := 11) (v := .int (v44 7)) (C := RX11) (T := TX11) (N := 79) hx hb hts inB_11 hown hE.1 hP 0 rfl rfl 8 (by decide) (hts _ k_1328) (fun _ h9 => h9) rfl dX11_toldNumber_47 ?_
      refine lv_istore_n (lv' := [(3, .int (v44 7)), (0, .ref y0), (1, .int p1), (2, .int p2)]) hx hb dX11_toldNumber_50 rfl hl (by decide) rfl (fun ls hl => ?_)
      refine lv_aload_n hx hb dX11_toldNumber_51 rfl (lv_at hl 1 rfl) ?_
      refine va_get (D := (dC, dI)) (ci := 11) (v := .int (v44 1)) (C := RX11) (T := TX11) (N := 79) hx hb hts inB_11 hown hE.1 hP 0 rfl rfl 2 (by decide) (hts _ k_1322) (fun _ h9 => h9) rfl dX11_toldNumber_52 ?_
      refine lv_if_ne (tgt := 62) hx hb dX11_toldNumber_55 (by decide) (fun c50 => ?_) (fun c50 => ?_)
      · skip
        have zc50 : ¬ ((v44 1).toInt = 0) := by rw [fa_eq, show (0 : Int32).toInt = 0 from by decide] at c50; exact c50
        refine lv_iload_n hx hb dX11_toldNumber_62 rfl (lv_at hl 0 rfl) ?_
        exact ret (v44 7) (v44, f45, w46, g47) _ _ _ _ _ _ rfl ⟨hIv44, hCf45, hRf45, hk0_v44, hk4_v44, hk8_v44, hk9_v44, hk10_v44, hk24_v44, hk25_v44, hk35_v44, hk36_v44, hk38_v44, hk39_v44, (by show (v 3).toInt ≤ (v44 3).toInt; omega), (by show (v44 5).toInt = (v 5).toInt ∨ (v 3).toInt < (v44 3).toInt ∨ ¬ (v44 5).toInt = 59; omega)⟩ hP hD hS dX11_toldNumber_63 (Nat.le_refl _) (Nat.le_refl _)
      · skip
        have zc50 : (v44 1).toInt = 0 := by rw [fa_eq, show (0 : Int32).toInt = 0 from by decide] at c50; exact c50
        refine lv_aload_n hx hb dX11_toldNumber_58 rfl (lv_at hl 1 rfl) ?_
        refine cbVv (n := 0) (rest := []) hx hb hml hown hts hE hP hD hS hA (sY_X11_token_1 l dC dI cy y0 r  v44 f45 w46 g47 hIv44 hCf45 hRf45 ) k_1579 k_1581 k_42 k_114 k_1582 (by decide +kernel) ⟨Nat.le_of_ble_eq_true rfl, Nat.le_of_ble_eq_true rfl⟩ 0 11 rfl rfl (rfl) hl.1 rfl (Nat.le_of_ble_eq_true rfl) dX11_toldNumber_59 (fun u H locs hw hP hD hS => ?_)
        obtain ⟨v51, f52, w53, g54⟩ := u
        obtain ⟨hIv51, hCf52, hRf52, hk0_v51, hk1_v51, hk4_v51, hk8_v51, hk9_v51, hk10_v51, hk24_v51, hk25_v51, hk35_v51, hk36_v51, hk38_v51, hk39_v51, pv55, pv56⟩ := hw
        have hP : va_P (dC, dI) vwCl (YW cy y0 r v51 f52 w53 g54) H := hP
        have hD : va_D A (YW cy y0 r v51 f52 w53 g54) := hD
        have b3_v51 : 0 ≤ (v51 3).toInt ∧ (v51 3).toInt ≤ 1600 := YIb.b hIv51.1 3 (by decide)
        have pv55 : (v44 3).toInt ≤ (v51 3).toInt := pv55
        have pv56 : (v51 5).toInt = (v44 5).toInt ∨ (v44 3).toInt < (v51 3).toInt ∨ ¬ (v51 5).toInt = 59 := pv56
        have hUv51 : (v51 35).toInt + (v51 36).toInt ≤ 40 := hIv51.2
        have hq0_v51 : v51 0 = (v 0) := hk0_v51.trans hq0_v44
        have hq1_v51 : v51 1 = (v44 1) := hk1_v51
        have hq4_v51 : v51 4 = (v 4) := hk4_v51.trans hq4_v44
        have zq4_v51 := congrArg Int32.toInt hq4_v51
        have hq8_v51 : v51 8 = (v 8) := hk8_v51.trans hq8_v44
        have hq9_v51 : v51 9 = (v 9) := hk9_v51.trans hq9_v44
        have zq9_v51 := congrArg Int32.toInt hq9_v51
        have hq10_v51 : v51 10 = (v 10) := hk10_v51.trans hq10_v44
        have hq24_v51 : v51 24 = (v 24) := hk24_v51.trans hq24_v44
        have hq25_v51 : v51 25 = (v 25) := hk25_v51.trans hq25_v44
        have hq35_v51 : v51 35 = (v 35) := hk35_v51.trans hq35_v44
        have zq35_v51 := congrArg Int32.toInt hq35_v51
        have hq36_v51 : v51 36 = (v 36) := hk36_v51.trans hq36_v44
        have zq36_v51 := congrArg Int32.toInt hq36_v51
        have hq38_v51 : v51 38 = (v 38) := hk38_v51.trans hq38_v44
        have hq39_v51 : v51 39 = (v 39) := hk39_v51.trans hq39_v44
        refine lv_iload_n hx hb dX11_toldNumber_62 rfl (lv_at hl 0 rfl) ?_
        exact ret (v44 7) (v51, f52, w53, g54) _ _ _ _ _ _ rfl ⟨hIv51, hCf52, hRf52, (hk0_v51.trans hk0_v44), (hk4_v51.trans hk4_v44), (hk8_v51.trans hk8_v44), (hk9_v51.trans hk9_v44), (hk10_v51.trans hk10_v44), (hk24_v51.trans hk24_v44), (hk25_v51.trans hk25_v44), (hk35_v51.trans hk35_v44), (hk36_v51.trans hk36_v44), (hk38_v51.trans hk38_v44), (hk39_v51.trans hk39_v44), (by show (v 3).toInt ≤ (v51 3).toInt; omega), (by show (v51 5).toInt = (v 5).toInt ∨ (v 3).toInt < (v51 3).toInt ∨ ¬ (v51 5).toInt = 59; omega)⟩ hP hD hS dX11_toldNumber_63 (Nat.le_refl _) (Nat.le_refl _)
  · skip
    have zc1 : ¬ ((v 1).toInt ≤ 0) := by rw [fa_le, show (0 : Int32).toInt = 0 from by decide] at c1; exact c1
    refine lv_iconst (v := 0) hx hb dX11_toldNumber_7 (by decide) ?_
    exact ret 0 (v, f, w, g) _ _ _ _ _ _ rfl ⟨hIv, hCf, hRf, rfl, rfl, rfl, rfl, rfl, rfl, rfl, rfl, rfl, rfl, rfl, (by show (v 3).toInt ≤ (v 3).toInt; omega), (by show (v 5).toInt = (v 5).toInt ∨ (v 3).toInt < (v 3).toInt ∨ ¬ (v 5).toInt = 59; omega)⟩ hP hD hS dX11_toldNumber_8 (Nat.le_refl _) (Nat.le_refl _)
set_option maxHeartbeats 4000000 in
set_option maxRecDepth 100000 in
theorem sY_X11_told_1 (l : Launch) (dC : Nat → ClassId) (dI : Nat → Nat → Nat) (cy : Nat → ClassId) (y0 : Nat) (r : Nat → Nat) (j1 : Int64) (p2 : Int32) (v : Nat → Int32) (f : Nat → Nat → Int32) (w : Int64) (g : Nat → Int64) (hIv : YI v) (hCf : YC f) (hRf : progOK (f 4) (f 5) (v 9).toInt.toNat)  : ctI l (dC, dI) cy yX11_told cX11_told 4 .int 4 126 0 0 ((Nat → Int32) × (Nat → Nat → Int32) × (Int64) × (Nat → Int64)) [.ref y0, .long j1, .int p2] (YW cy y0 r v f w g) (fun r u => YI u.1 ∧ YC u.2.1 ∧ progOK (u.2.1 4) (u.2.1 5) (u.1 9).toInt.toNat ∧ u.1 0 = v 0 ∧ u.1 4 = v 4 ∧ u.1 8 = v 8 ∧ u.1 9 = v 9 ∧ u.1 10 = v 10 ∧ u.1 24 = v 24 ∧ u.1 25 = v 25 ∧ u.1 35 = v 35 ∧ u.1 36 = v 36 ∧ u.1 38 = v 38 ∧ u.1 39 = v 39 ∧ ((v 3).toInt ≤ (u.1 3).toInt) ∧ ((u.1 5).toInt = (v 5).toInt ∨ (v 3).toInt < (u.1 3).toInt ∨ ¬ (u.1 5).toInt = 59)) (fun u => YW cy y0 r u.1 u.2.1 u.2.2.1 u.2.2.2) := by
  refine ctI_of (by decide) (Nat.le_of_ble_eq_true rfl) (fun p e s m below meth c A ls Q hx hb hml hts hown hE hP hD hA hl ret => ?_)
  have hUv : (v 35).toInt + (v 36).toInt ≤ 40 := hIv.2
  have hown : s.vm.findClass RX11 = some m.cls := hown
  have hS : va_S A s.heap s.heap [] := va_S.rf
  have hl : lv_has ls 4 [(0, .ref y0), (1, .long j1), (3, .int p2)] := hl
  refine lv_aload_n hx hb dX11_told_0 rfl (lv_at hl 0 rfl) ?_
  refine lv_lload_n hx hb dX11_told_1 rfl (lv_at hl 1 rfl) ?_
  refine cbVv (n := 1) (rest := []) hx hb hml hown hts hE hP hD hS hA (sY_X11_want_1 l dC dI cy y0 r j1 v f w g hIv hCf hRf ) k_1649 k_1651 k_52 k_114 k_1652 (by decide +kernel) ⟨Nat.le_of_ble_eq_true rfl, Nat.le_of_ble_eq_true rfl⟩ 0 11 rfl rfl (rfl) hl.1 rfl (Nat.le_of_ble_eq_true rfl) dX11_told_2 (fun u H locs hw hP hD hS => ?_)
  obtain ⟨v1, f2, w3, g4⟩ := u
  obtain ⟨hIv1, hCf2, hRf2, hk0_v1, hk4_v1, hk8_v1, hk9_v1, hk10_v1, hk24_v1, hk25_v1, hk35_v1, hk36_v1, hk38_v1, hk39_v1, pv5, pv6⟩ := hw
  have hP : va_P (dC, dI) vwCl (YW cy y0 r v1 f2 w3 g4) H := hP
  have hD : va_D A (YW cy y0 r v1 f2 w3 g4) := hD
  have b3_v1 : 0 ≤ (v1 3).toInt ∧ (v1 3).toInt ≤ 1600 := YIb.b hIv1.1 3 (by decide)
  have pv5 : (v 3).toInt ≤ (v1 3).toInt := pv5
  have pv6 : (v1 5).toInt = (v 5).toInt ∨ (v 3).toInt < (v1 3).toInt ∨ ¬ (v1 5).toInt = 59 := pv6
  have hUv1 : (v1 35).toInt + (v1 36).toInt ≤ 40 := hIv1.2
  have hq0_v1 : v1 0 = (v 0) := hk0_v1
  have hq4_v1 : v1 4 = (v 4) := hk4_v1
  have zq4_v1 := congrArg Int32.toInt hq4_v1
  have hq8_v1 : v1 8 = (v 8) := hk8_v1
  have hq9_v1 : v1 9 = (v 9) := hk9_v1
  have zq9_v1 := congrArg Int32.toInt hq9_v1
  have hq10_v1 : v1 10 = (v 10) := hk10_v1
  have hq24_v1 : v1 24 = (v 24) := hk24_v1
  have hq25_v1 : v1 25 = (v 25) := hk25_v1
  have hq35_v1 : v1 35 = (v 35) := hk35_v1
  have zq35_v1 := congrArg Int32.toInt hq35_v1
  have hq36_v1 : v1 36 = (v 36) := hk36_v1
  have zq36_v1 := congrArg Int32.toInt hq36_v1
  have hq38_v1 : v1 38 = (v 38) := hk38_v1
  have hq39_v1 : v1 39 = (v 39) := hk39_v1
  refine lv_aload_n hx hb dX11_told_5 rfl (lv_at hl 0 rfl) ?_
  refine lv_iconst (v := 0) hx hb dX11_told_6 (by decide) ?_
  refine lv_iload_n hx hb dX11_told_7 rfl (lv_at hl 2 rfl) ?_
  refine cbVi (n := 2) (rest := []) hx hb hml hown hts hE hP hD hS hA (sY_X11_toldNumber_1 l dC dI cy y0 r 0 p2 v1 f2 w3 g4 hIv1 hCf2 hRf2 ) k_1653 k_1655 k_53 k_114 k_1656 (by decide +kernel) ⟨Nat.le_of_ble_eq_true rfl, Nat.le_of_ble_eq_true rfl⟩ 0 11 rfl rfl (rfl) hl.1 rfl (Nat.le_of_ble_eq_true rfl) dX11_told_8 (fun r7 u H locs hw hP hD hS => ?_)
  obtain ⟨v8, f9, w10, g11⟩ := u
  obtain ⟨hIv8, hCf9, hRf9, hk0_v8, hk4_v8, hk8_v8, hk9_v8, hk10_v8, hk24_v8, hk25_v8, hk35_v8, hk36_v8, hk38_v8, hk39_v8, pv12, pv13⟩ := hw
  have hP : va_P (dC, dI) vwCl (YW cy y0 r v8 f9 w10 g11) H := hP
  have hD : va_D A (YW cy y0 r v8 f9 w10 g11) := hD
  have b3_v8 : 0 ≤ (v8 3).toInt ∧ (v8 3).toInt ≤ 1600 := YIb.b hIv8.1 3 (by decide)
  have pv12 : (v1 3).toInt ≤ (v8 3).toInt := pv12
  have pv13 : (v8 5).toInt = (v1 5).toInt ∨ (v1 3).toInt < (v8 3).toInt ∨ ¬ (v8 5).toInt = 59 := pv13
  have hUv8 : (v8 35).toInt + (v8 36).toInt ≤ 40 := hIv8.2
  have hq0_v8 : v8 0 = (v 0) := hk0_v8.trans hq0_v1
  have hq4_v8 : v8 4 = (v 4) := hk4_v8.trans hq4_v1
  have zq4_v8 := congrArg Int32.toInt hq4_v8
  have hq8_v8 : v8 8 = (v 8) := hk8_v8.trans hq8_v1
  have hq9_v8 : v8 9 = (v 9) := hk9_v8.trans hq9_v1
  have zq9_v8 := congrArg Int32.toInt hq9_v8
  have hq10_v8 : v8 10 = (v 10) := hk10_v8.trans hq10_v1
  have hq24_v8 : v8 24 = (v 24) := hk24_v8.trans hq24_v1
  have hq25_v8 : v8 25 = (v 25) := hk25_v8.trans hq25_v1
  have hq35_v8 : v8 35 = (v 35) := hk35_v8.trans hq35_v1
  have zq35_v8 := congrArg Int32.toInt hq35_v8
  have hq36_v8 : v8 36 = (v 36) := hk36_v8.trans hq36_v1
  have zq36_v8 := congrArg Int32.toInt hq36_v8
  have hq38_v8 : v8 38 = (v 38) := hk38_v8.trans hq38_v1
  have hq39_v8 : v8 39 = (v 39) := hk39_v8.trans hq39_v1
  exact ret r7 (v8, f9, w10, g11) _ _ _ _ _ _ rfl ⟨hIv8, hCf9, hRf9, (hk0_v8.trans hk0_v1), (hk4_v8.trans hk4_v1), (hk8_v8.trans hk8_v1), (hk9_v8.trans hk9_v1), (hk10_v8.trans hk10_v1), (hk24_v8.trans hk24_v1), (hk25_v8.trans hk25_v1), (hk35_v8.trans hk35_v1), (hk36_v8.trans hk36_v1), (hk38_v8.trans hk38_v1), (hk39_v8.trans hk39_v1), (by show (v 3).toInt ≤ (v8 3).toInt; omega), (by show (v8 5).toInt = (v 5).toInt ∨ (v 3).toInt < (v8 3).toInt ∨ ¬ (v8 5).toInt = 59; omega)⟩ hP hD hS dX11_told_11 (Nat.le_refl _) (Nat.le_refl _)
set_option maxHeartbeats 4000000 in
set_option maxRecDepth 100000 in
theorem sY_X11_option_1 (l : Launch) (dC : Nat → ClassId) (dI : Nat → Nat → Nat) (cy : Nat → ClassId) (y0 : Nat) (r : Nat → Nat) (j1 : Int64) (p2 : Int32) (v : Nat → Int32) (f : Nat → Nat → Int32) (w : Int64) (g : Nat → Int64) (hIv : YI v) (hCf : YC f) (hRf : progOK (f 4) (f 5) (v 9).toInt.toNat)  : ctI l (dC, dI) cy yX11_option cX11_option 4 .int 5 149 0 0 ((Nat → Int32) × (Nat → Nat → Int32) × (Int64) × (Nat → Int64)) [.ref y0, .long j1, .int p2] (YW cy y0 r v f w g) (fun r u => YI u.1 ∧ YC u.2.1 ∧ progOK (u.2.1 4) (u.2.1 5) (u.1 9).toInt.toNat ∧ u.1 0 = v 0 ∧ u.1 4 = v 4 ∧ u.1 8 = v 8 ∧ u.1 9 = v 9 ∧ u.1 10 = v 10 ∧ u.1 24 = v 24 ∧ u.1 25 = v 25 ∧ u.1 35 = v 35 ∧ u.1 36 = v 36 ∧ u.1 38 = v 38 ∧ u.1 39 = v 39 ∧ ((v 3).toInt ≤ (u.1 3).toInt) ∧ ((u.1 5).toInt = (v 5).toInt ∨ (v 3).toInt < (u.1 3).toInt ∨ ¬ (u.1 5).toInt = 59)) (fun u => YW cy y0 r u.1 u.2.1 u.2.2.1 u.2.2.2) := by
  refine ctI_of (by decide) (Nat.le_of_ble_eq_true rfl) (fun p e s m below meth c A ls Q hx hb hml hts hown hE hP hD hA hl ret => ?_)
  have hUv : (v 35).toInt + (v 36).toInt ≤ 40 := hIv.2
  have hown : s.vm.findClass RX11 = some m.cls := hown
  have hS : va_S A s.heap s.heap [] := va_S.rf
  have hl : lv_has ls 4 [(0, .ref y0), (1, .long j1), (3, .int p2)] := hl
  refine lv_aload_n hx hb dX11_option_0 rfl (lv_at hl 0 rfl) ?_
  refine va_get (D := (dC, dI)) (ci := 11) (v := .int (v 1)) (C := RX11) (T := TX11) (N := 79) hx hb hts inB_11 hown hE.1 hP 0 rfl rfl 2 (by decide) (hts _ k_1322) (fun _ h9 => h9) rfl dX11_option_1 ?_
  refine lv_if_ne (tgt := 24) hx hb dX11_option_4 (by decide) (fun c1 => ?_) (fun c1 => ?_)
  · skip
    have zc1 : ¬ ((v 1).toInt = 0) := by rw [fa_eq, show (0 : Int32).toInt = 0 from by decide] at c1; exact c1
    refine lv_iconst (v := 0) hx hb dX11_option_24 (by decide) ?_
    exact ret 0 (v, f, w, g) _ _ _ _ _ _ rfl ⟨hIv, hCf, hRf, rfl, rfl, rfl, rfl, rfl, rfl, rfl, rfl, rfl, rfl, rfl, (by show (v 3).toInt ≤ (v 3).toInt; omega), (by show (v 5).toInt = (v 5).toInt ∨ (v 3).toInt < (v 3).toInt ∨ ¬ (v 5).toInt = 59; omega)⟩ hP hD hS dX11_option_25 (Nat.le_refl _) (Nat.le_refl _)
  · skip
    have zc1 : (v 1).toInt = 0 := by rw [fa_eq, show (0 : Int32).toInt = 0 from by decide] at c1; exact c1
    refine lv_aload_n hx hb dX11_option_7 rfl (lv_at hl 0 rfl) ?_
    refine lv_lload_n hx hb dX11_option_8 rfl (lv_at hl 1 rfl) ?_
    refine cbVi (n := 1) (rest := []) hx hb hml hown hts hE hP hD hS hA (sY_X11_isWord_1 l dC dI cy y0 r j1 v f w g hIv hCf hRf ) k_1601 k_1603 k_45 k_114 k_1604 (by decide +kernel) ⟨Nat.le_of_ble_eq_true rfl, Nat.le_of_ble_eq_true rfl⟩ 0 11 rfl rfl (rfl) hl.1 rfl (Nat.le_of_ble_eq_true rfl) dX11_option_9 (fun r2 u H locs hw hP hD hS => ?_)
    rcases hw with ⟨g3, g3_0⟩ | ⟨g3⟩
    · skip
      subst g3
      refine lv_if_eq (tgt := 24) hx hb dX11_option_12 (by decide) (fun c0 => absurd c0 (by decide)) (fun _ => ?_)
      refine lv_aload_n hx hb dX11_option_15 rfl (lv_at hl 0 rfl) ?_
      refine lv_lload_n hx hb dX11_option_16 rfl (lv_at hl 1 rfl) ?_
      refine lv_iload_n hx hb dX11_option_17 rfl (lv_at hl 2 rfl) ?_
      refine cbVi (n := 2) (rest := []) hx hb hml hown hts hE hP hD hS hA (sY_X11_told_1 l dC dI cy y0 r j1 p2 v f w g hIv hCf hRf ) k_1645 k_1647 k_51 k_114 k_1648 (by decide +kernel) ⟨Nat.le_of_ble_eq_true rfl, Nat.le_of_ble_eq_true rfl⟩ 0 11 rfl rfl (rfl) hl.1 rfl (Nat.le_of_ble_eq_true rfl) dX11_option_18 (fun r4 u H locs hw hP hD hS => ?_)
      obtain ⟨v5, f6, w7, g8⟩ := u
      obtain ⟨hIv5, hCf6, hRf6, hk0_v5, hk4_v5, hk8_v5, hk9_v5, hk10_v5, hk24_v5, hk25_v5, hk35_v5, hk36_v5, hk38_v5, hk39_v5, pv9, pv10⟩ := hw
      have hP : va_P (dC, dI) vwCl (YW cy y0 r v5 f6 w7 g8) H := hP
      have hD : va_D A (YW cy y0 r v5 f6 w7 g8) := hD
      have b3_v5 : 0 ≤ (v5 3).toInt ∧ (v5 3).toInt ≤ 1600 := YIb.b hIv5.1 3 (by decide)
      have pv9 : (v 3).toInt ≤ (v5 3).toInt := pv9
      have pv10 : (v5 5).toInt = (v 5).toInt ∨ (v 3).toInt < (v5 3).toInt ∨ ¬ (v5 5).toInt = 59 := pv10
      have hUv5 : (v5 35).toInt + (v5 36).toInt ≤ 40 := hIv5.2
      have hq0_v5 : v5 0 = (v 0) := hk0_v5
      have hq4_v5 : v5 4 = (v 4) := hk4_v5
      have zq4_v5 := congrArg Int32.toInt hq4_v5
      have hq8_v5 : v5 8 = (v 8) := hk8_v5
      have hq9_v5 : v5 9 = (v 9) := hk9_v5
      have zq9_v5 := congrArg Int32.toInt hq9_v5
      have hq10_v5 : v5 10 = (v 10) := hk10_v5
      have hq24_v5 : v5 24 = (v 24) := hk24_v5
      have hq25_v5 : v5 25 = (v 25) := hk25_v5
      have hq35_v5 : v5 35 = (v 35) := hk35_v5
      have zq35_v5 := congrArg Int32.toInt hq35_v5
      have hq36_v5 : v5 36 = (v 36) := hk36_v5
      have zq36_v5 := congrArg Int32.toInt hq36_v5
      have hq38_v5 : v5 38 = (v 38) := hk38_v5
      have hq39_v5 : v5 39 = (v 39) := hk39_v5
      refine lv_goto (tgt := 25) hx hb dX11_option_21 (by decide) ?_
      exact ret r4 (v5, f6, w7, g8) _ _ _ _ _ _ rfl ⟨hIv5, hCf6, hRf6, hk0_v5, hk4_v5, hk8_v5, hk9_v5, hk10_v5, hk24_v5, hk25_v5, hk35_v5, hk36_v5, hk38_v5, hk39_v5, (by show (v 3).toInt ≤ (v5 3).toInt; omega), (by show (v5 5).toInt = (v 5).toInt ∨ (v 3).toInt < (v5 3).toInt ∨ ¬ (v5 5).toInt = 59; omega)⟩ hP hD hS dX11_option_25 (Nat.le_refl _) (Nat.le_refl _)
    · skip
      subst g3
      refine lv_if_eq (tgt := 24) hx hb dX11_option_12 (by decide) (fun _ => ?_) (fun c0 => absurd (by decide) c0)
      refine lv_iconst (v := 0) hx hb dX11_option_24 (by decide) ?_
      exact ret 0 (v, f, w, g) _ _ _ _ _ _ rfl ⟨hIv, hCf, hRf, rfl, rfl, rfl, rfl, rfl, rfl, rfl, rfl, rfl, rfl, rfl, (by show (v 3).toInt ≤ (v 3).toInt; omega), (by show (v 5).toInt = (v 5).toInt ∨ (v 3).toInt < (v 3).toInt ∨ ¬ (v 5).toInt = 59; omega)⟩ hP hD hS dX11_option_25 (Nat.le_refl _) (Nat.le_refl _)
set_option maxHeartbeats 4000000 in
set_option maxRecDepth 100000 in
theorem sY_X11_isOwn_1 (l : Launch) (dC : Nat → ClassId) (dI : Nat → Nat → Nat) (cy : Nat → ClassId) (y0 : Nat) (r : Nat → Nat)  (v : Nat → Int32) (f : Nat → Nat → Int32) (w : Int64) (g : Nat → Int64) (hIv : YI v) (hCf : YC f) (hRf : progOK (f 4) (f 5) (v 9).toInt.toNat)  : ctI l (dC, dI) cy yX11_isOwn cX11_isOwn 1 .boolean 1 60 0 0 Unit [.ref y0] (YW cy y0 r v f w g) (fun r u => ((r = 1) ∨ (r = 0))) (fun u => YW cy y0 r v f w g) := by
  refine ctI_of (by decide) (Nat.le_of_ble_eq_true rfl) (fun p e s m below meth c A ls Q hx hb hml hts hown hE hP hD hA hl ret => ?_)
  have hUv : (v 35).toInt + (v 36).toInt ≤ 40 := hIv.2
  have hown : s.vm.findClass RX11 = some m.cls := hown
  have hS : va_S A s.heap s.heap [] := va_S.rf
  have hl : lv_has ls 1 [(0, .ref y0)] := hl
  refine lv_aload_n hx hb dX11_isOwn_0 rfl (lv_at hl 0 rfl) ?_
  refine va_get (D := (dC, dI)) (ci := 11) (v := .long w) (C := RX11) (T := TX11) (N := 79) hx hb hts inB_11 hown hE.1 hP 0 rfl rfl 9 (by decide) (hts _ k_1329) (fun _ h9 => h9) rfl dX11_isOwn_1 ?_
  refine lv_ldc2 (v := 7168366) hx hb hown (hts _ k_1600) dX11_isOwn_4 ?_
  refine W.lcmp hx hb dX11_isOwn_7 ?_
  refine lv_topi (fun t1 et1 => ?_)
  refine lv_if_eq (tgt := 231) hx hb dX11_isOwn_8 (by decide) (fun c2 => ?_) (fun c2 => ?_)
  · skip
    have zc2 : t1.toInt = 0 := by rw [fa_eq, show (0 : Int32).toInt = 0 from by decide] at c2; exact c2
    refine lv_iconst (v := 1) hx hb dX11_isOwn_231 (by decide) ?_
    refine lv_goto (tgt := 236) hx hb dX11_isOwn_232 (by decide) ?_
    exact ret 1 () _ _ _ _ _ _ rfl (Or.inl rfl) hP hD hS dX11_isOwn_236 (Nat.le_refl _) (Nat.le_refl _)
  · skip
    have zc2 : ¬ (t1.toInt = 0) := by rw [fa_eq, show (0 : Int32).toInt = 0 from by decide] at c2; exact c2
    refine lv_aload_n hx hb dX11_isOwn_11 rfl (lv_at hl 0 rfl) ?_
    refine va_get (D := (dC, dI)) (ci := 11) (v := .long w) (C := RX11) (T := TX11) (N := 79) hx hb hts inB_11 hown hE.1 hP 0 rfl rfl 9 (by decide) (hts _ k_1329) (fun _ h9 => h9) rfl dX11_isOwn_12 ?_
    refine lv_ldc2 (v := 1952541804) hx hb hown (hts _ k_1621) dX11_isOwn_15 ?_
    refine W.lcmp hx hb dX11_isOwn_18 ?_
    refine lv_topi (fun t3 et3 => ?_)
    refine lv_if_eq (tgt := 231) hx hb dX11_isOwn_19 (by decide) (fun c4 => ?_) (fun c4 => ?_)
    · skip
      have zc4 : t3.toInt = 0 := by rw [fa_eq, show (0 : Int32).toInt = 0 from by decide] at c4; exact c4
      refine lv_iconst (v := 1) hx hb dX11_isOwn_231 (by decide) ?_
      refine lv_goto (tgt := 236) hx hb dX11_isOwn_232 (by decide) ?_
      exact ret 1 () _ _ _ _ _ _ rfl (Or.inl rfl) hP hD hS dX11_isOwn_236 (Nat.le_refl _) (Nat.le_refl _)
    · skip
      have zc4 : ¬ (t3.toInt = 0) := by rw [fa_eq, show (0 : Int32).toInt = 0 from by decide] at c4; exact c4
      refine lv_aload_n hx hb dX11_isOwn_22 rfl (lv_at hl 0 rfl) ?_
      refine va_get (D := (dC, dI)) (ci := 11) (v := .long w) (C := RX11) (T := TX11) (N := 79) hx hb hts inB_11 hown hE.1 hP 0 rfl rfl 9 (by decide) (hts _ k_1329) (fun _ h9 => h9) rfl dX11_isOwn_23 ?_
      refine lv_ldc2 (v := 2003395685) hx hb hown (hts _ k_1622) dX11_isOwn_26 ?_
      refine W.lcmp hx hb dX11_isOwn_29 ?_
      refine lv_topi (fun t5 et5 => ?_)
      refine lv_if_eq (tgt := 231) hx hb dX11_isOwn_30 (by decide) (fun c6 => ?_) (fun c6 => ?_)
      · skip
        have zc6 : t5.toInt = 0 := by rw [fa_eq, show (0 : Int32).toInt = 0 from by decide] at c6; exact c6
        refine lv_iconst (v := 1) hx hb dX11_isOwn_231 (by decide) ?_
        refine lv_goto (tgt := 236) hx hb dX11_isOwn_232 (by decide) ?_
        exact ret 1 () _ _ _ _ _ _ rfl (Or.inl rfl) hP hD hS dX11_isOwn_236 (Nat.le_refl _) (Nat.le_refl _)
      · skip
        have zc6 : ¬ (t5.toInt = 0) := by rw [fa_eq, show (0 : Int32).toInt = 0 from by decide] at c6; exact c6
        refine lv_aload_n hx hb dX11_isOwn_33 rfl (lv_at hl 0 rfl) ?_
        refine va_get (D := (dC, dI)) (ci := 11) (v := .long w) (C := RX11) (T := TX11) (N := 79) hx hb hts inB_11 hown hE.1 hP 0 rfl rfl 9 (by decide) (hts _ k_1329) (fun _ h9 => h9) rfl dX11_isOwn_34 ?_
        refine lv_ldc2 (v := 444301539187) hx hb hown (hts _ k_1623) dX11_isOwn_37 ?_
        refine W.lcmp hx hb dX11_isOwn_40 ?_
        refine lv_topi (fun t7 et7 => ?_)
        refine lv_if_eq (tgt := 231) hx hb dX11_isOwn_41 (by decide) (fun c8 => ?_) (fun c8 => ?_)
        · skip
          have zc8 : t7.toInt = 0 := by rw [fa_eq, show (0 : Int32).toInt = 0 from by decide] at c8; exact c8
          refine lv_iconst (v := 1) hx hb dX11_isOwn_231 (by decide) ?_
          refine lv_goto (tgt := 236) hx hb dX11_isOwn_232 (by decide) ?_
          exact ret 1 () _ _ _ _ _ _ rfl (Or.inl rfl) hP hD hS dX11_isOwn_236 (Nat.le_refl _) (Nat.le_refl _)
        · skip
          have zc8 : ¬ (t7.toInt = 0) := by rw [fa_eq, show (0 : Int32).toInt = 0 from by decide] at c8; exact c8
          refine lv_aload_n hx hb dX11_isOwn_44 rfl (lv_at hl 0 rfl) ?_
          refine va_get (D := (dC, dI)) (ci := 11) (v := .long w) (C := RX11) (T := TX11) (N := 79) hx hb hts inB_11 hown hE.1 hP 0 rfl rfl 9 (by decide) (hts _ k_1329) (fun _ h9 => h9) rfl dX11_isOwn_45 ?_
          refine lv_ldc2 (v := 1668243828) hx hb hown (hts _ k_1624) dX11_isOwn_48 ?_
          refine W.lcmp hx hb dX11_isOwn_51 ?_
          refine lv_topi (fun t9 et9 => ?_)
          refine lv_if_eq (tgt := 231) hx hb dX11_isOwn_52 (by decide) (fun c10 => ?_) (fun c10 => ?_)
          · skip
            have zc10 : t9.toInt = 0 := by rw [fa_eq, show (0 : Int32).toInt = 0 from by decide] at c10; exact c10
            refine lv_iconst (v := 1) hx hb dX11_isOwn_231 (by decide) ?_
            refine lv_goto (tgt := 236) hx hb dX11_isOwn_232 (by decide) ?_
            exact ret 1 () _ _ _ _ _ _ rfl (Or.inl rfl) hP hD hS dX11_isOwn_236 (Nat.le_refl _) (Nat.le_refl _)
          · skip
            have zc10 : ¬ (t9.toInt = 0) := by rw [fa_eq, show (0 : Int32).toInt = 0 from by decide] at c10; exact c10
            refine lv_aload_n hx hb dX11_isOwn_55 rfl (lv_at hl 0 rfl) ?_
            refine va_get (D := (dC, dI)) (ci := 11) (v := .long w) (C := RX11) (T := TX11) (N := 79) hx hb hts inB_11 hown hE.1 hP 0 rfl rfl 9 (by decide) (hts _ k_1329) (fun _ h9 => h9) rfl dX11_isOwn_56 ?_
            refine lv_ldc2 (v := 1936023917) hx hb hown (hts _ k_1625) dX11_isOwn_59 ?_
            refine W.lcmp hx hb dX11_isOwn_62 ?_
            refine lv_topi (fun t11 et11 => ?_)
            refine lv_if_eq (tgt := 231) hx hb dX11_isOwn_63 (by decide) (fun c12 => ?_) (fun c12 => ?_)
            · skip
              have zc12 : t11.toInt = 0 := by rw [fa_eq, show (0 : Int32).toInt = 0 from by decide] at c12; exact c12
              refine lv_iconst (v := 1) hx hb dX11_isOwn_231 (by decide) ?_
              refine lv_goto (tgt := 236) hx hb dX11_isOwn_232 (by decide) ?_
              exact ret 1 () _ _ _ _ _ _ rfl (Or.inl rfl) hP hD hS dX11_isOwn_236 (Nat.le_refl _) (Nat.le_refl _)
            · skip
              have zc12 : ¬ (t11.toInt = 0) := by rw [fa_eq, show (0 : Int32).toInt = 0 from by decide] at c12; exact c12
              refine lv_aload_n hx hb dX11_isOwn_66 rfl (lv_at hl 0 rfl) ?_
              refine va_get (D := (dC, dI)) (ci := 11) (v := .long w) (C := RX11) (T := TX11) (N := 79) hx hb hts inB_11 hown hE.1 hP 0 rfl rfl 9 (by decide) (hts _ k_1329) (fun _ h9 => h9) rfl dX11_isOwn_67 ?_
              refine lv_ldc2 (v := 2003792494) hx hb hown (hts _ k_1626) dX11_isOwn_70 ?_
              refine W.lcmp hx hb dX11_isOwn_73 ?_
              refine lv_topi (fun t13 et13 => ?_)
              refine lv_if_eq (tgt := 231) hx hb dX11_isOwn_74 (by decide) (fun c14 => ?_) (fun c14 => ?_)
              · skip
                have zc14 : t13.toInt = 0 := by rw [fa_eq, show (0 : Int32).toInt = 0 from by decide] at c14; exact c14
                refine lv_iconst (v := 1) hx hb dX11_isOwn_231 (by decide) ?_
                refine lv_goto (tgt := 236) hx hb dX11_isOwn_232 (by decide) ?_
                exact ret 1 () _ _ _ _ _ _ rfl (Or.inl rfl) hP hD hS dX11_isOwn_236 (Nat.le_refl _) (Nat.le_refl _)
              · skip
                have zc14 : ¬ (t13.toInt = 0) := by rw [fa_eq, show (0 : Int32).toInt = 0 from by decide] at c14; exact c14
                refine lv_aload_n hx hb dX11_isOwn_77 rfl (lv_at hl 0 rfl) ?_
                refine va_get (D := (dC, dI)) (ci := 11) (v := .long w) (C := RX11) (T := TX11) (N := 79) hx hb hts inB_11 hown hE.1 hP 0 rfl rfl 9 (by decide) (hts _ k_1329) (fun _ h9 => h9) rfl dX11_isOwn_78 ?_
                refine lv_ldc2 (v := 6909036) hx hb hown (hts _ k_1627) dX11_isOwn_81 ?_
                refine W.lcmp hx hb dX11_isOwn_84 ?_
                refine lv_topi (fun t15 et15 => ?_)
                refine lv_if_eq (tgt := 231) hx hb dX11_isOwn_85 (by decide) (fun c16 => ?_) (fun c16 => ?_)
                · skip
                  have zc16 : t15.toInt = 0 := by rw [fa_eq, show (0 : Int32).toInt = 0 from by decide] at c16; exact c16
                  refine lv_iconst (v := 1) hx hb dX11_isOwn_231 (by decide) ?_
                  refine lv_goto (tgt := 236) hx hb dX11_isOwn_232 (by decide) ?_
                  exact ret 1 () _ _ _ _ _ _ rfl (Or.inl rfl) hP hD hS dX11_isOwn_236 (Nat.le_refl _) (Nat.le_refl _)
                · skip
                  have zc16 : ¬ (t15.toInt = 0) := by rw [fa_eq, show (0 : Int32).toInt = 0 from by decide] at c16; exact c16
                  refine lv_aload_n hx hb dX11_isOwn_88 rfl (lv_at hl 0 rfl) ?_
                  refine va_get (D := (dC, dI)) (ci := 11) (v := .long w) (C := RX11) (T := TX11) (N := 79) hx hb hts inB_11 hown hE.1 hP 0 rfl rfl 9 (by decide) (hts _ k_1329) (fun _ h9 => h9) rfl dX11_isOwn_89 ?_
                  refine lv_ldc2 (v := 1700885369) hx hb hown (hts _ k_1628) dX11_isOwn_92 ?_
                  refine W.lcmp hx hb dX11_isOwn_95 ?_
                  refine lv_topi (fun t17 et17 => ?_)
                  refine lv_if_eq (tgt := 231) hx hb dX11_isOwn_96 (by decide) (fun c18 => ?_) (fun c18 => ?_)
                  · skip
                    have zc18 : t17.toInt = 0 := by rw [fa_eq, show (0 : Int32).toInt = 0 from by decide] at c18; exact c18
                    refine lv_iconst (v := 1) hx hb dX11_isOwn_231 (by decide) ?_
                    refine lv_goto (tgt := 236) hx hb dX11_isOwn_232 (by decide) ?_
                    exact ret 1 () _ _ _ _ _ _ rfl (Or.inl rfl) hP hD hS dX11_isOwn_236 (Nat.le_refl _) (Nat.le_refl _)
                  · skip
                    have zc18 : ¬ (t17.toInt = 0) := by rw [fa_eq, show (0 : Int32).toInt = 0 from by decide] at c18; exact c18
                    refine lv_aload_n hx hb dX11_isOwn_99 rfl (lv_at hl 0 rfl) ?_
                    refine va_get (D := (dC, dI)) (ci := 11) (v := .long w) (C := RX11) (T := TX11) (N := 79) hx hb hts inB_11 hown hE.1 hP 0 rfl rfl 9 (by decide) (hts _ k_1329) (fun _ h9 => h9) rfl dX11_isOwn_100 ?_
                    refine lv_ldc2 (v := 1651469428) hx hb hown (hts _ k_1629) dX11_isOwn_103 ?_
                    refine W.lcmp hx hb dX11_isOwn_106 ?_
                    refine lv_topi (fun t19 et19 => ?_)
                    refine lv_if_eq (tgt := 231) hx hb dX11_isOwn_107 (by decide) (fun c20 => ?_) (fun c20 => ?_)
                    · skip
                      have zc20 : t19.toInt = 0 := by rw [fa_eq, show (0 : Int32).toInt = 0 from by decide] at c20; exact c20
                      refine lv_iconst (v := 1) hx hb dX11_isOwn_231 (by decide) ?_
                      refine lv_goto (tgt := 236) hx hb dX11_isOwn_232 (by decide) ?_
                      exact ret 1 () _ _ _ _ _ _ rfl (Or.inl rfl) hP hD hS dX11_isOwn_236 (Nat.le_refl _) (Nat.le_refl _)
                    · skip
                      have zc20 : ¬ (t19.toInt = 0) := by rw [fa_eq, show (0 : Int32).toInt = 0 from by decide] at c20; exact c20
                      refine lv_aload_n hx hb dX11_isOwn_110 rfl (lv_at hl 0 rfl) ?_
                      refine va_get (D := (dC, dI)) (ci := 11) (v := .long w) (C := RX11) (T := TX11) (N := 79) hx hb hts inB_11 hown hE.1 hP 0 rfl rfl 9 (by decide) (hts _ k_1329) (fun _ h9 => h9) rfl dX11_isOwn_111 ?_
                      refine lv_ldc2 (v := 1818848101) hx hb hown (hts _ k_1630) dX11_isOwn_114 ?_
                      refine W.lcmp hx hb dX11_isOwn_117 ?_
                      refine lv_topi (fun t21 et21 => ?_)
                      refine lv_if_eq (tgt := 231) hx hb dX11_isOwn_118 (by decide) (fun c22 => ?_) (fun c22 => ?_)
                      · skip
                        have zc22 : t21.toInt = 0 := by rw [fa_eq, show (0 : Int32).toInt = 0 from by decide] at c22; exact c22
                        refine lv_iconst (v := 1) hx hb dX11_isOwn_231 (by decide) ?_
                        refine lv_goto (tgt := 236) hx hb dX11_isOwn_232 (by decide) ?_
                        exact ret 1 () _ _ _ _ _ _ rfl (Or.inl rfl) hP hD hS dX11_isOwn_236 (Nat.le_refl _) (Nat.le_refl _)
                      · skip
                        have zc22 : ¬ (t21.toInt = 0) := by rw [fa_eq, show (0 : Int32).toInt = 0 from by decide] at c22; exact c22
                        refine lv_aload_n hx hb dX11_isOwn_121 rfl (lv_at hl 0 rfl) ?_
                        refine va_get (D := (dC, dI)) (ci := 11) (v := .long w) (C := RX11) (T := TX11) (N := 79) hx hb hts inB_11 hown hE.1 hP 0 rfl rfl 9 (by decide) (hts _ k_1329) (fun _ h9 => h9) rfl dX11_isOwn_122 ?_
                        refine lv_ldc2 (v := 1918986606) hx hb hown (hts _ k_1631) dX11_isOwn_125 ?_
                        refine W.lcmp hx hb dX11_isOwn_128 ?_
                        refine lv_topi (fun t23 et23 => ?_)
                        refine lv_if_eq (tgt := 231) hx hb dX11_isOwn_129 (by decide) (fun c24 => ?_) (fun c24 => ?_)
                        · skip
                          have zc24 : t23.toInt = 0 := by rw [fa_eq, show (0 : Int32).toInt = 0 from by decide] at c24; exact c24
                          refine lv_iconst (v := 1) hx hb dX11_isOwn_231 (by decide) ?_
                          refine lv_goto (tgt := 236) hx hb dX11_isOwn_232 (by decide) ?_
                          exact ret 1 () _ _ _ _ _ _ rfl (Or.inl rfl) hP hD hS dX11_isOwn_236 (Nat.le_refl _) (Nat.le_refl _)
                        · skip
                          have zc24 : ¬ (t23.toInt = 0) := by rw [fa_eq, show (0 : Int32).toInt = 0 from by decide] at c24; exact c24
                          refine lv_aload_n hx hb dX11_isOwn_132 rfl (lv_at hl 0 rfl) ?_
                          refine va_get (D := (dC, dI)) (ci := 11) (v := .long w) (C := RX11) (T := TX11) (N := 79) hx hb hts inB_11 hown hE.1 hP 0 rfl rfl 9 (by decide) (hts _ k_1329) (fun _ h9 => h9) rfl dX11_isOwn_133 ?_
                          refine lv_ldc2 (v := 1685217655) hx hb hown (hts _ k_1632) dX11_isOwn_136 ?_
                          refine W.lcmp hx hb dX11_isOwn_139 ?_
                          refine lv_topi (fun t25 et25 => ?_)
                          refine lv_if_eq (tgt := 231) hx hb dX11_isOwn_140 (by decide) (fun c26 => ?_) (fun c26 => ?_)
                          · skip
                            have zc26 : t25.toInt = 0 := by rw [fa_eq, show (0 : Int32).toInt = 0 from by decide] at c26; exact c26
                            refine lv_iconst (v := 1) hx hb dX11_isOwn_231 (by decide) ?_
                            refine lv_goto (tgt := 236) hx hb dX11_isOwn_232 (by decide) ?_
                            exact ret 1 () _ _ _ _ _ _ rfl (Or.inl rfl) hP hD hS dX11_isOwn_236 (Nat.le_refl _) (Nat.le_refl _)
                          · skip
                            have zc26 : ¬ (t25.toInt = 0) := by rw [fa_eq, show (0 : Int32).toInt = 0 from by decide] at c26; exact c26
                            refine lv_aload_n hx hb dX11_isOwn_143 rfl (lv_at hl 0 rfl) ?_
                            refine va_get (D := (dC, dI)) (ci := 11) (v := .long w) (C := RX11) (T := TX11) (N := 79) hx hb hts inB_11 hown hE.1 hP 0 rfl rfl 9 (by decide) (hts _ k_1329) (fun _ h9 => h9) rfl dX11_isOwn_144 ?_
                            refine lv_ldc2 (v := 499984590964) hx hb hown (hts _ k_1633) dX11_isOwn_147 ?_
                            refine W.lcmp hx hb dX11_isOwn_150 ?_
                            refine lv_topi (fun t27 et27 => ?_)
                            refine lv_if_eq (tgt := 231) hx hb dX11_isOwn_151 (by decide) (fun c28 => ?_) (fun c28 => ?_)
                            · skip
                              have zc28 : t27.toInt = 0 := by rw [fa_eq, show (0 : Int32).toInt = 0 from by decide] at c28; exact c28
                              refine lv_iconst (v := 1) hx hb dX11_isOwn_231 (by decide) ?_
                              refine lv_goto (tgt := 236) hx hb dX11_isOwn_232 (by decide) ?_
                              exact ret 1 () _ _ _ _ _ _ rfl (Or.inl rfl) hP hD hS dX11_isOwn_236 (Nat.le_refl _) (Nat.le_refl _)
                            · skip
                              have zc28 : ¬ (t27.toInt = 0) := by rw [fa_eq, show (0 : Int32).toInt = 0 from by decide] at c28; exact c28
                              refine lv_aload_n hx hb dX11_isOwn_154 rfl (lv_at hl 0 rfl) ?_
                              refine va_get (D := (dC, dI)) (ci := 11) (v := .long w) (C := RX11) (T := TX11) (N := 79) hx hb hts inB_11 hown hE.1 hP 0 rfl rfl 9 (by decide) (hts _ k_1329) (fun _ h9 => h9) rfl dX11_isOwn_155 ?_
                              refine lv_ldc2 (v := 465726042981) hx hb hown (hts _ k_1634) dX11_isOwn_158 ?_
                              refine W.lcmp hx hb dX11_isOwn_161 ?_
                              refine lv_topi (fun t29 et29 => ?_)
                              refine lv_if_eq (tgt := 231) hx hb dX11_isOwn_162 (by decide) (fun c30 => ?_) (fun c30 => ?_)
                              · skip
                                have zc30 : t29.toInt = 0 := by rw [fa_eq, show (0 : Int32).toInt = 0 from by decide] at c30; exact c30
                                refine lv_iconst (v := 1) hx hb dX11_isOwn_231 (by decide) ?_
                                refine lv_goto (tgt := 236) hx hb dX11_isOwn_232 (by decide) ?_
                                exact ret 1 () _ _ _ _ _ _ rfl (Or.inl rfl) hP hD hS dX11_isOwn_236 (Nat.le_refl _) (Nat.le_refl _)
                              · skip
                                have zc30 : ¬ (t29.toInt = 0) := by rw [fa_eq, show (0 : Int32).toInt = 0 from by decide] at c30; exact c30
                                refine lv_aload_n hx hb dX11_isOwn_165 rfl (lv_at hl 0 rfl) ?_
                                refine va_get (D := (dC, dI)) (ci := 11) (v := .long w) (C := RX11) (T := TX11) (N := 79) hx hb hts inB_11 hown hE.1 hP 0 rfl rfl 9 (by decide) (hts _ k_1329) (fun _ h9 => h9) rfl dX11_isOwn_166 ?_
                                refine lv_ldc2 (v := 495673373300) hx hb hown (hts _ k_1635) dX11_isOwn_169 ?_
                                refine W.lcmp hx hb dX11_isOwn_172 ?_
                                refine lv_topi (fun t31 et31 => ?_)
                                refine lv_if_eq (tgt := 231) hx hb dX11_isOwn_173 (by decide) (fun c32 => ?_) (fun c32 => ?_)
                                · skip
                                  have zc32 : t31.toInt = 0 := by rw [fa_eq, show (0 : Int32).toInt = 0 from by decide] at c32; exact c32
                                  refine lv_iconst (v := 1) hx hb dX11_isOwn_231 (by decide) ?_
                                  refine lv_goto (tgt := 236) hx hb dX11_isOwn_232 (by decide) ?_
                                  exact ret 1 () _ _ _ _ _ _ rfl (Or.inl rfl) hP hD hS dX11_isOwn_236 (Nat.le_refl _) (Nat.le_refl _)
                                · skip
                                  have zc32 : ¬ (t31.toInt = 0) := by rw [fa_eq, show (0 : Int32).toInt = 0 from by decide] at c32; exact c32
                                  refine lv_aload_n hx hb dX11_isOwn_176 rfl (lv_at hl 0 rfl) ?_
                                  refine va_get (D := (dC, dI)) (ci := 11) (v := .long w) (C := RX11) (T := TX11) (N := 79) hx hb hts inB_11 hown hE.1 hP 0 rfl rfl 9 (by decide) (hts _ k_1329) (fun _ h9 => h9) rfl dX11_isOwn_177 ?_
                                  refine lv_ldc2 (v := 1819242087) hx hb hown (hts _ k_1636) dX11_isOwn_180 ?_
                                  refine W.lcmp hx hb dX11_isOwn_183 ?_
                                  refine lv_topi (fun t33 et33 => ?_)
                                  refine lv_if_eq (tgt := 231) hx hb dX11_isOwn_184 (by decide) (fun c34 => ?_) (fun c34 => ?_)
                                  · skip
                                    have zc34 : t33.toInt = 0 := by rw [fa_eq, show (0 : Int32).toInt = 0 from by decide] at c34; exact c34
                                    refine lv_iconst (v := 1) hx hb dX11_isOwn_231 (by decide) ?_
                                    refine lv_goto (tgt := 236) hx hb dX11_isOwn_232 (by decide) ?_
                                    exact ret 1 () _ _ _ _ _ _ rfl (Or.inl rfl) hP hD hS dX11_isOwn_236 (Nat.le_refl _) (Nat.le_refl _)
                                  · skip
                                    have zc34 : ¬ (t33.toInt = 0) := by rw [fa_eq, show (0 : Int32).toInt = 0 from by decide] at c34; exact c34
                                    refine lv_aload_n hx hb dX11_isOwn_187 rfl (lv_at hl 0 rfl) ?_
                                    refine va_get (D := (dC, dI)) (ci := 11) (v := .long w) (C := RX11) (T := TX11) (N := 79) hx hb hts inB_11 hown hE.1 hP 0 rfl rfl 9 (by decide) (hts _ k_1329) (fun _ h9 => h9) rfl dX11_isOwn_188 ?_
                                    refine lv_ldc2 (v := 6578553) hx hb hown (hts _ k_1637) dX11_isOwn_191 ?_
                                    refine W.lcmp hx hb dX11_isOwn_194 ?_
                                    refine lv_topi (fun t35 et35 => ?_)
                                    refine lv_if_eq (tgt := 231) hx hb dX11_isOwn_195 (by decide) (fun c36 => ?_) (fun c36 => ?_)
                                    · skip
                                      have zc36 : t35.toInt = 0 := by rw [fa_eq, show (0 : Int32).toInt = 0 from by decide] at c36; exact c36
                                      refine lv_iconst (v := 1) hx hb dX11_isOwn_231 (by decide) ?_
                                      refine lv_goto (tgt := 236) hx hb dX11_isOwn_232 (by decide) ?_
                                      exact ret 1 () _ _ _ _ _ _ rfl (Or.inl rfl) hP hD hS dX11_isOwn_236 (Nat.le_refl _) (Nat.le_refl _)
                                    · skip
                                      have zc36 : ¬ (t35.toInt = 0) := by rw [fa_eq, show (0 : Int32).toInt = 0 from by decide] at c36; exact c36
                                      refine lv_aload_n hx hb dX11_isOwn_198 rfl (lv_at hl 0 rfl) ?_
                                      refine va_get (D := (dC, dI)) (ci := 11) (v := .long w) (C := RX11) (T := TX11) (N := 79) hx hb hts inB_11 hown hE.1 hP 0 rfl rfl 9 (by decide) (hts _ k_1329) (fun _ h9 => h9) rfl dX11_isOwn_199 ?_
                                      refine lv_ldc2 (v := 6385252) hx hb hown (hts _ k_1638) dX11_isOwn_202 ?_
                                      refine W.lcmp hx hb dX11_isOwn_205 ?_
                                      refine lv_topi (fun t37 et37 => ?_)
                                      refine lv_if_eq (tgt := 231) hx hb dX11_isOwn_206 (by decide) (fun c38 => ?_) (fun c38 => ?_)
                                      · skip
                                        have zc38 : t37.toInt = 0 := by rw [fa_eq, show (0 : Int32).toInt = 0 from by decide] at c38; exact c38
                                        refine lv_iconst (v := 1) hx hb dX11_isOwn_231 (by decide) ?_
                                        refine lv_goto (tgt := 236) hx hb dX11_isOwn_232 (by decide) ?_
                                        exact ret 1 () _ _ _ _ _ _ rfl (Or.inl rfl) hP hD hS dX11_isOwn_236 (Nat.le_refl _) (Nat.le_refl _)
                                      · skip
                                        have zc38 : ¬ (t37.toInt = 0) := by rw [fa_eq, show (0 : Int32).toInt = 0 from by decide] at c38; exact c38
                                        refine lv_aload_n hx hb dX11_isOwn_209 rfl (lv_at hl 0 rfl) ?_
                                        refine va_get (D := (dC, dI)) (ci := 11) (v := .long w) (C := RX11) (T := TX11) (N := 79) hx hb hts inB_11 hown hE.1 hP 0 rfl rfl 9 (by decide) (hts _ k_1329) (fun _ h9 => h9) rfl dX11_isOwn_210 ?_
                                        refine lv_ldc2 (v := 28530) hx hb hown (hts _ k_1639) dX11_isOwn_213 ?_
                                        refine W.lcmp hx hb dX11_isOwn_216 ?_
                                        refine lv_topi (fun t39 et39 => ?_)
                                        refine lv_if_eq (tgt := 231) hx hb dX11_isOwn_217 (by decide) (fun c40 => ?_) (fun c40 => ?_)
                                        · skip
                                          have zc40 : t39.toInt = 0 := by rw [fa_eq, show (0 : Int32).toInt = 0 from by decide] at c40; exact c40
                                          refine lv_iconst (v := 1) hx hb dX11_isOwn_231 (by decide) ?_
                                          refine lv_goto (tgt := 236) hx hb dX11_isOwn_232 (by decide) ?_
                                          exact ret 1 () _ _ _ _ _ _ rfl (Or.inl rfl) hP hD hS dX11_isOwn_236 (Nat.le_refl _) (Nat.le_refl _)
                                        · skip
                                          have zc40 : ¬ (t39.toInt = 0) := by rw [fa_eq, show (0 : Int32).toInt = 0 from by decide] at c40; exact c40
                                          refine lv_aload_n hx hb dX11_isOwn_220 rfl (lv_at hl 0 rfl) ?_
                                          refine va_get (D := (dC, dI)) (ci := 11) (v := .long w) (C := RX11) (T := TX11) (N := 79) hx hb hts inB_11 hown hE.1 hP 0 rfl rfl 9 (by decide) (hts _ k_1329) (fun _ h9 => h9) rfl dX11_isOwn_221 ?_
                                          refine lv_ldc2 (v := 7237492) hx hb hown (hts _ k_1640) dX11_isOwn_224 ?_
                                          refine W.lcmp hx hb dX11_isOwn_227 ?_
                                          refine lv_topi (fun t41 et41 => ?_)
                                          refine lv_if_ne (tgt := 235) hx hb dX11_isOwn_228 (by decide) (fun c42 => ?_) (fun c42 => ?_)
                                          · skip
                                            have zc42 : ¬ (t41.toInt = 0) := by rw [fa_eq, show (0 : Int32).toInt = 0 from by decide] at c42; exact c42
                                            refine lv_iconst (v := 0) hx hb dX11_isOwn_235 (by decide) ?_
                                            exact ret 0 () _ _ _ _ _ _ rfl (Or.inr rfl) hP hD hS dX11_isOwn_236 (Nat.le_refl _) (Nat.le_refl _)
                                          · skip
                                            have zc42 : t41.toInt = 0 := by rw [fa_eq, show (0 : Int32).toInt = 0 from by decide] at c42; exact c42
                                            refine lv_iconst (v := 1) hx hb dX11_isOwn_231 (by decide) ?_
                                            refine lv_goto (tgt := 236) hx hb dX11_isOwn_232 (by decide) ?_
                                            exact ret 1 () _ _ _ _ _ _ rfl (Or.inl rfl) hP hD hS dX11_isOwn_236 (Nat.le_refl _) (Nat.le_refl _)
set_option maxHeartbeats 4000000 in
set_option maxRecDepth 100000 in
theorem sY_X11_isName_1 (l : Launch) (dC : Nat → ClassId) (dI : Nat → Nat → Nat) (cy : Nat → ClassId) (y0 : Nat) (r : Nat → Nat)  (v : Nat → Int32) (f : Nat → Nat → Int32) (w : Int64) (g : Nat → Int64) (hIv : YI v) (hCf : YC f) (hRf : progOK (f 4) (f 5) (v 9).toInt.toNat)  : ctI l (dC, dI) cy yX11_isName cX11_isName 1 .boolean 2 80 0 0 Unit [.ref y0] (YW cy y0 r v f w g) (fun r u => ((r = 1) ∨ (r = 0))) (fun u => YW cy y0 r v f w g) := by
  refine ctI_of (by decide) (Nat.le_of_ble_eq_true rfl) (fun p e s m below meth c A ls Q hx hb hml hts hown hE hP hD hA hl ret => ?_)
  have hUv : (v 35).toInt + (v 36).toInt ≤ 40 := hIv.2
  have hown : s.vm.findClass RX11 = some m.cls := hown
  have hS : va_S A s.heap s.heap [] := va_S.rf
  have hl : lv_has ls 1 [(0, .ref y0)] := hl
  refine lv_aload_n hx hb dX11_isName_0 rfl (lv_at hl 0 rfl) ?_
  refine va_get (D := (dC, dI)) (ci := 11) (v := .int (v 5)) (C := RX11) (T := TX11) (N := 79) hx hb hts inB_11 hown hE.1 hP 0 rfl rfl 6 (by decide) (hts _ k_1326) (fun _ h9 => h9) rfl dX11_isName_1 ?_
  refine lv_iconst (v := 1) hx hb dX11_isName_4 (by decide) ?_
  refine lv_icmp_ne (tgt := 19) hx hb dX11_isName_5 (by decide) (fun c1 => ?_) (fun c1 => ?_)
  · skip
    have zc1 : ¬ ((v 5).toInt = 1) := by rw [fa_eq, show (1 : Int32).toInt = 1 from by decide] at c1; exact c1
    refine lv_iconst (v := 0) hx hb dX11_isName_19 (by decide) ?_
    exact ret 0 () _ _ _ _ _ _ rfl (Or.inr rfl) hP hD hS dX11_isName_20 (Nat.le_refl _) (Nat.le_refl _)
  · skip
    have zc1 : (v 5).toInt = 1 := by rw [fa_eq, show (1 : Int32).toInt = 1 from by decide] at c1; exact c1
    refine lv_aload_n hx hb dX11_isName_8 rfl (lv_at hl 0 rfl) ?_
    refine cbVi (n := 0) (rest := []) hx hb hml hown hts hE hP hD hS hA (sY_X11_isOwn_1 l dC dI cy y0 r  v f w g hIv hCf hRf ) k_1617 k_1619 k_49 k_114 k_1620 (by decide +kernel) ⟨Nat.le_of_ble_eq_true rfl, Nat.le_of_ble_eq_true rfl⟩ 0 11 rfl rfl (rfl) hl.1 rfl (Nat.le_of_ble_eq_true rfl) dX11_isName_9 (fun r2 u H locs hw hP hD hS => ?_)
    rcases hw with ⟨g3⟩ | ⟨g3⟩
    · skip
      subst g3
      refine lv_if_ne (tgt := 19) hx hb dX11_isName_12 (by decide) (fun _ => ?_) (fun c0 => absurd c0 (by decide))
      refine lv_iconst (v := 0) hx hb dX11_isName_19 (by decide) ?_
      exact ret 0 () _ _ _ _ _ _ rfl (Or.inr rfl) hP hD hS dX11_isName_20 (Nat.le_refl _) (Nat.le_refl _)
    · skip
      subst g3
      refine lv_if_ne (tgt := 19) hx hb dX11_isName_12 (by decide) (fun c0 => absurd (by decide) c0) (fun _ => ?_)
      refine lv_iconst (v := 1) hx hb dX11_isName_15 (by decide) ?_
      refine lv_goto (tgt := 20) hx hb dX11_isName_16 (by decide) ?_
      exact ret 1 () _ _ _ _ _ _ rfl (Or.inl rfl) hP hD hS dX11_isName_20 (Nat.le_refl _) (Nat.le_refl _)
set_option maxHeartbeats 4000000 in
set_option maxRecDepth 100000 in
theorem sY_X11_newName_1 (l : Launch) (dC : Nat → ClassId) (dI : Nat → Nat → Nat) (cy : Nat → ClassId) (y0 : Nat) (r : Nat → Nat) (p1 : Int32) (p2 : Int32) (v : Nat → Int32) (f : Nat → Nat → Int32) (w : Int64) (g : Nat → Int64) (hIv : YI v) (hCf : YC f) (hRf : progOK (f 4) (f 5) (v 9).toInt.toNat) (hp1 : (0 : Int) ≤ p1.toInt ∧ p1.toInt ≤ 6) (hp2 : (0 : Int) ≤ p2.toInt ∧ p2.toInt ≤ 5) : ctV l (dC, dI) cy yX11_newName cX11_newName 4 3 103 0 0 ((Nat → Int32) × (Nat → Nat → Int32) × (Int64) × (Nat → Int64)) [.ref y0, .int p1, .int p2] (YW cy y0 r v f w g) (fun u => YI u.1 ∧ YC u.2.1 ∧ progOK (u.2.1 4) (u.2.1 5) (u.1 9).toInt.toNat ∧ u.1 0 = v 0 ∧ u.1 4 = v 4 ∧ u.1 8 = v 8 ∧ u.1 9 = v 9 ∧ u.1 10 = v 10 ∧ u.1 24 = v 24 ∧ u.1 25 = v 25 ∧ u.1 35 = v 35 ∧ u.1 36 = v 36 ∧ u.1 38 = v 38 ∧ u.1 39 = v 39 ∧ ((v 3).toInt ≤ (u.1 3).toInt) ∧ ((u.1 5).toInt = (v 5).toInt ∨ (v 3).toInt < (u.1 3).toInt ∨ ¬ (u.1 5).toInt = 59)) (fun u => YW cy y0 r u.1 u.2.1 u.2.2.1 u.2.2.2) := by
  refine ctV_of (by decide) (Nat.le_of_ble_eq_true rfl) (fun p e s m below meth c A ls Q hx hb hml hts hown hnm hE hP hD hA hl ret => ?_)
  have hUv : (v 35).toInt + (v 36).toInt ≤ 40 := hIv.2
  have hown : s.vm.findClass RX11 = some m.cls := hown
  have hS : va_S A s.heap s.heap [] := va_S.rf
  have hl : lv_has ls 4 [(0, .ref y0), (1, .int p1), (2, .int p2)] := hl
  refine lv_aload_n hx hb dX11_newName_0 rfl (lv_at hl 0 rfl) ?_
  refine cbVv (n := 0) (rest := []) hx hb hml hown hts hE hP hD hS hA (sY_X11_token_1 l dC dI cy y0 r  v f w g hIv hCf hRf ) k_1579 k_1581 k_42 k_114 k_1582 (by decide +kernel) ⟨Nat.le_of_ble_eq_true rfl, Nat.le_of_ble_eq_true rfl⟩ 0 11 rfl rfl (rfl) hl.1 rfl (Nat.le_of_ble_eq_true rfl) dX11_newName_1 (fun u H locs hw hP hD hS => ?_)
  obtain ⟨v1, f2, w3, g4⟩ := u
  obtain ⟨hIv1, hCf2, hRf2, hk0_v1, hk1_v1, hk4_v1, hk8_v1, hk9_v1, hk10_v1, hk24_v1, hk25_v1, hk35_v1, hk36_v1, hk38_v1, hk39_v1, pv5, pv6⟩ := hw
  have hP : va_P (dC, dI) vwCl (YW cy y0 r v1 f2 w3 g4) H := hP
  have hD : va_D A (YW cy y0 r v1 f2 w3 g4) := hD
  have b3_v1 : 0 ≤ (v1 3).toInt ∧ (v1 3).toInt ≤ 1600 := YIb.b hIv1.1 3 (by decide)
  have pv5 : (v 3).toInt ≤ (v1 3).toInt := pv5
  have pv6 : (v1 5).toInt = (v 5).toInt ∨ (v 3).toInt < (v1 3).toInt ∨ ¬ (v1 5).toInt = 59 := pv6
  have hUv1 : (v1 35).toInt + (v1 36).toInt ≤ 40 := hIv1.2
  have hq0_v1 : v1 0 = (v 0) := hk0_v1
  have hq1_v1 : v1 1 = (v 1) := hk1_v1
  have hq4_v1 : v1 4 = (v 4) := hk4_v1
  have zq4_v1 := congrArg Int32.toInt hq4_v1
  have hq8_v1 : v1 8 = (v 8) := hk8_v1
  have hq9_v1 : v1 9 = (v 9) := hk9_v1
  have zq9_v1 := congrArg Int32.toInt hq9_v1
  have hq10_v1 : v1 10 = (v 10) := hk10_v1
  have hq24_v1 : v1 24 = (v 24) := hk24_v1
  have hq25_v1 : v1 25 = (v 25) := hk25_v1
  have hq35_v1 : v1 35 = (v 35) := hk35_v1
  have zq35_v1 := congrArg Int32.toInt hq35_v1
  have hq36_v1 : v1 36 = (v 36) := hk36_v1
  have zq36_v1 := congrArg Int32.toInt hq36_v1
  have hq38_v1 : v1 38 = (v 38) := hk38_v1
  have hq39_v1 : v1 39 = (v 39) := hk39_v1
  refine lv_aload_n hx hb dX11_newName_4 rfl (lv_at hl 0 rfl) ?_
  refine cbVi (n := 0) (rest := []) hx hb hml hown hts hE hP hD hS hA (sY_X11_isName_1 l dC dI cy y0 r  v1 f2 w3 g4 hIv1 hCf2 hRf2 ) k_1613 k_1615 k_48 k_114 k_1616 (by decide +kernel) ⟨Nat.le_of_ble_eq_true rfl, Nat.le_of_ble_eq_true rfl⟩ 0 11 rfl rfl (rfl) hl.1 rfl (Nat.le_of_ble_eq_true rfl) dX11_newName_5 (fun r7 u H locs hw hP hD hS => ?_)
  rcases hw with ⟨g8⟩ | ⟨g8⟩
  · skip
    subst g8
    refine lv_if_ne (tgt := 16) hx hb dX11_newName_8 (by decide) (fun _ => ?_) (fun c0 => absurd c0 (by decide))
    refine lv_iconst (v := 0) hx hb dX11_newName_16 (by decide) ?_
    refine lv_istore_n (lv' := [(3, .int 0), (0, .ref y0), (1, .int p1), (2, .int p2)]) hx hb dX11_newName_17 rfl hl (by decide) rfl (fun ls hl => ?_)
    have lp9 : ∀ (n9 : Nat) (l3_9 : Int32) (v9 : Nat → Int32) (f9 : Nat → Nat → Int32) (w9 : Int64) (g9 : Nat → Int64), YI v9 → YC f9 → progOK (f9 4) (f9 5) (v9 9).toInt.toNat → v9 0 = (v 0) → v9 3 = (v1 3) → v9 4 = (v 4) → v9 5 = (v1 5) → v9 8 = (v 8) → v9 9 = (v 9) → v9 10 = (v 10) → v9 24 = (v 24) → v9 25 = (v 25) → v9 35 = (v 35) → v9 36 = (v 36) → v9 38 = (v 38) → v9 39 = (v 39) → ((0 : Int) ≤ l3_9.toInt ∧ l3_9.toInt ≤ 2147483647) → (2147483647 - l3_9.toInt).toNat < n9 → ∀ (H : Heap) (locs : List Loc) (ls : Array Slot), va_P (dC, dI) vwCl (YW cy y0 r v9 f9 w9 g9) H → va_D A (YW cy y0 r v9 f9 w9 g9) → va_S A s.heap H locs → lv_has ls 4 [(3, .int l3_9), (0, .ref y0), (1, .int p1), (2, .int p2)] → W p l e { frames := 3, cells := 0, slots := 0, locals := 103 } s m ([.ref y0, .int p1, .int p2] : List Value).toArray below meth c H locs 0 0 Q (F0 m 18 ls []) := by
      intro n9
      induction n9 with
      | zero => intro l3_9 v9 f9 w9 g9 hIv9 hCf9 hRf9 hq0_v9 hq3_v9 hq4_v9 hq5_v9 hq8_v9 hq9_v9 hq10_v9 hq24_v9 hq25_v9 hq35_v9 hq36_v9 hq38_v9 hq39_v9 hr3_9 hm; exact absurd hm (Nat.not_lt_zero _)
      | succ n9 ih9 =>
        intro l3_9 v9 f9 w9 g9 hIv9 hCf9 hRf9 hq0_v9 hq3_v9 hq4_v9 hq5_v9 hq8_v9 hq9_v9 hq10_v9 hq24_v9 hq25_v9 hq35_v9 hq36_v9 hq38_v9 hq39_v9 hr3_9 hm9 H locs ls hP hD hS hl
        have hUv9 : (v9 35).toInt + (v9 36).toInt ≤ 40 := hIv9.2
        have zq3_v9 := congrArg Int32.toInt hq3_v9
        have zq4_v9 := congrArg Int32.toInt hq4_v9
        have zq5_v9 := congrArg Int32.toInt hq5_v9
        have zq9_v9 := congrArg Int32.toInt hq9_v9
        have zq35_v9 := congrArg Int32.toInt hq35_v9
        have zq36_v9 := congrArg Int32.toInt hq36_v9
        refine lv_iload_n hx hb dX11_newName_18 rfl (lv_at hl 0 rfl) ?_
        refine lv_iload_n hx hb dX11_newName_19 rfl (lv_at hl 3 rfl) ?_
        refine lv_icmp_ge (tgt := 57) hx hb dX11_newName_20 (by decide) (fun c10 => ?_) (fun c10 => ?_)
        · skip
          have zc10 : p2.toInt ≤ l3_9.toInt := by rw [fa_le] at c10; exact c10
          have rg11 := fb_rng l3_9
          have rg12 := fb_rng p2
          refine lv_aload_n hx hb dX11_newName_57 rfl (lv_at hl 1 rfl) ?_
          refine va_get (D := (dC, dI)) (ci := 11) (v := .int (v9 1)) (C := RX11) (T := TX11) (N := 79) hx hb hts inB_11 hown hE.1 hP 0 rfl rfl 2 (by decide) (hts _ k_1322) (fun _ h9 => h9) rfl dX11_newName_58 ?_
          refine lv_if_le (tgt := 65) hx hb dX11_newName_61 (by decide) (fun c13 => ?_) (fun c13 => ?_)
          · skip
            have zc13 : (v9 1).toInt ≤ 0 := by rw [fa_le, show (0 : Int32).toInt = 0 from by decide] at c13; exact c13
            refine lv_aload_n hx hb dX11_newName_65 rfl (lv_at hl 1 rfl) ?_
            refine va_get (D := (dC, dI)) (ci := 11) (v := .ref (r 10)) (C := RX11) (T := TX11) (N := 79) hx hb hts inB_11 hown hE.1 hP 0 rfl rfl 10 (by decide) (hts _ k_1330) (fun _ h9 => h9) rfl dX11_newName_66 ?_
            refine lv_iload_n hx hb dX11_newName_69 rfl (lv_at hl 2 rfl) ?_
            refine lv_iload_n hx hb dX11_newName_70 rfl (lv_at hl 3 rfl) ?_
            refine lv_iadd hx hb dX11_newName_71 ?_
            refine lv_topi (fun t14 et14 => ?_)
            have rg15 := fb_rng p1
            have zt14 : t14.toInt = p1.toInt + p2.toInt := by rw [et14]; exact add_i rfl rfl (by omega) (by omega)
            refine lv_aload_n hx hb dX11_newName_72 rfl (lv_at hl 1 rfl) ?_
            refine va_get (D := (dC, dI)) (ci := 11) (v := .long w9) (C := RX11) (T := TX11) (N := 79) hx hb hts inB_11 hown hE.1 hP 0 rfl rfl 9 (by decide) (hts _ k_1329) (fun _ h9 => h9) rfl dX11_newName_73 ?_
            refine va_last hx hb hE.1 hP hD hS 2 2 rfl rfl (vp_in_iff.mpr ⟨by omega, by omega⟩) dX11_newName_76 (fun H locs hP hD hS => ?_)
            obtain ⟨g16, hP, hD⟩ : ∃ fz9, va_P (dC, dI) vwCl (YW cy y0 r v9 f9 w9 fz9) H ∧ va_D A (YW cy y0 r v9 f9 w9 fz9) := ⟨_, hP, hD⟩
            refine lv_aload_n hx hb dX11_newName_77 rfl (lv_at hl 1 rfl) ?_
            refine cbVv (n := 0) (rest := []) hx hb hml hown hts hE hP hD hS hA (sY_X11_token_1 l dC dI cy y0 r  v9 f9 w9 g16 hIv9 hCf9 hRf9 ) k_1579 k_1581 k_42 k_114 k_1582 (by decide +kernel) ⟨Nat.le_of_ble_eq_true rfl, Nat.le_of_ble_eq_true rfl⟩ 0 11 rfl rfl (rfl) hl.1 rfl (Nat.le_of_ble_eq_true rfl) dX11_newName_78 (fun u H locs hw hP hD hS => ?_)
            obtain ⟨v17, f18, w19, g20⟩ := u
            obtain ⟨hIv17, hCf18, hRf18, hk0_v17, hk1_v17, hk4_v17, hk8_v17, hk9_v17, hk10_v17, hk24_v17, hk25_v17, hk35_v17, hk36_v17, hk38_v17, hk39_v17, pv21, pv22⟩ := hw
            have hP : va_P (dC, dI) vwCl (YW cy y0 r v17 f18 w19 g20) H := hP
            have hD : va_D A (YW cy y0 r v17 f18 w19 g20) := hD
            have b3_v17 : 0 ≤ (v17 3).toInt ∧ (v17 3).toInt ≤ 1600 := YIb.b hIv17.1 3 (by decide)
            have pv21 : (v9 3).toInt ≤ (v17 3).toInt := pv21
            have pv22 : (v17 5).toInt = (v9 5).toInt ∨ (v9 3).toInt < (v17 3).toInt ∨ ¬ (v17 5).toInt = 59 := pv22
            have hUv17 : (v17 35).toInt + (v17 36).toInt ≤ 40 := hIv17.2
            have hq0_v17 : v17 0 = (v 0) := hk0_v17.trans hq0_v9
            have hq1_v17 : v17 1 = (v9 1) := hk1_v17
            have hq4_v17 : v17 4 = (v 4) := hk4_v17.trans hq4_v9
            have zq4_v17 := congrArg Int32.toInt hq4_v17
            have hq8_v17 : v17 8 = (v 8) := hk8_v17.trans hq8_v9
            have hq9_v17 : v17 9 = (v 9) := hk9_v17.trans hq9_v9
            have zq9_v17 := congrArg Int32.toInt hq9_v17
            have hq10_v17 : v17 10 = (v 10) := hk10_v17.trans hq10_v9
            have hq24_v17 : v17 24 = (v 24) := hk24_v17.trans hq24_v9
            have hq25_v17 : v17 25 = (v 25) := hk25_v17.trans hq25_v9
            have hq35_v17 : v17 35 = (v 35) := hk35_v17.trans hq35_v9
            have zq35_v17 := congrArg Int32.toInt hq35_v17
            have hq36_v17 : v17 36 = (v 36) := hk36_v17.trans hq36_v9
            have zq36_v17 := congrArg Int32.toInt hq36_v17
            have hq38_v17 : v17 38 = (v 38) := hk38_v17.trans hq38_v9
            have hq39_v17 : v17 39 = (v 39) := hk39_v17.trans hq39_v9
            exact ret (v17, f18, w19, g20) _ _ _ _ _ _ ⟨hIv17, hCf18, hRf18, (hk0_v17.trans hq0_v9), (hk4_v17.trans hq4_v9), (hk8_v17.trans hq8_v9), (hk9_v17.trans hq9_v9), (hk10_v17.trans hq10_v9), (hk24_v17.trans hq24_v9), (hk25_v17.trans hq25_v9), (hk35_v17.trans hq35_v9), (hk36_v17.trans hq36_v9), (hk38_v17.trans hq38_v9), (hk39_v17.trans hq39_v9), (by show (v 3).toInt ≤ (v17 3).toInt; omega), (by show (v17 5).toInt = (v 5).toInt ∨ (v 3).toInt < (v17 3).toInt ∨ ¬ (v17 5).toInt = 59; omega)⟩ hP hD hS dX11_newName_81 (Nat.le_refl _) (Nat.le_refl _)
          · skip
            have zc13 : ¬ ((v9 1).toInt ≤ 0) := by rw [fa_le, show (0 : Int32).toInt = 0 from by decide] at c13; exact c13
            exact ret (v9, f9, w9, g9) _ _ _ _ _ _ ⟨hIv9, hCf9, hRf9, hq0_v9, hq4_v9, hq8_v9, hq9_v9, hq10_v9, hq24_v9, hq25_v9, hq35_v9, hq36_v9, hq38_v9, hq39_v9, (by show (v 3).toInt ≤ (v9 3).toInt; omega), (by show (v9 5).toInt = (v 5).toInt ∨ (v 3).toInt < (v9 3).toInt ∨ ¬ (v9 5).toInt = 59; omega)⟩ hP hD hS dX11_newName_64 (Nat.le_refl _) (Nat.le_refl _)
        · skip
          have zc10 : ¬ (p2.toInt ≤ l3_9.toInt) := by rw [fa_le] at c10; exact c10
          have rg23 := fb_rng l3_9
          have rg24 := fb_rng p2
          refine lv_aload_n hx hb dX11_newName_23 rfl (lv_at hl 1 rfl) ?_
          refine va_get (D := (dC, dI)) (ci := 11) (v := .int (v9 1)) (C := RX11) (T := TX11) (N := 79) hx hb hts inB_11 hown hE.1 hP 0 rfl rfl 2 (by decide) (hts _ k_1322) (fun _ h9 => h9) rfl dX11_newName_24 ?_
          refine lv_if_ne (tgt := 57) hx hb dX11_newName_27 (by decide) (fun c25 => ?_) (fun c25 => ?_)
          · skip
            have zc25 : ¬ ((v9 1).toInt = 0) := by rw [fa_eq, show (0 : Int32).toInt = 0 from by decide] at c25; exact c25
            refine lv_aload_n hx hb dX11_newName_57 rfl (lv_at hl 1 rfl) ?_
            refine va_get (D := (dC, dI)) (ci := 11) (v := .int (v9 1)) (C := RX11) (T := TX11) (N := 79) hx hb hts inB_11 hown hE.1 hP 0 rfl rfl 2 (by decide) (hts _ k_1322) (fun _ h9 => h9) rfl dX11_newName_58 ?_
            refine lv_if_le (tgt := 65) hx hb dX11_newName_61 (by decide) (fun c26 => ?_) (fun c26 => ?_)
            · skip
              have zc26 : (v9 1).toInt ≤ 0 := by rw [fa_le, show (0 : Int32).toInt = 0 from by decide] at c26; exact c26
              refine lv_aload_n hx hb dX11_newName_65 rfl (lv_at hl 1 rfl) ?_
              refine va_get (D := (dC, dI)) (ci := 11) (v := .ref (r 10)) (C := RX11) (T := TX11) (N := 79) hx hb hts inB_11 hown hE.1 hP 0 rfl rfl 10 (by decide) (hts _ k_1330) (fun _ h9 => h9) rfl dX11_newName_66 ?_
              refine lv_iload_n hx hb dX11_newName_69 rfl (lv_at hl 2 rfl) ?_
              refine lv_iload_n hx hb dX11_newName_70 rfl (lv_at hl 3 rfl) ?_
              refine lv_iadd hx hb dX11_newName_71 ?_
              refine lv_topi (fun t27 et27 => ?_)
              have rg28 := fb_rng p1
              have zt27 : t27.toInt = p1.toInt + p2.toInt := by rw [et27]; exact add_i rfl rfl (by omega) (by omega)
              refine lv_aload_n hx hb dX11_newName_72 rfl (lv_at hl 1 rfl) ?_
              refine va_get (D := (dC, dI)) (ci := 11) (v := .long w9) (C := RX11) (T := TX11) (N := 79) hx hb hts inB_11 hown hE.1 hP 0 rfl rfl 9 (by decide) (hts _ k_1329) (fun _ h9 => h9) rfl dX11_newName_73 ?_
              refine va_last hx hb hE.1 hP hD hS 2 2 rfl rfl (vp_in_iff.mpr ⟨by omega, by omega⟩) dX11_newName_76 (fun H locs hP hD hS => ?_)
              obtain ⟨g29, hP, hD⟩ : ∃ fz9, va_P (dC, dI) vwCl (YW cy y0 r v9 f9 w9 fz9) H ∧ va_D A (YW cy y0 r v9 f9 w9 fz9) := ⟨_, hP, hD⟩
              refine lv_aload_n hx hb dX11_newName_77 rfl (lv_at hl 1 rfl) ?_
              refine cbVv (n := 0) (rest := []) hx hb hml hown hts hE hP hD hS hA (sY_X11_token_1 l dC dI cy y0 r  v9 f9 w9 g29 hIv9 hCf9 hRf9 ) k_1579 k_1581 k_42 k_114 k_1582 (by decide +kernel) ⟨Nat.le_of_ble_eq_true rfl, Nat.le_of_ble_eq_true rfl⟩ 0 11 rfl rfl (rfl) hl.1 rfl (Nat.le_of_ble_eq_true rfl) dX11_newName_78 (fun u H locs hw hP hD hS => ?_)
              obtain ⟨v30, f31, w32, g33⟩ := u
              obtain ⟨hIv30, hCf31, hRf31, hk0_v30, hk1_v30, hk4_v30, hk8_v30, hk9_v30, hk10_v30, hk24_v30, hk25_v30, hk35_v30, hk36_v30, hk38_v30, hk39_v30, pv34, pv35⟩ := hw
              have hP : va_P (dC, dI) vwCl (YW cy y0 r v30 f31 w32 g33) H := hP
              have hD : va_D A (YW cy y0 r v30 f31 w32 g33) := hD
              have b3_v30 : 0 ≤ (v30 3).toInt ∧ (v30 3).toInt ≤ 1600 := YIb.b hIv30.1 3 (by decide)
              have pv34 : (v9 3).toInt ≤ (v30 3).toInt := pv34
              have pv35 : (v30 5).toInt = (v9 5).toInt ∨ (v9 3).toInt < (v30 3).toInt ∨ ¬ (v30 5).toInt = 59 := pv35
              have hUv30 : (v30 35).toInt + (v30 36).toInt ≤ 40 := hIv30.2
              have hq0_v30 : v30 0 = (v 0) := hk0_v30.trans hq0_v9
              have hq1_v30 : v30 1 = (v9 1) := hk1_v30
              have hq4_v30 : v30 4 = (v 4) := hk4_v30.trans hq4_v9
              have zq4_v30 := congrArg Int32.toInt hq4_v30
              have hq8_v30 : v30 8 = (v 8) := hk8_v30.trans hq8_v9
              have hq9_v30 : v30 9 = (v 9) := hk9_v30.trans hq9_v9
              have zq9_v30 := congrArg Int32.toInt hq9_v30
              have hq10_v30 : v30 10 = (v 10) := hk10_v30.trans hq10_v9
              have hq24_v30 : v30 24 = (v 24) := hk24_v30.trans hq24_v9
              have hq25_v30 : v30 25 = (v 25) := hk25_v30.trans hq25_v9
              have hq35_v30 : v30 35 = (v 35) := hk35_v30.trans hq35_v9
              have zq35_v30 := congrArg Int32.toInt hq35_v30
              have hq36_v30 : v30 36 = (v 36) := hk36_v30.trans hq36_v9
              have zq36_v30 := congrArg Int32.toInt hq36_v30
              have hq38_v30 : v30 38 = (v 38) := hk38_v30.trans hq38_v9
              have hq39_v30 : v30 39 = (v 39) := hk39_v30.trans hq39_v9
              exact ret (v30, f31, w32, g33) _ _ _ _ _ _ ⟨hIv30, hCf31, hRf31, (hk0_v30.trans hq0_v9), (hk4_v30.trans hq4_v9), (hk8_v30.trans hq8_v9), (hk9_v30.trans hq9_v9), (hk10_v30.trans hq10_v9), (hk24_v30.trans hq24_v9), (hk25_v30.trans hq25_v9), (hk35_v30.trans hq35_v9), (hk36_v30.trans hq36_v9), (hk38_v30.trans hq38_v9), (hk39_v30.trans hq39_v9), (by show (v 3).toInt ≤ (v30 3).toInt; omega), (by show (v30 5).toInt = (v 5).toInt ∨ (v 3).toInt < (v30 3).toInt ∨ ¬ (v30 5).toInt = 59; omega)⟩ hP hD hS dX11_newName_81 (Nat.le_refl _) (Nat.le_refl _)
            · skip
              have zc26 : ¬ ((v9 1).toInt ≤ 0) := by rw [fa_le, show (0 : Int32).toInt = 0 from by decide] at c26; exact c26
              exact ret (v9, f9, w9, g9) _ _ _ _ _ _ ⟨hIv9, hCf9, hRf9, hq0_v9, hq4_v9, hq8_v9, hq9_v9, hq10_v9, hq24_v9, hq25_v9, hq35_v9, hq36_v9, hq38_v9, hq39_v9, (by show (v 3).toInt ≤ (v9 3).toInt; omega), (by show (v9 5).toInt = (v 5).toInt ∨ (v 3).toInt < (v9 3).toInt ∨ ¬ (v9 5).toInt = 59; omega)⟩ hP hD hS dX11_newName_64 (Nat.le_refl _) (Nat.le_refl _)
          · skip
            have zc25 : (v9 1).toInt = 0 := by rw [fa_eq, show (0 : Int32).toInt = 0 from by decide] at c25; exact c25
            refine lv_aload_n hx hb dX11_newName_30 rfl (lv_at hl 1 rfl) ?_
            refine va_get (D := (dC, dI)) (ci := 11) (v := .ref (r 10)) (C := RX11) (T := TX11) (N := 79) hx hb hts inB_11 hown hE.1 hP 0 rfl rfl 10 (by decide) (hts _ k_1330) (fun _ h9 => h9) rfl dX11_newName_31 ?_
            refine lv_iload_n hx hb dX11_newName_34 rfl (lv_at hl 2 rfl) ?_
            refine lv_iload_n hx hb dX11_newName_35 rfl (lv_at hl 0 rfl) ?_
            refine lv_iadd hx hb dX11_newName_36 ?_
            refine lv_topi (fun t36 et36 => ?_)
            have rg37 := fb_rng p1
            have zt36 : t36.toInt = p1.toInt + l3_9.toInt := by rw [et36]; exact add_i rfl rfl (by omega) (by omega)
            refine va_lald hx hb hE.1 hP 2 2 rfl rfl (vp_in_iff.mpr ⟨by omega, by omega⟩) dX11_newName_37 ?_
            refine lv_topl (fun j38 ej38 => ?_)
            refine lv_aload_n hx hb dX11_newName_38 rfl (lv_at hl 1 rfl) ?_
            refine va_get (D := (dC, dI)) (ci := 11) (v := .long w9) (C := RX11) (T := TX11) (N := 79) hx hb hts inB_11 hown hE.1 hP 0 rfl rfl 9 (by decide) (hts _ k_1329) (fun _ h9 => h9) rfl dX11_newName_39 ?_
            refine W.lcmp hx hb dX11_newName_42 ?_
            refine lv_topi (fun t39 et39 => ?_)
            refine lv_if_ne (tgt := 51) hx hb dX11_newName_43 (by decide) (fun c40 => ?_) (fun c40 => ?_)
            · skip
              have zc40 : ¬ (t39.toInt = 0) := by rw [fa_eq, show (0 : Int32).toInt = 0 from by decide] at c40; exact c40
              obtain ⟨t41, et41⟩ : ∃ y : Int32, y = l3_9 + 1 := ⟨_, rfl⟩
              have zt41 : t41.toInt = l3_9.toInt + 1 := by rw [et41]; exact add_i rfl (by decide) (by omega) (by omega)
              refine lv_iinc (v := t41) (lv' := [(3, .int t41), (0, .ref y0), (1, .int p1), (2, .int p2)]) hx hb dX11_newName_51 hl (k := 0) rfl (by rw [et41]; rfl) (by decide) rfl (fun ls hl => ?_)
              refine lv_goto (tgt := 18) hx hb dX11_newName_54 (by decide) ?_
              have rg42 := fb_rng t41
              exact ih9 t41 v9 f9 w9 g9 hIv9 hCf9 hRf9 hq0_v9 hq3_v9 hq4_v9 hq5_v9 hq8_v9 hq9_v9 hq10_v9 hq24_v9 hq25_v9 hq35_v9 hq36_v9 hq38_v9 hq39_v9 ⟨show (0 : Int) ≤ t41.toInt by omega, show t41.toInt ≤ (2147483647 : Int) by omega⟩ (by show (2147483647 - t41.toInt).toNat < n9; omega) _ _ _ hP hD hS (lv_sub hl [0, 1, 2, 3] rfl)
            · skip
              have zc40 : t39.toInt = 0 := by rw [fa_eq, show (0 : Int32).toInt = 0 from by decide] at c40; exact c40
              refine lv_aload_n hx hb dX11_newName_46 rfl (lv_at hl 1 rfl) ?_
              refine lv_iconst (v := 3) hx hb dX11_newName_47 (by decide) ?_
              refine cbVv (n := 1) (rest := []) hx hb hml hown hts hE hP hD hS hA (sY_X11_wrong_1 l dC dI cy y0 r 3 v9 f9 w9 g9 hIv9 hCf9 hRf9 ) k_1641 k_1643 k_50 k_114 k_1644 (by decide +kernel) ⟨Nat.le_of_ble_eq_true rfl, Nat.le_of_ble_eq_true rfl⟩ 0 11 rfl rfl (rfl) hl.1 rfl (Nat.le_of_ble_eq_true rfl) dX11_newName_48 (fun u H locs hw hP hD hS => ?_)
              obtain ⟨v43, f44, w45, g46⟩ := u
              obtain ⟨hIv43, hCf44, hRf44, hk0_v43, hk3_v43, hk4_v43, hk5_v43, hk8_v43, hk9_v43, hk10_v43, hk24_v43, hk25_v43, hk35_v43, hk36_v43, hk38_v43, hk39_v43, pv47, pv48⟩ := hw
              have hP : va_P (dC, dI) vwCl (YW cy y0 r v43 f44 w45 g46) H := hP
              have hD : va_D A (YW cy y0 r v43 f44 w45 g46) := hD
              have b3_v43 : 0 ≤ (v43 3).toInt ∧ (v43 3).toInt ≤ 1600 := YIb.b hIv43.1 3 (by decide)
              have pv47 : (v9 3).toInt ≤ (v43 3).toInt := pv47
              have pv48 : (v43 5).toInt = (v9 5).toInt ∨ (v9 3).toInt < (v43 3).toInt ∨ ¬ (v43 5).toInt = 59 := pv48
              have hUv43 : (v43 35).toInt + (v43 36).toInt ≤ 40 := hIv43.2
              have hq0_v43 : v43 0 = (v 0) := hk0_v43.trans hq0_v9
              have hq3_v43 : v43 3 = (v1 3) := hk3_v43.trans hq3_v9
              have zq3_v43 := congrArg Int32.toInt hq3_v43
              have hq4_v43 : v43 4 = (v 4) := hk4_v43.trans hq4_v9
              have zq4_v43 := congrArg Int32.toInt hq4_v43
              have hq5_v43 : v43 5 = (v1 5) := hk5_v43.trans hq5_v9
              have zq5_v43 := congrArg Int32.toInt hq5_v43
              have hq8_v43 : v43 8 = (v 8) := hk8_v43.trans hq8_v9
              have hq9_v43 : v43 9 = (v 9) := hk9_v43.trans hq9_v9
              have zq9_v43 := congrArg Int32.toInt hq9_v43
              have hq10_v43 : v43 10 = (v 10) := hk10_v43.trans hq10_v9
              have hq24_v43 : v43 24 = (v 24) := hk24_v43.trans hq24_v9
              have hq25_v43 : v43 25 = (v 25) := hk25_v43.trans hq25_v9
              have hq35_v43 : v43 35 = (v 35) := hk35_v43.trans hq35_v9
              have zq35_v43 := congrArg Int32.toInt hq35_v43
              have hq36_v43 : v43 36 = (v 36) := hk36_v43.trans hq36_v9
              have zq36_v43 := congrArg Int32.toInt hq36_v43
              have hq38_v43 : v43 38 = (v 38) := hk38_v43.trans hq38_v9
              have hq39_v43 : v43 39 = (v 39) := hk39_v43.trans hq39_v9
              obtain ⟨t49, et49⟩ : ∃ y : Int32, y = l3_9 + 1 := ⟨_, rfl⟩
              have zt49 : t49.toInt = l3_9.toInt + 1 := by rw [et49]; exact add_i rfl (by decide) (by omega) (by omega)
              refine lv_iinc (v := t49) (lv' := [(3, .int t49), (0, .ref y0), (1, .int p1), (2, .int p2)]) hx hb dX11_newName_51 hl (k := 0) rfl (by rw [et49]; rfl) (by decide) rfl (fun ls hl => ?_)
              refine lv_goto (tgt := 18) hx hb dX11_newName_54 (by decide) ?_
              have rg50 := fb_rng t49
              exact ih9 t49 v43 f44 w45 g46 hIv43 hCf44 hRf44 hq0_v43 hq3_v43 hq4_v43 hq5_v43 hq8_v43 hq9_v43 hq10_v43 hq24_v43 hq25_v43 hq35_v43 hq36_v43 hq38_v43 hq39_v43 ⟨show (0 : Int) ≤ t49.toInt by omega, show t49.toInt ≤ (2147483647 : Int) by omega⟩ (by show (2147483647 - t49.toInt).toNat < n9; omega) _ _ _ hP hD hS (lv_sub hl [0, 1, 2, 3] rfl)
    exact lp9 _ 0 v1 f2 w3 g4 hIv1 hCf2 hRf2 hq0_v1 rfl hq4_v1 rfl hq8_v1 hq9_v1 hq10_v1 hq24_v1 hq25_v1 hq35_v1 hq36_v1 hq38_v1 hq39_v1 ⟨by decide, by decide⟩ (Nat.lt_succ_self _) _ _ _ hP hD hS (lv_sub hl [0, 1, 2, 3] rfl)
  · skip
    subst g8
    refine lv_if_ne (tgt := 16) hx hb dX11_newName_8 (by decide) (fun c0 => absurd (by decide) c0) (fun _ => ?_)
    refine lv_aload_n hx hb dX11_newName_11 rfl (lv_at hl 0 rfl) ?_
    refine lv_iconst (v := 2) hx hb dX11_newName_12 (by decide) ?_
    refine cbVv (n := 1) (rest := []) hx hb hml hown hts hE hP hD hS hA (sY_X11_wrong_1 l dC dI cy y0 r 2 v1 f2 w3 g4 hIv1 hCf2 hRf2 ) k_1641 k_1643 k_50 k_114 k_1644 (by decide +kernel) ⟨Nat.le_of_ble_eq_true rfl, Nat.le_of_ble_eq_true rfl⟩ 0 11 rfl rfl (rfl) hl.1 rfl (Nat.le_of_ble_eq_true rfl) dX11_newName_13 (fun u H locs hw hP hD hS => ?_)
    obtain ⟨v51, f52, w53, g54⟩ := u
    obtain ⟨hIv51, hCf52, hRf52, hk0_v51, hk3_v51, hk4_v51, hk5_v51, hk8_v51, hk9_v51, hk10_v51, hk24_v51, hk25_v51, hk35_v51, hk36_v51, hk38_v51, hk39_v51, pv55, pv56⟩ := hw
    have hP : va_P (dC, dI) vwCl (YW cy y0 r v51 f52 w53 g54) H := hP
    have hD : va_D A (YW cy y0 r v51 f52 w53 g54) := hD
    have b3_v51 : 0 ≤ (v51 3).toInt ∧ (v51 3).toInt ≤ 1600 := YIb.b hIv51.1 3 (by decide)
    have pv55 : (v1 3).toInt ≤ (v51 3).toInt := pv55
    have pv56 : (v51 5).toInt = (v1 5).toInt ∨ (v1 3).toInt < (v51 3).toInt ∨ ¬ (v51 5).toInt = 59 := pv56
    have hUv51 : (v51 35).toInt + (v51 36).toInt ≤ 40 := hIv51.2
    have hq0_v51 : v51 0 = (v 0) := hk0_v51.trans hq0_v1
    have hq3_v51 : v51 3 = (v1 3) := hk3_v51
    have zq3_v51 := congrArg Int32.toInt hq3_v51
    have hq4_v51 : v51 4 = (v 4) := hk4_v51.trans hq4_v1
    have zq4_v51 := congrArg Int32.toInt hq4_v51
    have hq5_v51 : v51 5 = (v1 5) := hk5_v51
    have zq5_v51 := congrArg Int32.toInt hq5_v51
    have hq8_v51 : v51 8 = (v 8) := hk8_v51.trans hq8_v1
    have hq9_v51 : v51 9 = (v 9) := hk9_v51.trans hq9_v1
    have zq9_v51 := congrArg Int32.toInt hq9_v51
    have hq10_v51 : v51 10 = (v 10) := hk10_v51.trans hq10_v1
    have hq24_v51 : v51 24 = (v 24) := hk24_v51.trans hq24_v1
    have hq25_v51 : v51 25 = (v 25) := hk25_v51.trans hq25_v1
    have hq35_v51 : v51 35 = (v 35) := hk35_v51.trans hq35_v1
    have zq35_v51 := congrArg Int32.toInt hq35_v51
    have hq36_v51 : v51 36 = (v 36) := hk36_v51.trans hq36_v1
    have zq36_v51 := congrArg Int32.toInt hq36_v51
    have hq38_v51 : v51 38 = (v 38) := hk38_v51.trans hq38_v1
    have hq39_v51 : v51 39 = (v 39) := hk39_v51.trans hq39_v1
    refine lv_iconst (v := 0) hx hb dX11_newName_16 (by decide) ?_
    refine lv_istore_n (lv' := [(3, .int 0), (0, .ref y0), (1, .int p1), (2, .int p2)]) hx hb dX11_newName_17 rfl hl (by decide) rfl (fun ls hl => ?_)
    have lp57 : ∀ (n57 : Nat) (l3_57 : Int32) (v57 : Nat → Int32) (f57 : Nat → Nat → Int32) (w57 : Int64) (g57 : Nat → Int64), YI v57 → YC f57 → progOK (f57 4) (f57 5) (v57 9).toInt.toNat → v57 0 = (v 0) → v57 3 = (v1 3) → v57 4 = (v 4) → v57 5 = (v1 5) → v57 8 = (v 8) → v57 9 = (v 9) → v57 10 = (v 10) → v57 24 = (v 24) → v57 25 = (v 25) → v57 35 = (v 35) → v57 36 = (v 36) → v57 38 = (v 38) → v57 39 = (v 39) → ((0 : Int) ≤ l3_57.toInt ∧ l3_57.toInt ≤ 2147483647) → (2147483647 - l3_57.toInt).toNat < n57 → ∀ (H : Heap) (locs : List Loc) (ls : Array Slot), va_P (dC, dI) vwCl (YW cy y0 r v57 f57 w57 g57) H → va_D A (YW cy y0 r v57 f57 w57 g57) → va_S A s.heap H locs → lv_has ls 4 [(3, .int l3_57), (0, .ref y0), (1, .int p1), (2, .int p2)] → W p l e { frames := 3, cells := 0, slots := 0, locals := 103 } s m ([.ref y0, .int p1, .int p2] : List Value).toArray below meth c H locs 0 0 Q (F0 m 18 ls []) := by
      intro n57
      induction n57 with
      | zero => intro l3_57 v57 f57 w57 g57 hIv57 hCf57 hRf57 hq0_v57 hq3_v57 hq4_v57 hq5_v57 hq8_v57 hq9_v57 hq10_v57 hq24_v57 hq25_v57 hq35_v57 hq36_v57 hq38_v57 hq39_v57 hr3_57 hm; exact absurd hm (Nat.not_lt_zero _)
      | succ n57 ih57 =>
        intro l3_57 v57 f57 w57 g57 hIv57 hCf57 hRf57 hq0_v57 hq3_v57 hq4_v57 hq5_v57 hq8_v57 hq9_v57 hq10_v57 hq24_v57 hq25_v57 hq35_v57 hq36_v57 hq38_v57 hq39_v57 hr3_57 hm57 H locs ls hP hD hS hl
        have hUv57 : (v57 35).toInt + (v57 36).toInt ≤ 40 := hIv57.2
        have zq3_v57 := congrArg Int32.toInt hq3_v57
        have zq4_v57 := congrArg Int32.toInt hq4_v57
        have zq5_v57 := congrArg Int32.toInt hq5_v57
        have zq9_v57 := congrArg Int32.toInt hq9_v57
        have zq35_v57 := congrArg Int32.toInt hq35_v57
        have zq36_v57 := congrArg Int32.toInt hq36_v57
        refine lv_iload_n hx hb dX11_newName_18 rfl (lv_at hl 0 rfl) ?_
        refine lv_iload_n hx hb dX11_newName_19 rfl (lv_at hl 3 rfl) ?_
        refine lv_icmp_ge (tgt := 57) hx hb dX11_newName_20 (by decide) (fun c58 => ?_) (fun c58 => ?_)
        · skip
          have zc58 : p2.toInt ≤ l3_57.toInt := by rw [fa_le] at c58; exact c58
          have rg59 := fb_rng l3_57
          have rg60 := fb_rng p2
          refine lv_aload_n hx hb dX11_newName_57 rfl (lv_at hl 1 rfl) ?_
          refine va_get (D := (dC, dI)) (ci := 11) (v := .int (v57 1)) (C := RX11) (T := TX11) (N := 79) hx hb hts inB_11 hown hE.1 hP 0 rfl rfl 2 (by decide) (hts _ k_1322) (fun _ h9 => h9) rfl dX11_newName_58 ?_
          refine lv_if_le (tgt := 65) hx hb dX11_newName_61 (by decide) (fun c61 => ?_) (fun c61 => ?_)
          · skip
            have zc61 : (v57 1).toInt ≤ 0 := by rw [fa_le, show (0 : Int32).toInt = 0 from by decide] at c61; exact c61
            refine lv_aload_n hx hb dX11_newName_65 rfl (lv_at hl 1 rfl) ?_
            refine va_get (D := (dC, dI)) (ci := 11) (v := .ref (r 10)) (C := RX11) (T := TX11) (N := 79) hx hb hts inB_11 hown hE.1 hP 0 rfl rfl 10 (by decide) (hts _ k_1330) (fun _ h9 => h9) rfl dX11_newName_66 ?_
            refine lv_iload_n hx hb dX11_newName_69 rfl (lv_at hl 2 rfl) ?_
            refine lv_iload_n hx hb dX11_newName_70 rfl (lv_at hl 3 rfl) ?_
            refine lv_iadd hx hb dX11_newName_71 ?_
            refine lv_topi (fun t62 et62 => ?_)
            have rg63 := fb_rng p1
            have zt62 : t62.toInt = p1.toInt + p2.toInt := by rw [et62]; exact add_i rfl rfl (by omega) (by omega)
            refine lv_aload_n hx hb dX11_newName_72 rfl (lv_at hl 1 rfl) ?_
            refine va_get (D := (dC, dI)) (ci := 11) (v := .long w57) (C := RX11) (T := TX11) (N := 79) hx hb hts inB_11 hown hE.1 hP 0 rfl rfl 9 (by decide) (hts _ k_1329) (fun _ h9 => h9) rfl dX11_newName_73 ?_
            refine va_last hx hb hE.1 hP hD hS 2 2 rfl rfl (vp_in_iff.mpr ⟨by omega, by omega⟩) dX11_newName_76 (fun H locs hP hD hS => ?_)
            obtain ⟨g64, hP, hD⟩ : ∃ fz9, va_P (dC, dI) vwCl (YW cy y0 r v57 f57 w57 fz9) H ∧ va_D A (YW cy y0 r v57 f57 w57 fz9) := ⟨_, hP, hD⟩
            refine lv_aload_n hx hb dX11_newName_77 rfl (lv_at hl 1 rfl) ?_
            refine cbVv (n := 0) (rest := []) hx hb hml hown hts hE hP hD hS hA (sY_X11_token_1 l dC dI cy y0 r  v57 f57 w57 g64 hIv57 hCf57 hRf57 ) k_1579 k_1581 k_42 k_114 k_1582 (by decide +kernel) ⟨Nat.le_of_ble_eq_true rfl, Nat.le_of_ble_eq_true rfl⟩ 0 11 rfl rfl (rfl) hl.1 rfl (Nat.le_of_ble_eq_true rfl) dX11_newName_78 (fun u H locs hw hP hD hS => ?_)
            obtain ⟨v65, f66, w67, g68⟩ := u
            obtain ⟨hIv65, hCf66, hRf66, hk0_v65, hk1_v65, hk4_v65, hk8_v65, hk9_v65, hk10_v65, hk24_v65, hk25_v65, hk35_v65, hk36_v65, hk38_v65, hk39_v65, pv69, pv70⟩ := hw
            have hP : va_P (dC, dI) vwCl (YW cy y0 r v65 f66 w67 g68) H := hP
            have hD : va_D A (YW cy y0 r v65 f66 w67 g68) := hD
            have b3_v65 : 0 ≤ (v65 3).toInt ∧ (v65 3).toInt ≤ 1600 := YIb.b hIv65.1 3 (by decide)
            have pv69 : (v57 3).toInt ≤ (v65 3).toInt := pv69
            have pv70 : (v65 5).toInt = (v57 5).toInt ∨ (v57 3).toInt < (v65 3).toInt ∨ ¬ (v65 5).toInt = 59 := pv70
            have hUv65 : (v65 35).toInt + (v65 36).toInt ≤ 40 := hIv65.2
            have hq0_v65 : v65 0 = (v 0) := hk0_v65.trans hq0_v57
            have hq1_v65 : v65 1 = (v57 1) := hk1_v65
            have hq4_v65 : v65 4 = (v 4) := hk4_v65.trans hq4_v57
            have zq4_v65 := congrArg Int32.toInt hq4_v65
            have hq8_v65 : v65 8 = (v 8) := hk8_v65.trans hq8_v57
            have hq9_v65 : v65 9 = (v 9) := hk9_v65.trans hq9_v57
            have zq9_v65 := congrArg Int32.toInt hq9_v65
            have hq10_v65 : v65 10 = (v 10) := hk10_v65.trans hq10_v57
            have hq24_v65 : v65 24 = (v 24) := hk24_v65.trans hq24_v57
            have hq25_v65 : v65 25 = (v 25) := hk25_v65.trans hq25_v57
            have hq35_v65 : v65 35 = (v 35) := hk35_v65.trans hq35_v57
            have zq35_v65 := congrArg Int32.toInt hq35_v65
            have hq36_v65 : v65 36 = (v 36) := hk36_v65.trans hq36_v57
            have zq36_v65 := congrArg Int32.toInt hq36_v65
            have hq38_v65 : v65 38 = (v 38) := hk38_v65.trans hq38_v57
            have hq39_v65 : v65 39 = (v 39) := hk39_v65.trans hq39_v57
            exact ret (v65, f66, w67, g68) _ _ _ _ _ _ ⟨hIv65, hCf66, hRf66, (hk0_v65.trans hq0_v57), (hk4_v65.trans hq4_v57), (hk8_v65.trans hq8_v57), (hk9_v65.trans hq9_v57), (hk10_v65.trans hq10_v57), (hk24_v65.trans hq24_v57), (hk25_v65.trans hq25_v57), (hk35_v65.trans hq35_v57), (hk36_v65.trans hq36_v57), (hk38_v65.trans hq38_v57), (hk39_v65.trans hq39_v57), (by show (v 3).toInt ≤ (v65 3).toInt; omega), (by show (v65 5).toInt = (v 5).toInt ∨ (v 3).toInt < (v65 3).toInt ∨ ¬ (v65 5).toInt = 59; omega)⟩ hP hD hS dX11_newName_81 (Nat.le_refl _) (Nat.le_refl _)
          · skip
            have zc61 : ¬ ((v57 1).toInt ≤ 0) := by rw [fa_le, show (0 : Int32).toInt = 0 from by decide] at c61; exact c61
            exact ret (v57, f57, w57, g57) _ _ _ _ _ _ ⟨hIv57, hCf57, hRf57, hq0_v57, hq4_v57, hq8_v57, hq9_v57, hq10_v57, hq24_v57, hq25_v57, hq35_v57, hq36_v57, hq38_v57, hq39_v57, (by show (v 3).toInt ≤ (v57 3).toInt; omega), (by show (v57 5).toInt = (v 5).toInt ∨ (v 3).toInt < (v57 3).toInt ∨ ¬ (v57 5).toInt = 59; omega)⟩ hP hD hS dX11_newName_64 (Nat.le_refl _) (Nat.le_refl _)
        · skip
          have zc58 : ¬ (p2.toInt ≤ l3_57.toInt) := by rw [fa_le] at c58; exact c58
          have rg71 := fb_rng l3_57
          have rg72 := fb_rng p2
          refine lv_aload_n hx hb dX11_newName_23 rfl (lv_at hl 1 rfl) ?_
          refine va_get (D := (dC, dI)) (ci := 11) (v := .int (v57 1)) (C := RX11) (T := TX11) (N := 79) hx hb hts inB_11 hown hE.1 hP 0 rfl rfl 2 (by decide) (hts _ k_1322) (fun _ h9 => h9) rfl dX11_newName_24 ?_
          refine lv_if_ne (tgt := 57) hx hb dX11_newName_27 (by decide) (fun c73 => ?_) (fun c73 => ?_)
          · skip
            have zc73 : ¬ ((v57 1).toInt = 0) := by rw [fa_eq, show (0 : Int32).toInt = 0 from by decide] at c73; exact c73
            refine lv_aload_n hx hb dX11_newName_57 rfl (lv_at hl 1 rfl) ?_
            refine va_get (D := (dC, dI)) (ci := 11) (v := .int (v57 1)) (C := RX11) (T := TX11) (N := 79) hx hb hts inB_11 hown hE.1 hP 0 rfl rfl 2 (by decide) (hts _ k_1322) (fun _ h9 => h9) rfl dX11_newName_58 ?_
            refine lv_if_le (tgt := 65) hx hb dX11_newName_61 (by decide) (fun c74 => ?_) (fun c74 => ?_)
            · skip
              have zc74 : (v57 1).toInt ≤ 0 := by rw [fa_le, show (0 : Int32).toInt = 0 from by decide] at c74; exact c74
              refine lv_aload_n hx hb dX11_newName_65 rfl (lv_at hl 1 rfl) ?_
              refine va_get (D := (dC, dI)) (ci := 11) (v := .ref (r 10)) (C := RX11) (T := TX11) (N := 79) hx hb hts inB_11 hown hE.1 hP 0 rfl rfl 10 (by decide) (hts _ k_1330) (fun _ h9 => h9) rfl dX11_newName_66 ?_
              refine lv_iload_n hx hb dX11_newName_69 rfl (lv_at hl 2 rfl) ?_
              refine lv_iload_n hx hb dX11_newName_70 rfl (lv_at hl 3 rfl) ?_
              refine lv_iadd hx hb dX11_newName_71 ?_
              refine lv_topi (fun t75 et75 => ?_)
              have rg76 := fb_rng p1
              have zt75 : t75.toInt = p1.toInt + p2.toInt := by rw [et75]; exact add_i rfl rfl (by omega) (by omega)
              refine lv_aload_n hx hb dX11_newName_72 rfl (lv_at hl 1 rfl) ?_
              refine va_get (D := (dC, dI)) (ci := 11) (v := .long w57) (C := RX11) (T := TX11) (N := 79) hx hb hts inB_11 hown hE.1 hP 0 rfl rfl 9 (by decide) (hts _ k_1329) (fun _ h9 => h9) rfl dX11_newName_73 ?_
              refine va_last hx hb hE.1 hP hD hS 2 2 rfl rfl (vp_in_iff.mpr ⟨by omega, by omega⟩) dX11_newName_76 (fun H locs hP hD hS => ?_)
              obtain ⟨g77, hP, hD⟩ : ∃ fz9, va_P (dC, dI) vwCl (YW cy y0 r v57 f57 w57 fz9) H ∧ va_D A (YW cy y0 r v57 f57 w57 fz9) := ⟨_, hP, hD⟩
              refine lv_aload_n hx hb dX11_newName_77 rfl (lv_at hl 1 rfl) ?_
              refine cbVv (n := 0) (rest := []) hx hb hml hown hts hE hP hD hS hA (sY_X11_token_1 l dC dI cy y0 r  v57 f57 w57 g77 hIv57 hCf57 hRf57 ) k_1579 k_1581 k_42 k_114 k_1582 (by decide +kernel) ⟨Nat.le_of_ble_eq_true rfl, Nat.le_of_ble_eq_true rfl⟩ 0 11 rfl rfl (rfl) hl.1 rfl (Nat.le_of_ble_eq_true rfl) dX11_newName_78 (fun u H locs hw hP hD hS => ?_)
              obtain ⟨v78, f79, w80, g81⟩ := u
              obtain ⟨hIv78, hCf79, hRf79, hk0_v78, hk1_v78, hk4_v78, hk8_v78, hk9_v78, hk10_v78, hk24_v78, hk25_v78, hk35_v78, hk36_v78, hk38_v78, hk39_v78, pv82, pv83⟩ := hw
              have hP : va_P (dC, dI) vwCl (YW cy y0 r v78 f79 w80 g81) H := hP
              have hD : va_D A (YW cy y0 r v78 f79 w80 g81) := hD
              have b3_v78 : 0 ≤ (v78 3).toInt ∧ (v78 3).toInt ≤ 1600 := YIb.b hIv78.1 3 (by decide)
              have pv82 : (v57 3).toInt ≤ (v78 3).toInt := pv82
              have pv83 : (v78 5).toInt = (v57 5).toInt ∨ (v57 3).toInt < (v78 3).toInt ∨ ¬ (v78 5).toInt = 59 := pv83
              have hUv78 : (v78 35).toInt + (v78 36).toInt ≤ 40 := hIv78.2
              have hq0_v78 : v78 0 = (v 0) := hk0_v78.trans hq0_v57
              have hq1_v78 : v78 1 = (v57 1) := hk1_v78
              have hq4_v78 : v78 4 = (v 4) := hk4_v78.trans hq4_v57
              have zq4_v78 := congrArg Int32.toInt hq4_v78
              have hq8_v78 : v78 8 = (v 8) := hk8_v78.trans hq8_v57
              have hq9_v78 : v78 9 = (v 9) := hk9_v78.trans hq9_v57
              have zq9_v78 := congrArg Int32.toInt hq9_v78
              have hq10_v78 : v78 10 = (v 10) := hk10_v78.trans hq10_v57
              have hq24_v78 : v78 24 = (v 24) := hk24_v78.trans hq24_v57
              have hq25_v78 : v78 25 = (v 25) := hk25_v78.trans hq25_v57
              have hq35_v78 : v78 35 = (v 35) := hk35_v78.trans hq35_v57
              have zq35_v78 := congrArg Int32.toInt hq35_v78
              have hq36_v78 : v78 36 = (v 36) := hk36_v78.trans hq36_v57
              have zq36_v78 := congrArg Int32.toInt hq36_v78
              have hq38_v78 : v78 38 = (v 38) := hk38_v78.trans hq38_v57
              have hq39_v78 : v78 39 = (v 39) := hk39_v78.trans hq39_v57
              exact ret (v78, f79, w80, g81) _ _ _ _ _ _ ⟨hIv78, hCf79, hRf79, (hk0_v78.trans hq0_v57), (hk4_v78.trans hq4_v57), (hk8_v78.trans hq8_v57), (hk9_v78.trans hq9_v57), (hk10_v78.trans hq10_v57), (hk24_v78.trans hq24_v57), (hk25_v78.trans hq25_v57), (hk35_v78.trans hq35_v57), (hk36_v78.trans hq36_v57), (hk38_v78.trans hq38_v57), (hk39_v78.trans hq39_v57), (by show (v 3).toInt ≤ (v78 3).toInt; omega), (by show (v78 5).toInt = (v 5).toInt ∨ (v 3).toInt < (v78 3).toInt ∨ ¬ (v78 5).toInt = 59; omega)⟩ hP hD hS dX11_newName_81 (Nat.le_refl _) (Nat.le_refl _)
            · skip
              have zc74 : ¬ ((v57 1).toInt ≤ 0) := by rw [fa_le, show (0 : Int32).toInt = 0 from by decide] at c74; exact c74
              exact ret (v57, f57, w57, g57) _ _ _ _ _ _ ⟨hIv57, hCf57, hRf57, hq0_v57, hq4_v57, hq8_v57, hq9_v57, hq10_v57, hq24_v57, hq25_v57, hq35_v57, hq36_v57, hq38_v57, hq39_v57, (by show (v 3).toInt ≤ (v57 3).toInt; omega), (by show (v57 5).toInt = (v 5).toInt ∨ (v 3).toInt < (v57 3).toInt ∨ ¬ (v57 5).toInt = 59; omega)⟩ hP hD hS dX11_newName_64 (Nat.le_refl _) (Nat.le_refl _)
          · skip
            have zc73 : (v57 1).toInt = 0 := by rw [fa_eq, show (0 : Int32).toInt = 0 from by decide] at c73; exact c73
            refine lv_aload_n hx hb dX11_newName_30 rfl (lv_at hl 1 rfl) ?_
            refine va_get (D := (dC, dI)) (ci := 11) (v := .ref (r 10)) (C := RX11) (T := TX11) (N := 79) hx hb hts inB_11 hown hE.1 hP 0 rfl rfl 10 (by decide) (hts _ k_1330) (fun _ h9 => h9) rfl dX11_newName_31 ?_
            refine lv_iload_n hx hb dX11_newName_34 rfl (lv_at hl 2 rfl) ?_
            refine lv_iload_n hx hb dX11_newName_35 rfl (lv_at hl 0 rfl) ?_
            refine lv_iadd hx hb dX11_newName_36 ?_
            refine lv_topi (fun t84 et84 => ?_)
            have rg85 := fb_rng p1
            have zt84 : t84.toInt = p1.toInt + l3_57.toInt := by rw [et84]; exact add_i rfl rfl (by omega) (by omega)
            refine va_lald hx hb hE.1 hP 2 2 rfl rfl (vp_in_iff.mpr ⟨by omega, by omega⟩) dX11_newName_37 ?_
            refine lv_topl (fun j86 ej86 => ?_)
            refine lv_aload_n hx hb dX11_newName_38 rfl (lv_at hl 1 rfl) ?_
            refine va_get (D := (dC, dI)) (ci := 11) (v := .long w57) (C := RX11) (T := TX11) (N := 79) hx hb hts inB_11 hown hE.1 hP 0 rfl rfl 9 (by decide) (hts _ k_1329) (fun _ h9 => h9) rfl dX11_newName_39 ?_
            refine W.lcmp hx hb dX11_newName_42 ?_
            refine lv_topi (fun t87 et87 => ?_)
            refine lv_if_ne (tgt := 51) hx hb dX11_newName_43 (by decide) (fun c88 => ?_) (fun c88 => ?_)
            · skip
              have zc88 : ¬ (t87.toInt = 0) := by rw [fa_eq, show (0 : Int32).toInt = 0 from by decide] at c88; exact c88
              obtain ⟨t89, et89⟩ : ∃ y : Int32, y = l3_57 + 1 := ⟨_, rfl⟩
              have zt89 : t89.toInt = l3_57.toInt + 1 := by rw [et89]; exact add_i rfl (by decide) (by omega) (by omega)
              refine lv_iinc (v := t89) (lv' := [(3, .int t89), (0, .ref y0), (1, .int p1), (2, .int p2)]) hx hb dX11_newName_51 hl (k := 0) rfl (by rw [et89]; rfl) (by decide) rfl (fun ls hl => ?_)
              refine lv_goto (tgt := 18) hx hb dX11_newName_54 (by decide) ?_
              have rg90 := fb_rng t89
              exact ih57 t89 v57 f57 w57 g57 hIv57 hCf57 hRf57 hq0_v57 hq3_v57 hq4_v57 hq5_v57 hq8_v57 hq9_v57 hq10_v57 hq24_v57 hq25_v57 hq35_v57 hq36_v57 hq38_v57 hq39_v57 ⟨show (0 : Int) ≤ t89.toInt by omega, show t89.toInt ≤ (2147483647 : Int) by omega⟩ (by show (2147483647 - t89.toInt).toNat < n57; omega) _ _ _ hP hD hS (lv_sub hl [0, 1, 2, 3] rfl)
            · skip
              have zc88 : t87.toInt = 0 := by rw [fa_eq, show (0 : Int32).toInt = 0 from by decide] at c88; exact c88
              refine lv_aload_n hx hb dX11_newName_46 rfl (lv_at hl 1 rfl) ?_
              refine lv_iconst (v := 3) hx hb dX11_newName_47 (by decide) ?_
              refine cbVv (n := 1) (rest := []) hx hb hml hown hts hE hP hD hS hA (sY_X11_wrong_1 l dC dI cy y0 r 3 v57 f57 w57 g57 hIv57 hCf57 hRf57 ) k_1641 k_1643 k_50 k_114 k_1644 (by decide +kernel) ⟨Nat.le_of_ble_eq_true rfl, Nat.le_of_ble_eq_true rfl⟩ 0 11 rfl rfl (rfl) hl.1 rfl (Nat.le_of_ble_eq_true rfl) dX11_newName_48 (fun u H locs hw hP hD hS => ?_)
              obtain ⟨v91, f92, w93, g94⟩ := u
              obtain ⟨hIv91, hCf92, hRf92, hk0_v91, hk3_v91, hk4_v91, hk5_v91, hk8_v91, hk9_v91, hk10_v91, hk24_v91, hk25_v91, hk35_v91, hk36_v91, hk38_v91, hk39_v91, pv95, pv96⟩ := hw
              have hP : va_P (dC, dI) vwCl (YW cy y0 r v91 f92 w93 g94) H := hP
              have hD : va_D A (YW cy y0 r v91 f92 w93 g94) := hD
              have b3_v91 : 0 ≤ (v91 3).toInt ∧ (v91 3).toInt ≤ 1600 := YIb.b hIv91.1 3 (by decide)
              have pv95 : (v57 3).toInt ≤ (v91 3).toInt := pv95
              have pv96 : (v91 5).toInt = (v57 5).toInt ∨ (v57 3).toInt < (v91 3).toInt ∨ ¬ (v91 5).toInt = 59 := pv96
              have hUv91 : (v91 35).toInt + (v91 36).toInt ≤ 40 := hIv91.2
              have hq0_v91 : v91 0 = (v 0) := hk0_v91.trans hq0_v57
              have hq3_v91 : v91 3 = (v1 3) := hk3_v91.trans hq3_v57
              have zq3_v91 := congrArg Int32.toInt hq3_v91
              have hq4_v91 : v91 4 = (v 4) := hk4_v91.trans hq4_v57
              have zq4_v91 := congrArg Int32.toInt hq4_v91
              have hq5_v91 : v91 5 = (v1 5) := hk5_v91.trans hq5_v57
              have zq5_v91 := congrArg Int32.toInt hq5_v91
              have hq8_v91 : v91 8 = (v 8) := hk8_v91.trans hq8_v57
              have hq9_v91 : v91 9 = (v 9) := hk9_v91.trans hq9_v57
              have zq9_v91 := congrArg Int32.toInt hq9_v91
              have hq10_v91 : v91 10 = (v 10) := hk10_v91.trans hq10_v57
              have hq24_v91 : v91 24 = (v 24) := hk24_v91.trans hq24_v57
              have hq25_v91 : v91 25 = (v 25) := hk25_v91.trans hq25_v57
              have hq35_v91 : v91 35 = (v 35) := hk35_v91.trans hq35_v57
              have zq35_v91 := congrArg Int32.toInt hq35_v91
              have hq36_v91 : v91 36 = (v 36) := hk36_v91.trans hq36_v57
              have zq36_v91 := congrArg Int32.toInt hq36_v91
              have hq38_v91 : v91 38 = (v 38) := hk38_v91.trans hq38_v57
              have hq39_v91 : v91 39 = (v 39) := hk39_v91.trans hq39_v57
              obtain ⟨t97, et97⟩ : ∃ y : Int32, y = l3_57 + 1 := ⟨_, rfl⟩
              have zt97 : t97.toInt = l3_57.toInt + 1 := by rw [et97]; exact add_i rfl (by decide) (by omega) (by omega)
              refine lv_iinc (v := t97) (lv' := [(3, .int t97), (0, .ref y0), (1, .int p1), (2, .int p2)]) hx hb dX11_newName_51 hl (k := 0) rfl (by rw [et97]; rfl) (by decide) rfl (fun ls hl => ?_)
              refine lv_goto (tgt := 18) hx hb dX11_newName_54 (by decide) ?_
              have rg98 := fb_rng t97
              exact ih57 t97 v91 f92 w93 g94 hIv91 hCf92 hRf92 hq0_v91 hq3_v91 hq4_v91 hq5_v91 hq8_v91 hq9_v91 hq10_v91 hq24_v91 hq25_v91 hq35_v91 hq36_v91 hq38_v91 hq39_v91 ⟨show (0 : Int) ≤ t97.toInt by omega, show t97.toInt ≤ (2147483647 : Int) by omega⟩ (by show (2147483647 - t97.toInt).toNat < n57; omega) _ _ _ hP hD hS (lv_sub hl [0, 1, 2, 3] rfl)
    exact lp57 _ 0 v51 f52 w53 g54 hIv51 hCf52 hRf52 hq0_v51 hq3_v51 hq4_v51 hq5_v51 hq8_v51 hq9_v51 hq10_v51 hq24_v51 hq25_v51 hq35_v51 hq36_v51 hq38_v51 hq39_v51 ⟨by decide, by decide⟩ (Nat.lt_succ_self _) _ _ _ hP hD hS (lv_sub hl [0, 1, 2, 3] rfl)
