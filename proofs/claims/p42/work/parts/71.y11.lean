set_option maxHeartbeats 4000000 in
set_option maxRecDepth 100000 in
theorem sY_X11_isName_1 (l : Launch) (dC : Nat → ClassId) (dI : Nat → Nat → Nat) (cy : Nat → ClassId) (y0 : Nat) (r : Nat → Nat)  (v : Nat → Int32) (f : Nat → Nat → Int32) (w : Int64) (g : Nat → Int64) (hIv : YI v) (hCf : YC f) (hRf : progOK (f 4) (f 5) (v 9).toInt.toNat)  : ctI l (dC, dI) cy yX11_isName cX11_isName 1 .boolean 2 80 0 0 Unit [.ref y0] (YW cy y0 r v f w g) (fun r u => ((r = 1) ∨ (r = 0))) (fun u => YW cy y0 r v f w g) := by
  refine ctI_of (by decide) (Nat.le_of_ble_eq_true rfl) (fun p e s m below meth c A ls Q hx hb hml hts hown hE hP hD hA hl ret => ?_)
  have hUv : (v 35).toInt + (v 36).toInt ≤ 40 := hIv.2
  have hown : s.vm.findClass RX11 = some m.cls := hown
  have hS : va_S A s.heap s.heap [] := va_S.rf
  have hl : lv_has ls 1 [(0, .ref y0)] := hl
  refine lv_aload_n hx hb dX11_isName_0 rfl (lv_at hl 0 rfl) ?_
  refine va_get (D := (dC, dI)) (ci := 11) (v := .int (v 5)) (C := RX11) (T := TX11) (N := 79) hx hb hts inB_11 hown hE.1 hP 0 rfl rfl 6 (by decide) (hts _ k_1326) (fun _ h9 => h9) rfl dX11_isName_1 ?_
  refine lv_iconst (v := 1) hx hb dX11_isName_4 (by decide) ?_
  refine lv_icmp_ne (tgt := 19) hx hb dX11_isName_5 (by decide) (fun c1 => ?_) (fun c1 => ?_)
  · skip
    have zc1 : ¬ ((v 5).toInt = 1) := by rw [fa_eq, show (1 : Int32).toInt = 1 from by decide] at c1; exact c1
    refine lv_iconst (v := 0) hx hb dX11_isName_19 (by decide) ?_
    exact ret 0 () _ _ _ _ _ _ rfl (Or.inr rfl) hP hD hS dX11_isName_20 (Nat.le_refl _) (Nat.le_refl _)
  · skip
    have zc1 : (v 5).toInt = 1 := by rw [fa_eq, show (1 : Int32).toInt = 1 from by decide] at c1; exact c1
    refine lv_aload_n hx hb dX11_isName_8 rfl (lv_at hl 0 rfl) ?_
    refine cbVi (n := 0) (rest := []) hx hb hml hown hts hE hP hD hS hA (sY_X11_isOwn_1 l dC dI cy y0 r  v f w g hIv hCf hRf ) k_1617 k_1619 k_49 k_114 k_1620 (by decide +kernel) ⟨Nat.le_of_ble_eq_true rfl, Nat.le_of_ble_eq_true rfl⟩ 0 11 rfl rfl (rfl) hl.1 rfl (Nat.le_of_ble_eq_true rfl) dX11_isName_9 (fun r2 u H locs hw hP hD hS => ?_)
    rcases hw with ⟨g3⟩ | ⟨g3⟩
    · skip
      subst g3
      refine lv_if_ne (tgt := 19) hx hb dX11_isName_12 (by decide) (fun _ => ?_) (fun c0 => absurd c0 (by decide))
      refine lv_iconst (v := 0) hx hb dX11_isName_19 (by decide) ?_
      exact ret 0 () _ _ _ _ _ _ rfl (Or.inr rfl) hP hD hS dX11_isName_20 (Nat.le_refl _) (Nat.le_refl _)
    · skip
      subst g3
      refine lv_if_ne (tgt := 19) hx hb dX11_isName_12 (by decide) (fun c0 => absurd (by decide) c0) (fun _ => ?_)
      refine lv_iconst (v := 1) hx hb dX11_isName_15 (by decide) ?_
      refine lv_goto (tgt := 20) hx hb dX11_isName_16 (by decide) ?_
      exact ret 1 () _ _ _ _ _ _ rfl (Or.inl rfl) hP hD hS dX11_isName_20 (Nat.le_refl _) (Nat.le_refl _)
set_option maxHeartbeats 4000000 in
set_option maxRecDepth 100000 in
theorem sY_X11_newName_1 (l : Launch) (dC : Nat → ClassId) (dI : Nat → Nat → Nat) (cy : Nat → ClassId) (y0 : Nat) (r : Nat → Nat) (p1 : Int32) (p2 : Int32) (v : Nat → Int32) (f : Nat → Nat → Int32) (w : Int64) (g : Nat → Int64) (hIv : YI v) (hCf : YC f) (hRf : progOK (f 4) (f 5) (v 9).toInt.toNat) (hp1 : (0 : Int) ≤ p1.toInt ∧ p1.toInt ≤ 6) (hp2 : (0 : Int) ≤ p2.toInt ∧ p2.toInt ≤ 5) : ctV l (dC, dI) cy yX11_newName cX11_newName 4 3 103 0 0 ((Nat → Int32) × (Nat → Nat → Int32) × (Int64) × (Nat → Int64)) [.ref y0, .int p1, .int p2] (YW cy y0 r v f w g) (fun u => YI u.1 ∧ YC u.2.1 ∧ progOK (u.2.1 4) (u.2.1 5) (u.1 9).toInt.toNat ∧ u.1 0 = v 0 ∧ u.1 4 = v 4 ∧ u.1 8 = v 8 ∧ u.1 9 = v 9 ∧ u.1 10 = v 10 ∧ u.1 17 = v 17 ∧ u.1 18 = v 18 ∧ u.1 24 = v 24 ∧ u.1 25 = v 25 ∧ u.1 35 = v 35 ∧ u.1 36 = v 36 ∧ u.1 38 = v 38 ∧ u.1 39 = v 39 ∧ ((v 3).toInt ≤ (u.1 3).toInt) ∧ ((u.1 5).toInt = (v 5).toInt ∨ (v 3).toInt < (u.1 3).toInt ∨ ¬ (u.1 5).toInt = 59)) (fun u => YW cy y0 r u.1 u.2.1 u.2.2.1 u.2.2.2) := by
  refine ctV_of (by decide) (Nat.le_of_ble_eq_true rfl) (fun p e s m below meth c A ls Q hx hb hml hts hown hnm hE hP hD hA hl ret => ?_)
  have hUv : (v 35).toInt + (v 36).toInt ≤ 40 := hIv.2
  have hown : s.vm.findClass RX11 = some m.cls := hown
  have hS : va_S A s.heap s.heap [] := va_S.rf
  have hl : lv_has ls 4 [(0, .ref y0), (1, .int p1), (2, .int p2)] := hl
  refine lv_aload_n hx hb dX11_newName_0 rfl (lv_at hl 0 rfl) ?_
  refine cbVv (n := 0) (rest := []) hx hb hml hown hts hE hP hD hS hA (sY_X11_token_1 l dC dI cy y0 r  v f w g hIv hCf hRf ) k_1579 k_1581 k_42 k_114 k_1582 (by decide +kernel) ⟨Nat.le_of_ble_eq_true rfl, Nat.le_of_ble_eq_true rfl⟩ 0 11 rfl rfl (rfl) hl.1 rfl (Nat.le_of_ble_eq_true rfl) dX11_newName_1 (fun u H locs hw hP hD hS => ?_)
  obtain ⟨v1, f2, w3, g4⟩ := u
  obtain ⟨hIv1, hCf2, hRf2, hk0_v1, hk1_v1, hk4_v1, hk8_v1, hk9_v1, hk10_v1, hk17_v1, hk18_v1, hk24_v1, hk25_v1, hk35_v1, hk36_v1, hk38_v1, hk39_v1, pv5, pv6⟩ := hw
  have hP : va_P (dC, dI) vwCl (YW cy y0 r v1 f2 w3 g4) H := hP
  have hD : va_D A (YW cy y0 r v1 f2 w3 g4) := hD
  have b3_v1 : 0 ≤ (v1 3).toInt ∧ (v1 3).toInt ≤ 1600 := YIb.b hIv1.1 3 (by decide)
  have pv5 : (v 3).toInt ≤ (v1 3).toInt := pv5
  have pv6 : (v1 5).toInt = (v 5).toInt ∨ (v 3).toInt < (v1 3).toInt ∨ ¬ (v1 5).toInt = 59 := pv6
  have hUv1 : (v1 35).toInt + (v1 36).toInt ≤ 40 := hIv1.2
  have hq0_v1 : v1 0 = (v 0) := hk0_v1
  have hq1_v1 : v1 1 = (v 1) := hk1_v1
  have hq4_v1 : v1 4 = (v 4) := hk4_v1
  have zq4_v1 := congrArg Int32.toInt hq4_v1
  have hq8_v1 : v1 8 = (v 8) := hk8_v1
  have hq9_v1 : v1 9 = (v 9) := hk9_v1
  have zq9_v1 := congrArg Int32.toInt hq9_v1
  have hq10_v1 : v1 10 = (v 10) := hk10_v1
  have hq17_v1 : v1 17 = (v 17) := hk17_v1
  have hq18_v1 : v1 18 = (v 18) := hk18_v1
  have hq24_v1 : v1 24 = (v 24) := hk24_v1
  have hq25_v1 : v1 25 = (v 25) := hk25_v1
  have hq35_v1 : v1 35 = (v 35) := hk35_v1
  have zq35_v1 := congrArg Int32.toInt hq35_v1
  have hq36_v1 : v1 36 = (v 36) := hk36_v1
  have zq36_v1 := congrArg Int32.toInt hq36_v1
  have hq38_v1 : v1 38 = (v 38) := hk38_v1
  have hq39_v1 : v1 39 = (v 39) := hk39_v1
  refine lv_aload_n hx hb dX11_newName_4 rfl (lv_at hl 0 rfl) ?_
  refine cbVi (n := 0) (rest := []) hx hb hml hown hts hE hP hD hS hA (sY_X11_isName_1 l dC dI cy y0 r  v1 f2 w3 g4 hIv1 hCf2 hRf2 ) k_1613 k_1615 k_48 k_114 k_1616 (by decide +kernel) ⟨Nat.le_of_ble_eq_true rfl, Nat.le_of_ble_eq_true rfl⟩ 0 11 rfl rfl (rfl) hl.1 rfl (Nat.le_of_ble_eq_true rfl) dX11_newName_5 (fun r7 u H locs hw hP hD hS => ?_)
  rcases hw with ⟨g8⟩ | ⟨g8⟩
  · skip
    subst g8
    refine lv_if_ne (tgt := 16) hx hb dX11_newName_8 (by decide) (fun _ => ?_) (fun c0 => absurd c0 (by decide))
    refine lv_iconst (v := 0) hx hb dX11_newName_16 (by decide) ?_
    refine lv_istore_n (lv' := [(3, .int 0), (0, .ref y0), (1, .int p1), (2, .int p2)]) hx hb dX11_newName_17 rfl hl (by decide) rfl (fun ls hl => ?_)
    have lp9 : ∀ (n9 : Nat) (l3_9 : Int32) (v9 : Nat → Int32) (f9 : Nat → Nat → Int32) (w9 : Int64) (g9 : Nat → Int64), YI v9 → YC f9 → progOK (f9 4) (f9 5) (v9 9).toInt.toNat → v9 0 = (v 0) → v9 3 = (v1 3) → v9 4 = (v 4) → v9 5 = (v1 5) → v9 8 = (v 8) → v9 9 = (v 9) → v9 10 = (v 10) → v9 17 = (v 17) → v9 18 = (v 18) → v9 24 = (v 24) → v9 25 = (v 25) → v9 35 = (v 35) → v9 36 = (v 36) → v9 38 = (v 38) → v9 39 = (v 39) → ((0 : Int) ≤ l3_9.toInt ∧ l3_9.toInt ≤ 2147483647) → (2147483647 - l3_9.toInt).toNat < n9 → ∀ (H : Heap) (locs : List Loc) (ls : Array Slot), va_P (dC, dI) vwCl (YW cy y0 r v9 f9 w9 g9) H → va_D A (YW cy y0 r v9 f9 w9 g9) → va_S A s.heap H locs → lv_has ls 4 [(3, .int l3_9), (0, .ref y0), (1, .int p1), (2, .int p2)] → W p l e { frames := 3, cells := 0, slots := 0, locals := 103 } s m ([.ref y0, .int p1, .int p2] : List Value).toArray below meth c H locs 0 0 Q (F0 m 18 ls []) := by
      intro n9
      induction n9 with
      | zero => intro l3_9 v9 f9 w9 g9 hIv9 hCf9 hRf9 hq0_v9 hq3_v9 hq4_v9 hq5_v9 hq8_v9 hq9_v9 hq10_v9 hq17_v9 hq18_v9 hq24_v9 hq25_v9 hq35_v9 hq36_v9 hq38_v9 hq39_v9 hr3_9 hm; exact absurd hm (Nat.not_lt_zero _)
      | succ n9 ih9 =>
        intro l3_9 v9 f9 w9 g9 hIv9 hCf9 hRf9 hq0_v9 hq3_v9 hq4_v9 hq5_v9 hq8_v9 hq9_v9 hq10_v9 hq17_v9 hq18_v9 hq24_v9 hq25_v9 hq35_v9 hq36_v9 hq38_v9 hq39_v9 hr3_9 hm9 H locs ls hP hD hS hl
        have hUv9 : (v9 35).toInt + (v9 36).toInt ≤ 40 := hIv9.2
        have zq3_v9 := congrArg Int32.toInt hq3_v9
        have zq4_v9 := congrArg Int32.toInt hq4_v9
        have zq5_v9 := congrArg Int32.toInt hq5_v9
        have zq9_v9 := congrArg Int32.toInt hq9_v9
        have zq35_v9 := congrArg Int32.toInt hq35_v9
        have zq36_v9 := congrArg Int32.toInt hq36_v9
        refine lv_iload_n hx hb dX11_newName_18 rfl (lv_at hl 0 rfl) ?_
        refine lv_iload_n hx hb dX11_newName_19 rfl (lv_at hl 3 rfl) ?_
        refine lv_icmp_ge (tgt := 57) hx hb dX11_newName_20 (by decide) (fun c10 => ?_) (fun c10 => ?_)
        · skip
          have zc10 : p2.toInt ≤ l3_9.toInt := by rw [fa_le] at c10; exact c10
          have rg11 := fb_rng l3_9
          have rg12 := fb_rng p2
          refine lv_aload_n hx hb dX11_newName_57 rfl (lv_at hl 1 rfl) ?_
          refine va_get (D := (dC, dI)) (ci := 11) (v := .int (v9 1)) (C := RX11) (T := TX11) (N := 79) hx hb hts inB_11 hown hE.1 hP 0 rfl rfl 2 (by decide) (hts _ k_1322) (fun _ h9 => h9) rfl dX11_newName_58 ?_
          refine lv_if_le (tgt := 65) hx hb dX11_newName_61 (by decide) (fun c13 => ?_) (fun c13 => ?_)
          · skip
            have zc13 : (v9 1).toInt ≤ 0 := by rw [fa_le, show (0 : Int32).toInt = 0 from by decide] at c13; exact c13
            refine lv_aload_n hx hb dX11_newName_65 rfl (lv_at hl 1 rfl) ?_
            refine va_get (D := (dC, dI)) (ci := 11) (v := .ref (r 10)) (C := RX11) (T := TX11) (N := 79) hx hb hts inB_11 hown hE.1 hP 0 rfl rfl 10 (by decide) (hts _ k_1330) (fun _ h9 => h9) rfl dX11_newName_66 ?_
            refine lv_iload_n hx hb dX11_newName_69 rfl (lv_at hl 2 rfl) ?_
            refine lv_iload_n hx hb dX11_newName_70 rfl (lv_at hl 3 rfl) ?_
            refine lv_iadd hx hb dX11_newName_71 ?_
            refine lv_topi (fun t14 et14 => ?_)
            have rg15 := fb_rng p1
            have zt14 : t14.toInt = p1.toInt + p2.toInt := by rw [et14]; exact add_i rfl rfl (by omega) (by omega)
            refine lv_aload_n hx hb dX11_newName_72 rfl (lv_at hl 1 rfl) ?_
            refine va_get (D := (dC, dI)) (ci := 11) (v := .long w9) (C := RX11) (T := TX11) (N := 79) hx hb hts inB_11 hown hE.1 hP 0 rfl rfl 9 (by decide) (hts _ k_1329) (fun _ h9 => h9) rfl dX11_newName_73 ?_
            refine va_last hx hb hE.1 hP hD hS 2 2 rfl rfl (vp_in_iff.mpr ⟨by omega, by omega⟩) dX11_newName_76 (fun H locs hP hD hS => ?_)
            obtain ⟨g16, hP, hD⟩ : ∃ fz9, va_P (dC, dI) vwCl (YW cy y0 r v9 f9 w9 fz9) H ∧ va_D A (YW cy y0 r v9 f9 w9 fz9) := ⟨_, hP, hD⟩
            refine lv_aload_n hx hb dX11_newName_77 rfl (lv_at hl 1 rfl) ?_
            refine cbVv (n := 0) (rest := []) hx hb hml hown hts hE hP hD hS hA (sY_X11_token_1 l dC dI cy y0 r  v9 f9 w9 g16 hIv9 hCf9 hRf9 ) k_1579 k_1581 k_42 k_114 k_1582 (by decide +kernel) ⟨Nat.le_of_ble_eq_true rfl, Nat.le_of_ble_eq_true rfl⟩ 0 11 rfl rfl (rfl) hl.1 rfl (Nat.le_of_ble_eq_true rfl) dX11_newName_78 (fun u H locs hw hP hD hS => ?_)
            obtain ⟨v17, f18, w19, g20⟩ := u
            obtain ⟨hIv17, hCf18, hRf18, hk0_v17, hk1_v17, hk4_v17, hk8_v17, hk9_v17, hk10_v17, hk17_v17, hk18_v17, hk24_v17, hk25_v17, hk35_v17, hk36_v17, hk38_v17, hk39_v17, pv21, pv22⟩ := hw
            have hP : va_P (dC, dI) vwCl (YW cy y0 r v17 f18 w19 g20) H := hP
            have hD : va_D A (YW cy y0 r v17 f18 w19 g20) := hD
            have b3_v17 : 0 ≤ (v17 3).toInt ∧ (v17 3).toInt ≤ 1600 := YIb.b hIv17.1 3 (by decide)
            have pv21 : (v9 3).toInt ≤ (v17 3).toInt := pv21
            have pv22 : (v17 5).toInt = (v9 5).toInt ∨ (v9 3).toInt < (v17 3).toInt ∨ ¬ (v17 5).toInt = 59 := pv22
            have hUv17 : (v17 35).toInt + (v17 36).toInt ≤ 40 := hIv17.2
            have hq0_v17 : v17 0 = (v 0) := hk0_v17.trans hq0_v9
            have hq1_v17 : v17 1 = (v9 1) := hk1_v17
            have hq4_v17 : v17 4 = (v 4) := hk4_v17.trans hq4_v9
            have zq4_v17 := congrArg Int32.toInt hq4_v17
            have hq8_v17 : v17 8 = (v 8) := hk8_v17.trans hq8_v9
            have hq9_v17 : v17 9 = (v 9) := hk9_v17.trans hq9_v9
            have zq9_v17 := congrArg Int32.toInt hq9_v17
            have hq10_v17 : v17 10 = (v 10) := hk10_v17.trans hq10_v9
            have hq17_v17 : v17 17 = (v 17) := hk17_v17.trans hq17_v9
            have hq18_v17 : v17 18 = (v 18) := hk18_v17.trans hq18_v9
            have hq24_v17 : v17 24 = (v 24) := hk24_v17.trans hq24_v9
            have hq25_v17 : v17 25 = (v 25) := hk25_v17.trans hq25_v9
            have hq35_v17 : v17 35 = (v 35) := hk35_v17.trans hq35_v9
            have zq35_v17 := congrArg Int32.toInt hq35_v17
            have hq36_v17 : v17 36 = (v 36) := hk36_v17.trans hq36_v9
            have zq36_v17 := congrArg Int32.toInt hq36_v17
            have hq38_v17 : v17 38 = (v 38) := hk38_v17.trans hq38_v9
            have hq39_v17 : v17 39 = (v 39) := hk39_v17.trans hq39_v9
            exact ret (v17, f18, w19, g20) _ _ _ _ _ _ ⟨hIv17, hCf18, hRf18, (hk0_v17.trans hq0_v9), (hk4_v17.trans hq4_v9), (hk8_v17.trans hq8_v9), (hk9_v17.trans hq9_v9), (hk10_v17.trans hq10_v9), (hk17_v17.trans hq17_v9), (hk18_v17.trans hq18_v9), (hk24_v17.trans hq24_v9), (hk25_v17.trans hq25_v9), (hk35_v17.trans hq35_v9), (hk36_v17.trans hq36_v9), (hk38_v17.trans hq38_v9), (hk39_v17.trans hq39_v9), (by show (v 3).toInt ≤ (v17 3).toInt; omega), (by show (v17 5).toInt = (v 5).toInt ∨ (v 3).toInt < (v17 3).toInt ∨ ¬ (v17 5).toInt = 59; omega)⟩ hP hD hS dX11_newName_81 (Nat.le_refl _) (Nat.le_refl _)
          · skip
            have zc13 : ¬ ((v9 1).toInt ≤ 0) := by rw [fa_le, show (0 : Int32).toInt = 0 from by decide] at c13; exact c13
            exact ret (v9, f9, w9, g9) _ _ _ _ _ _ ⟨hIv9, hCf9, hRf9, hq0_v9, hq4_v9, hq8_v9, hq9_v9, hq10_v9, hq17_v9, hq18_v9, hq24_v9, hq25_v9, hq35_v9, hq36_v9, hq38_v9, hq39_v9, (by show (v 3).toInt ≤ (v9 3).toInt; omega), (by show (v9 5).toInt = (v 5).toInt ∨ (v 3).toInt < (v9 3).toInt ∨ ¬ (v9 5).toInt = 59; omega)⟩ hP hD hS dX11_newName_64 (Nat.le_refl _) (Nat.le_refl _)
        · skip
          have zc10 : ¬ (p2.toInt ≤ l3_9.toInt) := by rw [fa_le] at c10; exact c10
          have rg23 := fb_rng l3_9
          have rg24 := fb_rng p2
          refine lv_aload_n hx hb dX11_newName_23 rfl (lv_at hl 1 rfl) ?_
          refine va_get (D := (dC, dI)) (ci := 11) (v := .int (v9 1)) (C := RX11) (T := TX11) (N := 79) hx hb hts inB_11 hown hE.1 hP 0 rfl rfl 2 (by decide) (hts _ k_1322) (fun _ h9 => h9) rfl dX11_newName_24 ?_
          refine lv_if_ne (tgt := 57) hx hb dX11_newName_27 (by decide) (fun c25 => ?_) (fun c25 => ?_)
          · skip
            have zc25 : ¬ ((v9 1).toInt = 0) := by rw [fa_eq, show (0 : Int32).toInt = 0 from by decide] at c25; exact c25
            refine lv_aload_n hx hb dX11_newName_57 rfl (lv_at hl 1 rfl) ?_
            refine va_get (D := (dC, dI)) (ci := 11) (v := .int (v9 1)) (C := RX11) (T := TX11) (N := 79) hx hb hts inB_11 hown hE.1 hP 0 rfl rfl 2 (by decide) (hts _ k_1322) (fun _ h9 => h9) rfl dX11_newName_58 ?_
            refine lv_if_le (tgt := 65) hx hb dX11_newName_61 (by decide) (fun c26 => ?_) (fun c26 => ?_)
            · skip
              have zc26 : (v9 1).toInt ≤ 0 := by rw [fa_le, show (0 : Int32).toInt = 0 from by decide] at c26; exact c26
              refine lv_aload_n hx hb dX11_newName_65 rfl (lv_at hl 1 rfl) ?_
              refine va_get (D := (dC, dI)) (ci := 11) (v := .ref (r 10)) (C := RX11) (T := TX11) (N := 79) hx hb hts inB_11 hown hE.1 hP 0 rfl rfl 10 (by decide) (hts _ k_1330) (fun _ h9 => h9) rfl dX11_newName_66 ?_
              refine lv_iload_n hx hb dX11_newName_69 rfl (lv_at hl 2 rfl) ?_
              refine lv_iload_n hx hb dX11_newName_70 rfl (lv_at hl 3 rfl) ?_
              refine lv_iadd hx hb dX11_newName_71 ?_
              refine lv_topi (fun t27 et27 => ?_)
              have rg28 := fb_rng p1
              have zt27 : t27.toInt = p1.toInt + p2.toInt := by rw [et27]; exact add_i rfl rfl (by omega) (by omega)
              refine lv_aload_n hx hb dX11_newName_72 rfl (lv_at hl 1 rfl) ?_
              refine va_get (D := (dC, dI)) (ci := 11) (v := .long w9) (C := RX11) (T := TX11) (N := 79) hx hb hts inB_11 hown hE.1 hP 0 rfl rfl 9 (by decide) (hts _ k_1329) (fun _ h9 => h9) rfl dX11_newName_73 ?_
              refine va_last hx hb hE.1 hP hD hS 2 2 rfl rfl (vp_in_iff.mpr ⟨by omega, by omega⟩) dX11_newName_76 (fun H locs hP hD hS => ?_)
              obtain ⟨g29, hP, hD⟩ : ∃ fz9, va_P (dC, dI) vwCl (YW cy y0 r v9 f9 w9 fz9) H ∧ va_D A (YW cy y0 r v9 f9 w9 fz9) := ⟨_, hP, hD⟩
              refine lv_aload_n hx hb dX11_newName_77 rfl (lv_at hl 1 rfl) ?_
              refine cbVv (n := 0) (rest := []) hx hb hml hown hts hE hP hD hS hA (sY_X11_token_1 l dC dI cy y0 r  v9 f9 w9 g29 hIv9 hCf9 hRf9 ) k_1579 k_1581 k_42 k_114 k_1582 (by decide +kernel) ⟨Nat.le_of_ble_eq_true rfl, Nat.le_of_ble_eq_true rfl⟩ 0 11 rfl rfl (rfl) hl.1 rfl (Nat.le_of_ble_eq_true rfl) dX11_newName_78 (fun u H locs hw hP hD hS => ?_)
              obtain ⟨v30, f31, w32, g33⟩ := u
              obtain ⟨hIv30, hCf31, hRf31, hk0_v30, hk1_v30, hk4_v30, hk8_v30, hk9_v30, hk10_v30, hk17_v30, hk18_v30, hk24_v30, hk25_v30, hk35_v30, hk36_v30, hk38_v30, hk39_v30, pv34, pv35⟩ := hw
              have hP : va_P (dC, dI) vwCl (YW cy y0 r v30 f31 w32 g33) H := hP
              have hD : va_D A (YW cy y0 r v30 f31 w32 g33) := hD
              have b3_v30 : 0 ≤ (v30 3).toInt ∧ (v30 3).toInt ≤ 1600 := YIb.b hIv30.1 3 (by decide)
              have pv34 : (v9 3).toInt ≤ (v30 3).toInt := pv34
              have pv35 : (v30 5).toInt = (v9 5).toInt ∨ (v9 3).toInt < (v30 3).toInt ∨ ¬ (v30 5).toInt = 59 := pv35
              have hUv30 : (v30 35).toInt + (v30 36).toInt ≤ 40 := hIv30.2
              have hq0_v30 : v30 0 = (v 0) := hk0_v30.trans hq0_v9
              have hq1_v30 : v30 1 = (v9 1) := hk1_v30
              have hq4_v30 : v30 4 = (v 4) := hk4_v30.trans hq4_v9
              have zq4_v30 := congrArg Int32.toInt hq4_v30
              have hq8_v30 : v30 8 = (v 8) := hk8_v30.trans hq8_v9
              have hq9_v30 : v30 9 = (v 9) := hk9_v30.trans hq9_v9
              have zq9_v30 := congrArg Int32.toInt hq9_v30
              have hq10_v30 : v30 10 = (v 10) := hk10_v30.trans hq10_v9
              have hq17_v30 : v30 17 = (v 17) := hk17_v30.trans hq17_v9
              have hq18_v30 : v30 18 = (v 18) := hk18_v30.trans hq18_v9
              have hq24_v30 : v30 24 = (v 24) := hk24_v30.trans hq24_v9
              have hq25_v30 : v30 25 = (v 25) := hk25_v30.trans hq25_v9
              have hq35_v30 : v30 35 = (v 35) := hk35_v30.trans hq35_v9
              have zq35_v30 := congrArg Int32.toInt hq35_v30
              have hq36_v30 : v30 36 = (v 36) := hk36_v30.trans hq36_v9
              have zq36_v30 := congrArg Int32.toInt hq36_v30
              have hq38_v30 : v30 38 = (v 38) := hk38_v30.trans hq38_v9
              have hq39_v30 : v30 39 = (v 39) := hk39_v30.trans hq39_v9
              exact ret (v30, f31, w32, g33) _ _ _ _ _ _ ⟨hIv30, hCf31, hRf31, (hk0_v30.trans hq0_v9), (hk4_v30.trans hq4_v9), (hk8_v30.trans hq8_v9), (hk9_v30.trans hq9_v9), (hk10_v30.trans hq10_v9), (hk17_v30.trans hq17_v9), (hk18_v30.trans hq18_v9), (hk24_v30.trans hq24_v9), (hk25_v30.trans hq25_v9), (hk35_v30.trans hq35_v9), (hk36_v30.trans hq36_v9), (hk38_v30.trans hq38_v9), (hk39_v30.trans hq39_v9), (by show (v 3).toInt ≤ (v30 3).toInt; omega), (by show (v30 5).toInt = (v 5).toInt ∨ (v 3).toInt < (v30 3).toInt ∨ ¬ (v30 5).toInt = 59; omega)⟩ hP hD hS dX11_newName_81 (Nat.le_refl _) (Nat.le_refl _)
            · skip
              have zc26 : ¬ ((v9 1).toInt ≤ 0) := by rw [fa_le, show (0 : Int32).toInt = 0 from by decide] at c26; exact c26
              exact ret (v9, f9, w9, g9) _ _ _ _ _ _ ⟨hIv9, hCf9, hRf9, hq0_v9, hq4_v9, hq8_v9, hq9_v9, hq10_v9, hq17_v9, hq18_v9, hq24_v9, hq25_v9, hq35_v9, hq36_v9, hq38_v9, hq39_v9, (by show (v 3).toInt ≤ (v9 3).toInt; omega), (by show (v9 5).toInt = (v 5).toInt ∨ (v 3).toInt < (v9 3).toInt ∨ ¬ (v9 5).toInt = 59; omega)⟩ hP hD hS dX11_newName_64 (Nat.le_refl _) (Nat.le_refl _)
          · skip
            have zc25 : (v9 1).toInt = 0 := by rw [fa_eq, show (0 : Int32).toInt = 0 from by decide] at c25; exact c25
            refine lv_aload_n hx hb dX11_newName_30 rfl (lv_at hl 1 rfl) ?_
            refine va_get (D := (dC, dI)) (ci := 11) (v := .ref (r 10)) (C := RX11) (T := TX11) (N := 79) hx hb hts inB_11 hown hE.1 hP 0 rfl rfl 10 (by decide) (hts _ k_1330) (fun _ h9 => h9) rfl dX11_newName_31 ?_
            refine lv_iload_n hx hb dX11_newName_34 rfl (lv_at hl 2 rfl) ?_
            refine lv_iload_n hx hb dX11_newName_35 rfl (lv_at hl 0 rfl) ?_
            refine lv_iadd hx hb dX11_newName_36 ?_
            refine lv_topi (fun t36 et36 => ?_)
            have rg37 := fb_rng p1
            have zt36 : t36.toInt = p1.toInt + l3_9.toInt := by rw [et36]; exact add_i rfl rfl (by omega) (by omega)
            refine va_lald hx hb hE.1 hP 2 2 rfl rfl (vp_in_iff.mpr ⟨by omega, by omega⟩) dX11_newName_37 ?_
            refine lv_topl (fun j38 ej38 => ?_)
            refine lv_aload_n hx hb dX11_newName_38 rfl (lv_at hl 1 rfl) ?_
            refine va_get (D := (dC, dI)) (ci := 11) (v := .long w9) (C := RX11) (T := TX11) (N := 79) hx hb hts inB_11 hown hE.1 hP 0 rfl rfl 9 (by decide) (hts _ k_1329) (fun _ h9 => h9) rfl dX11_newName_39 ?_
            refine W.lcmp hx hb dX11_newName_42 ?_
            refine lv_topi (fun t39 et39 => ?_)
            refine lv_if_ne (tgt := 51) hx hb dX11_newName_43 (by decide) (fun c40 => ?_) (fun c40 => ?_)
            · skip
              have zc40 : ¬ (t39.toInt = 0) := by rw [fa_eq, show (0 : Int32).toInt = 0 from by decide] at c40; exact c40
              obtain ⟨t41, et41⟩ : ∃ y : Int32, y = l3_9 + 1 := ⟨_, rfl⟩
              have zt41 : t41.toInt = l3_9.toInt + 1 := by rw [et41]; exact add_i rfl (by decide) (by omega) (by omega)
              refine lv_iinc (v := t41) (lv' := [(3, .int t41), (0, .ref y0), (1, .int p1), (2, .int p2)]) hx hb dX11_newName_51 hl (k := 0) rfl (by rw [et41]; rfl) (by decide) rfl (fun ls hl => ?_)
              refine lv_goto (tgt := 18) hx hb dX11_newName_54 (by decide) ?_
              have rg42 := fb_rng t41
              exact ih9 t41 v9 f9 w9 g9 hIv9 hCf9 hRf9 hq0_v9 hq3_v9 hq4_v9 hq5_v9 hq8_v9 hq9_v9 hq10_v9 hq17_v9 hq18_v9 hq24_v9 hq25_v9 hq35_v9 hq36_v9 hq38_v9 hq39_v9 ⟨show (0 : Int) ≤ t41.toInt by omega, show t41.toInt ≤ (2147483647 : Int) by omega⟩ (by show (2147483647 - t41.toInt).toNat < n9; omega) _ _ _ hP hD hS (lv_sub hl [0, 1, 2, 3] rfl)
            · skip
              have zc40 : t39.toInt = 0 := by rw [fa_eq, show (0 : Int32).toInt = 0 from by decide] at c40; exact c40
              refine lv_aload_n hx hb dX11_newName_46 rfl (lv_at hl 1 rfl) ?_
              refine lv_iconst (v := 3) hx hb dX11_newName_47 (by decide) ?_
              refine cbVv (n := 1) (rest := []) hx hb hml hown hts hE hP hD hS hA (sY_X11_wrong_1 l dC dI cy y0 r 3 v9 f9 w9 g9 hIv9 hCf9 hRf9 ) k_1641 k_1643 k_50 k_114 k_1644 (by decide +kernel) ⟨Nat.le_of_ble_eq_true rfl, Nat.le_of_ble_eq_true rfl⟩ 0 11 rfl rfl (rfl) hl.1 rfl (Nat.le_of_ble_eq_true rfl) dX11_newName_48 (fun u H locs hw hP hD hS => ?_)
              obtain ⟨v43, f44, w45, g46⟩ := u
              obtain ⟨hIv43, hCf44, hRf44, hk0_v43, hk3_v43, hk4_v43, hk5_v43, hk8_v43, hk9_v43, hk10_v43, hk17_v43, hk18_v43, hk24_v43, hk25_v43, hk35_v43, hk36_v43, hk38_v43, hk39_v43, pv47, pv48⟩ := hw
              have hP : va_P (dC, dI) vwCl (YW cy y0 r v43 f44 w45 g46) H := hP
              have hD : va_D A (YW cy y0 r v43 f44 w45 g46) := hD
              have b3_v43 : 0 ≤ (v43 3).toInt ∧ (v43 3).toInt ≤ 1600 := YIb.b hIv43.1 3 (by decide)
              have pv47 : (v9 3).toInt ≤ (v43 3).toInt := pv47
              have pv48 : (v43 5).toInt = (v9 5).toInt ∨ (v9 3).toInt < (v43 3).toInt ∨ ¬ (v43 5).toInt = 59 := pv48
              have hUv43 : (v43 35).toInt + (v43 36).toInt ≤ 40 := hIv43.2
              have hq0_v43 : v43 0 = (v 0) := hk0_v43.trans hq0_v9
              have hq3_v43 : v43 3 = (v1 3) := hk3_v43.trans hq3_v9
              have zq3_v43 := congrArg Int32.toInt hq3_v43
              have hq4_v43 : v43 4 = (v 4) := hk4_v43.trans hq4_v9
              have zq4_v43 := congrArg Int32.toInt hq4_v43
              have hq5_v43 : v43 5 = (v1 5) := hk5_v43.trans hq5_v9
              have zq5_v43 := congrArg Int32.toInt hq5_v43
              have hq8_v43 : v43 8 = (v 8) := hk8_v43.trans hq8_v9
              have hq9_v43 : v43 9 = (v 9) := hk9_v43.trans hq9_v9
              have zq9_v43 := congrArg Int32.toInt hq9_v43
              have hq10_v43 : v43 10 = (v 10) := hk10_v43.trans hq10_v9
              have hq17_v43 : v43 17 = (v 17) := hk17_v43.trans hq17_v9
              have hq18_v43 : v43 18 = (v 18) := hk18_v43.trans hq18_v9
              have hq24_v43 : v43 24 = (v 24) := hk24_v43.trans hq24_v9
              have hq25_v43 : v43 25 = (v 25) := hk25_v43.trans hq25_v9
              have hq35_v43 : v43 35 = (v 35) := hk35_v43.trans hq35_v9
              have zq35_v43 := congrArg Int32.toInt hq35_v43
              have hq36_v43 : v43 36 = (v 36) := hk36_v43.trans hq36_v9
              have zq36_v43 := congrArg Int32.toInt hq36_v43
              have hq38_v43 : v43 38 = (v 38) := hk38_v43.trans hq38_v9
              have hq39_v43 : v43 39 = (v 39) := hk39_v43.trans hq39_v9
              obtain ⟨t49, et49⟩ : ∃ y : Int32, y = l3_9 + 1 := ⟨_, rfl⟩
              have zt49 : t49.toInt = l3_9.toInt + 1 := by rw [et49]; exact add_i rfl (by decide) (by omega) (by omega)
              refine lv_iinc (v := t49) (lv' := [(3, .int t49), (0, .ref y0), (1, .int p1), (2, .int p2)]) hx hb dX11_newName_51 hl (k := 0) rfl (by rw [et49]; rfl) (by decide) rfl (fun ls hl => ?_)
              refine lv_goto (tgt := 18) hx hb dX11_newName_54 (by decide) ?_
              have rg50 := fb_rng t49
              exact ih9 t49 v43 f44 w45 g46 hIv43 hCf44 hRf44 hq0_v43 hq3_v43 hq4_v43 hq5_v43 hq8_v43 hq9_v43 hq10_v43 hq17_v43 hq18_v43 hq24_v43 hq25_v43 hq35_v43 hq36_v43 hq38_v43 hq39_v43 ⟨show (0 : Int) ≤ t49.toInt by omega, show t49.toInt ≤ (2147483647 : Int) by omega⟩ (by show (2147483647 - t49.toInt).toNat < n9; omega) _ _ _ hP hD hS (lv_sub hl [0, 1, 2, 3] rfl)
    exact lp9 _ 0 v1 f2 w3 g4 hIv1 hCf2 hRf2 hq0_v1 rfl hq4_v1 rfl hq8_v1 hq9_v1 hq10_v1 hq17_v1 hq18_v1 hq24_v1 hq25_v1 hq35_v1 hq36_v1 hq38_v1 hq39_v1 ⟨by decide, by decide⟩ (Nat.lt_succ_self _) _ _ _ hP hD hS (lv_sub hl [0, 1, 2, 3] rfl)
  · skip
    subst g8
    refine lv_if_ne (tgt := 16) hx hb dX11_newName_8 (by decide) (fun c0 => absurd (by decide) c0) (fun _ => ?_)
    refine lv_aload_n hx hb dX11_newName_11 rfl (lv_at hl 0 rfl) ?_
    refine lv_iconst (v := 2) hx hb dX11_newName_12 (by decide) ?_
    refine cbVv (n := 1) (rest := []) hx hb hml hown hts hE hP hD hS hA (sY_X11_wrong_1 l dC dI cy y0 r 2 v1 f2 w3 g4 hIv1 hCf2 hRf2 ) k_1641 k_1643 k_50 k_114 k_1644 (by decide +kernel) ⟨Nat.le_of_ble_eq_true rfl, Nat.le_of_ble_eq_true rfl⟩ 0 11 rfl rfl (rfl) hl.1 rfl (Nat.le_of_ble_eq_true rfl) dX11_newName_13 (fun u H locs hw hP hD hS => ?_)
    obtain ⟨v51, f52, w53, g54⟩ := u
    obtain ⟨hIv51, hCf52, hRf52, hk0_v51, hk3_v51, hk4_v51, hk5_v51, hk8_v51, hk9_v51, hk10_v51, hk17_v51, hk18_v51, hk24_v51, hk25_v51, hk35_v51, hk36_v51, hk38_v51, hk39_v51, pv55, pv56⟩ := hw
    have hP : va_P (dC, dI) vwCl (YW cy y0 r v51 f52 w53 g54) H := hP
    have hD : va_D A (YW cy y0 r v51 f52 w53 g54) := hD
    have b3_v51 : 0 ≤ (v51 3).toInt ∧ (v51 3).toInt ≤ 1600 := YIb.b hIv51.1 3 (by decide)
    have pv55 : (v1 3).toInt ≤ (v51 3).toInt := pv55
    have pv56 : (v51 5).toInt = (v1 5).toInt ∨ (v1 3).toInt < (v51 3).toInt ∨ ¬ (v51 5).toInt = 59 := pv56
    have hUv51 : (v51 35).toInt + (v51 36).toInt ≤ 40 := hIv51.2
    have hq0_v51 : v51 0 = (v 0) := hk0_v51.trans hq0_v1
    have hq3_v51 : v51 3 = (v1 3) := hk3_v51
    have zq3_v51 := congrArg Int32.toInt hq3_v51
    have hq4_v51 : v51 4 = (v 4) := hk4_v51.trans hq4_v1
    have zq4_v51 := congrArg Int32.toInt hq4_v51
    have hq5_v51 : v51 5 = (v1 5) := hk5_v51
    have zq5_v51 := congrArg Int32.toInt hq5_v51
    have hq8_v51 : v51 8 = (v 8) := hk8_v51.trans hq8_v1
    have hq9_v51 : v51 9 = (v 9) := hk9_v51.trans hq9_v1
    have zq9_v51 := congrArg Int32.toInt hq9_v51
    have hq10_v51 : v51 10 = (v 10) := hk10_v51.trans hq10_v1
    have hq17_v51 : v51 17 = (v 17) := hk17_v51.trans hq17_v1
    have hq18_v51 : v51 18 = (v 18) := hk18_v51.trans hq18_v1
    have hq24_v51 : v51 24 = (v 24) := hk24_v51.trans hq24_v1
    have hq25_v51 : v51 25 = (v 25) := hk25_v51.trans hq25_v1
    have hq35_v51 : v51 35 = (v 35) := hk35_v51.trans hq35_v1
    have zq35_v51 := congrArg Int32.toInt hq35_v51
    have hq36_v51 : v51 36 = (v 36) := hk36_v51.trans hq36_v1
    have zq36_v51 := congrArg Int32.toInt hq36_v51
    have hq38_v51 : v51 38 = (v 38) := hk38_v51.trans hq38_v1
    have hq39_v51 : v51 39 = (v 39) := hk39_v51.trans hq39_v1
    refine lv_iconst (v := 0) hx hb dX11_newName_16 (by decide) ?_
    refine lv_istore_n (lv' := [(3, .int 0), (0, .ref y0), (1, .int p1), (2, .int p2)]) hx hb dX11_newName_17 rfl hl (by decide) rfl (fun ls hl => ?_)
    have lp57 : ∀ (n57 : Nat) (l3_57 : Int32) (v57 : Nat → Int32) (f57 : Nat → Nat → Int32) (w57 : Int64) (g57 : Nat → Int64), YI v57 → YC f57 → progOK (f57 4) (f57 5) (v57 9).toInt.toNat → v57 0 = (v 0) → v57 3 = (v1 3) → v57 4 = (v 4) → v57 5 = (v1 5) → v57 8 = (v 8) → v57 9 = (v 9) → v57 10 = (v 10) → v57 17 = (v 17) → v57 18 = (v 18) → v57 24 = (v 24) → v57 25 = (v 25) → v57 35 = (v 35) → v57 36 = (v 36) → v57 38 = (v 38) → v57 39 = (v 39) → ((0 : Int) ≤ l3_57.toInt ∧ l3_57.toInt ≤ 2147483647) → (2147483647 - l3_57.toInt).toNat < n57 → ∀ (H : Heap) (locs : List Loc) (ls : Array Slot), va_P (dC, dI) vwCl (YW cy y0 r v57 f57 w57 g57) H → va_D A (YW cy y0 r v57 f57 w57 g57) → va_S A s.heap H locs → lv_has ls 4 [(3, .int l3_57), (0, .ref y0), (1, .int p1), (2, .int p2)] → W p l e { frames := 3, cells := 0, slots := 0, locals := 103 } s m ([.ref y0, .int p1, .int p2] : List Value).toArray below meth c H locs 0 0 Q (F0 m 18 ls []) := by
      intro n57
      induction n57 with
      | zero => intro l3_57 v57 f57 w57 g57 hIv57 hCf57 hRf57 hq0_v57 hq3_v57 hq4_v57 hq5_v57 hq8_v57 hq9_v57 hq10_v57 hq17_v57 hq18_v57 hq24_v57 hq25_v57 hq35_v57 hq36_v57 hq38_v57 hq39_v57 hr3_57 hm; exact absurd hm (Nat.not_lt_zero _)
      | succ n57 ih57 =>
        intro l3_57 v57 f57 w57 g57 hIv57 hCf57 hRf57 hq0_v57 hq3_v57 hq4_v57 hq5_v57 hq8_v57 hq9_v57 hq10_v57 hq17_v57 hq18_v57 hq24_v57 hq25_v57 hq35_v57 hq36_v57 hq38_v57 hq39_v57 hr3_57 hm57 H locs ls hP hD hS hl
        have hUv57 : (v57 35).toInt + (v57 36).toInt ≤ 40 := hIv57.2
        have zq3_v57 := congrArg Int32.toInt hq3_v57
        have zq4_v57 := congrArg Int32.toInt hq4_v57
        have zq5_v57 := congrArg Int32.toInt hq5_v57
        have zq9_v57 := congrArg Int32.toInt hq9_v57
        have zq35_v57 := congrArg Int32.toInt hq35_v57
        have zq36_v57 := congrArg Int32.toInt hq36_v57
        refine lv_iload_n hx hb dX11_newName_18 rfl (lv_at hl 0 rfl) ?_
        refine lv_iload_n hx hb dX11_newName_19 rfl (lv_at hl 3 rfl) ?_
        refine lv_icmp_ge (tgt := 57) hx hb dX11_newName_20 (by decide) (fun c58 => ?_) (fun c58 => ?_)
        · skip
          have zc58 : p2.toInt ≤ l3_57.toInt := by rw [fa_le] at c58; exact c58
          have rg59 := fb_rng l3_57
          have rg60 := fb_rng p2
          refine lv_aload_n hx hb dX11_newName_57 rfl (lv_at hl 1 rfl) ?_
          refine va_get (D := (dC, dI)) (ci := 11) (v := .int (v57 1)) (C := RX11) (T := TX11) (N := 79) hx hb hts inB_11 hown hE.1 hP 0 rfl rfl 2 (by decide) (hts _ k_1322) (fun _ h9 => h9) rfl dX11_newName_58 ?_
          refine lv_if_le (tgt := 65) hx hb dX11_newName_61 (by decide) (fun c61 => ?_) (fun c61 => ?_)
          · skip
            have zc61 : (v57 1).toInt ≤ 0 := by rw [fa_le, show (0 : Int32).toInt = 0 from by decide] at c61; exact c61
            refine lv_aload_n hx hb dX11_newName_65 rfl (lv_at hl 1 rfl) ?_
            refine va_get (D := (dC, dI)) (ci := 11) (v := .ref (r 10)) (C := RX11) (T := TX11) (N := 79) hx hb hts inB_11 hown hE.1 hP 0 rfl rfl 10 (by decide) (hts _ k_1330) (fun _ h9 => h9) rfl dX11_newName_66 ?_
            refine lv_iload_n hx hb dX11_newName_69 rfl (lv_at hl 2 rfl) ?_
            refine lv_iload_n hx hb dX11_newName_70 rfl (lv_at hl 3 rfl) ?_
            refine lv_iadd hx hb dX11_newName_71 ?_
            refine lv_topi (fun t62 et62 => ?_)
            have rg63 := fb_rng p1
            have zt62 : t62.toInt = p1.toInt + p2.toInt := by rw [et62]; exact add_i rfl rfl (by omega) (by omega)
            refine lv_aload_n hx hb dX11_newName_72 rfl (lv_at hl 1 rfl) ?_
            refine va_get (D := (dC, dI)) (ci := 11) (v := .long w57) (C := RX11) (T := TX11) (N := 79) hx hb hts inB_11 hown hE.1 hP 0 rfl rfl 9 (by decide) (hts _ k_1329) (fun _ h9 => h9) rfl dX11_newName_73 ?_
            refine va_last hx hb hE.1 hP hD hS 2 2 rfl rfl (vp_in_iff.mpr ⟨by omega, by omega⟩) dX11_newName_76 (fun H locs hP hD hS => ?_)
            obtain ⟨g64, hP, hD⟩ : ∃ fz9, va_P (dC, dI) vwCl (YW cy y0 r v57 f57 w57 fz9) H ∧ va_D A (YW cy y0 r v57 f57 w57 fz9) := ⟨_, hP, hD⟩
            refine lv_aload_n hx hb dX11_newName_77 rfl (lv_at hl 1 rfl) ?_
            refine cbVv (n := 0) (rest := []) hx hb hml hown hts hE hP hD hS hA (sY_X11_token_1 l dC dI cy y0 r  v57 f57 w57 g64 hIv57 hCf57 hRf57 ) k_1579 k_1581 k_42 k_114 k_1582 (by decide +kernel) ⟨Nat.le_of_ble_eq_true rfl, Nat.le_of_ble_eq_true rfl⟩ 0 11 rfl rfl (rfl) hl.1 rfl (Nat.le_of_ble_eq_true rfl) dX11_newName_78 (fun u H locs hw hP hD hS => ?_)
            obtain ⟨v65, f66, w67, g68⟩ := u
            obtain ⟨hIv65, hCf66, hRf66, hk0_v65, hk1_v65, hk4_v65, hk8_v65, hk9_v65, hk10_v65, hk17_v65, hk18_v65, hk24_v65, hk25_v65, hk35_v65, hk36_v65, hk38_v65, hk39_v65, pv69, pv70⟩ := hw
            have hP : va_P (dC, dI) vwCl (YW cy y0 r v65 f66 w67 g68) H := hP
            have hD : va_D A (YW cy y0 r v65 f66 w67 g68) := hD
            have b3_v65 : 0 ≤ (v65 3).toInt ∧ (v65 3).toInt ≤ 1600 := YIb.b hIv65.1 3 (by decide)
            have pv69 : (v57 3).toInt ≤ (v65 3).toInt := pv69
            have pv70 : (v65 5).toInt = (v57 5).toInt ∨ (v57 3).toInt < (v65 3).toInt ∨ ¬ (v65 5).toInt = 59 := pv70
            have hUv65 : (v65 35).toInt + (v65 36).toInt ≤ 40 := hIv65.2
            have hq0_v65 : v65 0 = (v 0) := hk0_v65.trans hq0_v57
            have hq1_v65 : v65 1 = (v57 1) := hk1_v65
            have hq4_v65 : v65 4 = (v 4) := hk4_v65.trans hq4_v57
            have zq4_v65 := congrArg Int32.toInt hq4_v65
            have hq8_v65 : v65 8 = (v 8) := hk8_v65.trans hq8_v57
            have hq9_v65 : v65 9 = (v 9) := hk9_v65.trans hq9_v57
            have zq9_v65 := congrArg Int32.toInt hq9_v65
            have hq10_v65 : v65 10 = (v 10) := hk10_v65.trans hq10_v57
            have hq17_v65 : v65 17 = (v 17) := hk17_v65.trans hq17_v57
            have hq18_v65 : v65 18 = (v 18) := hk18_v65.trans hq18_v57
            have hq24_v65 : v65 24 = (v 24) := hk24_v65.trans hq24_v57
            have hq25_v65 : v65 25 = (v 25) := hk25_v65.trans hq25_v57
            have hq35_v65 : v65 35 = (v 35) := hk35_v65.trans hq35_v57
            have zq35_v65 := congrArg Int32.toInt hq35_v65
            have hq36_v65 : v65 36 = (v 36) := hk36_v65.trans hq36_v57
            have zq36_v65 := congrArg Int32.toInt hq36_v65
            have hq38_v65 : v65 38 = (v 38) := hk38_v65.trans hq38_v57
            have hq39_v65 : v65 39 = (v 39) := hk39_v65.trans hq39_v57
            exact ret (v65, f66, w67, g68) _ _ _ _ _ _ ⟨hIv65, hCf66, hRf66, (hk0_v65.trans hq0_v57), (hk4_v65.trans hq4_v57), (hk8_v65.trans hq8_v57), (hk9_v65.trans hq9_v57), (hk10_v65.trans hq10_v57), (hk17_v65.trans hq17_v57), (hk18_v65.trans hq18_v57), (hk24_v65.trans hq24_v57), (hk25_v65.trans hq25_v57), (hk35_v65.trans hq35_v57), (hk36_v65.trans hq36_v57), (hk38_v65.trans hq38_v57), (hk39_v65.trans hq39_v57), (by show (v 3).toInt ≤ (v65 3).toInt; omega), (by show (v65 5).toInt = (v 5).toInt ∨ (v 3).toInt < (v65 3).toInt ∨ ¬ (v65 5).toInt = 59; omega)⟩ hP hD hS dX11_newName_81 (Nat.le_refl _) (Nat.le_refl _)
          · skip
            have zc61 : ¬ ((v57 1).toInt ≤ 0) := by rw [fa_le, show (0 : Int32).toInt = 0 from by decide] at c61; exact c61
            exact ret (v57, f57, w57, g57) _ _ _ _ _ _ ⟨hIv57, hCf57, hRf57, hq0_v57, hq4_v57, hq8_v57, hq9_v57, hq10_v57, hq17_v57, hq18_v57, hq24_v57, hq25_v57, hq35_v57, hq36_v57, hq38_v57, hq39_v57, (by show (v 3).toInt ≤ (v57 3).toInt; omega), (by show (v57 5).toInt = (v 5).toInt ∨ (v 3).toInt < (v57 3).toInt ∨ ¬ (v57 5).toInt = 59; omega)⟩ hP hD hS dX11_newName_64 (Nat.le_refl _) (Nat.le_refl _)
        · skip
          have zc58 : ¬ (p2.toInt ≤ l3_57.toInt) := by rw [fa_le] at c58; exact c58
          have rg71 := fb_rng l3_57
          have rg72 := fb_rng p2
          refine lv_aload_n hx hb dX11_newName_23 rfl (lv_at hl 1 rfl) ?_
          refine va_get (D := (dC, dI)) (ci := 11) (v := .int (v57 1)) (C := RX11) (T := TX11) (N := 79) hx hb hts inB_11 hown hE.1 hP 0 rfl rfl 2 (by decide) (hts _ k_1322) (fun _ h9 => h9) rfl dX11_newName_24 ?_
          refine lv_if_ne (tgt := 57) hx hb dX11_newName_27 (by decide) (fun c73 => ?_) (fun c73 => ?_)
          · skip
            have zc73 : ¬ ((v57 1).toInt = 0) := by rw [fa_eq, show (0 : Int32).toInt = 0 from by decide] at c73; exact c73
            refine lv_aload_n hx hb dX11_newName_57 rfl (lv_at hl 1 rfl) ?_
            refine va_get (D := (dC, dI)) (ci := 11) (v := .int (v57 1)) (C := RX11) (T := TX11) (N := 79) hx hb hts inB_11 hown hE.1 hP 0 rfl rfl 2 (by decide) (hts _ k_1322) (fun _ h9 => h9) rfl dX11_newName_58 ?_
            refine lv_if_le (tgt := 65) hx hb dX11_newName_61 (by decide) (fun c74 => ?_) (fun c74 => ?_)
            · skip
              have zc74 : (v57 1).toInt ≤ 0 := by rw [fa_le, show (0 : Int32).toInt = 0 from by decide] at c74; exact c74
              refine lv_aload_n hx hb dX11_newName_65 rfl (lv_at hl 1 rfl) ?_
              refine va_get (D := (dC, dI)) (ci := 11) (v := .ref (r 10)) (C := RX11) (T := TX11) (N := 79) hx hb hts inB_11 hown hE.1 hP 0 rfl rfl 10 (by decide) (hts _ k_1330) (fun _ h9 => h9) rfl dX11_newName_66 ?_
              refine lv_iload_n hx hb dX11_newName_69 rfl (lv_at hl 2 rfl) ?_
              refine lv_iload_n hx hb dX11_newName_70 rfl (lv_at hl 3 rfl) ?_
              refine lv_iadd hx hb dX11_newName_71 ?_
              refine lv_topi (fun t75 et75 => ?_)
              have rg76 := fb_rng p1
              have zt75 : t75.toInt = p1.toInt + p2.toInt := by rw [et75]; exact add_i rfl rfl (by omega) (by omega)
              refine lv_aload_n hx hb dX11_newName_72 rfl (lv_at hl 1 rfl) ?_
              refine va_get (D := (dC, dI)) (ci := 11) (v := .long w57) (C := RX11) (T := TX11) (N := 79) hx hb hts inB_11 hown hE.1 hP 0 rfl rfl 9 (by decide) (hts _ k_1329) (fun _ h9 => h9) rfl dX11_newName_73 ?_
              refine va_last hx hb hE.1 hP hD hS 2 2 rfl rfl (vp_in_iff.mpr ⟨by omega, by omega⟩) dX11_newName_76 (fun H locs hP hD hS => ?_)
              obtain ⟨g77, hP, hD⟩ : ∃ fz9, va_P (dC, dI) vwCl (YW cy y0 r v57 f57 w57 fz9) H ∧ va_D A (YW cy y0 r v57 f57 w57 fz9) := ⟨_, hP, hD⟩
              refine lv_aload_n hx hb dX11_newName_77 rfl (lv_at hl 1 rfl) ?_
              refine cbVv (n := 0) (rest := []) hx hb hml hown hts hE hP hD hS hA (sY_X11_token_1 l dC dI cy y0 r  v57 f57 w57 g77 hIv57 hCf57 hRf57 ) k_1579 k_1581 k_42 k_114 k_1582 (by decide +kernel) ⟨Nat.le_of_ble_eq_true rfl, Nat.le_of_ble_eq_true rfl⟩ 0 11 rfl rfl (rfl) hl.1 rfl (Nat.le_of_ble_eq_true rfl) dX11_newName_78 (fun u H locs hw hP hD hS => ?_)
              obtain ⟨v78, f79, w80, g81⟩ := u
              obtain ⟨hIv78, hCf79, hRf79, hk0_v78, hk1_v78, hk4_v78, hk8_v78, hk9_v78, hk10_v78, hk17_v78, hk18_v78, hk24_v78, hk25_v78, hk35_v78, hk36_v78, hk38_v78, hk39_v78, pv82, pv83⟩ := hw
              have hP : va_P (dC, dI) vwCl (YW cy y0 r v78 f79 w80 g81) H := hP
              have hD : va_D A (YW cy y0 r v78 f79 w80 g81) := hD
              have b3_v78 : 0 ≤ (v78 3).toInt ∧ (v78 3).toInt ≤ 1600 := YIb.b hIv78.1 3 (by decide)
              have pv82 : (v57 3).toInt ≤ (v78 3).toInt := pv82
              have pv83 : (v78 5).toInt = (v57 5).toInt ∨ (v57 3).toInt < (v78 3).toInt ∨ ¬ (v78 5).toInt = 59 := pv83
              have hUv78 : (v78 35).toInt + (v78 36).toInt ≤ 40 := hIv78.2
              have hq0_v78 : v78 0 = (v 0) := hk0_v78.trans hq0_v57
              have hq1_v78 : v78 1 = (v57 1) := hk1_v78
              have hq4_v78 : v78 4 = (v 4) := hk4_v78.trans hq4_v57
              have zq4_v78 := congrArg Int32.toInt hq4_v78
              have hq8_v78 : v78 8 = (v 8) := hk8_v78.trans hq8_v57
              have hq9_v78 : v78 9 = (v 9) := hk9_v78.trans hq9_v57
              have zq9_v78 := congrArg Int32.toInt hq9_v78
              have hq10_v78 : v78 10 = (v 10) := hk10_v78.trans hq10_v57
              have hq17_v78 : v78 17 = (v 17) := hk17_v78.trans hq17_v57
              have hq18_v78 : v78 18 = (v 18) := hk18_v78.trans hq18_v57
              have hq24_v78 : v78 24 = (v 24) := hk24_v78.trans hq24_v57
              have hq25_v78 : v78 25 = (v 25) := hk25_v78.trans hq25_v57
              have hq35_v78 : v78 35 = (v 35) := hk35_v78.trans hq35_v57
              have zq35_v78 := congrArg Int32.toInt hq35_v78
              have hq36_v78 : v78 36 = (v 36) := hk36_v78.trans hq36_v57
              have zq36_v78 := congrArg Int32.toInt hq36_v78
              have hq38_v78 : v78 38 = (v 38) := hk38_v78.trans hq38_v57
              have hq39_v78 : v78 39 = (v 39) := hk39_v78.trans hq39_v57
              exact ret (v78, f79, w80, g81) _ _ _ _ _ _ ⟨hIv78, hCf79, hRf79, (hk0_v78.trans hq0_v57), (hk4_v78.trans hq4_v57), (hk8_v78.trans hq8_v57), (hk9_v78.trans hq9_v57), (hk10_v78.trans hq10_v57), (hk17_v78.trans hq17_v57), (hk18_v78.trans hq18_v57), (hk24_v78.trans hq24_v57), (hk25_v78.trans hq25_v57), (hk35_v78.trans hq35_v57), (hk36_v78.trans hq36_v57), (hk38_v78.trans hq38_v57), (hk39_v78.trans hq39_v57), (by show (v 3).toInt ≤ (v78 3).toInt; omega), (by show (v78 5).toInt = (v 5).toInt ∨ (v 3).toInt < (v78 3).toInt ∨ ¬ (v78 5).toInt = 59; omega)⟩ hP hD hS dX11_newName_81 (Nat.le_refl _) (Nat.le_refl _)
            · skip
              have zc74 : ¬ ((v57 1).toInt ≤ 0) := by rw [fa_le, show (0 : Int32).toInt = 0 from by decide] at c74; exact c74
              exact ret (v57, f57, w57, g57) _ _ _ _ _ _ ⟨hIv57, hCf57, hRf57, hq0_v57, hq4_v57, hq8_v57, hq9_v57, hq10_v57, hq17_v57, hq18_v57, hq24_v57, hq25_v57, hq35_v57, hq36_v57, hq38_v57, hq39_v57, (by show (v 3).toInt ≤ (v57 3).toInt; omega), (by show (v57 5).toInt = (v 5).toInt ∨ (v 3).toInt < (v57 3).toInt ∨ ¬ (v57 5).toInt = 59; omega)⟩ hP hD hS dX11_newName_64 (Nat.le_refl _) (Nat.le_refl _)
          · skip
            have zc73 : (v57 1).toInt = 0 := by rw [fa_eq, show (0 : Int32).toInt = 0 from by decide] at c73; exact c73
            refine lv_aload_n hx hb dX11_newName_30 rfl (lv_at hl 1 rfl) ?_
            refine va_get (D := (dC, dI)) (ci := 11) (v := .ref (r 10)) (C := RX11) (T := TX11) (N := 79) hx hb hts inB_11 hown hE.1 hP 0 rfl rfl 10 (by decide) (hts _ k_1330) (fun _ h9 => h9) rfl dX11_newName_31 ?_
            refine lv_iload_n hx hb dX11_newName_34 rfl (lv_at hl 2 rfl) ?_
            refine lv_iload_n hx hb dX11_newName_35 rfl (lv_at hl 0 rfl) ?_
            refine lv_iadd hx hb dX11_newName_36 ?_
            refine lv_topi (fun t84 et84 => ?_)
            have rg85 := fb_rng p1
            have zt84 : t84.toInt = p1.toInt + l3_57.toInt := by rw [et84]; exact add_i rfl rfl (by omega) (by omega)
            refine va_lald hx hb hE.1 hP 2 2 rfl rfl (vp_in_iff.mpr ⟨by omega, by omega⟩) dX11_newName_37 ?_
            refine lv_topl (fun j86 ej86 => ?_)
            refine lv_aload_n hx hb dX11_newName_38 rfl (lv_at hl 1 rfl) ?_
            refine va_get (D := (dC, dI)) (ci := 11) (v := .long w57) (C := RX11) (T := TX11) (N := 79) hx hb hts inB_11 hown hE.1 hP 0 rfl rfl 9 (by decide) (hts _ k_1329) (fun _ h9 => h9) rfl dX11_newName_39 ?_
            refine W.lcmp hx hb dX11_newName_42 ?_
            refine lv_topi (fun t87 et87 => ?_)
            refine lv_if_ne (tgt := 51) hx hb dX11_newName_43 (by decide) (fun c88 => ?_) (fun c88 => ?_)
            · skip
              have zc88 : ¬ (t87.toInt = 0) := by rw [fa_eq, show (0 : Int32).toInt = 0 from by decide] at c88; exact c88
              obtain ⟨t89, et89⟩ : ∃ y : Int32, y = l3_57 + 1 := ⟨_, rfl⟩
              have zt89 : t89.toInt = l3_57.toInt + 1 := by rw [et89]; exact add_i rfl (by decide) (by omega) (by omega)
              refine lv_iinc (v := t89) (lv' := [(3, .int t89), (0, .ref y0), (1, .int p1), (2, .int p2)]) hx hb dX11_newName_51 hl (k := 0) rfl (by rw [et89]; rfl) (by decide) rfl (fun ls hl => ?_)
              refine lv_goto (tgt := 18) hx hb dX11_newName_54 (by decide) ?_
              have rg90 := fb_rng t89
              exact ih57 t89 v57 f57 w57 g57 hIv57 hCf57 hRf57 hq0_v57 hq3_v57 hq4_v57 hq5_v57 hq8_v57 hq9_v57 hq10_v57 hq17_v57 hq18_v57 hq24_v57 hq25_v57 hq35_v57 hq36_v57 hq38_v57 hq39_v57 ⟨show (0 : Int) ≤ t89.toInt by omega, show t89.toInt ≤ (2147483647 : Int) by omega⟩ (by show (2147483647 - t89.toInt).toNat < n57; omega) _ _ _ hP hD hS (lv_sub hl [0, 1, 2, 3] rfl)
            · skip
              have zc88 : t87.toInt = 0 := by rw [fa_eq, show (0 : Int32).toInt = 0 from by decide] at c88; exact c88
              refine lv_aload_n hx hb dX11_newName_46 rfl (lv_at hl 1 rfl) ?_
              refine lv_iconst (v := 3) hx hb dX11_newName_47 (by decide) ?_
              refine cbVv (n := 1) (rest := []) hx hb hml hown hts hE hP hD hS hA (sY_X11_wrong_1 l dC dI cy y0 r 3 v57 f57 w57 g57 hIv57 hCf57 hRf57 ) k_1641 k_1643 k_50 k_114 k_1644 (by decide +kernel) ⟨Nat.le_of_ble_eq_true rfl, Nat.le_of_ble_eq_true rfl⟩ 0 11 rfl rfl (rfl) hl.1 rfl (Nat.le_of_ble_eq_true rfl) dX11_newName_48 (fun u H locs hw hP hD hS => ?_)
              obtain ⟨v91, f92, w93, g94⟩ := u
              obtain ⟨hIv91, hCf92, hRf92, hk0_v91, hk3_v91, hk4_v91, hk5_v91, hk8_v91, hk9_v91, hk10_v91, hk17_v91, hk18_v91, hk24_v91, hk25_v91, hk35_v91, hk36_v91, hk38_v91, hk39_v91, pv95, pv96⟩ := hw
              have hP : va_P (dC, dI) vwCl (YW cy y0 r v91 f92 w93 g94) H := hP
              have hD : va_D A (YW cy y0 r v91 f92 w93 g94) := hD
              have b3_v91 : 0 ≤ (v91 3).toInt ∧ (v91 3).toInt ≤ 1600 := YIb.b hIv91.1 3 (by decide)
              have pv95 : (v57 3).toInt ≤ (v91 3).toInt := pv95
              have pv96 : (v91 5).toInt = (v57 5).toInt ∨ (v57 3).toInt < (v91 3).toInt ∨ ¬ (v91 5).toInt = 59 := pv96
              have hUv91 : (v91 35).toInt + (v91 36).toInt ≤ 40 := hIv91.2
              have hq0_v91 : v91 0 = (v 0) := hk0_v91.trans hq0_v57
              have hq3_v91 : v91 3 = (v1 3) := hk3_v91.trans hq3_v57
              have zq3_v91 := congrArg Int32.toInt hq3_v91
              have hq4_v91 : v91 4 = (v 4) := hk4_v91.trans hq4_v57
              have zq4_v91 := congrArg Int32.toInt hq4_v91
              have hq5_v91 : v91 5 = (v1 5) := hk5_v91.trans hq5_v57
              have zq5_v91 := congrArg Int32.toInt hq5_v91
              have hq8_v91 : v91 8 = (v 8) := hk8_v91.trans hq8_v57
              have hq9_v91 : v91 9 = (v 9) := hk9_v91.trans hq9_v57
              have zq9_v91 := congrArg Int32.toInt hq9_v91
              have hq10_v91 : v91 10 = (v 10) := hk10_v91.trans hq10_v57
              have hq17_v91 : v91 17 = (v 17) := hk17_v91.trans hq17_v57
              have hq18_v91 : v91 18 = (v 18) := hk18_v91.trans hq18_v57
              have hq24_v91 : v91 24 = (v 24) := hk24_v91.trans hq24_v57
              have hq25_v91 : v91 25 = (v 25) := hk25_v91.trans hq25_v57
              have hq35_v91 : v91 35 = (v 35) := hk35_v91.trans hq35_v57
              have zq35_v91 := congrArg Int32.toInt hq35_v91
              have hq36_v91 : v91 36 = (v 36) := hk36_v91.trans hq36_v57
              have zq36_v91 := congrArg Int32.toInt hq36_v91
              have hq38_v91 : v91 38 = (v 38) := hk38_v91.trans hq38_v57
              have hq39_v91 : v91 39 = (v 39) := hk39_v91.trans hq39_v57
              obtain ⟨t97, et97⟩ : ∃ y : Int32, y = l3_57 + 1 := ⟨_, rfl⟩
              have zt97 : t97.toInt = l3_57.toInt + 1 := by rw [et97]; exact add_i rfl (by decide) (by omega) (by omega)
              refine lv_iinc (v := t97) (lv' := [(3, .int t97), (0, .ref y0), (1, .int p1), (2, .int p2)]) hx hb dX11_newName_51 hl (k := 0) rfl (by rw [et97]; rfl) (by decide) rfl (fun ls hl => ?_)
              refine lv_goto (tgt := 18) hx hb dX11_newName_54 (by decide) ?_
              have rg98 := fb_rng t97
              exact ih57 t97 v91 f92 w93 g94 hIv91 hCf92 hRf92 hq0_v91 hq3_v91 hq4_v91 hq5_v91 hq8_v91 hq9_v91 hq10_v91 hq17_v91 hq18_v91 hq24_v91 hq25_v91 hq35_v91 hq36_v91 hq38_v91 hq39_v91 ⟨show (0 : Int) ≤ t97.toInt by omega, show t97.toInt ≤ (2147483647 : Int) by omega⟩ (by show (2147483647 - t97.toInt).toNat < n57; omega) _ _ _ hP hD hS (lv_sub hl [0, 1, 2, 3] rfl)
    exact lp57 _ 0 v51 f52 w53 g54 hIv51 hCf52 hRf52 hq0_v51 hq3_v51 hq4_v51 hq5_v51 hq8_v51 hq9_v51 hq10_v51 hq17_v51 hq18_v51 hq24_v51 hq25_v51 hq35_v51 hq36_v51 hq38_v51 hq39_v51 ⟨by decide, by decide⟩ (Nat.lt_succ_self _) _ _ _ hP hD hS (lv_sub hl [0, 1, 2, 3] rfl)
set_option maxHeartbeats 4000000 in
set_option maxRecDepth 100000 in
theorem sY_X11_readMan_1 (l : Launch) (dC : Nat → ClassId) (dI : Nat → Nat → Nat) (cy : Nat → ClassId) (y0 : Nat) (r : Nat → Nat)  (v : Nat → Int32) (f : Nat → Nat → Int32) (w : Int64) (g : Nat → Int64) (hIv : YI v) (hCf : YC f) (hRf : progOK (f 4) (f 5) (v 9).toInt.toNat)  (hf0 : (v 17).toInt ≤ 5) : ctV l (dC, dI) cy yX11_readMan cX11_readMan 1 6 172 0 0 ((Nat → Int32) × (Nat → Nat → Int32) × (Int64) × (Nat → Int64)) [.ref y0] (YW cy y0 r v f w g) (fun u => YI u.1 ∧ YC u.2.1 ∧ progOK (u.2.1 4) (u.2.1 5) (u.1 9).toInt.toNat ∧ u.1 0 = v 0 ∧ u.1 4 = v 4 ∧ u.1 8 = v 8 ∧ u.1 9 = v 9 ∧ u.1 10 = v 10 ∧ u.1 18 = v 18 ∧ u.1 24 = v 24 ∧ u.1 25 = v 25 ∧ u.1 35 = v 35 ∧ u.1 36 = v 36 ∧ u.1 38 = v 38 ∧ u.1 39 = v 39 ∧ ((v 3).toInt ≤ (u.1 3).toInt) ∧ ((u.1 5).toInt = (v 5).toInt ∨ (v 3).toInt < (u.1 3).toInt ∨ ¬ (u.1 5).toInt = 59)) (fun u => YW cy y0 r u.1 u.2.1 u.2.2.1 u.2.2.2) := by
  refine ctV_of (by decide) (Nat.le_of_ble_eq_true rfl) (fun p e s m below meth c A ls Q hx hb hml hts hown hnm hE hP hD hA hl ret => ?_)
  have hUv : (v 35).toInt + (v 36).toInt ≤ 40 := hIv.2
  have hown : s.vm.findClass RX11 = some m.cls := hown
  have hS : va_S A s.heap s.heap [] := va_S.rf
  have hl : lv_has ls 1 [(0, .ref y0)] := hl
  refine lv_aload_n hx hb dX11_readMan_0 rfl (lv_at hl 0 rfl) ?_
  refine lv_iconst (v := 0) hx hb dX11_readMan_1 (by decide) ?_
  refine lv_aload_n hx hb dX11_readMan_2 rfl (lv_at hl 0 rfl) ?_
  refine va_get (D := (dC, dI)) (ci := 11) (v := .int (v 17)) (C := RX11) (T := TX11) (N := 79) hx hb hts inB_11 hown hE.1 hP 0 rfl rfl 41 (by decide) (hts _ k_1361) (fun _ h9 => h9) rfl dX11_readMan_3 ?_
  have b17_v : 0 ≤ (v 17).toInt ∧ (v 17).toInt ≤ 6 := YIb.b hIv.1 17 (by decide)
  refine cbVv (n := 2) (rest := []) hx hb hml hown hts hE hP hD hS hA (sY_X11_newName_1 l dC dI cy y0 r 0 (v 17) v f w g hIv hCf hRf ⟨by decide, by decide⟩ ⟨show (0 : Int) ≤ (v 17).toInt by omega, show (v 17).toInt ≤ (5 : Int) by omega⟩) k_1609 k_1611 k_47 k_114 k_1612 (by decide +kernel) ⟨Nat.le_of_ble_eq_true rfl, Nat.le_of_ble_eq_true rfl⟩ 0 11 rfl rfl (rfl) hl.1 rfl (Nat.le_of_ble_eq_true rfl) dX11_readMan_6 (fun u H locs hw hP hD hS => ?_)
  obtain ⟨v1, f2, w3, g4⟩ := u
  obtain ⟨hIv1, hCf2, hRf2, hk0_v1, hk4_v1, hk8_v1, hk9_v1, hk10_v1, hk17_v1, hk18_v1, hk24_v1, hk25_v1, hk35_v1, hk36_v1, hk38_v1, hk39_v1, pv5, pv6⟩ := hw
  have hP : va_P (dC, dI) vwCl (YW cy y0 r v1 f2 w3 g4) H := hP
  have hD : va_D A (YW cy y0 r v1 f2 w3 g4) := hD
  have b3_v1 : 0 ≤ (v1 3).toInt ∧ (v1 3).toInt ≤ 1600 := YIb.b hIv1.1 3 (by decide)
  have pv5 : (v 3).toInt ≤ (v1 3).toInt := pv5
  have pv6 : (v1 5).toInt = (v 5).toInt ∨ (v 3).toInt < (v1 3).toInt ∨ ¬ (v1 5).toInt = 59 := pv6
  have hUv1 : (v1 35).toInt + (v1 36).toInt ≤ 40 := hIv1.2
  have hq0_v1 : v1 0 = (v 0) := hk0_v1
  have hq4_v1 : v1 4 = (v 4) := hk4_v1
  have zq4_v1 := congrArg Int32.toInt hq4_v1
  have hq8_v1 : v1 8 = (v 8) := hk8_v1
  have hq9_v1 : v1 9 = (v 9) := hk9_v1
  have zq9_v1 := congrArg Int32.toInt hq9_v1
  have hq10_v1 : v1 10 = (v 10) := hk10_v1
  have hq17_v1 : v1 17 = (v 17) := hk17_v1
  have hq18_v1 : v1 18 = (v 18) := hk18_v1
  have hq24_v1 : v1 24 = (v 24) := hk24_v1
  have hq25_v1 : v1 25 = (v 25) := hk25_v1
  have hq35_v1 : v1 35 = (v 35) := hk35_v1
  have zq35_v1 := congrArg Int32.toInt hq35_v1
  have hq36_v1 : v1 36 = (v 36) := hk36_v1
  have zq36_v1 := congrArg Int32.toInt hq36_v1
  have hq38_v1 : v1 38 = (v 38) := hk38_v1
  have hq39_v1 : v1 39 = (v 39) := hk39_v1
  refine lv_aload_n hx hb dX11_readMan_9 rfl (lv_at hl 0 rfl) ?_
  refine va_get (D := (dC, dI)) (ci := 11) (v := .ref (r 27)) (C := RX11) (T := TX11) (N := 79) hx hb hts inB_11 hown hE.1 hP 0 rfl rfl 27 (by decide) (hts _ k_1347) (fun _ h9 => h9) rfl dX11_readMan_10 ?_
  refine lv_aload_n hx hb dX11_readMan_13 rfl (lv_at hl 0 rfl) ?_
  refine va_get (D := (dC, dI)) (ci := 11) (v := .int (v1 17)) (C := RX11) (T := TX11) (N := 79) hx hb hts inB_11 hown hE.1 hP 0 rfl rfl 41 (by decide) (hts _ k_1361) (fun _ h9 => h9) rfl dX11_readMan_14 ?_
  refine tI (y := (v 17)) hq17_v1 ?_
  have b17_v : 0 ≤ (v 17).toInt ∧ (v 17).toInt ≤ 6 := YIb.b hIv.1 17 (by decide)
  refine lv_aload_n hx hb dX11_readMan_17 rfl (lv_at hl 0 rfl) ?_
  refine lv_ldc2 (v := 1952541804) hx hb hown (hts _ k_1621) dX11_readMan_18 ?_
  refine lv_bipush (v := 99) hx hb dX11_readMan_21 (by decide) ?_
  refine cbVi (n := 2) (rest := [.int (v 17), .ref (r 27)]) hx hb hml hown hts hE hP hD hS hA (sY_X11_told_1 l dC dI cy y0 r 1952541804 99 v1 f2 w3 g4 hIv1 hCf2 hRf2 ) k_1645 k_1647 k_51 k_114 k_1648 (by decide +kernel) ⟨Nat.le_of_ble_eq_true rfl, Nat.le_of_ble_eq_true rfl⟩ 0 11 rfl rfl (rfl) hl.1 rfl (Nat.le_of_ble_eq_true rfl) dX11_readMan_23 (fun r7 u H locs hw hP hD hS => ?_)
  obtain ⟨v8, f9, w10, g11⟩ := u
  obtain ⟨hIv8, hCf9, hRf9, hk0_v8, hk4_v8, hk8_v8, hk9_v8, hk10_v8, hk17_v8, hk18_v8, hk24_v8, hk25_v8, hk35_v8, hk36_v8, hk38_v8, hk39_v8, pv12, pv13⟩ := hw
  have hP : va_P (dC, dI) vwCl (YW cy y0 r v8 f9 w10 g11) H := hP
  have hD : va_D A (YW cy y0 r v8 f9 w10 g11) := hD
  have b3_v8 : 0 ≤ (v8 3).toInt ∧ (v8 3).toInt ≤ 1600 := YIb.b hIv8.1 3 (by decide)
  have pv12 : (v1 3).toInt ≤ (v8 3).toInt := pv12
  have pv13 : (v8 5).toInt = (v1 5).toInt ∨ (v1 3).toInt < (v8 3).toInt ∨ ¬ (v8 5).toInt = 59 := pv13
  have hUv8 : (v8 35).toInt + (v8 36).toInt ≤ 40 := hIv8.2
  have hq0_v8 : v8 0 = (v 0) := hk0_v8.trans hq0_v1
  have hq4_v8 : v8 4 = (v 4) := hk4_v8.trans hq4_v1
  have zq4_v8 := congrArg Int32.toInt hq4_v8
  have hq8_v8 : v8 8 = (v 8) := hk8_v8.trans hq8_v1
  have hq9_v8 : v8 9 = (v 9) := hk9_v8.trans hq9_v1
  have zq9_v8 := congrArg Int32.toInt hq9_v8
  have hq10_v8 : v8 10 = (v 10) := hk10_v8.trans hq10_v1
  have hq17_v8 : v8 17 = (v 17) := hk17_v8.trans hq17_v1
  have hq18_v8 : v8 18 = (v 18) := hk18_v8.trans hq18_v1
  have hq24_v8 : v8 24 = (v 24) := hk24_v8.trans hq24_v1
  have hq25_v8 : v8 25 = (v 25) := hk25_v8.trans hq25_v1
  have hq35_v8 : v8 35 = (v 35) := hk35_v8.trans hq35_v1
  have zq35_v8 := congrArg Int32.toInt hq35_v8
  have hq36_v8 : v8 36 = (v 36) := hk36_v8.trans hq36_v1
  have zq36_v8 := congrArg Int32.toInt hq36_v8
  have hq38_v8 : v8 38 = (v 38) := hk38_v8.trans hq38_v1
  have hq39_v8 : v8 39 = (v 39) := hk39_v8.trans hq39_v1
  refine stI hx hb hE hP hD hS 10 rfl (vp_in_iff.mpr ⟨by omega, by omega⟩) rfl dX11_readMan_26 (fun H locs hP hD hS => ?_)
  obtain ⟨f14, ef14, hP, hD⟩ : ∃ fz9, fz9 = upd2 f9 9 (upd (f9 9) (v 17).toNatClampNeg r7) ∧ va_P (dC, dI) vwCl (YW cy y0 r v8 fz9 w10 g11) H ∧ va_D A (YW cy y0 r v8 fz9 w10 g11) := ⟨_, rfl, hP, hD⟩
  have hCf14 : YC f14 := by rw [ef14]; exact hCf9
  have hRf14 : progOK (f14 4) (f14 5) (v8 9).toInt.toNat := by rw [ef14]; exact hRf9
  refine lv_aload_n hx hb dX11_readMan_27 rfl (lv_at hl 0 rfl) ?_
  refine va_get (D := (dC, dI)) (ci := 11) (v := .ref (r 28)) (C := RX11) (T := TX11) (N := 79) hx hb hts inB_11 hown hE.1 hP 0 rfl rfl 28 (by decide) (hts _ k_1348) (fun _ h9 => h9) rfl dX11_readMan_28 ?_
  refine lv_aload_n hx hb dX11_readMan_31 rfl (lv_at hl 0 rfl) ?_
  refine va_get (D := (dC, dI)) (ci := 11) (v := .int (v8 17)) (C := RX11) (T := TX11) (N := 79) hx hb hts inB_11 hown hE.1 hP 0 rfl rfl 41 (by decide) (hts _ k_1361) (fun _ h9 => h9) rfl dX11_readMan_32 ?_
  refine tI (y := (v 17)) hq17_v8 ?_
  have b17_v : 0 ≤ (v 17).toInt ∧ (v 17).toInt ≤ 6 := YIb.b hIv.1 17 (by decide)
  refine lv_aload_n hx hb dX11_readMan_35 rfl (lv_at hl 0 rfl) ?_
  refine lv_ldc2 (v := 2003395685) hx hb hown (hts _ k_1622) dX11_readMan_36 ?_
  refine lv_bipush (v := 99) hx hb dX11_readMan_39 (by decide) ?_
  refine cbVi (n := 2) (rest := [.int (v 17), .ref (r 28)]) hx hb hml hown hts hE hP hD hS hA (sY_X11_told_1 l dC dI cy y0 r 2003395685 99 v8 f14 w10 g11 hIv8 hCf14 hRf14 ) k_1645 k_1647 k_51 k_114 k_1648 (by decide +kernel) ⟨Nat.le_of_ble_eq_true rfl, Nat.le_of_ble_eq_true rfl⟩ 0 11 rfl rfl (rfl) hl.1 rfl (Nat.le_of_ble_eq_true rfl) dX11_readMan_41 (fun r15 u H locs hw hP hD hS => ?_)
  obtain ⟨v16, f17, w18, g19⟩ := u
  obtain ⟨hIv16, hCf17, hRf17, hk0_v16, hk4_v16, hk8_v16, hk9_v16, hk10_v16, hk17_v16, hk18_v16, hk24_v16, hk25_v16, hk35_v16, hk36_v16, hk38_v16, hk39_v16, pv20, pv21⟩ := hw
  have hP : va_P (dC, dI) vwCl (YW cy y0 r v16 f17 w18 g19) H := hP
  have hD : va_D A (YW cy y0 r v16 f17 w18 g19) := hD
  have b3_v16 : 0 ≤ (v16 3).toInt ∧ (v16 3).toInt ≤ 1600 := YIb.b hIv16.1 3 (by decide)
  have pv20 : (v8 3).toInt ≤ (v16 3).toInt := pv20
  have pv21 : (v16 5).toInt = (v8 5).toInt ∨ (v8 3).toInt < (v16 3).toInt ∨ ¬ (v16 5).toInt = 59 := pv21
  have hUv16 : (v16 35).toInt + (v16 36).toInt ≤ 40 := hIv16.2
  have hq0_v16 : v16 0 = (v 0) := hk0_v16.trans hq0_v8
  have hq4_v16 : v16 4 = (v 4) := hk4_v16.trans hq4_v8
  have zq4_v16 := congrArg Int32.toInt hq4_v16
  have hq8_v16 : v16 8 = (v 8) := hk8_v16.trans hq8_v8
  have hq9_v16 : v16 9 = (v 9) := hk9_v16.trans hq9_v8
  have zq9_v16 := congrArg Int32.toInt hq9_v16
  have hq10_v16 : v16 10 = (v 10) := hk10_v16.trans hq10_v8
  have hq17_v16 : v16 17 = (v 17) := hk17_v16.trans hq17_v8
  have hq18_v16 : v16 18 = (v 18) := hk18_v16.trans hq18_v8
  have hq24_v16 : v16 24 = (v 24) := hk24_v16.trans hq24_v8
  have hq25_v16 : v16 25 = (v 25) := hk25_v16.trans hq25_v8
  have hq35_v16 : v16 35 = (v 35) := hk35_v16.trans hq35_v8
  have zq35_v16 := congrArg Int32.toInt hq35_v16
  have hq36_v16 : v16 36 = (v 36) := hk36_v16.trans hq36_v8
  have zq36_v16 := congrArg Int32.toInt hq36_v16
  have hq38_v16 : v16 38 = (v 38) := hk38_v16.trans hq38_v8
  have hq39_v16 : v16 39 = (v 39) := hk39_v16.trans hq39_v8
  refine stI hx hb hE hP hD hS 11 rfl (vp_in_iff.mpr ⟨by omega, by omega⟩) rfl dX11_readMan_44 (fun H locs hP hD hS => ?_)
  obtain ⟨f22, ef22, hP, hD⟩ : ∃ fz9, fz9 = upd2 f17 10 (upd (f17 10) (v 17).toNatClampNeg r15) ∧ va_P (dC, dI) vwCl (YW cy y0 r v16 fz9 w18 g19) H ∧ va_D A (YW cy y0 r v16 fz9 w18 g19) := ⟨_, rfl, hP, hD⟩
  have hCf22 : YC f22 := by rw [ef22]; exact hCf17
  have hRf22 : progOK (f22 4) (f22 5) (v16 9).toInt.toNat := by rw [ef22]; exact hRf17
  refine lv_aload_n hx hb dX11_readMan_45 rfl (lv_at hl 0 rfl) ?_
  refine va_get (D := (dC, dI)) (ci := 11) (v := .ref (r 29)) (C := RX11) (T := TX11) (N := 79) hx hb hts inB_11 hown hE.1 hP 0 rfl rfl 29 (by decide) (hts _ k_1349) (fun _ h9 => h9) rfl dX11_readMan_46 ?_
  refine lv_aload_n hx hb dX11_readMan_49 rfl (lv_at hl 0 rfl) ?_
  refine va_get (D := (dC, dI)) (ci := 11) (v := .int (v16 17)) (C := RX11) (T := TX11) (N := 79) hx hb hts inB_11 hown hE.1 hP 0 rfl rfl 41 (by decide) (hts _ k_1361) (fun _ h9 => h9) rfl dX11_readMan_50 ?_
  refine tI (y := (v 17)) hq17_v16 ?_
  have b17_v : 0 ≤ (v 17).toInt ∧ (v 17).toInt ≤ 6 := YIb.b hIv.1 17 (by decide)
  refine lv_aload_n hx hb dX11_readMan_53 rfl (lv_at hl 0 rfl) ?_
  refine lv_ldc2 (v := 444301539187) hx hb hown (hts _ k_1623) dX11_readMan_54 ?_
  refine lv_bipush (v := 9) hx hb dX11_readMan_57 (by decide) ?_
  refine cbVi (n := 2) (rest := [.int (v 17), .ref (r 29)]) hx hb hml hown hts hE hP hD hS hA (sY_X11_option_1 l dC dI cy y0 r 444301539187 9 v16 f22 w18 g19 hIv16 hCf22 hRf22 ) k_1657 k_1659 k_54 k_114 k_1660 (by decide +kernel) ⟨Nat.le_of_ble_eq_true rfl, Nat.le_of_ble_eq_true rfl⟩ 0 11 rfl rfl (rfl) hl.1 rfl (Nat.le_of_ble_eq_true rfl) dX11_readMan_59 (fun r23 u H locs hw hP hD hS => ?_)
  obtain ⟨v24, f25, w26, g27⟩ := u
  obtain ⟨hIv24, hCf25, hRf25, hk0_v24, hk4_v24, hk8_v24, hk9_v24, hk10_v24, hk17_v24, hk18_v24, hk24_v24, hk25_v24, hk35_v24, hk36_v24, hk38_v24, hk39_v24, pv28, pv29⟩ := hw
  have hP : va_P (dC, dI) vwCl (YW cy y0 r v24 f25 w26 g27) H := hP
  have hD : va_D A (YW cy y0 r v24 f25 w26 g27) := hD
  have b3_v24 : 0 ≤ (v24 3).toInt ∧ (v24 3).toInt ≤ 1600 := YIb.b hIv24.1 3 (by decide)
  have pv28 : (v16 3).toInt ≤ (v24 3).toInt := pv28
  have pv29 : (v24 5).toInt = (v16 5).toInt ∨ (v16 3).toInt < (v24 3).toInt ∨ ¬ (v24 5).toInt = 59 := pv29
  have hUv24 : (v24 35).toInt + (v24 36).toInt ≤ 40 := hIv24.2
  have hq0_v24 : v24 0 = (v 0) := hk0_v24.trans hq0_v16
  have hq4_v24 : v24 4 = (v 4) := hk4_v24.trans hq4_v16
  have zq4_v24 := congrArg Int32.toInt hq4_v24
  have hq8_v24 : v24 8 = (v 8) := hk8_v24.trans hq8_v16
  have hq9_v24 : v24 9 = (v 9) := hk9_v24.trans hq9_v16
  have zq9_v24 := congrArg Int32.toInt hq9_v24
  have hq10_v24 : v24 10 = (v 10) := hk10_v24.trans hq10_v16
  have hq17_v24 : v24 17 = (v 17) := hk17_v24.trans hq17_v16
  have hq18_v24 : v24 18 = (v 18) := hk18_v24.trans hq18_v16
  have hq24_v24 : v24 24 = (v 24) := hk24_v24.trans hq24_v16
  have hq25_v24 : v24 25 = (v 25) := hk25_v24.trans hq25_v16
  have hq35_v24 : v24 35 = (v 35) := hk35_v24.trans hq35_v16
  have zq35_v24 := congrArg Int32.toInt hq35_v24
  have hq36_v24 : v24 36 = (v 36) := hk36_v24.trans hq36_v16
  have zq36_v24 := congrArg Int32.toInt hq36_v24
  have hq38_v24 : v24 38 = (v 38) := hk38_v24.trans hq38_v16
  have hq39_v24 : v24 39 = (v 39) := hk39_v24.trans hq39_v16
  refine stI hx hb hE hP hD hS 12 rfl (vp_in_iff.mpr ⟨by omega, by omega⟩) rfl dX11_readMan_62 (fun H locs hP hD hS => ?_)
  obtain ⟨f30, ef30, hP, hD⟩ : ∃ fz9, fz9 = upd2 f25 11 (upd (f25 11) (v 17).toNatClampNeg r23) ∧ va_P (dC, dI) vwCl (YW cy y0 r v24 fz9 w26 g27) H ∧ va_D A (YW cy y0 r v24 fz9 w26 g27) := ⟨_, rfl, hP, hD⟩
  have hCf30 : YC f30 := by rw [ef30]; exact hCf25
  have hRf30 : progOK (f30 4) (f30 5) (v24 9).toInt.toNat := by rw [ef30]; exact hRf25
  refine lv_aload_n hx hb dX11_readMan_63 rfl (lv_at hl 0 rfl) ?_
  refine va_get (D := (dC, dI)) (ci := 11) (v := .int (v24 1)) (C := RX11) (T := TX11) (N := 79) hx hb hts inB_11 hown hE.1 hP 0 rfl rfl 2 (by decide) (hts _ k_1322) (fun _ h9 => h9) rfl dX11_readMan_64 ?_
  refine lv_if_ne (tgt := 80) hx hb dX11_readMan_67 (by decide) (fun c31 => ?_) (fun c31 => ?_)
  · skip
    have zc31 : ¬ ((v24 1).toInt = 0) := by rw [fa_eq, show (0 : Int32).toInt = 0 from by decide] at c31; exact c31
    exact ret (v24, f30, w26, g27) _ _ _ _ _ _ ⟨hIv24, hCf30, hRf30, (hk0_v24.trans (hk0_v16.trans (hk0_v8.trans hk0_v1))), (hk4_v24.trans (hk4_v16.trans (hk4_v8.trans hk4_v1))), (hk8_v24.trans (hk8_v16.trans (hk8_v8.trans hk8_v1))), (hk9_v24.trans (hk9_v16.trans (hk9_v8.trans hk9_v1))), (hk10_v24.trans (hk10_v16.trans (hk10_v8.trans hk10_v1))), (hk18_v24.trans (hk18_v16.trans (hk18_v8.trans hk18_v1))), (hk24_v24.trans (hk24_v16.trans (hk24_v8.trans hk24_v1))), (hk25_v24.trans (hk25_v16.trans (hk25_v8.trans hk25_v1))), (hk35_v24.trans (hk35_v16.trans (hk35_v8.trans hk35_v1))), (hk36_v24.trans (hk36_v16.trans (hk36_v8.trans hk36_v1))), (hk38_v24.trans (hk38_v16.trans (hk38_v8.trans hk38_v1))), (hk39_v24.trans (hk39_v16.trans (hk39_v8.trans hk39_v1))), (by show (v 3).toInt ≤ (v24 3).toInt; omega), (by show (v24 5).toInt = (v 5).toInt ∨ (v 3).toInt < (v24 3).toInt ∨ ¬ (v24 5).toInt = 59; omega)⟩ hP hD hS dX11_readMan_80 (Nat.le_refl _) (Nat.le_refl _)
  · skip
    have zc31 : (v24 1).toInt = 0 := by rw [fa_eq, show (0 : Int32).toInt = 0 from by decide] at c31; exact c31
    refine lv_aload_n hx hb dX11_readMan_70 rfl (lv_at hl 0 rfl) ?_
    refine lv_dup hx hb dX11_readMan_71 rfl ?_
    refine va_get (D := (dC, dI)) (ci := 11) (v := .int (v24 17)) (C := RX11) (T := TX11) (N := 79) hx hb hts inB_11 hown hE.1 hP 0 rfl rfl 41 (by decide) (hts _ k_1361) (fun _ h9 => h9) rfl dX11_readMan_72 ?_
    refine tI (y := (v 17)) hq17_v24 ?_
    have b17_v : 0 ≤ (v 17).toInt ∧ (v 17).toInt ≤ 6 := YIb.b hIv.1 17 (by decide)
    refine lv_iconst (v := 1) hx hb dX11_readMan_75 (by decide) ?_
    refine lv_iadd hx hb dX11_readMan_76 ?_
    refine lv_topi (fun t32 et32 => ?_)
    have rg33 := fb_rng (v 17)
    have zt32 : t32.toInt = (v 17).toInt + 1 := by rw [et32]; exact add_i rfl (by decide) (by omega) (by omega)
    refine va_put (D := (dC, dI)) (ci := 11) (v := .int t32) (ty := tyX11 41) (C := RX11) (T := TX11) (N := 79) hx hb hts inB_11 tyX11 tyX11_ok nmX11 hown hE.1 hP hD hS 0 rfl rfl 41 (by decide) (hts _ k_1361) (fun _ h9 => h9) rfl (tyX11_ok 41 (by decide)) rfl rfl (Nat.le_of_ble_eq_true rfl) dX11_readMan_77 (fun H locs hP hD hS => ?_)
    have hP : va_P (dC, dI) vwCl (YW cy y0 r (upd v24 17 t32) f30 w26 g27) H := hP
    have hD : va_D A (YW cy y0 r (upd v24 17 t32) f30 w26 g27) := hD
    exact ret ((upd v24 17 t32), f30, w26, g27) _ _ _ _ _ _ ⟨⟨(YIb.upd (j := 17) (x := t32) hIv24.1 (show (0 : Int) ≤ t32.toInt by omega) (show t32.toInt ≤ (6 : Int) by omega)), hIv24.2⟩, hCf30, hRf30, (hk0_v24.trans (hk0_v16.trans (hk0_v8.trans hk0_v1))), (hk4_v24.trans (hk4_v16.trans (hk4_v8.trans hk4_v1))), (hk8_v24.trans (hk8_v16.trans (hk8_v8.trans hk8_v1))), (hk9_v24.trans (hk9_v16.trans (hk9_v8.trans hk9_v1))), (hk10_v24.trans (hk10_v16.trans (hk10_v8.trans hk10_v1))), (hk18_v24.trans (hk18_v16.trans (hk18_v8.trans hk18_v1))), (hk24_v24.trans (hk24_v16.trans (hk24_v8.trans hk24_v1))), (hk25_v24.trans (hk25_v16.trans (hk25_v8.trans hk25_v1))), (hk35_v24.trans (hk35_v16.trans (hk35_v8.trans hk35_v1))), (hk36_v24.trans (hk36_v16.trans (hk36_v8.trans hk36_v1))), (hk38_v24.trans (hk38_v16.trans (hk38_v8.trans hk38_v1))), (hk39_v24.trans (hk39_v16.trans (hk39_v8.trans hk39_v1))), (by show (v 3).toInt ≤ (v24 3).toInt; omega), (by show (v24 5).toInt = (v 5).toInt ∨ (v 3).toInt < (v24 3).toInt ∨ ¬ (v24 5).toInt = 59; omega)⟩ hP hD hS dX11_readMan_80 (Nat.le_refl _) (Nat.le_refl _)
set_option maxHeartbeats 4000000 in
set_option maxRecDepth 100000 in
theorem sY_X11_readCoat_1 (l : Launch) (dC : Nat → ClassId) (dI : Nat → Nat → Nat) (cy : Nat → ClassId) (y0 : Nat) (r : Nat → Nat)  (v : Nat → Int32) (f : Nat → Nat → Int32) (w : Int64) (g : Nat → Int64) (hIv : YI v) (hCf : YC f) (hRf : progOK (f 4) (f 5) (v 9).toInt.toNat)  (hf0 : (v 18).toInt ≤ 5) : ctV l (dC, dI) cy yX11_readCoat cX11_readCoat 1 6 172 0 0 ((Nat → Int32) × (Nat → Nat → Int32) × (Int64) × (Nat → Int64)) [.ref y0] (YW cy y0 r v f w g) (fun u => YI u.1 ∧ YC u.2.1 ∧ progOK (u.2.1 4) (u.2.1 5) (u.1 9).toInt.toNat ∧ u.1 0 = v 0 ∧ u.1 4 = v 4 ∧ u.1 8 = v 8 ∧ u.1 9 = v 9 ∧ u.1 10 = v 10 ∧ u.1 17 = v 17 ∧ u.1 24 = v 24 ∧ u.1 25 = v 25 ∧ u.1 35 = v 35 ∧ u.1 36 = v 36 ∧ u.1 38 = v 38 ∧ u.1 39 = v 39 ∧ ((v 3).toInt ≤ (u.1 3).toInt) ∧ ((u.1 5).toInt = (v 5).toInt ∨ (v 3).toInt < (u.1 3).toInt ∨ ¬ (u.1 5).toInt = 59)) (fun u => YW cy y0 r u.1 u.2.1 u.2.2.1 u.2.2.2) := by
  refine ctV_of (by decide) (Nat.le_of_ble_eq_true rfl) (fun p e s m below meth c A ls Q hx hb hml hts hown hnm hE hP hD hA hl ret => ?_)
  have hUv : (v 35).toInt + (v 36).toInt ≤ 40 := hIv.2
  have hown : s.vm.findClass RX11 = some m.cls := hown
  have hS : va_S A s.heap s.heap [] := va_S.rf
  have hl : lv_has ls 1 [(0, .ref y0)] := hl
  refine lv_aload_n hx hb dX11_readCoat_0 rfl (lv_at hl 0 rfl) ?_
  refine lv_bipush (v := 6) hx hb dX11_readCoat_1 (by decide) ?_
  refine lv_aload_n hx hb dX11_readCoat_3 rfl (lv_at hl 0 rfl) ?_
  refine va_get (D := (dC, dI)) (ci := 11) (v := .int (v 18)) (C := RX11) (T := TX11) (N := 79) hx hb hts inB_11 hown hE.1 hP 0 rfl rfl 42 (by decide) (hts _ k_1362) (fun _ h9 => h9) rfl dX11_readCoat_4 ?_
  have b18_v : 0 ≤ (v 18).toInt ∧ (v 18).toInt ≤ 6 := YIb.b hIv.1 18 (by decide)
  refine cbVv (n := 2) (rest := []) hx hb hml hown hts hE hP hD hS hA (sY_X11_newName_1 l dC dI cy y0 r 6 (v 18) v f w g hIv hCf hRf ⟨by decide, by decide⟩ ⟨show (0 : Int) ≤ (v 18).toInt by omega, show (v 18).toInt ≤ (5 : Int) by omega⟩) k_1609 k_1611 k_47 k_114 k_1612 (by decide +kernel) ⟨Nat.le_of_ble_eq_true rfl, Nat.le_of_ble_eq_true rfl⟩ 0 11 rfl rfl (rfl) hl.1 rfl (Nat.le_of_ble_eq_true rfl) dX11_readCoat_7 (fun u H locs hw hP hD hS => ?_)
  obtain ⟨v1, f2, w3, g4⟩ := u
  obtain ⟨hIv1, hCf2, hRf2, hk0_v1, hk4_v1, hk8_v1, hk9_v1, hk10_v1, hk17_v1, hk18_v1, hk24_v1, hk25_v1, hk35_v1, hk36_v1, hk38_v1, hk39_v1, pv5, pv6⟩ := hw
  have hP : va_P (dC, dI) vwCl (YW cy y0 r v1 f2 w3 g4) H := hP
  have hD : va_D A (YW cy y0 r v1 f2 w3 g4) := hD
  have b3_v1 : 0 ≤ (v1 3).toInt ∧ (v1 3).toInt ≤ 1600 := YIb.b hIv1.1 3 (by decide)
  have pv5 : (v 3).toInt ≤ (v1 3).toInt := pv5
  have pv6 : (v1 5).toInt = (v 5).toInt ∨ (v 3).toInt < (v1 3).toInt ∨ ¬ (v1 5).toInt = 59 := pv6
  have hUv1 : (v1 35).toInt + (v1 36).toInt ≤ 40 := hIv1.2
  have hq0_v1 : v1 0 = (v 0) := hk0_v1
  have hq4_v1 : v1 4 = (v 4) := hk4_v1
  have zq4_v1 := congrArg Int32.toInt hq4_v1
  have hq8_v1 : v1 8 = (v 8) := hk8_v1
  have hq9_v1 : v1 9 = (v 9) := hk9_v1
  have zq9_v1 := congrArg Int32.toInt hq9_v1
  have hq10_v1 : v1 10 = (v 10) := hk10_v1
  have hq17_v1 : v1 17 = (v 17) := hk17_v1
  have hq18_v1 : v1 18 = (v 18) := hk18_v1
  have hq24_v1 : v1 24 = (v 24) := hk24_v1
  have hq25_v1 : v1 25 = (v 25) := hk25_v1
  have hq35_v1 : v1 35 = (v 35) := hk35_v1
  have zq35_v1 := congrArg Int32.toInt hq35_v1
  have hq36_v1 : v1 36 = (v 36) := hk36_v1
  have zq36_v1 := congrArg Int32.toInt hq36_v1
  have hq38_v1 : v1 38 = (v 38) := hk38_v1
  have hq39_v1 : v1 39 = (v 39) := hk39_v1
  refine lv_aload_n hx hb dX11_readCoat_10 rfl (lv_at hl 0 rfl) ?_
  refine va_get (D := (dC, dI)) (ci := 11) (v := .ref (r 30)) (C := RX11) (T := TX11) (N := 79) hx hb hts inB_11 hown hE.1 hP 0 rfl rfl 30 (by decide) (hts _ k_1350) (fun _ h9 => h9) rfl dX11_readCoat_11 ?_
  refine lv_aload_n hx hb dX11_readCoat_14 rfl (lv_at hl 0 rfl) ?_
  refine va_get (D := (dC, dI)) (ci := 11) (v := .int (v1 18)) (C := RX11) (T := TX11) (N := 79) hx hb hts inB_11 hown hE.1 hP 0 rfl rfl 42 (by decide) (hts _ k_1362) (fun _ h9 => h9) rfl dX11_readCoat_15 ?_
  refine tI (y := (v 18)) hq18_v1 ?_
  have b18_v : 0 ≤ (v 18).toInt ∧ (v 18).toInt ≤ 6 := YIb.b hIv.1 18 (by decide)
  refine lv_aload_n hx hb dX11_readCoat_18 rfl (lv_at hl 0 rfl) ?_
  refine lv_ldc2 (v := 1952541804) hx hb hown (hts _ k_1621) dX11_readCoat_19 ?_
  refine lv_bipush (v := 99) hx hb dX11_readCoat_22 (by decide) ?_
  refine cbVi (n := 2) (rest := [.int (v 18), .ref (r 30)]) hx hb hml hown hts hE hP hD hS hA (sY_X11_told_1 l dC dI cy y0 r 1952541804 99 v1 f2 w3 g4 hIv1 hCf2 hRf2 ) k_1645 k_1647 k_51 k_114 k_1648 (by decide +kernel) ⟨Nat.le_of_ble_eq_true rfl, Nat.le_of_ble_eq_true rfl⟩ 0 11 rfl rfl (rfl) hl.1 rfl (Nat.le_of_ble_eq_true rfl) dX11_readCoat_24 (fun r7 u H locs hw hP hD hS => ?_)
  obtain ⟨v8, f9, w10, g11⟩ := u
  obtain ⟨hIv8, hCf9, hRf9, hk0_v8, hk4_v8, hk8_v8, hk9_v8, hk10_v8, hk17_v8, hk18_v8, hk24_v8, hk25_v8, hk35_v8, hk36_v8, hk38_v8, hk39_v8, pv12, pv13⟩ := hw
  have hP : va_P (dC, dI) vwCl (YW cy y0 r v8 f9 w10 g11) H := hP
  have hD : va_D A (YW cy y0 r v8 f9 w10 g11) := hD
  have b3_v8 : 0 ≤ (v8 3).toInt ∧ (v8 3).toInt ≤ 1600 := YIb.b hIv8.1 3 (by decide)
  have pv12 : (v1 3).toInt ≤ (v8 3).toInt := pv12
  have pv13 : (v8 5).toInt = (v1 5).toInt ∨ (v1 3).toInt < (v8 3).toInt ∨ ¬ (v8 5).toInt = 59 := pv13
  have hUv8 : (v8 35).toInt + (v8 36).toInt ≤ 40 := hIv8.2
  have hq0_v8 : v8 0 = (v 0) := hk0_v8.trans hq0_v1
  have hq4_v8 : v8 4 = (v 4) := hk4_v8.trans hq4_v1
  have zq4_v8 := congrArg Int32.toInt hq4_v8
  have hq8_v8 : v8 8 = (v 8) := hk8_v8.trans hq8_v1
  have hq9_v8 : v8 9 = (v 9) := hk9_v8.trans hq9_v1
  have zq9_v8 := congrArg Int32.toInt hq9_v8
  have hq10_v8 : v8 10 = (v 10) := hk10_v8.trans hq10_v1
  have hq17_v8 : v8 17 = (v 17) := hk17_v8.trans hq17_v1
  have hq18_v8 : v8 18 = (v 18) := hk18_v8.trans hq18_v1
  have hq24_v8 : v8 24 = (v 24) := hk24_v8.trans hq24_v1
  have hq25_v8 : v8 25 = (v 25) := hk25_v8.trans hq25_v1
  have hq35_v8 : v8 35 = (v 35) := hk35_v8.trans hq35_v1
  have zq35_v8 := congrArg Int32.toInt hq35_v8
  have hq36_v8 : v8 36 = (v 36) := hk36_v8.trans hq36_v1
  have zq36_v8 := congrArg Int32.toInt hq36_v8
  have hq38_v8 : v8 38 = (v 38) := hk38_v8.trans hq38_v1
  have hq39_v8 : v8 39 = (v 39) := hk39_v8.trans hq39_v1
  refine stI hx hb hE hP hD hS 13 rfl (vp_in_iff.mpr ⟨by omega, by omega⟩) rfl dX11_readCoat_27 (fun H locs hP hD hS => ?_)
  obtain ⟨f14, ef14, hP, hD⟩ : ∃ fz9, fz9 = upd2 f9 12 (upd (f9 12) (v 18).toNatClampNeg r7) ∧ va_P (dC, dI) vwCl (YW cy y0 r v8 fz9 w10 g11) H ∧ va_D A (YW cy y0 r v8 fz9 w10 g11) := ⟨_, rfl, hP, hD⟩
  have hCf14 : YC f14 := by rw [ef14]; exact hCf9
  have hRf14 : progOK (f14 4) (f14 5) (v8 9).toInt.toNat := by rw [ef14]; exact hRf9
  refine lv_aload_n hx hb dX11_readCoat_28 rfl (lv_at hl 0 rfl) ?_
  refine va_get (D := (dC, dI)) (ci := 11) (v := .ref (r 31)) (C := RX11) (T := TX11) (N := 79) hx hb hts inB_11 hown hE.1 hP 0 rfl rfl 31 (by decide) (hts _ k_1351) (fun _ h9 => h9) rfl dX11_readCoat_29 ?_
  refine lv_aload_n hx hb dX11_readCoat_32 rfl (lv_at hl 0 rfl) ?_
  refine va_get (D := (dC, dI)) (ci := 11) (v := .int (v8 18)) (C := RX11) (T := TX11) (N := 79) hx hb hts inB_11 hown hE.1 hP 0 rfl rfl 42 (by decide) (hts _ k_1362) (fun _ h9 => h9) rfl dX11_readCoat_33 ?_
  refine tI (y := (v 18)) hq18_v8 ?_
  have b18_v : 0 ≤ (v 18).toInt ∧ (v 18).toInt ≤ 6 := YIb.b hIv.1 18 (by decide)
  refine lv_aload_n hx hb dX11_readCoat_36 rfl (lv_at hl 0 rfl) ?_
  refine lv_ldc2 (v := 2003395685) hx hb hown (hts _ k_1622) dX11_readCoat_37 ?_
  refine lv_bipush (v := 99) hx hb dX11_readCoat_40 (by decide) ?_
  refine cbVi (n := 2) (rest := [.int (v 18), .ref (r 31)]) hx hb hml hown hts hE hP hD hS hA (sY_X11_told_1 l dC dI cy y0 r 2003395685 99 v8 f14 w10 g11 hIv8 hCf14 hRf14 ) k_1645 k_1647 k_51 k_114 k_1648 (by decide +kernel) ⟨Nat.le_of_ble_eq_true rfl, Nat.le_of_ble_eq_true rfl⟩ 0 11 rfl rfl (rfl) hl.1 rfl (Nat.le_of_ble_eq_true rfl) dX11_readCoat_42 (fun r15 u H locs hw hP hD hS => ?_)
  obtain ⟨v16, f17, w18, g19⟩ := u
  obtain ⟨hIv16, hCf17, hRf17, hk0_v16, hk4_v16, hk8_v16, hk9_v16, hk10_v16, hk17_v16, hk18_v16, hk24_v16, hk25_v16, hk35_v16, hk36_v16, hk38_v16, hk39_v16, pv20, pv21⟩ := hw
  have hP : va_P (dC, dI) vwCl (YW cy y0 r v16 f17 w18 g19) H := hP
  have hD : va_D A (YW cy y0 r v16 f17 w18 g19) := hD
  have b3_v16 : 0 ≤ (v16 3).toInt ∧ (v16 3).toInt ≤ 1600 := YIb.b hIv16.1 3 (by decide)
  have pv20 : (v8 3).toInt ≤ (v16 3).toInt := pv20
  have pv21 : (v16 5).toInt = (v8 5).toInt ∨ (v8 3).toInt < (v16 3).toInt ∨ ¬ (v16 5).toInt = 59 := pv21
  have hUv16 : (v16 35).toInt + (v16 36).toInt ≤ 40 := hIv16.2
  have hq0_v16 : v16 0 = (v 0) := hk0_v16.trans hq0_v8
  have hq4_v16 : v16 4 = (v 4) := hk4_v16.trans hq4_v8
  have zq4_v16 := congrArg Int32.toInt hq4_v16
  have hq8_v16 : v16 8 = (v 8) := hk8_v16.trans hq8_v8
  have hq9_v16 : v16 9 = (v 9) := hk9_v16.trans hq9_v8
  have zq9_v16 := congrArg Int32.toInt hq9_v16
  have hq10_v16 : v16 10 = (v 10) := hk10_v16.trans hq10_v8
  have hq17_v16 : v16 17 = (v 17) := hk17_v16.trans hq17_v8
  have hq18_v16 : v16 18 = (v 18) := hk18_v16.trans hq18_v8
  have hq24_v16 : v16 24 = (v 24) := hk24_v16.trans hq24_v8
  have hq25_v16 : v16 25 = (v 25) := hk25_v16.trans hq25_v8
  have hq35_v16 : v16 35 = (v 35) := hk35_v16.trans hq35_v8
  have zq35_v16 := congrArg Int32.toInt hq35_v16
  have hq36_v16 : v16 36 = (v 36) := hk36_v16.trans hq36_v8
  have zq36_v16 := congrArg Int32.toInt hq36_v16
  have hq38_v16 : v16 38 = (v 38) := hk38_v16.trans hq38_v8
  have hq39_v16 : v16 39 = (v 39) := hk39_v16.trans hq39_v8
  refine stI hx hb hE hP hD hS 14 rfl (vp_in_iff.mpr ⟨by omega, by omega⟩) rfl dX11_readCoat_45 (fun H locs hP hD hS => ?_)
  obtain ⟨f22, ef22, hP, hD⟩ : ∃ fz9, fz9 = upd2 f17 13 (upd (f17 13) (v 18).toNatClampNeg r15) ∧ va_P (dC, dI) vwCl (YW cy y0 r v16 fz9 w18 g19) H ∧ va_D A (YW cy y0 r v16 fz9 w18 g19) := ⟨_, rfl, hP, hD⟩
  have hCf22 : YC f22 := by rw [ef22]; exact hCf17
  have hRf22 : progOK (f22 4) (f22 5) (v16 9).toInt.toNat := by rw [ef22]; exact hRf17
  refine lv_aload_n hx hb dX11_readCoat_46 rfl (lv_at hl 0 rfl) ?_
  refine va_get (D := (dC, dI)) (ci := 11) (v := .ref (r 32)) (C := RX11) (T := TX11) (N := 79) hx hb hts inB_11 hown hE.1 hP 0 rfl rfl 32 (by decide) (hts _ k_1352) (fun _ h9 => h9) rfl dX11_readCoat_47 ?_
  refine lv_aload_n hx hb dX11_readCoat_50 rfl (lv_at hl 0 rfl) ?_
  refine va_get (D := (dC, dI)) (ci := 11) (v := .int (v16 18)) (C := RX11) (T := TX11) (N := 79) hx hb hts inB_11 hown hE.1 hP 0 rfl rfl 42 (by decide) (hts _ k_1362) (fun _ h9 => h9) rfl dX11_readCoat_51 ?_
  refine tI (y := (v 18)) hq18_v16 ?_
  have b18_v : 0 ≤ (v 18).toInt ∧ (v 18).toInt ≤ 6 := YIb.b hIv.1 18 (by decide)
  refine lv_aload_n hx hb dX11_readCoat_54 rfl (lv_at hl 0 rfl) ?_
  refine lv_ldc2 (v := 1936023917) hx hb hown (hts _ k_1625) dX11_readCoat_55 ?_
  refine lv_bipush (v := 20) hx hb dX11_readCoat_58 (by decide) ?_
  refine cbVi (n := 2) (rest := [.int (v 18), .ref (r 32)]) hx hb hml hown hts hE hP hD hS hA (sY_X11_option_1 l dC dI cy y0 r 1936023917 20 v16 f22 w18 g19 hIv16 hCf22 hRf22 ) k_1657 k_1659 k_54 k_114 k_1660 (by decide +kernel) ⟨Nat.le_of_ble_eq_true rfl, Nat.le_of_ble_eq_true rfl⟩ 0 11 rfl rfl (rfl) hl.1 rfl (Nat.le_of_ble_eq_true rfl) dX11_readCoat_60 (fun r23 u H locs hw hP hD hS => ?_)
  obtain ⟨v24, f25, w26, g27⟩ := u
  obtain ⟨hIv24, hCf25, hRf25, hk0_v24, hk4_v24, hk8_v24, hk9_v24, hk10_v24, hk17_v24, hk18_v24, hk24_v24, hk25_v24, hk35_v24, hk36_v24, hk38_v24, hk39_v24, pv28, pv29⟩ := hw
  have hP : va_P (dC, dI) vwCl (YW cy y0 r v24 f25 w26 g27) H := hP
  have hD : va_D A (YW cy y0 r v24 f25 w26 g27) := hD
  have b3_v24 : 0 ≤ (v24 3).toInt ∧ (v24 3).toInt ≤ 1600 := YIb.b hIv24.1 3 (by decide)
  have pv28 : (v16 3).toInt ≤ (v24 3).toInt := pv28
  have pv29 : (v24 5).toInt = (v16 5).toInt ∨ (v16 3).toInt < (v24 3).toInt ∨ ¬ (v24 5).toInt = 59 := pv29
  have hUv24 : (v24 35).toInt + (v24 36).toInt ≤ 40 := hIv24.2
  have hq0_v24 : v24 0 = (v 0) := hk0_v24.trans hq0_v16
  have hq4_v24 : v24 4 = (v 4) := hk4_v24.trans hq4_v16
  have zq4_v24 := congrArg Int32.toInt hq4_v24
  have hq8_v24 : v24 8 = (v 8) := hk8_v24.trans hq8_v16
  have hq9_v24 : v24 9 = (v 9) := hk9_v24.trans hq9_v16
  have zq9_v24 := congrArg Int32.toInt hq9_v24
  have hq10_v24 : v24 10 = (v 10) := hk10_v24.trans hq10_v16
  have hq17_v24 : v24 17 = (v 17) := hk17_v24.trans hq17_v16
  have hq18_v24 : v24 18 = (v 18) := hk18_v24.trans hq18_v16
  have hq24_v24 : v24 24 = (v 24) := hk24_v24.trans hq24_v16
  have hq25_v24 : v24 25 = (v 25) := hk25_v24.trans hq25_v16
  have hq35_v24 : v24 35 = (v 35) := hk35_v24.trans hq35_v16
  have zq35_v24 := congrArg Int32.toInt hq35_v24
  have hq36_v24 : v24 36 = (v 36) := hk36_v24.trans hq36_v16
  have zq36_v24 := congrArg Int32.toInt hq36_v24
  have hq38_v24 : v24 38 = (v 38) := hk38_v24.trans hq38_v16
  have hq39_v24 : v24 39 = (v 39) := hk39_v24.trans hq39_v16
  refine stI hx hb hE hP hD hS 15 rfl (vp_in_iff.mpr ⟨by omega, by omega⟩) rfl dX11_readCoat_63 (fun H locs hP hD hS => ?_)
  obtain ⟨f30, ef30, hP, hD⟩ : ∃ fz9, fz9 = upd2 f25 14 (upd (f25 14) (v 18).toNatClampNeg r23) ∧ va_P (dC, dI) vwCl (YW cy y0 r v24 fz9 w26 g27) H ∧ va_D A (YW cy y0 r v24 fz9 w26 g27) := ⟨_, rfl, hP, hD⟩
  have hCf30 : YC f30 := by rw [ef30]; exact hCf25
  have hRf30 : progOK (f30 4) (f30 5) (v24 9).toInt.toNat := by rw [ef30]; exact hRf25
  refine lv_aload_n hx hb dX11_readCoat_64 rfl (lv_at hl 0 rfl) ?_
  refine va_get (D := (dC, dI)) (ci := 11) (v := .ref (r 33)) (C := RX11) (T := TX11) (N := 79) hx hb hts inB_11 hown hE.1 hP 0 rfl rfl 33 (by decide) (hts _ k_1353) (fun _ h9 => h9) rfl dX11_readCoat_65 ?_
  refine lv_aload_n hx hb dX11_readCoat_68 rfl (lv_at hl 0 rfl) ?_
  refine va_get (D := (dC, dI)) (ci := 11) (v := .int (v24 18)) (C := RX11) (T := TX11) (N := 79) hx hb hts inB_11 hown hE.1 hP 0 rfl rfl 42 (by decide) (hts _ k_1362) (fun _ h9 => h9) rfl dX11_readCoat_69 ?_
  refine tI (y := (v 18)) hq18_v24 ?_
  have b18_v : 0 ≤ (v 18).toInt ∧ (v 18).toInt ≤ 6 := YIb.b hIv.1 18 (by decide)
  refine lv_aload_n hx hb dX11_readCoat_72 rfl (lv_at hl 0 rfl) ?_
  refine lv_ldc2 (v := 2003792494) hx hb hown (hts _ k_1626) dX11_readCoat_73 ?_
  refine lv_bipush (v := 99) hx hb dX11_readCoat_76 (by decide) ?_
  refine cbVi (n := 2) (rest := [.int (v 18), .ref (r 33)]) hx hb hml hown hts hE hP hD hS hA (sY_X11_option_1 l dC dI cy y0 r 2003792494 99 v24 f30 w26 g27 hIv24 hCf30 hRf30 ) k_1657 k_1659 k_54 k_114 k_1660 (by decide +kernel) ⟨Nat.le_of_ble_eq_true rfl, Nat.le_of_ble_eq_true rfl⟩ 0 11 rfl rfl (rfl) hl.1 rfl (Nat.le_of_ble_eq_true rfl) dX11_readCoat_78 (fun r31 u H locs hw hP hD hS => ?_)
  obtain ⟨v32, f33, w34, g35⟩ := u
  obtain ⟨hIv32, hCf33, hRf33, hk0_v32, hk4_v32, hk8_v32, hk9_v32, hk10_v32, hk17_v32, hk18_v32, hk24_v32, hk25_v32, hk35_v32, hk36_v32, hk38_v32, hk39_v32, pv36, pv37⟩ := hw
  have hP : va_P (dC, dI) vwCl (YW cy y0 r v32 f33 w34 g35) H := hP
  have hD : va_D A (YW cy y0 r v32 f33 w34 g35) := hD
  have b3_v32 : 0 ≤ (v32 3).toInt ∧ (v32 3).toInt ≤ 1600 := YIb.b hIv32.1 3 (by decide)
  have pv36 : (v24 3).toInt ≤ (v32 3).toInt := pv36
  have pv37 : (v32 5).toInt = (v24 5).toInt ∨ (v24 3).toInt < (v32 3).toInt ∨ ¬ (v32 5).toInt = 59 := pv37
  have hUv32 : (v32 35).toInt + (v32 36).toInt ≤ 40 := hIv32.2
  have hq0_v32 : v32 0 = (v 0) := hk0_v32.trans hq0_v24
  have hq4_v32 : v32 4 = (v 4) := hk4_v32.trans hq4_v24
  have zq4_v32 := congrArg Int32.toInt hq4_v32
  have hq8_v32 : v32 8 = (v 8) := hk8_v32.trans hq8_v24
  have hq9_v32 : v32 9 = (v 9) := hk9_v32.trans hq9_v24
  have zq9_v32 := congrArg Int32.toInt hq9_v32
  have hq10_v32 : v32 10 = (v 10) := hk10_v32.trans hq10_v24
  have hq17_v32 : v32 17 = (v 17) := hk17_v32.trans hq17_v24
  have hq18_v32 : v32 18 = (v 18) := hk18_v32.trans hq18_v24
  have hq24_v32 : v32 24 = (v 24) := hk24_v32.trans hq24_v24
  have hq25_v32 : v32 25 = (v 25) := hk25_v32.trans hq25_v24
  have hq35_v32 : v32 35 = (v 35) := hk35_v32.trans hq35_v24
  have zq35_v32 := congrArg Int32.toInt hq35_v32
  have hq36_v32 : v32 36 = (v 36) := hk36_v32.trans hq36_v24
  have zq36_v32 := congrArg Int32.toInt hq36_v32
  have hq38_v32 : v32 38 = (v 38) := hk38_v32.trans hq38_v24
  have hq39_v32 : v32 39 = (v 39) := hk39_v32.trans hq39_v24
  refine stI hx hb hE hP hD hS 16 rfl (vp_in_iff.mpr ⟨by omega, by omega⟩) rfl dX11_readCoat_81 (fun H locs hP hD hS => ?_)
  obtain ⟨f38, ef38, hP, hD⟩ : ∃ fz9, fz9 = upd2 f33 15 (upd (f33 15) (v 18).toNatClampNeg r31) ∧ va_P (dC, dI) vwCl (YW cy y0 r v32 fz9 w34 g35) H ∧ va_D A (YW cy y0 r v32 fz9 w34 g35) := ⟨_, rfl, hP, hD⟩
  have hCf38 : YC f38 := by rw [ef38]; exact hCf33
  have hRf38 : progOK (f38 4) (f38 5) (v32 9).toInt.toNat := by rw [ef38]; exact hRf33
  refine lv_aload_n hx hb dX11_readCoat_82 rfl (lv_at hl 0 rfl) ?_
  refine va_get (D := (dC, dI)) (ci := 11) (v := .int (v32 1)) (C := RX11) (T := TX11) (N := 79) hx hb hts inB_11 hown hE.1 hP 0 rfl rfl 2 (by decide) (hts _ k_1322) (fun _ h9 => h9) rfl dX11_readCoat_83 ?_
  refine lv_if_ne (tgt := 99) hx hb dX11_readCoat_86 (by decide) (fun c39 => ?_) (fun c39 => ?_)
  · skip
    have zc39 : ¬ ((v32 1).toInt = 0) := by rw [fa_eq, show (0 : Int32).toInt = 0 from by decide] at c39; exact c39
    exact ret (v32, f38, w34, g35) _ _ _ _ _ _ ⟨hIv32, hCf38, hRf38, (hk0_v32.trans (hk0_v24.trans (hk0_v16.trans (hk0_v8.trans hk0_v1)))), (hk4_v32.trans (hk4_v24.trans (hk4_v16.trans (hk4_v8.trans hk4_v1)))), (hk8_v32.trans (hk8_v24.trans (hk8_v16.trans (hk8_v8.trans hk8_v1)))), (hk9_v32.trans (hk9_v24.trans (hk9_v16.trans (hk9_v8.trans hk9_v1)))), (hk10_v32.trans (hk10_v24.trans (hk10_v16.trans (hk10_v8.trans hk10_v1)))), (hk17_v32.trans (hk17_v24.trans (hk17_v16.trans (hk17_v8.trans hk17_v1)))), (hk24_v32.trans (hk24_v24.trans (hk24_v16.trans (hk24_v8.trans hk24_v1)))), (hk25_v32.trans (hk25_v24.trans (hk25_v16.trans (hk25_v8.trans hk25_v1)))), (hk35_v32.trans (hk35_v24.trans (hk35_v16.trans (hk35_v8.trans hk35_v1)))), (hk36_v32.trans (hk36_v24.trans (hk36_v16.trans (hk36_v8.trans hk36_v1)))), (hk38_v32.trans (hk38_v24.trans (hk38_v16.trans (hk38_v8.trans hk38_v1)))), (hk39_v32.trans (hk39_v24.trans (hk39_v16.trans (hk39_v8.trans hk39_v1)))), (by show (v 3).toInt ≤ (v32 3).toInt; omega), (by show (v32 5).toInt = (v 5).toInt ∨ (v 3).toInt < (v32 3).toInt ∨ ¬ (v32 5).toInt = 59; omega)⟩ hP hD hS dX11_readCoat_99 (Nat.le_refl _) (Nat.le_refl _)
  · skip
    have zc39 : (v32 1).toInt = 0 := by rw [fa_eq, show (0 : Int32).toInt = 0 from by decide] at c39; exact c39
    refine lv_aload_n hx hb dX11_readCoat_89 rfl (lv_at hl 0 rfl) ?_
    refine lv_dup hx hb dX11_readCoat_90 rfl ?_
    refine va_get (D := (dC, dI)) (ci := 11) (v := .int (v32 18)) (C := RX11) (T := TX11) (N := 79) hx hb hts inB_11 hown hE.1 hP 0 rfl rfl 42 (by decide) (hts _ k_1362) (fun _ h9 => h9) rfl dX11_readCoat_91 ?_
    refine tI (y := (v 18)) hq18_v32 ?_
    have b18_v : 0 ≤ (v 18).toInt ∧ (v 18).toInt ≤ 6 := YIb.b hIv.1 18 (by decide)
    refine lv_iconst (v := 1) hx hb dX11_readCoat_94 (by decide) ?_
    refine lv_iadd hx hb dX11_readCoat_95 ?_
    refine lv_topi (fun t40 et40 => ?_)
    have rg41 := fb_rng (v 18)
    have zt40 : t40.toInt = (v 18).toInt + 1 := by rw [et40]; exact add_i rfl (by decide) (by omega) (by omega)
    refine va_put (D := (dC, dI)) (ci := 11) (v := .int t40) (ty := tyX11 42) (C := RX11) (T := TX11) (N := 79) hx hb hts inB_11 tyX11 tyX11_ok nmX11 hown hE.1 hP hD hS 0 rfl rfl 42 (by decide) (hts _ k_1362) (fun _ h9 => h9) rfl (tyX11_ok 42 (by decide)) rfl rfl (Nat.le_of_ble_eq_true rfl) dX11_readCoat_96 (fun H locs hP hD hS => ?_)
    have hP : va_P (dC, dI) vwCl (YW cy y0 r (upd v32 18 t40) f38 w34 g35) H := hP
    have hD : va_D A (YW cy y0 r (upd v32 18 t40) f38 w34 g35) := hD
    exact ret ((upd v32 18 t40), f38, w34, g35) _ _ _ _ _ _ ⟨⟨(YIb.upd (j := 18) (x := t40) hIv32.1 (show (0 : Int) ≤ t40.toInt by omega) (show t40.toInt ≤ (6 : Int) by omega)), hIv32.2⟩, hCf38, hRf38, (hk0_v32.trans (hk0_v24.trans (hk0_v16.trans (hk0_v8.trans hk0_v1)))), (hk4_v32.trans (hk4_v24.trans (hk4_v16.trans (hk4_v8.trans hk4_v1)))), (hk8_v32.trans (hk8_v24.trans (hk8_v16.trans (hk8_v8.trans hk8_v1)))), (hk9_v32.trans (hk9_v24.trans (hk9_v16.trans (hk9_v8.trans hk9_v1)))), (hk10_v32.trans (hk10_v24.trans (hk10_v16.trans (hk10_v8.trans hk10_v1)))), (hk17_v32.trans (hk17_v24.trans (hk17_v16.trans (hk17_v8.trans hk17_v1)))), (hk24_v32.trans (hk24_v24.trans (hk24_v16.trans (hk24_v8.trans hk24_v1)))), (hk25_v32.trans (hk25_v24.trans (hk25_v16.trans (hk25_v8.trans hk25_v1)))), (hk35_v32.trans (hk35_v24.trans (hk35_v16.trans (hk35_v8.trans hk35_v1)))), (hk36_v32.trans (hk36_v24.trans (hk36_v16.trans (hk36_v8.trans hk36_v1)))), (hk38_v32.trans (hk38_v24.trans (hk38_v16.trans (hk38_v8.trans hk38_v1)))), (hk39_v32.trans (hk39_v24.trans (hk39_v16.trans (hk39_v8.trans hk39_v1)))), (by show (v 3).toInt ≤ (v32 3).toInt; omega), (by show (v32 5).toInt = (v 5).toInt ∨ (v 3).toInt < (v32 3).toInt ∨ ¬ (v32 5).toInt = 59; omega)⟩ hP hD hS dX11_readCoat_99 (Nat.le_refl _) (Nat.le_refl _)
