set_option maxHeartbeats 4000000 in
set_option maxRecDepth 100000 in
theorem sY_X11_ask_1 (l : Launch) (dC : Nat → ClassId) (dI : Nat → Nat → Nat) (cy : Nat → ClassId) (y0 : Nat) (r : Nat → Nat) (p1 : Int32) (p2 : Int32) (v : Nat → Int32) (f : Nat → Nat → Int32) (w : Int64) (g : Nat → Int64) (hIv : YI v) (hCf : YC f) (hRf : progOK (f 4) (f 5) (v 9).toInt.toNat)  : ctI l (dC, dI) cy yX11_ask cX11_ask 6 .int 6 172 0 0 ((Nat → Int32) × (Nat → Nat → Int32) × (Int64) × (Nat → Int64)) [.ref y0, .int p1, .int p2] (YW cy y0 r v f w g) (fun r u => KV [] u.1 v ∧ KF [7, 8, 24, 34, 35] u.2.1 f ∧ YI u.1 ∧ YC u.2.1 ∧ progOK (u.2.1 4) (u.2.1 5) (u.1 9).toInt.toNat ∧ u.1 0 = v 0 ∧ u.1 1 = v 1 ∧ u.1 2 = v 2 ∧ u.1 3 = v 3 ∧ u.1 4 = v 4 ∧ u.1 5 = v 5 ∧ u.1 8 = v 8 ∧ u.1 9 = v 9 ∧ u.1 10 = v 10 ∧ u.1 13 = v 13 ∧ u.1 14 = v 14 ∧ u.1 15 = v 15 ∧ u.1 17 = v 17 ∧ u.1 18 = v 18 ∧ u.1 24 = v 24 ∧ u.1 25 = v 25 ∧ u.1 35 = v 35 ∧ u.1 36 = v 36 ∧ u.1 38 = v 38 ∧ u.1 39 = v 39) (fun u => YW cy y0 r u.1 u.2.1 u.2.2.1 u.2.2.2) := by
  refine ctI_of (by decide) (Nat.le_of_ble_eq_true rfl) (fun p e s m below meth c A ls Q hx hb hml hts hown hE hP hD hA hl ret => ?_)
  have hM_v : KV [] v v := fun _ _ => rfl
  have hA_f : KF [7, 8, 24, 34, 35] f f := fun _ _ => rfl
  have hown : s.vm.findClass RX11 = some m.cls := hown
  have hS : va_S A s.heap s.heap [] := va_S.rf
  have hl : lv_has ls 6 [(0, .ref y0), (1, .int p1), (2, .int p2)] := hl
  refine lv_iload_n hx hb dX11_ask_0 rfl (lv_at hl 1 rfl) ?_
  refine lv_iconst (v := 0) hx hb dX11_ask_1 rfl ?_
  refine lv_iconst (v := 1) hx hb dX11_ask_2 rfl ?_
  refine cbSi (n := 3) (rest := []) hx hb hml hown hts hE hP hD hS hA (sY_X11_isIn_1 0 l dC dI cy y0 r p1 0 1 v f w g hIv hCf hRf ) k_1736 k_1737 k_114 k_1738 he_yX11_isIn ⟨Nat.le_of_ble_eq_true rfl, Nat.le_of_ble_eq_true rfl⟩ (rfl) hl.1 rfl (Nat.le_of_ble_eq_true rfl) dX11_ask_3 (fun r3 u H locs hw hP hD hS => ?_)
  obtain ⟨hG4, hw⟩ := hw
  rcases hw with ⟨g5, g5_0, g5_1⟩ | ⟨g5⟩
  · skip
    subst g5
    refine lv_if_ne (tgt := 11) hx hb dX11_ask_6 rfl (fun _ => ?_) (fun c0 => absurd c0 (by decide))
    refine lv_aload_n hx hb dX11_ask_11 rfl (lv_at hl 0 rfl) ?_
    refine lv_iload_n hx hb dX11_ask_12 rfl (lv_at hl 2 rfl) ?_
    refine cbVi (n := 1) (rest := []) hx hb hml hown hts hE hP hD hS hA (sY_X11_layGrowths_1 l dC dI cy y0 r p2 v f w g hIv hCf hRf ) k_2024 k_2026 k_97 k_114 k_2027 hd_yX11_layGrowths ⟨Nat.le_of_ble_eq_true rfl, Nat.le_of_ble_eq_true rfl⟩ 0 11 rfl rfl (rfl) hl.1 rfl (Nat.le_of_ble_eq_true rfl) dX11_ask_13 (fun r6 u H locs hw hP hD hS => ?_)
    obtain ⟨v7, f8, w9, g10⟩ := u
    obtain ⟨kV_v7, kF_f8, hIv7, hCf8, hRf8, hk0_v7, hk1_v7, hk2_v7, hk3_v7, hk4_v7, hk5_v7, hk8_v7, hk9_v7, hk10_v7, hk13_v7, hk14_v7, hk15_v7, hk17_v7, hk18_v7, hk24_v7, hk25_v7, hk35_v7, hk36_v7, hk38_v7, hk39_v7⟩ := hw
    have hM_v7 : KV [] v7 v := KV.tr kV_v7 hM_v rfl
    have hA_f8 : KF [7, 8, 24, 34, 35] f8 f := KF.tr kF_f8 hA_f rfl
    have hP : va_P (dC, dI) vwCl (YW cy y0 r v7 f8 w9 g10) H := hP
    have hD : va_D A (YW cy y0 r v7 f8 w9 g10) := hD
    refine lv_istore_n (lv' := [(3, .int r6), (0, .ref y0), (1, .int p1), (2, .int p2)]) hx hb dX11_ask_16 rfl hl (Nat.le_of_ble_eq_true rfl) rfl (fun ls hl => ?_)
    refine lv_iload_n hx hb dX11_ask_17 rfl (lv_at hl 0 rfl) ?_
    refine lv_if_ne (tgt := 23) hx hb dX11_ask_18 rfl (fun c11 => ?_) (fun c11 => ?_)
    · skip
      refine lv_iconst (v := 0) hx hb dX11_ask_23 rfl ?_
      refine lv_istore (lv' := [(4, .int 0), (3, .int r6), (0, .ref y0), (1, .int p1), (2, .int p2)]) hx hb dX11_ask_24 hl (Nat.le_of_ble_eq_true rfl) rfl (fun ls hl => ?_)
      refine lv_iconst (v := 1) hx hb dX11_ask_26 rfl ?_
      refine lv_istore (lv' := [(5, .int 1), (4, .int 0), (3, .int r6), (0, .ref y0), (1, .int p1), (2, .int p2)]) hx hb dX11_ask_27 hl (Nat.le_of_ble_eq_true rfl) rfl (fun ls hl => ?_)
      have lp12 : ∀ (n12 : Nat) (l4_12 : Int32) (l5_12 : Int32), ((0 : Int) ≤ l4_12.toInt ∧ l4_12.toInt ≤ 20) → ((1 : Int) ≤ l5_12.toInt ∧ l5_12.toInt ≤ 2147483647) → (2147483647 - l5_12.toInt).toNat < n12 → ∀ (H : Heap) (locs : List Loc) (ls : Array Slot), va_P (dC, dI) vwCl (YW cy y0 r v7 f8 w9 g10) H → va_D A (YW cy y0 r v7 f8 w9 g10) → va_S A s.heap H locs → lv_has ls 6 [(5, .int l5_12), (4, .int l4_12), (3, .int r6), (0, .ref y0), (1, .int p1), (2, .int p2)] → W p l e { frames := 6, cells := 0, slots := 0, locals := 172 } s m ([.ref y0, .int p1, .int p2] : List Value).toArray below meth c H locs 0 0 Q (F0 m 29 ls []) := by
        intro n12
        induction n12 with
        | zero => intro l4_12 l5_12 hr4_12 hr5_12 hm; exact absurd hm (Nat.not_lt_zero _)
        | succ n12 ih12 =>
          intro l4_12 l5_12 hr4_12 hr5_12 hm12 H locs ls hP hD hS hl
          refine lv_iload hx hb dX11_ask_29 (lv_at hl 0 rfl) ?_
          refine lv_bipush (v := 20) hx hb dX11_ask_31 rfl ?_
          refine lv_icmp_gt (tgt := 68) hx hb dX11_ask_33 rfl (fun c13 => ?_) (fun c13 => ?_)
          · skip
            refine lv_iload_n hx hb dX11_ask_68 rfl (lv_at hl 4 rfl) ?_
            refine lv_if_ne (tgt := 77) hx hb dX11_ask_69 rfl (fun c14 => ?_) (fun c14 => ?_)
            · skip
              refine lv_aload_n hx hb dX11_ask_77 rfl (lv_at hl 3 rfl) ?_
              refine lv_iload hx hb dX11_ask_78 (lv_at hl 1 rfl) ?_
              refine lv_iload_n hx hb dX11_ask_80 rfl (lv_at hl 2 rfl) ?_
              refine cbVi (n := 2) (rest := []) hx hb hml hown hts hE hP hD hS hA (sY_X11_leftBy_1 l dC dI cy y0 r l4_12 r6 v7 f8 w9 g10 hIv7 hCf8 hRf8 ⟨show (0 : Int) ≤ l4_12.toInt from om_766 hr4_12, show l4_12.toInt ≤ (20 : Int) from om_767 hr4_12⟩) k_2040 k_2042 k_99 k_114 k_2043 hd_yX11_leftBy ⟨Nat.le_of_ble_eq_true rfl, Nat.le_of_ble_eq_true rfl⟩ 0 11 rfl rfl (rfl) hl.1 rfl (Nat.le_of_ble_eq_true rfl) dX11_ask_81 (fun r15 u H locs hw hP hD hS => ?_)
              exact ret r15 (v7, f8, w9, g10) _ _ _ _ _ _ rfl ⟨hM_v7, hA_f8, hIv7, hCf8, hRf8, hk0_v7, hk1_v7, hk2_v7, hk3_v7, hk4_v7, hk5_v7, hk8_v7, hk9_v7, hk10_v7, hk13_v7, hk14_v7, hk15_v7, hk17_v7, hk18_v7, hk24_v7, hk25_v7, hk35_v7, hk36_v7, hk38_v7, hk39_v7⟩ hP hD hS dX11_ask_84 (Nat.le_refl _) (Nat.le_refl _)
            · skip
              refine lv_iload hx hb dX11_ask_72 (lv_at hl 1 rfl) ?_
              refine lv_goto (tgt := 84) hx hb dX11_ask_74 rfl ?_
              exact ret l4_12 (v7, f8, w9, g10) _ _ _ _ _ _ rfl ⟨hM_v7, hA_f8, hIv7, hCf8, hRf8, hk0_v7, hk1_v7, hk2_v7, hk3_v7, hk4_v7, hk5_v7, hk8_v7, hk9_v7, hk10_v7, hk13_v7, hk14_v7, hk15_v7, hk17_v7, hk18_v7, hk24_v7, hk25_v7, hk35_v7, hk36_v7, hk38_v7, hk39_v7⟩ hP hD hS dX11_ask_84 (Nat.le_refl _) (Nat.le_refl _)
          · skip
            have zc13 : ¬ (20 < l5_12.toInt) := zLn tc_20 rfl c13
            refine lv_aload_n hx hb dX11_ask_36 rfl (lv_at hl 3 rfl) ?_
            refine lv_iload hx hb dX11_ask_37 (lv_at hl 0 rfl) ?_
            refine lv_iload_n hx hb dX11_ask_39 rfl (lv_at hl 2 rfl) ?_
            refine cbVi (n := 2) (rest := []) hx hb hml hown hts hE hP hD hS hA (sY_X11_leftBy_1 l dC dI cy y0 r l5_12 r6 v7 f8 w9 g10 hIv7 hCf8 hRf8 ⟨show (0 : Int) ≤ l5_12.toInt from om_267 hr5_12, show l5_12.toInt ≤ (20 : Int) from om_768 zc13⟩) k_2040 k_2042 k_99 k_114 k_2043 hd_yX11_leftBy ⟨Nat.le_of_ble_eq_true rfl, Nat.le_of_ble_eq_true rfl⟩ 0 11 rfl rfl (rfl) hl.1 rfl (Nat.le_of_ble_eq_true rfl) dX11_ask_40 (fun r16 u H locs hw hP hD hS => ?_)
            refine lv_aload_n hx hb dX11_ask_43 rfl (lv_at hl 3 rfl) ?_
            refine lv_iload hx hb dX11_ask_44 (lv_at hl 1 rfl) ?_
            refine lv_iload_n hx hb dX11_ask_46 rfl (lv_at hl 2 rfl) ?_
            refine cbVi (n := 2) (rest := [.int r16]) hx hb hml hown hts hE hP hD hS hA (sY_X11_leftBy_1 l dC dI cy y0 r l4_12 r6 v7 f8 w9 g10 hIv7 hCf8 hRf8 ⟨show (0 : Int) ≤ l4_12.toInt from om_766 hr4_12, show l4_12.toInt ≤ (20 : Int) from om_767 hr4_12⟩) k_2040 k_2042 k_99 k_114 k_2043 hd_yX11_leftBy ⟨Nat.le_of_ble_eq_true rfl, Nat.le_of_ble_eq_true rfl⟩ 0 11 rfl rfl (rfl) hl.1 rfl (Nat.le_of_ble_eq_true rfl) dX11_ask_47 (fun r17 u H locs hw hP hD hS => ?_)
            refine lv_icmp_ge (tgt := 58) hx hb dX11_ask_50 rfl (fun c18 => ?_) (fun c18 => ?_)
            · skip
              refine lv_iload hx hb dX11_ask_58 (lv_at hl 1 rfl) ?_
              refine lv_istore (lv' := [(4, .int l4_12), (5, .int l5_12), (3, .int r6), (0, .ref y0), (1, .int p1), (2, .int p2)]) hx hb dX11_ask_60 hl (Nat.le_of_ble_eq_true rfl) rfl (fun ls hl => ?_)
              obtain ⟨t21, et21⟩ : ∃ y : Int32, y = l5_12 + 1 := ⟨_, rfl⟩
              have zt21 : t21.toInt = l5_12.toInt + 1 := (congrArg Int32.toInt et21).trans (add_i rfl tc_1 (om_259 hr5_12) (om_257 zc13))
              refine lv_iinc (v := t21) (lv' := [(5, .int t21), (4, .int l4_12), (3, .int r6), (0, .ref y0), (1, .int p1), (2, .int p2)]) hx hb dX11_ask_62 hl (k := 1) rfl et21.symm (Nat.le_of_ble_eq_true rfl) rfl (fun ls hl => ?_)
              refine lv_goto (tgt := 29) hx hb dX11_ask_65 rfl ?_
              have rg24 := fb_rng t21
              exact ih12 l4_12 t21 ⟨show (0 : Int) ≤ l4_12.toInt from om_766 hr4_12, show l4_12.toInt ≤ (20 : Int) from om_767 hr4_12⟩ ⟨show (1 : Int) ≤ t21.toInt from om_260 hr5_12 zt21, show t21.toInt ≤ (2147483647 : Int) from om_44 rg24⟩ (show (2147483647 - t21.toInt).toNat < n12 from om_33 hm12 zt21 rg24) _ _ _ hP hD hS (lv_sub hl [0, 1, 2, 3, 4, 5] rfl)
            · skip
              refine lv_iload hx hb dX11_ask_53 (lv_at hl 0 rfl) ?_
              refine lv_goto (tgt := 60) hx hb dX11_ask_55 rfl ?_
              refine lv_istore (lv' := [(4, .int l5_12), (5, .int l5_12), (3, .int r6), (0, .ref y0), (1, .int p1), (2, .int p2)]) hx hb dX11_ask_60 hl (Nat.le_of_ble_eq_true rfl) rfl (fun ls hl => ?_)
              obtain ⟨t27, et27⟩ : ∃ y : Int32, y = l5_12 + 1 := ⟨_, rfl⟩
              have zt27 : t27.toInt = l5_12.toInt + 1 := (congrArg Int32.toInt et27).trans (add_i rfl tc_1 (om_259 hr5_12) (om_257 zc13))
              refine lv_iinc (v := t27) (lv' := [(5, .int t27), (4, .int l5_12), (3, .int r6), (0, .ref y0), (1, .int p1), (2, .int p2)]) hx hb dX11_ask_62 hl (k := 1) rfl et27.symm (Nat.le_of_ble_eq_true rfl) rfl (fun ls hl => ?_)
              refine lv_goto (tgt := 29) hx hb dX11_ask_65 rfl ?_
              have rg29 := fb_rng t27
              exact ih12 l5_12 t27 ⟨show (0 : Int) ≤ l5_12.toInt from om_267 hr5_12, show l5_12.toInt ≤ (20 : Int) from om_768 zc13⟩ ⟨show (1 : Int) ≤ t27.toInt from om_260 hr5_12 zt27, show t27.toInt ≤ (2147483647 : Int) from om_44 rg29⟩ (show (2147483647 - t27.toInt).toNat < n12 from om_33 hm12 zt27 rg29) _ _ _ hP hD hS (lv_sub hl [0, 1, 2, 3, 4, 5] rfl)
      exact lp12 _ 0 1 ⟨by decide, by decide⟩ ⟨by decide, by decide⟩ (Nat.lt_succ_self _) _ _ _ hP hD hS (lv_sub hl [0, 1, 2, 3, 4, 5] rfl)
    · skip
      refine lv_iconst (v := (-1)) hx hb dX11_ask_21 rfl ?_
      exact ret (-1) (v7, f8, w9, g10) _ _ _ _ _ _ rfl ⟨hM_v7, hA_f8, hIv7, hCf8, hRf8, hk0_v7, hk1_v7, hk2_v7, hk3_v7, hk4_v7, hk5_v7, hk8_v7, hk9_v7, hk10_v7, hk13_v7, hk14_v7, hk15_v7, hk17_v7, hk18_v7, hk24_v7, hk25_v7, hk35_v7, hk36_v7, hk38_v7, hk39_v7⟩ hP hD hS dX11_ask_22 (Nat.le_refl _) (Nat.le_refl _)
  · skip
    subst g5
    refine lv_if_ne (tgt := 11) hx hb dX11_ask_6 rfl (fun c0 => absurd (by decide) c0) (fun _ => ?_)
    refine lv_iconst (v := (-1)) hx hb dX11_ask_9 rfl ?_
    exact ret (-1) (v, f, w, g) _ _ _ _ _ _ rfl ⟨hM_v, hA_f, hIv, hCf, hRf, rfl, rfl, rfl, rfl, rfl, rfl, rfl, rfl, rfl, rfl, rfl, rfl, rfl, rfl, rfl, rfl, rfl, rfl, rfl, rfl⟩ hP hD hS dX11_ask_10 (Nat.le_refl _) (Nat.le_refl _)
set_option maxHeartbeats 4000000 in
set_option maxRecDepth 100000 in
theorem sY_X11_about_1 (l : Launch) (dC : Nat → ClassId) (dI : Nat → Nat → Nat) (cy : Nat → ClassId) (y0 : Nat) (r : Nat → Nat) (p1 : Int32) (v : Nat → Int32) (f : Nat → Nat → Int32) (w : Int64) (g : Nat → Int64) (hIv : YI v) (hCf : YC f) (hRf : progOK (f 4) (f 5) (v 9).toInt.toNat)  : ctI l (dC, dI) cy yX11_about cX11_about 2 .int 1 60 0 0 Unit [.ref y0, .int p1] (YW cy y0 r v f w g) (fun r u => True) (fun u => YW cy y0 r v f w g) := by
  refine ctI_of (by decide) (Nat.le_of_ble_eq_true rfl) (fun p e s m below meth c A ls Q hx hb hml hts hown hE hP hD hA hl ret => ?_)
  have hUv : (v 35).toInt + (v 36).toInt ≤ 40 := hIv.2
  have hown : s.vm.findClass RX11 = some m.cls := hown
  have hS : va_S A s.heap s.heap [] := va_S.rf
  have hl : lv_has ls 2 [(0, .ref y0), (1, .int p1)] := hl
  refine lv_iload_n hx hb dX11_about_0 rfl (lv_at hl 1 rfl) ?_
  by_cases c1 : p1 = 0
  · skip
    refine lv_tableIn (off := 71) (tgt := 72) hx hb dX11_about_1 (by rw [c1]; decide) (by rw [c1]; decide) (by rw [c1]; decide) (by decide) ?_
    refine lv_aload_n hx hb dX11_about_72 rfl (lv_at hl 0 rfl) ?_
    refine va_get (D := (dC, dI)) (ci := 11) (v := .int (v 24)) (C := RX11) (T := TX11) (N := 79) hx hb hts inB_11 hown hE.1 hP 0 rfl rfl 48 (Nat.le_of_ble_eq_true rfl) (hts _ k_1368) (fun _ h9 => h9) rfl dX11_about_73 ?_
    exact ret (v 24) () _ _ _ _ _ _ rfl trivial hP hD hS dX11_about_76 (Nat.le_refl _) (Nat.le_refl _)
  · skip
    have zc1 : ¬ (p1.toInt = 0) := zEn rfl tc_0 c1
    by_cases c2 : p1 = 1
    · skip
      refine lv_tableIn (off := 76) (tgt := 77) hx hb dX11_about_1 (by rw [c2]; decide) (by rw [c2]; decide) (by rw [c2]; decide) (by decide) ?_
      refine lv_aload_n hx hb dX11_about_77 rfl (lv_at hl 0 rfl) ?_
      refine va_get (D := (dC, dI)) (ci := 11) (v := .int (v 25)) (C := RX11) (T := TX11) (N := 79) hx hb hts inB_11 hown hE.1 hP 0 rfl rfl 49 (Nat.le_of_ble_eq_true rfl) (hts _ k_1369) (fun _ h9 => h9) rfl dX11_about_78 ?_
      exact ret (v 25) () _ _ _ _ _ _ rfl trivial hP hD hS dX11_about_81 (Nat.le_refl _) (Nat.le_refl _)
    · skip
      have zc2 : ¬ (p1.toInt = 1) := zEn rfl tc_1 c2
      by_cases c3 : p1 = 2
      · skip
        refine lv_tableIn (off := 81) (tgt := 82) hx hb dX11_about_1 (by rw [c3]; decide) (by rw [c3]; decide) (by rw [c3]; decide) (by decide) ?_
        refine lv_aload_n hx hb dX11_about_82 rfl (lv_at hl 0 rfl) ?_
        refine va_get (D := (dC, dI)) (ci := 11) (v := .int (v 26)) (C := RX11) (T := TX11) (N := 79) hx hb hts inB_11 hown hE.1 hP 0 rfl rfl 50 (Nat.le_of_ble_eq_true rfl) (hts _ k_1370) (fun _ h9 => h9) rfl dX11_about_83 ?_
        exact ret (v 26) () _ _ _ _ _ _ rfl trivial hP hD hS dX11_about_86 (Nat.le_refl _) (Nat.le_refl _)
      · skip
        have zc3 : ¬ (p1.toInt = 2) := zEn rfl tc_2 c3
        by_cases c4 : p1 = 3
        · skip
          refine lv_tableIn (off := 86) (tgt := 87) hx hb dX11_about_1 (by rw [c4]; decide) (by rw [c4]; decide) (by rw [c4]; decide) (by decide) ?_
          refine lv_aload_n hx hb dX11_about_87 rfl (lv_at hl 0 rfl) ?_
          refine va_get (D := (dC, dI)) (ci := 11) (v := .int (v 27)) (C := RX11) (T := TX11) (N := 79) hx hb hts inB_11 hown hE.1 hP 0 rfl rfl 51 (Nat.le_of_ble_eq_true rfl) (hts _ k_1371) (fun _ h9 => h9) rfl dX11_about_88 ?_
          exact ret (v 27) () _ _ _ _ _ _ rfl trivial hP hD hS dX11_about_91 (Nat.le_refl _) (Nat.le_refl _)
        · skip
          have zc4 : ¬ (p1.toInt = 3) := zEn rfl tc_3 c4
          by_cases c5 : p1 = 4
          · skip
            refine lv_tableIn (off := 91) (tgt := 92) hx hb dX11_about_1 (by rw [c5]; decide) (by rw [c5]; decide) (by rw [c5]; decide) (by decide) ?_
            refine lv_aload_n hx hb dX11_about_92 rfl (lv_at hl 0 rfl) ?_
            refine va_get (D := (dC, dI)) (ci := 11) (v := .int (v 28)) (C := RX11) (T := TX11) (N := 79) hx hb hts inB_11 hown hE.1 hP 0 rfl rfl 52 (Nat.le_of_ble_eq_true rfl) (hts _ k_1372) (fun _ h9 => h9) rfl dX11_about_93 ?_
            exact ret (v 28) () _ _ _ _ _ _ rfl trivial hP hD hS dX11_about_96 (Nat.le_refl _) (Nat.le_refl _)
          · skip
            have zc5 : ¬ (p1.toInt = 4) := zEn rfl tc_4 c5
            by_cases c6 : p1 = 5
            · skip
              refine lv_tableIn (off := 96) (tgt := 97) hx hb dX11_about_1 (by rw [c6]; decide) (by rw [c6]; decide) (by rw [c6]; decide) (by decide) ?_
              refine lv_aload_n hx hb dX11_about_97 rfl (lv_at hl 0 rfl) ?_
              refine va_get (D := (dC, dI)) (ci := 11) (v := .ref (r 59)) (C := RX11) (T := TX11) (N := 79) hx hb hts inB_11 hown hE.1 hP 0 rfl rfl 59 (Nat.le_of_ble_eq_true rfl) (hts _ k_1379) (fun _ h9 => h9) rfl dX11_about_98 ?_
              refine lv_bipush (v := 37) hx hb dX11_about_101 rfl ?_
              refine ldI hx hb hE hP 24 rfl (vp_in_nI (n := 37) (by decide) (by decide)) rfl rfl dX11_about_103 ?_
              refine lv_topi (fun t7 et7 => ?_)
              exact ret t7 () _ _ _ _ _ _ rfl trivial hP hD hS dX11_about_104 (Nat.le_refl _) (Nat.le_refl _)
            · skip
              have zc6 : ¬ (p1.toInt = 5) := zEn rfl tc_5 c6
              by_cases c8 : p1 = 6
              · skip
                refine lv_tableIn (off := 104) (tgt := 105) hx hb dX11_about_1 (by rw [c8]; decide) (by rw [c8]; decide) (by rw [c8]; decide) (by decide) ?_
                refine lv_aload_n hx hb dX11_about_105 rfl (lv_at hl 0 rfl) ?_
                refine va_get (D := (dC, dI)) (ci := 11) (v := .ref (r 59)) (C := RX11) (T := TX11) (N := 79) hx hb hts inB_11 hown hE.1 hP 0 rfl rfl 59 (Nat.le_of_ble_eq_true rfl) (hts _ k_1379) (fun _ h9 => h9) rfl dX11_about_106 ?_
                refine lv_bipush (v := 38) hx hb dX11_about_109 rfl ?_
                refine ldI hx hb hE hP 24 rfl (vp_in_nI (n := 38) (by decide) (by decide)) rfl rfl dX11_about_111 ?_
                refine lv_topi (fun t9 et9 => ?_)
                exact ret t9 () _ _ _ _ _ _ rfl trivial hP hD hS dX11_about_112 (Nat.le_refl _) (Nat.le_refl _)
              · skip
                have zc8 : ¬ (p1.toInt = 6) := zEn rfl tc_6 c8
                by_cases c10 : p1 = 7
                · skip
                  refine lv_tableIn (off := 112) (tgt := 113) hx hb dX11_about_1 (by rw [c10]; decide) (by rw [c10]; decide) (by rw [c10]; decide) (by decide) ?_
                  refine lv_aload_n hx hb dX11_about_113 rfl (lv_at hl 0 rfl) ?_
                  refine va_get (D := (dC, dI)) (ci := 11) (v := .int (v 35)) (C := RX11) (T := TX11) (N := 79) hx hb hts inB_11 hown hE.1 hP 0 rfl rfl 62 (Nat.le_of_ble_eq_true rfl) (hts _ k_1382) (fun _ h9 => h9) rfl dX11_about_114 ?_
                  exact ret (v 35) () _ _ _ _ _ _ rfl trivial hP hD hS dX11_about_117 (Nat.le_refl _) (Nat.le_refl _)
                · skip
                  have zc10 : ¬ (p1.toInt = 7) := zEn rfl tc_7 c10
                  by_cases c11 : p1 = 8
                  · skip
                    refine lv_tableIn (off := 117) (tgt := 118) hx hb dX11_about_1 (by rw [c11]; decide) (by rw [c11]; decide) (by rw [c11]; decide) (by decide) ?_
                    refine lv_aload_n hx hb dX11_about_118 rfl (lv_at hl 0 rfl) ?_
                    refine va_get (D := (dC, dI)) (ci := 11) (v := .int (v 36)) (C := RX11) (T := TX11) (N := 79) hx hb hts inB_11 hown hE.1 hP 0 rfl rfl 63 (Nat.le_of_ble_eq_true rfl) (hts _ k_1383) (fun _ h9 => h9) rfl dX11_about_119 ?_
                    exact ret (v 36) () _ _ _ _ _ _ rfl trivial hP hD hS dX11_about_122 (Nat.le_refl _) (Nat.le_refl _)
                  · skip
                    have zc11 : ¬ (p1.toInt = 8) := zEn rfl tc_8 c11
                    by_cases c12 : p1 = 9
                    · skip
                      refine lv_tableIn (off := 122) (tgt := 123) hx hb dX11_about_1 (by rw [c12]; decide) (by rw [c12]; decide) (by rw [c12]; decide) (by decide) ?_
                      refine lv_aload_n hx hb dX11_about_123 rfl (lv_at hl 0 rfl) ?_
                      refine va_get (D := (dC, dI)) (ci := 11) (v := .int (v 38)) (C := RX11) (T := TX11) (N := 79) hx hb hts inB_11 hown hE.1 hP 0 rfl rfl 73 (Nat.le_of_ble_eq_true rfl) (hts _ k_1393) (fun _ h9 => h9) rfl dX11_about_124 ?_
                      exact ret (v 38) () _ _ _ _ _ _ rfl trivial hP hD hS dX11_about_127 (Nat.le_refl _) (Nat.le_refl _)
                    · skip
                      have zc12 : ¬ (p1.toInt = 9) := zEn rfl tc_9 c12
                      by_cases c13 : p1 = 10
                      · skip
                        refine lv_tableIn (off := 127) (tgt := 128) hx hb dX11_about_1 (by rw [c13]; decide) (by rw [c13]; decide) (by rw [c13]; decide) (by decide) ?_
                        refine lv_aload_n hx hb dX11_about_128 rfl (lv_at hl 0 rfl) ?_
                        refine va_get (D := (dC, dI)) (ci := 11) (v := .int (v 39)) (C := RX11) (T := TX11) (N := 79) hx hb hts inB_11 hown hE.1 hP 0 rfl rfl 74 (Nat.le_of_ble_eq_true rfl) (hts _ k_1394) (fun _ h9 => h9) rfl dX11_about_129 ?_
                        exact ret (v 39) () _ _ _ _ _ _ rfl trivial hP hD hS dX11_about_132 (Nat.le_refl _) (Nat.le_refl _)
                      · skip
                        have zc13 : ¬ (p1.toInt = 10) := zEn rfl tc_10 c13
                        by_cases c14 : p1 = 11
                        · skip
                          refine lv_tableIn (off := 132) (tgt := 133) hx hb dX11_about_1 (by rw [c14]; decide) (by rw [c14]; decide) (by rw [c14]; decide) (by decide) ?_
                          refine lv_aload_n hx hb dX11_about_133 rfl (lv_at hl 0 rfl) ?_
                          refine va_get (D := (dC, dI)) (ci := 11) (v := .int (v 0)) (C := RX11) (T := TX11) (N := 79) hx hb hts inB_11 hown hE.1 hP 0 rfl rfl 1 (Nat.le_of_ble_eq_true rfl) (hts _ k_1321) (fun _ h9 => h9) rfl dX11_about_134 ?_
                          exact ret (v 0) () _ _ _ _ _ _ rfl trivial hP hD hS dX11_about_137 (Nat.le_refl _) (Nat.le_refl _)
                        · skip
                          have zc14 : ¬ (p1.toInt = 11) := zEn rfl tc_11 c14
                          by_cases c15 : p1 = 12
                          · skip
                            refine lv_tableIn (off := 137) (tgt := 138) hx hb dX11_about_1 (by rw [c15]; decide) (by rw [c15]; decide) (by rw [c15]; decide) (by decide) ?_
                            refine lv_aload_n hx hb dX11_about_138 rfl (lv_at hl 0 rfl) ?_
                            refine va_get (D := (dC, dI)) (ci := 11) (v := .int (v 12)) (C := RX11) (T := TX11) (N := 79) hx hb hts inB_11 hown hE.1 hP 0 rfl rfl 21 (Nat.le_of_ble_eq_true rfl) (hts _ k_1341) (fun _ h9 => h9) rfl dX11_about_139 ?_
                            exact ret (v 12) () _ _ _ _ _ _ rfl trivial hP hD hS dX11_about_142 (Nat.le_refl _) (Nat.le_refl _)
                          · skip
                            have zc15 : ¬ (p1.toInt = 12) := zEn rfl tc_12 c15
                            by_cases c16 : p1 = 13
                            · skip
                              refine lv_tableIn (off := 142) (tgt := 143) hx hb dX11_about_1 (by rw [c16]; decide) (by rw [c16]; decide) (by rw [c16]; decide) (by decide) ?_
                              refine lv_aload_n hx hb dX11_about_143 rfl (lv_at hl 0 rfl) ?_
                              refine va_get (D := (dC, dI)) (ci := 11) (v := .int (v 37)) (C := RX11) (T := TX11) (N := 79) hx hb hts inB_11 hown hE.1 hP 0 rfl rfl 67 (Nat.le_of_ble_eq_true rfl) (hts _ k_1387) (fun _ h9 => h9) rfl dX11_about_144 ?_
                              exact ret (v 37) () _ _ _ _ _ _ rfl trivial hP hD hS dX11_about_147 (Nat.le_refl _) (Nat.le_refl _)
                            · skip
                              have zc16 : ¬ (p1.toInt = 13) := zEn rfl tc_13 c16
                              refine lv_tableOut (tgt := 148) hx hb dX11_about_1 (by omega) (by decide) ?_
                              refine lv_iconst (v := (-1)) hx hb dX11_about_148 rfl ?_
                              exact ret (-1) () _ _ _ _ _ _ rfl trivial hP hD hS dX11_about_149 (Nat.le_refl _) (Nat.le_refl _)
