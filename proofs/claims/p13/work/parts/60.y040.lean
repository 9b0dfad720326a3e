set_option maxHeartbeats 4000000 in
set_option maxRecDepth 100000 in
theorem sY_X11_front_1 (l : Launch) (dC : Nat → ClassId) (dI : Nat → Nat → Nat) (cy : Nat → ClassId) (y0 : Nat) (r : Nat → Nat) (p1 : Int32) (p2 : Int32) (v : Nat → Int32) (f : Nat → Nat → Int32) (w : Int64) (g : Nat → Int64) (hIv : YI v) (hCf : YC f) (hRf : progOK (f 4) (f 5) (v 9).toInt.toNat)  : ctI l (dC, dI) cy yX11_front cX11_front 6 .int 3 102 0 0 ((Nat → Int32) × (Nat → Nat → Int32) × (Int64) × (Nat → Int64)) [.ref y0, .int p1, .int p2] (YW cy y0 r v f w g) (fun r u => KV [] u.1 v ∧ KF [24] u.2.1 f ∧ YI u.1 ∧ YC u.2.1 ∧ progOK (u.2.1 4) (u.2.1 5) (u.1 9).toInt.toNat ∧ u.1 0 = v 0 ∧ u.1 1 = v 1 ∧ u.1 2 = v 2 ∧ u.1 3 = v 3 ∧ u.1 4 = v 4 ∧ u.1 5 = v 5 ∧ u.1 8 = v 8 ∧ u.1 9 = v 9 ∧ u.1 10 = v 10 ∧ u.1 13 = v 13 ∧ u.1 14 = v 14 ∧ u.1 15 = v 15 ∧ u.1 17 = v 17 ∧ u.1 18 = v 18 ∧ u.1 24 = v 24 ∧ u.1 25 = v 25 ∧ u.1 35 = v 35 ∧ u.1 36 = v 36 ∧ u.1 38 = v 38 ∧ u.1 39 = v 39) (fun u => YW cy y0 r u.1 u.2.1 u.2.2.1 u.2.2.2) := by
  refine ctI_of (by decide) (Nat.le_of_ble_eq_true rfl) (fun p e s m below meth c A ls Q hx hb hml hts hown hE hP hD hA hl ret => ?_)
  have hUv : (v 35).toInt + (v 36).toInt ≤ 40 := hIv.2
  have hM_v : KV [] v v := fun _ _ => rfl
  have hA_f : KF [24] f f := fun _ _ => rfl
  have hown : s.vm.findClass RX11 = some m.cls := hown
  have hS : va_S A s.heap s.heap [] := va_S.rf
  have hl : lv_has ls 6 [(0, .ref y0), (1, .int p1), (2, .int p2)] := hl
  refine lv_iload_n hx hb dX11_front_0 rfl (lv_at hl 1 rfl) ?_
  refine lv_iconst (v := 0) hx hb dX11_front_1 (by decide) ?_
  refine lv_sipush (v := 999) hx hb dX11_front_2 (by decide) ?_
  have lt1 : (0 : Int32).toInt = 0 := by decide
  have lt2 : (999 : Int32).toInt = 999 := by decide
  refine cbSi (n := 3) (rest := []) hx hb hml hown hts hE hP hD hS hA (sY_X11_isIn_1 0 l dC dI cy y0 r p1 0 999 v f w g hIv hCf hRf ) k_1736 k_1737 k_114 k_1738 (by decide +kernel) ⟨Nat.le_of_ble_eq_true rfl, Nat.le_of_ble_eq_true rfl⟩ (rfl) hl.1 rfl (Nat.le_of_ble_eq_true rfl) dX11_front_5 (fun r3 u H locs hw hP hD hS => ?_)
  obtain ⟨hG4, hw⟩ := hw
  rcases hw with ⟨g5, g5_0, g5_1⟩ | ⟨g5⟩
  · skip
    subst g5
    refine lv_if_eq (tgt := 20) hx hb dX11_front_8 (by decide) (fun c0 => absurd c0 (by decide)) (fun _ => ?_)
    refine lv_iload_n hx hb dX11_front_11 rfl (lv_at hl 2 rfl) ?_
    refine lv_iconst (v := 0) hx hb dX11_front_12 (by decide) ?_
    refine lv_iconst (v := 1) hx hb dX11_front_13 (by decide) ?_
    have lt6 : (1 : Int32).toInt = 1 := by decide
    refine cbSi (n := 3) (rest := []) hx hb hml hown hts hE hP hD hS hA (sY_X11_isIn_1 0 l dC dI cy y0 r p2 0 1 v f w g hIv hCf hRf ) k_1736 k_1737 k_114 k_1738 (by decide +kernel) ⟨Nat.le_of_ble_eq_true rfl, Nat.le_of_ble_eq_true rfl⟩ (rfl) hl.1 rfl (Nat.le_of_ble_eq_true rfl) dX11_front_14 (fun r7 u H locs hw hP hD hS => ?_)
    obtain ⟨hG8, hw⟩ := hw
    rcases hw with ⟨g9, g9_0, g9_1⟩ | ⟨g9⟩
    · skip
      subst g9
      refine lv_if_ne (tgt := 22) hx hb dX11_front_17 (by decide) (fun _ => ?_) (fun c0 => absurd c0 (by decide))
      refine lv_aload_n hx hb dX11_front_22 rfl (lv_at hl 0 rfl) ?_
      refine cbVv (n := 0) (rest := []) hx hb hml hown hts hE hP hD hS hA (sY_X11_fill_1 0 l dC dI cy y0 r  v f w g hIv hCf hRf ) k_1739 k_1741 k_71 k_114 k_1742 (by decide +kernel) ⟨Nat.le_of_ble_eq_true rfl, Nat.le_of_ble_eq_true rfl⟩ 0 11 rfl rfl (rfl) hl.1 rfl (Nat.le_of_ble_eq_true rfl) dX11_front_23 (fun u H locs hw hP hD hS => ?_)
      obtain ⟨hG10, hw⟩ := hw
      obtain ⟨v11, f12, w13, g14⟩ := u
      obtain ⟨kV_v11, kF_f12, hIv11, hCf12, hRf12, hk0_v11, hk1_v11, hk2_v11, hk3_v11, hk4_v11, hk5_v11, hk8_v11, hk9_v11, hk10_v11, hk13_v11, hk14_v11, hk15_v11, hk17_v11, hk18_v11, hk24_v11, hk25_v11, hk35_v11, hk36_v11, hk38_v11, hk39_v11⟩ := hw
      have hM_v11 : KV [] v11 v := KV.tr kV_v11 hM_v rfl
      have hA_f12 : KF [24] f12 f := KF.tr kF_f12 hA_f rfl
      have hP : va_P (dC, dI) vwCl (YW cy y0 r v11 f12 w13 g14) H := hP
      have hD : va_D A (YW cy y0 r v11 f12 w13 g14) := hD
      have hUv11 : (v11 35).toInt + (v11 36).toInt ≤ 40 := hIv11.2
      have hq9_v11 : v11 9 = (v 9) := hk9_v11
      have zq9_v11 := congrArg Int32.toInt hq9_v11
      refine lv_aload_n hx hb dX11_front_26 rfl (lv_at hl 0 rfl) ?_
      refine cbVi (n := 0) (rest := []) hx hb hml hown hts hE hP hD hS hA (sY_X11_wearers_1 0 l dC dI cy y0 r  v11 f12 w13 g14 hIv11 hCf12 hRf12 ) k_1805 k_1807 k_80 k_114 k_1808 (by decide +kernel) ⟨Nat.le_of_ble_eq_true rfl, Nat.le_of_ble_eq_true rfl⟩ 0 11 rfl rfl (rfl) hl.1 rfl (Nat.le_of_ble_eq_true rfl) dX11_front_27 (fun r15 u H locs hw hP hD hS => ?_)
      obtain ⟨hG16, hw⟩ := hw
      refine lv_istore_n (lv' := [(3, .int r15), (0, .ref y0), (1, .int p1), (2, .int p2)]) hx hb dX11_front_30 rfl hl (by decide) rfl (fun ls hl => ?_)
      refine lv_iconst (v := (-1)) hx hb dX11_front_31 (by decide) ?_
      refine lv_istore (lv' := [(4, .int (-1)), (3, .int r15), (0, .ref y0), (1, .int p1), (2, .int p2)]) hx hb dX11_front_32 hl (by decide) rfl (fun ls hl => ?_)
      refine lv_iconst (v := 0) hx hb dX11_front_34 (by decide) ?_
      refine lv_istore (lv' := [(5, .int 0), (4, .int (-1)), (3, .int r15), (0, .ref y0), (1, .int p1), (2, .int p2)]) hx hb dX11_front_35 hl (by decide) rfl (fun ls hl => ?_)
      have lp17 : ∀ (n17 : Nat) (l4_17 : Int32) (l5_17 : Int32), ((0 : Int) ≤ l5_17.toInt ∧ l5_17.toInt ≤ 2147483647) → (2147483647 - l5_17.toInt).toNat < n17 → ∀ (H : Heap) (locs : List Loc) (ls : Array Slot), va_P (dC, dI) vwCl (YW cy y0 r v11 f12 w13 g14) H → va_D A (YW cy y0 r v11 f12 w13 g14) → va_S A s.heap H locs → lv_has ls 6 [(5, .int l5_17), (4, .int l4_17), (3, .int r15), (0, .ref y0), (1, .int p1), (2, .int p2)] → W p l e { frames := 3, cells := 0, slots := 0, locals := 102 } s m ([.ref y0, .int p1, .int p2] : List Value).toArray below meth c H locs 0 0 Q (F0 m 37 ls []) := by
        intro n17
        induction n17 with
        | zero => intro l4_17 l5_17 hr5_17 hm; exact absurd hm (Nat.not_lt_zero _)
        | succ n17 ih17 =>
          intro l4_17 l5_17 hr5_17 hm17 H locs ls hP hD hS hl
          refine lv_iload hx hb dX11_front_37 (lv_at hl 0 rfl) ?_
          refine lv_iload_n hx hb dX11_front_39 rfl (lv_at hl 2 rfl) ?_
          refine lv_icmp_gt (tgt := 90) hx hb dX11_front_40 (by decide) (fun c18 => ?_) (fun c18 => ?_)
          · skip
            have zc18 : r15.toInt < l5_17.toInt := by rw [fa_lt] at c18; exact c18
            have rg19 := fb_rng l5_17
            have rg20 := fb_rng r15
            refine lv_iload hx hb dX11_front_90 (lv_at hl 1 rfl) ?_
            refine lv_if_ge (tgt := 99) hx hb dX11_front_92 (by decide) (fun c21 => ?_) (fun c21 => ?_)
            · skip
              have zc21 : 0 ≤ l4_17.toInt := by rw [fa_le, show (0 : Int32).toInt = 0 from by decide] at c21; exact c21
              refine lv_iload_n hx hb dX11_front_99 rfl (lv_at hl 5 rfl) ?_
              refine lv_if_ne (tgt := 111) hx hb dX11_front_100 (by decide) (fun c22 => ?_) (fun c22 => ?_)
              · skip
                have zc22 : ¬ (p2.toInt = 0) := by rw [fa_eq, show (0 : Int32).toInt = 0 from by decide] at c22; exact c22
                refine lv_iload hx hb dX11_front_111 (lv_at hl 1 rfl) ?_
                exact ret l4_17 (v11, f12, w13, g14) _ _ _ _ _ _ rfl ⟨hM_v11, hA_f12, hIv11, hCf12, hRf12, hk0_v11, hk1_v11, hk2_v11, hk3_v11, hk4_v11, hk5_v11, hk8_v11, hk9_v11, hk10_v11, hk13_v11, hk14_v11, hk15_v11, hk17_v11, hk18_v11, hk24_v11, hk25_v11, hk35_v11, hk36_v11, hk38_v11, hk39_v11⟩ hP hD hS dX11_front_113 (Nat.le_refl _) (Nat.le_refl _)
              · skip
                have zc22 : p2.toInt = 0 := by rw [fa_eq, show (0 : Int32).toInt = 0 from by decide] at c22; exact c22
                refine lv_iload hx hb dX11_front_103 (lv_at hl 1 rfl) ?_
                refine cbSi (n := 1) (rest := []) hx hb hml hown hts hE hP hD hS hA (sY_X11_members_1 l dC dI cy y0 r l4_17 v11 f12 w13 g14 hIv11 hCf12 hRf12 ) k_1900 k_1901 k_114 k_1902 (by decide +kernel) ⟨Nat.le_of_ble_eq_true rfl, Nat.le_of_ble_eq_true rfl⟩ (rfl) hl.1 rfl (Nat.le_of_ble_eq_true rfl) dX11_front_105 (fun r23 u H locs hw hP hD hS => ?_)
                refine lv_goto (tgt := 113) hx hb dX11_front_108 (by decide) ?_
                exact ret r23 (v11, f12, w13, g14) _ _ _ _ _ _ rfl ⟨hM_v11, hA_f12, hIv11, hCf12, hRf12, hk0_v11, hk1_v11, hk2_v11, hk3_v11, hk4_v11, hk5_v11, hk8_v11, hk9_v11, hk10_v11, hk13_v11, hk14_v11, hk15_v11, hk17_v11, hk18_v11, hk24_v11, hk25_v11, hk35_v11, hk36_v11, hk38_v11, hk39_v11⟩ hP hD hS dX11_front_113 (Nat.le_refl _) (Nat.le_refl _)
            · skip
              have zc21 : ¬ (0 ≤ l4_17.toInt) := by rw [fa_le, show (0 : Int32).toInt = 0 from by decide] at c21; exact c21
              refine lv_iconst (v := (-1)) hx hb dX11_front_95 (by decide) ?_
              refine lv_goto (tgt := 113) hx hb dX11_front_96 (by decide) ?_
              exact ret (-1) (v11, f12, w13, g14) _ _ _ _ _ _ rfl ⟨hM_v11, hA_f12, hIv11, hCf12, hRf12, hk0_v11, hk1_v11, hk2_v11, hk3_v11, hk4_v11, hk5_v11, hk8_v11, hk9_v11, hk10_v11, hk13_v11, hk14_v11, hk15_v11, hk17_v11, hk18_v11, hk24_v11, hk25_v11, hk35_v11, hk36_v11, hk38_v11, hk39_v11⟩ hP hD hS dX11_front_113 (Nat.le_refl _) (Nat.le_refl _)
          · skip
            have zc18 : ¬ (r15.toInt < l5_17.toInt) := by rw [fa_lt] at c18; exact c18
            have rg24 := fb_rng l5_17
            have rg25 := fb_rng r15
            refine lv_iload hx hb dX11_front_43 (lv_at hl 0 rfl) ?_
            refine lv_iload_n hx hb dX11_front_45 rfl (lv_at hl 2 rfl) ?_
            refine lv_iconst (v := (-1)) hx hb dX11_front_46 (by decide) ?_
            refine lv_ixor hx hb dX11_front_47 ?_
            refine lv_topi (fun t26 et26 => ?_)
            refine lv_iand hx hb dX11_front_48 ?_
            refine lv_topi (fun t27 et27 => ?_)
            have zt27 : 0 ≤ t27.toInt ∧ t27.toInt ≤ 63 := by rw [et27]; exact and_left (by omega) (by omega)
            refine lv_if_ne (tgt := 84) hx hb dX11_front_49 (by decide) (fun c28 => ?_) (fun c28 => ?_)
            · skip
              have zc28 : ¬ (t27.toInt = 0) := by rw [fa_eq, show (0 : Int32).toInt = 0 from by decide] at c28; exact c28
              obtain ⟨t29, et29⟩ : ∃ y : Int32, y = l5_17 + 1 := ⟨_, rfl⟩
              have zt29 : t29.toInt = l5_17.toInt + 1 := by rw [et29]; exact add_i rfl (by decide) (by omega) (by omega)
              refine lv_iinc (v := t29) (lv' := [(5, .int t29), (4, .int l4_17), (3, .int r15), (0, .ref y0), (1, .int p1), (2, .int p2)]) hx hb dX11_front_84 hl (k := 0) rfl (by rw [et29]; rfl) (by decide) rfl (fun ls hl => ?_)
              refine lv_goto (tgt := 37) hx hb dX11_front_87 (by decide) ?_
              have rg30 := fb_rng t29
              exact ih17 l4_17 t29 ⟨show (0 : Int) ≤ t29.toInt by omega, show t29.toInt ≤ (2147483647 : Int) by omega⟩ (by show (2147483647 - t29.toInt).toNat < n17; omega) _ _ _ hP hD hS (lv_sub hl [0, 1, 2, 3, 4, 5] rfl)
            · skip
              have zc28 : t27.toInt = 0 := by rw [fa_eq, show (0 : Int32).toInt = 0 from by decide] at c28; exact c28
              refine lv_aload_n hx hb dX11_front_52 rfl (lv_at hl 3 rfl) ?_
              refine lv_iload hx hb dX11_front_53 (lv_at hl 0 rfl) ?_
              refine cbVi (n := 1) (rest := []) hx hb hml hown hts hE hP hD hS hA (sY_X11_wideOf_1 l dC dI cy y0 r l5_17 v11 f12 w13 g14 hIv11 hCf12 hRf12 ) k_1912 k_1914 k_88 k_114 k_1915 (by decide +kernel) ⟨Nat.le_of_ble_eq_true rfl, Nat.le_of_ble_eq_true rfl⟩ 0 11 rfl rfl (rfl) hl.1 rfl (Nat.le_of_ble_eq_true rfl) dX11_front_55 (fun r31 u H locs hw hP hD hS => ?_)
              refine lv_iload_n hx hb dX11_front_58 rfl (lv_at hl 4 rfl) ?_
              refine lv_icmp_lt (tgt := 84) hx hb dX11_front_59 (by decide) (fun c32 => ?_) (fun c32 => ?_)
              · skip
                have zc32 : r31.toInt < p1.toInt := by rw [fa_lt] at c32; exact c32
                have rg33 := fb_rng r31
                have rg34 := fb_rng p1
                obtain ⟨t35, et35⟩ : ∃ y : Int32, y = l5_17 + 1 := ⟨_, rfl⟩
                have zt35 : t35.toInt = l5_17.toInt + 1 := by rw [et35]; exact add_i rfl (by decide) (by omega) (by omega)
                refine lv_iinc (v := t35) (lv' := [(5, .int t35), (4, .int l4_17), (3, .int r15), (0, .ref y0), (1, .int p1), (2, .int p2)]) hx hb dX11_front_84 hl (k := 0) rfl (by rw [et35]; rfl) (by decide) rfl (fun ls hl => ?_)
                refine lv_goto (tgt := 37) hx hb dX11_front_87 (by decide) ?_
                have rg36 := fb_rng t35
                exact ih17 l4_17 t35 ⟨show (0 : Int) ≤ t35.toInt by omega, show t35.toInt ≤ (2147483647 : Int) by omega⟩ (by show (2147483647 - t35.toInt).toNat < n17; omega) _ _ _ hP hD hS (lv_sub hl [0, 1, 2, 3, 4, 5] rfl)
              · skip
                have zc32 : ¬ (r31.toInt < p1.toInt) := by rw [fa_lt] at c32; exact c32
                have rg37 := fb_rng r31
                have rg38 := fb_rng p1
                refine lv_iload hx hb dX11_front_62 (lv_at hl 1 rfl) ?_
                refine lv_if_lt (tgt := 80) hx hb dX11_front_64 (by decide) (fun c39 => ?_) (fun c39 => ?_)
                · skip
                  have zc39 : l4_17.toInt < 0 := by rw [fa_lt, show (0 : Int32).toInt = 0 from by decide] at c39; exact c39
                  refine lv_iload hx hb dX11_front_80 (lv_at hl 0 rfl) ?_
                  refine lv_istore (lv' := [(4, .int l5_17), (5, .int l5_17), (3, .int r15), (0, .ref y0), (1, .int p1), (2, .int p2)]) hx hb dX11_front_82 hl (by decide) rfl (fun ls hl => ?_)
                  obtain ⟨t40, et40⟩ : ∃ y : Int32, y = l5_17 + 1 := ⟨_, rfl⟩
                  have zt40 : t40.toInt = l5_17.toInt + 1 := by rw [et40]; exact add_i rfl (by decide) (by omega) (by omega)
                  refine lv_iinc (v := t40) (lv' := [(5, .int t40), (4, .int l5_17), (3, .int r15), (0, .ref y0), (1, .int p1), (2, .int p2)]) hx hb dX11_front_84 hl (k := 1) rfl (by rw [et40]; rfl) (by decide) rfl (fun ls hl => ?_)
                  refine lv_goto (tgt := 37) hx hb dX11_front_87 (by decide) ?_
                  have rg41 := fb_rng t40
                  exact ih17 l5_17 t40 ⟨show (0 : Int) ≤ t40.toInt by omega, show t40.toInt ≤ (2147483647 : Int) by omega⟩ (by show (2147483647 - t40.toInt).toNat < n17; omega) _ _ _ hP hD hS (lv_sub hl [0, 1, 2, 3, 4, 5] rfl)
                · skip
                  have zc39 : ¬ (l4_17.toInt < 0) := by rw [fa_lt, show (0 : Int32).toInt = 0 from by decide] at c39; exact c39
                  refine lv_iload hx hb dX11_front_67 (lv_at hl 0 rfl) ?_
                  refine cbSi (n := 1) (rest := []) hx hb hml hown hts hE hP hD hS hA (sY_X11_members_1 l dC dI cy y0 r l5_17 v11 f12 w13 g14 hIv11 hCf12 hRf12 ) k_1900 k_1901 k_114 k_1902 (by decide +kernel) ⟨Nat.le_of_ble_eq_true rfl, Nat.le_of_ble_eq_true rfl⟩ (rfl) hl.1 rfl (Nat.le_of_ble_eq_true rfl) dX11_front_69 (fun r42 u H locs hw hP hD hS => ?_)
                  refine lv_iload hx hb dX11_front_72 (lv_at hl 1 rfl) ?_
                  refine cbSi (n := 1) (rest := [.int r42]) hx hb hml hown hts hE hP hD hS hA (sY_X11_members_1 l dC dI cy y0 r l4_17 v11 f12 w13 g14 hIv11 hCf12 hRf12 ) k_1900 k_1901 k_114 k_1902 (by decide +kernel) ⟨Nat.le_of_ble_eq_true rfl, Nat.le_of_ble_eq_true rfl⟩ (rfl) hl.1 rfl (Nat.le_of_ble_eq_true rfl) dX11_front_74 (fun r43 u H locs hw hP hD hS => ?_)
                  refine lv_icmp_ge (tgt := 84) hx hb dX11_front_77 (by decide) (fun c44 => ?_) (fun c44 => ?_)
                  · skip
                    have zc44 : r43.toInt ≤ r42.toInt := by rw [fa_le] at c44; exact c44
                    have rg45 := fb_rng r42
                    have rg46 := fb_rng r43
                    obtain ⟨t47, et47⟩ : ∃ y : Int32, y = l5_17 + 1 := ⟨_, rfl⟩
                    have zt47 : t47.toInt = l5_17.toInt + 1 := by rw [et47]; exact add_i rfl (by decide) (by omega) (by omega)
                    refine lv_iinc (v := t47) (lv' := [(5, .int t47), (4, .int l4_17), (3, .int r15), (0, .ref y0), (1, .int p1), (2, .int p2)]) hx hb dX11_front_84 hl (k := 0) rfl (by rw [et47]; rfl) (by decide) rfl (fun ls hl => ?_)
                    refine lv_goto (tgt := 37) hx hb dX11_front_87 (by decide) ?_
                    have rg48 := fb_rng t47
                    exact ih17 l4_17 t47 ⟨show (0 : Int) ≤ t47.toInt by omega, show t47.toInt ≤ (2147483647 : Int) by omega⟩ (by show (2147483647 - t47.toInt).toNat < n17; omega) _ _ _ hP hD hS (lv_sub hl [0, 1, 2, 3, 4, 5] rfl)
                  · skip
                    have zc44 : ¬ (r43.toInt ≤ r42.toInt) := by rw [fa_le] at c44; exact c44
                    have rg49 := fb_rng r42
                    have rg50 := fb_rng r43
                    refine lv_iload hx hb dX11_front_80 (lv_at hl 0 rfl) ?_
                    refine lv_istore (lv' := [(4, .int l5_17), (5, .int l5_17), (3, .int r15), (0, .ref y0), (1, .int p1), (2, .int p2)]) hx hb dX11_front_82 hl (by decide) rfl (fun ls hl => ?_)
                    obtain ⟨t51, et51⟩ : ∃ y : Int32, y = l5_17 + 1 := ⟨_, rfl⟩
                    have zt51 : t51.toInt = l5_17.toInt + 1 := by rw [et51]; exact add_i rfl (by decide) (by omega) (by omega)
                    refine lv_iinc (v := t51) (lv' := [(5, .int t51), (4, .int l5_17), (3, .int r15), (0, .ref y0), (1, .int p1), (2, .int p2)]) hx hb dX11_front_84 hl (k := 1) rfl (by rw [et51]; rfl) (by decide) rfl (fun ls hl => ?_)
                    refine lv_goto (tgt := 37) hx hb dX11_front_87 (by decide) ?_
                    have rg52 := fb_rng t51
                    exact ih17 l5_17 t51 ⟨show (0 : Int) ≤ t51.toInt by omega, show t51.toInt ≤ (2147483647 : Int) by omega⟩ (by show (2147483647 - t51.toInt).toNat < n17; omega) _ _ _ hP hD hS (lv_sub hl [0, 1, 2, 3, 4, 5] rfl)
      exact lp17 _ (-1) 0 ⟨by decide, by decide⟩ (Nat.lt_succ_self _) _ _ _ hP hD hS (lv_sub hl [0, 1, 2, 3, 4, 5] rfl)
    · skip
      subst g9
      refine lv_if_ne (tgt := 22) hx hb dX11_front_17 (by decide) (fun c0 => absurd (by decide) c0) (fun _ => ?_)
      refine lv_iconst (v := (-1)) hx hb dX11_front_20 (by decide) ?_
      exact ret (-1) (v, f, w, g) _ _ _ _ _ _ rfl ⟨hM_v, hA_f, hIv, hCf, hRf, rfl, rfl, rfl, rfl, rfl, rfl, rfl, rfl, rfl, rfl, rfl, rfl, rfl, rfl, rfl, rfl, rfl, rfl, rfl, rfl⟩ hP hD hS dX11_front_21 (Nat.le_refl _) (Nat.le_refl _)
  · skip
    subst g5
    refine lv_if_eq (tgt := 20) hx hb dX11_front_8 (by decide) (fun _ => ?_) (fun c0 => absurd (by decide) c0)
    refine lv_iconst (v := (-1)) hx hb dX11_front_20 (by decide) ?_
    exact ret (-1) (v, f, w, g) _ _ _ _ _ _ rfl ⟨hM_v, hA_f, hIv, hCf, hRf, rfl, rfl, rfl, rfl, rfl, rfl, rfl, rfl, rfl, rfl, rfl, rfl, rfl, rfl, rfl, rfl, rfl, rfl, rfl, rfl⟩ hP hD hS dX11_front_21 (Nat.le_refl _) (Nat.le_refl _)
set_option maxHeartbeats 4000000 in
set_option maxRecDepth 100000 in
theorem sY_X11_plain_1 (l : Launch) (dC : Nat → ClassId) (dI : Nat → Nat → Nat) (cy : Nat → ClassId) (y0 : Nat) (r : Nat → Nat) (p0 : Int32) (v : Nat → Int32) (f : Nat → Nat → Int32) (w : Int64) (g : Nat → Int64) (hIv : YI v) (hCf : YC f) (hRf : progOK (f 4) (f 5) (v 9).toInt.toNat)  : ctI l (dC, dI) cy yX11_plain cX11_plain 1 .int 1 60 0 0 Unit [.int p0] (YW cy y0 r v f w g) (fun r u => True) (fun u => YW cy y0 r v f w g) := by
  refine ctI_of (by decide) (Nat.le_of_ble_eq_true rfl) (fun p e s m below meth c A ls Q hx hb hml hts hown hE hP hD hA hl ret => ?_)
  have hUv : (v 35).toInt + (v 36).toInt ≤ 40 := hIv.2
  have hown : s.vm.findClass RX11 = some m.cls := hown
  have hS : va_S A s.heap s.heap [] := va_S.rf
  have hl : lv_has ls 1 [(0, .int p0)] := hl
  refine lv_iload_n hx hb dX11_plain_0 rfl (lv_at hl 0 rfl) ?_
  refine lv_if_ge (tgt := 9) hx hb dX11_plain_1 (by decide) (fun c1 => ?_) (fun c1 => ?_)
  · skip
    have zc1 : 0 ≤ p0.toInt := by rw [fa_le, show (0 : Int32).toInt = 0 from by decide] at c1; exact c1
    refine lv_iload_n hx hb dX11_plain_9 rfl (lv_at hl 0 rfl) ?_
    exact ret p0 () _ _ _ _ _ _ rfl trivial hP hD hS dX11_plain_10 (Nat.le_refl _) (Nat.le_refl _)
  · skip
    have zc1 : ¬ (0 ≤ p0.toInt) := by rw [fa_le, show (0 : Int32).toInt = 0 from by decide] at c1; exact c1
    refine lv_iload_n hx hb dX11_plain_4 rfl (lv_at hl 0 rfl) ?_
    refine lv_ineg hx hb dX11_plain_5 ?_
    refine lv_topi (fun t2 et2 => ?_)
    refine lv_goto (tgt := 10) hx hb dX11_plain_6 (by decide) ?_
    exact ret t2 () _ _ _ _ _ _ rfl trivial hP hD hS dX11_plain_10 (Nat.le_refl _) (Nat.le_refl _)
