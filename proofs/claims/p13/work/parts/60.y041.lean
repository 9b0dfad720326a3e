set_option maxHeartbeats 4000000 in
set_option maxRecDepth 100000 in
theorem sY_X11_wings_1 (l : Launch) (dC : Nat → ClassId) (dI : Nat → Nat → Nat) (cy : Nat → ClassId) (y0 : Nat) (r : Nat → Nat) (p1 : Int32) (v : Nat → Int32) (f : Nat → Nat → Int32) (w : Int64) (g : Nat → Int64) (hIv : YI v) (hCf : YC f) (hRf : progOK (f 4) (f 5) (v 9).toInt.toNat)  : ctI l (dC, dI) cy yX11_wings cX11_wings 8 .int 3 102 0 0 ((Nat → Int32) × (Nat → Nat → Int32) × (Int64) × (Nat → Int64)) [.ref y0, .int p1] (YW cy y0 r v f w g) (fun r u => KV [] u.1 v ∧ KF [24] u.2.1 f ∧ YI u.1 ∧ YC u.2.1 ∧ progOK (u.2.1 4) (u.2.1 5) (u.1 9).toInt.toNat ∧ u.1 0 = v 0 ∧ u.1 1 = v 1 ∧ u.1 2 = v 2 ∧ u.1 3 = v 3 ∧ u.1 4 = v 4 ∧ u.1 5 = v 5 ∧ u.1 8 = v 8 ∧ u.1 9 = v 9 ∧ u.1 10 = v 10 ∧ u.1 13 = v 13 ∧ u.1 14 = v 14 ∧ u.1 15 = v 15 ∧ u.1 17 = v 17 ∧ u.1 18 = v 18 ∧ u.1 24 = v 24 ∧ u.1 25 = v 25 ∧ u.1 35 = v 35 ∧ u.1 36 = v 36 ∧ u.1 38 = v 38 ∧ u.1 39 = v 39) (fun u => YW cy y0 r u.1 u.2.1 u.2.2.1 u.2.2.2) := by
  refine ctI_of (by decide) (Nat.le_of_ble_eq_true rfl) (fun p e s m below meth c A ls Q hx hb hml hts hown hE hP hD hA hl ret => ?_)
  have hUv : (v 35).toInt + (v 36).toInt ≤ 40 := hIv.2
  have hM_v : KV [] v v := fun _ _ => rfl
  have hA_f : KF [24] f f := fun _ _ => rfl
  have hown : s.vm.findClass RX11 = some m.cls := hown
  have hS : va_S A s.heap s.heap [] := va_S.rf
  have hl : lv_has ls 8 [(0, .ref y0), (1, .int p1)] := hl
  refine lv_iload_n hx hb dX11_wings_0 rfl (lv_at hl 1 rfl) ?_
  refine lv_iconst (v := 0) hx hb dX11_wings_1 (by decide) ?_
  refine lv_iconst (v := 1) hx hb dX11_wings_2 (by decide) ?_
  have lt1 : (0 : Int32).toInt = 0 := by decide
  have lt2 : (1 : Int32).toInt = 1 := by decide
  refine cbSi (n := 3) (rest := []) hx hb hml hown hts hE hP hD hS hA (sY_X11_isIn_1 0 l dC dI cy y0 r p1 0 1 v f w g hIv hCf hRf ) k_1736 k_1737 k_114 k_1738 (by decide +kernel) ⟨Nat.le_of_ble_eq_true rfl, Nat.le_of_ble_eq_true rfl⟩ (rfl) hl.1 rfl (Nat.le_of_ble_eq_true rfl) dX11_wings_3 (fun r3 u H locs hw hP hD hS => ?_)
  obtain ⟨hG4, hw⟩ := hw
  rcases hw with ⟨g5, g5_0, g5_1⟩ | ⟨g5⟩
  · skip
    subst g5
    refine lv_if_ne (tgt := 11) hx hb dX11_wings_6 (by decide) (fun _ => ?_) (fun c0 => absurd c0 (by decide))
    refine lv_aload_n hx hb dX11_wings_11 rfl (lv_at hl 0 rfl) ?_
    refine cbVv (n := 0) (rest := []) hx hb hml hown hts hE hP hD hS hA (sY_X11_fill_1 0 l dC dI cy y0 r  v f w g hIv hCf hRf ) k_1739 k_1741 k_71 k_114 k_1742 (by decide +kernel) ⟨Nat.le_of_ble_eq_true rfl, Nat.le_of_ble_eq_true rfl⟩ 0 11 rfl rfl (rfl) hl.1 rfl (Nat.le_of_ble_eq_true rfl) dX11_wings_12 (fun u H locs hw hP hD hS => ?_)
    obtain ⟨hG6, hw⟩ := hw
    obtain ⟨v7, f8, w9, g10⟩ := u
    obtain ⟨kV_v7, kF_f8, hIv7, hCf8, hRf8, hk0_v7, hk1_v7, hk2_v7, hk3_v7, hk4_v7, hk5_v7, hk8_v7, hk9_v7, hk10_v7, hk13_v7, hk14_v7, hk15_v7, hk17_v7, hk18_v7, hk24_v7, hk25_v7, hk35_v7, hk36_v7, hk38_v7, hk39_v7⟩ := hw
    have hM_v7 : KV [] v7 v := KV.tr kV_v7 hM_v rfl
    have hA_f8 : KF [24] f8 f := KF.tr kF_f8 hA_f rfl
    have hP : va_P (dC, dI) vwCl (YW cy y0 r v7 f8 w9 g10) H := hP
    have hD : va_D A (YW cy y0 r v7 f8 w9 g10) := hD
    have hUv7 : (v7 35).toInt + (v7 36).toInt ≤ 40 := hIv7.2
    have hq9_v7 : v7 9 = (v 9) := hk9_v7
    have zq9_v7 := congrArg Int32.toInt hq9_v7
    refine lv_aload_n hx hb dX11_wings_15 rfl (lv_at hl 0 rfl) ?_
    refine cbVi (n := 0) (rest := []) hx hb hml hown hts hE hP hD hS hA (sY_X11_wearers_1 0 l dC dI cy y0 r  v7 f8 w9 g10 hIv7 hCf8 hRf8 ) k_1805 k_1807 k_80 k_114 k_1808 (by decide +kernel) ⟨Nat.le_of_ble_eq_true rfl, Nat.le_of_ble_eq_true rfl⟩ 0 11 rfl rfl (rfl) hl.1 rfl (Nat.le_of_ble_eq_true rfl) dX11_wings_16 (fun r11 u H locs hw hP hD hS => ?_)
    obtain ⟨hG12, hw⟩ := hw
    refine lv_istore_n (lv' := [(2, .int r11), (0, .ref y0), (1, .int p1)]) hx hb dX11_wings_19 rfl hl (by decide) rfl (fun ls hl => ?_)
    refine lv_iconst (v := 0) hx hb dX11_wings_20 (by decide) ?_
    refine lv_istore_n (lv' := [(3, .int 0), (2, .int r11), (0, .ref y0), (1, .int p1)]) hx hb dX11_wings_21 rfl hl (by decide) rfl (fun ls hl => ?_)
    refine lv_iconst (v := 5) hx hb dX11_wings_22 (by decide) ?_
    refine lv_istore (lv' := [(4, .int 5), (3, .int 0), (2, .int r11), (0, .ref y0), (1, .int p1)]) hx hb dX11_wings_23 hl (by decide) rfl (fun ls hl => ?_)
    have lp13 : ∀ (n13 : Nat) (l3_13 : Int32) (l4_13 : Int32), ((-2147483648 : Int) ≤ l4_13.toInt ∧ l4_13.toInt ≤ 5) → (l4_13.toInt + 2147483648).toNat < n13 → ∀ (H : Heap) (locs : List Loc) (ls : Array Slot), va_P (dC, dI) vwCl (YW cy y0 r v7 f8 w9 g10) H → va_D A (YW cy y0 r v7 f8 w9 g10) → va_S A s.heap H locs → lv_has ls 8 [(4, .int l4_13), (3, .int l3_13), (2, .int r11), (0, .ref y0), (1, .int p1)] → W p l e { frames := 3, cells := 0, slots := 0, locals := 102 } s m ([.ref y0, .int p1] : List Value).toArray below meth c H locs 0 0 Q (F0 m 25 ls []) := by
      intro n13
      induction n13 with
      | zero => intro l3_13 l4_13 hr4_13 hm; exact absurd hm (Nat.not_lt_zero _)
      | succ n13 ih13 =>
        intro l3_13 l4_13 hr4_13 hm13 H locs ls hP hD hS hl
        refine lv_iload hx hb dX11_wings_25 (lv_at hl 0 rfl) ?_
        refine lv_if_lt (tgt := 55) hx hb dX11_wings_27 (by decide) (fun c14 => ?_) (fun c14 => ?_)
        · skip
          have zc14 : l4_13.toInt < 0 := by rw [fa_lt, show (0 : Int32).toInt = 0 from by decide] at c14; exact c14
          refine lv_iload_n hx hb dX11_wings_55 rfl (lv_at hl 2 rfl) ?_
          refine lv_istore (lv' := [(4, .int r11), (3, .int l3_13), (2, .int r11), (0, .ref y0), (1, .int p1)]) hx hb dX11_wings_56 hl (by decide) rfl (fun ls hl => ?_)
          refine lv_aload_n hx hb dX11_wings_58 rfl (lv_at hl 3 rfl) ?_
          refine lv_iload_n hx hb dX11_wings_59 rfl (lv_at hl 2 rfl) ?_
          refine cbVi (n := 1) (rest := []) hx hb hml hown hts hE hP hD hS hA (sY_X11_wideOf_1 l dC dI cy y0 r r11 v7 f8 w9 g10 hIv7 hCf8 hRf8 ) k_1912 k_1914 k_88 k_114 k_1915 (by decide +kernel) ⟨Nat.le_of_ble_eq_true rfl, Nat.le_of_ble_eq_true rfl⟩ 0 11 rfl rfl (rfl) hl.1 rfl (Nat.le_of_ble_eq_true rfl) dX11_wings_60 (fun r15 u H locs hw hP hD hS => ?_)
          refine lv_istore (lv' := [(5, .int r15), (4, .int r11), (3, .int l3_13), (2, .int r11), (0, .ref y0), (1, .int p1)]) hx hb dX11_wings_63 hl (by decide) rfl (fun ls hl => ?_)
          refine lv_iconst (v := 0) hx hb dX11_wings_65 (by decide) ?_
          refine lv_istore (lv' := [(6, .int 0), (5, .int r15), (4, .int r11), (3, .int l3_13), (2, .int r11), (0, .ref y0), (1, .int p1)]) hx hb dX11_wings_66 hl (by decide) rfl (fun ls hl => ?_)
          have lp16 : ∀ (n16 : Nat) (l4_16 : Int32) (l5_16 : Int32) (l6_16 : Int32), ((0 : Int) ≤ l6_16.toInt ∧ l6_16.toInt ≤ 2147483647) → (2147483647 - l6_16.toInt).toNat < n16 → ∀ (H : Heap) (locs : List Loc) (ls : Array Slot), va_P (dC, dI) vwCl (YW cy y0 r v7 f8 w9 g10) H → va_D A (YW cy y0 r v7 f8 w9 g10) → va_S A s.heap H locs → lv_has ls 8 [(6, .int l6_16), (5, .int l5_16), (4, .int l4_16), (3, .int l3_13), (2, .int r11), (0, .ref y0), (1, .int p1)] → W p l e { frames := 3, cells := 0, slots := 0, locals := 102 } s m ([.ref y0, .int p1] : List Value).toArray below meth c H locs 0 0 Q (F0 m 68 ls []) := by
            intro n16
            induction n16 with
            | zero => intro l4_16 l5_16 l6_16 hr6_16 hm; exact absurd hm (Nat.not_lt_zero _)
            | succ n16 ih16 =>
              intro l4_16 l5_16 l6_16 hr6_16 hm16 H locs ls hP hD hS hl
              refine lv_iload hx hb dX11_wings_68 (lv_at hl 0 rfl) ?_
              refine lv_iload_n hx hb dX11_wings_70 rfl (lv_at hl 4 rfl) ?_
              refine lv_icmp_gt (tgt := 154) hx hb dX11_wings_71 (by decide) (fun c17 => ?_) (fun c17 => ?_)
              · skip
                have zc17 : r11.toInt < l6_16.toInt := by rw [fa_lt] at c17; exact c17
                have rg18 := fb_rng l6_16
                have rg19 := fb_rng r11
                refine lv_iload_n hx hb dX11_wings_154 rfl (lv_at hl 6 rfl) ?_
                refine lv_if_ne (tgt := 163) hx hb dX11_wings_155 (by decide) (fun c20 => ?_) (fun c20 => ?_)
                · skip
                  have zc20 : ¬ (p1.toInt = 0) := by rw [fa_eq, show (0 : Int32).toInt = 0 from by decide] at c20; exact c20
                  refine lv_iload hx hb dX11_wings_163 (lv_at hl 2 rfl) ?_
                  exact ret l4_16 (v7, f8, w9, g10) _ _ _ _ _ _ rfl ⟨hM_v7, hA_f8, hIv7, hCf8, hRf8, hk0_v7, hk1_v7, hk2_v7, hk3_v7, hk4_v7, hk5_v7, hk8_v7, hk9_v7, hk10_v7, hk13_v7, hk14_v7, hk15_v7, hk17_v7, hk18_v7, hk24_v7, hk25_v7, hk35_v7, hk36_v7, hk38_v7, hk39_v7⟩ hP hD hS dX11_wings_165 (Nat.le_refl _) (Nat.le_refl _)
                · skip
                  have zc20 : p1.toInt = 0 := by rw [fa_eq, show (0 : Int32).toInt = 0 from by decide] at c20; exact c20
                  refine lv_iload hx hb dX11_wings_158 (lv_at hl 1 rfl) ?_
                  refine lv_goto (tgt := 165) hx hb dX11_wings_160 (by decide) ?_
                  exact ret l5_16 (v7, f8, w9, g10) _ _ _ _ _ _ rfl ⟨hM_v7, hA_f8, hIv7, hCf8, hRf8, hk0_v7, hk1_v7, hk2_v7, hk3_v7, hk4_v7, hk5_v7, hk8_v7, hk9_v7, hk10_v7, hk13_v7, hk14_v7, hk15_v7, hk17_v7, hk18_v7, hk24_v7, hk25_v7, hk35_v7, hk36_v7, hk38_v7, hk39_v7⟩ hP hD hS dX11_wings_165 (Nat.le_refl _) (Nat.le_refl _)
              · skip
                have zc17 : ¬ (r11.toInt < l6_16.toInt) := by rw [fa_lt] at c17; exact c17
                have rg21 := fb_rng l6_16
                have rg22 := fb_rng r11
                refine lv_iload hx hb dX11_wings_74 (lv_at hl 0 rfl) ?_
                refine lv_iload_n hx hb dX11_wings_76 rfl (lv_at hl 4 rfl) ?_
                refine lv_iconst (v := (-1)) hx hb dX11_wings_77 (by decide) ?_
                refine lv_ixor hx hb dX11_wings_78 ?_
                refine lv_topi (fun t23 et23 => ?_)
                refine lv_iand hx hb dX11_wings_79 ?_
                refine lv_topi (fun t24 et24 => ?_)
                have zt24 : 0 ≤ t24.toInt ∧ t24.toInt ≤ 63 := by rw [et24]; exact and_left (by omega) (by omega)
                refine lv_if_ne (tgt := 148) hx hb dX11_wings_80 (by decide) (fun c25 => ?_) (fun c25 => ?_)
                · skip
                  have zc25 : ¬ (t24.toInt = 0) := by rw [fa_eq, show (0 : Int32).toInt = 0 from by decide] at c25; exact c25
                  obtain ⟨t26, et26⟩ : ∃ y : Int32, y = l6_16 + 1 := ⟨_, rfl⟩
                  have zt26 : t26.toInt = l6_16.toInt + 1 := by rw [et26]; exact add_i rfl (by decide) (by omega) (by omega)
                  refine lv_iinc (v := t26) (lv' := [(6, .int t26), (5, .int l5_16), (4, .int l4_16), (3, .int l3_13), (2, .int r11), (0, .ref y0), (1, .int p1)]) hx hb dX11_wings_148 hl (k := 0) rfl (by rw [et26]; rfl) (by decide) rfl (fun ls hl => ?_)
                  refine lv_goto (tgt := 68) hx hb dX11_wings_151 (by decide) ?_
                  have rg27 := fb_rng t26
                  exact ih16 l4_16 l5_16 t26 ⟨show (0 : Int) ≤ t26.toInt by omega, show t26.toInt ≤ (2147483647 : Int) by omega⟩ (by show (2147483647 - t26.toInt).toNat < n16; omega) _ _ _ hP hD hS (lv_sub hl [0, 1, 2, 3, 4, 5, 6] rfl)
                · skip
                  have zc25 : t24.toInt = 0 := by rw [fa_eq, show (0 : Int32).toInt = 0 from by decide] at c25; exact c25
                  refine lv_iload hx hb dX11_wings_83 (lv_at hl 0 rfl) ?_
                  refine lv_iload_n hx hb dX11_wings_85 rfl (lv_at hl 3 rfl) ?_
                  refine lv_iand hx hb dX11_wings_86 ?_
                  refine lv_topi (fun t28 et28 => ?_)
                  have zt28 : 0 ≤ t28.toInt ∧ t28.toInt ≤ 63 := by rw [et28]; exact and_left (by omega) (by omega)
                  refine lv_iload_n hx hb dX11_wings_87 rfl (lv_at hl 3 rfl) ?_
                  refine lv_icmp_eq (tgt := 94) hx hb dX11_wings_88 (by decide) (fun c29 => ?_) (fun c29 => ?_)
                  · skip
                    have zc29 : t28.toInt = l3_13.toInt := by rw [fa_eq] at c29; exact c29
                    have rg30 := fb_rng t28
                    have rg31 := fb_rng l3_13
                    refine lv_aload_n hx hb dX11_wings_94 rfl (lv_at hl 5 rfl) ?_
                    refine lv_iload hx hb dX11_wings_95 (lv_at hl 0 rfl) ?_
                    refine cbVi (n := 1) (rest := []) hx hb hml hown hts hE hP hD hS hA (sY_X11_wideOf_1 l dC dI cy y0 r l6_16 v7 f8 w9 g10 hIv7 hCf8 hRf8 ) k_1912 k_1914 k_88 k_114 k_1915 (by decide +kernel) ⟨Nat.le_of_ble_eq_true rfl, Nat.le_of_ble_eq_true rfl⟩ 0 11 rfl rfl (rfl) hl.1 rfl (Nat.le_of_ble_eq_true rfl) dX11_wings_97 (fun r32 u H locs hw hP hD hS => ?_)
                    refine lv_aload_n hx hb dX11_wings_100 rfl (lv_at hl 5 rfl) ?_
                    refine lv_iload_n hx hb dX11_wings_101 rfl (lv_at hl 4 rfl) ?_
                    refine lv_iload hx hb dX11_wings_102 (lv_at hl 0 rfl) ?_
                    refine lv_iconst (v := (-1)) hx hb dX11_wings_104 (by decide) ?_
                    refine lv_ixor hx hb dX11_wings_105 ?_
                    refine lv_topi (fun t33 et33 => ?_)
                    refine lv_iand hx hb dX11_wings_106 ?_
                    refine lv_topi (fun t34 et34 => ?_)
                    have zt34 : 0 ≤ t34.toInt ∧ t34.toInt ≤ 63 := by rw [et34]; exact and_left (by omega) (by omega)
                    refine cbVi (n := 1) (rest := [.int r32]) hx hb hml hown hts hE hP hD hS hA (sY_X11_wideOf_1 l dC dI cy y0 r t34 v7 f8 w9 g10 hIv7 hCf8 hRf8 ) k_1912 k_1914 k_88 k_114 k_1915 (by decide +kernel) ⟨Nat.le_of_ble_eq_true rfl, Nat.le_of_ble_eq_true rfl⟩ 0 11 rfl rfl (rfl) hl.1 rfl (Nat.le_of_ble_eq_true rfl) dX11_wings_107 (fun r35 u H locs hw hP hD hS => ?_)
                    refine lv_isub hx hb dX11_wings_110 ?_
                    refine lv_topi (fun t36 et36 => ?_)
                    refine cbSi (n := 1) (rest := []) hx hb hml hown hts hE hP hD hS hA (sY_X11_plain_1 l dC dI cy y0 r t36 v7 f8 w9 g10 hIv7 hCf8 hRf8 ) k_1920 k_1921 k_114 k_1922 (by decide +kernel) ⟨Nat.le_of_ble_eq_true rfl, Nat.le_of_ble_eq_true rfl⟩ (rfl) hl.1 rfl (Nat.le_of_ble_eq_true rfl) dX11_wings_111 (fun r37 u H locs hw hP hD hS => ?_)
                    refine lv_istore (lv' := [(7, .int r37), (6, .int l6_16), (5, .int l5_16), (4, .int l4_16), (3, .int l3_13), (2, .int r11), (0, .ref y0), (1, .int p1)]) hx hb dX11_wings_114 hl (by decide) rfl (fun ls hl => ?_)
                    refine lv_iload hx hb dX11_wings_116 (lv_at hl 0 rfl) ?_
                    refine lv_iload hx hb dX11_wings_118 (lv_at hl 2 rfl) ?_
                    refine lv_icmp_gt (tgt := 148) hx hb dX11_wings_120 (by decide) (fun c38 => ?_) (fun c38 => ?_)
                    · skip
                      have zc38 : l5_16.toInt < r37.toInt := by rw [fa_lt] at c38; exact c38
                      have rg39 := fb_rng r37
                      have rg40 := fb_rng l5_16
                      obtain ⟨t41, et41⟩ : ∃ y : Int32, y = l6_16 + 1 := ⟨_, rfl⟩
                      have zt41 : t41.toInt = l6_16.toInt + 1 := by rw [et41]; exact add_i rfl (by decide) (by omega) (by omega)
                      refine lv_iinc (v := t41) (lv' := [(6, .int t41), (7, .int r37), (5, .int l5_16), (4, .int l4_16), (3, .int l3_13), (2, .int r11), (0, .ref y0), (1, .int p1)]) hx hb dX11_wings_148 hl (k := 1) rfl (by rw [et41]; rfl) (by decide) rfl (fun ls hl => ?_)
                      refine lv_goto (tgt := 68) hx hb dX11_wings_151 (by decide) ?_
                      have rg42 := fb_rng t41
                      exact ih16 l4_16 l5_16 t41 ⟨show (0 : Int) ≤ t41.toInt by omega, show t41.toInt ≤ (2147483647 : Int) by omega⟩ (by show (2147483647 - t41.toInt).toNat < n16; omega) _ _ _ hP hD hS (lv_sub hl [0, 2, 3, 4, 5, 6, 7] rfl)
                    · skip
                      have zc38 : ¬ (l5_16.toInt < r37.toInt) := by rw [fa_lt] at c38; exact c38
                      have rg43 := fb_rng r37
                      have rg44 := fb_rng l5_16
                      refine lv_iload hx hb dX11_wings_123 (lv_at hl 0 rfl) ?_
                      refine lv_iload hx hb dX11_wings_125 (lv_at hl 2 rfl) ?_
                      refine lv_icmp_ne (tgt := 140) hx hb dX11_wings_127 (by decide) (fun c45 => ?_) (fun c45 => ?_)
                      · skip
                        have zc45 : ¬ (r37.toInt = l5_16.toInt) := by rw [fa_eq] at c45; exact c45
                        refine lv_iload hx hb dX11_wings_140 (lv_at hl 0 rfl) ?_
                        refine lv_istore (lv' := [(5, .int r37), (7, .int r37), (6, .int l6_16), (4, .int l4_16), (3, .int l3_13), (2, .int r11), (0, .ref y0), (1, .int p1)]) hx hb dX11_wings_142 hl (by decide) rfl (fun ls hl => ?_)
                        refine lv_iload hx hb dX11_wings_144 (lv_at hl 2 rfl) ?_
                        refine lv_istore (lv' := [(4, .int l6_16), (5, .int r37), (7, .int r37), (6, .int l6_16), (3, .int l3_13), (2, .int r11), (0, .ref y0), (1, .int p1)]) hx hb dX11_wings_146 hl (by decide) rfl (fun ls hl => ?_)
                        obtain ⟨t46, et46⟩ : ∃ y : Int32, y = l6_16 + 1 := ⟨_, rfl⟩
                        have zt46 : t46.toInt = l6_16.toInt + 1 := by rw [et46]; exact add_i rfl (by decide) (by omega) (by omega)
                        refine lv_iinc (v := t46) (lv' := [(6, .int t46), (4, .int l6_16), (5, .int r37), (7, .int r37), (3, .int l3_13), (2, .int r11), (0, .ref y0), (1, .int p1)]) hx hb dX11_wings_148 hl (k := 3) rfl (by rw [et46]; rfl) (by decide) rfl (fun ls hl => ?_)
                        refine lv_goto (tgt := 68) hx hb dX11_wings_151 (by decide) ?_
                        have rg47 := fb_rng t46
                        exact ih16 l6_16 r37 t46 ⟨show (0 : Int) ≤ t46.toInt by omega, show t46.toInt ≤ (2147483647 : Int) by omega⟩ (by show (2147483647 - t46.toInt).toNat < n16; omega) _ _ _ hP hD hS (lv_sub hl [0, 2, 1, 4, 5, 6, 7] rfl)
                      · skip
                        have zc45 : r37.toInt = l5_16.toInt := by rw [fa_eq] at c45; exact c45
                        refine lv_iload hx hb dX11_wings_130 (lv_at hl 1 rfl) ?_
                        refine lv_iload hx hb dX11_wings_132 (lv_at hl 3 rfl) ?_
                        refine lv_icmp_lt (tgt := 140) hx hb dX11_wings_134 (by decide) (fun c48 => ?_) (fun c48 => ?_)
                        · skip
                          have zc48 : l6_16.toInt < l4_16.toInt := by rw [fa_lt] at c48; exact c48
                          have rg49 := fb_rng l4_16
                          refine lv_iload hx hb dX11_wings_140 (lv_at hl 0 rfl) ?_
                          refine lv_istore (lv' := [(5, .int r37), (7, .int r37), (6, .int l6_16), (4, .int l4_16), (3, .int l3_13), (2, .int r11), (0, .ref y0), (1, .int p1)]) hx hb dX11_wings_142 hl (by decide) rfl (fun ls hl => ?_)
                          refine lv_iload hx hb dX11_wings_144 (lv_at hl 2 rfl) ?_
                          refine lv_istore (lv' := [(4, .int l6_16), (5, .int r37), (7, .int r37), (6, .int l6_16), (3, .int l3_13), (2, .int r11), (0, .ref y0), (1, .int p1)]) hx hb dX11_wings_146 hl (by decide) rfl (fun ls hl => ?_)
                          obtain ⟨t50, et50⟩ : ∃ y : Int32, y = l6_16 + 1 := ⟨_, rfl⟩
                          have zt50 : t50.toInt = l6_16.toInt + 1 := by rw [et50]; exact add_i rfl (by decide) (by omega) (by omega)
                          refine lv_iinc (v := t50) (lv' := [(6, .int t50), (4, .int l6_16), (5, .int r37), (7, .int r37), (3, .int l3_13), (2, .int r11), (0, .ref y0), (1, .int p1)]) hx hb dX11_wings_148 hl (k := 3) rfl (by rw [et50]; rfl) (by decide) rfl (fun ls hl => ?_)
                          refine lv_goto (tgt := 68) hx hb dX11_wings_151 (by decide) ?_
                          have rg51 := fb_rng t50
                          exact ih16 l6_16 r37 t50 ⟨show (0 : Int) ≤ t50.toInt by omega, show t50.toInt ≤ (2147483647 : Int) by omega⟩ (by show (2147483647 - t50.toInt).toNat < n16; omega) _ _ _ hP hD hS (lv_sub hl [0, 2, 1, 4, 5, 6, 7] rfl)
                        · skip
                          have zc48 : ¬ (l6_16.toInt < l4_16.toInt) := by rw [fa_lt] at c48; exact c48
                          have rg52 := fb_rng l4_16
                          refine lv_goto (tgt := 148) hx hb dX11_wings_137 (by decide) ?_
                          obtain ⟨t53, et53⟩ : ∃ y : Int32, y = l6_16 + 1 := ⟨_, rfl⟩
                          have zt53 : t53.toInt = l6_16.toInt + 1 := by rw [et53]; exact add_i rfl (by decide) (by omega) (by omega)
                          refine lv_iinc (v := t53) (lv' := [(6, .int t53), (7, .int r37), (5, .int l5_16), (4, .int l4_16), (3, .int l3_13), (2, .int r11), (0, .ref y0), (1, .int p1)]) hx hb dX11_wings_148 hl (k := 1) rfl (by rw [et53]; rfl) (by decide) rfl (fun ls hl => ?_)
                          refine lv_goto (tgt := 68) hx hb dX11_wings_151 (by decide) ?_
                          have rg54 := fb_rng t53
                          exact ih16 l4_16 l5_16 t53 ⟨show (0 : Int) ≤ t53.toInt by omega, show t53.toInt ≤ (2147483647 : Int) by omega⟩ (by show (2147483647 - t53.toInt).toNat < n16; omega) _ _ _ hP hD hS (lv_sub hl [0, 2, 3, 4, 5, 6, 7] rfl)
                  · skip
                    have zc29 : ¬ (t28.toInt = l3_13.toInt) := by rw [fa_eq] at c29; exact c29
                    have rg55 := fb_rng t28
                    have rg56 := fb_rng l3_13
                    refine lv_goto (tgt := 148) hx hb dX11_wings_91 (by decide) ?_
                    obtain ⟨t57, et57⟩ : ∃ y : Int32, y = l6_16 + 1 := ⟨_, rfl⟩
                    have zt57 : t57.toInt = l6_16.toInt + 1 := by rw [et57]; exact add_i rfl (by decide) (by omega) (by omega)
                    refine lv_iinc (v := t57) (lv' := [(6, .int t57), (5, .int l5_16), (4, .int l4_16), (3, .int l3_13), (2, .int r11), (0, .ref y0), (1, .int p1)]) hx hb dX11_wings_148 hl (k := 0) rfl (by rw [et57]; rfl) (by decide) rfl (fun ls hl => ?_)
                    refine lv_goto (tgt := 68) hx hb dX11_wings_151 (by decide) ?_
                    have rg58 := fb_rng t57
                    exact ih16 l4_16 l5_16 t57 ⟨show (0 : Int) ≤ t57.toInt by omega, show t57.toInt ≤ (2147483647 : Int) by omega⟩ (by show (2147483647 - t57.toInt).toNat < n16; omega) _ _ _ hP hD hS (lv_sub hl [0, 1, 2, 3, 4, 5, 6] rfl)
          exact lp16 _ r11 r15 0 ⟨by decide, by decide⟩ (Nat.lt_succ_self _) _ _ _ hP hD hS (lv_sub hl [0, 1, 2, 3, 4, 5, 6] rfl)
        · skip
          have zc14 : ¬ (l4_13.toInt < 0) := by rw [fa_lt, show (0 : Int32).toInt = 0 from by decide] at c14; exact c14
          refine lv_iload_n hx hb dX11_wings_30 rfl (lv_at hl 2 rfl) ?_
          refine lv_iload hx hb dX11_wings_31 (lv_at hl 0 rfl) ?_
          refine lv_ishr hx hb dX11_wings_33 ?_
          refine lv_topi (fun t59 et59 => ?_)
          refine lv_iconst (v := 1) hx hb dX11_wings_34 (by decide) ?_
          refine lv_iand hx hb dX11_wings_35 ?_
          refine lv_topi (fun t60 et60 => ?_)
          have zt60 : 0 ≤ t60.toInt ∧ t60.toInt < 2 := by rw [et60]; exact and_rng _ (k := 1) (by decide) (by decide)
          refine lv_iconst (v := 1) hx hb dX11_wings_36 (by decide) ?_
          refine lv_icmp_ne (tgt := 47) hx hb dX11_wings_37 (by decide) (fun c61 => ?_) (fun c61 => ?_)
          · skip
            have zc61 : ¬ (t60.toInt = 1) := by rw [fa_eq, show (1 : Int32).toInt = 1 from by decide] at c61; exact c61
            refine lv_iload_n hx hb dX11_wings_47 rfl (lv_at hl 1 rfl) ?_
            refine lv_istore_n (lv' := [(3, .int l3_13), (4, .int l4_13), (2, .int r11), (0, .ref y0), (1, .int p1)]) hx hb dX11_wings_48 rfl hl (by decide) rfl (fun ls hl => ?_)
            obtain ⟨t62, et62⟩ : ∃ y : Int32, y = l4_13 + (-1) := ⟨_, rfl⟩
            have rg63 := fb_rng l4_13
            have zt62 : t62.toInt = l4_13.toInt + (-1) := by rw [et62]; exact add_i rfl (by decide) (by omega) (by omega)
            refine lv_iinc (v := t62) (lv' := [(4, .int t62), (3, .int l3_13), (2, .int r11), (0, .ref y0), (1, .int p1)]) hx hb dX11_wings_49 hl (k := 1) rfl (by rw [et62]; rfl) (by decide) rfl (fun ls hl => ?_)
            refine lv_goto (tgt := 25) hx hb dX11_wings_52 (by decide) ?_
            have rg64 := fb_rng t62
            exact ih13 l3_13 t62 ⟨show (-2147483648 : Int) ≤ t62.toInt by omega, show t62.toInt ≤ (5 : Int) by omega⟩ (by show (t62.toInt + 2147483648).toNat < n13; omega) _ _ _ hP hD hS (lv_sub hl [0, 1, 2, 3, 4] rfl)
          · skip
            have zc61 : t60.toInt = 1 := by rw [fa_eq, show (1 : Int32).toInt = 1 from by decide] at c61; exact c61
            refine lv_iconst (v := 1) hx hb dX11_wings_40 (by decide) ?_
            refine lv_iload hx hb dX11_wings_41 (lv_at hl 0 rfl) ?_
            refine lv_ishl hx hb dX11_wings_43 ?_
            refine lv_topi (fun t65 et65 => ?_)
            have zt65 : 1 ≤ t65.toInt ∧ t65.toInt ≤ 32 := by rw [et65]; exact shl1_rng (by omega) (by omega)
            refine lv_goto (tgt := 48) hx hb dX11_wings_44 (by decide) ?_
            refine lv_istore_n (lv' := [(3, .int t65), (4, .int l4_13), (2, .int r11), (0, .ref y0), (1, .int p1)]) hx hb dX11_wings_48 rfl hl (by decide) rfl (fun ls hl => ?_)
            obtain ⟨t66, et66⟩ : ∃ y : Int32, y = l4_13 + (-1) := ⟨_, rfl⟩
            have rg67 := fb_rng l4_13
            have zt66 : t66.toInt = l4_13.toInt + (-1) := by rw [et66]; exact add_i rfl (by decide) (by omega) (by omega)
            refine lv_iinc (v := t66) (lv' := [(4, .int t66), (3, .int t65), (2, .int r11), (0, .ref y0), (1, .int p1)]) hx hb dX11_wings_49 hl (k := 1) rfl (by rw [et66]; rfl) (by decide) rfl (fun ls hl => ?_)
            refine lv_goto (tgt := 25) hx hb dX11_wings_52 (by decide) ?_
            have rg68 := fb_rng t66
            exact ih13 t65 t66 ⟨show (-2147483648 : Int) ≤ t66.toInt by omega, show t66.toInt ≤ (5 : Int) by omega⟩ (by show (t66.toInt + 2147483648).toNat < n13; omega) _ _ _ hP hD hS (lv_sub hl [0, 1, 2, 3, 4] rfl)
    exact lp13 _ 0 5 ⟨by decide, by decide⟩ (Nat.lt_succ_self _) _ _ _ hP hD hS (lv_sub hl [0, 1, 2, 3, 4] rfl)
  · skip
    subst g5
    refine lv_if_ne (tgt := 11) hx hb dX11_wings_6 (by decide) (fun c0 => absurd (by decide) c0) (fun _ => ?_)
    refine lv_iconst (v := (-1)) hx hb dX11_wings_9 (by decide) ?_
    exact ret (-1) (v, f, w, g) _ _ _ _ _ _ rfl ⟨hM_v, hA_f, hIv, hCf, hRf, rfl, rfl, rfl, rfl, rfl, rfl, rfl, rfl, rfl, rfl, rfl, rfl, rfl, rfl, rfl, rfl, rfl, rfl, rfl, rfl⟩ hP hD hS dX11_wings_10 (Nat.le_refl _) (Nat.le_refl _)
set_option maxHeartbeats 4000000 in
set_option maxRecDepth 100000 in
theorem sY_X11_rowOf_1 (l : Launch) (dC : Nat → ClassId) (dI : Nat → Nat → Nat) (cy : Nat → ClassId) (y0 : Nat) (r : Nat → Nat) (p1 : Int32) (v : Nat → Int32) (f : Nat → Nat → Int32) (w : Int64) (g : Nat → Int64) (hIv : YI v) (hCf : YC f) (hRf : progOK (f 4) (f 5) (v 9).toInt.toNat)  : ctI l (dC, dI) cy yX11_rowOf cX11_rowOf 5 .int 2 81 0 0 Unit [.ref y0, .int p1] (YW cy y0 r v f w g) (fun r u => True) (fun u => YW cy y0 r v f w g) := by
  refine ctI_of (by decide) (Nat.le_of_ble_eq_true rfl) (fun p e s m below meth c A ls Q hx hb hml hts hown hE hP hD hA hl ret => ?_)
  have hUv : (v 35).toInt + (v 36).toInt ≤ 40 := hIv.2
  have hown : s.vm.findClass RX11 = some m.cls := hown
  have hS : va_S A s.heap s.heap [] := va_S.rf
  have hl : lv_has ls 5 [(0, .ref y0), (1, .int p1)] := hl
  refine lv_iconst (v := 0) hx hb dX11_rowOf_0 (by decide) ?_
  refine lv_istore_n (lv' := [(2, .int 0), (0, .ref y0), (1, .int p1)]) hx hb dX11_rowOf_1 rfl hl (by decide) rfl (fun ls hl => ?_)
  refine lv_iconst (v := 0) hx hb dX11_rowOf_2 (by decide) ?_
  refine lv_istore_n (lv' := [(3, .int 0), (2, .int 0), (0, .ref y0), (1, .int p1)]) hx hb dX11_rowOf_3 rfl hl (by decide) rfl (fun ls hl => ?_)
  refine lv_iconst (v := 0) hx hb dX11_rowOf_4 (by decide) ?_
  refine lv_istore (lv' := [(4, .int 0), (3, .int 0), (2, .int 0), (0, .ref y0), (1, .int p1)]) hx hb dX11_rowOf_5 hl (by decide) rfl (fun ls hl => ?_)
  have lp1 : ∀ (n1 : Nat) (l2_1 : Int32) (l3_1 : Int32) (l4_1 : Int32), ((0 : Int) ≤ l4_1.toInt ∧ l4_1.toInt ≤ 2147483647) → (2147483647 - l4_1.toInt).toNat < n1 → ∀ (H : Heap) (locs : List Loc) (ls : Array Slot), va_P (dC, dI) vwCl (YW cy y0 r v f w g) H → va_D A (YW cy y0 r v f w g) → va_S A s.heap H locs → lv_has ls 5 [(4, .int l4_1), (3, .int l3_1), (2, .int l2_1), (0, .ref y0), (1, .int p1)] → W p l e { frames := 2, cells := 0, slots := 0, locals := 81 } s m ([.ref y0, .int p1] : List Value).toArray below meth c H locs 0 0 Q (F0 m 7 ls []) := by
    intro n1
    induction n1 with
    | zero => intro l2_1 l3_1 l4_1 hr4_1 hm; exact absurd hm (Nat.not_lt_zero _)
    | succ n1 ih1 =>
      intro l2_1 l3_1 l4_1 hr4_1 hm1 H locs ls hP hD hS hl
      refine lv_iload hx hb dX11_rowOf_7 (lv_at hl 0 rfl) ?_
      refine lv_aload_n hx hb dX11_rowOf_9 rfl (lv_at hl 3 rfl) ?_
      refine va_get (D := (dC, dI)) (ci := 11) (v := .int (v 25)) (C := RX11) (T := TX11) (N := 79) hx hb hts inB_11 hown hE.1 hP 0 rfl rfl 49 (by decide) (hts _ k_1369) (fun _ h9 => h9) rfl dX11_rowOf_10 ?_
      have b25_v : 0 ≤ (v 25).toInt ∧ (v 25).toInt ≤ 6 := YIb.b hIv.1 25 (by decide)
      refine lv_icmp_ge (tgt := 62) hx hb dX11_rowOf_13 (by decide) (fun c2 => ?_) (fun c2 => ?_)
      · skip
        have zc2 : (v 25).toInt ≤ l4_1.toInt := by rw [fa_le] at c2; exact c2
        have rg3 := fb_rng l4_1
        have rg4 := fb_rng (v 25)
        refine lv_iload_n hx hb dX11_rowOf_62 rfl (lv_at hl 2 rfl) ?_
        refine lv_aload_n hx hb dX11_rowOf_63 rfl (lv_at hl 3 rfl) ?_
        refine va_get (D := (dC, dI)) (ci := 11) (v := .int (v 27)) (C := RX11) (T := TX11) (N := 79) hx hb hts inB_11 hown hE.1 hP 0 rfl rfl 51 (by decide) (hts _ k_1371) (fun _ h9 => h9) rfl dX11_rowOf_64 ?_
        refine lv_icmp_le (tgt := 76) hx hb dX11_rowOf_67 (by decide) (fun c5 => ?_) (fun c5 => ?_)
        · skip
          have zc5 : l2_1.toInt ≤ (v 27).toInt := by rw [fa_le] at c5; exact c5
          have rg6 := fb_rng l2_1
          have rg7 := fb_rng (v 27)
          refine lv_iload_n hx hb dX11_rowOf_76 rfl (lv_at hl 1 rfl) ?_
          exact ret l3_1 () _ _ _ _ _ _ rfl trivial hP hD hS dX11_rowOf_77 (Nat.le_refl _) (Nat.le_refl _)
        · skip
          have zc5 : ¬ (l2_1.toInt ≤ (v 27).toInt) := by rw [fa_le] at c5; exact c5
          have rg8 := fb_rng l2_1
          have rg9 := fb_rng (v 27)
          refine lv_ldcw (v := 1000000) hx hb hown (hts _ k_1927) dX11_rowOf_70 ?_
          refine lv_goto (tgt := 77) hx hb dX11_rowOf_73 (by decide) ?_
          exact ret 1000000 () _ _ _ _ _ _ rfl trivial hP hD hS dX11_rowOf_77 (Nat.le_refl _) (Nat.le_refl _)
      · skip
        have zc2 : ¬ ((v 25).toInt ≤ l4_1.toInt) := by rw [fa_le] at c2; exact c2
        have rg10 := fb_rng l4_1
        have rg11 := fb_rng (v 25)
        refine lv_iload_n hx hb dX11_rowOf_16 rfl (lv_at hl 4 rfl) ?_
        refine lv_iload hx hb dX11_rowOf_17 (lv_at hl 0 rfl) ?_
        refine lv_ishr hx hb dX11_rowOf_19 ?_
        refine lv_topi (fun t12 et12 => ?_)
        refine lv_iconst (v := 1) hx hb dX11_rowOf_20 (by decide) ?_
        refine lv_iand hx hb dX11_rowOf_21 ?_
        refine lv_topi (fun t13 et13 => ?_)
        have zt13 : 0 ≤ t13.toInt ∧ t13.toInt < 2 := by rw [et13]; exact and_rng _ (k := 1) (by decide) (by decide)
        refine lv_if_ne (tgt := 28) hx hb dX11_rowOf_22 (by decide) (fun c14 => ?_) (fun c14 => ?_)
        · skip
          have zc14 : ¬ (t13.toInt = 0) := by rw [fa_eq, show (0 : Int32).toInt = 0 from by decide] at c14; exact c14
          refine lv_iload_n hx hb dX11_rowOf_28 rfl (lv_at hl 2 rfl) ?_
          refine lv_aload_n hx hb dX11_rowOf_29 rfl (lv_at hl 3 rfl) ?_
          refine va_get (D := (dC, dI)) (ci := 11) (v := .ref (r 59)) (C := RX11) (T := TX11) (N := 79) hx hb hts inB_11 hown hE.1 hP 0 rfl rfl 59 (by decide) (hts _ k_1379) (fun _ h9 => h9) rfl dX11_rowOf_30 ?_
          refine lv_bipush (v := 18) hx hb dX11_rowOf_33 (by decide) ?_
          refine lv_iload hx hb dX11_rowOf_35 (lv_at hl 0 rfl) ?_
          refine lv_iadd hx hb dX11_rowOf_37 ?_
          refine lv_topi (fun t15 et15 => ?_)
          have zt15 : t15.toInt = 18 + l4_1.toInt := by rw [et15]; exact add_i (by decide) rfl (by omega) (by omega)
          refine ldI hx hb hE hP 24 rfl (vp_in_iff.mpr ⟨by omega, by omega⟩) rfl rfl dX11_rowOf_38 ?_
          refine lv_topi (fun t16 et16 => ?_)
          have zt16 : t15.toInt.toNat % 39 < 6 ∨ 12 ≤ t15.toInt.toNat % 39 ∨ (-1 ≤ t16.toInt ∧ t16.toInt ≤ 5) := by rw [et16]; exact wear_ld hCf.1 (show t15.toInt.toNat < 39 by omega)
          refine lv_iadd hx hb dX11_rowOf_39 ?_
          refine lv_topi (fun t17 et17 => ?_)
          refine lv_istore_n (lv' := [(2, .int t17), (4, .int l4_1), (3, .int l3_1), (0, .ref y0), (1, .int p1)]) hx hb dX11_rowOf_40 rfl hl (by decide) rfl (fun ls hl => ?_)
          refine lv_iload_n hx hb dX11_rowOf_41 rfl (lv_at hl 2 rfl) ?_
          refine lv_aload_n hx hb dX11_rowOf_42 rfl (lv_at hl 3 rfl) ?_
          refine va_get (D := (dC, dI)) (ci := 11) (v := .ref (r 59)) (C := RX11) (T := TX11) (N := 79) hx hb hts inB_11 hown hE.1 hP 0 rfl rfl 59 (by decide) (hts _ k_1379) (fun _ h9 => h9) rfl dX11_rowOf_43 ?_
          refine lv_bipush (v := 12) hx hb dX11_rowOf_46 (by decide) ?_
          refine lv_iload hx hb dX11_rowOf_48 (lv_at hl 1 rfl) ?_
          refine lv_iadd hx hb dX11_rowOf_50 ?_
          refine lv_topi (fun t18 et18 => ?_)
          have zt18 : t18.toInt = 12 + l4_1.toInt := by rw [et18]; exact add_i (by decide) rfl (by omega) (by omega)
          refine ldI hx hb hE hP 24 rfl (vp_in_iff.mpr ⟨by omega, by omega⟩) rfl rfl dX11_rowOf_51 ?_
          refine lv_topi (fun t19 et19 => ?_)
          have zt19 : t18.toInt.toNat % 39 < 6 ∨ 12 ≤ t18.toInt.toNat % 39 ∨ (-1 ≤ t19.toInt ∧ t19.toInt ≤ 5) := by rw [et19]; exact wear_ld hCf.1 (show t18.toInt.toNat < 39 by omega)
          refine cbSi (n := 2) (rest := []) hx hb hml hown hts hE hP hD hS hA (sY_X11_greater_1 0 l dC dI cy y0 r l3_1 t19 v f w g hIv hCf hRf ) k_1802 k_1803 k_114 k_1804 (by decide +kernel) ⟨Nat.le_of_ble_eq_true rfl, Nat.le_of_ble_eq_true rfl⟩ (rfl) hl.1 rfl (Nat.le_of_ble_eq_true rfl) dX11_rowOf_52 (fun r20 u H locs hw hP hD hS => ?_)
          have hG21 := hw
          refine lv_istore_n (lv' := [(3, .int r20), (2, .int t17), (4, .int l4_1), (0, .ref y0), (1, .int p1)]) hx hb dX11_rowOf_55 rfl hl (by decide) rfl (fun ls hl => ?_)
          obtain ⟨t22, et22⟩ : ∃ y : Int32, y = l4_1 + 1 := ⟨_, rfl⟩
          have zt22 : t22.toInt = l4_1.toInt + 1 := by rw [et22]; exact add_i rfl (by decide) (by omega) (by omega)
          refine lv_iinc (v := t22) (lv' := [(4, .int t22), (3, .int r20), (2, .int t17), (0, .ref y0), (1, .int p1)]) hx hb dX11_rowOf_56 hl (k := 2) rfl (by rw [et22]; rfl) (by decide) rfl (fun ls hl => ?_)
          refine lv_goto (tgt := 7) hx hb dX11_rowOf_59 (by decide) ?_
          have rg23 := fb_rng t22
          exact ih1 t17 r20 t22 ⟨show (0 : Int) ≤ t22.toInt by omega, show t22.toInt ≤ (2147483647 : Int) by omega⟩ (by show (2147483647 - t22.toInt).toNat < n1; omega) _ _ _ hP hD hS (lv_sub hl [0, 1, 2, 3, 4] rfl)
        · skip
          have zc14 : t13.toInt = 0 := by rw [fa_eq, show (0 : Int32).toInt = 0 from by decide] at c14; exact c14
          refine lv_goto (tgt := 56) hx hb dX11_rowOf_25 (by decide) ?_
          obtain ⟨t24, et24⟩ : ∃ y : Int32, y = l4_1 + 1 := ⟨_, rfl⟩
          have zt24 : t24.toInt = l4_1.toInt + 1 := by rw [et24]; exact add_i rfl (by decide) (by omega) (by omega)
          refine lv_iinc (v := t24) (lv' := [(4, .int t24), (3, .int l3_1), (2, .int l2_1), (0, .ref y0), (1, .int p1)]) hx hb dX11_rowOf_56 hl (k := 0) rfl (by rw [et24]; rfl) (by decide) rfl (fun ls hl => ?_)
          refine lv_goto (tgt := 7) hx hb dX11_rowOf_59 (by decide) ?_
          have rg25 := fb_rng t24
          exact ih1 l2_1 l3_1 t24 ⟨show (0 : Int) ≤ t24.toInt by omega, show t24.toInt ≤ (2147483647 : Int) by omega⟩ (by show (2147483647 - t24.toInt).toNat < n1; omega) _ _ _ hP hD hS (lv_sub hl [0, 1, 2, 3, 4] rfl)
  exact lp1 _ 0 0 0 ⟨by decide, by decide⟩ (Nat.lt_succ_self _) _ _ _ hP hD hS (lv_sub hl [0, 1, 2, 3, 4] rfl)
