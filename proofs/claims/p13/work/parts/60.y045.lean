set_option maxHeartbeats 4000000 in
set_option maxRecDepth 100000 in
theorem sY_X11_reach_1 (l : Launch) (dC : Nat → ClassId) (dI : Nat → Nat → Nat) (cy : Nat → ClassId) (y0 : Nat) (r : Nat → Nat) (p1 : Int32) (p2 : Int32) (v : Nat → Int32) (f : Nat → Nat → Int32) (w : Int64) (g : Nat → Int64) (hIv : YI v) (hCf : YC f) (hRf : progOK (f 4) (f 5) (v 9).toInt.toNat)  : ctI l (dC, dI) cy yX11_reach cX11_reach 7 .int 5 148 0 0 ((Nat → Int32) × (Nat → Nat → Int32) × (Int64) × (Nat → Int64)) [.ref y0, .int p1, .int p2] (YW cy y0 r v f w g) (fun r u => KV [37] u.1 v ∧ KF [7, 8, 24, 26, 28] u.2.1 f ∧ YI u.1 ∧ YC u.2.1 ∧ progOK (u.2.1 4) (u.2.1 5) (u.1 9).toInt.toNat ∧ u.1 0 = v 0 ∧ u.1 1 = v 1 ∧ u.1 2 = v 2 ∧ u.1 3 = v 3 ∧ u.1 4 = v 4 ∧ u.1 5 = v 5 ∧ u.1 8 = v 8 ∧ u.1 9 = v 9 ∧ u.1 10 = v 10 ∧ u.1 13 = v 13 ∧ u.1 14 = v 14 ∧ u.1 15 = v 15 ∧ u.1 17 = v 17 ∧ u.1 18 = v 18 ∧ u.1 24 = v 24 ∧ u.1 25 = v 25 ∧ u.1 35 = v 35 ∧ u.1 36 = v 36 ∧ u.1 38 = v 38 ∧ u.1 39 = v 39) (fun u => YW cy y0 r u.1 u.2.1 u.2.2.1 u.2.2.2) := by
  refine ctI_of (by decide) (Nat.le_of_ble_eq_true rfl) (fun p e s m below meth c A ls Q hx hb hml hts hown hE hP hD hA hl ret => ?_)
  have hUv : (v 35).toInt + (v 36).toInt ≤ 40 := hIv.2
  have hM_v : KV [37] v v := fun _ _ => rfl
  have hA_f : KF [7, 8, 24, 26, 28] f f := fun _ _ => rfl
  have hown : s.vm.findClass RX11 = some m.cls := hown
  have hS : va_S A s.heap s.heap [] := va_S.rf
  have hl : lv_has ls 7 [(0, .ref y0), (1, .int p1), (2, .int p2)] := hl
  refine lv_aload_n hx hb dX11_reach_0 rfl (lv_at hl 0 rfl) ?_
  refine lv_iconst (v := 0) hx hb dX11_reach_1 (by decide) ?_
  refine va_put (D := (dC, dI)) (ci := 11) (v := .int 0) (ty := tyX11 67) (C := RX11) (T := TX11) (N := 79) hx hb hts inB_11 tyX11 tyX11_ok nmX11 hown hE.1 hP hD hS 0 rfl rfl 67 (by decide) (hts _ k_1387) (fun _ h9 => h9) rfl (tyX11_ok 67 (by decide)) rfl rfl (Nat.le_of_ble_eq_true rfl) dX11_reach_2 (fun H locs hP hD hS => ?_)
  have hP : va_P (dC, dI) vwCl (YW cy y0 r (upd v 37 0) f w g) H := hP
  have hD : va_D A (YW cy y0 r (upd v 37 0) f w g) := hD
  refine lv_aload_n hx hb dX11_reach_5 rfl (lv_at hl 0 rfl) ?_
  refine cbVv (n := 0) (rest := []) hx hb hml hown hts hE hP hD hS hA (sY_X11_layIlls_1 l dC dI cy y0 r  (upd v 37 0) f w g ⟨(YIb.upd (j := 37) (x := 0) hIv.1 (by decide) (by decide)), hIv.2⟩ hCf hRf ) k_1873 k_1875 k_84 k_114 k_1876 (by decide +kernel) ⟨Nat.le_of_ble_eq_true rfl, Nat.le_of_ble_eq_true rfl⟩ 0 11 rfl rfl (rfl) hl.1 rfl (Nat.le_of_ble_eq_true rfl) dX11_reach_6 (fun u H locs hw hP hD hS => ?_)
  obtain ⟨v1, f2, w3, g4⟩ := u
  obtain ⟨kV_v1, kF_f2, hIv1, hCf2, hRf2, hk0_v1, hk1_v1, hk2_v1, hk3_v1, hk4_v1, hk5_v1, hk8_v1, hk9_v1, hk10_v1, hk13_v1, hk14_v1, hk15_v1, hk17_v1, hk18_v1, hk24_v1, hk25_v1, hk35_v1, hk36_v1, hk38_v1, hk39_v1⟩ := hw
  have hM_v1 : KV [37] v1 v := KV.tr kV_v1 (KV.up (j := 37) (x := 0) hM_v rfl) rfl
  have hA_f2 : KF [7, 8, 24, 26, 28] f2 f := KF.tr kF_f2 hA_f rfl
  have hP : va_P (dC, dI) vwCl (YW cy y0 r v1 f2 w3 g4) H := hP
  have hD : va_D A (YW cy y0 r v1 f2 w3 g4) := hD
  have hUv1 : (v1 35).toInt + (v1 36).toInt ≤ 40 := hIv1.2
  have hq0_v1 : v1 0 = (v 0) := hk0_v1
  have hq1_v1 : v1 1 = (v 1) := hk1_v1
  have hq2_v1 : v1 2 = (v 2) := hk2_v1
  have hq3_v1 : v1 3 = (v 3) := hk3_v1
  have hq4_v1 : v1 4 = (v 4) := hk4_v1
  have hq5_v1 : v1 5 = (v 5) := hk5_v1
  have hq8_v1 : v1 8 = (v 8) := hk8_v1
  have hq9_v1 : v1 9 = (v 9) := hk9_v1
  have zq9_v1 := congrArg Int32.toInt hq9_v1
  have hq10_v1 : v1 10 = (v 10) := hk10_v1
  have hq13_v1 : v1 13 = (v 13) := hk13_v1
  have hq14_v1 : v1 14 = (v 14) := hk14_v1
  have hq15_v1 : v1 15 = (v 15) := hk15_v1
  have hq17_v1 : v1 17 = (v 17) := hk17_v1
  have hq18_v1 : v1 18 = (v 18) := hk18_v1
  have hq24_v1 : v1 24 = (v 24) := hk24_v1
  have hq25_v1 : v1 25 = (v 25) := hk25_v1
  have hq35_v1 : v1 35 = (v 35) := hk35_v1
  have hq36_v1 : v1 36 = (v 36) := hk36_v1
  have hq38_v1 : v1 38 = (v 38) := hk38_v1
  have hq39_v1 : v1 39 = (v 39) := hk39_v1
  refine lv_aload_n hx hb dX11_reach_9 rfl (lv_at hl 0 rfl) ?_
  refine cbVi (n := 0) (rest := []) hx hb hml hown hts hE hP hD hS hA (sY_X11_freeCoats_1 l dC dI cy y0 r  v1 f2 w3 g4 hIv1 hCf2 hRf2 ) k_1948 k_1950 k_92 k_114 k_1951 (by decide +kernel) ⟨Nat.le_of_ble_eq_true rfl, Nat.le_of_ble_eq_true rfl⟩ 0 11 rfl rfl (rfl) hl.1 rfl (Nat.le_of_ble_eq_true rfl) dX11_reach_10 (fun r5 u H locs hw hP hD hS => ?_)
  refine lv_istore_n (lv' := [(3, .int r5), (0, .ref y0), (1, .int p1), (2, .int p2)]) hx hb dX11_reach_13 rfl hl (by decide) rfl (fun ls hl => ?_)
  refine lv_aload_n hx hb dX11_reach_14 rfl (lv_at hl 1 rfl) ?_
  refine lv_iload_n hx hb dX11_reach_15 rfl (lv_at hl 2 rfl) ?_
  refine cbVi (n := 1) (rest := []) hx hb hml hown hts hE hP hD hS hA (sY_X11_isMan_1 0 l dC dI cy y0 r p1 v1 f2 w3 g4 hIv1 hCf2 hRf2 ) k_1732 k_1734 k_70 k_114 k_1735 (by decide +kernel) ⟨Nat.le_of_ble_eq_true rfl, Nat.le_of_ble_eq_true rfl⟩ 0 11 rfl rfl (rfl) hl.1 rfl (Nat.le_of_ble_eq_true rfl) dX11_reach_16 (fun r6 u H locs hw hP hD hS => ?_)
  obtain ⟨hG7, hw⟩ := hw
  rcases hw with ⟨g8, g8_0, g8_1, g8_2⟩ | ⟨g8⟩
  · skip
    subst g8
    refine lv_if_eq (tgt := 39) hx hb dX11_reach_19 (by decide) (fun c0 => absurd c0 (by decide)) (fun _ => ?_)
    refine lv_aload_n hx hb dX11_reach_22 rfl (lv_at hl 1 rfl) ?_
    refine lv_iload_n hx hb dX11_reach_23 rfl (lv_at hl 3 rfl) ?_
    refine cbVi (n := 1) (rest := []) hx hb hml hown hts hE hP hD hS hA (sY_X11_isMan_1 0 l dC dI cy y0 r p2 v1 f2 w3 g4 hIv1 hCf2 hRf2 ) k_1732 k_1734 k_70 k_114 k_1735 (by decide +kernel) ⟨Nat.le_of_ble_eq_true rfl, Nat.le_of_ble_eq_true rfl⟩ 0 11 rfl rfl (rfl) hl.1 rfl (Nat.le_of_ble_eq_true rfl) dX11_reach_24 (fun r9 u H locs hw hP hD hS => ?_)
    obtain ⟨hG10, hw⟩ := hw
    rcases hw with ⟨g11, g11_0, g11_1, g11_2⟩ | ⟨g11⟩
    · skip
      subst g11
      refine lv_if_eq (tgt := 39) hx hb dX11_reach_27 (by decide) (fun c0 => absurd c0 (by decide)) (fun _ => ?_)
      refine lv_iload_n hx hb dX11_reach_30 rfl (lv_at hl 2 rfl) ?_
      refine lv_iload_n hx hb dX11_reach_31 rfl (lv_at hl 3 rfl) ?_
      refine lv_icmp_eq (tgt := 39) hx hb dX11_reach_32 (by decide) (fun c12 => ?_) (fun c12 => ?_)
      · skip
        have zc12 : p1.toInt = p2.toInt := by rw [fa_eq] at c12; exact c12
        have rg13 := fb_rng p1
        have rg14 := fb_rng p2
        refine lv_iconst (v := (-1)) hx hb dX11_reach_39 (by decide) ?_
        exact ret (-1) (v1, f2, w3, g4) _ _ _ _ _ _ rfl ⟨hM_v1, hA_f2, hIv1, hCf2, hRf2, hk0_v1, hk1_v1, hk2_v1, hk3_v1, hk4_v1, hk5_v1, hk8_v1, hk9_v1, hk10_v1, hk13_v1, hk14_v1, hk15_v1, hk17_v1, hk18_v1, hk24_v1, hk25_v1, hk35_v1, hk36_v1, hk38_v1, hk39_v1⟩ hP hD hS dX11_reach_40 (Nat.le_refl _) (Nat.le_refl _)
      · skip
        have zc12 : ¬ (p1.toInt = p2.toInt) := by rw [fa_eq] at c12; exact c12
        have rg15 := fb_rng p1
        have rg16 := fb_rng p2
        refine lv_iload_n hx hb dX11_reach_35 rfl (lv_at hl 0 rfl) ?_
        refine lv_if_ne (tgt := 41) hx hb dX11_reach_36 (by decide) (fun c17 => ?_) (fun c17 => ?_)
        · skip
          have zc17 : ¬ (r5.toInt = 0) := by rw [fa_eq, show (0 : Int32).toInt = 0 from by decide] at c17; exact c17
          refine lv_iconst (v := 0) hx hb dX11_reach_41 (by decide) ?_
          refine lv_istore (lv' := [(4, .int 0), (3, .int r5), (0, .ref y0), (1, .int p1), (2, .int p2)]) hx hb dX11_reach_42 hl (by decide) rfl (fun ls hl => ?_)
          refine lv_iconst (v := 0) hx hb dX11_reach_44 (by decide) ?_
          refine lv_istore (lv' := [(5, .int 0), (4, .int 0), (3, .int r5), (0, .ref y0), (1, .int p1), (2, .int p2)]) hx hb dX11_reach_45 hl (by decide) rfl (fun ls hl => ?_)
          have lp18 : ∀ (n18 : Nat) (l4_18 : Int32) (l5_18 : Int32) (v18 : Nat → Int32) (f18 : Nat → Nat → Int32) (w18 : Int64) (g18 : Nat → Int64), YI v18 → YC f18 → progOK (f18 4) (f18 5) (v18 9).toInt.toNat → v18 0 = (v 0) → v18 1 = (v 1) → v18 2 = (v 2) → v18 3 = (v 3) → v18 4 = (v 4) → v18 5 = (v 5) → v18 8 = (v 8) → v18 9 = (v 9) → v18 10 = (v 10) → v18 13 = (v 13) → v18 14 = (v 14) → v18 15 = (v 15) → v18 17 = (v 17) → v18 18 = (v 18) → v18 24 = (v 24) → v18 25 = (v 25) → v18 35 = (v 35) → v18 36 = (v 36) → v18 38 = (v 38) → v18 39 = (v 39) → ((0 : Int) ≤ l5_18.toInt ∧ l5_18.toInt ≤ 2147483647) → KV [37] v18 v → KF [7, 8, 24, 26, 28] f18 f → (2147483647 - l5_18.toInt).toNat < n18 → ∀ (H : Heap) (locs : List Loc) (ls : Array Slot), va_P (dC, dI) vwCl (YW cy y0 r v18 f18 w18 g18) H → va_D A (YW cy y0 r v18 f18 w18 g18) → va_S A s.heap H locs → lv_has ls 7 [(5, .int l5_18), (4, .int l4_18), (3, .int r5), (0, .ref y0), (1, .int p1), (2, .int p2)] → W p l e { frames := 5, cells := 0, slots := 0, locals := 148 } s m ([.ref y0, .int p1, .int p2] : List Value).toArray below meth c H locs 0 0 Q (F0 m 47 ls []) := by
            intro n18
            induction n18 with
            | zero => intro l4_18 l5_18 v18 f18 w18 g18 hIv18 hCf18 hRf18 hq0_v18 hq1_v18 hq2_v18 hq3_v18 hq4_v18 hq5_v18 hq8_v18 hq9_v18 hq10_v18 hq13_v18 hq14_v18 hq15_v18 hq17_v18 hq18_v18 hq24_v18 hq25_v18 hq35_v18 hq36_v18 hq38_v18 hq39_v18 hr5_18 hM_v18 hA_f18 hm; exact absurd hm (Nat.not_lt_zero _)
            | succ n18 ih18 =>
              intro l4_18 l5_18 v18 f18 w18 g18 hIv18 hCf18 hRf18 hq0_v18 hq1_v18 hq2_v18 hq3_v18 hq4_v18 hq5_v18 hq8_v18 hq9_v18 hq10_v18 hq13_v18 hq14_v18 hq15_v18 hq17_v18 hq18_v18 hq24_v18 hq25_v18 hq35_v18 hq36_v18 hq38_v18 hq39_v18 hr5_18 hM_v18 hA_f18 hm18 H locs ls hP hD hS hl
              have hUv18 : (v18 35).toInt + (v18 36).toInt ≤ 40 := hIv18.2
              have zq9_v18 := congrArg Int32.toInt hq9_v18
              refine lv_iload hx hb dX11_reach_47 (lv_at hl 0 rfl) ?_
              refine lv_aload_n hx hb dX11_reach_49 rfl (lv_at hl 3 rfl) ?_
              refine va_get (D := (dC, dI)) (ci := 11) (v := .int (v18 25)) (C := RX11) (T := TX11) (N := 79) hx hb hts inB_11 hown hE.1 hP 0 rfl rfl 49 (by decide) (hts _ k_1369) (fun _ h9 => h9) rfl dX11_reach_50 ?_
              refine tI (y := (v 25)) hq25_v18 ?_
              have b25_v : 0 ≤ (v 25).toInt ∧ (v 25).toInt ≤ 6 := YIb.b hIv.1 25 (by decide)
              refine lv_icmp_ge (tgt := 144) hx hb dX11_reach_53 (by decide) (fun c19 => ?_) (fun c19 => ?_)
              · skip
                have zc19 : (v 25).toInt ≤ l5_18.toInt := by rw [fa_le] at c19; exact c19
                have rg20 := fb_rng l5_18
                have rg21 := fb_rng (v 25)
                refine lv_iload hx hb dX11_reach_144 (lv_at hl 1 rfl) ?_
                exact ret l4_18 (v18, f18, w18, g18) _ _ _ _ _ _ rfl ⟨hM_v18, hA_f18, hIv18, hCf18, hRf18, hq0_v18, hq1_v18, hq2_v18, hq3_v18, hq4_v18, hq5_v18, hq8_v18, hq9_v18, hq10_v18, hq13_v18, hq14_v18, hq15_v18, hq17_v18, hq18_v18, hq24_v18, hq25_v18, hq35_v18, hq36_v18, hq38_v18, hq39_v18⟩ hP hD hS dX11_reach_146 (Nat.le_refl _) (Nat.le_refl _)
              · skip
                have zc19 : ¬ ((v 25).toInt ≤ l5_18.toInt) := by rw [fa_le] at c19; exact c19
                have rg22 := fb_rng l5_18
                have rg23 := fb_rng (v 25)
                refine lv_iconst (v := 0) hx hb dX11_reach_56 (by decide) ?_
                refine lv_istore (lv' := [(6, .int 0), (5, .int l5_18), (4, .int l4_18), (3, .int r5), (0, .ref y0), (1, .int p1), (2, .int p2)]) hx hb dX11_reach_57 hl (by decide) rfl (fun ls hl => ?_)
                have lp24 : ∀ (n24 : Nat) (l4_24 : Int32) (l6_24 : Int32) (v24 : Nat → Int32) (f24 : Nat → Nat → Int32) (w24 : Int64) (g24 : Nat → Int64), YI v24 → YC f24 → progOK (f24 4) (f24 5) (v24 9).toInt.toNat → v24 0 = (v 0) → v24 1 = (v 1) → v24 2 = (v 2) → v24 3 = (v 3) → v24 4 = (v 4) → v24 5 = (v 5) → v24 8 = (v 8) → v24 9 = (v 9) → v24 10 = (v 10) → v24 13 = (v 13) → v24 14 = (v 14) → v24 15 = (v 15) → v24 17 = (v 17) → v24 18 = (v 18) → v24 24 = (v 24) → v24 25 = (v 25) → v24 35 = (v 35) → v24 36 = (v 36) → v24 38 = (v 38) → v24 39 = (v 39) → ((0 : Int) ≤ l6_24.toInt ∧ l6_24.toInt ≤ 2147483647) → KV [37] v24 v → KF [7, 8, 24, 26, 28] f24 f → (2147483647 - l6_24.toInt).toNat < n24 → ∀ (H : Heap) (locs : List Loc) (ls : Array Slot), va_P (dC, dI) vwCl (YW cy y0 r v24 f24 w24 g24) H → va_D A (YW cy y0 r v24 f24 w24 g24) → va_S A s.heap H locs → lv_has ls 7 [(6, .int l6_24), (5, .int l5_18), (4, .int l4_24), (3, .int r5), (0, .ref y0), (1, .int p1), (2, .int p2)] → W p l e { frames := 5, cells := 0, slots := 0, locals := 148 } s m ([.ref y0, .int p1, .int p2] : List Value).toArray below meth c H locs 0 0 Q (F0 m 59 ls []) := by
                  intro n24
                  induction n24 with
                  | zero => intro l4_24 l6_24 v24 f24 w24 g24 hIv24 hCf24 hRf24 hq0_v24 hq1_v24 hq2_v24 hq3_v24 hq4_v24 hq5_v24 hq8_v24 hq9_v24 hq10_v24 hq13_v24 hq14_v24 hq15_v24 hq17_v24 hq18_v24 hq24_v24 hq25_v24 hq35_v24 hq36_v24 hq38_v24 hq39_v24 hr6_24 hM_v24 hA_f24 hm; exact absurd hm (Nat.not_lt_zero _)
                  | succ n24 ih24 =>
                    intro l4_24 l6_24 v24 f24 w24 g24 hIv24 hCf24 hRf24 hq0_v24 hq1_v24 hq2_v24 hq3_v24 hq4_v24 hq5_v24 hq8_v24 hq9_v24 hq10_v24 hq13_v24 hq14_v24 hq15_v24 hq17_v24 hq18_v24 hq24_v24 hq25_v24 hq35_v24 hq36_v24 hq38_v24 hq39_v24 hr6_24 hM_v24 hA_f24 hm24 H locs ls hP hD hS hl
                    have hUv24 : (v24 35).toInt + (v24 36).toInt ≤ 40 := hIv24.2
                    have zq9_v24 := congrArg Int32.toInt hq9_v24
                    refine lv_iload hx hb dX11_reach_59 (lv_at hl 0 rfl) ?_
                    refine lv_aload_n hx hb dX11_reach_61 rfl (lv_at hl 4 rfl) ?_
                    refine va_get (D := (dC, dI)) (ci := 11) (v := .int (v24 25)) (C := RX11) (T := TX11) (N := 79) hx hb hts inB_11 hown hE.1 hP 0 rfl rfl 49 (by decide) (hts _ k_1369) (fun _ h9 => h9) rfl dX11_reach_62 ?_
                    refine tI (y := (v 25)) hq25_v24 ?_
                    have b25_v : 0 ≤ (v 25).toInt ∧ (v 25).toInt ≤ 6 := YIb.b hIv.1 25 (by decide)
                    refine lv_icmp_ge (tgt := 138) hx hb dX11_reach_65 (by decide) (fun c25 => ?_) (fun c25 => ?_)
                    · skip
                      have zc25 : (v 25).toInt ≤ l6_24.toInt := by rw [fa_le] at c25; exact c25
                      have rg26 := fb_rng l6_24
                      obtain ⟨t27, et27⟩ : ∃ y : Int32, y = l5_18 + 1 := ⟨_, rfl⟩
                      have zt27 : t27.toInt = l5_18.toInt + 1 := by rw [et27]; exact add_i rfl (by decide) (by omega) (by omega)
                      refine lv_iinc (v := t27) (lv' := [(5, .int t27), (6, .int l6_24), (4, .int l4_24), (3, .int r5), (0, .ref y0), (1, .int p1), (2, .int p2)]) hx hb dX11_reach_138 hl (k := 1) rfl (by rw [et27]; rfl) (by decide) rfl (fun ls hl => ?_)
                      refine lv_goto (tgt := 47) hx hb dX11_reach_141 (by decide) ?_
                      have rg28 := fb_rng t27
                      exact ih18 l4_24 t27 v24 f24 w24 g24 hIv24 hCf24 hRf24 hq0_v24 hq1_v24 hq2_v24 hq3_v24 hq4_v24 hq5_v24 hq8_v24 hq9_v24 hq10_v24 hq13_v24 hq14_v24 hq15_v24 hq17_v24 hq18_v24 hq24_v24 hq25_v24 hq35_v24 hq36_v24 hq38_v24 hq39_v24 ⟨show (0 : Int) ≤ t27.toInt by omega, show t27.toInt ≤ (2147483647 : Int) by omega⟩ hM_v24 hA_f24 (by show (2147483647 - t27.toInt).toNat < n18; omega) _ _ _ hP hD hS (lv_sub hl [0, 2, 3, 4, 5, 6] rfl)
                    · skip
                      have zc25 : ¬ ((v 25).toInt ≤ l6_24.toInt) := by rw [fa_le] at c25; exact c25
                      have rg29 := fb_rng l6_24
                      refine lv_iload_n hx hb dX11_reach_68 rfl (lv_at hl 3 rfl) ?_
                      refine lv_iload hx hb dX11_reach_69 (lv_at hl 1 rfl) ?_
                      refine lv_ishr hx hb dX11_reach_71 ?_
                      refine lv_topi (fun t30 et30 => ?_)
                      refine lv_iconst (v := 1) hx hb dX11_reach_72 (by decide) ?_
                      refine lv_iand hx hb dX11_reach_73 ?_
                      refine lv_topi (fun t31 et31 => ?_)
                      have zt31 : 0 ≤ t31.toInt ∧ t31.toInt < 2 := by rw [et31]; exact and_rng _ (k := 1) (by decide) (by decide)
                      refine lv_if_eq (tgt := 132) hx hb dX11_reach_74 (by decide) (fun c32 => ?_) (fun c32 => ?_)
                      · skip
                        have zc32 : t31.toInt = 0 := by rw [fa_eq, show (0 : Int32).toInt = 0 from by decide] at c32; exact c32
                        obtain ⟨t33, et33⟩ : ∃ y : Int32, y = l6_24 + 1 := ⟨_, rfl⟩
                        have zt33 : t33.toInt = l6_24.toInt + 1 := by rw [et33]; exact add_i rfl (by decide) (by omega) (by omega)
                        refine lv_iinc (v := t33) (lv' := [(6, .int t33), (5, .int l5_18), (4, .int l4_24), (3, .int r5), (0, .ref y0), (1, .int p1), (2, .int p2)]) hx hb dX11_reach_132 hl (k := 0) rfl (by rw [et33]; rfl) (by decide) rfl (fun ls hl => ?_)
                        refine lv_goto (tgt := 59) hx hb dX11_reach_135 (by decide) ?_
                        have rg34 := fb_rng t33
                        exact ih24 l4_24 t33 v24 f24 w24 g24 hIv24 hCf24 hRf24 hq0_v24 hq1_v24 hq2_v24 hq3_v24 hq4_v24 hq5_v24 hq8_v24 hq9_v24 hq10_v24 hq13_v24 hq14_v24 hq15_v24 hq17_v24 hq18_v24 hq24_v24 hq25_v24 hq35_v24 hq36_v24 hq38_v24 hq39_v24 ⟨show (0 : Int) ≤ t33.toInt by omega, show t33.toInt ≤ (2147483647 : Int) by omega⟩ hM_v24 hA_f24 (by show (2147483647 - t33.toInt).toNat < n24; omega) _ _ _ hP hD hS (lv_sub hl [0, 1, 2, 3, 4, 5, 6] rfl)
                      · skip
                        have zc32 : ¬ (t31.toInt = 0) := by rw [fa_eq, show (0 : Int32).toInt = 0 from by decide] at c32; exact c32
                        refine lv_iload_n hx hb dX11_reach_77 rfl (lv_at hl 3 rfl) ?_
                        refine lv_iload hx hb dX11_reach_78 (lv_at hl 0 rfl) ?_
                        refine lv_ishr hx hb dX11_reach_80 ?_
                        refine lv_topi (fun t35 et35 => ?_)
                        refine lv_iconst (v := 1) hx hb dX11_reach_81 (by decide) ?_
                        refine lv_iand hx hb dX11_reach_82 ?_
                        refine lv_topi (fun t36 et36 => ?_)
                        have zt36 : 0 ≤ t36.toInt ∧ t36.toInt < 2 := by rw [et36]; exact and_rng _ (k := 1) (by decide) (by decide)
                        refine lv_if_eq (tgt := 132) hx hb dX11_reach_83 (by decide) (fun c37 => ?_) (fun c37 => ?_)
                        · skip
                          have zc37 : t36.toInt = 0 := by rw [fa_eq, show (0 : Int32).toInt = 0 from by decide] at c37; exact c37
                          obtain ⟨t38, et38⟩ : ∃ y : Int32, y = l6_24 + 1 := ⟨_, rfl⟩
                          have zt38 : t38.toInt = l6_24.toInt + 1 := by rw [et38]; exact add_i rfl (by decide) (by omega) (by omega)
                          refine lv_iinc (v := t38) (lv' := [(6, .int t38), (5, .int l5_18), (4, .int l4_24), (3, .int r5), (0, .ref y0), (1, .int p1), (2, .int p2)]) hx hb dX11_reach_132 hl (k := 0) rfl (by rw [et38]; rfl) (by decide) rfl (fun ls hl => ?_)
                          refine lv_goto (tgt := 59) hx hb dX11_reach_135 (by decide) ?_
                          have rg39 := fb_rng t38
                          exact ih24 l4_24 t38 v24 f24 w24 g24 hIv24 hCf24 hRf24 hq0_v24 hq1_v24 hq2_v24 hq3_v24 hq4_v24 hq5_v24 hq8_v24 hq9_v24 hq10_v24 hq13_v24 hq14_v24 hq15_v24 hq17_v24 hq18_v24 hq24_v24 hq25_v24 hq35_v24 hq36_v24 hq38_v24 hq39_v24 ⟨show (0 : Int) ≤ t38.toInt by omega, show t38.toInt ≤ (2147483647 : Int) by omega⟩ hM_v24 hA_f24 (by show (2147483647 - t38.toInt).toNat < n24; omega) _ _ _ hP hD hS (lv_sub hl [0, 1, 2, 3, 4, 5, 6] rfl)
                        · skip
                          have zc37 : ¬ (t36.toInt = 0) := by rw [fa_eq, show (0 : Int32).toInt = 0 from by decide] at c37; exact c37
                          refine lv_aload_n hx hb dX11_reach_86 rfl (lv_at hl 4 rfl) ?_
                          refine lv_iload_n hx hb dX11_reach_87 rfl (lv_at hl 5 rfl) ?_
                          refine lv_iload_n hx hb dX11_reach_88 rfl (lv_at hl 6 rfl) ?_
                          refine lv_iload hx hb dX11_reach_89 (lv_at hl 1 rfl) ?_
                          refine lv_iload hx hb dX11_reach_91 (lv_at hl 0 rfl) ?_
                          refine lv_iload_n hx hb dX11_reach_93 rfl (lv_at hl 3 rfl) ?_
                          refine cbVi (n := 5) (rest := []) hx hb hml hown hts hE hP hD hS hA (sY_X11_isRest_1 l dC dI cy y0 r p1 p2 l5_18 l6_24 r5 v24 f24 w24 g24 hIv24 hCf24 hRf24 ⟨show (0 : Int) ≤ p1.toInt by omega, show p1.toInt ≤ (5 : Int) by omega⟩ ⟨show (0 : Int) ≤ p2.toInt by omega, show p2.toInt ≤ (5 : Int) by omega⟩ ⟨show (0 : Int) ≤ l5_18.toInt by omega, show l5_18.toInt ≤ (5 : Int) by omega⟩ ⟨show (0 : Int) ≤ l6_24.toInt by omega, show l6_24.toInt ≤ (5 : Int) by omega⟩) k_1952 k_1954 k_93 k_114 k_1955 (by decide +kernel) ⟨Nat.le_of_ble_eq_true rfl, Nat.le_of_ble_eq_true rfl⟩ 0 11 rfl rfl (rfl) hl.1 rfl (Nat.le_of_ble_eq_true rfl) dX11_reach_94 (fun r40 u H locs hw hP hD hS => ?_)
                          rcases hw with ⟨g41⟩ | ⟨g41⟩
                          · skip
                            subst g41
                            refine lv_if_ne (tgt := 103) hx hb dX11_reach_97 (by decide) (fun _ => ?_) (fun c0 => absurd c0 (by decide))
                            refine lv_iload hx hb dX11_reach_103 (lv_at hl 2 rfl) ?_
                            refine lv_if_ne (tgt := 129) hx hb dX11_reach_105 (by decide) (fun c42 => ?_) (fun c42 => ?_)
                            · skip
                              have zc42 : ¬ (l4_24.toInt = 0) := by rw [fa_eq, show (0 : Int32).toInt = 0 from by decide] at c42; exact c42
                              obtain ⟨t43, et43⟩ : ∃ y : Int32, y = l4_24 + 1 := ⟨_, rfl⟩
                              refine lv_iinc (v := t43) (lv' := [(4, .int t43), (6, .int l6_24), (5, .int l5_18), (3, .int r5), (0, .ref y0), (1, .int p1), (2, .int p2)]) hx hb dX11_reach_129 hl (k := 2) rfl (by rw [et43]; rfl) (by decide) rfl (fun ls hl => ?_)
                              obtain ⟨t44, et44⟩ : ∃ y : Int32, y = l6_24 + 1 := ⟨_, rfl⟩
                              have zt44 : t44.toInt = l6_24.toInt + 1 := by rw [et44]; exact add_i rfl (by decide) (by omega) (by omega)
                              refine lv_iinc (v := t44) (lv' := [(6, .int t44), (4, .int t43), (5, .int l5_18), (3, .int r5), (0, .ref y0), (1, .int p1), (2, .int p2)]) hx hb dX11_reach_132 hl (k := 1) rfl (by rw [et44]; rfl) (by decide) rfl (fun ls hl => ?_)
                              refine lv_goto (tgt := 59) hx hb dX11_reach_135 (by decide) ?_
                              have rg45 := fb_rng t44
                              exact ih24 t43 t44 v24 f24 w24 g24 hIv24 hCf24 hRf24 hq0_v24 hq1_v24 hq2_v24 hq3_v24 hq4_v24 hq5_v24 hq8_v24 hq9_v24 hq10_v24 hq13_v24 hq14_v24 hq15_v24 hq17_v24 hq18_v24 hq24_v24 hq25_v24 hq35_v24 hq36_v24 hq38_v24 hq39_v24 ⟨show (0 : Int) ≤ t44.toInt by omega, show t44.toInt ≤ (2147483647 : Int) by omega⟩ hM_v24 hA_f24 (by show (2147483647 - t44.toInt).toNat < n24; omega) _ _ _ hP hD hS (lv_sub hl [0, 2, 1, 3, 4, 5, 6] rfl)
                            · skip
                              have zc42 : l4_24.toInt = 0 := by rw [fa_eq, show (0 : Int32).toInt = 0 from by decide] at c42; exact c42
                              refine lv_aload_n hx hb dX11_reach_108 rfl (lv_at hl 4 rfl) ?_
                              refine va_get (D := (dC, dI)) (ci := 11) (v := .ref (r 64)) (C := RX11) (T := TX11) (N := 79) hx hb hts inB_11 hown hE.1 hP 0 rfl rfl 64 (by decide) (hts _ k_1384) (fun _ h9 => h9) rfl dX11_reach_109 ?_
                              refine lv_iconst (v := 0) hx hb dX11_reach_112 (by decide) ?_
                              refine lv_iload hx hb dX11_reach_113 (lv_at hl 1 rfl) ?_
                              refine stI hx hb hE hP hD hS 27 rfl (vp_in_nI (n := 0) (by decide) (by decide)) rfl dX11_reach_115 (fun H locs hP hD hS => ?_)
                              obtain ⟨f46, ef46, hP, hD⟩ : ∃ fz9, fz9 = upd2 f24 26 (upd (f24 26) (0 : Int32).toNatClampNeg l5_18) ∧ va_P (dC, dI) vwCl (YW cy y0 r v24 fz9 w24 g24) H ∧ va_D A (YW cy y0 r v24 fz9 w24 g24) := ⟨_, rfl, hP, hD⟩
                              have hCf46 : YC f46 := by rw [ef46]; exact hCf24
                              have hRf46 : progOK (f46 4) (f46 5) (v24 9).toInt.toNat := by rw [ef46]; exact hRf24
                              have hA_f46 : KF [7, 8, 24, 26, 28] f46 f := by rw [ef46]; exact KF.up hA_f24 rfl
                              refine lv_aload_n hx hb dX11_reach_116 rfl (lv_at hl 4 rfl) ?_
                              refine va_get (D := (dC, dI)) (ci := 11) (v := .ref (r 64)) (C := RX11) (T := TX11) (N := 79) hx hb hts inB_11 hown hE.1 hP 0 rfl rfl 64 (by decide) (hts _ k_1384) (fun _ h9 => h9) rfl dX11_reach_117 ?_
                              refine lv_iconst (v := 1) hx hb dX11_reach_120 (by decide) ?_
                              refine lv_iload hx hb dX11_reach_121 (lv_at hl 0 rfl) ?_
                              refine stI hx hb hE hP hD hS 27 rfl (vp_in_nI (n := 1) (by decide) (by decide)) rfl dX11_reach_123 (fun H locs hP hD hS => ?_)
                              obtain ⟨f47, ef47, hP, hD⟩ : ∃ fz9, fz9 = upd2 f46 26 (upd (f46 26) (1 : Int32).toNatClampNeg l6_24) ∧ va_P (dC, dI) vwCl (YW cy y0 r v24 fz9 w24 g24) H ∧ va_D A (YW cy y0 r v24 fz9 w24 g24) := ⟨_, rfl, hP, hD⟩
                              have hCf47 : YC f47 := by rw [ef47]; exact hCf46
                              have hRf47 : progOK (f47 4) (f47 5) (v24 9).toInt.toNat := by rw [ef47]; exact hRf46
                              have hA_f47 : KF [7, 8, 24, 26, 28] f47 f := by rw [ef47]; exact KF.up hA_f46 rfl
                              refine lv_aload_n hx hb dX11_reach_124 rfl (lv_at hl 4 rfl) ?_
                              refine lv_iconst (v := 2) hx hb dX11_reach_125 (by decide) ?_
                              refine va_put (D := (dC, dI)) (ci := 11) (v := .int 2) (ty := tyX11 67) (C := RX11) (T := TX11) (N := 79) hx hb hts inB_11 tyX11 tyX11_ok nmX11 hown hE.1 hP hD hS 0 rfl rfl 67 (by decide) (hts _ k_1387) (fun _ h9 => h9) rfl (tyX11_ok 67 (by decide)) rfl rfl (Nat.le_of_ble_eq_true rfl) dX11_reach_126 (fun H locs hP hD hS => ?_)
                              have hP : va_P (dC, dI) vwCl (YW cy y0 r (upd v24 37 2) f47 w24 g24) H := hP
                              have hD : va_D A (YW cy y0 r (upd v24 37 2) f47 w24 g24) := hD
                              obtain ⟨t48, et48⟩ : ∃ y : Int32, y = l4_24 + 1 := ⟨_, rfl⟩
                              have rg49 := fb_rng l4_24
                              have zt48 : t48.toInt = l4_24.toInt + 1 := by rw [et48]; exact add_i rfl (by decide) (by omega) (by omega)
                              refine lv_iinc (v := t48) (lv' := [(4, .int t48), (6, .int l6_24), (5, .int l5_18), (3, .int r5), (0, .ref y0), (1, .int p1), (2, .int p2)]) hx hb dX11_reach_129 hl (k := 2) rfl (by rw [et48]; rfl) (by decide) rfl (fun ls hl => ?_)
                              obtain ⟨t50, et50⟩ : ∃ y : Int32, y = l6_24 + 1 := ⟨_, rfl⟩
                              have zt50 : t50.toInt = l6_24.toInt + 1 := by rw [et50]; exact add_i rfl (by decide) (by omega) (by omega)
                              refine lv_iinc (v := t50) (lv' := [(6, .int t50), (4, .int t48), (5, .int l5_18), (3, .int r5), (0, .ref y0), (1, .int p1), (2, .int p2)]) hx hb dX11_reach_132 hl (k := 1) rfl (by rw [et50]; rfl) (by decide) rfl (fun ls hl => ?_)
                              refine lv_goto (tgt := 59) hx hb dX11_reach_135 (by decide) ?_
                              have rg51 := fb_rng t50
                              exact ih24 t48 t50 (upd v24 37 2) f47 w24 g24 ⟨(YIb.upd (j := 37) (x := 2) hIv24.1 (by decide) (by decide)), hIv24.2⟩ hCf47 hRf47 hq0_v24 hq1_v24 hq2_v24 hq3_v24 hq4_v24 hq5_v24 hq8_v24 hq9_v24 hq10_v24 hq13_v24 hq14_v24 hq15_v24 hq17_v24 hq18_v24 hq24_v24 hq25_v24 hq35_v24 hq36_v24 hq38_v24 hq39_v24 ⟨show (0 : Int) ≤ t50.toInt by omega, show t50.toInt ≤ (2147483647 : Int) by omega⟩ (KV.up (j := 37) (x := 2) hM_v24 rfl) hA_f47 (by show (2147483647 - t50.toInt).toNat < n24; omega) _ _ _ hP hD hS (lv_sub hl [0, 2, 1, 3, 4, 5, 6] rfl)
                          · skip
                            subst g41
                            refine lv_if_ne (tgt := 103) hx hb dX11_reach_97 (by decide) (fun c0 => absurd (by decide) c0) (fun _ => ?_)
                            refine lv_goto (tgt := 132) hx hb dX11_reach_100 (by decide) ?_
                            obtain ⟨t52, et52⟩ : ∃ y : Int32, y = l6_24 + 1 := ⟨_, rfl⟩
                            have zt52 : t52.toInt = l6_24.toInt + 1 := by rw [et52]; exact add_i rfl (by decide) (by omega) (by omega)
                            refine lv_iinc (v := t52) (lv' := [(6, .int t52), (5, .int l5_18), (4, .int l4_24), (3, .int r5), (0, .ref y0), (1, .int p1), (2, .int p2)]) hx hb dX11_reach_132 hl (k := 0) rfl (by rw [et52]; rfl) (by decide) rfl (fun ls hl => ?_)
                            refine lv_goto (tgt := 59) hx hb dX11_reach_135 (by decide) ?_
                            have rg53 := fb_rng t52
                            exact ih24 l4_24 t52 v24 f24 w24 g24 hIv24 hCf24 hRf24 hq0_v24 hq1_v24 hq2_v24 hq3_v24 hq4_v24 hq5_v24 hq8_v24 hq9_v24 hq10_v24 hq13_v24 hq14_v24 hq15_v24 hq17_v24 hq18_v24 hq24_v24 hq25_v24 hq35_v24 hq36_v24 hq38_v24 hq39_v24 ⟨show (0 : Int) ≤ t52.toInt by omega, show t52.toInt ≤ (2147483647 : Int) by omega⟩ hM_v24 hA_f24 (by show (2147483647 - t52.toInt).toNat < n24; omega) _ _ _ hP hD hS (lv_sub hl [0, 1, 2, 3, 4, 5, 6] rfl)
                exact lp24 _ l4_18 0 v18 f18 w18 g18 hIv18 hCf18 hRf18 hq0_v18 hq1_v18 hq2_v18 hq3_v18 hq4_v18 hq5_v18 hq8_v18 hq9_v18 hq10_v18 hq13_v18 hq14_v18 hq15_v18 hq17_v18 hq18_v18 hq24_v18 hq25_v18 hq35_v18 hq36_v18 hq38_v18 hq39_v18 ⟨by decide, by decide⟩ hM_v18 hA_f18 (Nat.lt_succ_self _) _ _ _ hP hD hS (lv_sub hl [0, 1, 2, 3, 4, 5, 6] rfl)
          exact lp18 _ 0 0 v1 f2 w3 g4 hIv1 hCf2 hRf2 hq0_v1 hq1_v1 hq2_v1 hq3_v1 hq4_v1 hq5_v1 hq8_v1 hq9_v1 hq10_v1 hq13_v1 hq14_v1 hq15_v1 hq17_v1 hq18_v1 hq24_v1 hq25_v1 hq35_v1 hq36_v1 hq38_v1 hq39_v1 ⟨by decide, by decide⟩ hM_v1 hA_f2 (Nat.lt_succ_self _) _ _ _ hP hD hS (lv_sub hl [0, 1, 2, 3, 4, 5] rfl)
        · skip
          have zc17 : r5.toInt = 0 := by rw [fa_eq, show (0 : Int32).toInt = 0 from by decide] at c17; exact c17
          refine lv_iconst (v := (-1)) hx hb dX11_reach_39 (by decide) ?_
          exact ret (-1) (v1, f2, w3, g4) _ _ _ _ _ _ rfl ⟨hM_v1, hA_f2, hIv1, hCf2, hRf2, hk0_v1, hk1_v1, hk2_v1, hk3_v1, hk4_v1, hk5_v1, hk8_v1, hk9_v1, hk10_v1, hk13_v1, hk14_v1, hk15_v1, hk17_v1, hk18_v1, hk24_v1, hk25_v1, hk35_v1, hk36_v1, hk38_v1, hk39_v1⟩ hP hD hS dX11_reach_40 (Nat.le_refl _) (Nat.le_refl _)
    · skip
      subst g11
      refine lv_if_eq (tgt := 39) hx hb dX11_reach_27 (by decide) (fun _ => ?_) (fun c0 => absurd (by decide) c0)
      refine lv_iconst (v := (-1)) hx hb dX11_reach_39 (by decide) ?_
      exact ret (-1) (v1, f2, w3, g4) _ _ _ _ _ _ rfl ⟨hM_v1, hA_f2, hIv1, hCf2, hRf2, hk0_v1, hk1_v1, hk2_v1, hk3_v1, hk4_v1, hk5_v1, hk8_v1, hk9_v1, hk10_v1, hk13_v1, hk14_v1, hk15_v1, hk17_v1, hk18_v1, hk24_v1, hk25_v1, hk35_v1, hk36_v1, hk38_v1, hk39_v1⟩ hP hD hS dX11_reach_40 (Nat.le_refl _) (Nat.le_refl _)
  · skip
    subst g8
    refine lv_if_eq (tgt := 39) hx hb dX11_reach_19 (by decide) (fun _ => ?_) (fun c0 => absurd (by decide) c0)
    refine lv_iconst (v := (-1)) hx hb dX11_reach_39 (by decide) ?_
    exact ret (-1) (v1, f2, w3, g4) _ _ _ _ _ _ rfl ⟨hM_v1, hA_f2, hIv1, hCf2, hRf2, hk0_v1, hk1_v1, hk2_v1, hk3_v1, hk4_v1, hk5_v1, hk8_v1, hk9_v1, hk10_v1, hk13_v1, hk14_v1, hk15_v1, hk17_v1, hk18_v1, hk24_v1, hk25_v1, hk35_v1, hk36_v1, hk38_v1, hk39_v1⟩ hP hD hS dX11_reach_40 (Nat.le_refl _) (Nat.le_refl _)
set_option maxHeartbeats 4000000 in
set_option maxRecDepth 100000 in
theorem sY_X11_turning_1 (l : Launch) (dC : Nat → ClassId) (dI : Nat → Nat → Nat) (cy : Nat → ClassId) (y0 : Nat) (r : Nat → Nat)  (v : Nat → Int32) (f : Nat → Nat → Int32) (w : Int64) (g : Nat → Int64) (hIv : YI v) (hCf : YC f) (hRf : progOK (f 4) (f 5) (v 9).toInt.toNat)  : ctI l (dC, dI) cy yX11_turning cX11_turning 5 .int 7 191 0 0 ((Nat → Int32) × (Nat → Nat → Int32) × (Int64) × (Nat → Int64)) [.ref y0] (YW cy y0 r v f w g) (fun r u => KV [] u.1 v ∧ KF [7, 8, 24] u.2.1 f ∧ YI u.1 ∧ YC u.2.1 ∧ progOK (u.2.1 4) (u.2.1 5) (u.1 9).toInt.toNat ∧ u.1 0 = v 0 ∧ u.1 1 = v 1 ∧ u.1 2 = v 2 ∧ u.1 3 = v 3 ∧ u.1 4 = v 4 ∧ u.1 5 = v 5 ∧ u.1 8 = v 8 ∧ u.1 9 = v 9 ∧ u.1 10 = v 10 ∧ u.1 13 = v 13 ∧ u.1 14 = v 14 ∧ u.1 15 = v 15 ∧ u.1 17 = v 17 ∧ u.1 18 = v 18 ∧ u.1 24 = v 24 ∧ u.1 25 = v 25 ∧ u.1 35 = v 35 ∧ u.1 36 = v 36 ∧ u.1 38 = v 38 ∧ u.1 39 = v 39) (fun u => YW cy y0 r u.1 u.2.1 u.2.2.1 u.2.2.2) := by
  refine ctI_of (by decide) (Nat.le_of_ble_eq_true rfl) (fun p e s m below meth c A ls Q hx hb hml hts hown hE hP hD hA hl ret => ?_)
  have hUv : (v 35).toInt + (v 36).toInt ≤ 40 := hIv.2
  have hM_v : KV [] v v := fun _ _ => rfl
  have hA_f : KF [7, 8, 24] f f := fun _ _ => rfl
  have hown : s.vm.findClass RX11 = some m.cls := hown
  have hS : va_S A s.heap s.heap [] := va_S.rf
  have hl : lv_has ls 5 [(0, .ref y0)] := hl
  refine lv_iconst (v := (-1)) hx hb dX11_turning_0 (by decide) ?_
  refine lv_istore_n (lv' := [(1, .int (-1)), (0, .ref y0)]) hx hb dX11_turning_1 rfl hl (by decide) rfl (fun ls hl => ?_)
  refine lv_iconst (v := (-1)) hx hb dX11_turning_2 (by decide) ?_
  refine lv_istore_n (lv' := [(2, .int (-1)), (1, .int (-1)), (0, .ref y0)]) hx hb dX11_turning_3 rfl hl (by decide) rfl (fun ls hl => ?_)
  refine lv_iconst (v := 0) hx hb dX11_turning_4 (by decide) ?_
  refine lv_istore_n (lv' := [(3, .int 0), (2, .int (-1)), (1, .int (-1)), (0, .ref y0)]) hx hb dX11_turning_5 rfl hl (by decide) rfl (fun ls hl => ?_)
  have lp1 : ∀ (n1 : Nat) (l1_1 : Int32) (l2_1 : Int32) (l3_1 : Int32) (v1 : Nat → Int32) (f1 : Nat → Nat → Int32) (w1 : Int64) (g1 : Nat → Int64), YI v1 → YC f1 → progOK (f1 4) (f1 5) (v1 9).toInt.toNat → v1 0 = (v 0) → v1 1 = (v 1) → v1 2 = (v 2) → v1 3 = (v 3) → v1 4 = (v 4) → v1 5 = (v 5) → v1 8 = (v 8) → v1 9 = (v 9) → v1 10 = (v 10) → v1 13 = (v 13) → v1 14 = (v 14) → v1 15 = (v 15) → v1 17 = (v 17) → v1 18 = (v 18) → v1 24 = (v 24) → v1 25 = (v 25) → v1 35 = (v 35) → v1 36 = (v 36) → v1 38 = (v 38) → v1 39 = (v 39) → ((0 : Int) ≤ l3_1.toInt ∧ l3_1.toInt ≤ 2147483647) → KV [] v1 v → KF [7, 8, 24] f1 f → (2147483647 - l3_1.toInt).toNat < n1 → ∀ (H : Heap) (locs : List Loc) (ls : Array Slot), va_P (dC, dI) vwCl (YW cy y0 r v1 f1 w1 g1) H → va_D A (YW cy y0 r v1 f1 w1 g1) → va_S A s.heap H locs → lv_has ls 5 [(3, .int l3_1), (2, .int l2_1), (1, .int l1_1), (0, .ref y0)] → W p l e { frames := 7, cells := 0, slots := 0, locals := 191 } s m ([.ref y0] : List Value).toArray below meth c H locs 0 0 Q (F0 m 6 ls []) := by
    intro n1
    induction n1 with
    | zero => intro l1_1 l2_1 l3_1 v1 f1 w1 g1 hIv1 hCf1 hRf1 hq0_v1 hq1_v1 hq2_v1 hq3_v1 hq4_v1 hq5_v1 hq8_v1 hq9_v1 hq10_v1 hq13_v1 hq14_v1 hq15_v1 hq17_v1 hq18_v1 hq24_v1 hq25_v1 hq35_v1 hq36_v1 hq38_v1 hq39_v1 hr3_1 hM_v1 hA_f1 hm; exact absurd hm (Nat.not_lt_zero _)
    | succ n1 ih1 =>
      intro l1_1 l2_1 l3_1 v1 f1 w1 g1 hIv1 hCf1 hRf1 hq0_v1 hq1_v1 hq2_v1 hq3_v1 hq4_v1 hq5_v1 hq8_v1 hq9_v1 hq10_v1 hq13_v1 hq14_v1 hq15_v1 hq17_v1 hq18_v1 hq24_v1 hq25_v1 hq35_v1 hq36_v1 hq38_v1 hq39_v1 hr3_1 hM_v1 hA_f1 hm1 H locs ls hP hD hS hl
      have hUv1 : (v1 35).toInt + (v1 36).toInt ≤ 40 := hIv1.2
      have zq9_v1 := congrArg Int32.toInt hq9_v1
      refine lv_iload_n hx hb dX11_turning_6 rfl (lv_at hl 0 rfl) ?_
      refine lv_aload_n hx hb dX11_turning_7 rfl (lv_at hl 3 rfl) ?_
      refine va_get (D := (dC, dI)) (ci := 11) (v := .int (v1 25)) (C := RX11) (T := TX11) (N := 79) hx hb hts inB_11 hown hE.1 hP 0 rfl rfl 49 (by decide) (hts _ k_1369) (fun _ h9 => h9) rfl dX11_turning_8 ?_
      refine tI (y := (v 25)) hq25_v1 ?_
      have b25_v : 0 ≤ (v 25).toInt ∧ (v 25).toInt ≤ 6 := YIb.b hIv.1 25 (by decide)
      refine lv_icmp_ge (tgt := 75) hx hb dX11_turning_11 (by decide) (fun c2 => ?_) (fun c2 => ?_)
      · skip
        have zc2 : (v 25).toInt ≤ l3_1.toInt := by rw [fa_le] at c2; exact c2
        have rg3 := fb_rng l3_1
        have rg4 := fb_rng (v 25)
        refine lv_iload_n hx hb dX11_turning_75 rfl (lv_at hl 2 rfl) ?_
        exact ret l1_1 (v1, f1, w1, g1) _ _ _ _ _ _ rfl ⟨hM_v1, hA_f1, hIv1, hCf1, hRf1, (show v1 0 = v 0 from hq0_v1), (show v1 1 = v 1 from hq1_v1), (show v1 2 = v 2 from hq2_v1), (show v1 3 = v 3 from hq3_v1), (show v1 4 = v 4 from hq4_v1), (show v1 5 = v 5 from hq5_v1), (show v1 8 = v 8 from hq8_v1), (show v1 9 = v 9 from hq9_v1), (show v1 10 = v 10 from hq10_v1), (show v1 13 = v 13 from hq13_v1), (show v1 14 = v 14 from hq14_v1), (show v1 15 = v 15 from hq15_v1), (show v1 17 = v 17 from hq17_v1), (show v1 18 = v 18 from hq18_v1), (show v1 24 = v 24 from hq24_v1), (show v1 25 = v 25 from hq25_v1), (show v1 35 = v 35 from hq35_v1), (show v1 36 = v 36 from hq36_v1), (show v1 38 = v 38 from hq38_v1), (show v1 39 = v 39 from hq39_v1)⟩ hP hD hS dX11_turning_76 (Nat.le_refl _) (Nat.le_refl _)
      · skip
        have zc2 : ¬ ((v 25).toInt ≤ l3_1.toInt) := by rw [fa_le] at c2; exact c2
        have rg5 := fb_rng l3_1
        have rg6 := fb_rng (v 25)
        refine lv_aload_n hx hb dX11_turning_14 rfl (lv_at hl 3 rfl) ?_
        refine cbVv (n := 0) (rest := []) hx hb hml hown hts hE hP hD hS hA (sY_X11_fill_1 0 l dC dI cy y0 r  v1 f1 w1 g1 hIv1 hCf1 hRf1 ) k_1739 k_1741 k_71 k_114 k_1742 (by decide +kernel) ⟨Nat.le_of_ble_eq_true rfl, Nat.le_of_ble_eq_true rfl⟩ 0 11 rfl rfl (rfl) hl.1 rfl (Nat.le_of_ble_eq_true rfl) dX11_turning_15 (fun u H locs hw hP hD hS => ?_)
        obtain ⟨hG7, hw⟩ := hw
        obtain ⟨v8, f9, w10, g11⟩ := u
        obtain ⟨kV_v8, kF_f9, hIv8, hCf9, hRf9, hk0_v8, hk1_v8, hk2_v8, hk3_v8, hk4_v8, hk5_v8, hk8_v8, hk9_v8, hk10_v8, hk13_v8, hk14_v8, hk15_v8, hk17_v8, hk18_v8, hk24_v8, hk25_v8, hk35_v8, hk36_v8, hk38_v8, hk39_v8⟩ := hw
        have hM_v8 : KV [] v8 v := KV.tr kV_v8 hM_v1 rfl
        have hA_f9 : KF [7, 8, 24] f9 f := KF.tr kF_f9 hA_f1 rfl
        have hP : va_P (dC, dI) vwCl (YW cy y0 r v8 f9 w10 g11) H := hP
        have hD : va_D A (YW cy y0 r v8 f9 w10 g11) := hD
        have hUv8 : (v8 35).toInt + (v8 36).toInt ≤ 40 := hIv8.2
        have hq0_v8 : v8 0 = (v 0) := hk0_v8.trans hq0_v1
        have hq1_v8 : v8 1 = (v 1) := hk1_v8.trans hq1_v1
        have hq2_v8 : v8 2 = (v 2) := hk2_v8.trans hq2_v1
        have hq3_v8 : v8 3 = (v 3) := hk3_v8.trans hq3_v1
        have hq4_v8 : v8 4 = (v 4) := hk4_v8.trans hq4_v1
        have hq5_v8 : v8 5 = (v 5) := hk5_v8.trans hq5_v1
        have hq8_v8 : v8 8 = (v 8) := hk8_v8.trans hq8_v1
        have hq9_v8 : v8 9 = (v 9) := hk9_v8.trans hq9_v1
        have zq9_v8 := congrArg Int32.toInt hq9_v8
        have hq10_v8 : v8 10 = (v 10) := hk10_v8.trans hq10_v1
        have hq13_v8 : v8 13 = (v 13) := hk13_v8.trans hq13_v1
        have hq14_v8 : v8 14 = (v 14) := hk14_v8.trans hq14_v1
        have hq15_v8 : v8 15 = (v 15) := hk15_v8.trans hq15_v1
        have hq17_v8 : v8 17 = (v 17) := hk17_v8.trans hq17_v1
        have hq18_v8 : v8 18 = (v 18) := hk18_v8.trans hq18_v1
        have hq24_v8 : v8 24 = (v 24) := hk24_v8.trans hq24_v1
        have hq25_v8 : v8 25 = (v 25) := hk25_v8.trans hq25_v1
        have hq35_v8 : v8 35 = (v 35) := hk35_v8.trans hq35_v1
        have hq36_v8 : v8 36 = (v 36) := hk36_v8.trans hq36_v1
        have hq38_v8 : v8 38 = (v 38) := hk38_v8.trans hq38_v1
        have hq39_v8 : v8 39 = (v 39) := hk39_v8.trans hq39_v1
        refine lv_aload_n hx hb dX11_turning_18 rfl (lv_at hl 3 rfl) ?_
        refine va_get (D := (dC, dI)) (ci := 11) (v := .ref (r 60)) (C := RX11) (T := TX11) (N := 79) hx hb hts inB_11 hown hE.1 hP 0 rfl rfl 60 (by decide) (hts _ k_1380) (fun _ h9 => h9) rfl dX11_turning_19 ?_
        refine lv_bipush (v := 36) hx hb dX11_turning_22 (by decide) ?_
        refine ldI hx hb hE hP 25 rfl (vp_in_nI (n := 36) (by decide) (by decide)) rfl rfl dX11_turning_24 ?_
        refine lv_topi (fun t12 et12 => ?_)
        have zt12 : 36 % 39 < 6 ∨ 12 ≤ 36 % 39 ∨ (-1 ≤ t12.toInt ∧ t12.toInt ≤ 5) := by rw [et12]; exact wear_ld hCf9.2.1 (show 36 < 39 by omega)
        refine lv_iload_n hx hb dX11_turning_25 rfl (lv_at hl 0 rfl) ?_
        refine lv_ishr hx hb dX11_turning_26 ?_
        refine lv_topi (fun t13 et13 => ?_)
        refine lv_iconst (v := 1) hx hb dX11_turning_27 (by decide) ?_
        refine lv_iand hx hb dX11_turning_28 ?_
        refine lv_topi (fun t14 et14 => ?_)
        have zt14 : 0 ≤ t14.toInt ∧ t14.toInt < 2 := by rw [et14]; exact and_rng _ (k := 1) (by decide) (by decide)
        refine lv_iconst (v := 1) hx hb dX11_turning_29 (by decide) ?_
        refine lv_icmp_ne (tgt := 36) hx hb dX11_turning_30 (by decide) (fun c15 => ?_) (fun c15 => ?_)
        · skip
          have zc15 : ¬ (t14.toInt = 1) := by rw [fa_eq, show (1 : Int32).toInt = 1 from by decide] at c15; exact c15
          refine lv_aload_n hx hb dX11_turning_36 rfl (lv_at hl 3 rfl) ?_
          refine va_get (D := (dC, dI)) (ci := 11) (v := .ref (r 60)) (C := RX11) (T := TX11) (N := 79) hx hb hts inB_11 hown hE.1 hP 0 rfl rfl 60 (by decide) (hts _ k_1380) (fun _ h9 => h9) rfl dX11_turning_37 ?_
          refine lv_bipush (v := 30) hx hb dX11_turning_40 (by decide) ?_
          refine lv_iload_n hx hb dX11_turning_42 rfl (lv_at hl 0 rfl) ?_
          refine lv_iadd hx hb dX11_turning_43 ?_
          refine lv_topi (fun t16 et16 => ?_)
          have zt16 : t16.toInt = 30 + l3_1.toInt := by rw [et16]; exact add_i (by decide) rfl (by omega) (by omega)
          refine lv_iconst (v := 0) hx hb dX11_turning_44 (by decide) ?_
          refine stI hx hb hE hP hD hS 25 rfl (vp_in_iff.mpr ⟨by omega, by omega⟩) rfl dX11_turning_45 (fun H locs hP hD hS => ?_)
          obtain ⟨f17, ef17, hP, hD⟩ : ∃ fz9, fz9 = upd2 f9 24 (upd (f9 24) t16.toNatClampNeg 0) ∧ va_P (dC, dI) vwCl (YW cy y0 r v8 fz9 w10 g11) H ∧ va_D A (YW cy y0 r v8 fz9 w10 g11) := ⟨_, rfl, hP, hD⟩
          have hCf17 : YC f17 := by rw [ef17]; exact ⟨hCf9.1, (wear_st hCf9.2.1 (by have q9 : (0 : Int32).toInt = 0 := (by decide); show t16.toInt.toNat % 39 < 6 ∨ 12 ≤ t16.toInt.toNat % 39 ∨ (-1 ≤ (0 : Int32).toInt ∧ (0 : Int32).toInt ≤ 5); omega)), hCf9.2.2.1, hCf9.2.2.2.1, hCf9.2.2.2.2.1, hCf9.2.2.2.2.2⟩
          have hRf17 : progOK (f17 4) (f17 5) (v8 9).toInt.toNat := by rw [ef17]; exact hRf9
          have hA_f17 : KF [7, 8, 24] f17 f := by rw [ef17]; exact KF.up hA_f9 rfl
          refine lv_aload_n hx hb dX11_turning_46 rfl (lv_at hl 3 rfl) ?_
          refine cbVi (n := 0) (rest := []) hx hb hml hown hts hE hP hD hS hA (sY_X11_fittedOnes_1 0 l dC dI cy y0 r  v8 f17 w10 g11 hIv8 hCf17 hRf17 ) k_1809 k_1811 k_81 k_114 k_1812 (by decide +kernel) ⟨Nat.le_of_ble_eq_true rfl, Nat.le_of_ble_eq_true rfl⟩ 0 11 rfl rfl (rfl) hl.1 rfl (Nat.le_of_ble_eq_true rfl) dX11_turning_47 (fun r18 u H locs hw hP hD hS => ?_)
          obtain ⟨hG19, hw⟩ := hw
          obtain ⟨v20, f21, w22, g23⟩ := u
          obtain ⟨kV_v20, kF_f21, hIv20, hCf21, hRf21, hk0_v20, hk1_v20, hk2_v20, hk3_v20, hk4_v20, hk5_v20, hk8_v20, hk9_v20, hk10_v20, hk13_v20, hk14_v20, hk15_v20, hk17_v20, hk18_v20, hk24_v20, hk25_v20, hk35_v20, hk36_v20, hk38_v20, hk39_v20⟩ := hw
          have hM_v20 : KV [] v20 v := KV.tr kV_v20 hM_v8 rfl
          have hA_f21 : KF [7, 8, 24] f21 f := KF.tr kF_f21 hA_f17 rfl
          have hP : va_P (dC, dI) vwCl (YW cy y0 r v20 f21 w22 g23) H := hP
          have hD : va_D A (YW cy y0 r v20 f21 w22 g23) := hD
          have hUv20 : (v20 35).toInt + (v20 36).toInt ≤ 40 := hIv20.2
          have hq0_v20 : v20 0 = (v 0) := hk0_v20.trans hq0_v8
          have hq1_v20 : v20 1 = (v 1) := hk1_v20.trans hq1_v8
          have hq2_v20 : v20 2 = (v 2) := hk2_v20.trans hq2_v8
          have hq3_v20 : v20 3 = (v 3) := hk3_v20.trans hq3_v8
          have hq4_v20 : v20 4 = (v 4) := hk4_v20.trans hq4_v8
          have hq5_v20 : v20 5 = (v 5) := hk5_v20.trans hq5_v8
          have hq8_v20 : v20 8 = (v 8) := hk8_v20.trans hq8_v8
          have hq9_v20 : v20 9 = (v 9) := hk9_v20.trans hq9_v8
          have zq9_v20 := congrArg Int32.toInt hq9_v20
          have hq10_v20 : v20 10 = (v 10) := hk10_v20.trans hq10_v8
          have hq13_v20 : v20 13 = (v 13) := hk13_v20.trans hq13_v8
          have hq14_v20 : v20 14 = (v 14) := hk14_v20.trans hq14_v8
          have hq15_v20 : v20 15 = (v 15) := hk15_v20.trans hq15_v8
          have hq17_v20 : v20 17 = (v 17) := hk17_v20.trans hq17_v8
          have hq18_v20 : v20 18 = (v 18) := hk18_v20.trans hq18_v8
          have hq24_v20 : v20 24 = (v 24) := hk24_v20.trans hq24_v8
          have hq25_v20 : v20 25 = (v 25) := hk25_v20.trans hq25_v8
          have hq35_v20 : v20 35 = (v 35) := hk35_v20.trans hq35_v8
          have hq36_v20 : v20 36 = (v 36) := hk36_v20.trans hq36_v8
          have hq38_v20 : v20 38 = (v 38) := hk38_v20.trans hq38_v8
          have hq39_v20 : v20 39 = (v 39) := hk39_v20.trans hq39_v8
          refine cbSi (n := 1) (rest := []) hx hb hml hown hts hE hP hD hS hA (sY_X11_members_1 l dC dI cy y0 r r18 v20 f21 w22 g23 hIv20 hCf21 hRf21 ) k_1900 k_1901 k_114 k_1902 (by decide +kernel) ⟨Nat.le_of_ble_eq_true rfl, Nat.le_of_ble_eq_true rfl⟩ (rfl) hl.1 rfl (Nat.le_of_ble_eq_true rfl) dX11_turning_50 (fun r24 u H locs hw hP hD hS => ?_)
          refine lv_istore (lv' := [(4, .int r24), (3, .int l3_1), (2, .int l2_1), (1, .int l1_1), (0, .ref y0)]) hx hb dX11_turning_53 hl (by decide) rfl (fun ls hl => ?_)
          refine lv_iload hx hb dX11_turning_55 (lv_at hl 0 rfl) ?_
          refine lv_iload_n hx hb dX11_turning_57 rfl (lv_at hl 2 rfl) ?_
          refine lv_icmp_gt (tgt := 64) hx hb dX11_turning_58 (by decide) (fun c25 => ?_) (fun c25 => ?_)
          · skip
            have zc25 : l2_1.toInt < r24.toInt := by rw [fa_lt] at c25; exact c25
            have rg26 := fb_rng r24
            have rg27 := fb_rng l2_1
            refine lv_iload_n hx hb dX11_turning_64 rfl (lv_at hl 1 rfl) ?_
            refine lv_istore_n (lv' := [(1, .int l3_1), (4, .int r24), (3, .int l3_1), (2, .int l2_1), (0, .ref y0)]) hx hb dX11_turning_65 rfl hl (by decide) rfl (fun ls hl => ?_)
            refine lv_iload hx hb dX11_turning_66 (lv_at hl 1 rfl) ?_
            refine lv_istore_n (lv' := [(2, .int r24), (1, .int l3_1), (4, .int r24), (3, .int l3_1), (0, .ref y0)]) hx hb dX11_turning_68 rfl hl (by decide) rfl (fun ls hl => ?_)
            obtain ⟨t28, et28⟩ : ∃ y : Int32, y = l3_1 + 1 := ⟨_, rfl⟩
            have zt28 : t28.toInt = l3_1.toInt + 1 := by rw [et28]; exact add_i rfl (by decide) (by omega) (by omega)
            refine lv_iinc (v := t28) (lv' := [(3, .int t28), (2, .int r24), (1, .int l3_1), (4, .int r24), (0, .ref y0)]) hx hb dX11_turning_69 hl (k := 3) rfl (by rw [et28]; rfl) (by decide) rfl (fun ls hl => ?_)
            refine lv_goto (tgt := 6) hx hb dX11_turning_72 (by decide) ?_
            have rg29 := fb_rng t28
            exact ih1 l3_1 r24 t28 v20 f21 w22 g23 hIv20 hCf21 hRf21 hq0_v20 hq1_v20 hq2_v20 hq3_v20 hq4_v20 hq5_v20 hq8_v20 hq9_v20 hq10_v20 hq13_v20 hq14_v20 hq15_v20 hq17_v20 hq18_v20 hq24_v20 hq25_v20 hq35_v20 hq36_v20 hq38_v20 hq39_v20 ⟨show (0 : Int) ≤ t28.toInt by omega, show t28.toInt ≤ (2147483647 : Int) by omega⟩ hM_v20 hA_f21 (by show (2147483647 - t28.toInt).toNat < n1; omega) _ _ _ hP hD hS (lv_sub hl [0, 1, 2, 4] rfl)
          · skip
            have zc25 : ¬ (l2_1.toInt < r24.toInt) := by rw [fa_lt] at c25; exact c25
            have rg30 := fb_rng r24
            have rg31 := fb_rng l2_1
            refine lv_goto (tgt := 69) hx hb dX11_turning_61 (by decide) ?_
            obtain ⟨t32, et32⟩ : ∃ y : Int32, y = l3_1 + 1 := ⟨_, rfl⟩
            have zt32 : t32.toInt = l3_1.toInt + 1 := by rw [et32]; exact add_i rfl (by decide) (by omega) (by omega)
            refine lv_iinc (v := t32) (lv' := [(3, .int t32), (4, .int r24), (2, .int l2_1), (1, .int l1_1), (0, .ref y0)]) hx hb dX11_turning_69 hl (k := 1) rfl (by rw [et32]; rfl) (by decide) rfl (fun ls hl => ?_)
            refine lv_goto (tgt := 6) hx hb dX11_turning_72 (by decide) ?_
            have rg33 := fb_rng t32
            exact ih1 l1_1 l2_1 t32 v20 f21 w22 g23 hIv20 hCf21 hRf21 hq0_v20 hq1_v20 hq2_v20 hq3_v20 hq4_v20 hq5_v20 hq8_v20 hq9_v20 hq10_v20 hq13_v20 hq14_v20 hq15_v20 hq17_v20 hq18_v20 hq24_v20 hq25_v20 hq35_v20 hq36_v20 hq38_v20 hq39_v20 ⟨show (0 : Int) ≤ t32.toInt by omega, show t32.toInt ≤ (2147483647 : Int) by omega⟩ hM_v20 hA_f21 (by show (2147483647 - t32.toInt).toNat < n1; omega) _ _ _ hP hD hS (lv_sub hl [0, 2, 3, 4] rfl)
        · skip
          have zc15 : t14.toInt = 1 := by rw [fa_eq, show (1 : Int32).toInt = 1 from by decide] at c15; exact c15
          refine lv_goto (tgt := 69) hx hb dX11_turning_33 (by decide) ?_
          obtain ⟨t34, et34⟩ : ∃ y : Int32, y = l3_1 + 1 := ⟨_, rfl⟩
          have zt34 : t34.toInt = l3_1.toInt + 1 := by rw [et34]; exact add_i rfl (by decide) (by omega) (by omega)
          refine lv_iinc (v := t34) (lv' := [(3, .int t34), (2, .int l2_1), (1, .int l1_1), (0, .ref y0)]) hx hb dX11_turning_69 hl (k := 0) rfl (by rw [et34]; rfl) (by decide) rfl (fun ls hl => ?_)
          refine lv_goto (tgt := 6) hx hb dX11_turning_72 (by decide) ?_
          have rg35 := fb_rng t34
          exact ih1 l1_1 l2_1 t34 v8 f9 w10 g11 hIv8 hCf9 hRf9 hq0_v8 hq1_v8 hq2_v8 hq3_v8 hq4_v8 hq5_v8 hq8_v8 hq9_v8 hq10_v8 hq13_v8 hq14_v8 hq15_v8 hq17_v8 hq18_v8 hq24_v8 hq25_v8 hq35_v8 hq36_v8 hq38_v8 hq39_v8 ⟨show (0 : Int) ≤ t34.toInt by omega, show t34.toInt ≤ (2147483647 : Int) by omega⟩ hM_v8 hA_f9 (by show (2147483647 - t34.toInt).toNat < n1; omega) _ _ _ hP hD hS (lv_sub hl [0, 1, 2, 3] rfl)
  exact lp1 _ (-1) (-1) 0 v f w g hIv hCf hRf rfl rfl rfl rfl rfl rfl rfl rfl rfl rfl rfl rfl rfl rfl rfl rfl rfl rfl rfl rfl ⟨by decide, by decide⟩ hM_v hA_f (Nat.lt_succ_self _) _ _ _ hP hD hS (lv_sub hl [0, 1, 2, 3] rfl)
