set_option maxHeartbeats 4000000 in
set_option maxRecDepth 100000 in
theorem sY_X11_rota_1 (l : Launch) (dC : Nat → ClassId) (dI : Nat → Nat → Nat) (cy : Nat → ClassId) (y0 : Nat) (r : Nat → Nat) (p1 : Int32) (v : Nat → Int32) (f : Nat → Nat → Int32) (w : Int64) (g : Nat → Int64) (hIv : YI v) (hCf : YC f) (hRf : progOK (f 4) (f 5) (v 9).toInt.toNat)  : ctI l (dC, dI) cy yX11_rota cX11_rota 6 .int 7 191 0 0 ((Nat → Int32) × (Nat → Nat → Int32) × (Int64) × (Nat → Int64)) [.ref y0, .int p1] (YW cy y0 r v f w g) (fun r u => KV [] u.1 v ∧ KF [7, 8, 24] u.2.1 f ∧ YI u.1 ∧ YC u.2.1 ∧ progOK (u.2.1 4) (u.2.1 5) (u.1 9).toInt.toNat ∧ u.1 0 = v 0 ∧ u.1 1 = v 1 ∧ u.1 2 = v 2 ∧ u.1 3 = v 3 ∧ u.1 4 = v 4 ∧ u.1 5 = v 5 ∧ u.1 8 = v 8 ∧ u.1 9 = v 9 ∧ u.1 10 = v 10 ∧ u.1 13 = v 13 ∧ u.1 14 = v 14 ∧ u.1 15 = v 15 ∧ u.1 17 = v 17 ∧ u.1 18 = v 18 ∧ u.1 24 = v 24 ∧ u.1 25 = v 25 ∧ u.1 35 = v 35 ∧ u.1 36 = v 36 ∧ u.1 38 = v 38 ∧ u.1 39 = v 39) (fun u => YW cy y0 r u.1 u.2.1 u.2.2.1 u.2.2.2) := by
  refine ctI_of (by decide) (Nat.le_of_ble_eq_true rfl) (fun p e s m below meth c A ls Q hx hb hml hts hown hE hP hD hA hl ret => ?_)
  have hUv : (v 35).toInt + (v 36).toInt ≤ 40 := hIv.2
  have hM_v : KV [] v v := fun _ _ => rfl
  have hA_f : KF [7, 8, 24] f f := fun _ _ => rfl
  have hown : s.vm.findClass RX11 = some m.cls := hown
  have hS : va_S A s.heap s.heap [] := va_S.rf
  have hl : lv_has ls 6 [(0, .ref y0), (1, .int p1)] := hl
  refine lv_iload_n hx hb dX11_rota_0 rfl (lv_at hl 1 rfl) ?_
  refine lv_iconst (v := 0) hx hb dX11_rota_1 (by decide) ?_
  refine lv_iconst (v := 1) hx hb dX11_rota_2 (by decide) ?_
  have lt1 : (0 : Int32).toInt = 0 := by decide
  have lt2 : (1 : Int32).toInt = 1 := by decide
  refine cbSi (n := 3) (rest := []) hx hb hml hown hts hE hP hD hS hA (sY_X11_isIn_1 0 l dC dI cy y0 r p1 0 1 v f w g hIv hCf hRf ) k_1736 k_1737 k_114 k_1738 (by decide +kernel) ⟨Nat.le_of_ble_eq_true rfl, Nat.le_of_ble_eq_true rfl⟩ (rfl) hl.1 rfl (Nat.le_of_ble_eq_true rfl) dX11_rota_3 (fun r3 u H locs hw hP hD hS => ?_)
  obtain ⟨hG4, hw⟩ := hw
  rcases hw with ⟨g5, g5_0, g5_1⟩ | ⟨g5⟩
  · skip
    subst g5
    refine lv_if_eq (tgt := 16) hx hb dX11_rota_6 (by decide) (fun c0 => absurd c0 (by decide)) (fun _ => ?_)
    refine lv_aload_n hx hb dX11_rota_9 rfl (lv_at hl 0 rfl) ?_
    refine va_get (D := (dC, dI)) (ci := 11) (v := .int (v 24)) (C := RX11) (T := TX11) (N := 79) hx hb hts inB_11 hown hE.1 hP 0 rfl rfl 48 (by decide) (hts _ k_1368) (fun _ h9 => h9) rfl dX11_rota_10 ?_
    have b24_v : 0 ≤ (v 24).toInt ∧ (v 24).toInt ≤ 6 := YIb.b hIv.1 24 (by decide)
    refine lv_if_ne (tgt := 18) hx hb dX11_rota_13 (by decide) (fun c6 => ?_) (fun c6 => ?_)
    · skip
      have zc6 : ¬ ((v 24).toInt = 0) := by rw [fa_eq, show (0 : Int32).toInt = 0 from by decide] at c6; exact c6
      refine lv_iconst (v := 0) hx hb dX11_rota_18 (by decide) ?_
      refine lv_istore_n (lv' := [(2, .int 0), (0, .ref y0), (1, .int p1)]) hx hb dX11_rota_19 rfl hl (by decide) rfl (fun ls hl => ?_)
      refine lv_iconst (v := (-1)) hx hb dX11_rota_20 (by decide) ?_
      refine lv_istore_n (lv' := [(3, .int (-1)), (2, .int 0), (0, .ref y0), (1, .int p1)]) hx hb dX11_rota_21 rfl hl (by decide) rfl (fun ls hl => ?_)
      refine lv_iconst (v := 0) hx hb dX11_rota_22 (by decide) ?_
      refine lv_istore (lv' := [(4, .int 0), (3, .int (-1)), (2, .int 0), (0, .ref y0), (1, .int p1)]) hx hb dX11_rota_23 hl (by decide) rfl (fun ls hl => ?_)
      have lp7 : ∀ (n7 : Nat) (l2_7 : Int32) (l3_7 : Int32) (l4_7 : Int32) (v7 : Nat → Int32) (f7 : Nat → Nat → Int32) (w7 : Int64) (g7 : Nat → Int64), YI v7 → YC f7 → progOK (f7 4) (f7 5) (v7 9).toInt.toNat → v7 0 = (v 0) → v7 1 = (v 1) → v7 2 = (v 2) → v7 3 = (v 3) → v7 4 = (v 4) → v7 5 = (v 5) → v7 8 = (v 8) → v7 9 = (v 9) → v7 10 = (v 10) → v7 13 = (v 13) → v7 14 = (v 14) → v7 15 = (v 15) → v7 17 = (v 17) → v7 18 = (v 18) → v7 24 = (v 24) → v7 25 = (v 25) → v7 35 = (v 35) → v7 36 = (v 36) → v7 38 = (v 38) → v7 39 = (v 39) → ((0 : Int) ≤ l4_7.toInt ∧ l4_7.toInt ≤ 2147483647) → KV [] v7 v → KF [7, 8, 24] f7 f → (2147483647 - l4_7.toInt).toNat < n7 → ∀ (H : Heap) (locs : List Loc) (ls : Array Slot), va_P (dC, dI) vwCl (YW cy y0 r v7 f7 w7 g7) H → va_D A (YW cy y0 r v7 f7 w7 g7) → va_S A s.heap H locs → lv_has ls 6 [(4, .int l4_7), (3, .int l3_7), (2, .int l2_7), (0, .ref y0), (1, .int p1)] → W p l e { frames := 7, cells := 0, slots := 0, locals := 191 } s m ([.ref y0, .int p1] : List Value).toArray below meth c H locs 0 0 Q (F0 m 25 ls []) := by
        intro n7
        induction n7 with
        | zero => intro l2_7 l3_7 l4_7 v7 f7 w7 g7 hIv7 hCf7 hRf7 hq0_v7 hq1_v7 hq2_v7 hq3_v7 hq4_v7 hq5_v7 hq8_v7 hq9_v7 hq10_v7 hq13_v7 hq14_v7 hq15_v7 hq17_v7 hq18_v7 hq24_v7 hq25_v7 hq35_v7 hq36_v7 hq38_v7 hq39_v7 hr4_7 hM_v7 hA_f7 hm; exact absurd hm (Nat.not_lt_zero _)
        | succ n7 ih7 =>
          intro l2_7 l3_7 l4_7 v7 f7 w7 g7 hIv7 hCf7 hRf7 hq0_v7 hq1_v7 hq2_v7 hq3_v7 hq4_v7 hq5_v7 hq8_v7 hq9_v7 hq10_v7 hq13_v7 hq14_v7 hq15_v7 hq17_v7 hq18_v7 hq24_v7 hq25_v7 hq35_v7 hq36_v7 hq38_v7 hq39_v7 hr4_7 hM_v7 hA_f7 hm7 H locs ls hP hD hS hl
          have hUv7 : (v7 35).toInt + (v7 36).toInt ≤ 40 := hIv7.2
          have zq9_v7 := congrArg Int32.toInt hq9_v7
          refine lv_iload hx hb dX11_rota_25 (lv_at hl 0 rfl) ?_
          refine lv_aload_n hx hb dX11_rota_27 rfl (lv_at hl 3 rfl) ?_
          refine va_get (D := (dC, dI)) (ci := 11) (v := .int (v7 24)) (C := RX11) (T := TX11) (N := 79) hx hb hts inB_11 hown hE.1 hP 0 rfl rfl 48 (by decide) (hts _ k_1368) (fun _ h9 => h9) rfl dX11_rota_28 ?_
          refine tI (y := (v 24)) hq24_v7 ?_
          have b24_v : 0 ≤ (v 24).toInt ∧ (v 24).toInt ≤ 6 := YIb.b hIv.1 24 (by decide)
          refine lv_icmp_ge (tgt := 114) hx hb dX11_rota_31 (by decide) (fun c8 => ?_) (fun c8 => ?_)
          · skip
            have zc8 : (v 24).toInt ≤ l4_7.toInt := by rw [fa_le] at c8; exact c8
            have rg9 := fb_rng l4_7
            have rg10 := fb_rng (v 24)
            refine lv_iload_n hx hb dX11_rota_114 rfl (lv_at hl 4 rfl) ?_
            refine lv_if_ne (tgt := 122) hx hb dX11_rota_115 (by decide) (fun c11 => ?_) (fun c11 => ?_)
            · skip
              have zc11 : ¬ (p1.toInt = 0) := by rw [fa_eq, show (0 : Int32).toInt = 0 from by decide] at c11; exact c11
              refine lv_iload_n hx hb dX11_rota_122 rfl (lv_at hl 1 rfl) ?_
              exact ret l3_7 (v7, f7, w7, g7) _ _ _ _ _ _ rfl ⟨hM_v7, hA_f7, hIv7, hCf7, hRf7, (show v7 0 = v 0 from hq0_v7), (show v7 1 = v 1 from hq1_v7), (show v7 2 = v 2 from hq2_v7), (show v7 3 = v 3 from hq3_v7), (show v7 4 = v 4 from hq4_v7), (show v7 5 = v 5 from hq5_v7), (show v7 8 = v 8 from hq8_v7), (show v7 9 = v 9 from hq9_v7), (show v7 10 = v 10 from hq10_v7), (show v7 13 = v 13 from hq13_v7), (show v7 14 = v 14 from hq14_v7), (show v7 15 = v 15 from hq15_v7), (show v7 17 = v 17 from hq17_v7), (show v7 18 = v 18 from hq18_v7), (show v7 24 = v 24 from hq24_v7), (show v7 25 = v 25 from hq25_v7), (show v7 35 = v 35 from hq35_v7), (show v7 36 = v 36 from hq36_v7), (show v7 38 = v 38 from hq38_v7), (show v7 39 = v 39 from hq39_v7)⟩ hP hD hS dX11_rota_123 (Nat.le_refl _) (Nat.le_refl _)
            · skip
              have zc11 : p1.toInt = 0 := by rw [fa_eq, show (0 : Int32).toInt = 0 from by decide] at c11; exact c11
              refine lv_iload_n hx hb dX11_rota_118 rfl (lv_at hl 2 rfl) ?_
              refine lv_goto (tgt := 123) hx hb dX11_rota_119 (by decide) ?_
              exact ret l2_7 (v7, f7, w7, g7) _ _ _ _ _ _ rfl ⟨hM_v7, hA_f7, hIv7, hCf7, hRf7, (show v7 0 = v 0 from hq0_v7), (show v7 1 = v 1 from hq1_v7), (show v7 2 = v 2 from hq2_v7), (show v7 3 = v 3 from hq3_v7), (show v7 4 = v 4 from hq4_v7), (show v7 5 = v 5 from hq5_v7), (show v7 8 = v 8 from hq8_v7), (show v7 9 = v 9 from hq9_v7), (show v7 10 = v 10 from hq10_v7), (show v7 13 = v 13 from hq13_v7), (show v7 14 = v 14 from hq14_v7), (show v7 15 = v 15 from hq15_v7), (show v7 17 = v 17 from hq17_v7), (show v7 18 = v 18 from hq18_v7), (show v7 24 = v 24 from hq24_v7), (show v7 25 = v 25 from hq25_v7), (show v7 35 = v 35 from hq35_v7), (show v7 36 = v 36 from hq36_v7), (show v7 38 = v 38 from hq38_v7), (show v7 39 = v 39 from hq39_v7)⟩ hP hD hS dX11_rota_123 (Nat.le_refl _) (Nat.le_refl _)
          · skip
            have zc8 : ¬ ((v 24).toInt ≤ l4_7.toInt) := by rw [fa_le] at c8; exact c8
            have rg12 := fb_rng l4_7
            have rg13 := fb_rng (v 24)
            refine lv_aload_n hx hb dX11_rota_34 rfl (lv_at hl 3 rfl) ?_
            refine cbVv (n := 0) (rest := []) hx hb hml hown hts hE hP hD hS hA (sY_X11_fill_1 0 l dC dI cy y0 r  v7 f7 w7 g7 hIv7 hCf7 hRf7 ) k_1739 k_1741 k_71 k_114 k_1742 (by decide +kernel) ⟨Nat.le_of_ble_eq_true rfl, Nat.le_of_ble_eq_true rfl⟩ 0 11 rfl rfl (rfl) hl.1 rfl (Nat.le_of_ble_eq_true rfl) dX11_rota_35 (fun u H locs hw hP hD hS => ?_)
            obtain ⟨hG14, hw⟩ := hw
            obtain ⟨v15, f16, w17, g18⟩ := u
            obtain ⟨kV_v15, kF_f16, hIv15, hCf16, hRf16, hk0_v15, hk1_v15, hk2_v15, hk3_v15, hk4_v15, hk5_v15, hk8_v15, hk9_v15, hk10_v15, hk13_v15, hk14_v15, hk15_v15, hk17_v15, hk18_v15, hk24_v15, hk25_v15, hk35_v15, hk36_v15, hk38_v15, hk39_v15⟩ := hw
            have hM_v15 : KV [] v15 v := KV.tr kV_v15 hM_v7 rfl
            have hA_f16 : KF [7, 8, 24] f16 f := KF.tr kF_f16 hA_f7 rfl
            have hP : va_P (dC, dI) vwCl (YW cy y0 r v15 f16 w17 g18) H := hP
            have hD : va_D A (YW cy y0 r v15 f16 w17 g18) := hD
            have hUv15 : (v15 35).toInt + (v15 36).toInt ≤ 40 := hIv15.2
            have hq0_v15 : v15 0 = (v 0) := hk0_v15.trans hq0_v7
            have hq1_v15 : v15 1 = (v 1) := hk1_v15.trans hq1_v7
            have hq2_v15 : v15 2 = (v 2) := hk2_v15.trans hq2_v7
            have hq3_v15 : v15 3 = (v 3) := hk3_v15.trans hq3_v7
            have hq4_v15 : v15 4 = (v 4) := hk4_v15.trans hq4_v7
            have hq5_v15 : v15 5 = (v 5) := hk5_v15.trans hq5_v7
            have hq8_v15 : v15 8 = (v 8) := hk8_v15.trans hq8_v7
            have hq9_v15 : v15 9 = (v 9) := hk9_v15.trans hq9_v7
            have zq9_v15 := congrArg Int32.toInt hq9_v15
            have hq10_v15 : v15 10 = (v 10) := hk10_v15.trans hq10_v7
            have hq13_v15 : v15 13 = (v 13) := hk13_v15.trans hq13_v7
            have hq14_v15 : v15 14 = (v 14) := hk14_v15.trans hq14_v7
            have hq15_v15 : v15 15 = (v 15) := hk15_v15.trans hq15_v7
            have hq17_v15 : v15 17 = (v 17) := hk17_v15.trans hq17_v7
            have hq18_v15 : v15 18 = (v 18) := hk18_v15.trans hq18_v7
            have hq24_v15 : v15 24 = (v 24) := hk24_v15.trans hq24_v7
            have hq25_v15 : v15 25 = (v 25) := hk25_v15.trans hq25_v7
            have hq35_v15 : v15 35 = (v 35) := hk35_v15.trans hq35_v7
            have hq36_v15 : v15 36 = (v 36) := hk36_v15.trans hq36_v7
            have hq38_v15 : v15 38 = (v 38) := hk38_v15.trans hq38_v7
            have hq39_v15 : v15 39 = (v 39) := hk39_v15.trans hq39_v7
            refine lv_iconst (v := 0) hx hb dX11_rota_38 (by decide) ?_
            refine lv_istore (lv' := [(5, .int 0), (4, .int l4_7), (3, .int l3_7), (2, .int l2_7), (0, .ref y0), (1, .int p1)]) hx hb dX11_rota_39 hl (by decide) rfl (fun ls hl => ?_)
            have lp19 : ∀ (n19 : Nat) (l5_19 : Int32) (v19 : Nat → Int32) (f19 : Nat → Nat → Int32) (w19 : Int64) (g19 : Nat → Int64), YI v19 → YC f19 → progOK (f19 4) (f19 5) (v19 9).toInt.toNat → v19 0 = (v 0) → v19 1 = (v 1) → v19 2 = (v 2) → v19 3 = (v 3) → v19 4 = (v 4) → v19 5 = (v 5) → v19 8 = (v 8) → v19 9 = (v 9) → v19 10 = (v 10) → v19 13 = (v 13) → v19 14 = (v 14) → v19 15 = (v 15) → v19 17 = (v 17) → v19 18 = (v 18) → v19 24 = (v 24) → v19 25 = (v 25) → v19 35 = (v 35) → v19 36 = (v 36) → v19 38 = (v 38) → v19 39 = (v 39) → ((0 : Int) ≤ l5_19.toInt ∧ l5_19.toInt ≤ 2147483647) → KV [] v19 v → KF [7, 8, 24] f19 f → (2147483647 - l5_19.toInt).toNat < n19 → ∀ (H : Heap) (locs : List Loc) (ls : Array Slot), va_P (dC, dI) vwCl (YW cy y0 r v19 f19 w19 g19) H → va_D A (YW cy y0 r v19 f19 w19 g19) → va_S A s.heap H locs → lv_has ls 6 [(5, .int l5_19), (4, .int l4_7), (3, .int l3_7), (2, .int l2_7), (0, .ref y0), (1, .int p1)] → W p l e { frames := 7, cells := 0, slots := 0, locals := 191 } s m ([.ref y0, .int p1] : List Value).toArray below meth c H locs 0 0 Q (F0 m 41 ls []) := by
              intro n19
              induction n19 with
              | zero => intro l5_19 v19 f19 w19 g19 hIv19 hCf19 hRf19 hq0_v19 hq1_v19 hq2_v19 hq3_v19 hq4_v19 hq5_v19 hq8_v19 hq9_v19 hq10_v19 hq13_v19 hq14_v19 hq15_v19 hq17_v19 hq18_v19 hq24_v19 hq25_v19 hq35_v19 hq36_v19 hq38_v19 hq39_v19 hr5_19 hM_v19 hA_f19 hm; exact absurd hm (Nat.not_lt_zero _)
              | succ n19 ih19 =>
                intro l5_19 v19 f19 w19 g19 hIv19 hCf19 hRf19 hq0_v19 hq1_v19 hq2_v19 hq3_v19 hq4_v19 hq5_v19 hq8_v19 hq9_v19 hq10_v19 hq13_v19 hq14_v19 hq15_v19 hq17_v19 hq18_v19 hq24_v19 hq25_v19 hq35_v19 hq36_v19 hq38_v19 hq39_v19 hr5_19 hM_v19 hA_f19 hm19 H locs ls hP hD hS hl
                have hUv19 : (v19 35).toInt + (v19 36).toInt ≤ 40 := hIv19.2
                have zq9_v19 := congrArg Int32.toInt hq9_v19
                refine lv_iload hx hb dX11_rota_41 (lv_at hl 0 rfl) ?_
                refine lv_aload_n hx hb dX11_rota_43 rfl (lv_at hl 4 rfl) ?_
                refine va_get (D := (dC, dI)) (ci := 11) (v := .int (v19 24)) (C := RX11) (T := TX11) (N := 79) hx hb hts inB_11 hown hE.1 hP 0 rfl rfl 48 (by decide) (hts _ k_1368) (fun _ h9 => h9) rfl dX11_rota_44 ?_
                refine tI (y := (v 24)) hq24_v19 ?_
                have b24_v : 0 ≤ (v 24).toInt ∧ (v 24).toInt ≤ 6 := YIb.b hIv.1 24 (by decide)
                refine lv_icmp_ge (tgt := 84) hx hb dX11_rota_47 (by decide) (fun c20 => ?_) (fun c20 => ?_)
                · skip
                  have zc20 : (v 24).toInt ≤ l5_19.toInt := by rw [fa_le] at c20; exact c20
                  have rg21 := fb_rng l5_19
                  refine lv_aload_n hx hb dX11_rota_84 rfl (lv_at hl 4 rfl) ?_
                  refine cbVi (n := 0) (rest := []) hx hb hml hown hts hE hP hD hS hA (sY_X11_fittedOnes_1 0 l dC dI cy y0 r  v19 f19 w19 g19 hIv19 hCf19 hRf19 ) k_1809 k_1811 k_81 k_114 k_1812 (by decide +kernel) ⟨Nat.le_of_ble_eq_true rfl, Nat.le_of_ble_eq_true rfl⟩ 0 11 rfl rfl (rfl) hl.1 rfl (Nat.le_of_ble_eq_true rfl) dX11_rota_85 (fun r22 u H locs hw hP hD hS => ?_)
                  obtain ⟨hG23, hw⟩ := hw
                  obtain ⟨v24, f25, w26, g27⟩ := u
                  obtain ⟨kV_v24, kF_f25, hIv24, hCf25, hRf25, hk0_v24, hk1_v24, hk2_v24, hk3_v24, hk4_v24, hk5_v24, hk8_v24, hk9_v24, hk10_v24, hk13_v24, hk14_v24, hk15_v24, hk17_v24, hk18_v24, hk24_v24, hk25_v24, hk35_v24, hk36_v24, hk38_v24, hk39_v24⟩ := hw
                  have hM_v24 : KV [] v24 v := KV.tr kV_v24 hM_v19 rfl
                  have hA_f25 : KF [7, 8, 24] f25 f := KF.tr kF_f25 hA_f19 rfl
                  have hP : va_P (dC, dI) vwCl (YW cy y0 r v24 f25 w26 g27) H := hP
                  have hD : va_D A (YW cy y0 r v24 f25 w26 g27) := hD
                  have hUv24 : (v24 35).toInt + (v24 36).toInt ≤ 40 := hIv24.2
                  have hq0_v24 : v24 0 = (v 0) := hk0_v24.trans hq0_v19
                  have hq1_v24 : v24 1 = (v 1) := hk1_v24.trans hq1_v19
                  have hq2_v24 : v24 2 = (v 2) := hk2_v24.trans hq2_v19
                  have hq3_v24 : v24 3 = (v 3) := hk3_v24.trans hq3_v19
                  have hq4_v24 : v24 4 = (v 4) := hk4_v24.trans hq4_v19
                  have hq5_v24 : v24 5 = (v 5) := hk5_v24.trans hq5_v19
                  have hq8_v24 : v24 8 = (v 8) := hk8_v24.trans hq8_v19
                  have hq9_v24 : v24 9 = (v 9) := hk9_v24.trans hq9_v19
                  have zq9_v24 := congrArg Int32.toInt hq9_v24
                  have hq10_v24 : v24 10 = (v 10) := hk10_v24.trans hq10_v19
                  have hq13_v24 : v24 13 = (v 13) := hk13_v24.trans hq13_v19
                  have hq14_v24 : v24 14 = (v 14) := hk14_v24.trans hq14_v19
                  have hq15_v24 : v24 15 = (v 15) := hk15_v24.trans hq15_v19
                  have hq17_v24 : v24 17 = (v 17) := hk17_v24.trans hq17_v19
                  have hq18_v24 : v24 18 = (v 18) := hk18_v24.trans hq18_v19
                  have hq24_v24 : v24 24 = (v 24) := hk24_v24.trans hq24_v19
                  have hq25_v24 : v24 25 = (v 25) := hk25_v24.trans hq25_v19
                  have hq35_v24 : v24 35 = (v 35) := hk35_v24.trans hq35_v19
                  have hq36_v24 : v24 36 = (v 36) := hk36_v24.trans hq36_v19
                  have hq38_v24 : v24 38 = (v 38) := hk38_v24.trans hq38_v19
                  have hq39_v24 : v24 39 = (v 39) := hk39_v24.trans hq39_v19
                  refine cbSi (n := 1) (rest := []) hx hb hml hown hts hE hP hD hS hA (sY_X11_members_1 l dC dI cy y0 r r22 v24 f25 w26 g27 hIv24 hCf25 hRf25 ) k_1900 k_1901 k_114 k_1902 (by decide +kernel) ⟨Nat.le_of_ble_eq_true rfl, Nat.le_of_ble_eq_true rfl⟩ (rfl) hl.1 rfl (Nat.le_of_ble_eq_true rfl) dX11_rota_88 (fun r28 u H locs hw hP hD hS => ?_)
                  refine lv_istore (lv' := [(5, .int r28), (4, .int l4_7), (3, .int l3_7), (2, .int l2_7), (0, .ref y0), (1, .int p1)]) hx hb dX11_rota_91 hl (by decide) rfl (fun ls hl => ?_)
                  refine lv_iload hx hb dX11_rota_93 (lv_at hl 0 rfl) ?_
                  refine lv_iload_n hx hb dX11_rota_95 rfl (lv_at hl 2 rfl) ?_
                  refine lv_icmp_gt (tgt := 102) hx hb dX11_rota_96 (by decide) (fun c29 => ?_) (fun c29 => ?_)
                  · skip
                    have zc29 : l3_7.toInt < r28.toInt := by rw [fa_lt] at c29; exact c29
                    have rg30 := fb_rng r28
                    have rg31 := fb_rng l3_7
                    refine lv_iload hx hb dX11_rota_102 (lv_at hl 1 rfl) ?_
                    refine lv_istore_n (lv' := [(2, .int l4_7), (5, .int r28), (4, .int l4_7), (3, .int l3_7), (0, .ref y0), (1, .int p1)]) hx hb dX11_rota_104 rfl hl (by decide) rfl (fun ls hl => ?_)
                    refine lv_iload hx hb dX11_rota_105 (lv_at hl 1 rfl) ?_
                    refine lv_istore_n (lv' := [(3, .int r28), (2, .int l4_7), (5, .int r28), (4, .int l4_7), (0, .ref y0), (1, .int p1)]) hx hb dX11_rota_107 rfl hl (by decide) rfl (fun ls hl => ?_)
                    obtain ⟨t32, et32⟩ : ∃ y : Int32, y = l4_7 + 1 := ⟨_, rfl⟩
                    have zt32 : t32.toInt = l4_7.toInt + 1 := by rw [et32]; exact add_i rfl (by decide) (by omega) (by omega)
                    refine lv_iinc (v := t32) (lv' := [(4, .int t32), (3, .int r28), (2, .int l4_7), (5, .int r28), (0, .ref y0), (1, .int p1)]) hx hb dX11_rota_108 hl (k := 3) rfl (by rw [et32]; rfl) (by decide) rfl (fun ls hl => ?_)
                    refine lv_goto (tgt := 25) hx hb dX11_rota_111 (by decide) ?_
                    have rg33 := fb_rng t32
                    exact ih7 l4_7 r28 t32 v24 f25 w26 g27 hIv24 hCf25 hRf25 hq0_v24 hq1_v24 hq2_v24 hq3_v24 hq4_v24 hq5_v24 hq8_v24 hq9_v24 hq10_v24 hq13_v24 hq14_v24 hq15_v24 hq17_v24 hq18_v24 hq24_v24 hq25_v24 hq35_v24 hq36_v24 hq38_v24 hq39_v24 ⟨show (0 : Int) ≤ t32.toInt by omega, show t32.toInt ≤ (2147483647 : Int) by omega⟩ hM_v24 hA_f25 (by show (2147483647 - t32.toInt).toNat < n7; omega) _ _ _ hP hD hS (lv_sub hl [0, 1, 2, 4, 5] rfl)
                  · skip
                    have zc29 : ¬ (l3_7.toInt < r28.toInt) := by rw [fa_lt] at c29; exact c29
                    have rg34 := fb_rng r28
                    have rg35 := fb_rng l3_7
                    refine lv_goto (tgt := 108) hx hb dX11_rota_99 (by decide) ?_
                    obtain ⟨t36, et36⟩ : ∃ y : Int32, y = l4_7 + 1 := ⟨_, rfl⟩
                    have zt36 : t36.toInt = l4_7.toInt + 1 := by rw [et36]; exact add_i rfl (by decide) (by omega) (by omega)
                    refine lv_iinc (v := t36) (lv' := [(4, .int t36), (5, .int r28), (3, .int l3_7), (2, .int l2_7), (0, .ref y0), (1, .int p1)]) hx hb dX11_rota_108 hl (k := 1) rfl (by rw [et36]; rfl) (by decide) rfl (fun ls hl => ?_)
                    refine lv_goto (tgt := 25) hx hb dX11_rota_111 (by decide) ?_
                    have rg37 := fb_rng t36
                    exact ih7 l2_7 l3_7 t36 v24 f25 w26 g27 hIv24 hCf25 hRf25 hq0_v24 hq1_v24 hq2_v24 hq3_v24 hq4_v24 hq5_v24 hq8_v24 hq9_v24 hq10_v24 hq13_v24 hq14_v24 hq15_v24 hq17_v24 hq18_v24 hq24_v24 hq25_v24 hq35_v24 hq36_v24 hq38_v24 hq39_v24 ⟨show (0 : Int) ≤ t36.toInt by omega, show t36.toInt ≤ (2147483647 : Int) by omega⟩ hM_v24 hA_f25 (by show (2147483647 - t36.toInt).toNat < n7; omega) _ _ _ hP hD hS (lv_sub hl [0, 2, 3, 4, 5] rfl)
                · skip
                  have zc20 : ¬ ((v 24).toInt ≤ l5_19.toInt) := by rw [fa_le] at c20; exact c20
                  have rg38 := fb_rng l5_19
                  refine lv_aload_n hx hb dX11_rota_50 rfl (lv_at hl 4 rfl) ?_
                  refine va_get (D := (dC, dI)) (ci := 11) (v := .ref (r 60)) (C := RX11) (T := TX11) (N := 79) hx hb hts inB_11 hown hE.1 hP 0 rfl rfl 60 (by decide) (hts _ k_1380) (fun _ h9 => h9) rfl dX11_rota_51 ?_
                  refine lv_bipush (v := 6) hx hb dX11_rota_54 (by decide) ?_
                  refine lv_iload hx hb dX11_rota_56 (lv_at hl 0 rfl) ?_
                  refine lv_iadd hx hb dX11_rota_58 ?_
                  refine lv_topi (fun t39 et39 => ?_)
                  have zt39 : t39.toInt = 6 + l5_19.toInt := by rw [et39]; exact add_i (by decide) rfl (by omega) (by omega)
                  refine lv_aload_n hx hb dX11_rota_59 rfl (lv_at hl 4 rfl) ?_
                  refine va_get (D := (dC, dI)) (ci := 11) (v := .ref (r 59)) (C := RX11) (T := TX11) (N := 79) hx hb hts inB_11 hown hE.1 hP 0 rfl rfl 59 (by decide) (hts _ k_1379) (fun _ h9 => h9) rfl dX11_rota_60 ?_
                  refine lv_bipush (v := 6) hx hb dX11_rota_63 (by decide) ?_
                  refine lv_iload hx hb dX11_rota_65 (lv_at hl 0 rfl) ?_
                  refine lv_iload hx hb dX11_rota_67 (lv_at hl 1 rfl) ?_
                  refine lv_iadd hx hb dX11_rota_69 ?_
                  refine lv_topi (fun t40 et40 => ?_)
                  have zt40 : t40.toInt = l5_19.toInt + l4_7.toInt := by rw [et40]; exact add_i rfl rfl (by omega) (by omega)
                  refine lv_aload_n hx hb dX11_rota_70 rfl (lv_at hl 4 rfl) ?_
                  refine va_get (D := (dC, dI)) (ci := 11) (v := .int (v19 24)) (C := RX11) (T := TX11) (N := 79) hx hb hts inB_11 hown hE.1 hP 0 rfl rfl 48 (by decide) (hts _ k_1368) (fun _ h9 => h9) rfl dX11_rota_71 ?_
                  refine tI (y := (v 24)) hq24_v19 ?_
                  refine lv_irem hx hb dX11_rota_74 (ne0 (by omega)) ?_
                  refine lv_topi (fun t41 et41 => ?_)
                  have zt41 : 0 ≤ t41.toInt ∧ t41.toInt < (v 24).toInt := by rw [et41]; exact rem_rng (zx := t40.toInt) (zy := (v 24).toInt) rfl rfl (by omega) (by omega)
                  refine lv_iadd hx hb dX11_rota_75 ?_
                  refine lv_topi (fun t42 et42 => ?_)
                  have rg43 := fb_rng t41
                  have zt42 : t42.toInt = 6 + t41.toInt := by rw [et42]; exact add_i (by decide) rfl (by omega) (by omega)
                  refine ldI hx hb hE hP 24 rfl (vp_in_iff.mpr ⟨by omega, by omega⟩) rfl rfl dX11_rota_76 ?_
                  refine lv_topi (fun t44 et44 => ?_)
                  have zt44 : t42.toInt.toNat % 39 < 6 ∨ 12 ≤ t42.toInt.toNat % 39 ∨ (-1 ≤ t44.toInt ∧ t44.toInt ≤ 5) := by rw [et44]; exact wear_ld hCf19.1 (show t42.toInt.toNat < 39 by omega)
                  refine stI hx hb hE hP hD hS 25 rfl (vp_in_iff.mpr ⟨by omega, by omega⟩) rfl dX11_rota_77 (fun H locs hP hD hS => ?_)
                  obtain ⟨f45, ef45, hP, hD⟩ : ∃ fz9, fz9 = upd2 f19 24 (upd (f19 24) t39.toNatClampNeg t44) ∧ va_P (dC, dI) vwCl (YW cy y0 r v19 fz9 w19 g19) H ∧ va_D A (YW cy y0 r v19 fz9 w19 g19) := ⟨_, rfl, hP, hD⟩
                  have hCf45 : YC f45 := by rw [ef45]; exact ⟨hCf19.1, (wear_st hCf19.2.1 (by show t39.toInt.toNat % 39 < 6 ∨ 12 ≤ t39.toInt.toNat % 39 ∨ (-1 ≤ t44.toInt ∧ t44.toInt ≤ 5); omega)), hCf19.2.2.1, hCf19.2.2.2.1, hCf19.2.2.2.2.1, hCf19.2.2.2.2.2⟩
                  have hRf45 : progOK (f45 4) (f45 5) (v19 9).toInt.toNat := by rw [ef45]; exact hRf19
                  have hA_f45 : KF [7, 8, 24] f45 f := by rw [ef45]; exact KF.up hA_f19 rfl
                  obtain ⟨t46, et46⟩ : ∃ y : Int32, y = l5_19 + 1 := ⟨_, rfl⟩
                  have zt46 : t46.toInt = l5_19.toInt + 1 := by rw [et46]; exact add_i rfl (by decide) (by omega) (by omega)
                  refine lv_iinc (v := t46) (lv' := [(5, .int t46), (4, .int l4_7), (3, .int l3_7), (2, .int l2_7), (0, .ref y0), (1, .int p1)]) hx hb dX11_rota_78 hl (k := 0) rfl (by rw [et46]; rfl) (by decide) rfl (fun ls hl => ?_)
                  refine lv_goto (tgt := 41) hx hb dX11_rota_81 (by decide) ?_
                  have rg47 := fb_rng t46
                  exact ih19 t46 v19 f45 w19 g19 hIv19 hCf45 hRf45 hq0_v19 hq1_v19 hq2_v19 hq3_v19 hq4_v19 hq5_v19 hq8_v19 hq9_v19 hq10_v19 hq13_v19 hq14_v19 hq15_v19 hq17_v19 hq18_v19 hq24_v19 hq25_v19 hq35_v19 hq36_v19 hq38_v19 hq39_v19 ⟨show (0 : Int) ≤ t46.toInt by omega, show t46.toInt ≤ (2147483647 : Int) by omega⟩ hM_v19 hA_f45 (by show (2147483647 - t46.toInt).toNat < n19; omega) _ _ _ hP hD hS (lv_sub hl [0, 1, 2, 3, 4, 5] rfl)
            exact lp19 _ 0 v15 f16 w17 g18 hIv15 hCf16 hRf16 hq0_v15 hq1_v15 hq2_v15 hq3_v15 hq4_v15 hq5_v15 hq8_v15 hq9_v15 hq10_v15 hq13_v15 hq14_v15 hq15_v15 hq17_v15 hq18_v15 hq24_v15 hq25_v15 hq35_v15 hq36_v15 hq38_v15 hq39_v15 ⟨by decide, by decide⟩ hM_v15 hA_f16 (Nat.lt_succ_self _) _ _ _ hP hD hS (lv_sub hl [0, 1, 2, 3, 4, 5] rfl)
      exact lp7 _ 0 (-1) 0 v f w g hIv hCf hRf rfl rfl rfl rfl rfl rfl rfl rfl rfl rfl rfl rfl rfl rfl rfl rfl rfl rfl rfl rfl ⟨by decide, by decide⟩ hM_v hA_f (Nat.lt_succ_self _) _ _ _ hP hD hS (lv_sub hl [0, 1, 2, 3, 4] rfl)
    · skip
      have zc6 : (v 24).toInt = 0 := by rw [fa_eq, show (0 : Int32).toInt = 0 from by decide] at c6; exact c6
      refine lv_iconst (v := (-1)) hx hb dX11_rota_16 (by decide) ?_
      exact ret (-1) (v, f, w, g) _ _ _ _ _ _ rfl ⟨hM_v, hA_f, hIv, hCf, hRf, rfl, rfl, rfl, rfl, rfl, rfl, rfl, rfl, rfl, rfl, rfl, rfl, rfl, rfl, rfl, rfl, rfl, rfl, rfl, rfl⟩ hP hD hS dX11_rota_17 (Nat.le_refl _) (Nat.le_refl _)
  · skip
    subst g5
    refine lv_if_eq (tgt := 16) hx hb dX11_rota_6 (by decide) (fun _ => ?_) (fun c0 => absurd (by decide) c0)
    refine lv_iconst (v := (-1)) hx hb dX11_rota_16 (by decide) ?_
    exact ret (-1) (v, f, w, g) _ _ _ _ _ _ rfl ⟨hM_v, hA_f, hIv, hCf, hRf, rfl, rfl, rfl, rfl, rfl, rfl, rfl, rfl, rfl, rfl, rfl, rfl, rfl, rfl, rfl, rfl, rfl, rfl, rfl, rfl⟩ hP hD hS dX11_rota_17 (Nat.le_refl _) (Nat.le_refl _)
