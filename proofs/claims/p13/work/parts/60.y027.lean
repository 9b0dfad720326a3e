set_option maxHeartbeats 4000000 in
set_option maxRecDepth 100000 in
theorem sY_X11_goDay_1 (NF : Nat) (l : Launch) (dC : Nat → ClassId) (dI : Nat → Nat → Nat) (cy : Nat → ClassId) (y0 : Nat) (r : Nat → Nat) (p1 : Int32) (v : Nat → Int32) (f : Nat → Nat → Int32) (w : Int64) (g : Nat → Int64) (hIv : YI v) (hCf : YC f) (hRf : progOK (f 4) (f 5) (v 9).toInt.toNat)  : ctI l (dC, dI) cy yX11_goDay cX11_goDay 4 .int 7 191 0 0 ((Nat → Int32) × (Nat → Nat → Int32) × (Int64) × (Nat → Int64)) [.ref y0, .int p1] (YW cy y0 r v f w g) (fun r u => gsY_X11_goDay_1 NF p1 v f w g = (r, u) ∧ KV [] u.1 v ∧ KF [7, 8, 24] u.2.1 f ∧ YI u.1 ∧ YC u.2.1 ∧ progOK (u.2.1 4) (u.2.1 5) (u.1 9).toInt.toNat ∧ u.1 0 = v 0 ∧ u.1 1 = v 1 ∧ u.1 2 = v 2 ∧ u.1 3 = v 3 ∧ u.1 4 = v 4 ∧ u.1 5 = v 5 ∧ u.1 8 = v 8 ∧ u.1 9 = v 9 ∧ u.1 10 = v 10 ∧ u.1 13 = v 13 ∧ u.1 14 = v 14 ∧ u.1 15 = v 15 ∧ u.1 17 = v 17 ∧ u.1 18 = v 18 ∧ u.1 24 = v 24 ∧ u.1 25 = v 25 ∧ u.1 35 = v 35 ∧ u.1 36 = v 36 ∧ u.1 38 = v 38 ∧ u.1 39 = v 39) (fun u => YW cy y0 r u.1 u.2.1 u.2.2.1 u.2.2.2) := by
  refine ctI_of (by decide) (Nat.le_of_ble_eq_true rfl) (fun p e s m below meth c A ls Q hx hb hml hts hown hE hP hD hA hl ret => ?_)
  have hUv : (v 35).toInt + (v 36).toInt ≤ 40 := hIv.2
  have hM_v : KV [] v v := fun _ _ => rfl
  have hA_f : KF [7, 8, 24] f f := fun _ _ => rfl
  have hown : s.vm.findClass RX11 = some m.cls := hown
  have hS : va_S A s.heap s.heap [] := va_S.rf
  have hl : lv_has ls 4 [(0, .ref y0), (1, .int p1)] := hl
  refine lv_iconst (v := 0) hx hb dX11_goDay_0 (by decide) ?_
  refine lv_istore_n (lv' := [(2, .int 0), (0, .ref y0), (1, .int p1)]) hx hb dX11_goDay_1 rfl hl (by decide) rfl (fun ls hl => ?_)
  have lp1 : ∀ (n1 : Nat) (l2_1 : Int32) (v1 : Nat → Int32) (f1 : Nat → Nat → Int32) (w1 : Int64) (g1 : Nat → Int64), YI v1 → YC f1 → progOK (f1 4) (f1 5) (v1 9).toInt.toNat → v1 0 = (v 0) → v1 1 = (v 1) → v1 2 = (v 2) → v1 3 = (v 3) → v1 4 = (v 4) → v1 5 = (v 5) → v1 8 = (v 8) → v1 9 = (v 9) → v1 10 = (v 10) → v1 13 = (v 13) → v1 14 = (v 14) → v1 15 = (v 15) → v1 17 = (v 17) → v1 18 = (v 18) → v1 24 = (v 24) → v1 25 = (v 25) → v1 35 = (v 35) → v1 36 = (v 36) → v1 38 = (v 38) → v1 39 = (v 39) → gsY_X11_goDay_1_L1 NF p1 v n1 l2_1 v1 f1 w1 g1 = (gsY_X11_goDay_1 NF p1 v f w g) → ((0 : Int) ≤ l2_1.toInt ∧ l2_1.toInt ≤ 2147483647) → KV [] v1 v → KF [7, 8, 24] f1 f → (2147483647 - l2_1.toInt).toNat < n1 → ∀ (H : Heap) (locs : List Loc) (ls : Array Slot), va_P (dC, dI) vwCl (YW cy y0 r v1 f1 w1 g1) H → va_D A (YW cy y0 r v1 f1 w1 g1) → va_S A s.heap H locs → lv_has ls 4 [(2, .int l2_1), (0, .ref y0), (1, .int p1)] → W p l e { frames := 7, cells := 0, slots := 0, locals := 191 } s m ([.ref y0, .int p1] : List Value).toArray below meth c H locs 0 0 Q (F0 m 2 ls []) := by
    intro n1
    induction n1 with
    | zero => intro l2_1 v1 f1 w1 g1 hIv1 hCf1 hRf1 hq0_v1 hq1_v1 hq2_v1 hq3_v1 hq4_v1 hq5_v1 hq8_v1 hq9_v1 hq10_v1 hq13_v1 hq14_v1 hq15_v1 hq17_v1 hq18_v1 hq24_v1 hq25_v1 hq35_v1 hq36_v1 hq38_v1 hq39_v1 hT1 hr2_1 hM_v1 hA_f1 hm; exact absurd hm (Nat.not_lt_zero _)
    | succ n1 ih1 =>
      intro l2_1 v1 f1 w1 g1 hIv1 hCf1 hRf1 hq0_v1 hq1_v1 hq2_v1 hq3_v1 hq4_v1 hq5_v1 hq8_v1 hq9_v1 hq10_v1 hq13_v1 hq14_v1 hq15_v1 hq17_v1 hq18_v1 hq24_v1 hq25_v1 hq35_v1 hq36_v1 hq38_v1 hq39_v1 hT1 hr2_1 hM_v1 hA_f1 hm1 H locs ls hP hD hS hl
      have hUv1 : (v1 35).toInt + (v1 36).toInt ≤ 40 := hIv1.2
      have zq9_v1 := congrArg Int32.toInt hq9_v1
      refine lv_iload_n hx hb dX11_goDay_2 rfl (lv_at hl 0 rfl) ?_
      refine lv_aload_n hx hb dX11_goDay_3 rfl (lv_at hl 1 rfl) ?_
      refine va_get (D := (dC, dI)) (ci := 11) (v := .int (v1 24)) (C := RX11) (T := TX11) (N := 79) hx hb hts inB_11 hown hE.1 hP 0 rfl rfl 48 (by decide) (hts _ k_1368) (fun _ h9 => h9) rfl dX11_goDay_4 ?_
      refine tI (y := (v 24)) hq24_v1 ?_
      have b24_v : 0 ≤ (v 24).toInt ∧ (v 24).toInt ≤ 6 := YIb.b hIv.1 24 (by decide)
      refine lv_icmp_ge (tgt := 40) hx hb dX11_goDay_7 (by decide) (fun c2 => ?_) (fun c2 => ?_)
      · skip
        have zc2 : (v 24).toInt ≤ l2_1.toInt := by rw [fa_le] at c2; exact c2
        have rg3 := fb_rng l2_1
        have rg4 := fb_rng (v 24)
        refine lv_iconst (v := 0) hx hb dX11_goDay_40 (by decide) ?_
        refine lv_istore_n (lv' := [(2, .int 0), (0, .ref y0), (1, .int p1)]) hx hb dX11_goDay_41 rfl hl (by decide) rfl (fun ls hl => ?_)
        have lp5 : ∀ (n5 : Nat) (l2_5 : Int32) (v5 : Nat → Int32) (f5 : Nat → Nat → Int32) (w5 : Int64) (g5 : Nat → Int64), YI v5 → YC f5 → progOK (f5 4) (f5 5) (v5 9).toInt.toNat → v5 0 = (v 0) → v5 1 = (v 1) → v5 2 = (v 2) → v5 3 = (v 3) → v5 4 = (v 4) → v5 5 = (v 5) → v5 8 = (v 8) → v5 9 = (v 9) → v5 10 = (v 10) → v5 13 = (v 13) → v5 14 = (v 14) → v5 15 = (v 15) → v5 17 = (v 17) → v5 18 = (v 18) → v5 24 = (v 24) → v5 25 = (v 25) → v5 35 = (v 35) → v5 36 = (v 36) → v5 38 = (v 38) → v5 39 = (v 39) → gsY_X11_goDay_1_L5 NF p1 v n5 l2_5 v5 f5 w5 g5 = (gsY_X11_goDay_1 NF p1 v f w g) → ((0 : Int) ≤ l2_5.toInt ∧ l2_5.toInt ≤ 2147483647) → KV [] v5 v → KF [7, 8, 24] f5 f → (2147483647 - l2_5.toInt).toNat < n5 → ∀ (H : Heap) (locs : List Loc) (ls : Array Slot), va_P (dC, dI) vwCl (YW cy y0 r v5 f5 w5 g5) H → va_D A (YW cy y0 r v5 f5 w5 g5) → va_S A s.heap H locs → lv_has ls 4 [(2, .int l2_5), (0, .ref y0), (1, .int p1)] → W p l e { frames := 7, cells := 0, slots := 0, locals := 191 } s m ([.ref y0, .int p1] : List Value).toArray below meth c H locs 0 0 Q (F0 m 42 ls []) := by
          intro n5
          induction n5 with
          | zero => intro l2_5 v5 f5 w5 g5 hIv5 hCf5 hRf5 hq0_v5 hq1_v5 hq2_v5 hq3_v5 hq4_v5 hq5_v5 hq8_v5 hq9_v5 hq10_v5 hq13_v5 hq14_v5 hq15_v5 hq17_v5 hq18_v5 hq24_v5 hq25_v5 hq35_v5 hq36_v5 hq38_v5 hq39_v5 hT5 hr2_5 hM_v5 hA_f5 hm; exact absurd hm (Nat.not_lt_zero _)
          | succ n5 ih5 =>
            intro l2_5 v5 f5 w5 g5 hIv5 hCf5 hRf5 hq0_v5 hq1_v5 hq2_v5 hq3_v5 hq4_v5 hq5_v5 hq8_v5 hq9_v5 hq10_v5 hq13_v5 hq14_v5 hq15_v5 hq17_v5 hq18_v5 hq24_v5 hq25_v5 hq35_v5 hq36_v5 hq38_v5 hq39_v5 hT5 hr2_5 hM_v5 hA_f5 hm5 H locs ls hP hD hS hl
            have hUv5 : (v5 35).toInt + (v5 36).toInt ≤ 40 := hIv5.2
            have zq9_v5 := congrArg Int32.toInt hq9_v5
            refine lv_iload_n hx hb dX11_goDay_42 rfl (lv_at hl 0 rfl) ?_
            refine lv_aload_n hx hb dX11_goDay_43 rfl (lv_at hl 1 rfl) ?_
            refine va_get (D := (dC, dI)) (ci := 11) (v := .int (v5 25)) (C := RX11) (T := TX11) (N := 79) hx hb hts inB_11 hown hE.1 hP 0 rfl rfl 49 (by decide) (hts _ k_1369) (fun _ h9 => h9) rfl dX11_goDay_44 ?_
            refine tI (y := (v 25)) hq25_v5 ?_
            have b25_v : 0 ≤ (v 25).toInt ∧ (v 25).toInt ≤ 6 := YIb.b hIv.1 25 (by decide)
            refine lv_icmp_ge (tgt := 146) hx hb dX11_goDay_47 (by decide) (fun c6 => ?_) (fun c6 => ?_)
            · skip
              have zc6 : (v 25).toInt ≤ l2_5.toInt := by rw [fa_le] at c6; exact c6
              have rg7 := fb_rng l2_5
              have rg8 := fb_rng (v 25)
              refine lv_aload_n hx hb dX11_goDay_146 rfl (lv_at hl 1 rfl) ?_
              refine va_get (D := (dC, dI)) (ci := 11) (v := .ref (r 60)) (C := RX11) (T := TX11) (N := 79) hx hb hts inB_11 hown hE.1 hP 0 rfl rfl 60 (by decide) (hts _ k_1380) (fun _ h9 => h9) rfl dX11_goDay_147 ?_
              refine lv_bipush (v := 37) hx hb dX11_goDay_150 (by decide) ?_
              refine lv_dup2_11 hx hb dX11_goDay_152 rfl rfl ?_
              refine ldI hx hb hE hP 25 rfl (vp_in_nI (n := 37) (by decide) (by decide)) rfl rfl dX11_goDay_153 ?_
              refine lv_topi (fun t9 et9 => ?_)
              have zt9 : 37 % 39 < 6 ∨ 12 ≤ 37 % 39 ∨ (-1 ≤ t9.toInt ∧ t9.toInt ≤ 5) := by rw [et9]; exact wear_ld hCf5.2.1 (show 37 < 39 by omega)
              refine lv_iconst (v := 1) hx hb dX11_goDay_154 (by decide) ?_
              refine lv_iadd hx hb dX11_goDay_155 ?_
              refine lv_topi (fun t10 et10 => ?_)
              refine stI hx hb hE hP hD hS 25 rfl (vp_in_nI (n := 37) (by decide) (by decide)) rfl dX11_goDay_156 (fun H locs hP hD hS => ?_)
              obtain ⟨f11, ef11, hP, hD⟩ : ∃ fz9, fz9 = upd2 f5 24 (upd (f5 24) (37 : Int32).toNatClampNeg t10) ∧ va_P (dC, dI) vwCl (YW cy y0 r v5 fz9 w5 g5) H ∧ va_D A (YW cy y0 r v5 fz9 w5 g5) := ⟨_, rfl, hP, hD⟩
              have hCf11 : YC f11 := by rw [ef11]; exact ⟨hCf5.1, (wear_st hCf5.2.1 (by show 37 % 39 < 6 ∨ 12 ≤ 37 % 39 ∨ (-1 ≤ t10.toInt ∧ t10.toInt ≤ 5); omega)), hCf5.2.2.1, hCf5.2.2.2.1, hCf5.2.2.2.2.1, hCf5.2.2.2.2.2⟩
              have hRf11 : progOK (f11 4) (f11 5) (v5 9).toInt.toNat := by rw [ef11]; exact hRf5
              have hA_f11 : KF [7, 8, 24] f11 f := by rw [ef11]; exact KF.up hA_f5 rfl
              refine lv_aload_n hx hb dX11_goDay_157 rfl (lv_at hl 1 rfl) ?_
              refine cbVi (n := 0) (rest := []) hx hb hml hown hts hE hP hD hS hA (sY_X11_wearers_1 NF l dC dI cy y0 r  v5 f11 w5 g5 hIv5 hCf11 hRf11 ) k_1805 k_1807 k_80 k_114 k_1808 (by decide +kernel) ⟨Nat.le_of_ble_eq_true rfl, Nat.le_of_ble_eq_true rfl⟩ 0 11 rfl rfl (rfl) hl.1 rfl (Nat.le_of_ble_eq_true rfl) dX11_goDay_158 (fun r12 u H locs hw hP hD hS => ?_)
              obtain ⟨hG13, hw⟩ := hw
              refine lv_aload_n hx hb dX11_goDay_161 rfl (lv_at hl 1 rfl) ?_
              refine cbVi (n := 0) (rest := [.int r12]) hx hb hml hown hts hE hP hD hS hA (sY_X11_fittedOnes_1 NF l dC dI cy y0 r  v5 f11 w5 g5 hIv5 hCf11 hRf11 ) k_1809 k_1811 k_81 k_114 k_1812 (by decide +kernel) ⟨Nat.le_of_ble_eq_true rfl, Nat.le_of_ble_eq_true rfl⟩ 0 11 rfl rfl (rfl) hl.1 rfl (Nat.le_of_ble_eq_true rfl) dX11_goDay_162 (fun r14 u H locs hw hP hD hS => ?_)
              obtain ⟨hG15, hw⟩ := hw
              obtain ⟨v16, f17, w18, g19⟩ := u
              obtain ⟨kV_v16, kF_f17, hIv16, hCf17, hRf17, hk0_v16, hk1_v16, hk2_v16, hk3_v16, hk4_v16, hk5_v16, hk8_v16, hk9_v16, hk10_v16, hk13_v16, hk14_v16, hk15_v16, hk17_v16, hk18_v16, hk24_v16, hk25_v16, hk35_v16, hk36_v16, hk38_v16, hk39_v16⟩ := hw
              have hM_v16 : KV [] v16 v := KV.tr kV_v16 hM_v5 rfl
              have hA_f17 : KF [7, 8, 24] f17 f := KF.tr kF_f17 hA_f11 rfl
              have hP : va_P (dC, dI) vwCl (YW cy y0 r v16 f17 w18 g19) H := hP
              have hD : va_D A (YW cy y0 r v16 f17 w18 g19) := hD
              have hUv16 : (v16 35).toInt + (v16 36).toInt ≤ 40 := hIv16.2
              have hq0_v16 : v16 0 = (v 0) := hk0_v16.trans hq0_v5
              have hq1_v16 : v16 1 = (v 1) := hk1_v16.trans hq1_v5
              have hq2_v16 : v16 2 = (v 2) := hk2_v16.trans hq2_v5
              have hq3_v16 : v16 3 = (v 3) := hk3_v16.trans hq3_v5
              have hq4_v16 : v16 4 = (v 4) := hk4_v16.trans hq4_v5
              have hq5_v16 : v16 5 = (v 5) := hk5_v16.trans hq5_v5
              have hq8_v16 : v16 8 = (v 8) := hk8_v16.trans hq8_v5
              have hq9_v16 : v16 9 = (v 9) := hk9_v16.trans hq9_v5
              have zq9_v16 := congrArg Int32.toInt hq9_v16
              have hq10_v16 : v16 10 = (v 10) := hk10_v16.trans hq10_v5
              have hq13_v16 : v16 13 = (v 13) := hk13_v16.trans hq13_v5
              have hq14_v16 : v16 14 = (v 14) := hk14_v16.trans hq14_v5
              have hq15_v16 : v16 15 = (v 15) := hk15_v16.trans hq15_v5
              have hq17_v16 : v16 17 = (v 17) := hk17_v16.trans hq17_v5
              have hq18_v16 : v16 18 = (v 18) := hk18_v16.trans hq18_v5
              have hq24_v16 : v16 24 = (v 24) := hk24_v16.trans hq24_v5
              have hq25_v16 : v16 25 = (v 25) := hk25_v16.trans hq25_v5
              have hq35_v16 : v16 35 = (v 35) := hk35_v16.trans hq35_v5
              have hq36_v16 : v16 36 = (v 36) := hk36_v16.trans hq36_v5
              have hq38_v16 : v16 38 = (v 38) := hk38_v16.trans hq38_v5
              have hq39_v16 : v16 39 = (v 39) := hk39_v16.trans hq39_v5
              refine lv_iconst (v := (-1)) hx hb dX11_goDay_165 (by decide) ?_
              refine lv_ixor hx hb dX11_goDay_166 ?_
              refine lv_topi (fun t20 et20 => ?_)
              refine lv_iand hx hb dX11_goDay_167 ?_
              refine lv_topi (fun t21 et21 => ?_)
              have zt21 : 0 ≤ t21.toInt ∧ t21.toInt ≤ 63 := by rw [et21]; exact and_left (by omega) (by omega)
              refine lv_istore_n (lv' := [(2, .int t21), (0, .ref y0), (1, .int p1)]) hx hb dX11_goDay_168 rfl hl (by decide) rfl (fun ls hl => ?_)
              refine lv_iconst (v := 0) hx hb dX11_goDay_169 (by decide) ?_
              refine lv_istore_n (lv' := [(3, .int 0), (2, .int t21), (0, .ref y0), (1, .int p1)]) hx hb dX11_goDay_170 rfl hl (by decide) rfl (fun ls hl => ?_)
              have lp22 : ∀ (n22 : Nat) (l3_22 : Int32) (v22 : Nat → Int32) (f22 : Nat → Nat → Int32) (w22 : Int64) (g22 : Nat → Int64), YI v22 → YC f22 → progOK (f22 4) (f22 5) (v22 9).toInt.toNat → v22 0 = (v 0) → v22 1 = (v 1) → v22 2 = (v 2) → v22 3 = (v 3) → v22 4 = (v 4) → v22 5 = (v 5) → v22 8 = (v 8) → v22 9 = (v 9) → v22 10 = (v 10) → v22 13 = (v 13) → v22 14 = (v 14) → v22 15 = (v 15) → v22 17 = (v 17) → v22 18 = (v 18) → v22 24 = (v 24) → v22 25 = (v 25) → v22 35 = (v 35) → v22 36 = (v 36) → v22 38 = (v 38) → v22 39 = (v 39) → gsY_X11_goDay_1_L22 NF v t21 n22 l3_22 v22 f22 w22 g22 = (gsY_X11_goDay_1 NF p1 v f w g) → ((0 : Int) ≤ l3_22.toInt ∧ l3_22.toInt ≤ 2147483647) → KV [] v22 v → KF [7, 8, 24] f22 f → (2147483647 - l3_22.toInt).toNat < n22 → ∀ (H : Heap) (locs : List Loc) (ls : Array Slot), va_P (dC, dI) vwCl (YW cy y0 r v22 f22 w22 g22) H → va_D A (YW cy y0 r v22 f22 w22 g22) → va_S A s.heap H locs → lv_has ls 4 [(3, .int l3_22), (2, .int t21), (0, .ref y0), (1, .int p1)] → W p l e { frames := 7, cells := 0, slots := 0, locals := 191 } s m ([.ref y0, .int p1] : List Value).toArray below meth c H locs 0 0 Q (F0 m 171 ls []) := by
                intro n22
                induction n22 with
                | zero => intro l3_22 v22 f22 w22 g22 hIv22 hCf22 hRf22 hq0_v22 hq1_v22 hq2_v22 hq3_v22 hq4_v22 hq5_v22 hq8_v22 hq9_v22 hq10_v22 hq13_v22 hq14_v22 hq15_v22 hq17_v22 hq18_v22 hq24_v22 hq25_v22 hq35_v22 hq36_v22 hq38_v22 hq39_v22 hT22 hr3_22 hM_v22 hA_f22 hm; exact absurd hm (Nat.not_lt_zero _)
                | succ n22 ih22 =>
                  intro l3_22 v22 f22 w22 g22 hIv22 hCf22 hRf22 hq0_v22 hq1_v22 hq2_v22 hq3_v22 hq4_v22 hq5_v22 hq8_v22 hq9_v22 hq10_v22 hq13_v22 hq14_v22 hq15_v22 hq17_v22 hq18_v22 hq24_v22 hq25_v22 hq35_v22 hq36_v22 hq38_v22 hq39_v22 hT22 hr3_22 hM_v22 hA_f22 hm22 H locs ls hP hD hS hl
                  have hUv22 : (v22 35).toInt + (v22 36).toInt ≤ 40 := hIv22.2
                  have zq9_v22 := congrArg Int32.toInt hq9_v22
                  refine lv_iload_n hx hb dX11_goDay_171 rfl (lv_at hl 0 rfl) ?_
                  refine lv_aload_n hx hb dX11_goDay_172 rfl (lv_at hl 2 rfl) ?_
                  refine va_get (D := (dC, dI)) (ci := 11) (v := .int (v22 24)) (C := RX11) (T := TX11) (N := 79) hx hb hts inB_11 hown hE.1 hP 0 rfl rfl 48 (by decide) (hts _ k_1368) (fun _ h9 => h9) rfl dX11_goDay_173 ?_
                  refine tI (y := (v 24)) hq24_v22 ?_
                  have b24_v : 0 ≤ (v 24).toInt ∧ (v 24).toInt ≤ 6 := YIb.b hIv.1 24 (by decide)
                  refine lv_icmp_ge (tgt := 204) hx hb dX11_goDay_176 (by decide) (fun c23 => ?_) (fun c23 => ?_)
                  · skip
                    have zc23 : (v 24).toInt ≤ l3_22.toInt := by rw [fa_le] at c23; exact c23
                    have rg24 := fb_rng l3_22
                    refine lv_iload_n hx hb dX11_goDay_204 rfl (lv_at hl 1 rfl) ?_
                    exact ret t21 (v22, f22, w22, g22) _ _ _ _ _ _ rfl ⟨(hT22.symm.trans (gsY_X11_goDay_1_q0 c23)), hM_v22, hA_f22, hIv22, hCf22, hRf22, hq0_v22, hq1_v22, hq2_v22, hq3_v22, hq4_v22, hq5_v22, hq8_v22, hq9_v22, hq10_v22, hq13_v22, hq14_v22, hq15_v22, hq17_v22, hq18_v22, hq24_v22, hq25_v22, hq35_v22, hq36_v22, hq38_v22, hq39_v22⟩ hP hD hS dX11_goDay_205 (Nat.le_refl _) (Nat.le_refl _)
                  · skip
                    have zc23 : ¬ ((v 24).toInt ≤ l3_22.toInt) := by rw [fa_le] at c23; exact c23
                    have rg25 := fb_rng l3_22
                    refine lv_iload_n hx hb dX11_goDay_179 rfl (lv_at hl 1 rfl) ?_
                    refine lv_iload_n hx hb dX11_goDay_180 rfl (lv_at hl 0 rfl) ?_
                    refine lv_ishr hx hb dX11_goDay_181 ?_
                    refine lv_topi (fun t26 et26 => ?_)
                    refine lv_iconst (v := 1) hx hb dX11_goDay_182 (by decide) ?_
                    refine lv_iand hx hb dX11_goDay_183 ?_
                    refine lv_topi (fun t27 et27 => ?_)
                    have zt27 : 0 ≤ t27.toInt ∧ t27.toInt < 2 := by rw [et27]; exact and_rng _ (k := 1) (by decide) (by decide)
                    refine lv_iconst (v := 1) hx hb dX11_goDay_184 (by decide) ?_
                    refine lv_icmp_ne (tgt := 198) hx hb dX11_goDay_185 (by decide) (fun c28 => ?_) (fun c28 => ?_)
                    · skip
                      have zc28 : ¬ (t27.toInt = 1) := by rw [fa_eq, show (1 : Int32).toInt = 1 from by decide] at c28; exact c28
                      obtain ⟨t29, et29⟩ : ∃ y : Int32, y = l3_22 + 1 := ⟨_, rfl⟩
                      have zt29 : t29.toInt = l3_22.toInt + 1 := by rw [et29]; exact add_i rfl (by decide) (by omega) (by omega)
                      refine lv_iinc (v := t29) (lv' := [(3, .int t29), (2, .int t21), (0, .ref y0), (1, .int p1)]) hx hb dX11_goDay_198 hl (k := 0) rfl (by rw [et29]; rfl) (by decide) rfl (fun ls hl => ?_)
                      refine lv_goto (tgt := 171) hx hb dX11_goDay_201 (by decide) ?_
                      have rg30 := fb_rng t29
                      exact ih22 t29 v22 f22 w22 g22 hIv22 hCf22 hRf22 hq0_v22 hq1_v22 hq2_v22 hq3_v22 hq4_v22 hq5_v22 hq8_v22 hq9_v22 hq10_v22 hq13_v22 hq14_v22 hq15_v22 hq17_v22 hq18_v22 hq24_v22 hq25_v22 hq35_v22 hq36_v22 hq38_v22 hq39_v22 ((gsY_X11_goDay_1_q1 c23 et26 et27 c28 et29).symm.trans hT22) ⟨show (0 : Int) ≤ t29.toInt by omega, show t29.toInt ≤ (2147483647 : Int) by omega⟩ hM_v22 hA_f22 (by show (2147483647 - t29.toInt).toNat < n22; omega) _ _ _ hP hD hS (lv_sub hl [0, 1, 2, 3] rfl)
                    · skip
                      have zc28 : t27.toInt = 1 := by rw [fa_eq, show (1 : Int32).toInt = 1 from by decide] at c28; exact c28
                      refine lv_aload_n hx hb dX11_goDay_188 rfl (lv_at hl 2 rfl) ?_
                      refine va_get (D := (dC, dI)) (ci := 11) (v := .ref (r 60)) (C := RX11) (T := TX11) (N := 79) hx hb hts inB_11 hown hE.1 hP 0 rfl rfl 60 (by decide) (hts _ k_1380) (fun _ h9 => h9) rfl dX11_goDay_189 ?_
                      refine lv_bipush (v := 6) hx hb dX11_goDay_192 (by decide) ?_
                      refine lv_iload_n hx hb dX11_goDay_194 rfl (lv_at hl 0 rfl) ?_
                      refine lv_iadd hx hb dX11_goDay_195 ?_
                      refine lv_topi (fun t31 et31 => ?_)
                      have zt31 : t31.toInt = 6 + l3_22.toInt := by rw [et31]; exact add_i (by decide) rfl (by omega) (by omega)
                      refine lv_iconst (v := (-1)) hx hb dX11_goDay_196 (by decide) ?_
                      refine stI hx hb hE hP hD hS 25 rfl (vp_in_iff.mpr ⟨by omega, by omega⟩) rfl dX11_goDay_197 (fun H locs hP hD hS => ?_)
                      obtain ⟨f32, ef32, hP, hD⟩ : ∃ fz9, fz9 = upd2 f22 24 (upd (f22 24) t31.toNatClampNeg (-1)) ∧ va_P (dC, dI) vwCl (YW cy y0 r v22 fz9 w22 g22) H ∧ va_D A (YW cy y0 r v22 fz9 w22 g22) := ⟨_, rfl, hP, hD⟩
                      have hCf32 : YC f32 := by rw [ef32]; exact ⟨hCf22.1, (wear_st hCf22.2.1 (by have q9 : ((-1) : Int32).toInt = -1 := (by decide); show t31.toInt.toNat % 39 < 6 ∨ 12 ≤ t31.toInt.toNat % 39 ∨ (-1 ≤ ((-1) : Int32).toInt ∧ ((-1) : Int32).toInt ≤ 5); omega)), hCf22.2.2.1, hCf22.2.2.2.1, hCf22.2.2.2.2.1, hCf22.2.2.2.2.2⟩
                      have hRf32 : progOK (f32 4) (f32 5) (v22 9).toInt.toNat := by rw [ef32]; exact hRf22
                      have hA_f32 : KF [7, 8, 24] f32 f := by rw [ef32]; exact KF.up hA_f22 rfl
                      obtain ⟨t33, et33⟩ : ∃ y : Int32, y = l3_22 + 1 := ⟨_, rfl⟩
                      have zt33 : t33.toInt = l3_22.toInt + 1 := by rw [et33]; exact add_i rfl (by decide) (by omega) (by omega)
                      refine lv_iinc (v := t33) (lv' := [(3, .int t33), (2, .int t21), (0, .ref y0), (1, .int p1)]) hx hb dX11_goDay_198 hl (k := 0) rfl (by rw [et33]; rfl) (by decide) rfl (fun ls hl => ?_)
                      refine lv_goto (tgt := 171) hx hb dX11_goDay_201 (by decide) ?_
                      have rg34 := fb_rng t33
                      exact ih22 t33 v22 f32 w22 g22 hIv22 hCf32 hRf32 hq0_v22 hq1_v22 hq2_v22 hq3_v22 hq4_v22 hq5_v22 hq8_v22 hq9_v22 hq10_v22 hq13_v22 hq14_v22 hq15_v22 hq17_v22 hq18_v22 hq24_v22 hq25_v22 hq35_v22 hq36_v22 hq38_v22 hq39_v22 ((gsY_X11_goDay_1_q2 c23 et26 et27 c28 et31 ef32 et33).symm.trans hT22) ⟨show (0 : Int) ≤ t33.toInt by omega, show t33.toInt ≤ (2147483647 : Int) by omega⟩ hM_v22 hA_f32 (by show (2147483647 - t33.toInt).toNat < n22; omega) _ _ _ hP hD hS (lv_sub hl [0, 1, 2, 3] rfl)
              exact lp22 (4294967296 + NF) 0 v16 f17 w18 g19 hIv16 hCf17 hRf17 hq0_v16 hq1_v16 hq2_v16 hq3_v16 hq4_v16 hq5_v16 hq8_v16 hq9_v16 hq10_v16 hq13_v16 hq14_v16 hq15_v16 hq17_v16 hq18_v16 hq24_v16 hq25_v16 hq35_v16 hq36_v16 hq38_v16 hq39_v16 ((gsY_X11_goDay_1_q3 c6 et9 et10 ef11 hG13.symm hG15 et20 et21).symm.trans hT5) ⟨by decide, by decide⟩ hM_v16 hA_f17 (by have q3 : (0 : Int32).toInt = 0 := (by decide); show (2147483647 - (0 : Int32).toInt).toNat < 4294967296 + NF; omega) _ _ _ hP hD hS (lv_sub hl [0, 1, 2, 3] rfl)
            · skip
              have zc6 : ¬ ((v 25).toInt ≤ l2_5.toInt) := by rw [fa_le] at c6; exact c6
              have rg35 := fb_rng l2_5
              have rg36 := fb_rng (v 25)
              refine lv_aload_n hx hb dX11_goDay_50 rfl (lv_at hl 1 rfl) ?_
              refine lv_iload_n hx hb dX11_goDay_51 rfl (lv_at hl 0 rfl) ?_
              refine cbVi (n := 1) (rest := []) hx hb hml hown hts hE hP hD hS hA (sY_X11_wearer_1 NF l dC dI cy y0 r l2_5 v5 f5 w5 g5 hIv5 hCf5 hRf5 ) k_1775 k_1777 k_76 k_114 k_1778 (by decide +kernel) ⟨Nat.le_of_ble_eq_true rfl, Nat.le_of_ble_eq_true rfl⟩ 0 11 rfl rfl (rfl) hl.1 rfl (Nat.le_of_ble_eq_true rfl) dX11_goDay_52 (fun r37 u H locs hw hP hD hS => ?_)
              have hG38 := hw
              refine lv_if_ge (tgt := 61) hx hb dX11_goDay_55 (by decide) (fun c39 => ?_) (fun c39 => ?_)
              · skip
                have zc39 : 0 ≤ r37.toInt := by rw [fa_le, show (0 : Int32).toInt = 0 from by decide] at c39; exact c39
                refine lv_aload_n hx hb dX11_goDay_61 rfl (lv_at hl 1 rfl) ?_
                refine va_get (D := (dC, dI)) (ci := 11) (v := .ref (r 60)) (C := RX11) (T := TX11) (N := 79) hx hb hts inB_11 hown hE.1 hP 0 rfl rfl 60 (by decide) (hts _ k_1380) (fun _ h9 => h9) rfl dX11_goDay_62 ?_
                refine lv_bipush (v := 30) hx hb dX11_goDay_65 (by decide) ?_
                refine lv_iload_n hx hb dX11_goDay_67 rfl (lv_at hl 0 rfl) ?_
                refine lv_iadd hx hb dX11_goDay_68 ?_
                refine lv_topi (fun t40 et40 => ?_)
                have zt40 : t40.toInt = 30 + l2_5.toInt := by rw [et40]; exact add_i (by decide) rfl (by omega) (by omega)
                refine lv_bipush (v := 99) hx hb dX11_goDay_69 (by decide) ?_
                refine lv_aload_n hx hb dX11_goDay_71 rfl (lv_at hl 1 rfl) ?_
                refine va_get (D := (dC, dI)) (ci := 11) (v := .ref (r 60)) (C := RX11) (T := TX11) (N := 79) hx hb hts inB_11 hown hE.1 hP 0 rfl rfl 60 (by decide) (hts _ k_1380) (fun _ h9 => h9) rfl dX11_goDay_72 ?_
                refine lv_bipush (v := 30) hx hb dX11_goDay_75 (by decide) ?_
                refine lv_iload_n hx hb dX11_goDay_77 rfl (lv_at hl 0 rfl) ?_
                refine lv_iadd hx hb dX11_goDay_78 ?_
                refine tI (y := t40) et40.symm ?_
                refine ldI hx hb hE hP 25 rfl (vp_in_iff.mpr ⟨by omega, by omega⟩) rfl rfl dX11_goDay_79 ?_
                refine lv_topi (fun t41 et41 => ?_)
                have zt41 : t40.toInt.toNat % 39 < 6 ∨ 12 ≤ t40.toInt.toNat % 39 ∨ (-1 ≤ t41.toInt ∧ t41.toInt ≤ 5) := by rw [et41]; exact wear_ld hCf5.2.1 (show t40.toInt.toNat < 39 by omega)
                refine lv_iconst (v := 1) hx hb dX11_goDay_80 (by decide) ?_
                refine lv_iadd hx hb dX11_goDay_81 ?_
                refine lv_topi (fun t42 et42 => ?_)
                have lt43 : (99 : Int32).toInt = 99 := by decide
                refine cbSi (n := 2) (rest := [.int t40, .ref (r 60)]) hx hb hml hown hts hE hP hD hS hA (sY_X11_lesser_1 NF l dC dI cy y0 r 99 t42 v5 f5 w5 g5 hIv5 hCf5 hRf5 ) k_1799 k_1800 k_114 k_1801 (by decide +kernel) ⟨Nat.le_of_ble_eq_true rfl, Nat.le_of_ble_eq_true rfl⟩ (rfl) hl.1 rfl (Nat.le_of_ble_eq_true rfl) dX11_goDay_82 (fun r44 u H locs hw hP hD hS => ?_)
                obtain ⟨hG45, hw⟩ := hw
                obtain ⟨pp46, pp47⟩ := hw
                have pp46 : r44.toInt ≤ (99 : Int32).toInt := pp46
                have pp47 : r44.toInt ≤ t42.toInt := pp47
                refine stI hx hb hE hP hD hS 25 rfl (vp_in_iff.mpr ⟨by omega, by omega⟩) rfl dX11_goDay_85 (fun H locs hP hD hS => ?_)
                obtain ⟨f48, ef48, hP, hD⟩ : ∃ fz9, fz9 = upd2 f5 24 (upd (f5 24) t40.toNatClampNeg r44) ∧ va_P (dC, dI) vwCl (YW cy y0 r v5 fz9 w5 g5) H ∧ va_D A (YW cy y0 r v5 fz9 w5 g5) := ⟨_, rfl, hP, hD⟩
                have hCf48 : YC f48 := by rw [ef48]; exact ⟨hCf5.1, (wear_st hCf5.2.1 (by show t40.toInt.toNat % 39 < 6 ∨ 12 ≤ t40.toInt.toNat % 39 ∨ (-1 ≤ r44.toInt ∧ r44.toInt ≤ 5); omega)), hCf5.2.2.1, hCf5.2.2.2.1, hCf5.2.2.2.2.1, hCf5.2.2.2.2.2⟩
                have hRf48 : progOK (f48 4) (f48 5) (v5 9).toInt.toNat := by rw [ef48]; exact hRf5
                have hA_f48 : KF [7, 8, 24] f48 f := by rw [ef48]; exact KF.up hA_f5 rfl
                refine lv_aload_n hx hb dX11_goDay_86 rfl (lv_at hl 1 rfl) ?_
                refine va_get (D := (dC, dI)) (ci := 11) (v := .ref (r 60)) (C := RX11) (T := TX11) (N := 79) hx hb hts inB_11 hown hE.1 hP 0 rfl rfl 60 (by decide) (hts _ k_1380) (fun _ h9 => h9) rfl dX11_goDay_87 ?_
                refine lv_bipush (v := 12) hx hb dX11_goDay_90 (by decide) ?_
                refine lv_iload_n hx hb dX11_goDay_92 rfl (lv_at hl 0 rfl) ?_
                refine lv_iadd hx hb dX11_goDay_93 ?_
                refine lv_topi (fun t49 et49 => ?_)
                have zt49 : t49.toInt = 12 + l2_5.toInt := by rw [et49]; exact add_i (by decide) rfl (by omega) (by omega)
                refine lv_iconst (v := 0) hx hb dX11_goDay_94 (by decide) ?_
                refine lv_aload_n hx hb dX11_goDay_95 rfl (lv_at hl 1 rfl) ?_
                refine va_get (D := (dC, dI)) (ci := 11) (v := .ref (r 60)) (C := RX11) (T := TX11) (N := 79) hx hb hts inB_11 hown hE.1 hP 0 rfl rfl 60 (by decide) (hts _ k_1380) (fun _ h9 => h9) rfl dX11_goDay_96 ?_
                refine lv_bipush (v := 12) hx hb dX11_goDay_99 (by decide) ?_
                refine lv_iload_n hx hb dX11_goDay_101 rfl (lv_at hl 0 rfl) ?_
                refine lv_iadd hx hb dX11_goDay_102 ?_
                refine tI (y := t49) et49.symm ?_
                refine ldI hx hb hE hP 25 rfl (vp_in_iff.mpr ⟨by omega, by omega⟩) rfl rfl dX11_goDay_103 ?_
                refine lv_topi (fun t50 et50 => ?_)
                have zt50 : t49.toInt.toNat % 39 < 6 ∨ 12 ≤ t49.toInt.toNat % 39 ∨ (-1 ≤ t50.toInt ∧ t50.toInt ≤ 5) := by rw [et50]; exact wear_ld hCf48.2.1 (show t49.toInt.toNat < 39 by omega)
                refine lv_iload_n hx hb dX11_goDay_104 rfl (lv_at hl 2 rfl) ?_
                refine cbSi (n := 1) (rest := [.int t50, .int 0, .int t49, .ref (r 60)]) hx hb hml hown hts hE hP hD hS hA (sY_X11_truth_1 NF l dC dI cy y0 r p1 v5 f48 w5 g5 hIv5 hCf48 hRf48 ) k_1761 k_1762 k_114 k_1763 (by decide +kernel) ⟨Nat.le_of_ble_eq_true rfl, Nat.le_of_ble_eq_true rfl⟩ (rfl) hl.1 rfl (Nat.le_of_ble_eq_true rfl) dX11_goDay_105 (fun r51 u H locs hw hP hD hS => ?_)
                obtain ⟨hG52, hw⟩ := hw
                refine lv_isub hx hb dX11_goDay_108 ?_
                refine lv_topi (fun t53 et53 => ?_)
                refine cbSi (n := 2) (rest := [.int t49, .ref (r 60)]) hx hb hml hown hts hE hP hD hS hA (sY_X11_greater_1 NF l dC dI cy y0 r 0 t53 v5 f48 w5 g5 hIv5 hCf48 hRf48 ) k_1802 k_1803 k_114 k_1804 (by decide +kernel) ⟨Nat.le_of_ble_eq_true rfl, Nat.le_of_ble_eq_true rfl⟩ (rfl) hl.1 rfl (Nat.le_of_ble_eq_true rfl) dX11_goDay_109 (fun r54 u H locs hw hP hD hS => ?_)
                have hG55 := hw
                refine stI hx hb hE hP hD hS 25 rfl (vp_in_iff.mpr ⟨by omega, by omega⟩) rfl dX11_goDay_112 (fun H locs hP hD hS => ?_)
                obtain ⟨f56, ef56, hP, hD⟩ : ∃ fz9, fz9 = upd2 f48 24 (upd (f48 24) t49.toNatClampNeg r54) ∧ va_P (dC, dI) vwCl (YW cy y0 r v5 fz9 w5 g5) H ∧ va_D A (YW cy y0 r v5 fz9 w5 g5) := ⟨_, rfl, hP, hD⟩
                have hCf56 : YC f56 := by rw [ef56]; exact ⟨hCf48.1, (wear_st hCf48.2.1 (by show t49.toInt.toNat % 39 < 6 ∨ 12 ≤ t49.toInt.toNat % 39 ∨ (-1 ≤ r54.toInt ∧ r54.toInt ≤ 5); omega)), hCf48.2.2.1, hCf48.2.2.2.1, hCf48.2.2.2.2.1, hCf48.2.2.2.2.2⟩
                have hRf56 : progOK (f56 4) (f56 5) (v5 9).toInt.toNat := by rw [ef56]; exact hRf48
                have hA_f56 : KF [7, 8, 24] f56 f := by rw [ef56]; exact KF.up hA_f48 rfl
                refine lv_aload_n hx hb dX11_goDay_113 rfl (lv_at hl 1 rfl) ?_
                refine va_get (D := (dC, dI)) (ci := 11) (v := .ref (r 60)) (C := RX11) (T := TX11) (N := 79) hx hb hts inB_11 hown hE.1 hP 0 rfl rfl 60 (by decide) (hts _ k_1380) (fun _ h9 => h9) rfl dX11_goDay_114 ?_
                refine lv_bipush (v := 18) hx hb dX11_goDay_117 (by decide) ?_
                refine lv_iload_n hx hb dX11_goDay_119 rfl (lv_at hl 0 rfl) ?_
                refine lv_iadd hx hb dX11_goDay_120 ?_
                refine lv_topi (fun t57 et57 => ?_)
                have zt57 : t57.toInt = 18 + l2_5.toInt := by rw [et57]; exact add_i (by decide) rfl (by omega) (by omega)
                refine lv_iconst (v := 0) hx hb dX11_goDay_121 (by decide) ?_
                refine lv_aload_n hx hb dX11_goDay_122 rfl (lv_at hl 1 rfl) ?_
                refine va_get (D := (dC, dI)) (ci := 11) (v := .ref (r 60)) (C := RX11) (T := TX11) (N := 79) hx hb hts inB_11 hown hE.1 hP 0 rfl rfl 60 (by decide) (hts _ k_1380) (fun _ h9 => h9) rfl dX11_goDay_123 ?_
                refine lv_bipush (v := 18) hx hb dX11_goDay_126 (by decide) ?_
                refine lv_iload_n hx hb dX11_goDay_128 rfl (lv_at hl 0 rfl) ?_
                refine lv_iadd hx hb dX11_goDay_129 ?_
                refine tI (y := t57) et57.symm ?_
                refine ldI hx hb hE hP 25 rfl (vp_in_iff.mpr ⟨by omega, by omega⟩) rfl rfl dX11_goDay_130 ?_
                refine lv_topi (fun t58 et58 => ?_)
                have zt58 : t57.toInt.toNat % 39 < 6 ∨ 12 ≤ t57.toInt.toNat % 39 ∨ (-1 ≤ t58.toInt ∧ t58.toInt ≤ 5) := by rw [et58]; exact wear_ld hCf56.2.1 (show t57.toInt.toNat < 39 by omega)
                refine lv_iload_n hx hb dX11_goDay_131 rfl (lv_at hl 2 rfl) ?_
                refine cbSi (n := 1) (rest := [.int t58, .int 0, .int t57, .ref (r 60)]) hx hb hml hown hts hE hP hD hS hA (sY_X11_truth_1 NF l dC dI cy y0 r p1 v5 f56 w5 g5 hIv5 hCf56 hRf56 ) k_1761 k_1762 k_114 k_1763 (by decide +kernel) ⟨Nat.le_of_ble_eq_true rfl, Nat.le_of_ble_eq_true rfl⟩ (rfl) hl.1 rfl (Nat.le_of_ble_eq_true rfl) dX11_goDay_132 (fun r59 u H locs hw hP hD hS => ?_)
                obtain ⟨hG60, hw⟩ := hw
                refine lv_isub hx hb dX11_goDay_135 ?_
                refine lv_topi (fun t61 et61 => ?_)
                refine cbSi (n := 2) (rest := [.int t57, .ref (r 60)]) hx hb hml hown hts hE hP hD hS hA (sY_X11_greater_1 NF l dC dI cy y0 r 0 t61 v5 f56 w5 g5 hIv5 hCf56 hRf56 ) k_1802 k_1803 k_114 k_1804 (by decide +kernel) ⟨Nat.le_of_ble_eq_true rfl, Nat.le_of_ble_eq_true rfl⟩ (rfl) hl.1 rfl (Nat.le_of_ble_eq_true rfl) dX11_goDay_136 (fun r62 u H locs hw hP hD hS => ?_)
                have hG63 := hw
                refine stI hx hb hE hP hD hS 25 rfl (vp_in_iff.mpr ⟨by omega, by omega⟩) rfl dX11_goDay_139 (fun H locs hP hD hS => ?_)
                obtain ⟨f64, ef64, hP, hD⟩ : ∃ fz9, fz9 = upd2 f56 24 (upd (f56 24) t57.toNatClampNeg r62) ∧ va_P (dC, dI) vwCl (YW cy y0 r v5 fz9 w5 g5) H ∧ va_D A (YW cy y0 r v5 fz9 w5 g5) := ⟨_, rfl, hP, hD⟩
                have hCf64 : YC f64 := by rw [ef64]; exact ⟨hCf56.1, (wear_st hCf56.2.1 (by show t57.toInt.toNat % 39 < 6 ∨ 12 ≤ t57.toInt.toNat % 39 ∨ (-1 ≤ r62.toInt ∧ r62.toInt ≤ 5); omega)), hCf56.2.2.1, hCf56.2.2.2.1, hCf56.2.2.2.2.1, hCf56.2.2.2.2.2⟩
                have hRf64 : progOK (f64 4) (f64 5) (v5 9).toInt.toNat := by rw [ef64]; exact hRf56
                have hA_f64 : KF [7, 8, 24] f64 f := by rw [ef64]; exact KF.up hA_f56 rfl
                obtain ⟨t65, et65⟩ : ∃ y : Int32, y = l2_5 + 1 := ⟨_, rfl⟩
                have zt65 : t65.toInt = l2_5.toInt + 1 := by rw [et65]; exact add_i rfl (by decide) (by omega) (by omega)
                refine lv_iinc (v := t65) (lv' := [(2, .int t65), (0, .ref y0), (1, .int p1)]) hx hb dX11_goDay_140 hl (k := 0) rfl (by rw [et65]; rfl) (by decide) rfl (fun ls hl => ?_)
                refine lv_goto (tgt := 42) hx hb dX11_goDay_143 (by decide) ?_
                have rg66 := fb_rng t65
                exact ih5 t65 v5 f64 w5 g5 hIv5 hCf64 hRf64 hq0_v5 hq1_v5 hq2_v5 hq3_v5 hq4_v5 hq5_v5 hq8_v5 hq9_v5 hq10_v5 hq13_v5 hq14_v5 hq15_v5 hq17_v5 hq18_v5 hq24_v5 hq25_v5 hq35_v5 hq36_v5 hq38_v5 hq39_v5 ((gsY_X11_goDay_1_q4 c6 hG38.symm c39 et40 et41 et42 hG45.symm ef48 et49 et50 hG52.symm et53 hG55.symm ef56 et57 et58 hG60.symm et61 hG63.symm ef64 et65).symm.trans hT5) ⟨show (0 : Int) ≤ t65.toInt by omega, show t65.toInt ≤ (2147483647 : Int) by omega⟩ hM_v5 hA_f64 (by show (2147483647 - t65.toInt).toNat < n5; omega) _ _ _ hP hD hS (lv_sub hl [0, 1, 2] rfl)
              · skip
                have zc39 : ¬ (0 ≤ r37.toInt) := by rw [fa_le, show (0 : Int32).toInt = 0 from by decide] at c39; exact c39
                refine lv_goto (tgt := 140) hx hb dX11_goDay_58 (by decide) ?_
                obtain ⟨t67, et67⟩ : ∃ y : Int32, y = l2_5 + 1 := ⟨_, rfl⟩
                have zt67 : t67.toInt = l2_5.toInt + 1 := by rw [et67]; exact add_i rfl (by decide) (by omega) (by omega)
                refine lv_iinc (v := t67) (lv' := [(2, .int t67), (0, .ref y0), (1, .int p1)]) hx hb dX11_goDay_140 hl (k := 0) rfl (by rw [et67]; rfl) (by decide) rfl (fun ls hl => ?_)
                refine lv_goto (tgt := 42) hx hb dX11_goDay_143 (by decide) ?_
                have rg68 := fb_rng t67
                exact ih5 t67 v5 f5 w5 g5 hIv5 hCf5 hRf5 hq0_v5 hq1_v5 hq2_v5 hq3_v5 hq4_v5 hq5_v5 hq8_v5 hq9_v5 hq10_v5 hq13_v5 hq14_v5 hq15_v5 hq17_v5 hq18_v5 hq24_v5 hq25_v5 hq35_v5 hq36_v5 hq38_v5 hq39_v5 ((gsY_X11_goDay_1_q5 c6 hG38.symm c39 et67).symm.trans hT5) ⟨show (0 : Int) ≤ t67.toInt by omega, show t67.toInt ≤ (2147483647 : Int) by omega⟩ hM_v5 hA_f5 (by show (2147483647 - t67.toInt).toNat < n5; omega) _ _ _ hP hD hS (lv_sub hl [0, 1, 2] rfl)
        exact lp5 (4294967296 + NF) 0 v1 f1 w1 g1 hIv1 hCf1 hRf1 hq0_v1 hq1_v1 hq2_v1 hq3_v1 hq4_v1 hq5_v1 hq8_v1 hq9_v1 hq10_v1 hq13_v1 hq14_v1 hq15_v1 hq17_v1 hq18_v1 hq24_v1 hq25_v1 hq35_v1 hq36_v1 hq38_v1 hq39_v1 ((gsY_X11_goDay_1_q6 c2).symm.trans hT1) ⟨by decide, by decide⟩ hM_v1 hA_f1 (by have q2 : (0 : Int32).toInt = 0 := (by decide); show (2147483647 - (0 : Int32).toInt).toNat < 4294967296 + NF; omega) _ _ _ hP hD hS (lv_sub hl [0, 1, 2] rfl)
      · skip
        have zc2 : ¬ ((v 24).toInt ≤ l2_1.toInt) := by rw [fa_le] at c2; exact c2
        have rg69 := fb_rng l2_1
        have rg70 := fb_rng (v 24)
        refine lv_aload_n hx hb dX11_goDay_10 rfl (lv_at hl 1 rfl) ?_
        refine va_get (D := (dC, dI)) (ci := 11) (v := .ref (r 60)) (C := RX11) (T := TX11) (N := 79) hx hb hts inB_11 hown hE.1 hP 0 rfl rfl 60 (by decide) (hts _ k_1380) (fun _ h9 => h9) rfl dX11_goDay_11 ?_
        refine lv_iload_n hx hb dX11_goDay_14 rfl (lv_at hl 0 rfl) ?_
        refine lv_bipush (v := 99) hx hb dX11_goDay_15 (by decide) ?_
        refine lv_aload_n hx hb dX11_goDay_17 rfl (lv_at hl 1 rfl) ?_
        refine va_get (D := (dC, dI)) (ci := 11) (v := .ref (r 60)) (C := RX11) (T := TX11) (N := 79) hx hb hts inB_11 hown hE.1 hP 0 rfl rfl 60 (by decide) (hts _ k_1380) (fun _ h9 => h9) rfl dX11_goDay_18 ?_
        refine lv_iload_n hx hb dX11_goDay_21 rfl (lv_at hl 0 rfl) ?_
        refine ldI hx hb hE hP 25 rfl (vp_in_iff.mpr ⟨by omega, by omega⟩) rfl rfl dX11_goDay_22 ?_
        refine lv_topi (fun t71 et71 => ?_)
        have zt71 : l2_1.toInt.toNat % 39 < 6 ∨ 12 ≤ l2_1.toInt.toNat % 39 ∨ (-1 ≤ t71.toInt ∧ t71.toInt ≤ 5) := by rw [et71]; exact wear_ld hCf1.2.1 (show l2_1.toInt.toNat < 39 by omega)
        refine lv_aload_n hx hb dX11_goDay_23 rfl (lv_at hl 1 rfl) ?_
        refine va_get (D := (dC, dI)) (ci := 11) (v := .ref (r 36)) (C := RX11) (T := TX11) (N := 79) hx hb hts inB_11 hown hE.1 hP 0 rfl rfl 36 (by decide) (hts _ k_1356) (fun _ h9 => h9) rfl dX11_goDay_24 ?_
        refine lv_iload_n hx hb dX11_goDay_27 rfl (lv_at hl 0 rfl) ?_
        refine ldI hx hb hE hP 19 rfl (vp_in_iff.mpr ⟨by omega, by omega⟩) rfl rfl dX11_goDay_28 ?_
        refine lv_topi (fun t72 et72 => ?_)
        refine lv_iadd hx hb dX11_goDay_29 ?_
        refine lv_topi (fun t73 et73 => ?_)
        have lt74 : (99 : Int32).toInt = 99 := by decide
        refine cbSi (n := 2) (rest := [.int l2_1, .ref (r 60)]) hx hb hml hown hts hE hP hD hS hA (sY_X11_lesser_1 NF l dC dI cy y0 r 99 t73 v1 f1 w1 g1 hIv1 hCf1 hRf1 ) k_1799 k_1800 k_114 k_1801 (by decide +kernel) ⟨Nat.le_of_ble_eq_true rfl, Nat.le_of_ble_eq_true rfl⟩ (rfl) hl.1 rfl (Nat.le_of_ble_eq_true rfl) dX11_goDay_30 (fun r75 u H locs hw hP hD hS => ?_)
        obtain ⟨hG76, hw⟩ := hw
        obtain ⟨pp77, pp78⟩ := hw
        have pp77 : r75.toInt ≤ (99 : Int32).toInt := pp77
        have pp78 : r75.toInt ≤ t73.toInt := pp78
        refine stI hx hb hE hP hD hS 25 rfl (vp_in_iff.mpr ⟨by omega, by omega⟩) rfl dX11_goDay_33 (fun H locs hP hD hS => ?_)
        obtain ⟨f79, ef79, hP, hD⟩ : ∃ fz9, fz9 = upd2 f1 24 (upd (f1 24) l2_1.toNatClampNeg r75) ∧ va_P (dC, dI) vwCl (YW cy y0 r v1 fz9 w1 g1) H ∧ va_D A (YW cy y0 r v1 fz9 w1 g1) := ⟨_, rfl, hP, hD⟩
        have hCf79 : YC f79 := by rw [ef79]; exact ⟨hCf1.1, (wear_st hCf1.2.1 (by show l2_1.toInt.toNat % 39 < 6 ∨ 12 ≤ l2_1.toInt.toNat % 39 ∨ (-1 ≤ r75.toInt ∧ r75.toInt ≤ 5); omega)), hCf1.2.2.1, hCf1.2.2.2.1, hCf1.2.2.2.2.1, hCf1.2.2.2.2.2⟩
        have hRf79 : progOK (f79 4) (f79 5) (v1 9).toInt.toNat := by rw [ef79]; exact hRf1
        have hA_f79 : KF [7, 8, 24] f79 f := by rw [ef79]; exact KF.up hA_f1 rfl
        obtain ⟨t80, et80⟩ : ∃ y : Int32, y = l2_1 + 1 := ⟨_, rfl⟩
        have zt80 : t80.toInt = l2_1.toInt + 1 := by rw [et80]; exact add_i rfl (by decide) (by omega) (by omega)
        refine lv_iinc (v := t80) (lv' := [(2, .int t80), (0, .ref y0), (1, .int p1)]) hx hb dX11_goDay_34 hl (k := 0) rfl (by rw [et80]; rfl) (by decide) rfl (fun ls hl => ?_)
        refine lv_goto (tgt := 2) hx hb dX11_goDay_37 (by decide) ?_
        have rg81 := fb_rng t80
        exact ih1 t80 v1 f79 w1 g1 hIv1 hCf79 hRf79 hq0_v1 hq1_v1 hq2_v1 hq3_v1 hq4_v1 hq5_v1 hq8_v1 hq9_v1 hq10_v1 hq13_v1 hq14_v1 hq15_v1 hq17_v1 hq18_v1 hq24_v1 hq25_v1 hq35_v1 hq36_v1 hq38_v1 hq39_v1 ((gsY_X11_goDay_1_q7 c2 et71 et72 et73 hG76.symm ef79 et80).symm.trans hT1) ⟨show (0 : Int) ≤ t80.toInt by omega, show t80.toInt ≤ (2147483647 : Int) by omega⟩ hM_v1 hA_f79 (by show (2147483647 - t80.toInt).toNat < n1; omega) _ _ _ hP hD hS (lv_sub hl [0, 1, 2] rfl)
  exact lp1 (4294967296 + NF) 0 v f w g hIv hCf hRf rfl rfl rfl rfl rfl rfl rfl rfl rfl rfl rfl rfl rfl rfl rfl rfl rfl rfl rfl rfl gsY_X11_goDay_1_q8.symm ⟨by decide, by decide⟩ hM_v hA_f (by have q2 : (0 : Int32).toInt = 0 := (by decide); show (2147483647 - (0 : Int32).toInt).toNat < 4294967296 + NF; omega) _ _ _ hP hD hS (lv_sub hl [0, 1, 2] rfl)
set_option maxHeartbeats 4000000 in
set_option maxRecDepth 100000 in
theorem sY_X11_day_1 (NF : Nat) (l : Launch) (dC : Nat → ClassId) (dI : Nat → Nat → Nat) (cy : Nat → ClassId) (y0 : Nat) (r : Nat → Nat)  (v : Nat → Int32) (f : Nat → Nat → Int32) (w : Int64) (g : Nat → Int64) (hIv : YI v) (hCf : YC f) (hRf : progOK (f 4) (f 5) (v 9).toInt.toNat)  : ctI l (dC, dI) cy yX11_day cX11_day 3 .int 8 214 0 0 ((Nat → Int32) × (Nat → Nat → Int32) × (Int64) × (Nat → Int64)) [.ref y0] (YW cy y0 r v f w g) (fun r u => gsY_X11_day_1 NF v f w g = (r, u) ∧ KV [35, 36] u.1 v ∧ KF [7, 8, 23, 24, 25] u.2.1 f ∧ YI u.1 ∧ YC u.2.1 ∧ progOK (u.2.1 4) (u.2.1 5) (u.1 9).toInt.toNat ∧ u.1 0 = v 0 ∧ u.1 1 = v 1 ∧ u.1 2 = v 2 ∧ u.1 3 = v 3 ∧ u.1 4 = v 4 ∧ u.1 5 = v 5 ∧ u.1 8 = v 8 ∧ u.1 9 = v 9 ∧ u.1 10 = v 10 ∧ u.1 13 = v 13 ∧ u.1 14 = v 14 ∧ u.1 15 = v 15 ∧ u.1 17 = v 17 ∧ u.1 18 = v 18 ∧ u.1 24 = v 24 ∧ u.1 25 = v 25 ∧ u.1 38 = v 38 ∧ u.1 39 = v 39) (fun u => YW cy y0 r u.1 u.2.1 u.2.2.1 u.2.2.2) := by
  refine ctI_of (by decide) (Nat.le_of_ble_eq_true rfl) (fun p e s m below meth c A ls Q hx hb hml hts hown hE hP hD hA hl ret => ?_)
  have hUv : (v 35).toInt + (v 36).toInt ≤ 40 := hIv.2
  have hM_v : KV [35, 36] v v := fun _ _ => rfl
  have hA_f : KF [7, 8, 23, 24, 25] f f := fun _ _ => rfl
  have hown : s.vm.findClass RX11 = some m.cls := hown
  have hS : va_S A s.heap s.heap [] := va_S.rf
  have hl : lv_has ls 3 [(0, .ref y0)] := hl
  refine lv_aload_n hx hb dX11_day_0 rfl (lv_at hl 0 rfl) ?_
  refine va_get (D := (dC, dI)) (ci := 11) (v := .ref (r 59)) (C := RX11) (T := TX11) (N := 79) hx hb hts inB_11 hown hE.1 hP 0 rfl rfl 59 (by decide) (hts _ k_1379) (fun _ h9 => h9) rfl dX11_day_1 ?_
  refine lv_bipush (v := 37) hx hb dX11_day_4 (by decide) ?_
  refine ldI hx hb hE hP 24 rfl (vp_in_nI (n := 37) (by decide) (by decide)) rfl rfl dX11_day_6 ?_
  refine lv_topi (fun t1 et1 => ?_)
  have zt1 : 37 % 39 < 6 ∨ 12 ≤ 37 % 39 ∨ (-1 ≤ t1.toInt ∧ t1.toInt ≤ 5) := by rw [et1]; exact wear_ld hCf.1 (show 37 < 39 by omega)
  refine lv_sipush (v := 999) hx hb dX11_day_7 (by decide) ?_
  refine lv_icmp_ne (tgt := 15) hx hb dX11_day_10 (by decide) (fun c2 => ?_) (fun c2 => ?_)
  · skip
    have zc2 : ¬ (t1.toInt = 999) := by rw [fa_eq, show (999 : Int32).toInt = 999 from by decide] at c2; exact c2
    refine lv_aload_n hx hb dX11_day_15 rfl (lv_at hl 0 rfl) ?_
    refine cbVv (n := 0) (rest := []) hx hb hml hown hts hE hP hD hS hA (sY_X11_act_1 NF l dC dI cy y0 r  v f w g hIv hCf hRf ) k_1787 k_1789 k_77 k_114 k_1790 (by decide +kernel) ⟨Nat.le_of_ble_eq_true rfl, Nat.le_of_ble_eq_true rfl⟩ 0 11 rfl rfl (rfl) hl.1 rfl (Nat.le_of_ble_eq_true rfl) dX11_day_16 (fun u H locs hw hP hD hS => ?_)
    obtain ⟨hG3, hw⟩ := hw
    obtain ⟨v4, f5, w6, g7⟩ := u
    obtain ⟨kV_v4, kF_f5, hIv4, hCf5, hRf5, hk0_v4, hk1_v4, hk2_v4, hk3_v4, hk4_v4, hk5_v4, hk8_v4, hk9_v4, hk10_v4, hk13_v4, hk14_v4, hk15_v4, hk17_v4, hk18_v4, hk24_v4, hk25_v4, hk38_v4, hk39_v4⟩ := hw
    have hM_v4 : KV [35, 36] v4 v := KV.tr kV_v4 hM_v rfl
    have hA_f5 : KF [7, 8, 23, 24, 25] f5 f := KF.tr kF_f5 hA_f rfl
    have hP : va_P (dC, dI) vwCl (YW cy y0 r v4 f5 w6 g7) H := hP
    have hD : va_D A (YW cy y0 r v4 f5 w6 g7) := hD
    have hUv4 : (v4 35).toInt + (v4 36).toInt ≤ 40 := hIv4.2
    have hq9_v4 : v4 9 = (v 9) := hk9_v4
    have zq9_v4 := congrArg Int32.toInt hq9_v4
    refine lv_aload_n hx hb dX11_day_19 rfl (lv_at hl 0 rfl) ?_
    refine cbVi (n := 0) (rest := []) hx hb hml hown hts hE hP hD hS hA (sY_X11_drawRain_1 NF l dC dI cy y0 r  v4 f5 w6 g7 hIv4 hCf5 hRf5 ) k_1791 k_1793 k_78 k_114 k_1794 (by decide +kernel) ⟨Nat.le_of_ble_eq_true rfl, Nat.le_of_ble_eq_true rfl⟩ 0 11 rfl rfl (rfl) hl.1 rfl (Nat.le_of_ble_eq_true rfl) dX11_day_20 (fun r8 u H locs hw hP hD hS => ?_)
    obtain ⟨hG9, hw⟩ := hw
    obtain ⟨v10, f11, w12, g13⟩ := u
    obtain ⟨kV_v10, kF_f11, hIv10, hCf11, hRf11, hk0_v10, hk1_v10, hk2_v10, hk3_v10, hk4_v10, hk5_v10, hk8_v10, hk9_v10, hk10_v10, hk13_v10, hk14_v10, hk15_v10, hk17_v10, hk18_v10, hk24_v10, hk25_v10, hk35_v10, hk36_v10, hk38_v10, hk39_v10, hw⟩ := hw
    have hM_v10 : KV [35, 36] v10 v := KV.tr kV_v10 hM_v4 rfl
    have hA_f11 : KF [7, 8, 23, 24, 25] f11 f := KF.tr kF_f11 hA_f5 rfl
    have hP : va_P (dC, dI) vwCl (YW cy y0 r v10 f11 w12 g13) H := hP
    have hD : va_D A (YW cy y0 r v10 f11 w12 g13) := hD
    have hUv10 : (v10 35).toInt + (v10 36).toInt ≤ 40 := hIv10.2
    have hq9_v10 : v10 9 = (v 9) := hk9_v10.trans hq9_v4
    have zq9_v10 := congrArg Int32.toInt hq9_v10
    rcases hw with ⟨g14⟩ | ⟨g14⟩
    · skip
      subst g14
      refine lv_istore_n (lv' := [(1, .int 1), (0, .ref y0)]) hx hb dX11_day_23 rfl hl (by decide) rfl (fun ls hl => ?_)
      refine lv_aload_n hx hb dX11_day_24 rfl (lv_at hl 1 rfl) ?_
      refine lv_iload_n hx hb dX11_day_25 rfl (lv_at hl 0 rfl) ?_
      refine cbVi (n := 1) (rest := []) hx hb hml hown hts hE hP hD hS hA (sY_X11_goDay_1 NF l dC dI cy y0 r 1 v10 f11 w12 g13 hIv10 hCf11 hRf11 ) k_1795 k_1797 k_79 k_114 k_1798 (by decide +kernel) ⟨Nat.le_of_ble_eq_true rfl, Nat.le_of_ble_eq_true rfl⟩ 0 11 rfl rfl (rfl) hl.1 rfl (Nat.le_of_ble_eq_true rfl) dX11_day_26 (fun r15 u H locs hw hP hD hS => ?_)
      obtain ⟨hG16, hw⟩ := hw
      obtain ⟨v17, f18, w19, g20⟩ := u
      obtain ⟨kV_v17, kF_f18, hIv17, hCf18, hRf18, hk0_v17, hk1_v17, hk2_v17, hk3_v17, hk4_v17, hk5_v17, hk8_v17, hk9_v17, hk10_v17, hk13_v17, hk14_v17, hk15_v17, hk17_v17, hk18_v17, hk24_v17, hk25_v17, hk35_v17, hk36_v17, hk38_v17, hk39_v17⟩ := hw
      have hM_v17 : KV [35, 36] v17 v := KV.tr kV_v17 hM_v10 rfl
      have hA_f18 : KF [7, 8, 23, 24, 25] f18 f := KF.tr kF_f18 hA_f11 rfl
      have hP : va_P (dC, dI) vwCl (YW cy y0 r v17 f18 w19 g20) H := hP
      have hD : va_D A (YW cy y0 r v17 f18 w19 g20) := hD
      have hUv17 : (v17 35).toInt + (v17 36).toInt ≤ 40 := hIv17.2
      have hq9_v17 : v17 9 = (v 9) := hk9_v17.trans hq9_v10
      have zq9_v17 := congrArg Int32.toInt hq9_v17
      refine lv_istore_n (lv' := [(2, .int r15), (1, .int 1), (0, .ref y0)]) hx hb dX11_day_29 rfl hl (by decide) rfl (fun ls hl => ?_)
      refine lv_aload_n hx hb dX11_day_30 rfl (lv_at hl 2 rfl) ?_
      refine cbVv (n := 0) (rest := []) hx hb hml hown hts hE hP hD hS hA (sY_X11_keepAir_1 NF l dC dI cy y0 r  v17 f18 w19 g20 hIv17 hCf18 hRf18 ) k_1720 k_1722 k_69 k_114 k_1723 (by decide +kernel) ⟨Nat.le_of_ble_eq_true rfl, Nat.le_of_ble_eq_true rfl⟩ 0 11 rfl rfl (rfl) hl.1 rfl (Nat.le_of_ble_eq_true rfl) dX11_day_31 (fun u H locs hw hP hD hS => ?_)
      obtain ⟨hG21, hw⟩ := hw
      obtain ⟨v22, f23, w24, g25⟩ := u
      obtain ⟨kV_v22, kF_f23, hIv22, hCf23, hRf23, hk0_v22, hk1_v22, hk2_v22, hk3_v22, hk4_v22, hk5_v22, hk8_v22, hk9_v22, hk10_v22, hk13_v22, hk14_v22, hk15_v22, hk17_v22, hk18_v22, hk24_v22, hk25_v22, hk35_v22, hk36_v22, hk38_v22, hk39_v22⟩ := hw
      have hM_v22 : KV [35, 36] v22 v := KV.tr kV_v22 hM_v17 rfl
      have hA_f23 : KF [7, 8, 23, 24, 25] f23 f := KF.tr kF_f23 hA_f18 rfl
      have hP : va_P (dC, dI) vwCl (YW cy y0 r v22 f23 w24 g25) H := hP
      have hD : va_D A (YW cy y0 r v22 f23 w24 g25) := hD
      have hUv22 : (v22 35).toInt + (v22 36).toInt ≤ 40 := hIv22.2
      have hq9_v22 : v22 9 = (v 9) := hk9_v22.trans hq9_v17
      have zq9_v22 := congrArg Int32.toInt hq9_v22
      refine lv_iload_n hx hb dX11_day_34 rfl (lv_at hl 0 rfl) ?_
      exact ret r15 (v22, f23, w24, g25) _ _ _ _ _ _ rfl ⟨(gsY_X11_day_1_q0 et1 c2 hG3 hG9 hG16 hG21), hM_v22, hA_f23, hIv22, hCf23, hRf23, (hk0_v22.trans (hk0_v17.trans (hk0_v10.trans hk0_v4))), (hk1_v22.trans (hk1_v17.trans (hk1_v10.trans hk1_v4))), (hk2_v22.trans (hk2_v17.trans (hk2_v10.trans hk2_v4))), (hk3_v22.trans (hk3_v17.trans (hk3_v10.trans hk3_v4))), (hk4_v22.trans (hk4_v17.trans (hk4_v10.trans hk4_v4))), (hk5_v22.trans (hk5_v17.trans (hk5_v10.trans hk5_v4))), (hk8_v22.trans (hk8_v17.trans (hk8_v10.trans hk8_v4))), (hk9_v22.trans (hk9_v17.trans (hk9_v10.trans hk9_v4))), (hk10_v22.trans (hk10_v17.trans (hk10_v10.trans hk10_v4))), (hk13_v22.trans (hk13_v17.trans (hk13_v10.trans hk13_v4))), (hk14_v22.trans (hk14_v17.trans (hk14_v10.trans hk14_v4))), (hk15_v22.trans (hk15_v17.trans (hk15_v10.trans hk15_v4))), (hk17_v22.trans (hk17_v17.trans (hk17_v10.trans hk17_v4))), (hk18_v22.trans (hk18_v17.trans (hk18_v10.trans hk18_v4))), (hk24_v22.trans (hk24_v17.trans (hk24_v10.trans hk24_v4))), (hk25_v22.trans (hk25_v17.trans (hk25_v10.trans hk25_v4))), (hk38_v22.trans (hk38_v17.trans (hk38_v10.trans hk38_v4))), (hk39_v22.trans (hk39_v17.trans (hk39_v10.trans hk39_v4)))⟩ hP hD hS dX11_day_35 (Nat.le_refl _) (Nat.le_refl _)
    · skip
      subst g14
      refine lv_istore_n (lv' := [(1, .int 0), (0, .ref y0)]) hx hb dX11_day_23 rfl hl (by decide) rfl (fun ls hl => ?_)
      refine lv_aload_n hx hb dX11_day_24 rfl (lv_at hl 1 rfl) ?_
      refine lv_iload_n hx hb dX11_day_25 rfl (lv_at hl 0 rfl) ?_
      refine cbVi (n := 1) (rest := []) hx hb hml hown hts hE hP hD hS hA (sY_X11_goDay_1 NF l dC dI cy y0 r 0 v10 f11 w12 g13 hIv10 hCf11 hRf11 ) k_1795 k_1797 k_79 k_114 k_1798 (by decide +kernel) ⟨Nat.le_of_ble_eq_true rfl, Nat.le_of_ble_eq_true rfl⟩ 0 11 rfl rfl (rfl) hl.1 rfl (Nat.le_of_ble_eq_true rfl) dX11_day_26 (fun r26 u H locs hw hP hD hS => ?_)
      obtain ⟨hG27, hw⟩ := hw
      obtain ⟨v28, f29, w30, g31⟩ := u
      obtain ⟨kV_v28, kF_f29, hIv28, hCf29, hRf29, hk0_v28, hk1_v28, hk2_v28, hk3_v28, hk4_v28, hk5_v28, hk8_v28, hk9_v28, hk10_v28, hk13_v28, hk14_v28, hk15_v28, hk17_v28, hk18_v28, hk24_v28, hk25_v28, hk35_v28, hk36_v28, hk38_v28, hk39_v28⟩ := hw
      have hM_v28 : KV [35, 36] v28 v := KV.tr kV_v28 hM_v10 rfl
      have hA_f29 : KF [7, 8, 23, 24, 25] f29 f := KF.tr kF_f29 hA_f11 rfl
      have hP : va_P (dC, dI) vwCl (YW cy y0 r v28 f29 w30 g31) H := hP
      have hD : va_D A (YW cy y0 r v28 f29 w30 g31) := hD
      have hUv28 : (v28 35).toInt + (v28 36).toInt ≤ 40 := hIv28.2
      have hq9_v28 : v28 9 = (v 9) := hk9_v28.trans hq9_v10
      have zq9_v28 := congrArg Int32.toInt hq9_v28
      refine lv_istore_n (lv' := [(2, .int r26), (1, .int 0), (0, .ref y0)]) hx hb dX11_day_29 rfl hl (by decide) rfl (fun ls hl => ?_)
      refine lv_aload_n hx hb dX11_day_30 rfl (lv_at hl 2 rfl) ?_
      refine cbVv (n := 0) (rest := []) hx hb hml hown hts hE hP hD hS hA (sY_X11_keepAir_1 NF l dC dI cy y0 r  v28 f29 w30 g31 hIv28 hCf29 hRf29 ) k_1720 k_1722 k_69 k_114 k_1723 (by decide +kernel) ⟨Nat.le_of_ble_eq_true rfl, Nat.le_of_ble_eq_true rfl⟩ 0 11 rfl rfl (rfl) hl.1 rfl (Nat.le_of_ble_eq_true rfl) dX11_day_31 (fun u H locs hw hP hD hS => ?_)
      obtain ⟨hG32, hw⟩ := hw
      obtain ⟨v33, f34, w35, g36⟩ := u
      obtain ⟨kV_v33, kF_f34, hIv33, hCf34, hRf34, hk0_v33, hk1_v33, hk2_v33, hk3_v33, hk4_v33, hk5_v33, hk8_v33, hk9_v33, hk10_v33, hk13_v33, hk14_v33, hk15_v33, hk17_v33, hk18_v33, hk24_v33, hk25_v33, hk35_v33, hk36_v33, hk38_v33, hk39_v33⟩ := hw
      have hM_v33 : KV [35, 36] v33 v := KV.tr kV_v33 hM_v28 rfl
      have hA_f34 : KF [7, 8, 23, 24, 25] f34 f := KF.tr kF_f34 hA_f29 rfl
      have hP : va_P (dC, dI) vwCl (YW cy y0 r v33 f34 w35 g36) H := hP
      have hD : va_D A (YW cy y0 r v33 f34 w35 g36) := hD
      have hUv33 : (v33 35).toInt + (v33 36).toInt ≤ 40 := hIv33.2
      have hq9_v33 : v33 9 = (v 9) := hk9_v33.trans hq9_v28
      have zq9_v33 := congrArg Int32.toInt hq9_v33
      refine lv_iload_n hx hb dX11_day_34 rfl (lv_at hl 0 rfl) ?_
      exact ret r26 (v33, f34, w35, g36) _ _ _ _ _ _ rfl ⟨(gsY_X11_day_1_q1 et1 c2 hG3 hG9 hG27 hG32), hM_v33, hA_f34, hIv33, hCf34, hRf34, (hk0_v33.trans (hk0_v28.trans (hk0_v10.trans hk0_v4))), (hk1_v33.trans (hk1_v28.trans (hk1_v10.trans hk1_v4))), (hk2_v33.trans (hk2_v28.trans (hk2_v10.trans hk2_v4))), (hk3_v33.trans (hk3_v28.trans (hk3_v10.trans hk3_v4))), (hk4_v33.trans (hk4_v28.trans (hk4_v10.trans hk4_v4))), (hk5_v33.trans (hk5_v28.trans (hk5_v10.trans hk5_v4))), (hk8_v33.trans (hk8_v28.trans (hk8_v10.trans hk8_v4))), (hk9_v33.trans (hk9_v28.trans (hk9_v10.trans hk9_v4))), (hk10_v33.trans (hk10_v28.trans (hk10_v10.trans hk10_v4))), (hk13_v33.trans (hk13_v28.trans (hk13_v10.trans hk13_v4))), (hk14_v33.trans (hk14_v28.trans (hk14_v10.trans hk14_v4))), (hk15_v33.trans (hk15_v28.trans (hk15_v10.trans hk15_v4))), (hk17_v33.trans (hk17_v28.trans (hk17_v10.trans hk17_v4))), (hk18_v33.trans (hk18_v28.trans (hk18_v10.trans hk18_v4))), (hk24_v33.trans (hk24_v28.trans (hk24_v10.trans hk24_v4))), (hk25_v33.trans (hk25_v28.trans (hk25_v10.trans hk25_v4))), (hk38_v33.trans (hk38_v28.trans (hk38_v10.trans hk38_v4))), (hk39_v33.trans (hk39_v28.trans (hk39_v10.trans hk39_v4)))⟩ hP hD hS dX11_day_35 (Nat.le_refl _) (Nat.le_refl _)
  · skip
    have zc2 : t1.toInt = 999 := by rw [fa_eq, show (999 : Int32).toInt = 999 from by decide] at c2; exact c2
    refine lv_iconst (v := (-1)) hx hb dX11_day_13 (by decide) ?_
    exact ret (-1) (v, f, w, g) _ _ _ _ _ _ rfl ⟨(gsY_X11_day_1_q2 et1 c2), hM_v, hA_f, hIv, hCf, hRf, rfl, rfl, rfl, rfl, rfl, rfl, rfl, rfl, rfl, rfl, rfl, rfl, rfl, rfl, rfl, rfl, rfl, rfl⟩ hP hD hS dX11_day_14 (Nat.le_refl _) (Nat.le_refl _)
