set_option maxHeartbeats 4000000 in
set_option maxRecDepth 100000 in
theorem sY_X11_lesser_1 (l : Launch) (dC : Nat → ClassId) (dI : Nat → Nat → Nat) (cy : Nat → ClassId) (y0 : Nat) (r : Nat → Nat) (p0 : Int32) (p1 : Int32) (v : Nat → Int32) (f : Nat → Nat → Int32) (w : Int64) (g : Nat → Int64) (hIv : YI v) (hCf : YC f) (hRf : progOK (f 4) (f 5) (v 9).toInt.toNat)  : ctI l (dC, dI) cy yX11_lesser cX11_lesser 2 .int 1 60 0 0 Unit [.int p0, .int p1] (YW cy y0 r v f w g) (fun r u => (r.toInt ≤ p0.toInt) ∧ (r.toInt ≤ p1.toInt)) (fun u => YW cy y0 r v f w g) := by
  refine ctI_of (by decide) (Nat.le_of_ble_eq_true rfl) (fun p e s m below meth c A ls Q hx hb hml hts hown hE hP hD hA hl ret => ?_)
  have hUv : (v 35).toInt + (v 36).toInt ≤ 40 := hIv.2
  have hown : s.vm.findClass RX11 = some m.cls := hown
  have hS : va_S A s.heap s.heap [] := va_S.rf
  have hl : lv_has ls 2 [(0, .int p0), (1, .int p1)] := hl
  refine lv_iload_n hx hb dX11_lesser_0 rfl (lv_at hl 0 rfl) ?_
  refine lv_iload_n hx hb dX11_lesser_1 rfl (lv_at hl 1 rfl) ?_
  refine lv_icmp_ge (tgt := 9) hx hb dX11_lesser_2 (by decide) (fun c1 => ?_) (fun c1 => ?_)
  · skip
    have zc1 : p1.toInt ≤ p0.toInt := by rw [fa_le] at c1; exact c1
    have rg2 := fb_rng p0
    have rg3 := fb_rng p1
    refine lv_iload_n hx hb dX11_lesser_9 rfl (lv_at hl 1 rfl) ?_
    exact ret p1 () _ _ _ _ _ _ rfl ⟨(by show p1.toInt ≤ p0.toInt; omega), (by show p1.toInt ≤ p1.toInt; omega)⟩ hP hD hS dX11_lesser_10 (Nat.le_refl _) (Nat.le_refl _)
  · skip
    have zc1 : ¬ (p1.toInt ≤ p0.toInt) := by rw [fa_le] at c1; exact c1
    have rg4 := fb_rng p0
    have rg5 := fb_rng p1
    refine lv_iload_n hx hb dX11_lesser_5 rfl (lv_at hl 0 rfl) ?_
    refine lv_goto (tgt := 10) hx hb dX11_lesser_6 (by decide) ?_
    exact ret p0 () _ _ _ _ _ _ rfl ⟨(by show p0.toInt ≤ p0.toInt; omega), (by show p0.toInt ≤ p1.toInt; omega)⟩ hP hD hS dX11_lesser_10 (Nat.le_refl _) (Nat.le_refl _)
set_option maxHeartbeats 4000000 in
set_option maxRecDepth 100000 in
theorem sY_X11_greater_1 (l : Launch) (dC : Nat → ClassId) (dI : Nat → Nat → Nat) (cy : Nat → ClassId) (y0 : Nat) (r : Nat → Nat) (p0 : Int32) (p1 : Int32) (v : Nat → Int32) (f : Nat → Nat → Int32) (w : Int64) (g : Nat → Int64) (hIv : YI v) (hCf : YC f) (hRf : progOK (f 4) (f 5) (v 9).toInt.toNat)  : ctI l (dC, dI) cy yX11_greater cX11_greater 2 .int 1 60 0 0 Unit [.int p0, .int p1] (YW cy y0 r v f w g) (fun r u => True) (fun u => YW cy y0 r v f w g) := by
  refine ctI_of (by decide) (Nat.le_of_ble_eq_true rfl) (fun p e s m below meth c A ls Q hx hb hml hts hown hE hP hD hA hl ret => ?_)
  have hUv : (v 35).toInt + (v 36).toInt ≤ 40 := hIv.2
  have hown : s.vm.findClass RX11 = some m.cls := hown
  have hS : va_S A s.heap s.heap [] := va_S.rf
  have hl : lv_has ls 2 [(0, .int p0), (1, .int p1)] := hl
  refine lv_iload_n hx hb dX11_greater_0 rfl (lv_at hl 0 rfl) ?_
  refine lv_iload_n hx hb dX11_greater_1 rfl (lv_at hl 1 rfl) ?_
  refine lv_icmp_le (tgt := 9) hx hb dX11_greater_2 (by decide) (fun c1 => ?_) (fun c1 => ?_)
  · skip
    have zc1 : p0.toInt ≤ p1.toInt := by rw [fa_le] at c1; exact c1
    have rg2 := fb_rng p0
    have rg3 := fb_rng p1
    refine lv_iload_n hx hb dX11_greater_9 rfl (lv_at hl 1 rfl) ?_
    exact ret p1 () _ _ _ _ _ _ rfl trivial hP hD hS dX11_greater_10 (Nat.le_refl _) (Nat.le_refl _)
  · skip
    have zc1 : ¬ (p0.toInt ≤ p1.toInt) := by rw [fa_le] at c1; exact c1
    have rg4 := fb_rng p0
    have rg5 := fb_rng p1
    refine lv_iload_n hx hb dX11_greater_5 rfl (lv_at hl 0 rfl) ?_
    refine lv_goto (tgt := 10) hx hb dX11_greater_6 (by decide) ?_
    exact ret p0 () _ _ _ _ _ _ rfl trivial hP hD hS dX11_greater_10 (Nat.le_refl _) (Nat.le_refl _)
set_option maxHeartbeats 4000000 in
set_option maxRecDepth 100000 in
theorem sY_X11_goDay_1 (l : Launch) (dC : Nat → ClassId) (dI : Nat → Nat → Nat) (cy : Nat → ClassId) (y0 : Nat) (r : Nat → Nat) (p1 : Int32) (v : Nat → Int32) (f : Nat → Nat → Int32) (w : Int64) (g : Nat → Int64) (hIv : YI v) (hCf : YC f) (hRf : progOK (f 4) (f 5) (v 9).toInt.toNat)  : ctI l (dC, dI) cy yX11_goDay cX11_goDay 4 .int 7 191 0 0 ((Nat → Int32) × (Nat → Nat → Int32) × (Int64) × (Nat → Int64)) [.ref y0, .int p1] (YW cy y0 r v f w g) (fun r u => KV [] u.1 v ∧ KF [7, 8, 24] u.2.1 f ∧ YI u.1 ∧ YC u.2.1 ∧ progOK (u.2.1 4) (u.2.1 5) (u.1 9).toInt.toNat ∧ u.1 0 = v 0 ∧ u.1 1 = v 1 ∧ u.1 2 = v 2 ∧ u.1 3 = v 3 ∧ u.1 4 = v 4 ∧ u.1 5 = v 5 ∧ u.1 8 = v 8 ∧ u.1 9 = v 9 ∧ u.1 10 = v 10 ∧ u.1 13 = v 13 ∧ u.1 14 = v 14 ∧ u.1 15 = v 15 ∧ u.1 17 = v 17 ∧ u.1 18 = v 18 ∧ u.1 24 = v 24 ∧ u.1 25 = v 25 ∧ u.1 35 = v 35 ∧ u.1 36 = v 36 ∧ u.1 38 = v 38 ∧ u.1 39 = v 39) (fun u => YW cy y0 r u.1 u.2.1 u.2.2.1 u.2.2.2) := by
  refine ctI_of (by decide) (Nat.le_of_ble_eq_true rfl) (fun p e s m below meth c A ls Q hx hb hml hts hown hE hP hD hA hl ret => ?_)
  have hUv : (v 35).toInt + (v 36).toInt ≤ 40 := hIv.2
  have hM_v : KV [] v v := fun _ _ => rfl
  have hA_f : KF [7, 8, 24] f f := fun _ _ => rfl
  have hown : s.vm.findClass RX11 = some m.cls := hown
  have hS : va_S A s.heap s.heap [] := va_S.rf
  have hl : lv_has ls 4 [(0, .ref y0), (1, .int p1)] := hl
  refine lv_iconst (v := 0) hx hb dX11_goDay_0 (by decide) ?_
  refine lv_istore_n (lv' := [(2, .int 0), (0, .ref y0), (1, .int p1)]) hx hb dX11_goDay_1 rfl hl (by decide) rfl (fun ls hl => ?_)
  have lp1 : ∀ (n1 : Nat) (l2_1 : Int32) (v1 : Nat → Int32) (f1 : Nat → Nat → Int32) (w1 : Int64) (g1 : Nat → Int64), YI v1 → YC f1 → progOK (f1 4) (f1 5) (v1 9).toInt.toNat → v1 0 = (v 0) → v1 1 = (v 1) → v1 2 = (v 2) → v1 3 = (v 3) → v1 4 = (v 4) → v1 5 = (v 5) → v1 8 = (v 8) → v1 9 = (v 9) → v1 10 = (v 10) → v1 13 = (v 13) → v1 14 = (v 14) → v1 15 = (v 15) → v1 17 = (v 17) → v1 18 = (v 18) → v1 24 = (v 24) → v1 25 = (v 25) → v1 35 = (v 35) → v1 36 = (v 36) → v1 38 = (v 38) → v1 39 = (v 39) → ((0 : Int) ≤ l2_1.toInt ∧ l2_1.toInt ≤ 2147483647) → KV [] v1 v → KF [7, 8, 24] f1 f → (2147483647 - l2_1.toInt).toNat < n1 → ∀ (H : Heap) (locs : List Loc) (ls : Array Slot), va_P (dC, dI) vwCl (YW cy y0 r v1 f1 w1 g1) H → va_D A (YW cy y0 r v1 f1 w1 g1) → va_S A s.heap H locs → lv_has ls 4 [(2, .int l2_1), (0, .ref y0), (1, .int p1)] → W p l e { frames := 7, cells := 0, slots := 0, locals := 191 } s m ([.ref y0, .int p1] : List Value).toArray below meth c H locs 0 0 Q (F0 m 2 ls []) := by
    intro n1
    induction n1 with
    | zero => intro l2_1 v1 f1 w1 g1 hIv1 hCf1 hRf1 hq0_v1 hq1_v1 hq2_v1 hq3_v1 hq4_v1 hq5_v1 hq8_v1 hq9_v1 hq10_v1 hq13_v1 hq14_v1 hq15_v1 hq17_v1 hq18_v1 hq24_v1 hq25_v1 hq35_v1 hq36_v1 hq38_v1 hq39_v1 hr2_1 hM_v1 hA_f1 hm; exact absurd hm (Nat.not_lt_zero _)
    | succ n1 ih1 =>
      intro l2_1 v1 f1 w1 g1 hIv1 hCf1 hRf1 hq0_v1 hq1_v1 hq2_v1 hq3_v1 hq4_v1 hq5_v1 hq8_v1 hq9_v1 hq10_v1 hq13_v1 hq14_v1 hq15_v1 hq17_v1 hq18_v1 hq24_v1 hq25_v1 hq35_v1 hq36_v1 hq38_v1 hq39_v1 hr2_1 hM_v1 hA_f1 hm1 H locs ls hP hD hS hl
      have hUv1 : (v1 35).toInt + (v1 36).toInt ≤ 40 := hIv1.2
      have zq9_v1 := congrArg Int32.toInt hq9_v1
      refine lv_iload_n hx hb dX11_goDay_2 rfl (lv_at hl 0 rfl) ?_
      refine lv_aload_n hx hb dX11_goDay_3 rfl (lv_at hl 1 rfl) ?_
      refine va_get (D := (dC, dI)) (ci := 11) (v := .int (v1 24)) (C := RX11) (T := TX11) (N := 79) hx hb hts inB_11 hown hE.1 hP 0 rfl rfl 48 (by decide) (hts _ k_1368) (fun _ h9 => h9) rfl dX11_goDay_4 ?_
      refine tI (y := (v 24)) hq24_v1 ?_
      have b24_v : 0 ≤ (v 24).toInt ∧ (v 24).toInt ≤ 6 := YIb.b hIv.1 24 (by decide)
      refine lv_icmp_ge (tgt := 40) hx hb dX11_goDay_7 (by decide) (fun c2 => ?_) (fun c2 => ?_)
      · skip
        have zc2 : (v 24).toInt ≤ l2_1.toInt := by rw [fa_le] at c2; exact c2
        have rg3 := fb_rng l2_1
        have rg4 := fb_rng (v 24)
        refine lv_iconst (v := 0) hx hb dX11_goDay_40 (by decide) ?_
        refine lv_istore_n (lv' := [(2, .int 0), (0, .ref y0), (1, .int p1)]) hx hb dX11_goDay_41 rfl hl (by decide) rfl (fun ls hl => ?_)
        have lp5 : ∀ (n5 : Nat) (l2_5 : Int32) (v5 : Nat → Int32) (f5 : Nat → Nat → Int32) (w5 : Int64) (g5 : Nat → Int64), YI v5 → YC f5 → progOK (f5 4) (f5 5) (v5 9).toInt.toNat → v5 0 = (v 0) → v5 1 = (v 1) → v5 2 = (v 2) → v5 3 = (v 3) → v5 4 = (v 4) → v5 5 = (v 5) → v5 8 = (v 8) → v5 9 = (v 9) → v5 10 = (v 10) → v5 13 = (v 13) → v5 14 = (v 14) → v5 15 = (v 15) → v5 17 = (v 17) → v5 18 = (v 18) → v5 24 = (v 24) → v5 25 = (v 25) → v5 35 = (v 35) → v5 36 = (v 36) → v5 38 = (v 38) → v5 39 = (v 39) → ((0 : Int) ≤ l2_5.toInt ∧ l2_5.toInt ≤ 2147483647) → KV [] v5 v → KF [7, 8, 24] f5 f → (2147483647 - l2_5.toInt).toNat < n5 → ∀ (H : Heap) (locs : List Loc) (ls : Array Slot), va_P (dC, dI) vwCl (YW cy y0 r v5 f5 w5 g5) H → va_D A (YW cy y0 r v5 f5 w5 g5) → va_S A s.heap H locs → lv_has ls 4 [(2, .int l2_5), (0, .ref y0), (1, .int p1)] → W p l e { frames := 7, cells := 0, slots := 0, locals := 191 } s m ([.ref y0, .int p1] : List Value).toArray below meth c H locs 0 0 Q (F0 m 42 ls []) := by
          intro n5
          induction n5 with
          | zero => intro l2_5 v5 f5 w5 g5 hIv5 hCf5 hRf5 hq0_v5 hq1_v5 hq2_v5 hq3_v5 hq4_v5 hq5_v5 hq8_v5 hq9_v5 hq10_v5 hq13_v5 hq14_v5 hq15_v5 hq17_v5 hq18_v5 hq24_v5 hq25_v5 hq35_v5 hq36_v5 hq38_v5 hq39_v5 hr2_5 hM_v5 hA_f5 hm; exact absurd hm (Nat.not_lt_zero _)
          | succ n5 ih5 =>
            intro l2_5 v5 f5 w5 g5 hIv5 hCf5 hRf5 hq0_v5 hq1_v5 hq2_v5 hq3_v5 hq4_v5 hq5_v5 hq8_v5 hq9_v5 hq10_v5 hq13_v5 hq14_v5 hq15_v5 hq17_v5 hq18_v5 hq24_v5 hq25_v5 hq35_v5 hq36_v5 hq38_v5 hq39_v5 hr2_5 hM_v5 hA_f5 hm5 H locs ls hP hD hS hl
            have hUv5 : (v5 35).toInt + (v5 36).toInt ≤ 40 := hIv5.2
            have zq9_v5 := congrArg Int32.toInt hq9_v5
            refine lv_iload_n hx hb dX11_goDay_42 rfl (lv_at hl 0 rfl) ?_
            refine lv_aload_n hx hb dX11_goDay_43 rfl (lv_at hl 1 rfl) ?_
            refine va_get (D := (dC, dI)) (ci := 11) (v := .int (v5 25)) (C := RX11) (T := TX11) (N := 79) hx hb hts inB_11 hown hE.1 hP 0 rfl rfl 49 (by decide) (hts _ k_1369) (fun _ h9 => h9) rfl dX11_goDay_44 ?_
            refine tI (y := (v 25)) hq25_v5 ?_
            have b25_v : 0 ≤ (v 25).toInt ∧ (v 25).toInt ≤ 6 := YIb.b hIv.1 25 (by decide)
            refine lv_icmp_ge (tgt := 146) hx hb dX11_goDay_47 (by decide) (fun c6 => ?_) (fun c6 => ?_)
            · skip
              have zc6 : (v 25).toInt ≤ l2_5.toInt := by rw [fa_le] at c6; exact c6
              have rg7 := fb_rng l2_5
              have rg8 := fb_rng (v 25)
              refine lv_aload_n hx hb dX11_goDay_146 rfl (lv_at hl 1 rfl) ?_
              refine va_get (D := (dC, dI)) (ci := 11) (v := .ref (r 60)) (C := RX11) (T := TX11) (N := 79) hx hb hts inB_11 hown hE.1 hP 0 rfl rfl 60 (by decide) (hts _ k_1380) (fun _ h9 => h9) rfl dX11_goDay_147 ?_
              refine lv_bipush (v := 37) hx hb dX11_goDay_150 (by decide) ?_
              refine lv_dup2_11 hx hb dX11_goDay_152 rfl rfl ?_
              refine ldI hx hb hE hP 25 rfl (vp_in_nI (n := 37) (by decide) (by decide)) rfl rfl dX11_goDay_153 ?_
              refine lv_topi (fun t9 et9 => ?_)
              have zt9 : 37 % 39 < 6 ∨ 12 ≤ 37 % 39 ∨ (-1 ≤ t9.toInt ∧ t9.toInt ≤ 5) := by rw [et9]; exact wear_ld hCf5.2.1 (show 37 < 39 by omega)
              refine lv_iconst (v := 1) hx hb dX11_goDay_154 (by decide) ?_
              refine lv_iadd hx hb dX11_goDay_155 ?_
              refine lv_topi (fun t10 et10 => ?_)
              refine stI hx hb hE hP hD hS 25 rfl (vp_in_nI (n := 37) (by decide) (by decide)) rfl dX11_goDay_156 (fun H locs hP hD hS => ?_)
              obtain ⟨f11, ef11, hP, hD⟩ : ∃ fz9, fz9 = upd2 f5 24 (upd (f5 24) (37 : Int32).toNatClampNeg t10) ∧ va_P (dC, dI) vwCl (YW cy y0 r v5 fz9 w5 g5) H ∧ va_D A (YW cy y0 r v5 fz9 w5 g5) := ⟨_, rfl, hP, hD⟩
              have hCf11 : YC f11 := by rw [ef11]; exact ⟨hCf5.1, (wear_st hCf5.2.1 (by show 37 % 39 < 6 ∨ 12 ≤ 37 % 39 ∨ (-1 ≤ t10.toInt ∧ t10.toInt ≤ 5); omega)), hCf5.2.2.1, hCf5.2.2.2.1, hCf5.2.2.2.2.1, hCf5.2.2.2.2.2⟩
              have hRf11 : progOK (f11 4) (f11 5) (v5 9).toInt.toNat := by rw [ef11]; exact hRf5
              have hA_f11 : KF [7, 8, 24] f11 f := by rw [ef11]; exact KF.up hA_f5 rfl
              refine lv_aload_n hx hb dX11_goDay_157 rfl (lv_at hl 1 rfl) ?_
              refine cbVi (n := 0) (rest := []) hx hb hml hown hts hE hP hD hS hA (sY_X11_wearers_1 l dC dI cy y0 r  v5 f11 w5 g5 hIv5 hCf11 hRf11 ) k_1805 k_1807 k_80 k_114 k_1808 (by decide +kernel) ⟨Nat.le_of_ble_eq_true rfl, Nat.le_of_ble_eq_true rfl⟩ 0 11 rfl rfl (rfl) hl.1 rfl (Nat.le_of_ble_eq_true rfl) dX11_goDay_158 (fun r12 u H locs hw hP hD hS => ?_)
              refine lv_aload_n hx hb dX11_goDay_161 rfl (lv_at hl 1 rfl) ?_
              refine cbVi (n := 0) (rest := [.int r12]) hx hb hml hown hts hE hP hD hS hA (sY_X11_fittedOnes_1 l dC dI cy y0 r  v5 f11 w5 g5 hIv5 hCf11 hRf11 ) k_1809 k_1811 k_81 k_114 k_1812 (by decide +kernel) ⟨Nat.le_of_ble_eq_true rfl, Nat.le_of_ble_eq_true rfl⟩ 0 11 rfl rfl (rfl) hl.1 rfl (Nat.le_of_ble_eq_true rfl) dX11_goDay_162 (fun r13 u H locs hw hP hD hS => ?_)
              obtain ⟨v14, f15, w16, g17⟩ := u
              obtain ⟨kV_v14, kF_f15, hIv14, hCf15, hRf15, hk0_v14, hk1_v14, hk2_v14, hk3_v14, hk4_v14, hk5_v14, hk8_v14, hk9_v14, hk10_v14, hk13_v14, hk14_v14, hk15_v14, hk17_v14, hk18_v14, hk24_v14, hk25_v14, hk35_v14, hk36_v14, hk38_v14, hk39_v14⟩ := hw
              have hM_v14 : KV [] v14 v := KV.tr kV_v14 hM_v5 rfl
              have hA_f15 : KF [7, 8, 24] f15 f := KF.tr kF_f15 hA_f11 rfl
              have hP : va_P (dC, dI) vwCl (YW cy y0 r v14 f15 w16 g17) H := hP
              have hD : va_D A (YW cy y0 r v14 f15 w16 g17) := hD
              have hUv14 : (v14 35).toInt + (v14 36).toInt ≤ 40 := hIv14.2
              have hq0_v14 : v14 0 = (v 0) := hk0_v14.trans hq0_v5
              have hq1_v14 : v14 1 = (v 1) := hk1_v14.trans hq1_v5
              have hq2_v14 : v14 2 = (v 2) := hk2_v14.trans hq2_v5
              have hq3_v14 : v14 3 = (v 3) := hk3_v14.trans hq3_v5
              have hq4_v14 : v14 4 = (v 4) := hk4_v14.trans hq4_v5
              have hq5_v14 : v14 5 = (v 5) := hk5_v14.trans hq5_v5
              have hq8_v14 : v14 8 = (v 8) := hk8_v14.trans hq8_v5
              have hq9_v14 : v14 9 = (v 9) := hk9_v14.trans hq9_v5
              have zq9_v14 := congrArg Int32.toInt hq9_v14
              have hq10_v14 : v14 10 = (v 10) := hk10_v14.trans hq10_v5
              have hq13_v14 : v14 13 = (v 13) := hk13_v14.trans hq13_v5
              have hq14_v14 : v14 14 = (v 14) := hk14_v14.trans hq14_v5
              have hq15_v14 : v14 15 = (v 15) := hk15_v14.trans hq15_v5
              have hq17_v14 : v14 17 = (v 17) := hk17_v14.trans hq17_v5
              have hq18_v14 : v14 18 = (v 18) := hk18_v14.trans hq18_v5
              have hq24_v14 : v14 24 = (v 24) := hk24_v14.trans hq24_v5
              have hq25_v14 : v14 25 = (v 25) := hk25_v14.trans hq25_v5
              have hq35_v14 : v14 35 = (v 35) := hk35_v14.trans hq35_v5
              have hq36_v14 : v14 36 = (v 36) := hk36_v14.trans hq36_v5
              have hq38_v14 : v14 38 = (v 38) := hk38_v14.trans hq38_v5
              have hq39_v14 : v14 39 = (v 39) := hk39_v14.trans hq39_v5
              refine lv_iconst (v := (-1)) hx hb dX11_goDay_165 (by decide) ?_
              refine lv_ixor hx hb dX11_goDay_166 ?_
              refine lv_topi (fun t18 et18 => ?_)
              refine lv_iand hx hb dX11_goDay_167 ?_
              refine lv_topi (fun t19 et19 => ?_)
              have zt19 : 0 ≤ t19.toInt ∧ t19.toInt ≤ 63 := by rw [et19]; exact and_left (by omega) (by omega)
              refine lv_istore_n (lv' := [(2, .int t19), (0, .ref y0), (1, .int p1)]) hx hb dX11_goDay_168 rfl hl (by decide) rfl (fun ls hl => ?_)
              refine lv_iconst (v := 0) hx hb dX11_goDay_169 (by decide) ?_
              refine lv_istore_n (lv' := [(3, .int 0), (2, .int t19), (0, .ref y0), (1, .int p1)]) hx hb dX11_goDay_170 rfl hl (by decide) rfl (fun ls hl => ?_)
              have lp20 : ∀ (n20 : Nat) (l3_20 : Int32) (v20 : Nat → Int32) (f20 : Nat → Nat → Int32) (w20 : Int64) (g20 : Nat → Int64), YI v20 → YC f20 → progOK (f20 4) (f20 5) (v20 9).toInt.toNat → v20 0 = (v 0) → v20 1 = (v 1) → v20 2 = (v 2) → v20 3 = (v 3) → v20 4 = (v 4) → v20 5 = (v 5) → v20 8 = (v 8) → v20 9 = (v 9) → v20 10 = (v 10) → v20 13 = (v 13) → v20 14 = (v 14) → v20 15 = (v 15) → v20 17 = (v 17) → v20 18 = (v 18) → v20 24 = (v 24) → v20 25 = (v 25) → v20 35 = (v 35) → v20 36 = (v 36) → v20 38 = (v 38) → v20 39 = (v 39) → ((0 : Int) ≤ l3_20.toInt ∧ l3_20.toInt ≤ 2147483647) → KV [] v20 v → KF [7, 8, 24] f20 f → (2147483647 - l3_20.toInt).toNat < n20 → ∀ (H : Heap) (locs : List Loc) (ls : Array Slot), va_P (dC, dI) vwCl (YW cy y0 r v20 f20 w20 g20) H → va_D A (YW cy y0 r v20 f20 w20 g20) → va_S A s.heap H locs → lv_has ls 4 [(3, .int l3_20), (2, .int t19), (0, .ref y0), (1, .int p1)] → W p l e { frames := 7, cells := 0, slots := 0, locals := 191 } s m ([.ref y0, .int p1] : List Value).toArray below meth c H locs 0 0 Q (F0 m 171 ls []) := by
                intro n20
                induction n20 with
                | zero => intro l3_20 v20 f20 w20 g20 hIv20 hCf20 hRf20 hq0_v20 hq1_v20 hq2_v20 hq3_v20 hq4_v20 hq5_v20 hq8_v20 hq9_v20 hq10_v20 hq13_v20 hq14_v20 hq15_v20 hq17_v20 hq18_v20 hq24_v20 hq25_v20 hq35_v20 hq36_v20 hq38_v20 hq39_v20 hr3_20 hM_v20 hA_f20 hm; exact absurd hm (Nat.not_lt_zero _)
                | succ n20 ih20 =>
                  intro l3_20 v20 f20 w20 g20 hIv20 hCf20 hRf20 hq0_v20 hq1_v20 hq2_v20 hq3_v20 hq4_v20 hq5_v20 hq8_v20 hq9_v20 hq10_v20 hq13_v20 hq14_v20 hq15_v20 hq17_v20 hq18_v20 hq24_v20 hq25_v20 hq35_v20 hq36_v20 hq38_v20 hq39_v20 hr3_20 hM_v20 hA_f20 hm20 H locs ls hP hD hS hl
                  have hUv20 : (v20 35).toInt + (v20 36).toInt ≤ 40 := hIv20.2
                  have zq9_v20 := congrArg Int32.toInt hq9_v20
                  refine lv_iload_n hx hb dX11_goDay_171 rfl (lv_at hl 0 rfl) ?_
                  refine lv_aload_n hx hb dX11_goDay_172 rfl (lv_at hl 2 rfl) ?_
                  refine va_get (D := (dC, dI)) (ci := 11) (v := .int (v20 24)) (C := RX11) (T := TX11) (N := 79) hx hb hts inB_11 hown hE.1 hP 0 rfl rfl 48 (by decide) (hts _ k_1368) (fun _ h9 => h9) rfl dX11_goDay_173 ?_
                  refine tI (y := (v 24)) hq24_v20 ?_
                  have b24_v : 0 ≤ (v 24).toInt ∧ (v 24).toInt ≤ 6 := YIb.b hIv.1 24 (by decide)
                  refine lv_icmp_ge (tgt := 204) hx hb dX11_goDay_176 (by decide) (fun c21 => ?_) (fun c21 => ?_)
                  · skip
                    have zc21 : (v 24).toInt ≤ l3_20.toInt := by rw [fa_le] at c21; exact c21
                    have rg22 := fb_rng l3_20
                    refine lv_iload_n hx hb dX11_goDay_204 rfl (lv_at hl 1 rfl) ?_
                    exact ret t19 (v20, f20, w20, g20) _ _ _ _ _ _ rfl ⟨hM_v20, hA_f20, hIv20, hCf20, hRf20, hq0_v20, hq1_v20, hq2_v20, hq3_v20, hq4_v20, hq5_v20, hq8_v20, hq9_v20, hq10_v20, hq13_v20, hq14_v20, hq15_v20, hq17_v20, hq18_v20, hq24_v20, hq25_v20, hq35_v20, hq36_v20, hq38_v20, hq39_v20⟩ hP hD hS dX11_goDay_205 (Nat.le_refl _) (Nat.le_refl _)
                  · skip
                    have zc21 : ¬ ((v 24).toInt ≤ l3_20.toInt) := by rw [fa_le] at c21; exact c21
                    have rg23 := fb_rng l3_20
                    refine lv_iload_n hx hb dX11_goDay_179 rfl (lv_at hl 1 rfl) ?_
                    refine lv_iload_n hx hb dX11_goDay_180 rfl (lv_at hl 0 rfl) ?_
                    refine lv_ishr hx hb dX11_goDay_181 ?_
                    refine lv_topi (fun t24 et24 => ?_)
                    refine lv_iconst (v := 1) hx hb dX11_goDay_182 (by decide) ?_
                    refine lv_iand hx hb dX11_goDay_183 ?_
                    refine lv_topi (fun t25 et25 => ?_)
                    have zt25 : 0 ≤ t25.toInt ∧ t25.toInt < 2 := by rw [et25]; exact and_rng _ (k := 1) (by decide) (by decide)
                    refine lv_iconst (v := 1) hx hb dX11_goDay_184 (by decide) ?_
                    refine lv_icmp_ne (tgt := 198) hx hb dX11_goDay_185 (by decide) (fun c26 => ?_) (fun c26 => ?_)
                    · skip
                      have zc26 : ¬ (t25.toInt = 1) := by rw [fa_eq, show (1 : Int32).toInt = 1 from by decide] at c26; exact c26
                      obtain ⟨t27, et27⟩ : ∃ y : Int32, y = l3_20 + 1 := ⟨_, rfl⟩
                      have zt27 : t27.toInt = l3_20.toInt + 1 := by rw [et27]; exact add_i rfl (by decide) (by omega) (by omega)
                      refine lv_iinc (v := t27) (lv' := [(3, .int t27), (2, .int t19), (0, .ref y0), (1, .int p1)]) hx hb dX11_goDay_198 hl (k := 0) rfl (by rw [et27]; rfl) (by decide) rfl (fun ls hl => ?_)
                      refine lv_goto (tgt := 171) hx hb dX11_goDay_201 (by decide) ?_
                      have rg28 := fb_rng t27
                      exact ih20 t27 v20 f20 w20 g20 hIv20 hCf20 hRf20 hq0_v20 hq1_v20 hq2_v20 hq3_v20 hq4_v20 hq5_v20 hq8_v20 hq9_v20 hq10_v20 hq13_v20 hq14_v20 hq15_v20 hq17_v20 hq18_v20 hq24_v20 hq25_v20 hq35_v20 hq36_v20 hq38_v20 hq39_v20 ⟨show (0 : Int) ≤ t27.toInt by omega, show t27.toInt ≤ (2147483647 : Int) by omega⟩ hM_v20 hA_f20 (by show (2147483647 - t27.toInt).toNat < n20; omega) _ _ _ hP hD hS (lv_sub hl [0, 1, 2, 3] rfl)
                    · skip
                      have zc26 : t25.toInt = 1 := by rw [fa_eq, show (1 : Int32).toInt = 1 from by decide] at c26; exact c26
                      refine lv_aload_n hx hb dX11_goDay_188 rfl (lv_at hl 2 rfl) ?_
                      refine va_get (D := (dC, dI)) (ci := 11) (v := .ref (r 60)) (C := RX11) (T := TX11) (N := 79) hx hb hts inB_11 hown hE.1 hP 0 rfl rfl 60 (by decide) (hts _ k_1380) (fun _ h9 => h9) rfl dX11_goDay_189 ?_
                      refine lv_bipush (v := 6) hx hb dX11_goDay_192 (by decide) ?_
                      refine lv_iload_n hx hb dX11_goDay_194 rfl (lv_at hl 0 rfl) ?_
                      refine lv_iadd hx hb dX11_goDay_195 ?_
                      refine lv_topi (fun t29 et29 => ?_)
                      have zt29 : t29.toInt = 6 + l3_20.toInt := by rw [et29]; exact add_i (by decide) rfl (by omega) (by omega)
                      refine lv_iconst (v := (-1)) hx hb dX11_goDay_196 (by decide) ?_
                      refine stI hx hb hE hP hD hS 25 rfl (vp_in_iff.mpr ⟨by omega, by omega⟩) rfl dX11_goDay_197 (fun H locs hP hD hS => ?_)
                      obtain ⟨f30, ef30, hP, hD⟩ : ∃ fz9, fz9 = upd2 f20 24 (upd (f20 24) t29.toNatClampNeg (-1)) ∧ va_P (dC, dI) vwCl (YW cy y0 r v20 fz9 w20 g20) H ∧ va_D A (YW cy y0 r v20 fz9 w20 g20) := ⟨_, rfl, hP, hD⟩
                      have hCf30 : YC f30 := by rw [ef30]; exact ⟨hCf20.1, (wear_st hCf20.2.1 (by have q9 : ((-1) : Int32).toInt = -1 := (by decide); show t29.toInt.toNat % 39 < 6 ∨ 12 ≤ t29.toInt.toNat % 39 ∨ (-1 ≤ ((-1) : Int32).toInt ∧ ((-1) : Int32).toInt ≤ 5); omega)), hCf20.2.2.1, hCf20.2.2.2.1, hCf20.2.2.2.2.1, hCf20.2.2.2.2.2⟩
                      have hRf30 : progOK (f30 4) (f30 5) (v20 9).toInt.toNat := by rw [ef30]; exact hRf20
                      have hA_f30 : KF [7, 8, 24] f30 f := by rw [ef30]; exact KF.up hA_f20 rfl
                      obtain ⟨t31, et31⟩ : ∃ y : Int32, y = l3_20 + 1 := ⟨_, rfl⟩
                      have zt31 : t31.toInt = l3_20.toInt + 1 := by rw [et31]; exact add_i rfl (by decide) (by omega) (by omega)
                      refine lv_iinc (v := t31) (lv' := [(3, .int t31), (2, .int t19), (0, .ref y0), (1, .int p1)]) hx hb dX11_goDay_198 hl (k := 0) rfl (by rw [et31]; rfl) (by decide) rfl (fun ls hl => ?_)
                      refine lv_goto (tgt := 171) hx hb dX11_goDay_201 (by decide) ?_
                      have rg32 := fb_rng t31
                      exact ih20 t31 v20 f30 w20 g20 hIv20 hCf30 hRf30 hq0_v20 hq1_v20 hq2_v20 hq3_v20 hq4_v20 hq5_v20 hq8_v20 hq9_v20 hq10_v20 hq13_v20 hq14_v20 hq15_v20 hq17_v20 hq18_v20 hq24_v20 hq25_v20 hq35_v20 hq36_v20 hq38_v20 hq39_v20 ⟨show (0 : Int) ≤ t31.toInt by omega, show t31.toInt ≤ (2147483647 : Int) by omega⟩ hM_v20 hA_f30 (by show (2147483647 - t31.toInt).toNat < n20; omega) _ _ _ hP hD hS (lv_sub hl [0, 1, 2, 3] rfl)
              exact lp20 _ 0 v14 f15 w16 g17 hIv14 hCf15 hRf15 hq0_v14 hq1_v14 hq2_v14 hq3_v14 hq4_v14 hq5_v14 hq8_v14 hq9_v14 hq10_v14 hq13_v14 hq14_v14 hq15_v14 hq17_v14 hq18_v14 hq24_v14 hq25_v14 hq35_v14 hq36_v14 hq38_v14 hq39_v14 ⟨by decide, by decide⟩ hM_v14 hA_f15 (Nat.lt_succ_self _) _ _ _ hP hD hS (lv_sub hl [0, 1, 2, 3] rfl)
            · skip
              have zc6 : ¬ ((v 25).toInt ≤ l2_5.toInt) := by rw [fa_le] at c6; exact c6
              have rg33 := fb_rng l2_5
              have rg34 := fb_rng (v 25)
              refine lv_aload_n hx hb dX11_goDay_50 rfl (lv_at hl 1 rfl) ?_
              refine lv_iload_n hx hb dX11_goDay_51 rfl (lv_at hl 0 rfl) ?_
              refine cbVi (n := 1) (rest := []) hx hb hml hown hts hE hP hD hS hA (sY_X11_wearer_1 l dC dI cy y0 r l2_5 v5 f5 w5 g5 hIv5 hCf5 hRf5 ) k_1775 k_1777 k_76 k_114 k_1778 (by decide +kernel) ⟨Nat.le_of_ble_eq_true rfl, Nat.le_of_ble_eq_true rfl⟩ 0 11 rfl rfl (rfl) hl.1 rfl (Nat.le_of_ble_eq_true rfl) dX11_goDay_52 (fun r35 u H locs hw hP hD hS => ?_)
              refine lv_if_ge (tgt := 61) hx hb dX11_goDay_55 (by decide) (fun c36 => ?_) (fun c36 => ?_)
              · skip
                have zc36 : 0 ≤ r35.toInt := by rw [fa_le, show (0 : Int32).toInt = 0 from by decide] at c36; exact c36
                refine lv_aload_n hx hb dX11_goDay_61 rfl (lv_at hl 1 rfl) ?_
                refine va_get (D := (dC, dI)) (ci := 11) (v := .ref (r 60)) (C := RX11) (T := TX11) (N := 79) hx hb hts inB_11 hown hE.1 hP 0 rfl rfl 60 (by decide) (hts _ k_1380) (fun _ h9 => h9) rfl dX11_goDay_62 ?_
                refine lv_bipush (v := 30) hx hb dX11_goDay_65 (by decide) ?_
                refine lv_iload_n hx hb dX11_goDay_67 rfl (lv_at hl 0 rfl) ?_
                refine lv_iadd hx hb dX11_goDay_68 ?_
                refine lv_topi (fun t37 et37 => ?_)
                have zt37 : t37.toInt = 30 + l2_5.toInt := by rw [et37]; exact add_i (by decide) rfl (by omega) (by omega)
                refine lv_bipush (v := 99) hx hb dX11_goDay_69 (by decide) ?_
                refine lv_aload_n hx hb dX11_goDay_71 rfl (lv_at hl 1 rfl) ?_
                refine va_get (D := (dC, dI)) (ci := 11) (v := .ref (r 60)) (C := RX11) (T := TX11) (N := 79) hx hb hts inB_11 hown hE.1 hP 0 rfl rfl 60 (by decide) (hts _ k_1380) (fun _ h9 => h9) rfl dX11_goDay_72 ?_
                refine lv_bipush (v := 30) hx hb dX11_goDay_75 (by decide) ?_
                refine lv_iload_n hx hb dX11_goDay_77 rfl (lv_at hl 0 rfl) ?_
                refine lv_iadd hx hb dX11_goDay_78 ?_
                refine tI (y := t37) et37.symm ?_
                refine ldI hx hb hE hP 25 rfl (vp_in_iff.mpr ⟨by omega, by omega⟩) rfl rfl dX11_goDay_79 ?_
                refine lv_topi (fun t38 et38 => ?_)
                have zt38 : t37.toInt.toNat % 39 < 6 ∨ 12 ≤ t37.toInt.toNat % 39 ∨ (-1 ≤ t38.toInt ∧ t38.toInt ≤ 5) := by rw [et38]; exact wear_ld hCf5.2.1 (show t37.toInt.toNat < 39 by omega)
                refine lv_iconst (v := 1) hx hb dX11_goDay_80 (by decide) ?_
                refine lv_iadd hx hb dX11_goDay_81 ?_
                refine lv_topi (fun t39 et39 => ?_)
                have lt40 : (99 : Int32).toInt = 99 := by decide
                refine cbSi (n := 2) (rest := [.int t37, .ref (r 60)]) hx hb hml hown hts hE hP hD hS hA (sY_X11_lesser_1 l dC dI cy y0 r 99 t39 v5 f5 w5 g5 hIv5 hCf5 hRf5 ) k_1799 k_1800 k_114 k_1801 (by decide +kernel) ⟨Nat.le_of_ble_eq_true rfl, Nat.le_of_ble_eq_true rfl⟩ (rfl) hl.1 rfl (Nat.le_of_ble_eq_true rfl) dX11_goDay_82 (fun r41 u H locs hw hP hD hS => ?_)
                obtain ⟨pp42, pp43⟩ := hw
                have pp42 : r41.toInt ≤ (99 : Int32).toInt := pp42
                have pp43 : r41.toInt ≤ t39.toInt := pp43
                refine stI hx hb hE hP hD hS 25 rfl (vp_in_iff.mpr ⟨by omega, by omega⟩) rfl dX11_goDay_85 (fun H locs hP hD hS => ?_)
                obtain ⟨f44, ef44, hP, hD⟩ : ∃ fz9, fz9 = upd2 f5 24 (upd (f5 24) t37.toNatClampNeg r41) ∧ va_P (dC, dI) vwCl (YW cy y0 r v5 fz9 w5 g5) H ∧ va_D A (YW cy y0 r v5 fz9 w5 g5) := ⟨_, rfl, hP, hD⟩
                have hCf44 : YC f44 := by rw [ef44]; exact ⟨hCf5.1, (wear_st hCf5.2.1 (by show t37.toInt.toNat % 39 < 6 ∨ 12 ≤ t37.toInt.toNat % 39 ∨ (-1 ≤ r41.toInt ∧ r41.toInt ≤ 5); omega)), hCf5.2.2.1, hCf5.2.2.2.1, hCf5.2.2.2.2.1, hCf5.2.2.2.2.2⟩
                have hRf44 : progOK (f44 4) (f44 5) (v5 9).toInt.toNat := by rw [ef44]; exact hRf5
                have hA_f44 : KF [7, 8, 24] f44 f := by rw [ef44]; exact KF.up hA_f5 rfl
                refine lv_aload_n hx hb dX11_goDay_86 rfl (lv_at hl 1 rfl) ?_
                refine va_get (D := (dC, dI)) (ci := 11) (v := .ref (r 60)) (C := RX11) (T := TX11) (N := 79) hx hb hts inB_11 hown hE.1 hP 0 rfl rfl 60 (by decide) (hts _ k_1380) (fun _ h9 => h9) rfl dX11_goDay_87 ?_
                refine lv_bipush (v := 12) hx hb dX11_goDay_90 (by decide) ?_
                refine lv_iload_n hx hb dX11_goDay_92 rfl (lv_at hl 0 rfl) ?_
                refine lv_iadd hx hb dX11_goDay_93 ?_
                refine lv_topi (fun t45 et45 => ?_)
                have zt45 : t45.toInt = 12 + l2_5.toInt := by rw [et45]; exact add_i (by decide) rfl (by omega) (by omega)
                refine lv_iconst (v := 0) hx hb dX11_goDay_94 (by decide) ?_
                refine lv_aload_n hx hb dX11_goDay_95 rfl (lv_at hl 1 rfl) ?_
                refine va_get (D := (dC, dI)) (ci := 11) (v := .ref (r 60)) (C := RX11) (T := TX11) (N := 79) hx hb hts inB_11 hown hE.1 hP 0 rfl rfl 60 (by decide) (hts _ k_1380) (fun _ h9 => h9) rfl dX11_goDay_96 ?_
                refine lv_bipush (v := 12) hx hb dX11_goDay_99 (by decide) ?_
                refine lv_iload_n hx hb dX11_goDay_101 rfl (lv_at hl 0 rfl) ?_
                refine lv_iadd hx hb dX11_goDay_102 ?_
                refine tI (y := t45) et45.symm ?_
                refine ldI hx hb hE hP 25 rfl (vp_in_iff.mpr ⟨by omega, by omega⟩) rfl rfl dX11_goDay_103 ?_
                refine lv_topi (fun t46 et46 => ?_)
                have zt46 : t45.toInt.toNat % 39 < 6 ∨ 12 ≤ t45.toInt.toNat % 39 ∨ (-1 ≤ t46.toInt ∧ t46.toInt ≤ 5) := by rw [et46]; exact wear_ld hCf44.2.1 (show t45.toInt.toNat < 39 by omega)
                refine lv_iload_n hx hb dX11_goDay_104 rfl (lv_at hl 2 rfl) ?_
                refine cbSi (n := 1) (rest := [.int t46, .int 0, .int t45, .ref (r 60)]) hx hb hml hown hts hE hP hD hS hA (sY_X11_truth_1 l dC dI cy y0 r p1 v5 f44 w5 g5 hIv5 hCf44 hRf44 ) k_1761 k_1762 k_114 k_1763 (by decide +kernel) ⟨Nat.le_of_ble_eq_true rfl, Nat.le_of_ble_eq_true rfl⟩ (rfl) hl.1 rfl (Nat.le_of_ble_eq_true rfl) dX11_goDay_105 (fun r47 u H locs hw hP hD hS => ?_)
                refine lv_isub hx hb dX11_goDay_108 ?_
                refine lv_topi (fun t48 et48 => ?_)
                refine cbSi (n := 2) (rest := [.int t45, .ref (r 60)]) hx hb hml hown hts hE hP hD hS hA (sY_X11_greater_1 l dC dI cy y0 r 0 t48 v5 f44 w5 g5 hIv5 hCf44 hRf44 ) k_1802 k_1803 k_114 k_1804 (by decide +kernel) ⟨Nat.le_of_ble_eq_true rfl, Nat.le_of_ble_eq_true rfl⟩ (rfl) hl.1 rfl (Nat.le_of_ble_eq_true rfl) dX11_goDay_109 (fun r49 u H locs hw hP hD hS => ?_)
                refine stI hx hb hE hP hD hS 25 rfl (vp_in_iff.mpr ⟨by omega, by omega⟩) rfl dX11_goDay_112 (fun H locs hP hD hS => ?_)
                obtain ⟨f50, ef50, hP, hD⟩ : ∃ fz9, fz9 = upd2 f44 24 (upd (f44 24) t45.toNatClampNeg r49) ∧ va_P (dC, dI) vwCl (YW cy y0 r v5 fz9 w5 g5) H ∧ va_D A (YW cy y0 r v5 fz9 w5 g5) := ⟨_, rfl, hP, hD⟩
                have hCf50 : YC f50 := by rw [ef50]; exact ⟨hCf44.1, (wear_st hCf44.2.1 (by show t45.toInt.toNat % 39 < 6 ∨ 12 ≤ t45.toInt.toNat % 39 ∨ (-1 ≤ r49.toInt ∧ r49.toInt ≤ 5); omega)), hCf44.2.2.1, hCf44.2.2.2.1, hCf44.2.2.2.2.1, hCf44.2.2.2.2.2⟩
                have hRf50 : progOK (f50 4) (f50 5) (v5 9).toInt.toNat := by rw [ef50]; exact hRf44
                have hA_f50 : KF [7, 8, 24] f50 f := by rw [ef50]; exact KF.up hA_f44 rfl
                refine lv_aload_n hx hb dX11_goDay_113 rfl (lv_at hl 1 rfl) ?_
                refine va_get (D := (dC, dI)) (ci := 11) (v := .ref (r 60)) (C := RX11) (T := TX11) (N := 79) hx hb hts inB_11 hown hE.1 hP 0 rfl rfl 60 (by decide) (hts _ k_1380) (fun _ h9 => h9) rfl dX11_goDay_114 ?_
                refine lv_bipush (v := 18) hx hb dX11_goDay_117 (by decide) ?_
                refine lv_iload_n hx hb dX11_goDay_119 rfl (lv_at hl 0 rfl) ?_
                refine lv_iadd hx hb dX11_goDay_120 ?_
                refine lv_topi (fun t51 et51 => ?_)
                have zt51 : t51.toInt = 18 + l2_5.toInt := by rw [et51]; exact add_i (by decide) rfl (by omega) (by omega)
                refine lv_iconst (v := 0) hx hb dX11_goDay_121 (by decide) ?_
                refine lv_aload_n hx hb dX11_goDay_122 rfl (lv_at hl 1 rfl) ?_
                refine va_get (D := (dC, dI)) (ci := 11) (v := .ref (r 60)) (C := RX11) (T := TX11) (N := 79) hx hb hts inB_11 hown hE.1 hP 0 rfl rfl 60 (by decide) (hts _ k_1380) (fun _ h9 => h9) rfl dX11_goDay_123 ?_
                refine lv_bipush (v := 18) hx hb dX11_goDay_126 (by decide) ?_
                refine lv_iload_n hx hb dX11_goDay_128 rfl (lv_at hl 0 rfl) ?_
                refine lv_iadd hx hb dX11_goDay_129 ?_
                refine tI (y := t51) et51.symm ?_
                refine ldI hx hb hE hP 25 rfl (vp_in_iff.mpr ⟨by omega, by omega⟩) rfl rfl dX11_goDay_130 ?_
                refine lv_topi (fun t52 et52 => ?_)
                have zt52 : t51.toInt.toNat % 39 < 6 ∨ 12 ≤ t51.toInt.toNat % 39 ∨ (-1 ≤ t52.toInt ∧ t52.toInt ≤ 5) := by rw [et52]; exact wear_ld hCf50.2.1 (show t51.toInt.toNat < 39 by omega)
                refine lv_iload_n hx hb dX11_goDay_131 rfl (lv_at hl 2 rfl) ?_
                refine cbSi (n := 1) (rest := [.int t52, .int 0, .int t51, .ref (r 60)]) hx hb hml hown hts hE hP hD hS hA (sY_X11_truth_1 l dC dI cy y0 r p1 v5 f50 w5 g5 hIv5 hCf50 hRf50 ) k_1761 k_1762 k_114 k_1763 (by decide +kernel) ⟨Nat.le_of_ble_eq_true rfl, Nat.le_of_ble_eq_true rfl⟩ (rfl) hl.1 rfl (Nat.le_of_ble_eq_true rfl) dX11_goDay_132 (fun r53 u H locs hw hP hD hS => ?_)
                refine lv_isub hx hb dX11_goDay_135 ?_
                refine lv_topi (fun t54 et54 => ?_)
                refine cbSi (n := 2) (rest := [.int t51, .ref (r 60)]) hx hb hml hown hts hE hP hD hS hA (sY_X11_greater_1 l dC dI cy y0 r 0 t54 v5 f50 w5 g5 hIv5 hCf50 hRf50 ) k_1802 k_1803 k_114 k_1804 (by decide +kernel) ⟨Nat.le_of_ble_eq_true rfl, Nat.le_of_ble_eq_true rfl⟩ (rfl) hl.1 rfl (Nat.le_of_ble_eq_true rfl) dX11_goDay_136 (fun r55 u H locs hw hP hD hS => ?_)
                refine stI hx hb hE hP hD hS 25 rfl (vp_in_iff.mpr ⟨by omega, by omega⟩) rfl dX11_goDay_139 (fun H locs hP hD hS => ?_)
                obtain ⟨f56, ef56, hP, hD⟩ : ∃ fz9, fz9 = upd2 f50 24 (upd (f50 24) t51.toNatClampNeg r55) ∧ va_P (dC, dI) vwCl (YW cy y0 r v5 fz9 w5 g5) H ∧ va_D A (YW cy y0 r v5 fz9 w5 g5) := ⟨_, rfl, hP, hD⟩
                have hCf56 : YC f56 := by rw [ef56]; exact ⟨hCf50.1, (wear_st hCf50.2.1 (by show t51.toInt.toNat % 39 < 6 ∨ 12 ≤ t51.toInt.toNat % 39 ∨ (-1 ≤ r55.toInt ∧ r55.toInt ≤ 5); omega)), hCf50.2.2.1, hCf50.2.2.2.1, hCf50.2.2.2.2.1, hCf50.2.2.2.2.2⟩
                have hRf56 : progOK (f56 4) (f56 5) (v5 9).toInt.toNat := by rw [ef56]; exact hRf50
                have hA_f56 : KF [7, 8, 24] f56 f := by rw [ef56]; exact KF.up hA_f50 rfl
                obtain ⟨t57, et57⟩ : ∃ y : Int32, y = l2_5 + 1 := ⟨_, rfl⟩
                have zt57 : t57.toInt = l2_5.toInt + 1 := by rw [et57]; exact add_i rfl (by decide) (by omega) (by omega)
                refine lv_iinc (v := t57) (lv' := [(2, .int t57), (0, .ref y0), (1, .int p1)]) hx hb dX11_goDay_140 hl (k := 0) rfl (by rw [et57]; rfl) (by decide) rfl (fun ls hl => ?_)
                refine lv_goto (tgt := 42) hx hb dX11_goDay_143 (by decide) ?_
                have rg58 := fb_rng t57
                exact ih5 t57 v5 f56 w5 g5 hIv5 hCf56 hRf56 hq0_v5 hq1_v5 hq2_v5 hq3_v5 hq4_v5 hq5_v5 hq8_v5 hq9_v5 hq10_v5 hq13_v5 hq14_v5 hq15_v5 hq17_v5 hq18_v5 hq24_v5 hq25_v5 hq35_v5 hq36_v5 hq38_v5 hq39_v5 ⟨show (0 : Int) ≤ t57.toInt by omega, show t57.toInt ≤ (2147483647 : Int) by omega⟩ hM_v5 hA_f56 (by show (2147483647 - t57.toInt).toNat < n5; omega) _ _ _ hP hD hS (lv_sub hl [0, 1, 2] rfl)
              · skip
                have zc36 : ¬ (0 ≤ r35.toInt) := by rw [fa_le, show (0 : Int32).toInt = 0 from by decide] at c36; exact c36
                refine lv_goto (tgt := 140) hx hb dX11_goDay_58 (by decide) ?_
                obtain ⟨t59, et59⟩ : ∃ y : Int32, y = l2_5 + 1 := ⟨_, rfl⟩
                have zt59 : t59.toInt = l2_5.toInt + 1 := by rw [et59]; exact add_i rfl (by decide) (by omega) (by omega)
                refine lv_iinc (v := t59) (lv' := [(2, .int t59), (0, .ref y0), (1, .int p1)]) hx hb dX11_goDay_140 hl (k := 0) rfl (by rw [et59]; rfl) (by decide) rfl (fun ls hl => ?_)
                refine lv_goto (tgt := 42) hx hb dX11_goDay_143 (by decide) ?_
                have rg60 := fb_rng t59
                exact ih5 t59 v5 f5 w5 g5 hIv5 hCf5 hRf5 hq0_v5 hq1_v5 hq2_v5 hq3_v5 hq4_v5 hq5_v5 hq8_v5 hq9_v5 hq10_v5 hq13_v5 hq14_v5 hq15_v5 hq17_v5 hq18_v5 hq24_v5 hq25_v5 hq35_v5 hq36_v5 hq38_v5 hq39_v5 ⟨show (0 : Int) ≤ t59.toInt by omega, show t59.toInt ≤ (2147483647 : Int) by omega⟩ hM_v5 hA_f5 (by show (2147483647 - t59.toInt).toNat < n5; omega) _ _ _ hP hD hS (lv_sub hl [0, 1, 2] rfl)
        exact lp5 _ 0 v1 f1 w1 g1 hIv1 hCf1 hRf1 hq0_v1 hq1_v1 hq2_v1 hq3_v1 hq4_v1 hq5_v1 hq8_v1 hq9_v1 hq10_v1 hq13_v1 hq14_v1 hq15_v1 hq17_v1 hq18_v1 hq24_v1 hq25_v1 hq35_v1 hq36_v1 hq38_v1 hq39_v1 ⟨by decide, by decide⟩ hM_v1 hA_f1 (Nat.lt_succ_self _) _ _ _ hP hD hS (lv_sub hl [0, 1, 2] rfl)
      · skip
        have zc2 : ¬ ((v 24).toInt ≤ l2_1.toInt) := by rw [fa_le] at c2; exact c2
        have rg61 := fb_rng l2_1
        have rg62 := fb_rng (v 24)
        refine lv_aload_n hx hb dX11_goDay_10 rfl (lv_at hl 1 rfl) ?_
        refine va_get (D := (dC, dI)) (ci := 11) (v := .ref (r 60)) (C := RX11) (T := TX11) (N := 79) hx hb hts inB_11 hown hE.1 hP 0 rfl rfl 60 (by decide) (hts _ k_1380) (fun _ h9 => h9) rfl dX11_goDay_11 ?_
        refine lv_iload_n hx hb dX11_goDay_14 rfl (lv_at hl 0 rfl) ?_
        refine lv_bipush (v := 99) hx hb dX11_goDay_15 (by decide) ?_
        refine lv_aload_n hx hb dX11_goDay_17 rfl (lv_at hl 1 rfl) ?_
        refine va_get (D := (dC, dI)) (ci := 11) (v := .ref (r 60)) (C := RX11) (T := TX11) (N := 79) hx hb hts inB_11 hown hE.1 hP 0 rfl rfl 60 (by decide) (hts _ k_1380) (fun _ h9 => h9) rfl dX11_goDay_18 ?_
        refine lv_iload_n hx hb dX11_goDay_21 rfl (lv_at hl 0 rfl) ?_
        refine ldI hx hb hE hP 25 rfl (vp_in_iff.mpr ⟨by omega, by omega⟩) rfl rfl dX11_goDay_22 ?_
        refine lv_topi (fun t63 et63 => ?_)
        have zt63 : l2_1.toInt.toNat % 39 < 6 ∨ 12 ≤ l2_1.toInt.toNat % 39 ∨ (-1 ≤ t63.toInt ∧ t63.toInt ≤ 5) := by rw [et63]; exact wear_ld hCf1.2.1 (show l2_1.toInt.toNat < 39 by omega)
        refine lv_aload_n hx hb dX11_goDay_23 rfl (lv_at hl 1 rfl) ?_
        refine va_get (D := (dC, dI)) (ci := 11) (v := .ref (r 36)) (C := RX11) (T := TX11) (N := 79) hx hb hts inB_11 hown hE.1 hP 0 rfl rfl 36 (by decide) (hts _ k_1356) (fun _ h9 => h9) rfl dX11_goDay_24 ?_
        refine lv_iload_n hx hb dX11_goDay_27 rfl (lv_at hl 0 rfl) ?_
        refine ldI hx hb hE hP 19 rfl (vp_in_iff.mpr ⟨by omega, by omega⟩) rfl rfl dX11_goDay_28 ?_
        refine lv_topi (fun t64 et64 => ?_)
        refine lv_iadd hx hb dX11_goDay_29 ?_
        refine lv_topi (fun t65 et65 => ?_)
        have lt66 : (99 : Int32).toInt = 99 := by decide
        refine cbSi (n := 2) (rest := [.int l2_1, .ref (r 60)]) hx hb hml hown hts hE hP hD hS hA (sY_X11_lesser_1 l dC dI cy y0 r 99 t65 v1 f1 w1 g1 hIv1 hCf1 hRf1 ) k_1799 k_1800 k_114 k_1801 (by decide +kernel) ⟨Nat.le_of_ble_eq_true rfl, Nat.le_of_ble_eq_true rfl⟩ (rfl) hl.1 rfl (Nat.le_of_ble_eq_true rfl) dX11_goDay_30 (fun r67 u H locs hw hP hD hS => ?_)
        obtain ⟨pp68, pp69⟩ := hw
        have pp68 : r67.toInt ≤ (99 : Int32).toInt := pp68
        have pp69 : r67.toInt ≤ t65.toInt := pp69
        refine stI hx hb hE hP hD hS 25 rfl (vp_in_iff.mpr ⟨by omega, by omega⟩) rfl dX11_goDay_33 (fun H locs hP hD hS => ?_)
        obtain ⟨f70, ef70, hP, hD⟩ : ∃ fz9, fz9 = upd2 f1 24 (upd (f1 24) l2_1.toNatClampNeg r67) ∧ va_P (dC, dI) vwCl (YW cy y0 r v1 fz9 w1 g1) H ∧ va_D A (YW cy y0 r v1 fz9 w1 g1) := ⟨_, rfl, hP, hD⟩
        have hCf70 : YC f70 := by rw [ef70]; exact ⟨hCf1.1, (wear_st hCf1.2.1 (by show l2_1.toInt.toNat % 39 < 6 ∨ 12 ≤ l2_1.toInt.toNat % 39 ∨ (-1 ≤ r67.toInt ∧ r67.toInt ≤ 5); omega)), hCf1.2.2.1, hCf1.2.2.2.1, hCf1.2.2.2.2.1, hCf1.2.2.2.2.2⟩
        have hRf70 : progOK (f70 4) (f70 5) (v1 9).toInt.toNat := by rw [ef70]; exact hRf1
        have hA_f70 : KF [7, 8, 24] f70 f := by rw [ef70]; exact KF.up hA_f1 rfl
        obtain ⟨t71, et71⟩ : ∃ y : Int32, y = l2_1 + 1 := ⟨_, rfl⟩
        have zt71 : t71.toInt = l2_1.toInt + 1 := by rw [et71]; exact add_i rfl (by decide) (by omega) (by omega)
        refine lv_iinc (v := t71) (lv' := [(2, .int t71), (0, .ref y0), (1, .int p1)]) hx hb dX11_goDay_34 hl (k := 0) rfl (by rw [et71]; rfl) (by decide) rfl (fun ls hl => ?_)
        refine lv_goto (tgt := 2) hx hb dX11_goDay_37 (by decide) ?_
        have rg72 := fb_rng t71
        exact ih1 t71 v1 f70 w1 g1 hIv1 hCf70 hRf70 hq0_v1 hq1_v1 hq2_v1 hq3_v1 hq4_v1 hq5_v1 hq8_v1 hq9_v1 hq10_v1 hq13_v1 hq14_v1 hq15_v1 hq17_v1 hq18_v1 hq24_v1 hq25_v1 hq35_v1 hq36_v1 hq38_v1 hq39_v1 ⟨show (0 : Int) ≤ t71.toInt by omega, show t71.toInt ≤ (2147483647 : Int) by omega⟩ hM_v1 hA_f70 (by show (2147483647 - t71.toInt).toNat < n1; omega) _ _ _ hP hD hS (lv_sub hl [0, 1, 2] rfl)
  exact lp1 _ 0 v f w g hIv hCf hRf rfl rfl rfl rfl rfl rfl rfl rfl rfl rfl rfl rfl rfl rfl rfl rfl rfl rfl rfl rfl ⟨by decide, by decide⟩ hM_v hA_f (Nat.lt_succ_self _) _ _ _ hP hD hS (lv_sub hl [0, 1, 2] rfl)
set_option maxHeartbeats 4000000 in
set_option maxRecDepth 100000 in
theorem sY_X11_day_1 (l : Launch) (dC : Nat → ClassId) (dI : Nat → Nat → Nat) (cy : Nat → ClassId) (y0 : Nat) (r : Nat → Nat)  (v : Nat → Int32) (f : Nat → Nat → Int32) (w : Int64) (g : Nat → Int64) (hIv : YI v) (hCf : YC f) (hRf : progOK (f 4) (f 5) (v 9).toInt.toNat)  : ctI l (dC, dI) cy yX11_day cX11_day 3 .int 8 214 0 0 ((Nat → Int32) × (Nat → Nat → Int32) × (Int64) × (Nat → Int64)) [.ref y0] (YW cy y0 r v f w g) (fun r u => KV [35, 36] u.1 v ∧ KF [7, 8, 23, 24, 25] u.2.1 f ∧ YI u.1 ∧ YC u.2.1 ∧ progOK (u.2.1 4) (u.2.1 5) (u.1 9).toInt.toNat ∧ u.1 0 = v 0 ∧ u.1 1 = v 1 ∧ u.1 2 = v 2 ∧ u.1 3 = v 3 ∧ u.1 4 = v 4 ∧ u.1 5 = v 5 ∧ u.1 8 = v 8 ∧ u.1 9 = v 9 ∧ u.1 10 = v 10 ∧ u.1 13 = v 13 ∧ u.1 14 = v 14 ∧ u.1 15 = v 15 ∧ u.1 17 = v 17 ∧ u.1 18 = v 18 ∧ u.1 24 = v 24 ∧ u.1 25 = v 25 ∧ u.1 38 = v 38 ∧ u.1 39 = v 39) (fun u => YW cy y0 r u.1 u.2.1 u.2.2.1 u.2.2.2) := by
  refine ctI_of (by decide) (Nat.le_of_ble_eq_true rfl) (fun p e s m below meth c A ls Q hx hb hml hts hown hE hP hD hA hl ret => ?_)
  have hUv : (v 35).toInt + (v 36).toInt ≤ 40 := hIv.2
  have hM_v : KV [35, 36] v v := fun _ _ => rfl
  have hA_f : KF [7, 8, 23, 24, 25] f f := fun _ _ => rfl
  have hown : s.vm.findClass RX11 = some m.cls := hown
  have hS : va_S A s.heap s.heap [] := va_S.rf
  have hl : lv_has ls 3 [(0, .ref y0)] := hl
  refine lv_aload_n hx hb dX11_day_0 rfl (lv_at hl 0 rfl) ?_
  refine va_get (D := (dC, dI)) (ci := 11) (v := .ref (r 59)) (C := RX11) (T := TX11) (N := 79) hx hb hts inB_11 hown hE.1 hP 0 rfl rfl 59 (by decide) (hts _ k_1379) (fun _ h9 => h9) rfl dX11_day_1 ?_
  refine lv_bipush (v := 37) hx hb dX11_day_4 (by decide) ?_
  refine ldI hx hb hE hP 24 rfl (vp_in_nI (n := 37) (by decide) (by decide)) rfl rfl dX11_day_6 ?_
  refine lv_topi (fun t1 et1 => ?_)
  have zt1 : 37 % 39 < 6 ∨ 12 ≤ 37 % 39 ∨ (-1 ≤ t1.toInt ∧ t1.toInt ≤ 5) := by rw [et1]; exact wear_ld hCf.1 (show 37 < 39 by omega)
  refine lv_sipush (v := 999) hx hb dX11_day_7 (by decide) ?_
  refine lv_icmp_ne (tgt := 15) hx hb dX11_day_10 (by decide) (fun c2 => ?_) (fun c2 => ?_)
  · skip
    have zc2 : ¬ (t1.toInt = 999) := by rw [fa_eq, show (999 : Int32).toInt = 999 from by decide] at c2; exact c2
    refine lv_aload_n hx hb dX11_day_15 rfl (lv_at hl 0 rfl) ?_
    refine cbVv (n := 0) (rest := []) hx hb hml hown hts hE hP hD hS hA (sY_X11_act_1 l dC dI cy y0 r  v f w g hIv hCf hRf ) k_1787 k_1789 k_77 k_114 k_1790 (by decide +kernel) ⟨Nat.le_of_ble_eq_true rfl, Nat.le_of_ble_eq_true rfl⟩ 0 11 rfl rfl (rfl) hl.1 rfl (Nat.le_of_ble_eq_true rfl) dX11_day_16 (fun u H locs hw hP hD hS => ?_)
    obtain ⟨v3, f4, w5, g6⟩ := u
    obtain ⟨kV_v3, kF_f4, hIv3, hCf4, hRf4, hk0_v3, hk1_v3, hk2_v3, hk3_v3, hk4_v3, hk5_v3, hk8_v3, hk9_v3, hk10_v3, hk13_v3, hk14_v3, hk15_v3, hk17_v3, hk18_v3, hk24_v3, hk25_v3, hk38_v3, hk39_v3⟩ := hw
    have hM_v3 : KV [35, 36] v3 v := KV.tr kV_v3 hM_v rfl
    have hA_f4 : KF [7, 8, 23, 24, 25] f4 f := KF.tr kF_f4 hA_f rfl
    have hP : va_P (dC, dI) vwCl (YW cy y0 r v3 f4 w5 g6) H := hP
    have hD : va_D A (YW cy y0 r v3 f4 w5 g6) := hD
    have hUv3 : (v3 35).toInt + (v3 36).toInt ≤ 40 := hIv3.2
    have hq9_v3 : v3 9 = (v 9) := hk9_v3
    have zq9_v3 := congrArg Int32.toInt hq9_v3
    refine lv_aload_n hx hb dX11_day_19 rfl (lv_at hl 0 rfl) ?_
    refine cbVi (n := 0) (rest := []) hx hb hml hown hts hE hP hD hS hA (sY_X11_drawRain_1 l dC dI cy y0 r  v3 f4 w5 g6 hIv3 hCf4 hRf4 ) k_1791 k_1793 k_78 k_114 k_1794 (by decide +kernel) ⟨Nat.le_of_ble_eq_true rfl, Nat.le_of_ble_eq_true rfl⟩ 0 11 rfl rfl (rfl) hl.1 rfl (Nat.le_of_ble_eq_true rfl) dX11_day_20 (fun r7 u H locs hw hP hD hS => ?_)
    obtain ⟨v8, f9, w10, g11⟩ := u
    obtain ⟨kV_v8, kF_f9, hIv8, hCf9, hRf9, hk0_v8, hk1_v8, hk2_v8, hk3_v8, hk4_v8, hk5_v8, hk8_v8, hk9_v8, hk10_v8, hk13_v8, hk14_v8, hk15_v8, hk17_v8, hk18_v8, hk24_v8, hk25_v8, hk35_v8, hk36_v8, hk38_v8, hk39_v8, hw⟩ := hw
    have hM_v8 : KV [35, 36] v8 v := KV.tr kV_v8 hM_v3 rfl
    have hA_f9 : KF [7, 8, 23, 24, 25] f9 f := KF.tr kF_f9 hA_f4 rfl
    have hP : va_P (dC, dI) vwCl (YW cy y0 r v8 f9 w10 g11) H := hP
    have hD : va_D A (YW cy y0 r v8 f9 w10 g11) := hD
    have hUv8 : (v8 35).toInt + (v8 36).toInt ≤ 40 := hIv8.2
    have hq9_v8 : v8 9 = (v 9) := hk9_v8.trans hq9_v3
    have zq9_v8 := congrArg Int32.toInt hq9_v8
    rcases hw with ⟨g12⟩ | ⟨g12⟩
    · skip
      subst g12
      refine lv_istore_n (lv' := [(1, .int 1), (0, .ref y0)]) hx hb dX11_day_23 rfl hl (by decide) rfl (fun ls hl => ?_)
      refine lv_aload_n hx hb dX11_day_24 rfl (lv_at hl 1 rfl) ?_
      refine lv_iload_n hx hb dX11_day_25 rfl (lv_at hl 0 rfl) ?_
      refine cbVi (n := 1) (rest := []) hx hb hml hown hts hE hP hD hS hA (sY_X11_goDay_1 l dC dI cy y0 r 1 v8 f9 w10 g11 hIv8 hCf9 hRf9 ) k_1795 k_1797 k_79 k_114 k_1798 (by decide +kernel) ⟨Nat.le_of_ble_eq_true rfl, Nat.le_of_ble_eq_true rfl⟩ 0 11 rfl rfl (rfl) hl.1 rfl (Nat.le_of_ble_eq_true rfl) dX11_day_26 (fun r13 u H locs hw hP hD hS => ?_)
      obtain ⟨v14, f15, w16, g17⟩ := u
      obtain ⟨kV_v14, kF_f15, hIv14, hCf15, hRf15, hk0_v14, hk1_v14, hk2_v14, hk3_v14, hk4_v14, hk5_v14, hk8_v14, hk9_v14, hk10_v14, hk13_v14, hk14_v14, hk15_v14, hk17_v14, hk18_v14, hk24_v14, hk25_v14, hk35_v14, hk36_v14, hk38_v14, hk39_v14⟩ := hw
      have hM_v14 : KV [35, 36] v14 v := KV.tr kV_v14 hM_v8 rfl
      have hA_f15 : KF [7, 8, 23, 24, 25] f15 f := KF.tr kF_f15 hA_f9 rfl
      have hP : va_P (dC, dI) vwCl (YW cy y0 r v14 f15 w16 g17) H := hP
      have hD : va_D A (YW cy y0 r v14 f15 w16 g17) := hD
      have hUv14 : (v14 35).toInt + (v14 36).toInt ≤ 40 := hIv14.2
      have hq9_v14 : v14 9 = (v 9) := hk9_v14.trans hq9_v8
      have zq9_v14 := congrArg Int32.toInt hq9_v14
      refine lv_istore_n (lv' := [(2, .int r13), (1, .int 1), (0, .ref y0)]) hx hb dX11_day_29 rfl hl (by decide) rfl (fun ls hl => ?_)
      refine lv_aload_n hx hb dX11_day_30 rfl (lv_at hl 2 rfl) ?_
      refine cbVv (n := 0) (rest := []) hx hb hml hown hts hE hP hD hS hA (sY_X11_keepAir_1 0 l dC dI cy y0 r  v14 f15 w16 g17 hIv14 hCf15 hRf15 ) k_1720 k_1722 k_69 k_114 k_1723 (by decide +kernel) ⟨Nat.le_of_ble_eq_true rfl, Nat.le_of_ble_eq_true rfl⟩ 0 11 rfl rfl (rfl) hl.1 rfl (Nat.le_of_ble_eq_true rfl) dX11_day_31 (fun u H locs hw hP hD hS => ?_)
      obtain ⟨hG18, hw⟩ := hw
      obtain ⟨v19, f20, w21, g22⟩ := u
      obtain ⟨kV_v19, kF_f20, hIv19, hCf20, hRf20, hk0_v19, hk1_v19, hk2_v19, hk3_v19, hk4_v19, hk5_v19, hk8_v19, hk9_v19, hk10_v19, hk13_v19, hk14_v19, hk15_v19, hk17_v19, hk18_v19, hk24_v19, hk25_v19, hk35_v19, hk36_v19, hk38_v19, hk39_v19⟩ := hw
      have hM_v19 : KV [35, 36] v19 v := KV.tr kV_v19 hM_v14 rfl
      have hA_f20 : KF [7, 8, 23, 24, 25] f20 f := KF.tr kF_f20 hA_f15 rfl
      have hP : va_P (dC, dI) vwCl (YW cy y0 r v19 f20 w21 g22) H := hP
      have hD : va_D A (YW cy y0 r v19 f20 w21 g22) := hD
      have hUv19 : (v19 35).toInt + (v19 36).toInt ≤ 40 := hIv19.2
      have hq9_v19 : v19 9 = (v 9) := hk9_v19.trans hq9_v14
      have zq9_v19 := congrArg Int32.toInt hq9_v19
      refine lv_iload_n hx hb dX11_day_34 rfl (lv_at hl 0 rfl) ?_
      exact ret r13 (v19, f20, w21, g22) _ _ _ _ _ _ rfl ⟨hM_v19, hA_f20, hIv19, hCf20, hRf20, (hk0_v19.trans (hk0_v14.trans (hk0_v8.trans hk0_v3))), (hk1_v19.trans (hk1_v14.trans (hk1_v8.trans hk1_v3))), (hk2_v19.trans (hk2_v14.trans (hk2_v8.trans hk2_v3))), (hk3_v19.trans (hk3_v14.trans (hk3_v8.trans hk3_v3))), (hk4_v19.trans (hk4_v14.trans (hk4_v8.trans hk4_v3))), (hk5_v19.trans (hk5_v14.trans (hk5_v8.trans hk5_v3))), (hk8_v19.trans (hk8_v14.trans (hk8_v8.trans hk8_v3))), (hk9_v19.trans (hk9_v14.trans (hk9_v8.trans hk9_v3))), (hk10_v19.trans (hk10_v14.trans (hk10_v8.trans hk10_v3))), (hk13_v19.trans (hk13_v14.trans (hk13_v8.trans hk13_v3))), (hk14_v19.trans (hk14_v14.trans (hk14_v8.trans hk14_v3))), (hk15_v19.trans (hk15_v14.trans (hk15_v8.trans hk15_v3))), (hk17_v19.trans (hk17_v14.trans (hk17_v8.trans hk17_v3))), (hk18_v19.trans (hk18_v14.trans (hk18_v8.trans hk18_v3))), (hk24_v19.trans (hk24_v14.trans (hk24_v8.trans hk24_v3))), (hk25_v19.trans (hk25_v14.trans (hk25_v8.trans hk25_v3))), (hk38_v19.trans (hk38_v14.trans (hk38_v8.trans hk38_v3))), (hk39_v19.trans (hk39_v14.trans (hk39_v8.trans hk39_v3)))⟩ hP hD hS dX11_day_35 (Nat.le_refl _) (Nat.le_refl _)
    · skip
      subst g12
      refine lv_istore_n (lv' := [(1, .int 0), (0, .ref y0)]) hx hb dX11_day_23 rfl hl (by decide) rfl (fun ls hl => ?_)
      refine lv_aload_n hx hb dX11_day_24 rfl (lv_at hl 1 rfl) ?_
      refine lv_iload_n hx hb dX11_day_25 rfl (lv_at hl 0 rfl) ?_
      refine cbVi (n := 1) (rest := []) hx hb hml hown hts hE hP hD hS hA (sY_X11_goDay_1 l dC dI cy y0 r 0 v8 f9 w10 g11 hIv8 hCf9 hRf9 ) k_1795 k_1797 k_79 k_114 k_1798 (by decide +kernel) ⟨Nat.le_of_ble_eq_true rfl, Nat.le_of_ble_eq_true rfl⟩ 0 11 rfl rfl (rfl) hl.1 rfl (Nat.le_of_ble_eq_true rfl) dX11_day_26 (fun r23 u H locs hw hP hD hS => ?_)
      obtain ⟨v24, f25, w26, g27⟩ := u
      obtain ⟨kV_v24, kF_f25, hIv24, hCf25, hRf25, hk0_v24, hk1_v24, hk2_v24, hk3_v24, hk4_v24, hk5_v24, hk8_v24, hk9_v24, hk10_v24, hk13_v24, hk14_v24, hk15_v24, hk17_v24, hk18_v24, hk24_v24, hk25_v24, hk35_v24, hk36_v24, hk38_v24, hk39_v24⟩ := hw
      have hM_v24 : KV [35, 36] v24 v := KV.tr kV_v24 hM_v8 rfl
      have hA_f25 : KF [7, 8, 23, 24, 25] f25 f := KF.tr kF_f25 hA_f9 rfl
      have hP : va_P (dC, dI) vwCl (YW cy y0 r v24 f25 w26 g27) H := hP
      have hD : va_D A (YW cy y0 r v24 f25 w26 g27) := hD
      have hUv24 : (v24 35).toInt + (v24 36).toInt ≤ 40 := hIv24.2
      have hq9_v24 : v24 9 = (v 9) := hk9_v24.trans hq9_v8
      have zq9_v24 := congrArg Int32.toInt hq9_v24
      refine lv_istore_n (lv' := [(2, .int r23), (1, .int 0), (0, .ref y0)]) hx hb dX11_day_29 rfl hl (by decide) rfl (fun ls hl => ?_)
      refine lv_aload_n hx hb dX11_day_30 rfl (lv_at hl 2 rfl) ?_
      refine cbVv (n := 0) (rest := []) hx hb hml hown hts hE hP hD hS hA (sY_X11_keepAir_1 0 l dC dI cy y0 r  v24 f25 w26 g27 hIv24 hCf25 hRf25 ) k_1720 k_1722 k_69 k_114 k_1723 (by decide +kernel) ⟨Nat.le_of_ble_eq_true rfl, Nat.le_of_ble_eq_true rfl⟩ 0 11 rfl rfl (rfl) hl.1 rfl (Nat.le_of_ble_eq_true rfl) dX11_day_31 (fun u H locs hw hP hD hS => ?_)
      obtain ⟨hG28, hw⟩ := hw
      obtain ⟨v29, f30, w31, g32⟩ := u
      obtain ⟨kV_v29, kF_f30, hIv29, hCf30, hRf30, hk0_v29, hk1_v29, hk2_v29, hk3_v29, hk4_v29, hk5_v29, hk8_v29, hk9_v29, hk10_v29, hk13_v29, hk14_v29, hk15_v29, hk17_v29, hk18_v29, hk24_v29, hk25_v29, hk35_v29, hk36_v29, hk38_v29, hk39_v29⟩ := hw
      have hM_v29 : KV [35, 36] v29 v := KV.tr kV_v29 hM_v24 rfl
      have hA_f30 : KF [7, 8, 23, 24, 25] f30 f := KF.tr kF_f30 hA_f25 rfl
      have hP : va_P (dC, dI) vwCl (YW cy y0 r v29 f30 w31 g32) H := hP
      have hD : va_D A (YW cy y0 r v29 f30 w31 g32) := hD
      have hUv29 : (v29 35).toInt + (v29 36).toInt ≤ 40 := hIv29.2
      have hq9_v29 : v29 9 = (v 9) := hk9_v29.trans hq9_v24
      have zq9_v29 := congrArg Int32.toInt hq9_v29
      refine lv_iload_n hx hb dX11_day_34 rfl (lv_at hl 0 rfl) ?_
      exact ret r23 (v29, f30, w31, g32) _ _ _ _ _ _ rfl ⟨hM_v29, hA_f30, hIv29, hCf30, hRf30, (hk0_v29.trans (hk0_v24.trans (hk0_v8.trans hk0_v3))), (hk1_v29.trans (hk1_v24.trans (hk1_v8.trans hk1_v3))), (hk2_v29.trans (hk2_v24.trans (hk2_v8.trans hk2_v3))), (hk3_v29.trans (hk3_v24.trans (hk3_v8.trans hk3_v3))), (hk4_v29.trans (hk4_v24.trans (hk4_v8.trans hk4_v3))), (hk5_v29.trans (hk5_v24.trans (hk5_v8.trans hk5_v3))), (hk8_v29.trans (hk8_v24.trans (hk8_v8.trans hk8_v3))), (hk9_v29.trans (hk9_v24.trans (hk9_v8.trans hk9_v3))), (hk10_v29.trans (hk10_v24.trans (hk10_v8.trans hk10_v3))), (hk13_v29.trans (hk13_v24.trans (hk13_v8.trans hk13_v3))), (hk14_v29.trans (hk14_v24.trans (hk14_v8.trans hk14_v3))), (hk15_v29.trans (hk15_v24.trans (hk15_v8.trans hk15_v3))), (hk17_v29.trans (hk17_v24.trans (hk17_v8.trans hk17_v3))), (hk18_v29.trans (hk18_v24.trans (hk18_v8.trans hk18_v3))), (hk24_v29.trans (hk24_v24.trans (hk24_v8.trans hk24_v3))), (hk25_v29.trans (hk25_v24.trans (hk25_v8.trans hk25_v3))), (hk38_v29.trans (hk38_v24.trans (hk38_v8.trans hk38_v3))), (hk39_v29.trans (hk39_v24.trans (hk39_v8.trans hk39_v3)))⟩ hP hD hS dX11_day_35 (Nat.le_refl _) (Nat.le_refl _)
  · skip
    have zc2 : t1.toInt = 999 := by rw [fa_eq, show (999 : Int32).toInt = 999 from by decide] at c2; exact c2
    refine lv_iconst (v := (-1)) hx hb dX11_day_13 (by decide) ?_
    exact ret (-1) (v, f, w, g) _ _ _ _ _ _ rfl ⟨hM_v, hA_f, hIv, hCf, hRf, rfl, rfl, rfl, rfl, rfl, rfl, rfl, rfl, rfl, rfl, rfl, rfl, rfl, rfl, rfl, rfl, rfl, rfl⟩ hP hD hS dX11_day_14 (Nat.le_refl _) (Nat.le_refl _)
set_option maxHeartbeats 4000000 in
set_option maxRecDepth 100000 in
theorem sY_X11_don_1 (l : Launch) (dC : Nat → ClassId) (dI : Nat → Nat → Nat) (cy : Nat → ClassId) (y0 : Nat) (r : Nat → Nat) (p1 : Int32) (p2 : Int32) (v : Nat → Int32) (f : Nat → Nat → Int32) (w : Int64) (g : Nat → Int64) (hIv : YI v) (hCf : YC f) (hRf : progOK (f 4) (f 5) (v 9).toInt.toNat)  : ctI l (dC, dI) cy yX11_don cX11_don 4 .int 3 103 0 0 ((Nat → Int32) × (Nat → Nat → Int32) × (Int64) × (Nat → Int64)) [.ref y0, .int p1, .int p2] (YW cy y0 r v f w g) (fun r u => KV [35, 36] u.1 v ∧ KF [23, 24, 25] u.2.1 f ∧ YI u.1 ∧ YC u.2.1 ∧ progOK (u.2.1 4) (u.2.1 5) (u.1 9).toInt.toNat ∧ u.1 0 = v 0 ∧ u.1 1 = v 1 ∧ u.1 2 = v 2 ∧ u.1 3 = v 3 ∧ u.1 4 = v 4 ∧ u.1 5 = v 5 ∧ u.1 8 = v 8 ∧ u.1 9 = v 9 ∧ u.1 10 = v 10 ∧ u.1 13 = v 13 ∧ u.1 14 = v 14 ∧ u.1 15 = v 15 ∧ u.1 17 = v 17 ∧ u.1 18 = v 18 ∧ u.1 24 = v 24 ∧ u.1 25 = v 25 ∧ u.1 38 = v 38 ∧ u.1 39 = v 39) (fun u => YW cy y0 r u.1 u.2.1 u.2.2.1 u.2.2.2) := by
  refine ctI_of (by decide) (Nat.le_of_ble_eq_true rfl) (fun p e s m below meth c A ls Q hx hb hml hts hown hE hP hD hA hl ret => ?_)
  have hUv : (v 35).toInt + (v 36).toInt ≤ 40 := hIv.2
  have hM_v : KV [35, 36] v v := fun _ _ => rfl
  have hA_f : KF [23, 24, 25] f f := fun _ _ => rfl
  have hown : s.vm.findClass RX11 = some m.cls := hown
  have hS : va_S A s.heap s.heap [] := va_S.rf
  have hl : lv_has ls 4 [(0, .ref y0), (1, .int p1), (2, .int p2)] := hl
  refine lv_aload_n hx hb dX11_don_0 rfl (lv_at hl 0 rfl) ?_
  refine cbVv (n := 0) (rest := []) hx hb hml hown hts hE hP hD hS hA (sY_X11_fill_1 l dC dI cy y0 r  v f w g hIv hCf hRf ) k_1739 k_1741 k_71 k_114 k_1742 (by decide +kernel) ⟨Nat.le_of_ble_eq_true rfl, Nat.le_of_ble_eq_true rfl⟩ 0 11 rfl rfl (rfl) hl.1 rfl (Nat.le_of_ble_eq_true rfl) dX11_don_1 (fun u H locs hw hP hD hS => ?_)
  obtain ⟨v1, f2, w3, g4⟩ := u
  obtain ⟨kV_v1, kF_f2, hIv1, hCf2, hRf2, hk0_v1, hk1_v1, hk2_v1, hk3_v1, hk4_v1, hk5_v1, hk8_v1, hk9_v1, hk10_v1, hk13_v1, hk14_v1, hk15_v1, hk17_v1, hk18_v1, hk24_v1, hk25_v1, hk35_v1, hk36_v1, hk38_v1, hk39_v1⟩ := hw
  have hM_v1 : KV [35, 36] v1 v := KV.tr kV_v1 hM_v rfl
  have hA_f2 : KF [23, 24, 25] f2 f := KF.tr kF_f2 hA_f rfl
  have hP : va_P (dC, dI) vwCl (YW cy y0 r v1 f2 w3 g4) H := hP
  have hD : va_D A (YW cy y0 r v1 f2 w3 g4) := hD
  have hUv1 : (v1 35).toInt + (v1 36).toInt ≤ 40 := hIv1.2
  have hq9_v1 : v1 9 = (v 9) := hk9_v1
  have zq9_v1 := congrArg Int32.toInt hq9_v1
  refine lv_aload_n hx hb dX11_don_4 rfl (lv_at hl 0 rfl) ?_
  refine lv_iload_n hx hb dX11_don_5 rfl (lv_at hl 1 rfl) ?_
  refine cbVi (n := 1) (rest := []) hx hb hml hown hts hE hP hD hS hA (sY_X11_isMan_1 l dC dI cy y0 r p1 v1 f2 w3 g4 hIv1 hCf2 hRf2 ) k_1732 k_1734 k_70 k_114 k_1735 (by decide +kernel) ⟨Nat.le_of_ble_eq_true rfl, Nat.le_of_ble_eq_true rfl⟩ 0 11 rfl rfl (rfl) hl.1 rfl (Nat.le_of_ble_eq_true rfl) dX11_don_6 (fun r5 u H locs hw hP hD hS => ?_)
  rcases hw with ⟨g6, g6_0, g6_1, g6_2⟩ | ⟨g6⟩
  · skip
    subst g6
    refine lv_if_eq (tgt := 28) hx hb dX11_don_9 (by decide) (fun c0 => absurd c0 (by decide)) (fun _ => ?_)
    refine lv_aload_n hx hb dX11_don_12 rfl (lv_at hl 0 rfl) ?_
    refine lv_iload_n hx hb dX11_don_13 rfl (lv_at hl 2 rfl) ?_
    refine cbVi (n := 1) (rest := []) hx hb hml hown hts hE hP hD hS hA (sY_X11_isCoat_1 l dC dI cy y0 r p2 v1 f2 w3 g4 hIv1 hCf2 hRf2 ) k_1771 k_1773 k_75 k_114 k_1774 (by decide +kernel) ⟨Nat.le_of_ble_eq_true rfl, Nat.le_of_ble_eq_true rfl⟩ 0 11 rfl rfl (rfl) hl.1 rfl (Nat.le_of_ble_eq_true rfl) dX11_don_14 (fun r7 u H locs hw hP hD hS => ?_)
    rcases hw with ⟨g8, g8_0, g8_1, g8_2⟩ | ⟨g8⟩
    · skip
      subst g8
      refine lv_if_eq (tgt := 28) hx hb dX11_don_17 (by decide) (fun c0 => absurd c0 (by decide)) (fun _ => ?_)
      refine lv_aload_n hx hb dX11_don_20 rfl (lv_at hl 0 rfl) ?_
      refine lv_iload_n hx hb dX11_don_21 rfl (lv_at hl 2 rfl) ?_
      refine cbVi (n := 1) (rest := []) hx hb hml hown hts hE hP hD hS hA (sY_X11_wearer_1 l dC dI cy y0 r p2 v1 f2 w3 g4 hIv1 hCf2 hRf2 ) k_1775 k_1777 k_76 k_114 k_1778 (by decide +kernel) ⟨Nat.le_of_ble_eq_true rfl, Nat.le_of_ble_eq_true rfl⟩ 0 11 rfl rfl (rfl) hl.1 rfl (Nat.le_of_ble_eq_true rfl) dX11_don_22 (fun r9 u H locs hw hP hD hS => ?_)
      refine lv_if_lt (tgt := 31) hx hb dX11_don_25 (by decide) (fun c10 => ?_) (fun c10 => ?_)
      · skip
        have zc10 : r9.toInt < 0 := by rw [fa_lt, show (0 : Int32).toInt = 0 from by decide] at c10; exact c10
        refine lv_aload_n hx hb dX11_don_31 rfl (lv_at hl 0 rfl) ?_
        refine cbVv (n := 0) (rest := []) hx hb hml hown hts hE hP hD hS hA (sY_X11_act_1 l dC dI cy y0 r  v1 f2 w3 g4 hIv1 hCf2 hRf2 ) k_1787 k_1789 k_77 k_114 k_1790 (by decide +kernel) ⟨Nat.le_of_ble_eq_true rfl, Nat.le_of_ble_eq_true rfl⟩ 0 11 rfl rfl (rfl) hl.1 rfl (Nat.le_of_ble_eq_true rfl) dX11_don_32 (fun u H locs hw hP hD hS => ?_)
        obtain ⟨v11, f12, w13, g14⟩ := u
        obtain ⟨kV_v11, kF_f12, hIv11, hCf12, hRf12, hk0_v11, hk1_v11, hk2_v11, hk3_v11, hk4_v11, hk5_v11, hk8_v11, hk9_v11, hk10_v11, hk13_v11, hk14_v11, hk15_v11, hk17_v11, hk18_v11, hk24_v11, hk25_v11, hk38_v11, hk39_v11⟩ := hw
        have hM_v11 : KV [35, 36] v11 v := KV.tr kV_v11 hM_v1 rfl
        have hA_f12 : KF [23, 24, 25] f12 f := KF.tr kF_f12 hA_f2 rfl
        have hP : va_P (dC, dI) vwCl (YW cy y0 r v11 f12 w13 g14) H := hP
        have hD : va_D A (YW cy y0 r v11 f12 w13 g14) := hD
        have hUv11 : (v11 35).toInt + (v11 36).toInt ≤ 40 := hIv11.2
        have hq9_v11 : v11 9 = (v 9) := hk9_v11.trans hq9_v1
        have zq9_v11 := congrArg Int32.toInt hq9_v11
        refine lv_aload_n hx hb dX11_don_35 rfl (lv_at hl 0 rfl) ?_
        refine va_get (D := (dC, dI)) (ci := 11) (v := .ref (r 59)) (C := RX11) (T := TX11) (N := 79) hx hb hts inB_11 hown hE.1 hP 0 rfl rfl 59 (by decide) (hts _ k_1379) (fun _ h9 => h9) rfl dX11_don_36 ?_
        refine lv_bipush (v := 6) hx hb dX11_don_39 (by decide) ?_
        refine lv_iload_n hx hb dX11_don_41 rfl (lv_at hl 1 rfl) ?_
        refine lv_iadd hx hb dX11_don_42 ?_
        refine lv_topi (fun t15 et15 => ?_)
        have rg16 := fb_rng p1
        have zt15 : t15.toInt = 6 + p1.toInt := by rw [et15]; exact add_i (by decide) rfl (by omega) (by omega)
        refine ldI hx hb hE hP 24 rfl (vp_in_iff.mpr ⟨by omega, by omega⟩) rfl rfl dX11_don_43 ?_
        refine lv_topi (fun t17 et17 => ?_)
        have zt17 : t15.toInt.toNat % 39 < 6 ∨ 12 ≤ t15.toInt.toNat % 39 ∨ (-1 ≤ t17.toInt ∧ t17.toInt ≤ 5) := by rw [et17]; exact wear_ld hCf12.1 (show t15.toInt.toNat < 39 by omega)
        refine lv_istore_n (lv' := [(3, .int t17), (0, .ref y0), (1, .int p1), (2, .int p2)]) hx hb dX11_don_44 rfl hl (by decide) rfl (fun ls hl => ?_)
        refine lv_aload_n hx hb dX11_don_45 rfl (lv_at hl 1 rfl) ?_
        refine va_get (D := (dC, dI)) (ci := 11) (v := .ref (r 59)) (C := RX11) (T := TX11) (N := 79) hx hb hts inB_11 hown hE.1 hP 0 rfl rfl 59 (by decide) (hts _ k_1379) (fun _ h9 => h9) rfl dX11_don_46 ?_
        refine lv_bipush (v := 6) hx hb dX11_don_49 (by decide) ?_
        refine lv_iload_n hx hb dX11_don_51 rfl (lv_at hl 2 rfl) ?_
        refine lv_iadd hx hb dX11_don_52 ?_
        refine tI (y := t15) et15.symm ?_
        refine lv_iload_n hx hb dX11_don_53 rfl (lv_at hl 3 rfl) ?_
        refine stI hx hb hE hP hD hS 24 rfl (vp_in_iff.mpr ⟨by omega, by omega⟩) rfl dX11_don_54 (fun H locs hP hD hS => ?_)
        obtain ⟨f18, ef18, hP, hD⟩ : ∃ fz9, fz9 = upd2 f12 23 (upd (f12 23) t15.toNatClampNeg p2) ∧ va_P (dC, dI) vwCl (YW cy y0 r v11 fz9 w13 g14) H ∧ va_D A (YW cy y0 r v11 fz9 w13 g14) := ⟨_, rfl, hP, hD⟩
        have hCf18 : YC f18 := by rw [ef18]; exact ⟨(wear_st hCf12.1 (by show t15.toInt.toNat % 39 < 6 ∨ 12 ≤ t15.toInt.toNat % 39 ∨ (-1 ≤ p2.toInt ∧ p2.toInt ≤ 5); omega)), hCf12.2.1, hCf12.2.2.1, hCf12.2.2.2.1, hCf12.2.2.2.2.1, hCf12.2.2.2.2.2⟩
        have hRf18 : progOK (f18 4) (f18 5) (v11 9).toInt.toNat := by rw [ef18]; exact hRf12
        have hA_f18 : KF [23, 24, 25] f18 f := by rw [ef18]; exact KF.up hA_f12 rfl
        refine lv_iload_n hx hb dX11_don_55 rfl (lv_at hl 0 rfl) ?_
        exact ret t17 (v11, f18, w13, g14) _ _ _ _ _ _ rfl ⟨hM_v11, hA_f18, hIv11, hCf18, hRf18, (hk0_v11.trans hk0_v1), (hk1_v11.trans hk1_v1), (hk2_v11.trans hk2_v1), (hk3_v11.trans hk3_v1), (hk4_v11.trans hk4_v1), (hk5_v11.trans hk5_v1), (hk8_v11.trans hk8_v1), (hk9_v11.trans hk9_v1), (hk10_v11.trans hk10_v1), (hk13_v11.trans hk13_v1), (hk14_v11.trans hk14_v1), (hk15_v11.trans hk15_v1), (hk17_v11.trans hk17_v1), (hk18_v11.trans hk18_v1), (hk24_v11.trans hk24_v1), (hk25_v11.trans hk25_v1), (hk38_v11.trans hk38_v1), (hk39_v11.trans hk39_v1)⟩ hP hD hS dX11_don_56 (Nat.le_refl _) (Nat.le_refl _)
      · skip
        have zc10 : ¬ (r9.toInt < 0) := by rw [fa_lt, show (0 : Int32).toInt = 0 from by decide] at c10; exact c10
        refine lv_bipush (v := (-2)) hx hb dX11_don_28 (by decide) ?_
        exact ret (-2) (v1, f2, w3, g4) _ _ _ _ _ _ rfl ⟨hM_v1, hA_f2, hIv1, hCf2, hRf2, hk0_v1, hk1_v1, hk2_v1, hk3_v1, hk4_v1, hk5_v1, hk8_v1, hk9_v1, hk10_v1, hk13_v1, hk14_v1, hk15_v1, hk17_v1, hk18_v1, hk24_v1, hk25_v1, hk38_v1, hk39_v1⟩ hP hD hS dX11_don_30 (Nat.le_refl _) (Nat.le_refl _)
    · skip
      subst g8
      refine lv_if_eq (tgt := 28) hx hb dX11_don_17 (by decide) (fun _ => ?_) (fun c0 => absurd (by decide) c0)
      refine lv_bipush (v := (-2)) hx hb dX11_don_28 (by decide) ?_
      exact ret (-2) (v1, f2, w3, g4) _ _ _ _ _ _ rfl ⟨hM_v1, hA_f2, hIv1, hCf2, hRf2, hk0_v1, hk1_v1, hk2_v1, hk3_v1, hk4_v1, hk5_v1, hk8_v1, hk9_v1, hk10_v1, hk13_v1, hk14_v1, hk15_v1, hk17_v1, hk18_v1, hk24_v1, hk25_v1, hk38_v1, hk39_v1⟩ hP hD hS dX11_don_30 (Nat.le_refl _) (Nat.le_refl _)
  · skip
    subst g6
    refine lv_if_eq (tgt := 28) hx hb dX11_don_9 (by decide) (fun _ => ?_) (fun c0 => absurd (by decide) c0)
    refine lv_bipush (v := (-2)) hx hb dX11_don_28 (by decide) ?_
    exact ret (-2) (v1, f2, w3, g4) _ _ _ _ _ _ rfl ⟨hM_v1, hA_f2, hIv1, hCf2, hRf2, hk0_v1, hk1_v1, hk2_v1, hk3_v1, hk4_v1, hk5_v1, hk8_v1, hk9_v1, hk10_v1, hk13_v1, hk14_v1, hk15_v1, hk17_v1, hk18_v1, hk24_v1, hk25_v1, hk38_v1, hk39_v1⟩ hP hD hS dX11_don_30 (Nat.le_refl _) (Nat.le_refl _)
set_option maxHeartbeats 4000000 in
set_option maxRecDepth 100000 in
theorem sY_X11_doff_1 (l : Launch) (dC : Nat → ClassId) (dI : Nat → Nat → Nat) (cy : Nat → ClassId) (y0 : Nat) (r : Nat → Nat) (p1 : Int32) (v : Nat → Int32) (f : Nat → Nat → Int32) (w : Int64) (g : Nat → Int64) (hIv : YI v) (hCf : YC f) (hRf : progOK (f 4) (f 5) (v 9).toInt.toNat)  : ctI l (dC, dI) cy yX11_doff cX11_doff 3 .int 3 103 0 0 ((Nat → Int32) × (Nat → Nat → Int32) × (Int64) × (Nat → Int64)) [.ref y0, .int p1] (YW cy y0 r v f w g) (fun r u => KV [35, 36] u.1 v ∧ KF [23, 24, 25] u.2.1 f ∧ YI u.1 ∧ YC u.2.1 ∧ progOK (u.2.1 4) (u.2.1 5) (u.1 9).toInt.toNat ∧ u.1 0 = v 0 ∧ u.1 1 = v 1 ∧ u.1 2 = v 2 ∧ u.1 3 = v 3 ∧ u.1 4 = v 4 ∧ u.1 5 = v 5 ∧ u.1 8 = v 8 ∧ u.1 9 = v 9 ∧ u.1 10 = v 10 ∧ u.1 13 = v 13 ∧ u.1 14 = v 14 ∧ u.1 15 = v 15 ∧ u.1 17 = v 17 ∧ u.1 18 = v 18 ∧ u.1 24 = v 24 ∧ u.1 25 = v 25 ∧ u.1 38 = v 38 ∧ u.1 39 = v 39) (fun u => YW cy y0 r u.1 u.2.1 u.2.2.1 u.2.2.2) := by
  refine ctI_of (by decide) (Nat.le_of_ble_eq_true rfl) (fun p e s m below meth c A ls Q hx hb hml hts hown hE hP hD hA hl ret => ?_)
  have hUv : (v 35).toInt + (v 36).toInt ≤ 40 := hIv.2
  have hM_v : KV [35, 36] v v := fun _ _ => rfl
  have hA_f : KF [23, 24, 25] f f := fun _ _ => rfl
  have hown : s.vm.findClass RX11 = some m.cls := hown
  have hS : va_S A s.heap s.heap [] := va_S.rf
  have hl : lv_has ls 3 [(0, .ref y0), (1, .int p1)] := hl
  refine lv_aload_n hx hb dX11_doff_0 rfl (lv_at hl 0 rfl) ?_
  refine lv_iload_n hx hb dX11_doff_1 rfl (lv_at hl 1 rfl) ?_
  refine cbVi (n := 1) (rest := []) hx hb hml hown hts hE hP hD hS hA (sY_X11_isMan_1 l dC dI cy y0 r p1 v f w g hIv hCf hRf ) k_1732 k_1734 k_70 k_114 k_1735 (by decide +kernel) ⟨Nat.le_of_ble_eq_true rfl, Nat.le_of_ble_eq_true rfl⟩ 0 11 rfl rfl (rfl) hl.1 rfl (Nat.le_of_ble_eq_true rfl) dX11_doff_2 (fun r1 u H locs hw hP hD hS => ?_)
  rcases hw with ⟨g2, g2_0, g2_1, g2_2⟩ | ⟨g2⟩
  · skip
    subst g2
    refine lv_if_eq (tgt := 20) hx hb dX11_doff_5 (by decide) (fun c0 => absurd c0 (by decide)) (fun _ => ?_)
    refine lv_aload_n hx hb dX11_doff_8 rfl (lv_at hl 0 rfl) ?_
    refine va_get (D := (dC, dI)) (ci := 11) (v := .ref (r 59)) (C := RX11) (T := TX11) (N := 79) hx hb hts inB_11 hown hE.1 hP 0 rfl rfl 59 (by decide) (hts _ k_1379) (fun _ h9 => h9) rfl dX11_doff_9 ?_
    refine lv_bipush (v := 6) hx hb dX11_doff_12 (by decide) ?_
    refine lv_iload_n hx hb dX11_doff_14 rfl (lv_at hl 1 rfl) ?_
    refine lv_iadd hx hb dX11_doff_15 ?_
    refine lv_topi (fun t3 et3 => ?_)
    have rg4 := fb_rng p1
    have zt3 : t3.toInt = 6 + p1.toInt := by rw [et3]; exact add_i (by decide) rfl (by omega) (by omega)
    refine ldI hx hb hE hP 24 rfl (vp_in_iff.mpr ⟨by omega, by omega⟩) rfl rfl dX11_doff_16 ?_
    refine lv_topi (fun t5 et5 => ?_)
    have zt5 : t3.toInt.toNat % 39 < 6 ∨ 12 ≤ t3.toInt.toNat % 39 ∨ (-1 ≤ t5.toInt ∧ t5.toInt ≤ 5) := by rw [et5]; exact wear_ld hCf.1 (show t3.toInt.toNat < 39 by omega)
    refine lv_if_ge (tgt := 22) hx hb dX11_doff_17 (by decide) (fun c6 => ?_) (fun c6 => ?_)
    · skip
      have zc6 : 0 ≤ t5.toInt := by rw [fa_le, show (0 : Int32).toInt = 0 from by decide] at c6; exact c6
      refine lv_aload_n hx hb dX11_doff_22 rfl (lv_at hl 0 rfl) ?_
      refine cbVv (n := 0) (rest := []) hx hb hml hown hts hE hP hD hS hA (sY_X11_act_1 l dC dI cy y0 r  v f w g hIv hCf hRf ) k_1787 k_1789 k_77 k_114 k_1790 (by decide +kernel) ⟨Nat.le_of_ble_eq_true rfl, Nat.le_of_ble_eq_true rfl⟩ 0 11 rfl rfl (rfl) hl.1 rfl (Nat.le_of_ble_eq_true rfl) dX11_doff_23 (fun u H locs hw hP hD hS => ?_)
      obtain ⟨v7, f8, w9, g10⟩ := u
      obtain ⟨kV_v7, kF_f8, hIv7, hCf8, hRf8, hk0_v7, hk1_v7, hk2_v7, hk3_v7, hk4_v7, hk5_v7, hk8_v7, hk9_v7, hk10_v7, hk13_v7, hk14_v7, hk15_v7, hk17_v7, hk18_v7, hk24_v7, hk25_v7, hk38_v7, hk39_v7⟩ := hw
      have hM_v7 : KV [35, 36] v7 v := KV.tr kV_v7 hM_v rfl
      have hA_f8 : KF [23, 24, 25] f8 f := KF.tr kF_f8 hA_f rfl
      have hP : va_P (dC, dI) vwCl (YW cy y0 r v7 f8 w9 g10) H := hP
      have hD : va_D A (YW cy y0 r v7 f8 w9 g10) := hD
      have hUv7 : (v7 35).toInt + (v7 36).toInt ≤ 40 := hIv7.2
      have hq9_v7 : v7 9 = (v 9) := hk9_v7
      have zq9_v7 := congrArg Int32.toInt hq9_v7
      refine lv_aload_n hx hb dX11_doff_26 rfl (lv_at hl 0 rfl) ?_
      refine va_get (D := (dC, dI)) (ci := 11) (v := .ref (r 59)) (C := RX11) (T := TX11) (N := 79) hx hb hts inB_11 hown hE.1 hP 0 rfl rfl 59 (by decide) (hts _ k_1379) (fun _ h9 => h9) rfl dX11_doff_27 ?_
      refine lv_bipush (v := 6) hx hb dX11_doff_30 (by decide) ?_
      refine lv_iload_n hx hb dX11_doff_32 rfl (lv_at hl 1 rfl) ?_
      refine lv_iadd hx hb dX11_doff_33 ?_
      refine tI (y := t3) et3.symm ?_
      refine ldI hx hb hE hP 24 rfl (vp_in_iff.mpr ⟨by omega, by omega⟩) rfl rfl dX11_doff_34 ?_
      refine lv_topi (fun t11 et11 => ?_)
      have zt11 : t3.toInt.toNat % 39 < 6 ∨ 12 ≤ t3.toInt.toNat % 39 ∨ (-1 ≤ t11.toInt ∧ t11.toInt ≤ 5) := by rw [et11]; exact wear_ld hCf8.1 (show t3.toInt.toNat < 39 by omega)
      refine lv_istore_n (lv' := [(2, .int t11), (0, .ref y0), (1, .int p1)]) hx hb dX11_doff_35 rfl hl (by decide) rfl (fun ls hl => ?_)
      refine lv_aload_n hx hb dX11_doff_36 rfl (lv_at hl 1 rfl) ?_
      refine va_get (D := (dC, dI)) (ci := 11) (v := .ref (r 59)) (C := RX11) (T := TX11) (N := 79) hx hb hts inB_11 hown hE.1 hP 0 rfl rfl 59 (by decide) (hts _ k_1379) (fun _ h9 => h9) rfl dX11_doff_37 ?_
      refine lv_bipush (v := 6) hx hb dX11_doff_40 (by decide) ?_
      refine lv_iload_n hx hb dX11_doff_42 rfl (lv_at hl 2 rfl) ?_
      refine lv_iadd hx hb dX11_doff_43 ?_
      refine tI (y := t3) et3.symm ?_
      refine lv_iconst (v := (-1)) hx hb dX11_doff_44 (by decide) ?_
      refine stI hx hb hE hP hD hS 24 rfl (vp_in_iff.mpr ⟨by omega, by omega⟩) rfl dX11_doff_45 (fun H locs hP hD hS => ?_)
      obtain ⟨f12, ef12, hP, hD⟩ : ∃ fz9, fz9 = upd2 f8 23 (upd (f8 23) t3.toNatClampNeg (-1)) ∧ va_P (dC, dI) vwCl (YW cy y0 r v7 fz9 w9 g10) H ∧ va_D A (YW cy y0 r v7 fz9 w9 g10) := ⟨_, rfl, hP, hD⟩
      have hCf12 : YC f12 := by rw [ef12]; exact ⟨(wear_st hCf8.1 (by have q9 : ((-1) : Int32).toInt = -1 := (by decide); show t3.toInt.toNat % 39 < 6 ∨ 12 ≤ t3.toInt.toNat % 39 ∨ (-1 ≤ ((-1) : Int32).toInt ∧ ((-1) : Int32).toInt ≤ 5); omega)), hCf8.2.1, hCf8.2.2.1, hCf8.2.2.2.1, hCf8.2.2.2.2.1, hCf8.2.2.2.2.2⟩
      have hRf12 : progOK (f12 4) (f12 5) (v7 9).toInt.toNat := by rw [ef12]; exact hRf8
      have hA_f12 : KF [23, 24, 25] f12 f := by rw [ef12]; exact KF.up hA_f8 rfl
      refine lv_iload_n hx hb dX11_doff_46 rfl (lv_at hl 0 rfl) ?_
      exact ret t11 (v7, f12, w9, g10) _ _ _ _ _ _ rfl ⟨hM_v7, hA_f12, hIv7, hCf12, hRf12, hk0_v7, hk1_v7, hk2_v7, hk3_v7, hk4_v7, hk5_v7, hk8_v7, hk9_v7, hk10_v7, hk13_v7, hk14_v7, hk15_v7, hk17_v7, hk18_v7, hk24_v7, hk25_v7, hk38_v7, hk39_v7⟩ hP hD hS dX11_doff_47 (Nat.le_refl _) (Nat.le_refl _)
    · skip
      have zc6 : ¬ (0 ≤ t5.toInt) := by rw [fa_le, show (0 : Int32).toInt = 0 from by decide] at c6; exact c6
      refine lv_iconst (v := (-1)) hx hb dX11_doff_20 (by decide) ?_
      exact ret (-1) (v, f, w, g) _ _ _ _ _ _ rfl ⟨hM_v, hA_f, hIv, hCf, hRf, rfl, rfl, rfl, rfl, rfl, rfl, rfl, rfl, rfl, rfl, rfl, rfl, rfl, rfl, rfl, rfl, rfl, rfl⟩ hP hD hS dX11_doff_21 (Nat.le_refl _) (Nat.le_refl _)
  · skip
    subst g2
    refine lv_if_eq (tgt := 20) hx hb dX11_doff_5 (by decide) (fun _ => ?_) (fun c0 => absurd (by decide) c0)
    refine lv_iconst (v := (-1)) hx hb dX11_doff_20 (by decide) ?_
    exact ret (-1) (v, f, w, g) _ _ _ _ _ _ rfl ⟨hM_v, hA_f, hIv, hCf, hRf, rfl, rfl, rfl, rfl, rfl, rfl, rfl, rfl, rfl, rfl, rfl, rfl, rfl, rfl, rfl, rfl, rfl, rfl⟩ hP hD hS dX11_doff_21 (Nat.le_refl _) (Nat.le_refl _)
set_option maxHeartbeats 4000000 in
set_option maxRecDepth 100000 in
theorem sY_X11_letout_1 (l : Launch) (dC : Nat → ClassId) (dI : Nat → Nat → Nat) (cy : Nat → ClassId) (y0 : Nat) (r : Nat → Nat) (p1 : Int32) (p2 : Int32) (v : Nat → Int32) (f : Nat → Nat → Int32) (w : Int64) (g : Nat → Int64) (hIv : YI v) (hCf : YC f) (hRf : progOK (f 4) (f 5) (v 9).toInt.toNat)  : ctI l (dC, dI) cy yX11_letout cX11_letout 3 .int 3 103 0 0 ((Nat → Int32) × (Nat → Nat → Int32) × (Int64) × (Nat → Int64)) [.ref y0, .int p1, .int p2] (YW cy y0 r v f w g) (fun r u => KV [35, 36] u.1 v ∧ KF [23, 24, 25] u.2.1 f ∧ YI u.1 ∧ YC u.2.1 ∧ progOK (u.2.1 4) (u.2.1 5) (u.1 9).toInt.toNat ∧ u.1 0 = v 0 ∧ u.1 1 = v 1 ∧ u.1 2 = v 2 ∧ u.1 3 = v 3 ∧ u.1 4 = v 4 ∧ u.1 5 = v 5 ∧ u.1 8 = v 8 ∧ u.1 9 = v 9 ∧ u.1 10 = v 10 ∧ u.1 13 = v 13 ∧ u.1 14 = v 14 ∧ u.1 15 = v 15 ∧ u.1 17 = v 17 ∧ u.1 18 = v 18 ∧ u.1 24 = v 24 ∧ u.1 25 = v 25 ∧ u.1 38 = v 38 ∧ u.1 39 = v 39) (fun u => YW cy y0 r u.1 u.2.1 u.2.2.1 u.2.2.2) := by
  refine ctI_of (by decide) (Nat.le_of_ble_eq_true rfl) (fun p e s m below meth c A ls Q hx hb hml hts hown hE hP hD hA hl ret => ?_)
  have hUv : (v 35).toInt + (v 36).toInt ≤ 40 := hIv.2
  have hM_v : KV [35, 36] v v := fun _ _ => rfl
  have hA_f : KF [23, 24, 25] f f := fun _ _ => rfl
  have hown : s.vm.findClass RX11 = some m.cls := hown
  have hS : va_S A s.heap s.heap [] := va_S.rf
  have hl : lv_has ls 3 [(0, .ref y0), (1, .int p1), (2, .int p2)] := hl
  refine lv_aload_n hx hb dX11_letout_0 rfl (lv_at hl 0 rfl) ?_
  refine lv_iload_n hx hb dX11_letout_1 rfl (lv_at hl 1 rfl) ?_
  refine cbVi (n := 1) (rest := []) hx hb hml hown hts hE hP hD hS hA (sY_X11_isCoat_1 l dC dI cy y0 r p1 v f w g hIv hCf hRf ) k_1771 k_1773 k_75 k_114 k_1774 (by decide +kernel) ⟨Nat.le_of_ble_eq_true rfl, Nat.le_of_ble_eq_true rfl⟩ 0 11 rfl rfl (rfl) hl.1 rfl (Nat.le_of_ble_eq_true rfl) dX11_letout_2 (fun r1 u H locs hw hP hD hS => ?_)
  rcases hw with ⟨g2, g2_0, g2_1, g2_2⟩ | ⟨g2⟩
  · skip
    subst g2
    refine lv_if_eq (tgt := 41) hx hb dX11_letout_5 (by decide) (fun c0 => absurd c0 (by decide)) (fun _ => ?_)
    refine lv_iload_n hx hb dX11_letout_8 rfl (lv_at hl 2 rfl) ?_
    refine lv_iconst (v := 1) hx hb dX11_letout_9 (by decide) ?_
    refine lv_aload_n hx hb dX11_letout_10 rfl (lv_at hl 0 rfl) ?_
    refine va_get (D := (dC, dI)) (ci := 11) (v := .ref (r 59)) (C := RX11) (T := TX11) (N := 79) hx hb hts inB_11 hown hE.1 hP 0 rfl rfl 59 (by decide) (hts _ k_1379) (fun _ h9 => h9) rfl dX11_letout_11 ?_
    refine lv_bipush (v := 24) hx hb dX11_letout_14 (by decide) ?_
    refine lv_iload_n hx hb dX11_letout_16 rfl (lv_at hl 1 rfl) ?_
    refine lv_iadd hx hb dX11_letout_17 ?_
    refine lv_topi (fun t3 et3 => ?_)
    have rg4 := fb_rng p1
    have zt3 : t3.toInt = 24 + p1.toInt := by rw [et3]; exact add_i (by decide) rfl (by omega) (by omega)
    refine ldI hx hb hE hP 24 rfl (vp_in_iff.mpr ⟨by omega, by omega⟩) rfl rfl dX11_letout_18 ?_
    refine lv_topi (fun t5 et5 => ?_)
    have zt5 : t3.toInt.toNat % 39 < 6 ∨ 12 ≤ t3.toInt.toNat % 39 ∨ (-1 ≤ t5.toInt ∧ t5.toInt ≤ 5) := by rw [et5]; exact wear_ld hCf.1 (show t3.toInt.toNat < 39 by omega)
    have lt6 : (1 : Int32).toInt = 1 := by decide
    refine cbSi (n := 3) (rest := []) hx hb hml hown hts hE hP hD hS hA (sY_X11_isIn_1 0 l dC dI cy y0 r p2 1 t5 v f w g hIv hCf hRf ) k_1736 k_1737 k_114 k_1738 (by decide +kernel) ⟨Nat.le_of_ble_eq_true rfl, Nat.le_of_ble_eq_true rfl⟩ (rfl) hl.1 rfl (Nat.le_of_ble_eq_true rfl) dX11_letout_19 (fun r7 u H locs hw hP hD hS => ?_)
    obtain ⟨hG8, hw⟩ := hw
    rcases hw with ⟨g9, g9_0, g9_1⟩ | ⟨g9⟩
    · skip
      subst g9
      refine lv_if_eq (tgt := 41) hx hb dX11_letout_22 (by decide) (fun c0 => absurd c0 (by decide)) (fun _ => ?_)
      refine lv_aload_n hx hb dX11_letout_25 rfl (lv_at hl 0 rfl) ?_
      refine va_get (D := (dC, dI)) (ci := 11) (v := .ref (r 59)) (C := RX11) (T := TX11) (N := 79) hx hb hts inB_11 hown hE.1 hP 0 rfl rfl 59 (by decide) (hts _ k_1379) (fun _ h9 => h9) rfl dX11_letout_26 ?_
      refine lv_bipush (v := 18) hx hb dX11_letout_29 (by decide) ?_
      refine lv_iload_n hx hb dX11_letout_31 rfl (lv_at hl 1 rfl) ?_
      refine lv_iadd hx hb dX11_letout_32 ?_
      refine lv_topi (fun t10 et10 => ?_)
      have zt10 : t10.toInt = 18 + p1.toInt := by rw [et10]; exact add_i (by decide) rfl (by omega) (by omega)
      refine ldI hx hb hE hP 24 rfl (vp_in_iff.mpr ⟨by omega, by omega⟩) rfl rfl dX11_letout_33 ?_
      refine lv_topi (fun t11 et11 => ?_)
      have zt11 : t10.toInt.toNat % 39 < 6 ∨ 12 ≤ t10.toInt.toNat % 39 ∨ (-1 ≤ t11.toInt ∧ t11.toInt ≤ 5) := by rw [et11]; exact wear_ld hCf.1 (show t10.toInt.toNat < 39 by omega)
      refine lv_iload_n hx hb dX11_letout_34 rfl (lv_at hl 2 rfl) ?_
      refine lv_iadd hx hb dX11_letout_35 ?_
      refine lv_topi (fun t12 et12 => ?_)
      refine lv_bipush (v := 99) hx hb dX11_letout_36 (by decide) ?_
      refine lv_icmp_le (tgt := 43) hx hb dX11_letout_38 (by decide) (fun c13 => ?_) (fun c13 => ?_)
      · skip
        have zc13 : t12.toInt ≤ 99 := by rw [fa_le, show (99 : Int32).toInt = 99 from by decide] at c13; exact c13
        refine lv_aload_n hx hb dX11_letout_43 rfl (lv_at hl 0 rfl) ?_
        refine cbVv (n := 0) (rest := []) hx hb hml hown hts hE hP hD hS hA (sY_X11_act_1 l dC dI cy y0 r  v f w g hIv hCf hRf ) k_1787 k_1789 k_77 k_114 k_1790 (by decide +kernel) ⟨Nat.le_of_ble_eq_true rfl, Nat.le_of_ble_eq_true rfl⟩ 0 11 rfl rfl (rfl) hl.1 rfl (Nat.le_of_ble_eq_true rfl) dX11_letout_44 (fun u H locs hw hP hD hS => ?_)
        obtain ⟨v14, f15, w16, g17⟩ := u
        obtain ⟨kV_v14, kF_f15, hIv14, hCf15, hRf15, hk0_v14, hk1_v14, hk2_v14, hk3_v14, hk4_v14, hk5_v14, hk8_v14, hk9_v14, hk10_v14, hk13_v14, hk14_v14, hk15_v14, hk17_v14, hk18_v14, hk24_v14, hk25_v14, hk38_v14, hk39_v14⟩ := hw
        have hM_v14 : KV [35, 36] v14 v := KV.tr kV_v14 hM_v rfl
        have hA_f15 : KF [23, 24, 25] f15 f := KF.tr kF_f15 hA_f rfl
        have hP : va_P (dC, dI) vwCl (YW cy y0 r v14 f15 w16 g17) H := hP
        have hD : va_D A (YW cy y0 r v14 f15 w16 g17) := hD
        have hUv14 : (v14 35).toInt + (v14 36).toInt ≤ 40 := hIv14.2
        have hq9_v14 : v14 9 = (v 9) := hk9_v14
        have zq9_v14 := congrArg Int32.toInt hq9_v14
        refine lv_aload_n hx hb dX11_letout_47 rfl (lv_at hl 0 rfl) ?_
        refine va_get (D := (dC, dI)) (ci := 11) (v := .ref (r 59)) (C := RX11) (T := TX11) (N := 79) hx hb hts inB_11 hown hE.1 hP 0 rfl rfl 59 (by decide) (hts _ k_1379) (fun _ h9 => h9) rfl dX11_letout_48 ?_
        refine lv_bipush (v := 24) hx hb dX11_letout_51 (by decide) ?_
        refine lv_iload_n hx hb dX11_letout_53 rfl (lv_at hl 1 rfl) ?_
        refine lv_iadd hx hb dX11_letout_54 ?_
        refine tI (y := t3) et3.symm ?_
        refine lv_dup2_11 hx hb dX11_letout_55 rfl rfl ?_
        refine ldI hx hb hE hP 24 rfl (vp_in_iff.mpr ⟨by omega, by omega⟩) rfl rfl dX11_letout_56 ?_
        refine lv_topi (fun t18 et18 => ?_)
        have zt18 : t3.toInt.toNat % 39 < 6 ∨ 12 ≤ t3.toInt.toNat % 39 ∨ (-1 ≤ t18.toInt ∧ t18.toInt ≤ 5) := by rw [et18]; exact wear_ld hCf15.1 (show t3.toInt.toNat < 39 by omega)
        refine lv_iload_n hx hb dX11_letout_57 rfl (lv_at hl 2 rfl) ?_
        refine lv_isub hx hb dX11_letout_58 ?_
        refine lv_topi (fun t19 et19 => ?_)
        refine stI hx hb hE hP hD hS 24 rfl (vp_in_iff.mpr ⟨by omega, by omega⟩) rfl dX11_letout_59 (fun H locs hP hD hS => ?_)
        obtain ⟨f20, ef20, hP, hD⟩ : ∃ fz9, fz9 = upd2 f15 23 (upd (f15 23) t3.toNatClampNeg t19) ∧ va_P (dC, dI) vwCl (YW cy y0 r v14 fz9 w16 g17) H ∧ va_D A (YW cy y0 r v14 fz9 w16 g17) := ⟨_, rfl, hP, hD⟩
        have hCf20 : YC f20 := by rw [ef20]; exact ⟨(wear_st hCf15.1 (by show t3.toInt.toNat % 39 < 6 ∨ 12 ≤ t3.toInt.toNat % 39 ∨ (-1 ≤ t19.toInt ∧ t19.toInt ≤ 5); omega)), hCf15.2.1, hCf15.2.2.1, hCf15.2.2.2.1, hCf15.2.2.2.2.1, hCf15.2.2.2.2.2⟩
        have hRf20 : progOK (f20 4) (f20 5) (v14 9).toInt.toNat := by rw [ef20]; exact hRf15
        have hA_f20 : KF [23, 24, 25] f20 f := by rw [ef20]; exact KF.up hA_f15 rfl
        refine lv_aload_n hx hb dX11_letout_60 rfl (lv_at hl 0 rfl) ?_
        refine va_get (D := (dC, dI)) (ci := 11) (v := .ref (r 59)) (C := RX11) (T := TX11) (N := 79) hx hb hts inB_11 hown hE.1 hP 0 rfl rfl 59 (by decide) (hts _ k_1379) (fun _ h9 => h9) rfl dX11_letout_61 ?_
        refine lv_bipush (v := 18) hx hb dX11_letout_64 (by decide) ?_
        refine lv_iload_n hx hb dX11_letout_66 rfl (lv_at hl 1 rfl) ?_
        refine lv_iadd hx hb dX11_letout_67 ?_
        refine tI (y := t10) et10.symm ?_
        refine lv_dup2_11 hx hb dX11_letout_68 rfl rfl ?_
        refine ldI hx hb hE hP 24 rfl (vp_in_iff.mpr ⟨by omega, by omega⟩) rfl rfl dX11_letout_69 ?_
        refine lv_topi (fun t21 et21 => ?_)
        have zt21 : t10.toInt.toNat % 39 < 6 ∨ 12 ≤ t10.toInt.toNat % 39 ∨ (-1 ≤ t21.toInt ∧ t21.toInt ≤ 5) := by rw [et21]; exact wear_ld hCf20.1 (show t10.toInt.toNat < 39 by omega)
        refine lv_iload_n hx hb dX11_letout_70 rfl (lv_at hl 2 rfl) ?_
        refine lv_iadd hx hb dX11_letout_71 ?_
        refine lv_topi (fun t22 et22 => ?_)
        refine stI hx hb hE hP hD hS 24 rfl (vp_in_iff.mpr ⟨by omega, by omega⟩) rfl dX11_letout_72 (fun H locs hP hD hS => ?_)
        obtain ⟨f23, ef23, hP, hD⟩ : ∃ fz9, fz9 = upd2 f20 23 (upd (f20 23) t10.toNatClampNeg t22) ∧ va_P (dC, dI) vwCl (YW cy y0 r v14 fz9 w16 g17) H ∧ va_D A (YW cy y0 r v14 fz9 w16 g17) := ⟨_, rfl, hP, hD⟩
        have hCf23 : YC f23 := by rw [ef23]; exact ⟨(wear_st hCf20.1 (by show t10.toInt.toNat % 39 < 6 ∨ 12 ≤ t10.toInt.toNat % 39 ∨ (-1 ≤ t22.toInt ∧ t22.toInt ≤ 5); omega)), hCf20.2.1, hCf20.2.2.1, hCf20.2.2.2.1, hCf20.2.2.2.2.1, hCf20.2.2.2.2.2⟩
        have hRf23 : progOK (f23 4) (f23 5) (v14 9).toInt.toNat := by rw [ef23]; exact hRf20
        have hA_f23 : KF [23, 24, 25] f23 f := by rw [ef23]; exact KF.up hA_f20 rfl
        refine lv_aload_n hx hb dX11_letout_73 rfl (lv_at hl 0 rfl) ?_
        refine va_get (D := (dC, dI)) (ci := 11) (v := .ref (r 59)) (C := RX11) (T := TX11) (N := 79) hx hb hts inB_11 hown hE.1 hP 0 rfl rfl 59 (by decide) (hts _ k_1379) (fun _ h9 => h9) rfl dX11_letout_74 ?_
        refine lv_bipush (v := 18) hx hb dX11_letout_77 (by decide) ?_
        refine lv_iload_n hx hb dX11_letout_79 rfl (lv_at hl 1 rfl) ?_
        refine lv_iadd hx hb dX11_letout_80 ?_
        refine tI (y := t10) et10.symm ?_
        refine ldI hx hb hE hP 24 rfl (vp_in_iff.mpr ⟨by omega, by omega⟩) rfl rfl dX11_letout_81 ?_
        refine lv_topi (fun t24 et24 => ?_)
        have zt24 : t10.toInt.toNat % 39 < 6 ∨ 12 ≤ t10.toInt.toNat % 39 ∨ (-1 ≤ t24.toInt ∧ t24.toInt ≤ 5) := by rw [et24]; exact wear_ld hCf23.1 (show t10.toInt.toNat < 39 by omega)
        exact ret t24 (v14, f23, w16, g17) _ _ _ _ _ _ rfl ⟨hM_v14, hA_f23, hIv14, hCf23, hRf23, hk0_v14, hk1_v14, hk2_v14, hk3_v14, hk4_v14, hk5_v14, hk8_v14, hk9_v14, hk10_v14, hk13_v14, hk14_v14, hk15_v14, hk17_v14, hk18_v14, hk24_v14, hk25_v14, hk38_v14, hk39_v14⟩ hP hD hS dX11_letout_82 (Nat.le_refl _) (Nat.le_refl _)
      · skip
        have zc13 : ¬ (t12.toInt ≤ 99) := by rw [fa_le, show (99 : Int32).toInt = 99 from by decide] at c13; exact c13
        refine lv_iconst (v := (-1)) hx hb dX11_letout_41 (by decide) ?_
        exact ret (-1) (v, f, w, g) _ _ _ _ _ _ rfl ⟨hM_v, hA_f, hIv, hCf, hRf, rfl, rfl, rfl, rfl, rfl, rfl, rfl, rfl, rfl, rfl, rfl, rfl, rfl, rfl, rfl, rfl, rfl, rfl⟩ hP hD hS dX11_letout_42 (Nat.le_refl _) (Nat.le_refl _)
    · skip
      subst g9
      refine lv_if_eq (tgt := 41) hx hb dX11_letout_22 (by decide) (fun _ => ?_) (fun c0 => absurd (by decide) c0)
      refine lv_iconst (v := (-1)) hx hb dX11_letout_41 (by decide) ?_
      exact ret (-1) (v, f, w, g) _ _ _ _ _ _ rfl ⟨hM_v, hA_f, hIv, hCf, hRf, rfl, rfl, rfl, rfl, rfl, rfl, rfl, rfl, rfl, rfl, rfl, rfl, rfl, rfl, rfl, rfl, rfl, rfl⟩ hP hD hS dX11_letout_42 (Nat.le_refl _) (Nat.le_refl _)
  · skip
    subst g2
    refine lv_if_eq (tgt := 41) hx hb dX11_letout_5 (by decide) (fun _ => ?_) (fun c0 => absurd (by decide) c0)
    refine lv_iconst (v := (-1)) hx hb dX11_letout_41 (by decide) ?_
    exact ret (-1) (v, f, w, g) _ _ _ _ _ _ rfl ⟨hM_v, hA_f, hIv, hCf, hRf, rfl, rfl, rfl, rfl, rfl, rfl, rfl, rfl, rfl, rfl, rfl, rfl, rfl, rfl, rfl, rfl, rfl, rfl⟩ hP hD hS dX11_letout_42 (Nat.le_refl _) (Nat.le_refl _)
set_option maxHeartbeats 4000000 in
set_option maxRecDepth 100000 in
theorem sY_X11_takein_1 (l : Launch) (dC : Nat → ClassId) (dI : Nat → Nat → Nat) (cy : Nat → ClassId) (y0 : Nat) (r : Nat → Nat) (p1 : Int32) (p2 : Int32) (v : Nat → Int32) (f : Nat → Nat → Int32) (w : Int64) (g : Nat → Int64) (hIv : YI v) (hCf : YC f) (hRf : progOK (f 4) (f 5) (v 9).toInt.toNat)  : ctI l (dC, dI) cy yX11_takein cX11_takein 3 .int 3 103 0 0 ((Nat → Int32) × (Nat → Nat → Int32) × (Int64) × (Nat → Int64)) [.ref y0, .int p1, .int p2] (YW cy y0 r v f w g) (fun r u => KV [35, 36] u.1 v ∧ KF [23, 24, 25] u.2.1 f ∧ YI u.1 ∧ YC u.2.1 ∧ progOK (u.2.1 4) (u.2.1 5) (u.1 9).toInt.toNat ∧ u.1 0 = v 0 ∧ u.1 1 = v 1 ∧ u.1 2 = v 2 ∧ u.1 3 = v 3 ∧ u.1 4 = v 4 ∧ u.1 5 = v 5 ∧ u.1 8 = v 8 ∧ u.1 9 = v 9 ∧ u.1 10 = v 10 ∧ u.1 13 = v 13 ∧ u.1 14 = v 14 ∧ u.1 15 = v 15 ∧ u.1 17 = v 17 ∧ u.1 18 = v 18 ∧ u.1 24 = v 24 ∧ u.1 25 = v 25 ∧ u.1 38 = v 38 ∧ u.1 39 = v 39) (fun u => YW cy y0 r u.1 u.2.1 u.2.2.1 u.2.2.2) := by
  refine ctI_of (by decide) (Nat.le_of_ble_eq_true rfl) (fun p e s m below meth c A ls Q hx hb hml hts hown hE hP hD hA hl ret => ?_)
  have hUv : (v 35).toInt + (v 36).toInt ≤ 40 := hIv.2
  have hM_v : KV [35, 36] v v := fun _ _ => rfl
  have hA_f : KF [23, 24, 25] f f := fun _ _ => rfl
  have hown : s.vm.findClass RX11 = some m.cls := hown
  have hS : va_S A s.heap s.heap [] := va_S.rf
  have hl : lv_has ls 3 [(0, .ref y0), (1, .int p1), (2, .int p2)] := hl
  refine lv_aload_n hx hb dX11_takein_0 rfl (lv_at hl 0 rfl) ?_
  refine lv_iload_n hx hb dX11_takein_1 rfl (lv_at hl 1 rfl) ?_
  refine cbVi (n := 1) (rest := []) hx hb hml hown hts hE hP hD hS hA (sY_X11_isCoat_1 l dC dI cy y0 r p1 v f w g hIv hCf hRf ) k_1771 k_1773 k_75 k_114 k_1774 (by decide +kernel) ⟨Nat.le_of_ble_eq_true rfl, Nat.le_of_ble_eq_true rfl⟩ 0 11 rfl rfl (rfl) hl.1 rfl (Nat.le_of_ble_eq_true rfl) dX11_takein_2 (fun r1 u H locs hw hP hD hS => ?_)
  rcases hw with ⟨g2, g2_0, g2_1, g2_2⟩ | ⟨g2⟩
  · skip
    subst g2
    refine lv_if_eq (tgt := 41) hx hb dX11_takein_5 (by decide) (fun c0 => absurd c0 (by decide)) (fun _ => ?_)
    refine lv_iload_n hx hb dX11_takein_8 rfl (lv_at hl 2 rfl) ?_
    refine lv_iconst (v := 1) hx hb dX11_takein_9 (by decide) ?_
    refine lv_aload_n hx hb dX11_takein_10 rfl (lv_at hl 0 rfl) ?_
    refine va_get (D := (dC, dI)) (ci := 11) (v := .ref (r 59)) (C := RX11) (T := TX11) (N := 79) hx hb hts inB_11 hown hE.1 hP 0 rfl rfl 59 (by decide) (hts _ k_1379) (fun _ h9 => h9) rfl dX11_takein_11 ?_
    refine lv_bipush (v := 18) hx hb dX11_takein_14 (by decide) ?_
    refine lv_iload_n hx hb dX11_takein_16 rfl (lv_at hl 1 rfl) ?_
    refine lv_iadd hx hb dX11_takein_17 ?_
    refine lv_topi (fun t3 et3 => ?_)
    have rg4 := fb_rng p1
    have zt3 : t3.toInt = 18 + p1.toInt := by rw [et3]; exact add_i (by decide) rfl (by omega) (by omega)
    refine ldI hx hb hE hP 24 rfl (vp_in_iff.mpr ⟨by omega, by omega⟩) rfl rfl dX11_takein_18 ?_
    refine lv_topi (fun t5 et5 => ?_)
    have zt5 : t3.toInt.toNat % 39 < 6 ∨ 12 ≤ t3.toInt.toNat % 39 ∨ (-1 ≤ t5.toInt ∧ t5.toInt ≤ 5) := by rw [et5]; exact wear_ld hCf.1 (show t3.toInt.toNat < 39 by omega)
    have lt6 : (1 : Int32).toInt = 1 := by decide
    refine cbSi (n := 3) (rest := []) hx hb hml hown hts hE hP hD hS hA (sY_X11_isIn_1 0 l dC dI cy y0 r p2 1 t5 v f w g hIv hCf hRf ) k_1736 k_1737 k_114 k_1738 (by decide +kernel) ⟨Nat.le_of_ble_eq_true rfl, Nat.le_of_ble_eq_true rfl⟩ (rfl) hl.1 rfl (Nat.le_of_ble_eq_true rfl) dX11_takein_19 (fun r7 u H locs hw hP hD hS => ?_)
    obtain ⟨hG8, hw⟩ := hw
    rcases hw with ⟨g9, g9_0, g9_1⟩ | ⟨g9⟩
    · skip
      subst g9
      refine lv_if_eq (tgt := 41) hx hb dX11_takein_22 (by decide) (fun c0 => absurd c0 (by decide)) (fun _ => ?_)
      refine lv_aload_n hx hb dX11_takein_25 rfl (lv_at hl 0 rfl) ?_
      refine va_get (D := (dC, dI)) (ci := 11) (v := .ref (r 59)) (C := RX11) (T := TX11) (N := 79) hx hb hts inB_11 hown hE.1 hP 0 rfl rfl 59 (by decide) (hts _ k_1379) (fun _ h9 => h9) rfl dX11_takein_26 ?_
      refine lv_bipush (v := 24) hx hb dX11_takein_29 (by decide) ?_
      refine lv_iload_n hx hb dX11_takein_31 rfl (lv_at hl 1 rfl) ?_
      refine lv_iadd hx hb dX11_takein_32 ?_
      refine lv_topi (fun t10 et10 => ?_)
      have zt10 : t10.toInt = 24 + p1.toInt := by rw [et10]; exact add_i (by decide) rfl (by omega) (by omega)
      refine ldI hx hb hE hP 24 rfl (vp_in_iff.mpr ⟨by omega, by omega⟩) rfl rfl dX11_takein_33 ?_
      refine lv_topi (fun t11 et11 => ?_)
      have zt11 : t10.toInt.toNat % 39 < 6 ∨ 12 ≤ t10.toInt.toNat % 39 ∨ (-1 ≤ t11.toInt ∧ t11.toInt ≤ 5) := by rw [et11]; exact wear_ld hCf.1 (show t10.toInt.toNat < 39 by omega)
      refine lv_iload_n hx hb dX11_takein_34 rfl (lv_at hl 2 rfl) ?_
      refine lv_iadd hx hb dX11_takein_35 ?_
      refine lv_topi (fun t12 et12 => ?_)
      refine lv_bipush (v := 99) hx hb dX11_takein_36 (by decide) ?_
      refine lv_icmp_le (tgt := 43) hx hb dX11_takein_38 (by decide) (fun c13 => ?_) (fun c13 => ?_)
      · skip
        have zc13 : t12.toInt ≤ 99 := by rw [fa_le, show (99 : Int32).toInt = 99 from by decide] at c13; exact c13
        refine lv_aload_n hx hb dX11_takein_43 rfl (lv_at hl 0 rfl) ?_
        refine cbVv (n := 0) (rest := []) hx hb hml hown hts hE hP hD hS hA (sY_X11_act_1 l dC dI cy y0 r  v f w g hIv hCf hRf ) k_1787 k_1789 k_77 k_114 k_1790 (by decide +kernel) ⟨Nat.le_of_ble_eq_true rfl, Nat.le_of_ble_eq_true rfl⟩ 0 11 rfl rfl (rfl) hl.1 rfl (Nat.le_of_ble_eq_true rfl) dX11_takein_44 (fun u H locs hw hP hD hS => ?_)
        obtain ⟨v14, f15, w16, g17⟩ := u
        obtain ⟨kV_v14, kF_f15, hIv14, hCf15, hRf15, hk0_v14, hk1_v14, hk2_v14, hk3_v14, hk4_v14, hk5_v14, hk8_v14, hk9_v14, hk10_v14, hk13_v14, hk14_v14, hk15_v14, hk17_v14, hk18_v14, hk24_v14, hk25_v14, hk38_v14, hk39_v14⟩ := hw
        have hM_v14 : KV [35, 36] v14 v := KV.tr kV_v14 hM_v rfl
        have hA_f15 : KF [23, 24, 25] f15 f := KF.tr kF_f15 hA_f rfl
        have hP : va_P (dC, dI) vwCl (YW cy y0 r v14 f15 w16 g17) H := hP
        have hD : va_D A (YW cy y0 r v14 f15 w16 g17) := hD
        have hUv14 : (v14 35).toInt + (v14 36).toInt ≤ 40 := hIv14.2
        have hq9_v14 : v14 9 = (v 9) := hk9_v14
        have zq9_v14 := congrArg Int32.toInt hq9_v14
        refine lv_aload_n hx hb dX11_takein_47 rfl (lv_at hl 0 rfl) ?_
        refine va_get (D := (dC, dI)) (ci := 11) (v := .ref (r 59)) (C := RX11) (T := TX11) (N := 79) hx hb hts inB_11 hown hE.1 hP 0 rfl rfl 59 (by decide) (hts _ k_1379) (fun _ h9 => h9) rfl dX11_takein_48 ?_
        refine lv_bipush (v := 24) hx hb dX11_takein_51 (by decide) ?_
        refine lv_iload_n hx hb dX11_takein_53 rfl (lv_at hl 1 rfl) ?_
        refine lv_iadd hx hb dX11_takein_54 ?_
        refine tI (y := t10) et10.symm ?_
        refine lv_dup2_11 hx hb dX11_takein_55 rfl rfl ?_
        refine ldI hx hb hE hP 24 rfl (vp_in_iff.mpr ⟨by omega, by omega⟩) rfl rfl dX11_takein_56 ?_
        refine lv_topi (fun t18 et18 => ?_)
        have zt18 : t10.toInt.toNat % 39 < 6 ∨ 12 ≤ t10.toInt.toNat % 39 ∨ (-1 ≤ t18.toInt ∧ t18.toInt ≤ 5) := by rw [et18]; exact wear_ld hCf15.1 (show t10.toInt.toNat < 39 by omega)
        refine lv_iload_n hx hb dX11_takein_57 rfl (lv_at hl 2 rfl) ?_
        refine lv_iadd hx hb dX11_takein_58 ?_
        refine lv_topi (fun t19 et19 => ?_)
        refine stI hx hb hE hP hD hS 24 rfl (vp_in_iff.mpr ⟨by omega, by omega⟩) rfl dX11_takein_59 (fun H locs hP hD hS => ?_)
        obtain ⟨f20, ef20, hP, hD⟩ : ∃ fz9, fz9 = upd2 f15 23 (upd (f15 23) t10.toNatClampNeg t19) ∧ va_P (dC, dI) vwCl (YW cy y0 r v14 fz9 w16 g17) H ∧ va_D A (YW cy y0 r v14 fz9 w16 g17) := ⟨_, rfl, hP, hD⟩
        have hCf20 : YC f20 := by rw [ef20]; exact ⟨(wear_st hCf15.1 (by show t10.toInt.toNat % 39 < 6 ∨ 12 ≤ t10.toInt.toNat % 39 ∨ (-1 ≤ t19.toInt ∧ t19.toInt ≤ 5); omega)), hCf15.2.1, hCf15.2.2.1, hCf15.2.2.2.1, hCf15.2.2.2.2.1, hCf15.2.2.2.2.2⟩
        have hRf20 : progOK (f20 4) (f20 5) (v14 9).toInt.toNat := by rw [ef20]; exact hRf15
        have hA_f20 : KF [23, 24, 25] f20 f := by rw [ef20]; exact KF.up hA_f15 rfl
        refine lv_aload_n hx hb dX11_takein_60 rfl (lv_at hl 0 rfl) ?_
        refine va_get (D := (dC, dI)) (ci := 11) (v := .ref (r 59)) (C := RX11) (T := TX11) (N := 79) hx hb hts inB_11 hown hE.1 hP 0 rfl rfl 59 (by decide) (hts _ k_1379) (fun _ h9 => h9) rfl dX11_takein_61 ?_
        refine lv_bipush (v := 18) hx hb dX11_takein_64 (by decide) ?_
        refine lv_iload_n hx hb dX11_takein_66 rfl (lv_at hl 1 rfl) ?_
        refine lv_iadd hx hb dX11_takein_67 ?_
        refine tI (y := t3) et3.symm ?_
        refine lv_dup2_11 hx hb dX11_takein_68 rfl rfl ?_
        refine ldI hx hb hE hP 24 rfl (vp_in_iff.mpr ⟨by omega, by omega⟩) rfl rfl dX11_takein_69 ?_
        refine lv_topi (fun t21 et21 => ?_)
        have zt21 : t3.toInt.toNat % 39 < 6 ∨ 12 ≤ t3.toInt.toNat % 39 ∨ (-1 ≤ t21.toInt ∧ t21.toInt ≤ 5) := by rw [et21]; exact wear_ld hCf20.1 (show t3.toInt.toNat < 39 by omega)
        refine lv_iload_n hx hb dX11_takein_70 rfl (lv_at hl 2 rfl) ?_
        refine lv_isub hx hb dX11_takein_71 ?_
        refine lv_topi (fun t22 et22 => ?_)
        refine stI hx hb hE hP hD hS 24 rfl (vp_in_iff.mpr ⟨by omega, by omega⟩) rfl dX11_takein_72 (fun H locs hP hD hS => ?_)
        obtain ⟨f23, ef23, hP, hD⟩ : ∃ fz9, fz9 = upd2 f20 23 (upd (f20 23) t3.toNatClampNeg t22) ∧ va_P (dC, dI) vwCl (YW cy y0 r v14 fz9 w16 g17) H ∧ va_D A (YW cy y0 r v14 fz9 w16 g17) := ⟨_, rfl, hP, hD⟩
        have hCf23 : YC f23 := by rw [ef23]; exact ⟨(wear_st hCf20.1 (by show t3.toInt.toNat % 39 < 6 ∨ 12 ≤ t3.toInt.toNat % 39 ∨ (-1 ≤ t22.toInt ∧ t22.toInt ≤ 5); omega)), hCf20.2.1, hCf20.2.2.1, hCf20.2.2.2.1, hCf20.2.2.2.2.1, hCf20.2.2.2.2.2⟩
        have hRf23 : progOK (f23 4) (f23 5) (v14 9).toInt.toNat := by rw [ef23]; exact hRf20
        have hA_f23 : KF [23, 24, 25] f23 f := by rw [ef23]; exact KF.up hA_f20 rfl
        refine lv_aload_n hx hb dX11_takein_73 rfl (lv_at hl 0 rfl) ?_
        refine va_get (D := (dC, dI)) (ci := 11) (v := .ref (r 59)) (C := RX11) (T := TX11) (N := 79) hx hb hts inB_11 hown hE.1 hP 0 rfl rfl 59 (by decide) (hts _ k_1379) (fun _ h9 => h9) rfl dX11_takein_74 ?_
        refine lv_bipush (v := 18) hx hb dX11_takein_77 (by decide) ?_
        refine lv_iload_n hx hb dX11_takein_79 rfl (lv_at hl 1 rfl) ?_
        refine lv_iadd hx hb dX11_takein_80 ?_
        refine tI (y := t3) et3.symm ?_
        refine ldI hx hb hE hP 24 rfl (vp_in_iff.mpr ⟨by omega, by omega⟩) rfl rfl dX11_takein_81 ?_
        refine lv_topi (fun t24 et24 => ?_)
        have zt24 : t3.toInt.toNat % 39 < 6 ∨ 12 ≤ t3.toInt.toNat % 39 ∨ (-1 ≤ t24.toInt ∧ t24.toInt ≤ 5) := by rw [et24]; exact wear_ld hCf23.1 (show t3.toInt.toNat < 39 by omega)
        exact ret t24 (v14, f23, w16, g17) _ _ _ _ _ _ rfl ⟨hM_v14, hA_f23, hIv14, hCf23, hRf23, hk0_v14, hk1_v14, hk2_v14, hk3_v14, hk4_v14, hk5_v14, hk8_v14, hk9_v14, hk10_v14, hk13_v14, hk14_v14, hk15_v14, hk17_v14, hk18_v14, hk24_v14, hk25_v14, hk38_v14, hk39_v14⟩ hP hD hS dX11_takein_82 (Nat.le_refl _) (Nat.le_refl _)
      · skip
        have zc13 : ¬ (t12.toInt ≤ 99) := by rw [fa_le, show (99 : Int32).toInt = 99 from by decide] at c13; exact c13
        refine lv_iconst (v := (-1)) hx hb dX11_takein_41 (by decide) ?_
        exact ret (-1) (v, f, w, g) _ _ _ _ _ _ rfl ⟨hM_v, hA_f, hIv, hCf, hRf, rfl, rfl, rfl, rfl, rfl, rfl, rfl, rfl, rfl, rfl, rfl, rfl, rfl, rfl, rfl, rfl, rfl, rfl⟩ hP hD hS dX11_takein_42 (Nat.le_refl _) (Nat.le_refl _)
    · skip
      subst g9
      refine lv_if_eq (tgt := 41) hx hb dX11_takein_22 (by decide) (fun _ => ?_) (fun c0 => absurd (by decide) c0)
      refine lv_iconst (v := (-1)) hx hb dX11_takein_41 (by decide) ?_
      exact ret (-1) (v, f, w, g) _ _ _ _ _ _ rfl ⟨hM_v, hA_f, hIv, hCf, hRf, rfl, rfl, rfl, rfl, rfl, rfl, rfl, rfl, rfl, rfl, rfl, rfl, rfl, rfl, rfl, rfl, rfl, rfl⟩ hP hD hS dX11_takein_42 (Nat.le_refl _) (Nat.le_refl _)
  · skip
    subst g2
    refine lv_if_eq (tgt := 41) hx hb dX11_takein_5 (by decide) (fun _ => ?_) (fun c0 => absurd (by decide) c0)
    refine lv_iconst (v := (-1)) hx hb dX11_takein_41 (by decide) ?_
    exact ret (-1) (v, f, w, g) _ _ _ _ _ _ rfl ⟨hM_v, hA_f, hIv, hCf, hRf, rfl, rfl, rfl, rfl, rfl, rfl, rfl, rfl, rfl, rfl, rfl, rfl, rfl, rfl, rfl, rfl, rfl, rfl⟩ hP hD hS dX11_takein_42 (Nat.le_refl _) (Nat.le_refl _)
set_option maxHeartbeats 4000000 in
set_option maxRecDepth 100000 in
theorem sY_X11_hem_1 (l : Launch) (dC : Nat → ClassId) (dI : Nat → Nat → Nat) (cy : Nat → ClassId) (y0 : Nat) (r : Nat → Nat) (p1 : Int32) (p2 : Int32) (v : Nat → Int32) (f : Nat → Nat → Int32) (w : Int64) (g : Nat → Int64) (hIv : YI v) (hCf : YC f) (hRf : progOK (f 4) (f 5) (v 9).toInt.toNat)  : ctI l (dC, dI) cy yX11_hem cX11_hem 3 .int 3 103 0 0 ((Nat → Int32) × (Nat → Nat → Int32) × (Int64) × (Nat → Int64)) [.ref y0, .int p1, .int p2] (YW cy y0 r v f w g) (fun r u => KV [35, 36] u.1 v ∧ KF [23, 24, 25] u.2.1 f ∧ YI u.1 ∧ YC u.2.1 ∧ progOK (u.2.1 4) (u.2.1 5) (u.1 9).toInt.toNat ∧ u.1 0 = v 0 ∧ u.1 1 = v 1 ∧ u.1 2 = v 2 ∧ u.1 3 = v 3 ∧ u.1 4 = v 4 ∧ u.1 5 = v 5 ∧ u.1 8 = v 8 ∧ u.1 9 = v 9 ∧ u.1 10 = v 10 ∧ u.1 13 = v 13 ∧ u.1 14 = v 14 ∧ u.1 15 = v 15 ∧ u.1 17 = v 17 ∧ u.1 18 = v 18 ∧ u.1 24 = v 24 ∧ u.1 25 = v 25 ∧ u.1 38 = v 38 ∧ u.1 39 = v 39) (fun u => YW cy y0 r u.1 u.2.1 u.2.2.1 u.2.2.2) := by
  refine ctI_of (by decide) (Nat.le_of_ble_eq_true rfl) (fun p e s m below meth c A ls Q hx hb hml hts hown hE hP hD hA hl ret => ?_)
  have hUv : (v 35).toInt + (v 36).toInt ≤ 40 := hIv.2
  have hM_v : KV [35, 36] v v := fun _ _ => rfl
  have hA_f : KF [23, 24, 25] f f := fun _ _ => rfl
  have hown : s.vm.findClass RX11 = some m.cls := hown
  have hS : va_S A s.heap s.heap [] := va_S.rf
  have hl : lv_has ls 3 [(0, .ref y0), (1, .int p1), (2, .int p2)] := hl
  refine lv_aload_n hx hb dX11_hem_0 rfl (lv_at hl 0 rfl) ?_
  refine lv_iload_n hx hb dX11_hem_1 rfl (lv_at hl 1 rfl) ?_
  refine cbVi (n := 1) (rest := []) hx hb hml hown hts hE hP hD hS hA (sY_X11_isCoat_1 l dC dI cy y0 r p1 v f w g hIv hCf hRf ) k_1771 k_1773 k_75 k_114 k_1774 (by decide +kernel) ⟨Nat.le_of_ble_eq_true rfl, Nat.le_of_ble_eq_true rfl⟩ 0 11 rfl rfl (rfl) hl.1 rfl (Nat.le_of_ble_eq_true rfl) dX11_hem_2 (fun r1 u H locs hw hP hD hS => ?_)
  rcases hw with ⟨g2, g2_0, g2_1, g2_2⟩ | ⟨g2⟩
  · skip
    subst g2
    refine lv_if_eq (tgt := 25) hx hb dX11_hem_5 (by decide) (fun c0 => absurd c0 (by decide)) (fun _ => ?_)
    refine lv_iload_n hx hb dX11_hem_8 rfl (lv_at hl 2 rfl) ?_
    refine lv_iconst (v := 1) hx hb dX11_hem_9 (by decide) ?_
    refine lv_aload_n hx hb dX11_hem_10 rfl (lv_at hl 0 rfl) ?_
    refine va_get (D := (dC, dI)) (ci := 11) (v := .ref (r 59)) (C := RX11) (T := TX11) (N := 79) hx hb hts inB_11 hown hE.1 hP 0 rfl rfl 59 (by decide) (hts _ k_1379) (fun _ h9 => h9) rfl dX11_hem_11 ?_
    refine lv_bipush (v := 12) hx hb dX11_hem_14 (by decide) ?_
    refine lv_iload_n hx hb dX11_hem_16 rfl (lv_at hl 1 rfl) ?_
    refine lv_iadd hx hb dX11_hem_17 ?_
    refine lv_topi (fun t3 et3 => ?_)
    have rg4 := fb_rng p1
    have zt3 : t3.toInt = 12 + p1.toInt := by rw [et3]; exact add_i (by decide) rfl (by omega) (by omega)
    refine ldI hx hb hE hP 24 rfl (vp_in_iff.mpr ⟨by omega, by omega⟩) rfl rfl dX11_hem_18 ?_
    refine lv_topi (fun t5 et5 => ?_)
    have zt5 : t3.toInt.toNat % 39 < 6 ∨ 12 ≤ t3.toInt.toNat % 39 ∨ (-1 ≤ t5.toInt ∧ t5.toInt ≤ 5) := by rw [et5]; exact wear_ld hCf.1 (show t3.toInt.toNat < 39 by omega)
    have lt6 : (1 : Int32).toInt = 1 := by decide
    refine cbSi (n := 3) (rest := []) hx hb hml hown hts hE hP hD hS hA (sY_X11_isIn_1 0 l dC dI cy y0 r p2 1 t5 v f w g hIv hCf hRf ) k_1736 k_1737 k_114 k_1738 (by decide +kernel) ⟨Nat.le_of_ble_eq_true rfl, Nat.le_of_ble_eq_true rfl⟩ (rfl) hl.1 rfl (Nat.le_of_ble_eq_true rfl) dX11_hem_19 (fun r7 u H locs hw hP hD hS => ?_)
    obtain ⟨hG8, hw⟩ := hw
    rcases hw with ⟨g9, g9_0, g9_1⟩ | ⟨g9⟩
    · skip
      subst g9
      refine lv_if_ne (tgt := 27) hx hb dX11_hem_22 (by decide) (fun _ => ?_) (fun c0 => absurd c0 (by decide))
      refine lv_aload_n hx hb dX11_hem_27 rfl (lv_at hl 0 rfl) ?_
      refine cbVv (n := 0) (rest := []) hx hb hml hown hts hE hP hD hS hA (sY_X11_act_1 l dC dI cy y0 r  v f w g hIv hCf hRf ) k_1787 k_1789 k_77 k_114 k_1790 (by decide +kernel) ⟨Nat.le_of_ble_eq_true rfl, Nat.le_of_ble_eq_true rfl⟩ 0 11 rfl rfl (rfl) hl.1 rfl (Nat.le_of_ble_eq_true rfl) dX11_hem_28 (fun u H locs hw hP hD hS => ?_)
      obtain ⟨v10, f11, w12, g13⟩ := u
      obtain ⟨kV_v10, kF_f11, hIv10, hCf11, hRf11, hk0_v10, hk1_v10, hk2_v10, hk3_v10, hk4_v10, hk5_v10, hk8_v10, hk9_v10, hk10_v10, hk13_v10, hk14_v10, hk15_v10, hk17_v10, hk18_v10, hk24_v10, hk25_v10, hk38_v10, hk39_v10⟩ := hw
      have hM_v10 : KV [35, 36] v10 v := KV.tr kV_v10 hM_v rfl
      have hA_f11 : KF [23, 24, 25] f11 f := KF.tr kF_f11 hA_f rfl
      have hP : va_P (dC, dI) vwCl (YW cy y0 r v10 f11 w12 g13) H := hP
      have hD : va_D A (YW cy y0 r v10 f11 w12 g13) := hD
      have hUv10 : (v10 35).toInt + (v10 36).toInt ≤ 40 := hIv10.2
      have hq9_v10 : v10 9 = (v 9) := hk9_v10
      have zq9_v10 := congrArg Int32.toInt hq9_v10
      refine lv_aload_n hx hb dX11_hem_31 rfl (lv_at hl 0 rfl) ?_
      refine va_get (D := (dC, dI)) (ci := 11) (v := .ref (r 59)) (C := RX11) (T := TX11) (N := 79) hx hb hts inB_11 hown hE.1 hP 0 rfl rfl 59 (by decide) (hts _ k_1379) (fun _ h9 => h9) rfl dX11_hem_32 ?_
      refine lv_bipush (v := 12) hx hb dX11_hem_35 (by decide) ?_
      refine lv_iload_n hx hb dX11_hem_37 rfl (lv_at hl 1 rfl) ?_
      refine lv_iadd hx hb dX11_hem_38 ?_
      refine tI (y := t3) et3.symm ?_
      refine lv_dup2_11 hx hb dX11_hem_39 rfl rfl ?_
      refine ldI hx hb hE hP 24 rfl (vp_in_iff.mpr ⟨by omega, by omega⟩) rfl rfl dX11_hem_40 ?_
      refine lv_topi (fun t14 et14 => ?_)
      have zt14 : t3.toInt.toNat % 39 < 6 ∨ 12 ≤ t3.toInt.toNat % 39 ∨ (-1 ≤ t14.toInt ∧ t14.toInt ≤ 5) := by rw [et14]; exact wear_ld hCf11.1 (show t3.toInt.toNat < 39 by omega)
      refine lv_iload_n hx hb dX11_hem_41 rfl (lv_at hl 2 rfl) ?_
      refine lv_isub hx hb dX11_hem_42 ?_
      refine lv_topi (fun t15 et15 => ?_)
      refine stI hx hb hE hP hD hS 24 rfl (vp_in_iff.mpr ⟨by omega, by omega⟩) rfl dX11_hem_43 (fun H locs hP hD hS => ?_)
      obtain ⟨f16, ef16, hP, hD⟩ : ∃ fz9, fz9 = upd2 f11 23 (upd (f11 23) t3.toNatClampNeg t15) ∧ va_P (dC, dI) vwCl (YW cy y0 r v10 fz9 w12 g13) H ∧ va_D A (YW cy y0 r v10 fz9 w12 g13) := ⟨_, rfl, hP, hD⟩
      have hCf16 : YC f16 := by rw [ef16]; exact ⟨(wear_st hCf11.1 (by show t3.toInt.toNat % 39 < 6 ∨ 12 ≤ t3.toInt.toNat % 39 ∨ (-1 ≤ t15.toInt ∧ t15.toInt ≤ 5); omega)), hCf11.2.1, hCf11.2.2.1, hCf11.2.2.2.1, hCf11.2.2.2.2.1, hCf11.2.2.2.2.2⟩
      have hRf16 : progOK (f16 4) (f16 5) (v10 9).toInt.toNat := by rw [ef16]; exact hRf11
      have hA_f16 : KF [23, 24, 25] f16 f := by rw [ef16]; exact KF.up hA_f11 rfl
      refine lv_aload_n hx hb dX11_hem_44 rfl (lv_at hl 0 rfl) ?_
      refine va_get (D := (dC, dI)) (ci := 11) (v := .ref (r 59)) (C := RX11) (T := TX11) (N := 79) hx hb hts inB_11 hown hE.1 hP 0 rfl rfl 59 (by decide) (hts _ k_1379) (fun _ h9 => h9) rfl dX11_hem_45 ?_
      refine lv_bipush (v := 12) hx hb dX11_hem_48 (by decide) ?_
      refine lv_iload_n hx hb dX11_hem_50 rfl (lv_at hl 1 rfl) ?_
      refine lv_iadd hx hb dX11_hem_51 ?_
      refine tI (y := t3) et3.symm ?_
      refine ldI hx hb hE hP 24 rfl (vp_in_iff.mpr ⟨by omega, by omega⟩) rfl rfl dX11_hem_52 ?_
      refine lv_topi (fun t17 et17 => ?_)
      have zt17 : t3.toInt.toNat % 39 < 6 ∨ 12 ≤ t3.toInt.toNat % 39 ∨ (-1 ≤ t17.toInt ∧ t17.toInt ≤ 5) := by rw [et17]; exact wear_ld hCf16.1 (show t3.toInt.toNat < 39 by omega)
      exact ret t17 (v10, f16, w12, g13) _ _ _ _ _ _ rfl ⟨hM_v10, hA_f16, hIv10, hCf16, hRf16, hk0_v10, hk1_v10, hk2_v10, hk3_v10, hk4_v10, hk5_v10, hk8_v10, hk9_v10, hk10_v10, hk13_v10, hk14_v10, hk15_v10, hk17_v10, hk18_v10, hk24_v10, hk25_v10, hk38_v10, hk39_v10⟩ hP hD hS dX11_hem_53 (Nat.le_refl _) (Nat.le_refl _)
    · skip
      subst g9
      refine lv_if_ne (tgt := 27) hx hb dX11_hem_22 (by decide) (fun c0 => absurd (by decide) c0) (fun _ => ?_)
      refine lv_iconst (v := (-1)) hx hb dX11_hem_25 (by decide) ?_
      exact ret (-1) (v, f, w, g) _ _ _ _ _ _ rfl ⟨hM_v, hA_f, hIv, hCf, hRf, rfl, rfl, rfl, rfl, rfl, rfl, rfl, rfl, rfl, rfl, rfl, rfl, rfl, rfl, rfl, rfl, rfl, rfl⟩ hP hD hS dX11_hem_26 (Nat.le_refl _) (Nat.le_refl _)
  · skip
    subst g2
    refine lv_if_eq (tgt := 25) hx hb dX11_hem_5 (by decide) (fun _ => ?_) (fun c0 => absurd (by decide) c0)
    refine lv_iconst (v := (-1)) hx hb dX11_hem_25 (by decide) ?_
    exact ret (-1) (v, f, w, g) _ _ _ _ _ _ rfl ⟨hM_v, hA_f, hIv, hCf, hRf, rfl, rfl, rfl, rfl, rfl, rfl, rfl, rfl, rfl, rfl, rfl, rfl, rfl, rfl, rfl, rfl, rfl, rfl⟩ hP hD hS dX11_hem_26 (Nat.le_refl _) (Nat.le_refl _)
set_option maxHeartbeats 4000000 in
set_option maxRecDepth 100000 in
theorem sY_X11_turn_1 (l : Launch) (dC : Nat → ClassId) (dI : Nat → Nat → Nat) (cy : Nat → ClassId) (y0 : Nat) (r : Nat → Nat) (p1 : Int32) (v : Nat → Int32) (f : Nat → Nat → Int32) (w : Int64) (g : Nat → Int64) (hIv : YI v) (hCf : YC f) (hRf : progOK (f 4) (f 5) (v 9).toInt.toNat)  : ctI l (dC, dI) cy yX11_turn cX11_turn 3 .int 3 103 0 0 ((Nat → Int32) × (Nat → Nat → Int32) × (Int64) × (Nat → Int64)) [.ref y0, .int p1] (YW cy y0 r v f w g) (fun r u => KV [35, 36] u.1 v ∧ KF [23, 24, 25] u.2.1 f ∧ YI u.1 ∧ YC u.2.1 ∧ progOK (u.2.1 4) (u.2.1 5) (u.1 9).toInt.toNat ∧ u.1 0 = v 0 ∧ u.1 1 = v 1 ∧ u.1 2 = v 2 ∧ u.1 3 = v 3 ∧ u.1 4 = v 4 ∧ u.1 5 = v 5 ∧ u.1 8 = v 8 ∧ u.1 9 = v 9 ∧ u.1 10 = v 10 ∧ u.1 13 = v 13 ∧ u.1 14 = v 14 ∧ u.1 15 = v 15 ∧ u.1 17 = v 17 ∧ u.1 18 = v 18 ∧ u.1 24 = v 24 ∧ u.1 25 = v 25 ∧ u.1 38 = v 38 ∧ u.1 39 = v 39) (fun u => YW cy y0 r u.1 u.2.1 u.2.2.1 u.2.2.2) := by
  refine ctI_of (by decide) (Nat.le_of_ble_eq_true rfl) (fun p e s m below meth c A ls Q hx hb hml hts hown hE hP hD hA hl ret => ?_)
  have hUv : (v 35).toInt + (v 36).toInt ≤ 40 := hIv.2
  have hM_v : KV [35, 36] v v := fun _ _ => rfl
  have hA_f : KF [23, 24, 25] f f := fun _ _ => rfl
  have hown : s.vm.findClass RX11 = some m.cls := hown
  have hS : va_S A s.heap s.heap [] := va_S.rf
  have hl : lv_has ls 3 [(0, .ref y0), (1, .int p1)] := hl
  refine lv_aload_n hx hb dX11_turn_0 rfl (lv_at hl 0 rfl) ?_
  refine lv_iload_n hx hb dX11_turn_1 rfl (lv_at hl 1 rfl) ?_
  refine cbVi (n := 1) (rest := []) hx hb hml hown hts hE hP hD hS hA (sY_X11_isCoat_1 l dC dI cy y0 r p1 v f w g hIv hCf hRf ) k_1771 k_1773 k_75 k_114 k_1774 (by decide +kernel) ⟨Nat.le_of_ble_eq_true rfl, Nat.le_of_ble_eq_true rfl⟩ 0 11 rfl rfl (rfl) hl.1 rfl (Nat.le_of_ble_eq_true rfl) dX11_turn_2 (fun r1 u H locs hw hP hD hS => ?_)
  rcases hw with ⟨g2, g2_0, g2_1, g2_2⟩ | ⟨g2⟩
  · skip
    subst g2
    refine lv_if_eq (tgt := 23) hx hb dX11_turn_5 (by decide) (fun c0 => absurd c0 (by decide)) (fun _ => ?_)
    refine lv_aload_n hx hb dX11_turn_8 rfl (lv_at hl 0 rfl) ?_
    refine va_get (D := (dC, dI)) (ci := 11) (v := .ref (r 59)) (C := RX11) (T := TX11) (N := 79) hx hb hts inB_11 hown hE.1 hP 0 rfl rfl 59 (by decide) (hts _ k_1379) (fun _ h9 => h9) rfl dX11_turn_9 ?_
    refine lv_bipush (v := 36) hx hb dX11_turn_12 (by decide) ?_
    refine ldI hx hb hE hP 24 rfl (vp_in_nI (n := 36) (by decide) (by decide)) rfl rfl dX11_turn_14 ?_
    refine lv_topi (fun t3 et3 => ?_)
    have zt3 : 36 % 39 < 6 ∨ 12 ≤ 36 % 39 ∨ (-1 ≤ t3.toInt ∧ t3.toInt ≤ 5) := by rw [et3]; exact wear_ld hCf.1 (show 36 < 39 by omega)
    refine lv_iload_n hx hb dX11_turn_15 rfl (lv_at hl 1 rfl) ?_
    refine lv_ishr hx hb dX11_turn_16 ?_
    refine lv_topi (fun t4 et4 => ?_)
    refine lv_iconst (v := 1) hx hb dX11_turn_17 (by decide) ?_
    refine lv_iand hx hb dX11_turn_18 ?_
    refine lv_topi (fun t5 et5 => ?_)
    have zt5 : 0 ≤ t5.toInt ∧ t5.toInt < 2 := by rw [et5]; exact and_rng _ (k := 1) (by decide) (by decide)
    refine lv_iconst (v := 1) hx hb dX11_turn_19 (by decide) ?_
    refine lv_icmp_ne (tgt := 25) hx hb dX11_turn_20 (by decide) (fun c6 => ?_) (fun c6 => ?_)
    · skip
      have zc6 : ¬ (t5.toInt = 1) := by rw [fa_eq, show (1 : Int32).toInt = 1 from by decide] at c6; exact c6
      refine lv_aload_n hx hb dX11_turn_25 rfl (lv_at hl 0 rfl) ?_
      refine cbVv (n := 0) (rest := []) hx hb hml hown hts hE hP hD hS hA (sY_X11_act_1 l dC dI cy y0 r  v f w g hIv hCf hRf ) k_1787 k_1789 k_77 k_114 k_1790 (by decide +kernel) ⟨Nat.le_of_ble_eq_true rfl, Nat.le_of_ble_eq_true rfl⟩ 0 11 rfl rfl (rfl) hl.1 rfl (Nat.le_of_ble_eq_true rfl) dX11_turn_26 (fun u H locs hw hP hD hS => ?_)
      obtain ⟨v7, f8, w9, g10⟩ := u
      obtain ⟨kV_v7, kF_f8, hIv7, hCf8, hRf8, hk0_v7, hk1_v7, hk2_v7, hk3_v7, hk4_v7, hk5_v7, hk8_v7, hk9_v7, hk10_v7, hk13_v7, hk14_v7, hk15_v7, hk17_v7, hk18_v7, hk24_v7, hk25_v7, hk38_v7, hk39_v7⟩ := hw
      have hM_v7 : KV [35, 36] v7 v := KV.tr kV_v7 hM_v rfl
      have hA_f8 : KF [23, 24, 25] f8 f := KF.tr kF_f8 hA_f rfl
      have hP : va_P (dC, dI) vwCl (YW cy y0 r v7 f8 w9 g10) H := hP
      have hD : va_D A (YW cy y0 r v7 f8 w9 g10) := hD
      have hUv7 : (v7 35).toInt + (v7 36).toInt ≤ 40 := hIv7.2
      have hq9_v7 : v7 9 = (v 9) := hk9_v7
      have zq9_v7 := congrArg Int32.toInt hq9_v7
      refine lv_aload_n hx hb dX11_turn_29 rfl (lv_at hl 0 rfl) ?_
      refine va_get (D := (dC, dI)) (ci := 11) (v := .ref (r 59)) (C := RX11) (T := TX11) (N := 79) hx hb hts inB_11 hown hE.1 hP 0 rfl rfl 59 (by decide) (hts _ k_1379) (fun _ h9 => h9) rfl dX11_turn_30 ?_
      refine lv_bipush (v := 30) hx hb dX11_turn_33 (by decide) ?_
      refine lv_iload_n hx hb dX11_turn_35 rfl (lv_at hl 1 rfl) ?_
      refine lv_iadd hx hb dX11_turn_36 ?_
      refine lv_topi (fun t11 et11 => ?_)
      have rg12 := fb_rng p1
      have zt11 : t11.toInt = 30 + p1.toInt := by rw [et11]; exact add_i (by decide) rfl (by omega) (by omega)
      refine ldI hx hb hE hP 24 rfl (vp_in_iff.mpr ⟨by omega, by omega⟩) rfl rfl dX11_turn_37 ?_
      refine lv_topi (fun t13 et13 => ?_)
      have zt13 : t11.toInt.toNat % 39 < 6 ∨ 12 ≤ t11.toInt.toNat % 39 ∨ (-1 ≤ t13.toInt ∧ t13.toInt ≤ 5) := by rw [et13]; exact wear_ld hCf8.1 (show t11.toInt.toNat < 39 by omega)
      refine lv_istore_n (lv' := [(2, .int t13), (0, .ref y0), (1, .int p1)]) hx hb dX11_turn_38 rfl hl (by decide) rfl (fun ls hl => ?_)
      refine lv_aload_n hx hb dX11_turn_39 rfl (lv_at hl 1 rfl) ?_
      refine va_get (D := (dC, dI)) (ci := 11) (v := .ref (r 59)) (C := RX11) (T := TX11) (N := 79) hx hb hts inB_11 hown hE.1 hP 0 rfl rfl 59 (by decide) (hts _ k_1379) (fun _ h9 => h9) rfl dX11_turn_40 ?_
      refine lv_bipush (v := 30) hx hb dX11_turn_43 (by decide) ?_
      refine lv_iload_n hx hb dX11_turn_45 rfl (lv_at hl 2 rfl) ?_
      refine lv_iadd hx hb dX11_turn_46 ?_
      refine tI (y := t11) et11.symm ?_
      refine lv_iconst (v := 0) hx hb dX11_turn_47 (by decide) ?_
      refine stI hx hb hE hP hD hS 24 rfl (vp_in_iff.mpr ⟨by omega, by omega⟩) rfl dX11_turn_48 (fun H locs hP hD hS => ?_)
      obtain ⟨f14, ef14, hP, hD⟩ : ∃ fz9, fz9 = upd2 f8 23 (upd (f8 23) t11.toNatClampNeg 0) ∧ va_P (dC, dI) vwCl (YW cy y0 r v7 fz9 w9 g10) H ∧ va_D A (YW cy y0 r v7 fz9 w9 g10) := ⟨_, rfl, hP, hD⟩
      have hCf14 : YC f14 := by rw [ef14]; exact ⟨(wear_st hCf8.1 (by have q9 : (0 : Int32).toInt = 0 := (by decide); show t11.toInt.toNat % 39 < 6 ∨ 12 ≤ t11.toInt.toNat % 39 ∨ (-1 ≤ (0 : Int32).toInt ∧ (0 : Int32).toInt ≤ 5); omega)), hCf8.2.1, hCf8.2.2.1, hCf8.2.2.2.1, hCf8.2.2.2.2.1, hCf8.2.2.2.2.2⟩
      have hRf14 : progOK (f14 4) (f14 5) (v7 9).toInt.toNat := by rw [ef14]; exact hRf8
      have hA_f14 : KF [23, 24, 25] f14 f := by rw [ef14]; exact KF.up hA_f8 rfl
      refine lv_aload_n hx hb dX11_turn_49 rfl (lv_at hl 1 rfl) ?_
      refine va_get (D := (dC, dI)) (ci := 11) (v := .ref (r 59)) (C := RX11) (T := TX11) (N := 79) hx hb hts inB_11 hown hE.1 hP 0 rfl rfl 59 (by decide) (hts _ k_1379) (fun _ h9 => h9) rfl dX11_turn_50 ?_
      refine lv_bipush (v := 36) hx hb dX11_turn_53 (by decide) ?_
      refine lv_dup2_11 hx hb dX11_turn_55 rfl rfl ?_
      refine ldI hx hb hE hP 24 rfl (vp_in_nI (n := 36) (by decide) (by decide)) rfl rfl dX11_turn_56 ?_
      refine lv_topi (fun t15 et15 => ?_)
      have zt15 : 36 % 39 < 6 ∨ 12 ≤ 36 % 39 ∨ (-1 ≤ t15.toInt ∧ t15.toInt ≤ 5) := by rw [et15]; exact wear_ld hCf14.1 (show 36 < 39 by omega)
      refine lv_iconst (v := 1) hx hb dX11_turn_57 (by decide) ?_
      refine lv_iload_n hx hb dX11_turn_58 rfl (lv_at hl 2 rfl) ?_
      refine lv_ishl hx hb dX11_turn_59 ?_
      refine lv_topi (fun t16 et16 => ?_)
      have zt16 : 1 ≤ t16.toInt ∧ t16.toInt ≤ 32 := by rw [et16]; exact shl1_rng (by omega) (by omega)
      refine lv_ior hx hb dX11_turn_60 ?_
      refine lv_topi (fun t17 et17 => ?_)
      refine stI hx hb hE hP hD hS 24 rfl (vp_in_nI (n := 36) (by decide) (by decide)) rfl dX11_turn_61 (fun H locs hP hD hS => ?_)
      obtain ⟨f18, ef18, hP, hD⟩ : ∃ fz9, fz9 = upd2 f14 23 (upd (f14 23) (36 : Int32).toNatClampNeg t17) ∧ va_P (dC, dI) vwCl (YW cy y0 r v7 fz9 w9 g10) H ∧ va_D A (YW cy y0 r v7 fz9 w9 g10) := ⟨_, rfl, hP, hD⟩
      have hCf18 : YC f18 := by rw [ef18]; exact ⟨(wear_st hCf14.1 (by show 36 % 39 < 6 ∨ 12 ≤ 36 % 39 ∨ (-1 ≤ t17.toInt ∧ t17.toInt ≤ 5); omega)), hCf14.2.1, hCf14.2.2.1, hCf14.2.2.2.1, hCf14.2.2.2.2.1, hCf14.2.2.2.2.2⟩
      have hRf18 : progOK (f18 4) (f18 5) (v7 9).toInt.toNat := by rw [ef18]; exact hRf14
      have hA_f18 : KF [23, 24, 25] f18 f := by rw [ef18]; exact KF.up hA_f14 rfl
      refine lv_iload_n hx hb dX11_turn_62 rfl (lv_at hl 0 rfl) ?_
      exact ret t13 (v7, f18, w9, g10) _ _ _ _ _ _ rfl ⟨hM_v7, hA_f18, hIv7, hCf18, hRf18, hk0_v7, hk1_v7, hk2_v7, hk3_v7, hk4_v7, hk5_v7, hk8_v7, hk9_v7, hk10_v7, hk13_v7, hk14_v7, hk15_v7, hk17_v7, hk18_v7, hk24_v7, hk25_v7, hk38_v7, hk39_v7⟩ hP hD hS dX11_turn_63 (Nat.le_refl _) (Nat.le_refl _)
    · skip
      have zc6 : t5.toInt = 1 := by rw [fa_eq, show (1 : Int32).toInt = 1 from by decide] at c6; exact c6
      refine lv_iconst (v := (-1)) hx hb dX11_turn_23 (by decide) ?_
      exact ret (-1) (v, f, w, g) _ _ _ _ _ _ rfl ⟨hM_v, hA_f, hIv, hCf, hRf, rfl, rfl, rfl, rfl, rfl, rfl, rfl, rfl, rfl, rfl, rfl, rfl, rfl, rfl, rfl, rfl, rfl, rfl⟩ hP hD hS dX11_turn_24 (Nat.le_refl _) (Nat.le_refl _)
  · skip
    subst g2
    refine lv_if_eq (tgt := 23) hx hb dX11_turn_5 (by decide) (fun _ => ?_) (fun c0 => absurd (by decide) c0)
    refine lv_iconst (v := (-1)) hx hb dX11_turn_23 (by decide) ?_
    exact ret (-1) (v, f, w, g) _ _ _ _ _ _ rfl ⟨hM_v, hA_f, hIv, hCf, hRf, rfl, rfl, rfl, rfl, rfl, rfl, rfl, rfl, rfl, rfl, rfl, rfl, rfl, rfl, rfl, rfl, rfl, rfl⟩ hP hD hS dX11_turn_24 (Nat.le_refl _) (Nat.le_refl _)
set_option maxHeartbeats 4000000 in
set_option maxRecDepth 100000 in
theorem sY_X11_exchange_1 (l : Launch) (dC : Nat → ClassId) (dI : Nat → Nat → Nat) (cy : Nat → ClassId) (y0 : Nat) (r : Nat → Nat) (p1 : Int32) (v : Nat → Int32) (f : Nat → Nat → Int32) (w : Int64) (g : Nat → Int64) (hIv : YI v) (hCf : YC f) (hRf : progOK (f 4) (f 5) (v 9).toInt.toNat) (hp1 : (0 : Int) ≤ p1.toInt ∧ p1.toInt ≤ 1521) (hf0 : p1.toInt % 39 = 0) : ctV l (dC, dI) cy yX11_exchange cX11_exchange 4 1 60 0 0 ((Nat → Int32) × (Nat → Nat → Int32) × (Int64) × (Nat → Int64)) [.ref y0, .int p1] (YW cy y0 r v f w g) (fun u => KV [] u.1 v ∧ KF [23, 25] u.2.1 f ∧ YI u.1 ∧ YC u.2.1 ∧ progOK (u.2.1 4) (u.2.1 5) (u.1 9).toInt.toNat ∧ u.1 0 = v 0 ∧ u.1 1 = v 1 ∧ u.1 2 = v 2 ∧ u.1 3 = v 3 ∧ u.1 4 = v 4 ∧ u.1 5 = v 5 ∧ u.1 8 = v 8 ∧ u.1 9 = v 9 ∧ u.1 10 = v 10 ∧ u.1 13 = v 13 ∧ u.1 14 = v 14 ∧ u.1 15 = v 15 ∧ u.1 17 = v 17 ∧ u.1 18 = v 18 ∧ u.1 24 = v 24 ∧ u.1 25 = v 25 ∧ u.1 35 = v 35 ∧ u.1 36 = v 36 ∧ u.1 38 = v 38 ∧ u.1 39 = v 39) (fun u => YW cy y0 r u.1 u.2.1 u.2.2.1 u.2.2.2) := by
  refine ctV_of (by decide) (Nat.le_of_ble_eq_true rfl) (fun p e s m below meth c A ls Q hx hb hml hts hown hnm hE hP hD hA hl ret => ?_)
  have hUv : (v 35).toInt + (v 36).toInt ≤ 40 := hIv.2
  have hM_v : KV [] v v := fun _ _ => rfl
  have hA_f : KF [23, 25] f f := fun _ _ => rfl
  have hown : s.vm.findClass RX11 = some m.cls := hown
  have hS : va_S A s.heap s.heap [] := va_S.rf
  have hl : lv_has ls 4 [(0, .ref y0), (1, .int p1)] := hl
  refine lv_iconst (v := 0) hx hb dX11_exchange_0 (by decide) ?_
  refine lv_istore_n (lv' := [(2, .int 0), (0, .ref y0), (1, .int p1)]) hx hb dX11_exchange_1 rfl hl (by decide) rfl (fun ls hl => ?_)
  have lp1 : ∀ (n1 : Nat) (l2_1 : Int32) (v1 : Nat → Int32) (f1 : Nat → Nat → Int32) (w1 : Int64) (g1 : Nat → Int64), YI v1 → YC f1 → progOK (f1 4) (f1 5) (v1 9).toInt.toNat → v1 0 = (v 0) → v1 1 = (v 1) → v1 2 = (v 2) → v1 3 = (v 3) → v1 4 = (v 4) → v1 5 = (v 5) → v1 8 = (v 8) → v1 9 = (v 9) → v1 10 = (v 10) → v1 13 = (v 13) → v1 14 = (v 14) → v1 15 = (v 15) → v1 17 = (v 17) → v1 18 = (v 18) → v1 24 = (v 24) → v1 25 = (v 25) → v1 35 = (v 35) → v1 36 = (v 36) → v1 38 = (v 38) → v1 39 = (v 39) → ((0 : Int) ≤ l2_1.toInt ∧ l2_1.toInt ≤ 2147483647) → KV [] v1 v → KF [23, 25] f1 f → (2147483647 - l2_1.toInt).toNat < n1 → ∀ (H : Heap) (locs : List Loc) (ls : Array Slot), va_P (dC, dI) vwCl (YW cy y0 r v1 f1 w1 g1) H → va_D A (YW cy y0 r v1 f1 w1 g1) → va_S A s.heap H locs → lv_has ls 4 [(2, .int l2_1), (0, .ref y0), (1, .int p1)] → W p l e { frames := 1, cells := 0, slots := 0, locals := 60 } s m ([.ref y0, .int p1] : List Value).toArray below meth c H locs 0 0 Q (F0 m 2 ls []) := by
    intro n1
    induction n1 with
    | zero => intro l2_1 v1 f1 w1 g1 hIv1 hCf1 hRf1 hq0_v1 hq1_v1 hq2_v1 hq3_v1 hq4_v1 hq5_v1 hq8_v1 hq9_v1 hq10_v1 hq13_v1 hq14_v1 hq15_v1 hq17_v1 hq18_v1 hq24_v1 hq25_v1 hq35_v1 hq36_v1 hq38_v1 hq39_v1 hr2_1 hM_v1 hA_f1 hm; exact absurd hm (Nat.not_lt_zero _)
    | succ n1 ih1 =>
      intro l2_1 v1 f1 w1 g1 hIv1 hCf1 hRf1 hq0_v1 hq1_v1 hq2_v1 hq3_v1 hq4_v1 hq5_v1 hq8_v1 hq9_v1 hq10_v1 hq13_v1 hq14_v1 hq15_v1 hq17_v1 hq18_v1 hq24_v1 hq25_v1 hq35_v1 hq36_v1 hq38_v1 hq39_v1 hr2_1 hM_v1 hA_f1 hm1 H locs ls hP hD hS hl
      have hUv1 : (v1 35).toInt + (v1 36).toInt ≤ 40 := hIv1.2
      have zq9_v1 := congrArg Int32.toInt hq9_v1
      refine lv_iload_n hx hb dX11_exchange_2 rfl (lv_at hl 0 rfl) ?_
      refine lv_bipush (v := 39) hx hb dX11_exchange_3 (by decide) ?_
      refine lv_icmp_ge (tgt := 44) hx hb dX11_exchange_5 (by decide) (fun c2 => ?_) (fun c2 => ?_)
      · skip
        have zc2 : 39 ≤ l2_1.toInt := by rw [fa_le, show (39 : Int32).toInt = 39 from by decide] at c2; exact c2
        exact ret (v1, f1, w1, g1) _ _ _ _ _ _ ⟨hM_v1, hA_f1, hIv1, hCf1, hRf1, (show v1 0 = v 0 from hq0_v1), (show v1 1 = v 1 from hq1_v1), (show v1 2 = v 2 from hq2_v1), (show v1 3 = v 3 from hq3_v1), (show v1 4 = v 4 from hq4_v1), (show v1 5 = v 5 from hq5_v1), (show v1 8 = v 8 from hq8_v1), (show v1 9 = v 9 from hq9_v1), (show v1 10 = v 10 from hq10_v1), (show v1 13 = v 13 from hq13_v1), (show v1 14 = v 14 from hq14_v1), (show v1 15 = v 15 from hq15_v1), (show v1 17 = v 17 from hq17_v1), (show v1 18 = v 18 from hq18_v1), (show v1 24 = v 24 from hq24_v1), (show v1 25 = v 25 from hq25_v1), (show v1 35 = v 35 from hq35_v1), (show v1 36 = v 36 from hq36_v1), (show v1 38 = v 38 from hq38_v1), (show v1 39 = v 39 from hq39_v1)⟩ hP hD hS dX11_exchange_44 (Nat.le_refl _) (Nat.le_refl _)
      · skip
        have zc2 : ¬ (39 ≤ l2_1.toInt) := by rw [fa_le, show (39 : Int32).toInt = 39 from by decide] at c2; exact c2
        refine lv_aload_n hx hb dX11_exchange_8 rfl (lv_at hl 1 rfl) ?_
        refine va_get (D := (dC, dI)) (ci := 11) (v := .ref (r 61)) (C := RX11) (T := TX11) (N := 79) hx hb hts inB_11 hown hE.1 hP 0 rfl rfl 61 (by decide) (hts _ k_1381) (fun _ h9 => h9) rfl dX11_exchange_9 ?_
        refine lv_iload_n hx hb dX11_exchange_12 rfl (lv_at hl 2 rfl) ?_
        refine lv_iload_n hx hb dX11_exchange_13 rfl (lv_at hl 0 rfl) ?_
        refine lv_iadd hx hb dX11_exchange_14 ?_
        refine lv_topi (fun t3 et3 => ?_)
        have rg4 := fb_rng p1
        have rg5 := fb_rng l2_1
        have zt3 : t3.toInt = p1.toInt + l2_1.toInt := by rw [et3]; exact add_i rfl rfl (by omega) (by omega)
        refine ldI hx hb hE hP 26 rfl (vp_in_iff.mpr ⟨by omega, by omega⟩) rfl rfl dX11_exchange_15 ?_
        refine lv_topi (fun t6 et6 => ?_)
        have zt6 : t3.toInt.toNat % 39 < 6 ∨ 12 ≤ t3.toInt.toNat % 39 ∨ (-1 ≤ t6.toInt ∧ t6.toInt ≤ 5) := by rw [et6]; exact wear_ld hCf1.2.2.1 (show t3.toInt.toNat < 1560 by omega)
        refine lv_istore_n (lv' := [(3, .int t6), (2, .int l2_1), (0, .ref y0), (1, .int p1)]) hx hb dX11_exchange_16 rfl hl (by decide) rfl (fun ls hl => ?_)
        refine lv_aload_n hx hb dX11_exchange_17 rfl (lv_at hl 2 rfl) ?_
        refine va_get (D := (dC, dI)) (ci := 11) (v := .ref (r 61)) (C := RX11) (T := TX11) (N := 79) hx hb hts inB_11 hown hE.1 hP 0 rfl rfl 61 (by decide) (hts _ k_1381) (fun _ h9 => h9) rfl dX11_exchange_18 ?_
        refine lv_iload_n hx hb dX11_exchange_21 rfl (lv_at hl 3 rfl) ?_
        refine lv_iload_n hx hb dX11_exchange_22 rfl (lv_at hl 1 rfl) ?_
        refine lv_iadd hx hb dX11_exchange_23 ?_
        refine tI (y := t3) et3.symm ?_
        refine lv_aload_n hx hb dX11_exchange_24 rfl (lv_at hl 2 rfl) ?_
        refine va_get (D := (dC, dI)) (ci := 11) (v := .ref (r 59)) (C := RX11) (T := TX11) (N := 79) hx hb hts inB_11 hown hE.1 hP 0 rfl rfl 59 (by decide) (hts _ k_1379) (fun _ h9 => h9) rfl dX11_exchange_25 ?_
        refine lv_iload_n hx hb dX11_exchange_28 rfl (lv_at hl 1 rfl) ?_
        refine ldI hx hb hE hP 24 rfl (vp_in_iff.mpr ⟨by omega, by omega⟩) rfl rfl dX11_exchange_29 ?_
        refine lv_topi (fun t7 et7 => ?_)
        have zt7 : l2_1.toInt.toNat % 39 < 6 ∨ 12 ≤ l2_1.toInt.toNat % 39 ∨ (-1 ≤ t7.toInt ∧ t7.toInt ≤ 5) := by rw [et7]; exact wear_ld hCf1.1 (show l2_1.toInt.toNat < 39 by omega)
        refine stI hx hb hE hP hD hS 26 rfl (vp_in_iff.mpr ⟨by omega, by omega⟩) rfl dX11_exchange_30 (fun H locs hP hD hS => ?_)
        obtain ⟨f8, ef8, hP, hD⟩ : ∃ fz9, fz9 = upd2 f1 25 (upd (f1 25) t3.toNatClampNeg t7) ∧ va_P (dC, dI) vwCl (YW cy y0 r v1 fz9 w1 g1) H ∧ va_D A (YW cy y0 r v1 fz9 w1 g1) := ⟨_, rfl, hP, hD⟩
        have hCf8 : YC f8 := by rw [ef8]; exact ⟨hCf1.1, hCf1.2.1, (wear_st hCf1.2.2.1 (by show t3.toInt.toNat % 39 < 6 ∨ 12 ≤ t3.toInt.toNat % 39 ∨ (-1 ≤ t7.toInt ∧ t7.toInt ≤ 5); omega)), hCf1.2.2.2.1, hCf1.2.2.2.2.1, hCf1.2.2.2.2.2⟩
        have hRf8 : progOK (f8 4) (f8 5) (v1 9).toInt.toNat := by rw [ef8]; exact hRf1
        have hA_f8 : KF [23, 25] f8 f := by rw [ef8]; exact KF.up hA_f1 rfl
        refine lv_aload_n hx hb dX11_exchange_31 rfl (lv_at hl 2 rfl) ?_
        refine va_get (D := (dC, dI)) (ci := 11) (v := .ref (r 59)) (C := RX11) (T := TX11) (N := 79) hx hb hts inB_11 hown hE.1 hP 0 rfl rfl 59 (by decide) (hts _ k_1379) (fun _ h9 => h9) rfl dX11_exchange_32 ?_
        refine lv_iload_n hx hb dX11_exchange_35 rfl (lv_at hl 1 rfl) ?_
        refine lv_iload_n hx hb dX11_exchange_36 rfl (lv_at hl 0 rfl) ?_
        refine stI hx hb hE hP hD hS 24 rfl (vp_in_iff.mpr ⟨by omega, by omega⟩) rfl dX11_exchange_37 (fun H locs hP hD hS => ?_)
        obtain ⟨f9, ef9, hP, hD⟩ : ∃ fz9, fz9 = upd2 f8 23 (upd (f8 23) l2_1.toNatClampNeg t6) ∧ va_P (dC, dI) vwCl (YW cy y0 r v1 fz9 w1 g1) H ∧ va_D A (YW cy y0 r v1 fz9 w1 g1) := ⟨_, rfl, hP, hD⟩
        have hCf9 : YC f9 := by rw [ef9]; exact ⟨(wear_st hCf8.1 (by show l2_1.toInt.toNat % 39 < 6 ∨ 12 ≤ l2_1.toInt.toNat % 39 ∨ (-1 ≤ t6.toInt ∧ t6.toInt ≤ 5); omega)), hCf8.2.1, hCf8.2.2.1, hCf8.2.2.2.1, hCf8.2.2.2.2.1, hCf8.2.2.2.2.2⟩
        have hRf9 : progOK (f9 4) (f9 5) (v1 9).toInt.toNat := by rw [ef9]; exact hRf8
        have hA_f9 : KF [23, 25] f9 f := by rw [ef9]; exact KF.up hA_f8 rfl
        obtain ⟨t10, et10⟩ : ∃ y : Int32, y = l2_1 + 1 := ⟨_, rfl⟩
        have zt10 : t10.toInt = l2_1.toInt + 1 := by rw [et10]; exact add_i rfl (by decide) (by omega) (by omega)
        refine lv_iinc (v := t10) (lv' := [(2, .int t10), (3, .int t6), (0, .ref y0), (1, .int p1)]) hx hb dX11_exchange_38 hl (k := 1) rfl (by rw [et10]; rfl) (by decide) rfl (fun ls hl => ?_)
        refine lv_goto (tgt := 2) hx hb dX11_exchange_41 (by decide) ?_
        have rg11 := fb_rng t10
        exact ih1 t10 v1 f9 w1 g1 hIv1 hCf9 hRf9 hq0_v1 hq1_v1 hq2_v1 hq3_v1 hq4_v1 hq5_v1 hq8_v1 hq9_v1 hq10_v1 hq13_v1 hq14_v1 hq15_v1 hq17_v1 hq18_v1 hq24_v1 hq25_v1 hq35_v1 hq36_v1 hq38_v1 hq39_v1 ⟨show (0 : Int) ≤ t10.toInt by omega, show t10.toInt ≤ (2147483647 : Int) by omega⟩ hM_v1 hA_f9 (by show (2147483647 - t10.toInt).toNat < n1; omega) _ _ _ hP hD hS (lv_sub hl [0, 2, 3] rfl)
  exact lp1 _ 0 v f w g hIv hCf hRf rfl rfl rfl rfl rfl rfl rfl rfl rfl rfl rfl rfl rfl rfl rfl rfl rfl rfl rfl rfl ⟨by decide, by decide⟩ hM_v hA_f (Nat.lt_succ_self _) _ _ _ hP hD hS (lv_sub hl [0, 1, 2] rfl)
