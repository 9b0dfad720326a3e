set_option maxHeartbeats 4000000 in
set_option maxRecDepth 100000 in
theorem sY_X11_fits_1 (l : Launch) (dC : Nat → ClassId) (dI : Nat → Nat → Nat) (cy : Nat → ClassId) (y0 : Nat) (r : Nat → Nat) (p1 : Int32) (p2 : Int32) (v : Nat → Int32) (f : Nat → Nat → Int32) (w : Int64) (g : Nat → Int64) (hIv : YI v) (hCf : YC f) (hRf : progOK (f 4) (f 5) (v 9).toInt.toNat) (hp1 : (0 : Int) ≤ p1.toInt ∧ p1.toInt ≤ 5) (hp2 : (-1 : Int) ≤ p2.toInt ∧ p2.toInt ≤ 5) : ctI l (dC, dI) cy yX11_fits cX11_fits 3 .boolean 4 126 0 0 ((Nat → Int32) × (Nat → Nat → Int32) × (Int64) × (Nat → Int64)) [.ref y0, .int p1, .int p2] (YW cy y0 r v f w g) (fun r u => KV [] u.1 v ∧ KF [7, 8] u.2.1 f ∧ YI u.1 ∧ YC u.2.1 ∧ progOK (u.2.1 4) (u.2.1 5) (u.1 9).toInt.toNat ∧ u.1 0 = v 0 ∧ u.1 1 = v 1 ∧ u.1 2 = v 2 ∧ u.1 3 = v 3 ∧ u.1 4 = v 4 ∧ u.1 5 = v 5 ∧ u.1 8 = v 8 ∧ u.1 9 = v 9 ∧ u.1 10 = v 10 ∧ u.1 13 = v 13 ∧ u.1 14 = v 14 ∧ u.1 15 = v 15 ∧ u.1 17 = v 17 ∧ u.1 18 = v 18 ∧ u.1 24 = v 24 ∧ u.1 25 = v 25 ∧ u.1 35 = v 35 ∧ u.1 36 = v 36 ∧ u.1 38 = v 38 ∧ u.1 39 = v 39 ∧ ((r = 1) ∨ (r = 0))) (fun u => YW cy y0 r u.1 u.2.1 u.2.2.1 u.2.2.2) := by
  refine ctI_of (by decide) (Nat.le_of_ble_eq_true rfl) (fun p e s m below meth c A ls Q hx hb hml hts hown hE hP hD hA hl ret => ?_)
  have hUv : (v 35).toInt + (v 36).toInt ≤ 40 := hIv.2
  have hM_v : KV [] v v := fun _ _ => rfl
  have hA_f : KF [7, 8] f f := fun _ _ => rfl
  have hown : s.vm.findClass RX11 = some m.cls := hown
  have hS : va_S A s.heap s.heap [] := va_S.rf
  have hl : lv_has ls 3 [(0, .ref y0), (1, .int p1), (2, .int p2)] := hl
  refine lv_iload_n hx hb dX11_fits_0 rfl (lv_at hl 2 rfl) ?_
  refine lv_if_lt (tgt := 21) hx hb dX11_fits_1 (by decide) (fun c1 => ?_) (fun c1 => ?_)
  · skip
    have zc1 : p2.toInt < 0 := by rw [fa_lt, show (0 : Int32).toInt = 0 from by decide] at c1; exact c1
    refine lv_iconst (v := 0) hx hb dX11_fits_21 (by decide) ?_
    exact ret 0 (v, f, w, g) _ _ _ _ _ _ rfl ⟨hM_v, hA_f, hIv, hCf, hRf, rfl, rfl, rfl, rfl, rfl, rfl, rfl, rfl, rfl, rfl, rfl, rfl, rfl, rfl, rfl, rfl, rfl, rfl, rfl, rfl, (Or.inr rfl)⟩ hP hD hS dX11_fits_22 (Nat.le_refl _) (Nat.le_refl _)
  · skip
    have zc1 : ¬ (p2.toInt < 0) := by rw [fa_lt, show (0 : Int32).toInt = 0 from by decide] at c1; exact c1
    refine lv_aload_n hx hb dX11_fits_4 rfl (lv_at hl 0 rfl) ?_
    refine lv_iload_n hx hb dX11_fits_5 rfl (lv_at hl 1 rfl) ?_
    refine lv_iload_n hx hb dX11_fits_6 rfl (lv_at hl 2 rfl) ?_
    refine cbVi (n := 2) (rest := []) hx hb hml hown hts hE hP hD hS hA (sY_X11_misfitOf_1 l dC dI cy y0 r p1 p2 v f w g hIv hCf hRf ⟨show (0 : Int) ≤ p1.toInt by omega, show p1.toInt ≤ (5 : Int) by omega⟩ ⟨show (0 : Int) ≤ p2.toInt by omega, show p2.toInt ≤ (5 : Int) by omega⟩) k_1751 k_1753 k_74 k_114 k_1754 (by decide +kernel) ⟨Nat.le_of_ble_eq_true rfl, Nat.le_of_ble_eq_true rfl⟩ 0 11 rfl rfl (rfl) hl.1 rfl (Nat.le_of_ble_eq_true rfl) dX11_fits_7 (fun r2 u H locs hw hP hD hS => ?_)
    obtain ⟨v3, f4, w5, g6⟩ := u
    obtain ⟨kV_v3, kF_f4, hIv3, hCf4, hRf4, hk0_v3, hk1_v3, hk2_v3, hk3_v3, hk4_v3, hk5_v3, hk8_v3, hk9_v3, hk10_v3, hk13_v3, hk14_v3, hk15_v3, hk17_v3, hk18_v3, hk24_v3, hk25_v3, hk35_v3, hk36_v3, hk38_v3, hk39_v3⟩ := hw
    have hM_v3 : KV [] v3 v := KV.tr kV_v3 hM_v rfl
    have hA_f4 : KF [7, 8] f4 f := KF.tr kF_f4 hA_f rfl
    have hP : va_P (dC, dI) vwCl (YW cy y0 r v3 f4 w5 g6) H := hP
    have hD : va_D A (YW cy y0 r v3 f4 w5 g6) := hD
    have hUv3 : (v3 35).toInt + (v3 36).toInt ≤ 40 := hIv3.2
    have hq9_v3 : v3 9 = (v 9) := hk9_v3
    have zq9_v3 := congrArg Int32.toInt hq9_v3
    refine lv_aload_n hx hb dX11_fits_10 rfl (lv_at hl 0 rfl) ?_
    refine va_get (D := (dC, dI)) (ci := 11) (v := .int (v3 26)) (C := RX11) (T := TX11) (N := 79) hx hb hts inB_11 hown hE.1 hP 0 rfl rfl 50 (by decide) (hts _ k_1370) (fun _ h9 => h9) rfl dX11_fits_11 ?_
    refine lv_icmp_gt (tgt := 21) hx hb dX11_fits_14 (by decide) (fun c7 => ?_) (fun c7 => ?_)
    · skip
      have zc7 : (v3 26).toInt < r2.toInt := by rw [fa_lt] at c7; exact c7
      have rg8 := fb_rng r2
      have rg9 := fb_rng (v3 26)
      refine lv_iconst (v := 0) hx hb dX11_fits_21 (by decide) ?_
      exact ret 0 (v3, f4, w5, g6) _ _ _ _ _ _ rfl ⟨hM_v3, hA_f4, hIv3, hCf4, hRf4, hk0_v3, hk1_v3, hk2_v3, hk3_v3, hk4_v3, hk5_v3, hk8_v3, hk9_v3, hk10_v3, hk13_v3, hk14_v3, hk15_v3, hk17_v3, hk18_v3, hk24_v3, hk25_v3, hk35_v3, hk36_v3, hk38_v3, hk39_v3, (Or.inr rfl)⟩ hP hD hS dX11_fits_22 (Nat.le_refl _) (Nat.le_refl _)
    · skip
      have zc7 : ¬ ((v3 26).toInt < r2.toInt) := by rw [fa_lt] at c7; exact c7
      have rg10 := fb_rng r2
      have rg11 := fb_rng (v3 26)
      refine lv_iconst (v := 1) hx hb dX11_fits_17 (by decide) ?_
      refine lv_goto (tgt := 22) hx hb dX11_fits_18 (by decide) ?_
      exact ret 1 (v3, f4, w5, g6) _ _ _ _ _ _ rfl ⟨hM_v3, hA_f4, hIv3, hCf4, hRf4, hk0_v3, hk1_v3, hk2_v3, hk3_v3, hk4_v3, hk5_v3, hk8_v3, hk9_v3, hk10_v3, hk13_v3, hk14_v3, hk15_v3, hk17_v3, hk18_v3, hk24_v3, hk25_v3, hk35_v3, hk36_v3, hk38_v3, hk39_v3, (Or.inl rfl)⟩ hP hD hS dX11_fits_22 (Nat.le_refl _) (Nat.le_refl _)
set_option maxHeartbeats 4000000 in
set_option maxRecDepth 100000 in
theorem sY_X11_coatsFor_1 (l : Launch) (dC : Nat → ClassId) (dI : Nat → Nat → Nat) (cy : Nat → ClassId) (y0 : Nat) (r : Nat → Nat) (p1 : Int32) (v : Nat → Int32) (f : Nat → Nat → Int32) (w : Int64) (g : Nat → Int64) (hIv : YI v) (hCf : YC f) (hRf : progOK (f 4) (f 5) (v 9).toInt.toNat) (hp1 : (0 : Int) ≤ p1.toInt ∧ p1.toInt ≤ 5) : ctI l (dC, dI) cy yX11_coatsFor cX11_coatsFor 4 .int 5 148 0 0 ((Nat → Int32) × (Nat → Nat → Int32) × (Int64) × (Nat → Int64)) [.ref y0, .int p1] (YW cy y0 r v f w g) (fun r u => KV [] u.1 v ∧ KF [7, 8] u.2.1 f ∧ YI u.1 ∧ YC u.2.1 ∧ progOK (u.2.1 4) (u.2.1 5) (u.1 9).toInt.toNat ∧ u.1 0 = v 0 ∧ u.1 1 = v 1 ∧ u.1 2 = v 2 ∧ u.1 3 = v 3 ∧ u.1 4 = v 4 ∧ u.1 5 = v 5 ∧ u.1 8 = v 8 ∧ u.1 9 = v 9 ∧ u.1 10 = v 10 ∧ u.1 13 = v 13 ∧ u.1 14 = v 14 ∧ u.1 15 = v 15 ∧ u.1 17 = v 17 ∧ u.1 18 = v 18 ∧ u.1 24 = v 24 ∧ u.1 25 = v 25 ∧ u.1 35 = v 35 ∧ u.1 36 = v 36 ∧ u.1 38 = v 38 ∧ u.1 39 = v 39) (fun u => YW cy y0 r u.1 u.2.1 u.2.2.1 u.2.2.2) := by
  refine ctI_of (by decide) (Nat.le_of_ble_eq_true rfl) (fun p e s m below meth c A ls Q hx hb hml hts hown hE hP hD hA hl ret => ?_)
  have hUv : (v 35).toInt + (v 36).toInt ≤ 40 := hIv.2
  have hM_v : KV [] v v := fun _ _ => rfl
  have hA_f : KF [7, 8] f f := fun _ _ => rfl
  have hown : s.vm.findClass RX11 = some m.cls := hown
  have hS : va_S A s.heap s.heap [] := va_S.rf
  have hl : lv_has ls 4 [(0, .ref y0), (1, .int p1)] := hl
  refine lv_iconst (v := 0) hx hb dX11_coatsFor_0 (by decide) ?_
  refine lv_istore_n (lv' := [(2, .int 0), (0, .ref y0), (1, .int p1)]) hx hb dX11_coatsFor_1 rfl hl (by decide) rfl (fun ls hl => ?_)
  refine lv_iconst (v := 0) hx hb dX11_coatsFor_2 (by decide) ?_
  refine lv_istore_n (lv' := [(3, .int 0), (2, .int 0), (0, .ref y0), (1, .int p1)]) hx hb dX11_coatsFor_3 rfl hl (by decide) rfl (fun ls hl => ?_)
  have lp1 : ∀ (n1 : Nat) (l2_1 : Int32) (l3_1 : Int32) (v1 : Nat → Int32) (f1 : Nat → Nat → Int32) (w1 : Int64) (g1 : Nat → Int64), YI v1 → YC f1 → progOK (f1 4) (f1 5) (v1 9).toInt.toNat → v1 0 = (v 0) → v1 1 = (v 1) → v1 2 = (v 2) → v1 3 = (v 3) → v1 4 = (v 4) → v1 5 = (v 5) → v1 8 = (v 8) → v1 9 = (v 9) → v1 10 = (v 10) → v1 13 = (v 13) → v1 14 = (v 14) → v1 15 = (v 15) → v1 17 = (v 17) → v1 18 = (v 18) → v1 24 = (v 24) → v1 25 = (v 25) → v1 35 = (v 35) → v1 36 = (v 36) → v1 38 = (v 38) → v1 39 = (v 39) → ((0 : Int) ≤ l3_1.toInt ∧ l3_1.toInt ≤ 2147483647) → KV [] v1 v → KF [7, 8] f1 f → (2147483647 - l3_1.toInt).toNat < n1 → ∀ (H : Heap) (locs : List Loc) (ls : Array Slot), va_P (dC, dI) vwCl (YW cy y0 r v1 f1 w1 g1) H → va_D A (YW cy y0 r v1 f1 w1 g1) → va_S A s.heap H locs → lv_has ls 4 [(3, .int l3_1), (2, .int l2_1), (0, .ref y0), (1, .int p1)] → W p l e { frames := 5, cells := 0, slots := 0, locals := 148 } s m ([.ref y0, .int p1] : List Value).toArray below meth c H locs 0 0 Q (F0 m 4 ls []) := by
    intro n1
    induction n1 with
    | zero => intro l2_1 l3_1 v1 f1 w1 g1 hIv1 hCf1 hRf1 hq0_v1 hq1_v1 hq2_v1 hq3_v1 hq4_v1 hq5_v1 hq8_v1 hq9_v1 hq10_v1 hq13_v1 hq14_v1 hq15_v1 hq17_v1 hq18_v1 hq24_v1 hq25_v1 hq35_v1 hq36_v1 hq38_v1 hq39_v1 hr3_1 hM_v1 hA_f1 hm; exact absurd hm (Nat.not_lt_zero _)
    | succ n1 ih1 =>
      intro l2_1 l3_1 v1 f1 w1 g1 hIv1 hCf1 hRf1 hq0_v1 hq1_v1 hq2_v1 hq3_v1 hq4_v1 hq5_v1 hq8_v1 hq9_v1 hq10_v1 hq13_v1 hq14_v1 hq15_v1 hq17_v1 hq18_v1 hq24_v1 hq25_v1 hq35_v1 hq36_v1 hq38_v1 hq39_v1 hr3_1 hM_v1 hA_f1 hm1 H locs ls hP hD hS hl
      have hUv1 : (v1 35).toInt + (v1 36).toInt ≤ 40 := hIv1.2
      have zq9_v1 := congrArg Int32.toInt hq9_v1
      refine lv_iload_n hx hb dX11_coatsFor_4 rfl (lv_at hl 0 rfl) ?_
      refine lv_aload_n hx hb dX11_coatsFor_5 rfl (lv_at hl 2 rfl) ?_
      refine va_get (D := (dC, dI)) (ci := 11) (v := .int (v1 25)) (C := RX11) (T := TX11) (N := 79) hx hb hts inB_11 hown hE.1 hP 0 rfl rfl 49 (by decide) (hts _ k_1369) (fun _ h9 => h9) rfl dX11_coatsFor_6 ?_
      refine tI (y := (v 25)) hq25_v1 ?_
      have b25_v : 0 ≤ (v 25).toInt ∧ (v 25).toInt ≤ 6 := YIb.b hIv.1 25 (by decide)
      refine lv_icmp_ge (tgt := 32) hx hb dX11_coatsFor_9 (by decide) (fun c2 => ?_) (fun c2 => ?_)
      · skip
        have zc2 : (v 25).toInt ≤ l3_1.toInt := by rw [fa_le] at c2; exact c2
        have rg3 := fb_rng l3_1
        have rg4 := fb_rng (v 25)
        refine lv_iload_n hx hb dX11_coatsFor_32 rfl (lv_at hl 1 rfl) ?_
        exact ret l2_1 (v1, f1, w1, g1) _ _ _ _ _ _ rfl ⟨hM_v1, hA_f1, hIv1, hCf1, hRf1, (show v1 0 = v 0 from hq0_v1), (show v1 1 = v 1 from hq1_v1), (show v1 2 = v 2 from hq2_v1), (show v1 3 = v 3 from hq3_v1), (show v1 4 = v 4 from hq4_v1), (show v1 5 = v 5 from hq5_v1), (show v1 8 = v 8 from hq8_v1), (show v1 9 = v 9 from hq9_v1), (show v1 10 = v 10 from hq10_v1), (show v1 13 = v 13 from hq13_v1), (show v1 14 = v 14 from hq14_v1), (show v1 15 = v 15 from hq15_v1), (show v1 17 = v 17 from hq17_v1), (show v1 18 = v 18 from hq18_v1), (show v1 24 = v 24 from hq24_v1), (show v1 25 = v 25 from hq25_v1), (show v1 35 = v 35 from hq35_v1), (show v1 36 = v 36 from hq36_v1), (show v1 38 = v 38 from hq38_v1), (show v1 39 = v 39 from hq39_v1)⟩ hP hD hS dX11_coatsFor_33 (Nat.le_refl _) (Nat.le_refl _)
      · skip
        have zc2 : ¬ ((v 25).toInt ≤ l3_1.toInt) := by rw [fa_le] at c2; exact c2
        have rg5 := fb_rng l3_1
        have rg6 := fb_rng (v 25)
        refine lv_iload_n hx hb dX11_coatsFor_12 rfl (lv_at hl 1 rfl) ?_
        refine lv_aload_n hx hb dX11_coatsFor_13 rfl (lv_at hl 2 rfl) ?_
        refine lv_iload_n hx hb dX11_coatsFor_14 rfl (lv_at hl 3 rfl) ?_
        refine lv_iload_n hx hb dX11_coatsFor_15 rfl (lv_at hl 0 rfl) ?_
        refine cbVi (n := 2) (rest := [.int l2_1]) hx hb hml hown hts hE hP hD hS hA (sY_X11_fits_1 l dC dI cy y0 r p1 l3_1 v1 f1 w1 g1 hIv1 hCf1 hRf1 ⟨show (0 : Int) ≤ p1.toInt by omega, show p1.toInt ≤ (5 : Int) by omega⟩ ⟨show (-1 : Int) ≤ l3_1.toInt by omega, show l3_1.toInt ≤ (5 : Int) by omega⟩) k_1747 k_1749 k_73 k_114 k_1750 (by decide +kernel) ⟨Nat.le_of_ble_eq_true rfl, Nat.le_of_ble_eq_true rfl⟩ 0 11 rfl rfl (rfl) hl.1 rfl (Nat.le_of_ble_eq_true rfl) dX11_coatsFor_16 (fun r7 u H locs hw hP hD hS => ?_)
        obtain ⟨v8, f9, w10, g11⟩ := u
        obtain ⟨kV_v8, kF_f9, hIv8, hCf9, hRf9, hk0_v8, hk1_v8, hk2_v8, hk3_v8, hk4_v8, hk5_v8, hk8_v8, hk9_v8, hk10_v8, hk13_v8, hk14_v8, hk15_v8, hk17_v8, hk18_v8, hk24_v8, hk25_v8, hk35_v8, hk36_v8, hk38_v8, hk39_v8, hw⟩ := hw
        have hM_v8 : KV [] v8 v := KV.tr kV_v8 hM_v1 rfl
        have hA_f9 : KF [7, 8] f9 f := KF.tr kF_f9 hA_f1 rfl
        have hP : va_P (dC, dI) vwCl (YW cy y0 r v8 f9 w10 g11) H := hP
        have hD : va_D A (YW cy y0 r v8 f9 w10 g11) := hD
        have hUv8 : (v8 35).toInt + (v8 36).toInt ≤ 40 := hIv8.2
        have hq0_v8 : v8 0 = (v 0) := hk0_v8.trans hq0_v1
        have hq1_v8 : v8 1 = (v 1) := hk1_v8.trans hq1_v1
        have hq2_v8 : v8 2 = (v 2) := hk2_v8.trans hq2_v1
        have hq3_v8 : v8 3 = (v 3) := hk3_v8.trans hq3_v1
        have hq4_v8 : v8 4 = (v 4) := hk4_v8.trans hq4_v1
        have hq5_v8 : v8 5 = (v 5) := hk5_v8.trans hq5_v1
        have hq8_v8 : v8 8 = (v 8) := hk8_v8.trans hq8_v1
        have hq9_v8 : v8 9 = (v 9) := hk9_v8.trans hq9_v1
        have zq9_v8 := congrArg Int32.toInt hq9_v8
        have hq10_v8 : v8 10 = (v 10) := hk10_v8.trans hq10_v1
        have hq13_v8 : v8 13 = (v 13) := hk13_v8.trans hq13_v1
        have hq14_v8 : v8 14 = (v 14) := hk14_v8.trans hq14_v1
        have hq15_v8 : v8 15 = (v 15) := hk15_v8.trans hq15_v1
        have hq17_v8 : v8 17 = (v 17) := hk17_v8.trans hq17_v1
        have hq18_v8 : v8 18 = (v 18) := hk18_v8.trans hq18_v1
        have hq24_v8 : v8 24 = (v 24) := hk24_v8.trans hq24_v1
        have hq25_v8 : v8 25 = (v 25) := hk25_v8.trans hq25_v1
        have hq35_v8 : v8 35 = (v 35) := hk35_v8.trans hq35_v1
        have hq36_v8 : v8 36 = (v 36) := hk36_v8.trans hq36_v1
        have hq38_v8 : v8 38 = (v 38) := hk38_v8.trans hq38_v1
        have hq39_v8 : v8 39 = (v 39) := hk39_v8.trans hq39_v1
        rcases hw with ⟨g12⟩ | ⟨g12⟩
        · skip
          subst g12
          have lt13 : (1 : Int32).toInt = 1 := by decide
          refine cbSi (n := 1) (rest := [.int l2_1]) hx hb hml hown hts hE hP hD hS hA (sY_X11_truth_1 l dC dI cy y0 r 1 v8 f9 w10 g11 hIv8 hCf9 hRf9 ) k_1761 k_1762 k_114 k_1763 (by decide +kernel) ⟨Nat.le_of_ble_eq_true rfl, Nat.le_of_ble_eq_true rfl⟩ (rfl) hl.1 rfl (Nat.le_of_ble_eq_true rfl) dX11_coatsFor_19 (fun r14 u H locs hw hP hD hS => ?_)
          refine lv_iload_n hx hb dX11_coatsFor_22 rfl (lv_at hl 0 rfl) ?_
          refine lv_ishl hx hb dX11_coatsFor_23 ?_
          refine lv_topi (fun t15 et15 => ?_)
          have zt15 : 0 ≤ t15.toInt ∧ t15.toInt ≤ 32 := by rw [et15]; exact shl01_rng (by omega) (by omega) (by omega) (by omega)
          refine lv_ior hx hb dX11_coatsFor_24 ?_
          refine lv_topi (fun t16 et16 => ?_)
          refine lv_istore_n (lv' := [(2, .int t16), (3, .int l3_1), (0, .ref y0), (1, .int p1)]) hx hb dX11_coatsFor_25 rfl hl (by decide) rfl (fun ls hl => ?_)
          obtain ⟨t17, et17⟩ : ∃ y : Int32, y = l3_1 + 1 := ⟨_, rfl⟩
          have zt17 : t17.toInt = l3_1.toInt + 1 := by rw [et17]; exact add_i rfl (by decide) (by omega) (by omega)
          refine lv_iinc (v := t17) (lv' := [(3, .int t17), (2, .int t16), (0, .ref y0), (1, .int p1)]) hx hb dX11_coatsFor_26 hl (k := 1) rfl (by rw [et17]; rfl) (by decide) rfl (fun ls hl => ?_)
          refine lv_goto (tgt := 4) hx hb dX11_coatsFor_29 (by decide) ?_
          have rg18 := fb_rng t17
          exact ih1 t16 t17 v8 f9 w10 g11 hIv8 hCf9 hRf9 hq0_v8 hq1_v8 hq2_v8 hq3_v8 hq4_v8 hq5_v8 hq8_v8 hq9_v8 hq10_v8 hq13_v8 hq14_v8 hq15_v8 hq17_v8 hq18_v8 hq24_v8 hq25_v8 hq35_v8 hq36_v8 hq38_v8 hq39_v8 ⟨show (0 : Int) ≤ t17.toInt by omega, show t17.toInt ≤ (2147483647 : Int) by omega⟩ hM_v8 hA_f9 (by show (2147483647 - t17.toInt).toNat < n1; omega) _ _ _ hP hD hS (lv_sub hl [0, 1, 2, 3] rfl)
        · skip
          subst g12
          have lt19 : (0 : Int32).toInt = 0 := by decide
          refine cbSi (n := 1) (rest := [.int l2_1]) hx hb hml hown hts hE hP hD hS hA (sY_X11_truth_1 l dC dI cy y0 r 0 v8 f9 w10 g11 hIv8 hCf9 hRf9 ) k_1761 k_1762 k_114 k_1763 (by decide +kernel) ⟨Nat.le_of_ble_eq_true rfl, Nat.le_of_ble_eq_true rfl⟩ (rfl) hl.1 rfl (Nat.le_of_ble_eq_true rfl) dX11_coatsFor_19 (fun r20 u H locs hw hP hD hS => ?_)
          refine lv_iload_n hx hb dX11_coatsFor_22 rfl (lv_at hl 0 rfl) ?_
          refine lv_ishl hx hb dX11_coatsFor_23 ?_
          refine lv_topi (fun t21 et21 => ?_)
          have zt21 : 0 ≤ t21.toInt ∧ t21.toInt ≤ 32 := by rw [et21]; exact shl01_rng (by omega) (by omega) (by omega) (by omega)
          refine lv_ior hx hb dX11_coatsFor_24 ?_
          refine lv_topi (fun t22 et22 => ?_)
          refine lv_istore_n (lv' := [(2, .int t22), (3, .int l3_1), (0, .ref y0), (1, .int p1)]) hx hb dX11_coatsFor_25 rfl hl (by decide) rfl (fun ls hl => ?_)
          obtain ⟨t23, et23⟩ : ∃ y : Int32, y = l3_1 + 1 := ⟨_, rfl⟩
          have zt23 : t23.toInt = l3_1.toInt + 1 := by rw [et23]; exact add_i rfl (by decide) (by omega) (by omega)
          refine lv_iinc (v := t23) (lv' := [(3, .int t23), (2, .int t22), (0, .ref y0), (1, .int p1)]) hx hb dX11_coatsFor_26 hl (k := 1) rfl (by rw [et23]; rfl) (by decide) rfl (fun ls hl => ?_)
          refine lv_goto (tgt := 4) hx hb dX11_coatsFor_29 (by decide) ?_
          have rg24 := fb_rng t23
          exact ih1 t22 t23 v8 f9 w10 g11 hIv8 hCf9 hRf9 hq0_v8 hq1_v8 hq2_v8 hq3_v8 hq4_v8 hq5_v8 hq8_v8 hq9_v8 hq10_v8 hq13_v8 hq14_v8 hq15_v8 hq17_v8 hq18_v8 hq24_v8 hq25_v8 hq35_v8 hq36_v8 hq38_v8 hq39_v8 ⟨show (0 : Int) ≤ t23.toInt by omega, show t23.toInt ≤ (2147483647 : Int) by omega⟩ hM_v8 hA_f9 (by show (2147483647 - t23.toInt).toNat < n1; omega) _ _ _ hP hD hS (lv_sub hl [0, 1, 2, 3] rfl)
  exact lp1 _ 0 0 v f w g hIv hCf hRf rfl rfl rfl rfl rfl rfl rfl rfl rfl rfl rfl rfl rfl rfl rfl rfl rfl rfl rfl rfl ⟨by decide, by decide⟩ hM_v hA_f (Nat.lt_succ_self _) _ _ _ hP hD hS (lv_sub hl [0, 1, 2, 3] rfl)
set_option maxHeartbeats 4000000 in
set_option maxRecDepth 100000 in
theorem sY_X11_man_1 (l : Launch) (dC : Nat → ClassId) (dI : Nat → Nat → Nat) (cy : Nat → ClassId) (y0 : Nat) (r : Nat → Nat) (p1 : Int32) (p2 : Int32) (v : Nat → Int32) (f : Nat → Nat → Int32) (w : Int64) (g : Nat → Int64) (hIv : YI v) (hCf : YC f) (hRf : progOK (f 4) (f 5) (v 9).toInt.toNat)  : ctI l (dC, dI) cy yX11_man cX11_man 3 .int 6 171 0 0 ((Nat → Int32) × (Nat → Nat → Int32) × (Int64) × (Nat → Int64)) [.ref y0, .int p1, .int p2] (YW cy y0 r v f w g) (fun r u => KV [] u.1 v ∧ KF [7, 8, 24] u.2.1 f ∧ YI u.1 ∧ YC u.2.1 ∧ progOK (u.2.1 4) (u.2.1 5) (u.1 9).toInt.toNat ∧ u.1 0 = v 0 ∧ u.1 1 = v 1 ∧ u.1 2 = v 2 ∧ u.1 3 = v 3 ∧ u.1 4 = v 4 ∧ u.1 5 = v 5 ∧ u.1 8 = v 8 ∧ u.1 9 = v 9 ∧ u.1 10 = v 10 ∧ u.1 13 = v 13 ∧ u.1 14 = v 14 ∧ u.1 15 = v 15 ∧ u.1 17 = v 17 ∧ u.1 18 = v 18 ∧ u.1 24 = v 24 ∧ u.1 25 = v 25 ∧ u.1 35 = v 35 ∧ u.1 36 = v 36 ∧ u.1 38 = v 38 ∧ u.1 39 = v 39) (fun u => YW cy y0 r u.1 u.2.1 u.2.2.1 u.2.2.2) := by
  refine ctI_of (by decide) (Nat.le_of_ble_eq_true rfl) (fun p e s m below meth c A ls Q hx hb hml hts hown hE hP hD hA hl ret => ?_)
  have hUv : (v 35).toInt + (v 36).toInt ≤ 40 := hIv.2
  have hM_v : KV [] v v := fun _ _ => rfl
  have hA_f : KF [7, 8, 24] f f := fun _ _ => rfl
  have hown : s.vm.findClass RX11 = some m.cls := hown
  have hS : va_S A s.heap s.heap [] := va_S.rf
  have hl : lv_has ls 3 [(0, .ref y0), (1, .int p1), (2, .int p2)] := hl
  refine lv_aload_n hx hb dX11_man_0 rfl (lv_at hl 0 rfl) ?_
  refine lv_iload_n hx hb dX11_man_1 rfl (lv_at hl 1 rfl) ?_
  refine cbVi (n := 1) (rest := []) hx hb hml hown hts hE hP hD hS hA (sY_X11_isMan_1 l dC dI cy y0 r p1 v f w g hIv hCf hRf ) k_1732 k_1734 k_70 k_114 k_1735 (by decide +kernel) ⟨Nat.le_of_ble_eq_true rfl, Nat.le_of_ble_eq_true rfl⟩ 0 11 rfl rfl (rfl) hl.1 rfl (Nat.le_of_ble_eq_true rfl) dX11_man_2 (fun r1 u H locs hw hP hD hS => ?_)
  rcases hw with ⟨g2, g2_0, g2_1, g2_2⟩ | ⟨g2⟩
  · skip
    subst g2
    refine lv_if_ne (tgt := 11) hx hb dX11_man_5 (by decide) (fun _ => ?_) (fun c0 => absurd c0 (by decide))
    refine lv_aload_n hx hb dX11_man_11 rfl (lv_at hl 0 rfl) ?_
    refine cbVv (n := 0) (rest := []) hx hb hml hown hts hE hP hD hS hA (sY_X11_fill_1 l dC dI cy y0 r  v f w g hIv hCf hRf ) k_1739 k_1741 k_71 k_114 k_1742 (by decide +kernel) ⟨Nat.le_of_ble_eq_true rfl, Nat.le_of_ble_eq_true rfl⟩ 0 11 rfl rfl (rfl) hl.1 rfl (Nat.le_of_ble_eq_true rfl) dX11_man_12 (fun u H locs hw hP hD hS => ?_)
    obtain ⟨v3, f4, w5, g6⟩ := u
    obtain ⟨kV_v3, kF_f4, hIv3, hCf4, hRf4, hk0_v3, hk1_v3, hk2_v3, hk3_v3, hk4_v3, hk5_v3, hk8_v3, hk9_v3, hk10_v3, hk13_v3, hk14_v3, hk15_v3, hk17_v3, hk18_v3, hk24_v3, hk25_v3, hk35_v3, hk36_v3, hk38_v3, hk39_v3⟩ := hw
    have hM_v3 : KV [] v3 v := KV.tr kV_v3 hM_v rfl
    have hA_f4 : KF [7, 8, 24] f4 f := KF.tr kF_f4 hA_f rfl
    have hP : va_P (dC, dI) vwCl (YW cy y0 r v3 f4 w5 g6) H := hP
    have hD : va_D A (YW cy y0 r v3 f4 w5 g6) := hD
    have hUv3 : (v3 35).toInt + (v3 36).toInt ≤ 40 := hIv3.2
    have hq9_v3 : v3 9 = (v 9) := hk9_v3
    have zq9_v3 := congrArg Int32.toInt hq9_v3
    refine lv_iload_n hx hb dX11_man_15 rfl (lv_at hl 2 rfl) ?_
    by_cases c7 : p2 = 0
    · skip
      refine lv_tableIn (off := 36) (tgt := 52) hx hb dX11_man_16 (by rw [c7]; decide) (by rw [c7]; decide) (by rw [c7]; decide) (by decide) ?_
      have zc7 : p2.toInt = 0 := by rw [fa_eq, show (0 : Int32).toInt = 0 from by decide] at c7; exact c7
      refine lv_aload_n hx hb dX11_man_52 rfl (lv_at hl 0 rfl) ?_
      refine va_get (D := (dC, dI)) (ci := 11) (v := .ref (r 34)) (C := RX11) (T := TX11) (N := 79) hx hb hts inB_11 hown hE.1 hP 0 rfl rfl 34 (by decide) (hts _ k_1354) (fun _ h9 => h9) rfl dX11_man_53 ?_
      refine lv_iload_n hx hb dX11_man_56 rfl (lv_at hl 1 rfl) ?_
      refine ldI hx hb hE hP 17 rfl (vp_in_iff.mpr ⟨by omega, by omega⟩) rfl rfl dX11_man_57 ?_
      refine lv_topi (fun t8 et8 => ?_)
      exact ret t8 (v3, f4, w5, g6) _ _ _ _ _ _ rfl ⟨hM_v3, hA_f4, hIv3, hCf4, hRf4, hk0_v3, hk1_v3, hk2_v3, hk3_v3, hk4_v3, hk5_v3, hk8_v3, hk9_v3, hk10_v3, hk13_v3, hk14_v3, hk15_v3, hk17_v3, hk18_v3, hk24_v3, hk25_v3, hk35_v3, hk36_v3, hk38_v3, hk39_v3⟩ hP hD hS dX11_man_58 (Nat.le_refl _) (Nat.le_refl _)
    · skip
      have zc7 : ¬ (p2.toInt = 0) := by rw [fa_eq, show (0 : Int32).toInt = 0 from by decide] at c7; exact c7
      by_cases c9 : p2 = 1
      · skip
        refine lv_tableIn (off := 43) (tgt := 59) hx hb dX11_man_16 (by rw [c9]; decide) (by rw [c9]; decide) (by rw [c9]; decide) (by decide) ?_
        have zc9 : p2.toInt = 1 := by rw [fa_eq, show (1 : Int32).toInt = 1 from by decide] at c9; exact c9
        refine lv_aload_n hx hb dX11_man_59 rfl (lv_at hl 0 rfl) ?_
        refine va_get (D := (dC, dI)) (ci := 11) (v := .ref (r 60)) (C := RX11) (T := TX11) (N := 79) hx hb hts inB_11 hown hE.1 hP 0 rfl rfl 60 (by decide) (hts _ k_1380) (fun _ h9 => h9) rfl dX11_man_60 ?_
        refine lv_iload_n hx hb dX11_man_63 rfl (lv_at hl 1 rfl) ?_
        refine ldI hx hb hE hP 25 rfl (vp_in_iff.mpr ⟨by omega, by omega⟩) rfl rfl dX11_man_64 ?_
        refine lv_topi (fun t10 et10 => ?_)
        have zt10 : p1.toInt.toNat % 39 < 6 ∨ 12 ≤ p1.toInt.toNat % 39 ∨ (-1 ≤ t10.toInt ∧ t10.toInt ≤ 5) := by rw [et10]; exact wear_ld hCf4.2.1 (show p1.toInt.toNat < 39 by omega)
        exact ret t10 (v3, f4, w5, g6) _ _ _ _ _ _ rfl ⟨hM_v3, hA_f4, hIv3, hCf4, hRf4, hk0_v3, hk1_v3, hk2_v3, hk3_v3, hk4_v3, hk5_v3, hk8_v3, hk9_v3, hk10_v3, hk13_v3, hk14_v3, hk15_v3, hk17_v3, hk18_v3, hk24_v3, hk25_v3, hk35_v3, hk36_v3, hk38_v3, hk39_v3⟩ hP hD hS dX11_man_65 (Nat.le_refl _) (Nat.le_refl _)
      · skip
        have zc9 : ¬ (p2.toInt = 1) := by rw [fa_eq, show (1 : Int32).toInt = 1 from by decide] at c9; exact c9
        by_cases c11 : p2 = 2
        · skip
          refine lv_tableIn (off := 50) (tgt := 66) hx hb dX11_man_16 (by rw [c11]; decide) (by rw [c11]; decide) (by rw [c11]; decide) (by decide) ?_
          have zc11 : p2.toInt = 2 := by rw [fa_eq, show (2 : Int32).toInt = 2 from by decide] at c11; exact c11
          refine lv_aload_n hx hb dX11_man_66 rfl (lv_at hl 0 rfl) ?_
          refine va_get (D := (dC, dI)) (ci := 11) (v := .ref (r 36)) (C := RX11) (T := TX11) (N := 79) hx hb hts inB_11 hown hE.1 hP 0 rfl rfl 36 (by decide) (hts _ k_1356) (fun _ h9 => h9) rfl dX11_man_67 ?_
          refine lv_iload_n hx hb dX11_man_70 rfl (lv_at hl 1 rfl) ?_
          refine ldI hx hb hE hP 19 rfl (vp_in_iff.mpr ⟨by omega, by omega⟩) rfl rfl dX11_man_71 ?_
          refine lv_topi (fun t12 et12 => ?_)
          exact ret t12 (v3, f4, w5, g6) _ _ _ _ _ _ rfl ⟨hM_v3, hA_f4, hIv3, hCf4, hRf4, hk0_v3, hk1_v3, hk2_v3, hk3_v3, hk4_v3, hk5_v3, hk8_v3, hk9_v3, hk10_v3, hk13_v3, hk14_v3, hk15_v3, hk17_v3, hk18_v3, hk24_v3, hk25_v3, hk35_v3, hk36_v3, hk38_v3, hk39_v3⟩ hP hD hS dX11_man_72 (Nat.le_refl _) (Nat.le_refl _)
        · skip
          have zc11 : ¬ (p2.toInt = 2) := by rw [fa_eq, show (2 : Int32).toInt = 2 from by decide] at c11; exact c11
          by_cases c13 : p2 = 3
          · skip
            refine lv_tableIn (off := 57) (tgt := 73) hx hb dX11_man_16 (by rw [c13]; decide) (by rw [c13]; decide) (by rw [c13]; decide) (by decide) ?_
            have zc13 : p2.toInt = 3 := by rw [fa_eq, show (3 : Int32).toInt = 3 from by decide] at c13; exact c13
            refine lv_aload_n hx hb dX11_man_73 rfl (lv_at hl 0 rfl) ?_
            refine va_get (D := (dC, dI)) (ci := 11) (v := .ref (r 60)) (C := RX11) (T := TX11) (N := 79) hx hb hts inB_11 hown hE.1 hP 0 rfl rfl 60 (by decide) (hts _ k_1380) (fun _ h9 => h9) rfl dX11_man_74 ?_
            refine lv_bipush (v := 6) hx hb dX11_man_77 (by decide) ?_
            refine lv_iload_n hx hb dX11_man_79 rfl (lv_at hl 1 rfl) ?_
            refine lv_iadd hx hb dX11_man_80 ?_
            refine lv_topi (fun t14 et14 => ?_)
            have rg15 := fb_rng p1
            have zt14 : t14.toInt = 6 + p1.toInt := by rw [et14]; exact add_i (by decide) rfl (by omega) (by omega)
            refine ldI hx hb hE hP 25 rfl (vp_in_iff.mpr ⟨by omega, by omega⟩) rfl rfl dX11_man_81 ?_
            refine lv_topi (fun t16 et16 => ?_)
            have zt16 : t14.toInt.toNat % 39 < 6 ∨ 12 ≤ t14.toInt.toNat % 39 ∨ (-1 ≤ t16.toInt ∧ t16.toInt ≤ 5) := by rw [et16]; exact wear_ld hCf4.2.1 (show t14.toInt.toNat < 39 by omega)
            exact ret t16 (v3, f4, w5, g6) _ _ _ _ _ _ rfl ⟨hM_v3, hA_f4, hIv3, hCf4, hRf4, hk0_v3, hk1_v3, hk2_v3, hk3_v3, hk4_v3, hk5_v3, hk8_v3, hk9_v3, hk10_v3, hk13_v3, hk14_v3, hk15_v3, hk17_v3, hk18_v3, hk24_v3, hk25_v3, hk35_v3, hk36_v3, hk38_v3, hk39_v3⟩ hP hD hS dX11_man_82 (Nat.le_refl _) (Nat.le_refl _)
          · skip
            have zc13 : ¬ (p2.toInt = 3) := by rw [fa_eq, show (3 : Int32).toInt = 3 from by decide] at c13; exact c13
            by_cases c17 : p2 = 4
            · skip
              refine lv_tableIn (off := 67) (tgt := 83) hx hb dX11_man_16 (by rw [c17]; decide) (by rw [c17]; decide) (by rw [c17]; decide) (by decide) ?_
              have zc17 : p2.toInt = 4 := by rw [fa_eq, show (4 : Int32).toInt = 4 from by decide] at c17; exact c17
              refine lv_aload_n hx hb dX11_man_83 rfl (lv_at hl 0 rfl) ?_
              refine lv_iload_n hx hb dX11_man_84 rfl (lv_at hl 1 rfl) ?_
              refine cbVi (n := 1) (rest := []) hx hb hml hown hts hE hP hD hS hA (sY_X11_coatsFor_1 l dC dI cy y0 r p1 v3 f4 w5 g6 hIv3 hCf4 hRf4 ⟨show (0 : Int) ≤ p1.toInt by omega, show p1.toInt ≤ (5 : Int) by omega⟩) k_1743 k_1745 k_72 k_114 k_1746 (by decide +kernel) ⟨Nat.le_of_ble_eq_true rfl, Nat.le_of_ble_eq_true rfl⟩ 0 11 rfl rfl (rfl) hl.1 rfl (Nat.le_of_ble_eq_true rfl) dX11_man_85 (fun r18 u H locs hw hP hD hS => ?_)
              obtain ⟨v19, f20, w21, g22⟩ := u
              obtain ⟨kV_v19, kF_f20, hIv19, hCf20, hRf20, hk0_v19, hk1_v19, hk2_v19, hk3_v19, hk4_v19, hk5_v19, hk8_v19, hk9_v19, hk10_v19, hk13_v19, hk14_v19, hk15_v19, hk17_v19, hk18_v19, hk24_v19, hk25_v19, hk35_v19, hk36_v19, hk38_v19, hk39_v19⟩ := hw
              have hM_v19 : KV [] v19 v := KV.tr kV_v19 hM_v3 rfl
              have hA_f20 : KF [7, 8, 24] f20 f := KF.tr kF_f20 hA_f4 rfl
              have hP : va_P (dC, dI) vwCl (YW cy y0 r v19 f20 w21 g22) H := hP
              have hD : va_D A (YW cy y0 r v19 f20 w21 g22) := hD
              have hUv19 : (v19 35).toInt + (v19 36).toInt ≤ 40 := hIv19.2
              have hq9_v19 : v19 9 = (v 9) := hk9_v19.trans hq9_v3
              have zq9_v19 := congrArg Int32.toInt hq9_v19
              exact ret r18 (v19, f20, w21, g22) _ _ _ _ _ _ rfl ⟨hM_v19, hA_f20, hIv19, hCf20, hRf20, (hk0_v19.trans hk0_v3), (hk1_v19.trans hk1_v3), (hk2_v19.trans hk2_v3), (hk3_v19.trans hk3_v3), (hk4_v19.trans hk4_v3), (hk5_v19.trans hk5_v3), (hk8_v19.trans hk8_v3), (hk9_v19.trans hk9_v3), (hk10_v19.trans hk10_v3), (hk13_v19.trans hk13_v3), (hk14_v19.trans hk14_v3), (hk15_v19.trans hk15_v3), (hk17_v19.trans hk17_v3), (hk18_v19.trans hk18_v3), (hk24_v19.trans hk24_v3), (hk25_v19.trans hk25_v3), (hk35_v19.trans hk35_v3), (hk36_v19.trans hk36_v3), (hk38_v19.trans hk38_v3), (hk39_v19.trans hk39_v3)⟩ hP hD hS dX11_man_88 (Nat.le_refl _) (Nat.le_refl _)
            · skip
              have zc17 : ¬ (p2.toInt = 4) := by rw [fa_eq, show (4 : Int32).toInt = 4 from by decide] at c17; exact c17
              refine lv_tableOut (tgt := 89) hx hb dX11_man_16 (by omega) (by decide) ?_
              refine lv_bipush (v := (-2)) hx hb dX11_man_89 (by decide) ?_
              exact ret (-2) (v3, f4, w5, g6) _ _ _ _ _ _ rfl ⟨hM_v3, hA_f4, hIv3, hCf4, hRf4, hk0_v3, hk1_v3, hk2_v3, hk3_v3, hk4_v3, hk5_v3, hk8_v3, hk9_v3, hk10_v3, hk13_v3, hk14_v3, hk15_v3, hk17_v3, hk18_v3, hk24_v3, hk25_v3, hk35_v3, hk36_v3, hk38_v3, hk39_v3⟩ hP hD hS dX11_man_91 (Nat.le_refl _) (Nat.le_refl _)
  · skip
    subst g2
    refine lv_if_ne (tgt := 11) hx hb dX11_man_5 (by decide) (fun c0 => absurd (by decide) c0) (fun _ => ?_)
    refine lv_bipush (v := (-2)) hx hb dX11_man_8 (by decide) ?_
    exact ret (-2) (v, f, w, g) _ _ _ _ _ _ rfl ⟨hM_v, hA_f, hIv, hCf, hRf, rfl, rfl, rfl, rfl, rfl, rfl, rfl, rfl, rfl, rfl, rfl, rfl, rfl, rfl, rfl, rfl, rfl, rfl, rfl, rfl⟩ hP hD hS dX11_man_10 (Nat.le_refl _) (Nat.le_refl _)
set_option maxHeartbeats 4000000 in
set_option maxRecDepth 100000 in
theorem sY_X11_isCoat_1 (l : Launch) (dC : Nat → ClassId) (dI : Nat → Nat → Nat) (cy : Nat → ClassId) (y0 : Nat) (r : Nat → Nat) (p1 : Int32) (v : Nat → Int32) (f : Nat → Nat → Int32) (w : Int64) (g : Nat → Int64) (hIv : YI v) (hCf : YC f) (hRf : progOK (f 4) (f 5) (v 9).toInt.toNat)  : ctI l (dC, dI) cy yX11_isCoat cX11_isCoat 2 .boolean 2 82 0 0 Unit [.ref y0, .int p1] (YW cy y0 r v f w g) (fun r u => ((r = 1 ∧ 0 ≤ p1.toInt ∧ p1.toInt < (v 25).toInt ∧ p1.toInt ≤ 5) ∨ (r = 0))) (fun u => YW cy y0 r v f w g) := by
  refine ctI_of (by decide) (Nat.le_of_ble_eq_true rfl) (fun p e s m below meth c A ls Q hx hb hml hts hown hE hP hD hA hl ret => ?_)
  have hUv : (v 35).toInt + (v 36).toInt ≤ 40 := hIv.2
  have hown : s.vm.findClass RX11 = some m.cls := hown
  have hS : va_S A s.heap s.heap [] := va_S.rf
  have hl : lv_has ls 2 [(0, .ref y0), (1, .int p1)] := hl
  refine lv_iload_n hx hb dX11_isCoat_0 rfl (lv_at hl 1 rfl) ?_
  refine lv_iconst (v := 0) hx hb dX11_isCoat_1 (by decide) ?_
  refine lv_aload_n hx hb dX11_isCoat_2 rfl (lv_at hl 0 rfl) ?_
  refine va_get (D := (dC, dI)) (ci := 11) (v := .int (v 25)) (C := RX11) (T := TX11) (N := 79) hx hb hts inB_11 hown hE.1 hP 0 rfl rfl 49 (by decide) (hts _ k_1369) (fun _ h9 => h9) rfl dX11_isCoat_3 ?_
  have b25_v : 0 ≤ (v 25).toInt ∧ (v 25).toInt ≤ 6 := YIb.b hIv.1 25 (by decide)
  refine lv_iconst (v := 1) hx hb dX11_isCoat_6 (by decide) ?_
  refine lv_isub hx hb dX11_isCoat_7 ?_
  refine lv_topi (fun t1 et1 => ?_)
  have rg2 := fb_rng (v 25)
  have zt1 : t1.toInt = (v 25).toInt - 1 := by rw [et1]; exact sub_i rfl (by decide) (by omega) (by omega)
  have lt3 : (0 : Int32).toInt = 0 := by decide
  refine cbSi (n := 3) (rest := []) hx hb hml hown hts hE hP hD hS hA (sY_X11_isIn_1 0 l dC dI cy y0 r p1 0 t1 v f w g hIv hCf hRf ) k_1736 k_1737 k_114 k_1738 (by decide +kernel) ⟨Nat.le_of_ble_eq_true rfl, Nat.le_of_ble_eq_true rfl⟩ (rfl) hl.1 rfl (Nat.le_of_ble_eq_true rfl) dX11_isCoat_8 (fun r4 u H locs hw hP hD hS => ?_)
  obtain ⟨hG5, hw⟩ := hw
  rcases hw with ⟨g6, g6_0, g6_1⟩ | ⟨g6⟩
  · skip
    subst g6
    exact ret 1 () _ _ _ _ _ _ rfl (Or.inl ⟨rfl, by omega, by omega, by omega⟩) hP hD hS dX11_isCoat_11 (Nat.le_refl _) (Nat.le_refl _)
  · skip
    subst g6
    exact ret 0 () _ _ _ _ _ _ rfl (Or.inr rfl) hP hD hS dX11_isCoat_11 (Nat.le_refl _) (Nat.le_refl _)
set_option maxHeartbeats 4000000 in
set_option maxRecDepth 100000 in
theorem sY_X11_wearer_1 (l : Launch) (dC : Nat → ClassId) (dI : Nat → Nat → Nat) (cy : Nat → ClassId) (y0 : Nat) (r : Nat → Nat) (p1 : Int32) (v : Nat → Int32) (f : Nat → Nat → Int32) (w : Int64) (g : Nat → Int64) (hIv : YI v) (hCf : YC f) (hRf : progOK (f 4) (f 5) (v 9).toInt.toNat)  : ctI l (dC, dI) cy yX11_wearer cX11_wearer 4 .int 1 60 0 0 Unit [.ref y0, .int p1] (YW cy y0 r v f w g) (fun r u => True) (fun u => YW cy y0 r v f w g) := by
  refine ctI_of (by decide) (Nat.le_of_ble_eq_true rfl) (fun p e s m below meth c A ls Q hx hb hml hts hown hE hP hD hA hl ret => ?_)
  have hUv : (v 35).toInt + (v 36).toInt ≤ 40 := hIv.2
  have hown : s.vm.findClass RX11 = some m.cls := hown
  have hS : va_S A s.heap s.heap [] := va_S.rf
  have hl : lv_has ls 4 [(0, .ref y0), (1, .int p1)] := hl
  refine lv_iconst (v := (-1)) hx hb dX11_wearer_0 (by decide) ?_
  refine lv_istore_n (lv' := [(2, .int (-1)), (0, .ref y0), (1, .int p1)]) hx hb dX11_wearer_1 rfl hl (by decide) rfl (fun ls hl => ?_)
  refine lv_iconst (v := 0) hx hb dX11_wearer_2 (by decide) ?_
  refine lv_istore_n (lv' := [(3, .int 0), (2, .int (-1)), (0, .ref y0), (1, .int p1)]) hx hb dX11_wearer_3 rfl hl (by decide) rfl (fun ls hl => ?_)
  have lp1 : ∀ (n1 : Nat) (l2_1 : Int32) (l3_1 : Int32), ((0 : Int) ≤ l3_1.toInt ∧ l3_1.toInt ≤ 2147483647) → (2147483647 - l3_1.toInt).toNat < n1 → ∀ (H : Heap) (locs : List Loc) (ls : Array Slot), va_P (dC, dI) vwCl (YW cy y0 r v f w g) H → va_D A (YW cy y0 r v f w g) → va_S A s.heap H locs → lv_has ls 4 [(3, .int l3_1), (2, .int l2_1), (0, .ref y0), (1, .int p1)] → W p l e { frames := 1, cells := 0, slots := 0, locals := 60 } s m ([.ref y0, .int p1] : List Value).toArray below meth c H locs 0 0 Q (F0 m 4 ls []) := by
    intro n1
    induction n1 with
    | zero => intro l2_1 l3_1 hr3_1 hm; exact absurd hm (Nat.not_lt_zero _)
    | succ n1 ih1 =>
      intro l2_1 l3_1 hr3_1 hm1 H locs ls hP hD hS hl
      refine lv_iload_n hx hb dX11_wearer_4 rfl (lv_at hl 0 rfl) ?_
      refine lv_aload_n hx hb dX11_wearer_5 rfl (lv_at hl 2 rfl) ?_
      refine va_get (D := (dC, dI)) (ci := 11) (v := .int (v 24)) (C := RX11) (T := TX11) (N := 79) hx hb hts inB_11 hown hE.1 hP 0 rfl rfl 48 (by decide) (hts _ k_1368) (fun _ h9 => h9) rfl dX11_wearer_6 ?_
      have b24_v : 0 ≤ (v 24).toInt ∧ (v 24).toInt ≤ 6 := YIb.b hIv.1 24 (by decide)
      refine lv_icmp_ge (tgt := 37) hx hb dX11_wearer_9 (by decide) (fun c2 => ?_) (fun c2 => ?_)
      · skip
        have zc2 : (v 24).toInt ≤ l3_1.toInt := by rw [fa_le] at c2; exact c2
        have rg3 := fb_rng l3_1
        have rg4 := fb_rng (v 24)
        refine lv_iload_n hx hb dX11_wearer_37 rfl (lv_at hl 1 rfl) ?_
        exact ret l2_1 () _ _ _ _ _ _ rfl trivial hP hD hS dX11_wearer_38 (Nat.le_refl _) (Nat.le_refl _)
      · skip
        have zc2 : ¬ ((v 24).toInt ≤ l3_1.toInt) := by rw [fa_le] at c2; exact c2
        have rg5 := fb_rng l3_1
        have rg6 := fb_rng (v 24)
        refine lv_aload_n hx hb dX11_wearer_12 rfl (lv_at hl 2 rfl) ?_
        refine va_get (D := (dC, dI)) (ci := 11) (v := .ref (r 60)) (C := RX11) (T := TX11) (N := 79) hx hb hts inB_11 hown hE.1 hP 0 rfl rfl 60 (by decide) (hts _ k_1380) (fun _ h9 => h9) rfl dX11_wearer_13 ?_
        refine lv_bipush (v := 6) hx hb dX11_wearer_16 (by decide) ?_
        refine lv_iload_n hx hb dX11_wearer_18 rfl (lv_at hl 0 rfl) ?_
        refine lv_iadd hx hb dX11_wearer_19 ?_
        refine lv_topi (fun t7 et7 => ?_)
        have zt7 : t7.toInt = 6 + l3_1.toInt := by rw [et7]; exact add_i (by decide) rfl (by omega) (by omega)
        refine ldI hx hb hE hP 25 rfl (vp_in_iff.mpr ⟨by omega, by omega⟩) rfl rfl dX11_wearer_20 ?_
        refine lv_topi (fun t8 et8 => ?_)
        have zt8 : t7.toInt.toNat % 39 < 6 ∨ 12 ≤ t7.toInt.toNat % 39 ∨ (-1 ≤ t8.toInt ∧ t8.toInt ≤ 5) := by rw [et8]; exact wear_ld hCf.2.1 (show t7.toInt.toNat < 39 by omega)
        refine lv_iload_n hx hb dX11_wearer_21 rfl (lv_at hl 3 rfl) ?_
        refine lv_icmp_ne (tgt := 29) hx hb dX11_wearer_22 (by decide) (fun c9 => ?_) (fun c9 => ?_)
        · skip
          have zc9 : ¬ (t8.toInt = p1.toInt) := by rw [fa_eq] at c9; exact c9
          have rg10 := fb_rng t8
          have rg11 := fb_rng p1
          refine lv_iload_n hx hb dX11_wearer_29 rfl (lv_at hl 1 rfl) ?_
          refine lv_istore_n (lv' := [(2, .int l2_1), (3, .int l3_1), (0, .ref y0), (1, .int p1)]) hx hb dX11_wearer_30 rfl hl (by decide) rfl (fun ls hl => ?_)
          obtain ⟨t12, et12⟩ : ∃ y : Int32, y = l3_1 + 1 := ⟨_, rfl⟩
          have zt12 : t12.toInt = l3_1.toInt + 1 := by rw [et12]; exact add_i rfl (by decide) (by omega) (by omega)
          refine lv_iinc (v := t12) (lv' := [(3, .int t12), (2, .int l2_1), (0, .ref y0), (1, .int p1)]) hx hb dX11_wearer_31 hl (k := 1) rfl (by rw [et12]; rfl) (by decide) rfl (fun ls hl => ?_)
          refine lv_goto (tgt := 4) hx hb dX11_wearer_34 (by decide) ?_
          have rg13 := fb_rng t12
          exact ih1 l2_1 t12 ⟨show (0 : Int) ≤ t12.toInt by omega, show t12.toInt ≤ (2147483647 : Int) by omega⟩ (by show (2147483647 - t12.toInt).toNat < n1; omega) _ _ _ hP hD hS (lv_sub hl [0, 1, 2, 3] rfl)
        · skip
          have zc9 : t8.toInt = p1.toInt := by rw [fa_eq] at c9; exact c9
          have rg14 := fb_rng t8
          have rg15 := fb_rng p1
          refine lv_iload_n hx hb dX11_wearer_25 rfl (lv_at hl 0 rfl) ?_
          refine lv_goto (tgt := 30) hx hb dX11_wearer_26 (by decide) ?_
          refine lv_istore_n (lv' := [(2, .int l3_1), (3, .int l3_1), (0, .ref y0), (1, .int p1)]) hx hb dX11_wearer_30 rfl hl (by decide) rfl (fun ls hl => ?_)
          obtain ⟨t16, et16⟩ : ∃ y : Int32, y = l3_1 + 1 := ⟨_, rfl⟩
          have zt16 : t16.toInt = l3_1.toInt + 1 := by rw [et16]; exact add_i rfl (by decide) (by omega) (by omega)
          refine lv_iinc (v := t16) (lv' := [(3, .int t16), (2, .int l3_1), (0, .ref y0), (1, .int p1)]) hx hb dX11_wearer_31 hl (k := 1) rfl (by rw [et16]; rfl) (by decide) rfl (fun ls hl => ?_)
          refine lv_goto (tgt := 4) hx hb dX11_wearer_34 (by decide) ?_
          have rg17 := fb_rng t16
          exact ih1 l3_1 t16 ⟨show (0 : Int) ≤ t16.toInt by omega, show t16.toInt ≤ (2147483647 : Int) by omega⟩ (by show (2147483647 - t16.toInt).toNat < n1; omega) _ _ _ hP hD hS (lv_sub hl [0, 1, 2, 3] rfl)
  exact lp1 _ (-1) 0 ⟨by decide, by decide⟩ (Nat.lt_succ_self _) _ _ _ hP hD hS (lv_sub hl [0, 1, 2, 3] rfl)
set_option maxHeartbeats 4000000 in
set_option maxRecDepth 100000 in
theorem sY_X11_coat_1 (l : Launch) (dC : Nat → ClassId) (dI : Nat → Nat → Nat) (cy : Nat → ClassId) (y0 : Nat) (r : Nat → Nat) (p1 : Int32) (p2 : Int32) (v : Nat → Int32) (f : Nat → Nat → Int32) (w : Int64) (g : Nat → Int64) (hIv : YI v) (hCf : YC f) (hRf : progOK (f 4) (f 5) (v 9).toInt.toNat)  : ctI l (dC, dI) cy yX11_coat cX11_coat 3 .int 3 103 0 0 ((Nat → Int32) × (Nat → Nat → Int32) × (Int64) × (Nat → Int64)) [.ref y0, .int p1, .int p2] (YW cy y0 r v f w g) (fun r u => KV [] u.1 v ∧ KF [24] u.2.1 f ∧ YI u.1 ∧ YC u.2.1 ∧ progOK (u.2.1 4) (u.2.1 5) (u.1 9).toInt.toNat ∧ u.1 0 = v 0 ∧ u.1 1 = v 1 ∧ u.1 2 = v 2 ∧ u.1 3 = v 3 ∧ u.1 4 = v 4 ∧ u.1 5 = v 5 ∧ u.1 8 = v 8 ∧ u.1 9 = v 9 ∧ u.1 10 = v 10 ∧ u.1 13 = v 13 ∧ u.1 14 = v 14 ∧ u.1 15 = v 15 ∧ u.1 17 = v 17 ∧ u.1 18 = v 18 ∧ u.1 24 = v 24 ∧ u.1 25 = v 25 ∧ u.1 35 = v 35 ∧ u.1 36 = v 36 ∧ u.1 38 = v 38 ∧ u.1 39 = v 39) (fun u => YW cy y0 r u.1 u.2.1 u.2.2.1 u.2.2.2) := by
  refine ctI_of (by decide) (Nat.le_of_ble_eq_true rfl) (fun p e s m below meth c A ls Q hx hb hml hts hown hE hP hD hA hl ret => ?_)
  have hUv : (v 35).toInt + (v 36).toInt ≤ 40 := hIv.2
  have hM_v : KV [] v v := fun _ _ => rfl
  have hA_f : KF [24] f f := fun _ _ => rfl
  have hown : s.vm.findClass RX11 = some m.cls := hown
  have hS : va_S A s.heap s.heap [] := va_S.rf
  have hl : lv_has ls 3 [(0, .ref y0), (1, .int p1), (2, .int p2)] := hl
  refine lv_aload_n hx hb dX11_coat_0 rfl (lv_at hl 0 rfl) ?_
  refine lv_iload_n hx hb dX11_coat_1 rfl (lv_at hl 1 rfl) ?_
  refine cbVi (n := 1) (rest := []) hx hb hml hown hts hE hP hD hS hA (sY_X11_isCoat_1 l dC dI cy y0 r p1 v f w g hIv hCf hRf ) k_1771 k_1773 k_75 k_114 k_1774 (by decide +kernel) ⟨Nat.le_of_ble_eq_true rfl, Nat.le_of_ble_eq_true rfl⟩ 0 11 rfl rfl (rfl) hl.1 rfl (Nat.le_of_ble_eq_true rfl) dX11_coat_2 (fun r1 u H locs hw hP hD hS => ?_)
  rcases hw with ⟨g2, g2_0, g2_1, g2_2⟩ | ⟨g2⟩
  · skip
    subst g2
    refine lv_if_ne (tgt := 11) hx hb dX11_coat_5 (by decide) (fun _ => ?_) (fun c0 => absurd c0 (by decide))
    refine lv_aload_n hx hb dX11_coat_11 rfl (lv_at hl 0 rfl) ?_
    refine cbVv (n := 0) (rest := []) hx hb hml hown hts hE hP hD hS hA (sY_X11_fill_1 l dC dI cy y0 r  v f w g hIv hCf hRf ) k_1739 k_1741 k_71 k_114 k_1742 (by decide +kernel) ⟨Nat.le_of_ble_eq_true rfl, Nat.le_of_ble_eq_true rfl⟩ 0 11 rfl rfl (rfl) hl.1 rfl (Nat.le_of_ble_eq_true rfl) dX11_coat_12 (fun u H locs hw hP hD hS => ?_)
    obtain ⟨v3, f4, w5, g6⟩ := u
    obtain ⟨kV_v3, kF_f4, hIv3, hCf4, hRf4, hk0_v3, hk1_v3, hk2_v3, hk3_v3, hk4_v3, hk5_v3, hk8_v3, hk9_v3, hk10_v3, hk13_v3, hk14_v3, hk15_v3, hk17_v3, hk18_v3, hk24_v3, hk25_v3, hk35_v3, hk36_v3, hk38_v3, hk39_v3⟩ := hw
    have hM_v3 : KV [] v3 v := KV.tr kV_v3 hM_v rfl
    have hA_f4 : KF [24] f4 f := KF.tr kF_f4 hA_f rfl
    have hP : va_P (dC, dI) vwCl (YW cy y0 r v3 f4 w5 g6) H := hP
    have hD : va_D A (YW cy y0 r v3 f4 w5 g6) := hD
    have hUv3 : (v3 35).toInt + (v3 36).toInt ≤ 40 := hIv3.2
    have hq9_v3 : v3 9 = (v 9) := hk9_v3
    have zq9_v3 := congrArg Int32.toInt hq9_v3
    refine lv_iload_n hx hb dX11_coat_15 rfl (lv_at hl 2 rfl) ?_
    by_cases c7 : p2 = 0
    · skip
      refine lv_tableIn (off := 40) (tgt := 56) hx hb dX11_coat_16 (by rw [c7]; decide) (by rw [c7]; decide) (by rw [c7]; decide) (by decide) ?_
      have zc7 : p2.toInt = 0 := by rw [fa_eq, show (0 : Int32).toInt = 0 from by decide] at c7; exact c7
      refine lv_aload_n hx hb dX11_coat_56 rfl (lv_at hl 0 rfl) ?_
      refine va_get (D := (dC, dI)) (ci := 11) (v := .ref (r 60)) (C := RX11) (T := TX11) (N := 79) hx hb hts inB_11 hown hE.1 hP 0 rfl rfl 60 (by decide) (hts _ k_1380) (fun _ h9 => h9) rfl dX11_coat_57 ?_
      refine lv_bipush (v := 12) hx hb dX11_coat_60 (by decide) ?_
      refine lv_iload_n hx hb dX11_coat_62 rfl (lv_at hl 1 rfl) ?_
      refine lv_iadd hx hb dX11_coat_63 ?_
      refine lv_topi (fun t8 et8 => ?_)
      have rg9 := fb_rng p1
      have zt8 : t8.toInt = 12 + p1.toInt := by rw [et8]; exact add_i (by decide) rfl (by omega) (by omega)
      refine ldI hx hb hE hP 25 rfl (vp_in_iff.mpr ⟨by omega, by omega⟩) rfl rfl dX11_coat_64 ?_
      refine lv_topi (fun t10 et10 => ?_)
      have zt10 : t8.toInt.toNat % 39 < 6 ∨ 12 ≤ t8.toInt.toNat % 39 ∨ (-1 ≤ t10.toInt ∧ t10.toInt ≤ 5) := by rw [et10]; exact wear_ld hCf4.2.1 (show t8.toInt.toNat < 39 by omega)
      exact ret t10 (v3, f4, w5, g6) _ _ _ _ _ _ rfl ⟨hM_v3, hA_f4, hIv3, hCf4, hRf4, hk0_v3, hk1_v3, hk2_v3, hk3_v3, hk4_v3, hk5_v3, hk8_v3, hk9_v3, hk10_v3, hk13_v3, hk14_v3, hk15_v3, hk17_v3, hk18_v3, hk24_v3, hk25_v3, hk35_v3, hk36_v3, hk38_v3, hk39_v3⟩ hP hD hS dX11_coat_65 (Nat.le_refl _) (Nat.le_refl _)
    · skip
      have zc7 : ¬ (p2.toInt = 0) := by rw [fa_eq, show (0 : Int32).toInt = 0 from by decide] at c7; exact c7
      by_cases c11 : p2 = 1
      · skip
        refine lv_tableIn (off := 50) (tgt := 66) hx hb dX11_coat_16 (by rw [c11]; decide) (by rw [c11]; decide) (by rw [c11]; decide) (by decide) ?_
        have zc11 : p2.toInt = 1 := by rw [fa_eq, show (1 : Int32).toInt = 1 from by decide] at c11; exact c11
        refine lv_aload_n hx hb dX11_coat_66 rfl (lv_at hl 0 rfl) ?_
        refine va_get (D := (dC, dI)) (ci := 11) (v := .ref (r 60)) (C := RX11) (T := TX11) (N := 79) hx hb hts inB_11 hown hE.1 hP 0 rfl rfl 60 (by decide) (hts _ k_1380) (fun _ h9 => h9) rfl dX11_coat_67 ?_
        refine lv_bipush (v := 18) hx hb dX11_coat_70 (by decide) ?_
        refine lv_iload_n hx hb dX11_coat_72 rfl (lv_at hl 1 rfl) ?_
        refine lv_iadd hx hb dX11_coat_73 ?_
        refine lv_topi (fun t12 et12 => ?_)
        have rg13 := fb_rng p1
        have zt12 : t12.toInt = 18 + p1.toInt := by rw [et12]; exact add_i (by decide) rfl (by omega) (by omega)
        refine ldI hx hb hE hP 25 rfl (vp_in_iff.mpr ⟨by omega, by omega⟩) rfl rfl dX11_coat_74 ?_
        refine lv_topi (fun t14 et14 => ?_)
        have zt14 : t12.toInt.toNat % 39 < 6 ∨ 12 ≤ t12.toInt.toNat % 39 ∨ (-1 ≤ t14.toInt ∧ t14.toInt ≤ 5) := by rw [et14]; exact wear_ld hCf4.2.1 (show t12.toInt.toNat < 39 by omega)
        exact ret t14 (v3, f4, w5, g6) _ _ _ _ _ _ rfl ⟨hM_v3, hA_f4, hIv3, hCf4, hRf4, hk0_v3, hk1_v3, hk2_v3, hk3_v3, hk4_v3, hk5_v3, hk8_v3, hk9_v3, hk10_v3, hk13_v3, hk14_v3, hk15_v3, hk17_v3, hk18_v3, hk24_v3, hk25_v3, hk35_v3, hk36_v3, hk38_v3, hk39_v3⟩ hP hD hS dX11_coat_75 (Nat.le_refl _) (Nat.le_refl _)
      · skip
        have zc11 : ¬ (p2.toInt = 1) := by rw [fa_eq, show (1 : Int32).toInt = 1 from by decide] at c11; exact c11
        by_cases c15 : p2 = 2
        · skip
          refine lv_tableIn (off := 60) (tgt := 76) hx hb dX11_coat_16 (by rw [c15]; decide) (by rw [c15]; decide) (by rw [c15]; decide) (by decide) ?_
          have zc15 : p2.toInt = 2 := by rw [fa_eq, show (2 : Int32).toInt = 2 from by decide] at c15; exact c15
          refine lv_aload_n hx hb dX11_coat_76 rfl (lv_at hl 0 rfl) ?_
          refine va_get (D := (dC, dI)) (ci := 11) (v := .ref (r 60)) (C := RX11) (T := TX11) (N := 79) hx hb hts inB_11 hown hE.1 hP 0 rfl rfl 60 (by decide) (hts _ k_1380) (fun _ h9 => h9) rfl dX11_coat_77 ?_
          refine lv_bipush (v := 24) hx hb dX11_coat_80 (by decide) ?_
          refine lv_iload_n hx hb dX11_coat_82 rfl (lv_at hl 1 rfl) ?_
          refine lv_iadd hx hb dX11_coat_83 ?_
          refine lv_topi (fun t16 et16 => ?_)
          have rg17 := fb_rng p1
          have zt16 : t16.toInt = 24 + p1.toInt := by rw [et16]; exact add_i (by decide) rfl (by omega) (by omega)
          refine ldI hx hb hE hP 25 rfl (vp_in_iff.mpr ⟨by omega, by omega⟩) rfl rfl dX11_coat_84 ?_
          refine lv_topi (fun t18 et18 => ?_)
          have zt18 : t16.toInt.toNat % 39 < 6 ∨ 12 ≤ t16.toInt.toNat % 39 ∨ (-1 ≤ t18.toInt ∧ t18.toInt ≤ 5) := by rw [et18]; exact wear_ld hCf4.2.1 (show t16.toInt.toNat < 39 by omega)
          exact ret t18 (v3, f4, w5, g6) _ _ _ _ _ _ rfl ⟨hM_v3, hA_f4, hIv3, hCf4, hRf4, hk0_v3, hk1_v3, hk2_v3, hk3_v3, hk4_v3, hk5_v3, hk8_v3, hk9_v3, hk10_v3, hk13_v3, hk14_v3, hk15_v3, hk17_v3, hk18_v3, hk24_v3, hk25_v3, hk35_v3, hk36_v3, hk38_v3, hk39_v3⟩ hP hD hS dX11_coat_85 (Nat.le_refl _) (Nat.le_refl _)
        · skip
          have zc15 : ¬ (p2.toInt = 2) := by rw [fa_eq, show (2 : Int32).toInt = 2 from by decide] at c15; exact c15
          by_cases c19 : p2 = 3
          · skip
            refine lv_tableIn (off := 70) (tgt := 86) hx hb dX11_coat_16 (by rw [c19]; decide) (by rw [c19]; decide) (by rw [c19]; decide) (by decide) ?_
            have zc19 : p2.toInt = 3 := by rw [fa_eq, show (3 : Int32).toInt = 3 from by decide] at c19; exact c19
            refine lv_aload_n hx hb dX11_coat_86 rfl (lv_at hl 0 rfl) ?_
            refine va_get (D := (dC, dI)) (ci := 11) (v := .ref (r 60)) (C := RX11) (T := TX11) (N := 79) hx hb hts inB_11 hown hE.1 hP 0 rfl rfl 60 (by decide) (hts _ k_1380) (fun _ h9 => h9) rfl dX11_coat_87 ?_
            refine lv_bipush (v := 30) hx hb dX11_coat_90 (by decide) ?_
            refine lv_iload_n hx hb dX11_coat_92 rfl (lv_at hl 1 rfl) ?_
            refine lv_iadd hx hb dX11_coat_93 ?_
            refine lv_topi (fun t20 et20 => ?_)
            have rg21 := fb_rng p1
            have zt20 : t20.toInt = 30 + p1.toInt := by rw [et20]; exact add_i (by decide) rfl (by omega) (by omega)
            refine ldI hx hb hE hP 25 rfl (vp_in_iff.mpr ⟨by omega, by omega⟩) rfl rfl dX11_coat_94 ?_
            refine lv_topi (fun t22 et22 => ?_)
            have zt22 : t20.toInt.toNat % 39 < 6 ∨ 12 ≤ t20.toInt.toNat % 39 ∨ (-1 ≤ t22.toInt ∧ t22.toInt ≤ 5) := by rw [et22]; exact wear_ld hCf4.2.1 (show t20.toInt.toNat < 39 by omega)
            exact ret t22 (v3, f4, w5, g6) _ _ _ _ _ _ rfl ⟨hM_v3, hA_f4, hIv3, hCf4, hRf4, hk0_v3, hk1_v3, hk2_v3, hk3_v3, hk4_v3, hk5_v3, hk8_v3, hk9_v3, hk10_v3, hk13_v3, hk14_v3, hk15_v3, hk17_v3, hk18_v3, hk24_v3, hk25_v3, hk35_v3, hk36_v3, hk38_v3, hk39_v3⟩ hP hD hS dX11_coat_95 (Nat.le_refl _) (Nat.le_refl _)
          · skip
            have zc19 : ¬ (p2.toInt = 3) := by rw [fa_eq, show (3 : Int32).toInt = 3 from by decide] at c19; exact c19
            by_cases c23 : p2 = 4
            · skip
              refine lv_tableIn (off := 80) (tgt := 96) hx hb dX11_coat_16 (by rw [c23]; decide) (by rw [c23]; decide) (by rw [c23]; decide) (by decide) ?_
              have zc23 : p2.toInt = 4 := by rw [fa_eq, show (4 : Int32).toInt = 4 from by decide] at c23; exact c23
              refine lv_aload_n hx hb dX11_coat_96 rfl (lv_at hl 0 rfl) ?_
              refine va_get (D := (dC, dI)) (ci := 11) (v := .ref (r 60)) (C := RX11) (T := TX11) (N := 79) hx hb hts inB_11 hown hE.1 hP 0 rfl rfl 60 (by decide) (hts _ k_1380) (fun _ h9 => h9) rfl dX11_coat_97 ?_
              refine lv_bipush (v := 36) hx hb dX11_coat_100 (by decide) ?_
              refine ldI hx hb hE hP 25 rfl (vp_in_nI (n := 36) (by decide) (by decide)) rfl rfl dX11_coat_102 ?_
              refine lv_topi (fun t24 et24 => ?_)
              have zt24 : 36 % 39 < 6 ∨ 12 ≤ 36 % 39 ∨ (-1 ≤ t24.toInt ∧ t24.toInt ≤ 5) := by rw [et24]; exact wear_ld hCf4.2.1 (show 36 < 39 by omega)
              refine lv_iload_n hx hb dX11_coat_103 rfl (lv_at hl 1 rfl) ?_
              refine lv_ishr hx hb dX11_coat_104 ?_
              refine lv_topi (fun t25 et25 => ?_)
              refine lv_iconst (v := 1) hx hb dX11_coat_105 (by decide) ?_
              refine lv_iand hx hb dX11_coat_106 ?_
              refine lv_topi (fun t26 et26 => ?_)
              have zt26 : 0 ≤ t26.toInt ∧ t26.toInt < 2 := by rw [et26]; exact and_rng _ (k := 1) (by decide) (by decide)
              exact ret t26 (v3, f4, w5, g6) _ _ _ _ _ _ rfl ⟨hM_v3, hA_f4, hIv3, hCf4, hRf4, hk0_v3, hk1_v3, hk2_v3, hk3_v3, hk4_v3, hk5_v3, hk8_v3, hk9_v3, hk10_v3, hk13_v3, hk14_v3, hk15_v3, hk17_v3, hk18_v3, hk24_v3, hk25_v3, hk35_v3, hk36_v3, hk38_v3, hk39_v3⟩ hP hD hS dX11_coat_107 (Nat.le_refl _) (Nat.le_refl _)
            · skip
              have zc23 : ¬ (p2.toInt = 4) := by rw [fa_eq, show (4 : Int32).toInt = 4 from by decide] at c23; exact c23
              by_cases c27 : p2 = 5
              · skip
                refine lv_tableIn (off := 92) (tgt := 108) hx hb dX11_coat_16 (by rw [c27]; decide) (by rw [c27]; decide) (by rw [c27]; decide) (by decide) ?_
                have zc27 : p2.toInt = 5 := by rw [fa_eq, show (5 : Int32).toInt = 5 from by decide] at c27; exact c27
                refine lv_aload_n hx hb dX11_coat_108 rfl (lv_at hl 0 rfl) ?_
                refine lv_iload_n hx hb dX11_coat_109 rfl (lv_at hl 1 rfl) ?_
                refine cbVi (n := 1) (rest := []) hx hb hml hown hts hE hP hD hS hA (sY_X11_wearer_1 l dC dI cy y0 r p1 v3 f4 w5 g6 hIv3 hCf4 hRf4 ) k_1775 k_1777 k_76 k_114 k_1778 (by decide +kernel) ⟨Nat.le_of_ble_eq_true rfl, Nat.le_of_ble_eq_true rfl⟩ 0 11 rfl rfl (rfl) hl.1 rfl (Nat.le_of_ble_eq_true rfl) dX11_coat_110 (fun r28 u H locs hw hP hD hS => ?_)
                exact ret r28 (v3, f4, w5, g6) _ _ _ _ _ _ rfl ⟨hM_v3, hA_f4, hIv3, hCf4, hRf4, hk0_v3, hk1_v3, hk2_v3, hk3_v3, hk4_v3, hk5_v3, hk8_v3, hk9_v3, hk10_v3, hk13_v3, hk14_v3, hk15_v3, hk17_v3, hk18_v3, hk24_v3, hk25_v3, hk35_v3, hk36_v3, hk38_v3, hk39_v3⟩ hP hD hS dX11_coat_113 (Nat.le_refl _) (Nat.le_refl _)
              · skip
                have zc27 : ¬ (p2.toInt = 5) := by rw [fa_eq, show (5 : Int32).toInt = 5 from by decide] at c27; exact c27
                refine lv_tableOut (tgt := 114) hx hb dX11_coat_16 (by omega) (by decide) ?_
                refine lv_bipush (v := (-2)) hx hb dX11_coat_114 (by decide) ?_
                exact ret (-2) (v3, f4, w5, g6) _ _ _ _ _ _ rfl ⟨hM_v3, hA_f4, hIv3, hCf4, hRf4, hk0_v3, hk1_v3, hk2_v3, hk3_v3, hk4_v3, hk5_v3, hk8_v3, hk9_v3, hk10_v3, hk13_v3, hk14_v3, hk15_v3, hk17_v3, hk18_v3, hk24_v3, hk25_v3, hk35_v3, hk36_v3, hk38_v3, hk39_v3⟩ hP hD hS dX11_coat_116 (Nat.le_refl _) (Nat.le_refl _)
  · skip
    subst g2
    refine lv_if_ne (tgt := 11) hx hb dX11_coat_5 (by decide) (fun c0 => absurd (by decide) c0) (fun _ => ?_)
    refine lv_bipush (v := (-2)) hx hb dX11_coat_8 (by decide) ?_
    exact ret (-2) (v, f, w, g) _ _ _ _ _ _ rfl ⟨hM_v, hA_f, hIv, hCf, hRf, rfl, rfl, rfl, rfl, rfl, rfl, rfl, rfl, rfl, rfl, rfl, rfl, rfl, rfl, rfl, rfl, rfl, rfl, rfl, rfl⟩ hP hD hS dX11_coat_10 (Nat.le_refl _) (Nat.le_refl _)
set_option maxHeartbeats 4000000 in
set_option maxRecDepth 100000 in
theorem sY_X11_misfit_1 (l : Launch) (dC : Nat → ClassId) (dI : Nat → Nat → Nat) (cy : Nat → ClassId) (y0 : Nat) (r : Nat → Nat) (p1 : Int32) (p2 : Int32) (v : Nat → Int32) (f : Nat → Nat → Int32) (w : Int64) (g : Nat → Int64) (hIv : YI v) (hCf : YC f) (hRf : progOK (f 4) (f 5) (v 9).toInt.toNat)  : ctI l (dC, dI) cy yX11_misfit cX11_misfit 3 .int 4 126 0 0 ((Nat → Int32) × (Nat → Nat → Int32) × (Int64) × (Nat → Int64)) [.ref y0, .int p1, .int p2] (YW cy y0 r v f w g) (fun r u => KV [] u.1 v ∧ KF [7, 8, 24] u.2.1 f ∧ YI u.1 ∧ YC u.2.1 ∧ progOK (u.2.1 4) (u.2.1 5) (u.1 9).toInt.toNat ∧ u.1 0 = v 0 ∧ u.1 1 = v 1 ∧ u.1 2 = v 2 ∧ u.1 3 = v 3 ∧ u.1 4 = v 4 ∧ u.1 5 = v 5 ∧ u.1 8 = v 8 ∧ u.1 9 = v 9 ∧ u.1 10 = v 10 ∧ u.1 13 = v 13 ∧ u.1 14 = v 14 ∧ u.1 15 = v 15 ∧ u.1 17 = v 17 ∧ u.1 18 = v 18 ∧ u.1 24 = v 24 ∧ u.1 25 = v 25 ∧ u.1 35 = v 35 ∧ u.1 36 = v 36 ∧ u.1 38 = v 38 ∧ u.1 39 = v 39) (fun u => YW cy y0 r u.1 u.2.1 u.2.2.1 u.2.2.2) := by
  refine ctI_of (by decide) (Nat.le_of_ble_eq_true rfl) (fun p e s m below meth c A ls Q hx hb hml hts hown hE hP hD hA hl ret => ?_)
  have hUv : (v 35).toInt + (v 36).toInt ≤ 40 := hIv.2
  have hM_v : KV [] v v := fun _ _ => rfl
  have hA_f : KF [7, 8, 24] f f := fun _ _ => rfl
  have hown : s.vm.findClass RX11 = some m.cls := hown
  have hS : va_S A s.heap s.heap [] := va_S.rf
  have hl : lv_has ls 3 [(0, .ref y0), (1, .int p1), (2, .int p2)] := hl
  refine lv_aload_n hx hb dX11_misfit_0 rfl (lv_at hl 0 rfl) ?_
  refine cbVv (n := 0) (rest := []) hx hb hml hown hts hE hP hD hS hA (sY_X11_fill_1 l dC dI cy y0 r  v f w g hIv hCf hRf ) k_1739 k_1741 k_71 k_114 k_1742 (by decide +kernel) ⟨Nat.le_of_ble_eq_true rfl, Nat.le_of_ble_eq_true rfl⟩ 0 11 rfl rfl (rfl) hl.1 rfl (Nat.le_of_ble_eq_true rfl) dX11_misfit_1 (fun u H locs hw hP hD hS => ?_)
  obtain ⟨v1, f2, w3, g4⟩ := u
  obtain ⟨kV_v1, kF_f2, hIv1, hCf2, hRf2, hk0_v1, hk1_v1, hk2_v1, hk3_v1, hk4_v1, hk5_v1, hk8_v1, hk9_v1, hk10_v1, hk13_v1, hk14_v1, hk15_v1, hk17_v1, hk18_v1, hk24_v1, hk25_v1, hk35_v1, hk36_v1, hk38_v1, hk39_v1⟩ := hw
  have hM_v1 : KV [] v1 v := KV.tr kV_v1 hM_v rfl
  have hA_f2 : KF [7, 8, 24] f2 f := KF.tr kF_f2 hA_f rfl
  have hP : va_P (dC, dI) vwCl (YW cy y0 r v1 f2 w3 g4) H := hP
  have hD : va_D A (YW cy y0 r v1 f2 w3 g4) := hD
  have hUv1 : (v1 35).toInt + (v1 36).toInt ≤ 40 := hIv1.2
  have hq9_v1 : v1 9 = (v 9) := hk9_v1
  have zq9_v1 := congrArg Int32.toInt hq9_v1
  refine lv_aload_n hx hb dX11_misfit_4 rfl (lv_at hl 0 rfl) ?_
  refine lv_iload_n hx hb dX11_misfit_5 rfl (lv_at hl 1 rfl) ?_
  refine cbVi (n := 1) (rest := []) hx hb hml hown hts hE hP hD hS hA (sY_X11_isMan_1 l dC dI cy y0 r p1 v1 f2 w3 g4 hIv1 hCf2 hRf2 ) k_1732 k_1734 k_70 k_114 k_1735 (by decide +kernel) ⟨Nat.le_of_ble_eq_true rfl, Nat.le_of_ble_eq_true rfl⟩ 0 11 rfl rfl (rfl) hl.1 rfl (Nat.le_of_ble_eq_true rfl) dX11_misfit_6 (fun r5 u H locs hw hP hD hS => ?_)
  rcases hw with ⟨g6, g6_0, g6_1, g6_2⟩ | ⟨g6⟩
  · skip
    subst g6
    refine lv_if_eq (tgt := 29) hx hb dX11_misfit_9 (by decide) (fun c0 => absurd c0 (by decide)) (fun _ => ?_)
    refine lv_aload_n hx hb dX11_misfit_12 rfl (lv_at hl 0 rfl) ?_
    refine lv_iload_n hx hb dX11_misfit_13 rfl (lv_at hl 2 rfl) ?_
    refine cbVi (n := 1) (rest := []) hx hb hml hown hts hE hP hD hS hA (sY_X11_isCoat_1 l dC dI cy y0 r p2 v1 f2 w3 g4 hIv1 hCf2 hRf2 ) k_1771 k_1773 k_75 k_114 k_1774 (by decide +kernel) ⟨Nat.le_of_ble_eq_true rfl, Nat.le_of_ble_eq_true rfl⟩ 0 11 rfl rfl (rfl) hl.1 rfl (Nat.le_of_ble_eq_true rfl) dX11_misfit_14 (fun r7 u H locs hw hP hD hS => ?_)
    rcases hw with ⟨g8, g8_0, g8_1, g8_2⟩ | ⟨g8⟩
    · skip
      subst g8
      refine lv_if_eq (tgt := 29) hx hb dX11_misfit_17 (by decide) (fun c0 => absurd c0 (by decide)) (fun _ => ?_)
      refine lv_aload_n hx hb dX11_misfit_20 rfl (lv_at hl 0 rfl) ?_
      refine lv_iload_n hx hb dX11_misfit_21 rfl (lv_at hl 1 rfl) ?_
      refine lv_iload_n hx hb dX11_misfit_22 rfl (lv_at hl 2 rfl) ?_
      refine cbVi (n := 2) (rest := []) hx hb hml hown hts hE hP hD hS hA (sY_X11_misfitOf_1 l dC dI cy y0 r p1 p2 v1 f2 w3 g4 hIv1 hCf2 hRf2 ⟨show (0 : Int) ≤ p1.toInt by omega, show p1.toInt ≤ (5 : Int) by omega⟩ ⟨show (0 : Int) ≤ p2.toInt by omega, show p2.toInt ≤ (5 : Int) by omega⟩) k_1751 k_1753 k_74 k_114 k_1754 (by decide +kernel) ⟨Nat.le_of_ble_eq_true rfl, Nat.le_of_ble_eq_true rfl⟩ 0 11 rfl rfl (rfl) hl.1 rfl (Nat.le_of_ble_eq_true rfl) dX11_misfit_23 (fun r9 u H locs hw hP hD hS => ?_)
      obtain ⟨v10, f11, w12, g13⟩ := u
      obtain ⟨kV_v10, kF_f11, hIv10, hCf11, hRf11, hk0_v10, hk1_v10, hk2_v10, hk3_v10, hk4_v10, hk5_v10, hk8_v10, hk9_v10, hk10_v10, hk13_v10, hk14_v10, hk15_v10, hk17_v10, hk18_v10, hk24_v10, hk25_v10, hk35_v10, hk36_v10, hk38_v10, hk39_v10⟩ := hw
      have hM_v10 : KV [] v10 v := KV.tr kV_v10 hM_v1 rfl
      have hA_f11 : KF [7, 8, 24] f11 f := KF.tr kF_f11 hA_f2 rfl
      have hP : va_P (dC, dI) vwCl (YW cy y0 r v10 f11 w12 g13) H := hP
      have hD : va_D A (YW cy y0 r v10 f11 w12 g13) := hD
      have hUv10 : (v10 35).toInt + (v10 36).toInt ≤ 40 := hIv10.2
      have hq9_v10 : v10 9 = (v 9) := hk9_v10.trans hq9_v1
      have zq9_v10 := congrArg Int32.toInt hq9_v10
      refine lv_goto (tgt := 30) hx hb dX11_misfit_26 (by decide) ?_
      exact ret r9 (v10, f11, w12, g13) _ _ _ _ _ _ rfl ⟨hM_v10, hA_f11, hIv10, hCf11, hRf11, (hk0_v10.trans hk0_v1), (hk1_v10.trans hk1_v1), (hk2_v10.trans hk2_v1), (hk3_v10.trans hk3_v1), (hk4_v10.trans hk4_v1), (hk5_v10.trans hk5_v1), (hk8_v10.trans hk8_v1), (hk9_v10.trans hk9_v1), (hk10_v10.trans hk10_v1), (hk13_v10.trans hk13_v1), (hk14_v10.trans hk14_v1), (hk15_v10.trans hk15_v1), (hk17_v10.trans hk17_v1), (hk18_v10.trans hk18_v1), (hk24_v10.trans hk24_v1), (hk25_v10.trans hk25_v1), (hk35_v10.trans hk35_v1), (hk36_v10.trans hk36_v1), (hk38_v10.trans hk38_v1), (hk39_v10.trans hk39_v1)⟩ hP hD hS dX11_misfit_30 (Nat.le_refl _) (Nat.le_refl _)
    · skip
      subst g8
      refine lv_if_eq (tgt := 29) hx hb dX11_misfit_17 (by decide) (fun _ => ?_) (fun c0 => absurd (by decide) c0)
      refine lv_iconst (v := (-1)) hx hb dX11_misfit_29 (by decide) ?_
      exact ret (-1) (v1, f2, w3, g4) _ _ _ _ _ _ rfl ⟨hM_v1, hA_f2, hIv1, hCf2, hRf2, hk0_v1, hk1_v1, hk2_v1, hk3_v1, hk4_v1, hk5_v1, hk8_v1, hk9_v1, hk10_v1, hk13_v1, hk14_v1, hk15_v1, hk17_v1, hk18_v1, hk24_v1, hk25_v1, hk35_v1, hk36_v1, hk38_v1, hk39_v1⟩ hP hD hS dX11_misfit_30 (Nat.le_refl _) (Nat.le_refl _)
  · skip
    subst g6
    refine lv_if_eq (tgt := 29) hx hb dX11_misfit_9 (by decide) (fun _ => ?_) (fun c0 => absurd (by decide) c0)
    refine lv_iconst (v := (-1)) hx hb dX11_misfit_29 (by decide) ?_
    exact ret (-1) (v1, f2, w3, g4) _ _ _ _ _ _ rfl ⟨hM_v1, hA_f2, hIv1, hCf2, hRf2, hk0_v1, hk1_v1, hk2_v1, hk3_v1, hk4_v1, hk5_v1, hk8_v1, hk9_v1, hk10_v1, hk13_v1, hk14_v1, hk15_v1, hk17_v1, hk18_v1, hk24_v1, hk25_v1, hk35_v1, hk36_v1, hk38_v1, hk39_v1⟩ hP hD hS dX11_misfit_30 (Nat.le_refl _) (Nat.le_refl _)
set_option maxHeartbeats 4000000 in
set_option maxRecDepth 100000 in
theorem sY_X11_act_1 (l : Launch) (dC : Nat → ClassId) (dI : Nat → Nat → Nat) (cy : Nat → ClassId) (y0 : Nat) (r : Nat → Nat)  (v : Nat → Int32) (f : Nat → Nat → Int32) (w : Int64) (g : Nat → Int64) (hIv : YI v) (hCf : YC f) (hRf : progOK (f 4) (f 5) (v 9).toInt.toNat)  : ctV l (dC, dI) cy yX11_act cX11_act 2 2 81 0 0 ((Nat → Int32) × (Nat → Nat → Int32) × (Int64) × (Nat → Int64)) [.ref y0] (YW cy y0 r v f w g) (fun u => KV [35, 36] u.1 v ∧ KF [24, 25] u.2.1 f ∧ YI u.1 ∧ YC u.2.1 ∧ progOK (u.2.1 4) (u.2.1 5) (u.1 9).toInt.toNat ∧ u.1 0 = v 0 ∧ u.1 1 = v 1 ∧ u.1 2 = v 2 ∧ u.1 3 = v 3 ∧ u.1 4 = v 4 ∧ u.1 5 = v 5 ∧ u.1 8 = v 8 ∧ u.1 9 = v 9 ∧ u.1 10 = v 10 ∧ u.1 13 = v 13 ∧ u.1 14 = v 14 ∧ u.1 15 = v 15 ∧ u.1 17 = v 17 ∧ u.1 18 = v 18 ∧ u.1 24 = v 24 ∧ u.1 25 = v 25 ∧ u.1 38 = v 38 ∧ u.1 39 = v 39) (fun u => YW cy y0 r u.1 u.2.1 u.2.2.1 u.2.2.2) := by
  refine ctV_of (by decide) (Nat.le_of_ble_eq_true rfl) (fun p e s m below meth c A ls Q hx hb hml hts hown hnm hE hP hD hA hl ret => ?_)
  have hUv : (v 35).toInt + (v 36).toInt ≤ 40 := hIv.2
  have hM_v : KV [35, 36] v v := fun _ _ => rfl
  have hA_f : KF [24, 25] f f := fun _ _ => rfl
  have hown : s.vm.findClass RX11 = some m.cls := hown
  have hS : va_S A s.heap s.heap [] := va_S.rf
  have hl : lv_has ls 2 [(0, .ref y0)] := hl
  refine lv_aload_n hx hb dX11_act_0 rfl (lv_at hl 0 rfl) ?_
  refine va_get (D := (dC, dI)) (ci := 11) (v := .int (v 35)) (C := RX11) (T := TX11) (N := 79) hx hb hts inB_11 hown hE.1 hP 0 rfl rfl 62 (by decide) (hts _ k_1382) (fun _ h9 => h9) rfl dX11_act_1 ?_
  have b35_v : 0 ≤ (v 35).toInt ∧ (v 35).toInt ≤ 40 := YIb.b hIv.1 35 (by decide)
  refine lv_bipush (v := 40) hx hb dX11_act_4 (by decide) ?_
  refine lv_icmp_ne (tgt := 49) hx hb dX11_act_6 (by decide) (fun c1 => ?_) (fun c1 => ?_)
  · skip
    have zc1 : ¬ ((v 35).toInt = 40) := by rw [fa_eq, show (40 : Int32).toInt = 40 from by decide] at c1; exact c1
    refine lv_iconst (v := 0) hx hb dX11_act_49 (by decide) ?_
    refine lv_istore_n (lv' := [(1, .int 0), (0, .ref y0)]) hx hb dX11_act_50 rfl hl (by decide) rfl (fun ls hl => ?_)
    have lp2 : ∀ (n2 : Nat) (l1_2 : Int32) (v2 : Nat → Int32) (f2 : Nat → Nat → Int32) (w2 : Int64) (g2 : Nat → Int64), YI v2 → YC f2 → progOK (f2 4) (f2 5) (v2 9).toInt.toNat → v2 0 = (v 0) → v2 1 = (v 1) → v2 2 = (v 2) → v2 3 = (v 3) → v2 4 = (v 4) → v2 5 = (v 5) → v2 8 = (v 8) → v2 9 = (v 9) → v2 10 = (v 10) → v2 13 = (v 13) → v2 14 = (v 14) → v2 15 = (v 15) → v2 17 = (v 17) → v2 18 = (v 18) → v2 24 = (v 24) → v2 25 = (v 25) → v2 35 = (v 35) → v2 36 = (v 36) → v2 38 = (v 38) → v2 39 = (v 39) → ((0 : Int) ≤ l1_2.toInt ∧ l1_2.toInt ≤ 2147483647) → KV [35, 36] v2 v → KF [24, 25] f2 f → (2147483647 - l1_2.toInt).toNat < n2 → ∀ (H : Heap) (locs : List Loc) (ls : Array Slot), va_P (dC, dI) vwCl (YW cy y0 r v2 f2 w2 g2) H → va_D A (YW cy y0 r v2 f2 w2 g2) → va_S A s.heap H locs → lv_has ls 2 [(1, .int l1_2), (0, .ref y0)] → W p l e { frames := 2, cells := 0, slots := 0, locals := 81 } s m ([.ref y0] : List Value).toArray below meth c H locs 0 0 Q (F0 m 51 ls []) := by
      intro n2
      induction n2 with
      | zero => intro l1_2 v2 f2 w2 g2 hIv2 hCf2 hRf2 hq0_v2 hq1_v2 hq2_v2 hq3_v2 hq4_v2 hq5_v2 hq8_v2 hq9_v2 hq10_v2 hq13_v2 hq14_v2 hq15_v2 hq17_v2 hq18_v2 hq24_v2 hq25_v2 hq35_v2 hq36_v2 hq38_v2 hq39_v2 hr1_2 hM_v2 hA_f2 hm; exact absurd hm (Nat.not_lt_zero _)
      | succ n2 ih2 =>
        intro l1_2 v2 f2 w2 g2 hIv2 hCf2 hRf2 hq0_v2 hq1_v2 hq2_v2 hq3_v2 hq4_v2 hq5_v2 hq8_v2 hq9_v2 hq10_v2 hq13_v2 hq14_v2 hq15_v2 hq17_v2 hq18_v2 hq24_v2 hq25_v2 hq35_v2 hq36_v2 hq38_v2 hq39_v2 hr1_2 hM_v2 hA_f2 hm2 H locs ls hP hD hS hl
        have hUv2 : (v2 35).toInt + (v2 36).toInt ≤ 40 := hIv2.2
        have zq9_v2 := congrArg Int32.toInt hq9_v2
        have zq35_v2 := congrArg Int32.toInt hq35_v2
        have zq36_v2 := congrArg Int32.toInt hq36_v2
        refine lv_iload_n hx hb dX11_act_51 rfl (lv_at hl 0 rfl) ?_
        refine lv_bipush (v := 39) hx hb dX11_act_52 (by decide) ?_
        refine lv_icmp_ge (tgt := 83) hx hb dX11_act_54 (by decide) (fun c3 => ?_) (fun c3 => ?_)
        · skip
          have zc3 : 39 ≤ l1_2.toInt := by rw [fa_le, show (39 : Int32).toInt = 39 from by decide] at c3; exact c3
          refine lv_aload_n hx hb dX11_act_83 rfl (lv_at hl 1 rfl) ?_
          refine lv_dup hx hb dX11_act_84 rfl ?_
          refine va_get (D := (dC, dI)) (ci := 11) (v := .int (v2 35)) (C := RX11) (T := TX11) (N := 79) hx hb hts inB_11 hown hE.1 hP 0 rfl rfl 62 (by decide) (hts _ k_1382) (fun _ h9 => h9) rfl dX11_act_85 ?_
          refine tI (y := (v 35)) hq35_v2 ?_
          have b35_v : 0 ≤ (v 35).toInt ∧ (v 35).toInt ≤ 40 := YIb.b hIv.1 35 (by decide)
          refine lv_iconst (v := 1) hx hb dX11_act_88 (by decide) ?_
          refine lv_iadd hx hb dX11_act_89 ?_
          refine lv_topi (fun t4 et4 => ?_)
          have rg5 := fb_rng (v 35)
          have zt4 : t4.toInt = (v 35).toInt + 1 := by rw [et4]; exact add_i rfl (by decide) (by omega) (by omega)
          refine va_put (D := (dC, dI)) (ci := 11) (v := .int t4) (ty := tyX11 62) (C := RX11) (T := TX11) (N := 79) hx hb hts inB_11 tyX11 tyX11_ok nmX11 hown hE.1 hP hD hS 0 rfl rfl 62 (by decide) (hts _ k_1382) (fun _ h9 => h9) rfl (tyX11_ok 62 (by decide)) rfl rfl (Nat.le_of_ble_eq_true rfl) dX11_act_90 (fun H locs hP hD hS => ?_)
          have hP : va_P (dC, dI) vwCl (YW cy y0 r (upd v2 35 t4) f2 w2 g2) H := hP
          have hD : va_D A (YW cy y0 r (upd v2 35 t4) f2 w2 g2) := hD
          refine lv_aload_n hx hb dX11_act_93 rfl (lv_at hl 1 rfl) ?_
          refine lv_iconst (v := 0) hx hb dX11_act_94 (by decide) ?_
          refine va_put (D := (dC, dI)) (ci := 11) (v := .int 0) (ty := tyX11 63) (C := RX11) (T := TX11) (N := 79) hx hb hts inB_11 tyX11 tyX11_ok nmX11 hown hE.1 hP hD hS 0 rfl rfl 63 (by decide) (hts _ k_1383) (fun _ h9 => h9) rfl (tyX11_ok 63 (by decide)) rfl rfl (Nat.le_of_ble_eq_true rfl) dX11_act_95 (fun H locs hP hD hS => ?_)
          have hP : va_P (dC, dI) vwCl (YW cy y0 r (upd (upd v2 35 t4) 36 0) f2 w2 g2) H := hP
          have hD : va_D A (YW cy y0 r (upd (upd v2 35 t4) 36 0) f2 w2 g2) := hD
          refine lv_aload_n hx hb dX11_act_98 rfl (lv_at hl 1 rfl) ?_
          refine cbVv (n := 0) (rest := []) hx hb hml hown hts hE hP hD hS hA (sY_X11_fill_1 l dC dI cy y0 r  (upd (upd v2 35 t4) 36 0) f2 w2 g2 ⟨(YIb.upd (j := 36) (x := 0) (YIb.upd (j := 35) (x := t4) hIv2.1 (show (0 : Int) ≤ t4.toInt by omega) (show t4.toInt ≤ (40 : Int) by omega)) (by decide) (by decide)), (by have q9 := hIv2.2; have q0 : (0 : Int32).toInt = 0 := (by decide); show t4.toInt + (0 : Int32).toInt ≤ 40; omega)⟩ hCf2 hRf2 ) k_1739 k_1741 k_71 k_114 k_1742 (by decide +kernel) ⟨Nat.le_of_ble_eq_true rfl, Nat.le_of_ble_eq_true rfl⟩ 0 11 rfl rfl (rfl) hl.1 rfl (Nat.le_of_ble_eq_true rfl) dX11_act_99 (fun u H locs hw hP hD hS => ?_)
          obtain ⟨v6, f7, w8, g9⟩ := u
          obtain ⟨kV_v6, kF_f7, hIv6, hCf7, hRf7, hk0_v6, hk1_v6, hk2_v6, hk3_v6, hk4_v6, hk5_v6, hk8_v6, hk9_v6, hk10_v6, hk13_v6, hk14_v6, hk15_v6, hk17_v6, hk18_v6, hk24_v6, hk25_v6, hk35_v6, hk36_v6, hk38_v6, hk39_v6⟩ := hw
          have hM_v6 : KV [35, 36] v6 v := KV.tr kV_v6 (KV.up (j := 36) (x := 0) (KV.up (j := 35) (x := t4) hM_v2 rfl) rfl) rfl
          have hA_f7 : KF [24, 25] f7 f := KF.tr kF_f7 hA_f2 rfl
          have hP : va_P (dC, dI) vwCl (YW cy y0 r v6 f7 w8 g9) H := hP
          have hD : va_D A (YW cy y0 r v6 f7 w8 g9) := hD
          have hUv6 : (v6 35).toInt + (v6 36).toInt ≤ 40 := hIv6.2
          have hq9_v6 : v6 9 = (v 9) := hk9_v6.trans hq9_v2
          have zq9_v6 := congrArg Int32.toInt hq9_v6
          have hq35_v6 : v6 35 = t4 := hk35_v6
          have zq35_v6 := congrArg Int32.toInt hq35_v6
          have hq36_v6 : v6 36 = 0 := hk36_v6
          have zq36_v6 := congrArg Int32.toInt hq36_v6
          exact ret (v6, f7, w8, g9) _ _ _ _ _ _ ⟨hM_v6, hA_f7, hIv6, hCf7, hRf7, (hk0_v6.trans (show v2 0 = v 0 from hq0_v2)), (hk1_v6.trans (show v2 1 = v 1 from hq1_v2)), (hk2_v6.trans (show v2 2 = v 2 from hq2_v2)), (hk3_v6.trans (show v2 3 = v 3 from hq3_v2)), (hk4_v6.trans (show v2 4 = v 4 from hq4_v2)), (hk5_v6.trans (show v2 5 = v 5 from hq5_v2)), (hk8_v6.trans (show v2 8 = v 8 from hq8_v2)), (hk9_v6.trans (show v2 9 = v 9 from hq9_v2)), (hk10_v6.trans (show v2 10 = v 10 from hq10_v2)), (hk13_v6.trans (show v2 13 = v 13 from hq13_v2)), (hk14_v6.trans (show v2 14 = v 14 from hq14_v2)), (hk15_v6.trans (show v2 15 = v 15 from hq15_v2)), (hk17_v6.trans (show v2 17 = v 17 from hq17_v2)), (hk18_v6.trans (show v2 18 = v 18 from hq18_v2)), (hk24_v6.trans (show v2 24 = v 24 from hq24_v2)), (hk25_v6.trans (show v2 25 = v 25 from hq25_v2)), (hk38_v6.trans (show v2 38 = v 38 from hq38_v2)), (hk39_v6.trans (show v2 39 = v 39 from hq39_v2))⟩ hP hD hS dX11_act_102 (Nat.le_refl _) (Nat.le_refl _)
        · skip
          have zc3 : ¬ (39 ≤ l1_2.toInt) := by rw [fa_le, show (39 : Int32).toInt = 39 from by decide] at c3; exact c3
          refine lv_aload_n hx hb dX11_act_57 rfl (lv_at hl 1 rfl) ?_
          refine va_get (D := (dC, dI)) (ci := 11) (v := .ref (r 61)) (C := RX11) (T := TX11) (N := 79) hx hb hts inB_11 hown hE.1 hP 0 rfl rfl 61 (by decide) (hts _ k_1381) (fun _ h9 => h9) rfl dX11_act_58 ?_
          refine lv_bipush (v := 39) hx hb dX11_act_61 (by decide) ?_
          refine lv_aload_n hx hb dX11_act_63 rfl (lv_at hl 1 rfl) ?_
          refine va_get (D := (dC, dI)) (ci := 11) (v := .int (v2 35)) (C := RX11) (T := TX11) (N := 79) hx hb hts inB_11 hown hE.1 hP 0 rfl rfl 62 (by decide) (hts _ k_1382) (fun _ h9 => h9) rfl dX11_act_64 ?_
          refine tI (y := (v 35)) hq35_v2 ?_
          have b35_v : 0 ≤ (v 35).toInt ∧ (v 35).toInt ≤ 40 := YIb.b hIv.1 35 (by decide)
          refine lv_imul hx hb dX11_act_67 ?_
          refine lv_topi (fun t10 et10 => ?_)
          have rg11 := fb_rng (v 35)
          have zt10 : t10.toInt = 39 * (v 35).toInt := by rw [et10]; exact mul_i (by decide) rfl (by omega) (by omega)
          refine lv_iload_n hx hb dX11_act_68 rfl (lv_at hl 0 rfl) ?_
          refine lv_iadd hx hb dX11_act_69 ?_
          refine lv_topi (fun t12 et12 => ?_)
          have rg13 := fb_rng t10
          have rg14 := fb_rng l1_2
          have zt12 : t12.toInt = t10.toInt + l1_2.toInt := by rw [et12]; exact add_i rfl rfl (by omega) (by omega)
          refine lv_aload_n hx hb dX11_act_70 rfl (lv_at hl 1 rfl) ?_
          refine va_get (D := (dC, dI)) (ci := 11) (v := .ref (r 59)) (C := RX11) (T := TX11) (N := 79) hx hb hts inB_11 hown hE.1 hP 0 rfl rfl 59 (by decide) (hts _ k_1379) (fun _ h9 => h9) rfl dX11_act_71 ?_
          refine lv_iload_n hx hb dX11_act_74 rfl (lv_at hl 0 rfl) ?_
          refine ldI hx hb hE hP 24 rfl (vp_in_iff.mpr ⟨by omega, by omega⟩) rfl rfl dX11_act_75 ?_
          refine lv_topi (fun t15 et15 => ?_)
          have zt15 : l1_2.toInt.toNat % 39 < 6 ∨ 12 ≤ l1_2.toInt.toNat % 39 ∨ (-1 ≤ t15.toInt ∧ t15.toInt ≤ 5) := by rw [et15]; exact wear_ld hCf2.1 (show l1_2.toInt.toNat < 39 by omega)
          refine stI hx hb hE hP hD hS 26 rfl (vp_in_iff.mpr ⟨by omega, by omega⟩) rfl dX11_act_76 (fun H locs hP hD hS => ?_)
          obtain ⟨f16, ef16, hP, hD⟩ : ∃ fz9, fz9 = upd2 f2 25 (upd (f2 25) t12.toNatClampNeg t15) ∧ va_P (dC, dI) vwCl (YW cy y0 r v2 fz9 w2 g2) H ∧ va_D A (YW cy y0 r v2 fz9 w2 g2) := ⟨_, rfl, hP, hD⟩
          have hCf16 : YC f16 := by rw [ef16]; exact ⟨hCf2.1, hCf2.2.1, (wear_st hCf2.2.2.1 (by show t12.toInt.toNat % 39 < 6 ∨ 12 ≤ t12.toInt.toNat % 39 ∨ (-1 ≤ t15.toInt ∧ t15.toInt ≤ 5); omega)), hCf2.2.2.2.1, hCf2.2.2.2.2.1, hCf2.2.2.2.2.2⟩
          have hRf16 : progOK (f16 4) (f16 5) (v2 9).toInt.toNat := by rw [ef16]; exact hRf2
          have hA_f16 : KF [24, 25] f16 f := by rw [ef16]; exact KF.up hA_f2 rfl
          obtain ⟨t17, et17⟩ : ∃ y : Int32, y = l1_2 + 1 := ⟨_, rfl⟩
          have zt17 : t17.toInt = l1_2.toInt + 1 := by rw [et17]; exact add_i rfl (by decide) (by omega) (by omega)
          refine lv_iinc (v := t17) (lv' := [(1, .int t17), (0, .ref y0)]) hx hb dX11_act_77 hl (k := 0) rfl (by rw [et17]; rfl) (by decide) rfl (fun ls hl => ?_)
          refine lv_goto (tgt := 51) hx hb dX11_act_80 (by decide) ?_
          have rg18 := fb_rng t17
          exact ih2 t17 v2 f16 w2 g2 hIv2 hCf16 hRf16 hq0_v2 hq1_v2 hq2_v2 hq3_v2 hq4_v2 hq5_v2 hq8_v2 hq9_v2 hq10_v2 hq13_v2 hq14_v2 hq15_v2 hq17_v2 hq18_v2 hq24_v2 hq25_v2 hq35_v2 hq36_v2 hq38_v2 hq39_v2 ⟨show (0 : Int) ≤ t17.toInt by omega, show t17.toInt ≤ (2147483647 : Int) by omega⟩ hM_v2 hA_f16 (by show (2147483647 - t17.toInt).toNat < n2; omega) _ _ _ hP hD hS (lv_sub hl [0, 1] rfl)
    exact lp2 _ 0 v f w g hIv hCf hRf rfl rfl rfl rfl rfl rfl rfl rfl rfl rfl rfl rfl rfl rfl rfl rfl rfl rfl rfl rfl ⟨by decide, by decide⟩ hM_v hA_f (Nat.lt_succ_self _) _ _ _ hP hD hS (lv_sub hl [0, 1] rfl)
  · skip
    have zc1 : (v 35).toInt = 40 := by rw [fa_eq, show (40 : Int32).toInt = 40 from by decide] at c1; exact c1
    refine lv_iconst (v := 0) hx hb dX11_act_9 (by decide) ?_
    refine lv_istore_n (lv' := [(1, .int 0), (0, .ref y0)]) hx hb dX11_act_10 rfl hl (by decide) rfl (fun ls hl => ?_)
    have lp19 : ∀ (n19 : Nat) (l1_19 : Int32) (v19 : Nat → Int32) (f19 : Nat → Nat → Int32) (w19 : Int64) (g19 : Nat → Int64), YI v19 → YC f19 → progOK (f19 4) (f19 5) (v19 9).toInt.toNat → v19 0 = (v 0) → v19 1 = (v 1) → v19 2 = (v 2) → v19 3 = (v 3) → v19 4 = (v 4) → v19 5 = (v 5) → v19 8 = (v 8) → v19 9 = (v 9) → v19 10 = (v 10) → v19 13 = (v 13) → v19 14 = (v 14) → v19 15 = (v 15) → v19 17 = (v 17) → v19 18 = (v 18) → v19 24 = (v 24) → v19 25 = (v 25) → v19 35 = (v 35) → v19 36 = (v 36) → v19 38 = (v 38) → v19 39 = (v 39) → ((0 : Int) ≤ l1_19.toInt ∧ l1_19.toInt ≤ 2147483647) → KV [35, 36] v19 v → KF [24, 25] f19 f → (2147483647 - l1_19.toInt).toNat < n19 → ∀ (H : Heap) (locs : List Loc) (ls : Array Slot), va_P (dC, dI) vwCl (YW cy y0 r v19 f19 w19 g19) H → va_D A (YW cy y0 r v19 f19 w19 g19) → va_S A s.heap H locs → lv_has ls 2 [(1, .int l1_19), (0, .ref y0)] → W p l e { frames := 2, cells := 0, slots := 0, locals := 81 } s m ([.ref y0] : List Value).toArray below meth c H locs 0 0 Q (F0 m 11 ls []) := by
      intro n19
      induction n19 with
      | zero => intro l1_19 v19 f19 w19 g19 hIv19 hCf19 hRf19 hq0_v19 hq1_v19 hq2_v19 hq3_v19 hq4_v19 hq5_v19 hq8_v19 hq9_v19 hq10_v19 hq13_v19 hq14_v19 hq15_v19 hq17_v19 hq18_v19 hq24_v19 hq25_v19 hq35_v19 hq36_v19 hq38_v19 hq39_v19 hr1_19 hM_v19 hA_f19 hm; exact absurd hm (Nat.not_lt_zero _)
      | succ n19 ih19 =>
        intro l1_19 v19 f19 w19 g19 hIv19 hCf19 hRf19 hq0_v19 hq1_v19 hq2_v19 hq3_v19 hq4_v19 hq5_v19 hq8_v19 hq9_v19 hq10_v19 hq13_v19 hq14_v19 hq15_v19 hq17_v19 hq18_v19 hq24_v19 hq25_v19 hq35_v19 hq36_v19 hq38_v19 hq39_v19 hr1_19 hM_v19 hA_f19 hm19 H locs ls hP hD hS hl
        have hUv19 : (v19 35).toInt + (v19 36).toInt ≤ 40 := hIv19.2
        have zq9_v19 := congrArg Int32.toInt hq9_v19
        have zq35_v19 := congrArg Int32.toInt hq35_v19
        have zq36_v19 := congrArg Int32.toInt hq36_v19
        refine lv_iload_n hx hb dX11_act_11 rfl (lv_at hl 0 rfl) ?_
        refine lv_sipush (v := 1521) hx hb dX11_act_12 (by decide) ?_
        refine lv_icmp_ge (tgt := 39) hx hb dX11_act_15 (by decide) (fun c20 => ?_) (fun c20 => ?_)
        · skip
          have zc20 : 1521 ≤ l1_19.toInt := by rw [fa_le, show (1521 : Int32).toInt = 1521 from by decide] at c20; exact c20
          refine lv_aload_n hx hb dX11_act_39 rfl (lv_at hl 1 rfl) ?_
          refine lv_dup hx hb dX11_act_40 rfl ?_
          refine va_get (D := (dC, dI)) (ci := 11) (v := .int (v19 35)) (C := RX11) (T := TX11) (N := 79) hx hb hts inB_11 hown hE.1 hP 0 rfl rfl 62 (by decide) (hts _ k_1382) (fun _ h9 => h9) rfl dX11_act_41 ?_
          refine tI (y := (v 35)) hq35_v19 ?_
          have b35_v : 0 ≤ (v 35).toInt ∧ (v 35).toInt ≤ 40 := YIb.b hIv.1 35 (by decide)
          refine lv_iconst (v := 1) hx hb dX11_act_44 (by decide) ?_
          refine lv_isub hx hb dX11_act_45 ?_
          refine lv_topi (fun t21 et21 => ?_)
          have rg22 := fb_rng (v 35)
          have zt21 : t21.toInt = (v 35).toInt - 1 := by rw [et21]; exact sub_i rfl (by decide) (by omega) (by omega)
          refine va_put (D := (dC, dI)) (ci := 11) (v := .int t21) (ty := tyX11 62) (C := RX11) (T := TX11) (N := 79) hx hb hts inB_11 tyX11 tyX11_ok nmX11 hown hE.1 hP hD hS 0 rfl rfl 62 (by decide) (hts _ k_1382) (fun _ h9 => h9) rfl (tyX11_ok 62 (by decide)) rfl rfl (Nat.le_of_ble_eq_true rfl) dX11_act_46 (fun H locs hP hD hS => ?_)
          have hP : va_P (dC, dI) vwCl (YW cy y0 r (upd v19 35 t21) f19 w19 g19) H := hP
          have hD : va_D A (YW cy y0 r (upd v19 35 t21) f19 w19 g19) := hD
          refine lv_iconst (v := 0) hx hb dX11_act_49 (by decide) ?_
          refine lv_istore_n (lv' := [(1, .int 0), (0, .ref y0)]) hx hb dX11_act_50 rfl hl (by decide) rfl (fun ls hl => ?_)
          have lp23 : ∀ (n23 : Nat) (l1_23 : Int32) (v23 : Nat → Int32) (f23 : Nat → Nat → Int32) (w23 : Int64) (g23 : Nat → Int64), YI v23 → YC f23 → progOK (f23 4) (f23 5) (v23 9).toInt.toNat → v23 0 = (v 0) → v23 1 = (v 1) → v23 2 = (v 2) → v23 3 = (v 3) → v23 4 = (v 4) → v23 5 = (v 5) → v23 8 = (v 8) → v23 9 = (v 9) → v23 10 = (v 10) → v23 13 = (v 13) → v23 14 = (v 14) → v23 15 = (v 15) → v23 17 = (v 17) → v23 18 = (v 18) → v23 24 = (v 24) → v23 25 = (v 25) → v23 35 = t21 → v23 36 = (v 36) → v23 38 = (v 38) → v23 39 = (v 39) → ((0 : Int) ≤ l1_23.toInt ∧ l1_23.toInt ≤ 2147483647) → KV [35, 36] v23 v → KF [24, 25] f23 f → (2147483647 - l1_23.toInt).toNat < n23 → ∀ (H : Heap) (locs : List Loc) (ls : Array Slot), va_P (dC, dI) vwCl (YW cy y0 r v23 f23 w23 g23) H → va_D A (YW cy y0 r v23 f23 w23 g23) → va_S A s.heap H locs → lv_has ls 2 [(1, .int l1_23), (0, .ref y0)] → W p l e { frames := 2, cells := 0, slots := 0, locals := 81 } s m ([.ref y0] : List Value).toArray below meth c H locs 0 0 Q (F0 m 51 ls []) := by
            intro n23
            induction n23 with
            | zero => intro l1_23 v23 f23 w23 g23 hIv23 hCf23 hRf23 hq0_v23 hq1_v23 hq2_v23 hq3_v23 hq4_v23 hq5_v23 hq8_v23 hq9_v23 hq10_v23 hq13_v23 hq14_v23 hq15_v23 hq17_v23 hq18_v23 hq24_v23 hq25_v23 hq35_v23 hq36_v23 hq38_v23 hq39_v23 hr1_23 hM_v23 hA_f23 hm; exact absurd hm (Nat.not_lt_zero _)
            | succ n23 ih23 =>
              intro l1_23 v23 f23 w23 g23 hIv23 hCf23 hRf23 hq0_v23 hq1_v23 hq2_v23 hq3_v23 hq4_v23 hq5_v23 hq8_v23 hq9_v23 hq10_v23 hq13_v23 hq14_v23 hq15_v23 hq17_v23 hq18_v23 hq24_v23 hq25_v23 hq35_v23 hq36_v23 hq38_v23 hq39_v23 hr1_23 hM_v23 hA_f23 hm23 H locs ls hP hD hS hl
              have hUv23 : (v23 35).toInt + (v23 36).toInt ≤ 40 := hIv23.2
              have zq9_v23 := congrArg Int32.toInt hq9_v23
              have zq35_v23 := congrArg Int32.toInt hq35_v23
              have zq36_v23 := congrArg Int32.toInt hq36_v23
              refine lv_iload_n hx hb dX11_act_51 rfl (lv_at hl 0 rfl) ?_
              refine lv_bipush (v := 39) hx hb dX11_act_52 (by decide) ?_
              refine lv_icmp_ge (tgt := 83) hx hb dX11_act_54 (by decide) (fun c24 => ?_) (fun c24 => ?_)
              · skip
                have zc24 : 39 ≤ l1_23.toInt := by rw [fa_le, show (39 : Int32).toInt = 39 from by decide] at c24; exact c24
                refine lv_aload_n hx hb dX11_act_83 rfl (lv_at hl 1 rfl) ?_
                refine lv_dup hx hb dX11_act_84 rfl ?_
                refine va_get (D := (dC, dI)) (ci := 11) (v := .int (v23 35)) (C := RX11) (T := TX11) (N := 79) hx hb hts inB_11 hown hE.1 hP 0 rfl rfl 62 (by decide) (hts _ k_1382) (fun _ h9 => h9) rfl dX11_act_85 ?_
                refine tI (y := t21) hq35_v23 ?_
                refine lv_iconst (v := 1) hx hb dX11_act_88 (by decide) ?_
                refine lv_iadd hx hb dX11_act_89 ?_
                refine lv_topi (fun t25 et25 => ?_)
                have rg26 := fb_rng t21
                have zt25 : t25.toInt = t21.toInt + 1 := by rw [et25]; exact add_i rfl (by decide) (by omega) (by omega)
                refine va_put (D := (dC, dI)) (ci := 11) (v := .int t25) (ty := tyX11 62) (C := RX11) (T := TX11) (N := 79) hx hb hts inB_11 tyX11 tyX11_ok nmX11 hown hE.1 hP hD hS 0 rfl rfl 62 (by decide) (hts _ k_1382) (fun _ h9 => h9) rfl (tyX11_ok 62 (by decide)) rfl rfl (Nat.le_of_ble_eq_true rfl) dX11_act_90 (fun H locs hP hD hS => ?_)
                have hP : va_P (dC, dI) vwCl (YW cy y0 r (upd v23 35 t25) f23 w23 g23) H := hP
                have hD : va_D A (YW cy y0 r (upd v23 35 t25) f23 w23 g23) := hD
                refine lv_aload_n hx hb dX11_act_93 rfl (lv_at hl 1 rfl) ?_
                refine lv_iconst (v := 0) hx hb dX11_act_94 (by decide) ?_
                refine va_put (D := (dC, dI)) (ci := 11) (v := .int 0) (ty := tyX11 63) (C := RX11) (T := TX11) (N := 79) hx hb hts inB_11 tyX11 tyX11_ok nmX11 hown hE.1 hP hD hS 0 rfl rfl 63 (by decide) (hts _ k_1383) (fun _ h9 => h9) rfl (tyX11_ok 63 (by decide)) rfl rfl (Nat.le_of_ble_eq_true rfl) dX11_act_95 (fun H locs hP hD hS => ?_)
                have hP : va_P (dC, dI) vwCl (YW cy y0 r (upd (upd v23 35 t25) 36 0) f23 w23 g23) H := hP
                have hD : va_D A (YW cy y0 r (upd (upd v23 35 t25) 36 0) f23 w23 g23) := hD
                refine lv_aload_n hx hb dX11_act_98 rfl (lv_at hl 1 rfl) ?_
                refine cbVv (n := 0) (rest := []) hx hb hml hown hts hE hP hD hS hA (sY_X11_fill_1 l dC dI cy y0 r  (upd (upd v23 35 t25) 36 0) f23 w23 g23 ⟨(YIb.upd (j := 36) (x := 0) (YIb.upd (j := 35) (x := t25) hIv23.1 (show (0 : Int) ≤ t25.toInt by omega) (show t25.toInt ≤ (40 : Int) by omega)) (by decide) (by decide)), (by have q9 := hIv23.2; have q0 : (0 : Int32).toInt = 0 := (by decide); show t25.toInt + (0 : Int32).toInt ≤ 40; omega)⟩ hCf23 hRf23 ) k_1739 k_1741 k_71 k_114 k_1742 (by decide +kernel) ⟨Nat.le_of_ble_eq_true rfl, Nat.le_of_ble_eq_true rfl⟩ 0 11 rfl rfl (rfl) hl.1 rfl (Nat.le_of_ble_eq_true rfl) dX11_act_99 (fun u H locs hw hP hD hS => ?_)
                obtain ⟨v27, f28, w29, g30⟩ := u
                obtain ⟨kV_v27, kF_f28, hIv27, hCf28, hRf28, hk0_v27, hk1_v27, hk2_v27, hk3_v27, hk4_v27, hk5_v27, hk8_v27, hk9_v27, hk10_v27, hk13_v27, hk14_v27, hk15_v27, hk17_v27, hk18_v27, hk24_v27, hk25_v27, hk35_v27, hk36_v27, hk38_v27, hk39_v27⟩ := hw
                have hM_v27 : KV [35, 36] v27 v := KV.tr kV_v27 (KV.up (j := 36) (x := 0) (KV.up (j := 35) (x := t25) hM_v23 rfl) rfl) rfl
                have hA_f28 : KF [24, 25] f28 f := KF.tr kF_f28 hA_f23 rfl
                have hP : va_P (dC, dI) vwCl (YW cy y0 r v27 f28 w29 g30) H := hP
                have hD : va_D A (YW cy y0 r v27 f28 w29 g30) := hD
                have hUv27 : (v27 35).toInt + (v27 36).toInt ≤ 40 := hIv27.2
                have hq9_v27 : v27 9 = (v 9) := hk9_v27.trans hq9_v23
                have zq9_v27 := congrArg Int32.toInt hq9_v27
                have hq35_v27 : v27 35 = t25 := hk35_v27
                have zq35_v27 := congrArg Int32.toInt hq35_v27
                have hq36_v27 : v27 36 = 0 := hk36_v27
                have zq36_v27 := congrArg Int32.toInt hq36_v27
                exact ret (v27, f28, w29, g30) _ _ _ _ _ _ ⟨hM_v27, hA_f28, hIv27, hCf28, hRf28, (hk0_v27.trans hq0_v23), (hk1_v27.trans hq1_v23), (hk2_v27.trans hq2_v23), (hk3_v27.trans hq3_v23), (hk4_v27.trans hq4_v23), (hk5_v27.trans hq5_v23), (hk8_v27.trans hq8_v23), (hk9_v27.trans hq9_v23), (hk10_v27.trans hq10_v23), (hk13_v27.trans hq13_v23), (hk14_v27.trans hq14_v23), (hk15_v27.trans hq15_v23), (hk17_v27.trans hq17_v23), (hk18_v27.trans hq18_v23), (hk24_v27.trans hq24_v23), (hk25_v27.trans hq25_v23), (hk38_v27.trans hq38_v23), (hk39_v27.trans hq39_v23)⟩ hP hD hS dX11_act_102 (Nat.le_refl _) (Nat.le_refl _)
              · skip
                have zc24 : ¬ (39 ≤ l1_23.toInt) := by rw [fa_le, show (39 : Int32).toInt = 39 from by decide] at c24; exact c24
                refine lv_aload_n hx hb dX11_act_57 rfl (lv_at hl 1 rfl) ?_
                refine va_get (D := (dC, dI)) (ci := 11) (v := .ref (r 61)) (C := RX11) (T := TX11) (N := 79) hx hb hts inB_11 hown hE.1 hP 0 rfl rfl 61 (by decide) (hts _ k_1381) (fun _ h9 => h9) rfl dX11_act_58 ?_
                refine lv_bipush (v := 39) hx hb dX11_act_61 (by decide) ?_
                refine lv_aload_n hx hb dX11_act_63 rfl (lv_at hl 1 rfl) ?_
                refine va_get (D := (dC, dI)) (ci := 11) (v := .int (v23 35)) (C := RX11) (T := TX11) (N := 79) hx hb hts inB_11 hown hE.1 hP 0 rfl rfl 62 (by decide) (hts _ k_1382) (fun _ h9 => h9) rfl dX11_act_64 ?_
                refine tI (y := t21) hq35_v23 ?_
                refine lv_imul hx hb dX11_act_67 ?_
                refine lv_topi (fun t31 et31 => ?_)
                have rg32 := fb_rng t21
                have zt31 : t31.toInt = 39 * t21.toInt := by rw [et31]; exact mul_i (by decide) rfl (by omega) (by omega)
                refine lv_iload_n hx hb dX11_act_68 rfl (lv_at hl 0 rfl) ?_
                refine lv_iadd hx hb dX11_act_69 ?_
                refine lv_topi (fun t33 et33 => ?_)
                have rg34 := fb_rng t31
                have rg35 := fb_rng l1_23
                have zt33 : t33.toInt = t31.toInt + l1_23.toInt := by rw [et33]; exact add_i rfl rfl (by omega) (by omega)
                refine lv_aload_n hx hb dX11_act_70 rfl (lv_at hl 1 rfl) ?_
                refine va_get (D := (dC, dI)) (ci := 11) (v := .ref (r 59)) (C := RX11) (T := TX11) (N := 79) hx hb hts inB_11 hown hE.1 hP 0 rfl rfl 59 (by decide) (hts _ k_1379) (fun _ h9 => h9) rfl dX11_act_71 ?_
                refine lv_iload_n hx hb dX11_act_74 rfl (lv_at hl 0 rfl) ?_
                refine ldI hx hb hE hP 24 rfl (vp_in_iff.mpr ⟨by omega, by omega⟩) rfl rfl dX11_act_75 ?_
                refine lv_topi (fun t36 et36 => ?_)
                have zt36 : l1_23.toInt.toNat % 39 < 6 ∨ 12 ≤ l1_23.toInt.toNat % 39 ∨ (-1 ≤ t36.toInt ∧ t36.toInt ≤ 5) := by rw [et36]; exact wear_ld hCf23.1 (show l1_23.toInt.toNat < 39 by omega)
                refine stI hx hb hE hP hD hS 26 rfl (vp_in_iff.mpr ⟨by omega, by omega⟩) rfl dX11_act_76 (fun H locs hP hD hS => ?_)
                obtain ⟨f37, ef37, hP, hD⟩ : ∃ fz9, fz9 = upd2 f23 25 (upd (f23 25) t33.toNatClampNeg t36) ∧ va_P (dC, dI) vwCl (YW cy y0 r v23 fz9 w23 g23) H ∧ va_D A (YW cy y0 r v23 fz9 w23 g23) := ⟨_, rfl, hP, hD⟩
                have hCf37 : YC f37 := by rw [ef37]; exact ⟨hCf23.1, hCf23.2.1, (wear_st hCf23.2.2.1 (by show t33.toInt.toNat % 39 < 6 ∨ 12 ≤ t33.toInt.toNat % 39 ∨ (-1 ≤ t36.toInt ∧ t36.toInt ≤ 5); omega)), hCf23.2.2.2.1, hCf23.2.2.2.2.1, hCf23.2.2.2.2.2⟩
                have hRf37 : progOK (f37 4) (f37 5) (v23 9).toInt.toNat := by rw [ef37]; exact hRf23
                have hA_f37 : KF [24, 25] f37 f := by rw [ef37]; exact KF.up hA_f23 rfl
                obtain ⟨t38, et38⟩ : ∃ y : Int32, y = l1_23 + 1 := ⟨_, rfl⟩
                have zt38 : t38.toInt = l1_23.toInt + 1 := by rw [et38]; exact add_i rfl (by decide) (by omega) (by omega)
                refine lv_iinc (v := t38) (lv' := [(1, .int t38), (0, .ref y0)]) hx hb dX11_act_77 hl (k := 0) rfl (by rw [et38]; rfl) (by decide) rfl (fun ls hl => ?_)
                refine lv_goto (tgt := 51) hx hb dX11_act_80 (by decide) ?_
                have rg39 := fb_rng t38
                exact ih23 t38 v23 f37 w23 g23 hIv23 hCf37 hRf37 hq0_v23 hq1_v23 hq2_v23 hq3_v23 hq4_v23 hq5_v23 hq8_v23 hq9_v23 hq10_v23 hq13_v23 hq14_v23 hq15_v23 hq17_v23 hq18_v23 hq24_v23 hq25_v23 hq35_v23 hq36_v23 hq38_v23 hq39_v23 ⟨show (0 : Int) ≤ t38.toInt by omega, show t38.toInt ≤ (2147483647 : Int) by omega⟩ hM_v23 hA_f37 (by show (2147483647 - t38.toInt).toNat < n23; omega) _ _ _ hP hD hS (lv_sub hl [0, 1] rfl)
          exact lp23 _ 0 (upd v19 35 t21) f19 w19 g19 ⟨(YIb.upd (j := 35) (x := t21) hIv19.1 (show (0 : Int) ≤ t21.toInt by omega) (show t21.toInt ≤ (40 : Int) by omega)), (by have q9 := hIv19.2; show t21.toInt + (v19 36).toInt ≤ 40; omega)⟩ hCf19 hRf19 hq0_v19 hq1_v19 hq2_v19 hq3_v19 hq4_v19 hq5_v19 hq8_v19 hq9_v19 hq10_v19 hq13_v19 hq14_v19 hq15_v19 hq17_v19 hq18_v19 hq24_v19 hq25_v19 rfl hq36_v19 hq38_v19 hq39_v19 ⟨by decide, by decide⟩ (KV.up (j := 35) (x := t21) hM_v19 rfl) hA_f19 (Nat.lt_succ_self _) _ _ _ hP hD hS (lv_sub hl [0, 1] rfl)
        · skip
          have zc20 : ¬ (1521 ≤ l1_19.toInt) := by rw [fa_le, show (1521 : Int32).toInt = 1521 from by decide] at c20; exact c20
          refine lv_aload_n hx hb dX11_act_18 rfl (lv_at hl 1 rfl) ?_
          refine va_get (D := (dC, dI)) (ci := 11) (v := .ref (r 61)) (C := RX11) (T := TX11) (N := 79) hx hb hts inB_11 hown hE.1 hP 0 rfl rfl 61 (by decide) (hts _ k_1381) (fun _ h9 => h9) rfl dX11_act_19 ?_
          refine lv_iload_n hx hb dX11_act_22 rfl (lv_at hl 0 rfl) ?_
          refine lv_aload_n hx hb dX11_act_23 rfl (lv_at hl 1 rfl) ?_
          refine va_get (D := (dC, dI)) (ci := 11) (v := .ref (r 61)) (C := RX11) (T := TX11) (N := 79) hx hb hts inB_11 hown hE.1 hP 0 rfl rfl 61 (by decide) (hts _ k_1381) (fun _ h9 => h9) rfl dX11_act_24 ?_
          refine lv_bipush (v := 39) hx hb dX11_act_27 (by decide) ?_
          refine lv_iload_n hx hb dX11_act_29 rfl (lv_at hl 0 rfl) ?_
          refine lv_iadd hx hb dX11_act_30 ?_
          refine lv_topi (fun t40 et40 => ?_)
          have rg41 := fb_rng l1_19
          have zt40 : t40.toInt = 39 + l1_19.toInt := by rw [et40]; exact add_i (by decide) rfl (by omega) (by omega)
          refine ldI hx hb hE hP 26 rfl (vp_in_iff.mpr ⟨by omega, by omega⟩) rfl rfl dX11_act_31 ?_
          refine lv_topi (fun t42 et42 => ?_)
          have zt42 : t40.toInt.toNat % 39 < 6 ∨ 12 ≤ t40.toInt.toNat % 39 ∨ (-1 ≤ t42.toInt ∧ t42.toInt ≤ 5) := by rw [et42]; exact wear_ld hCf19.2.2.1 (show t40.toInt.toNat < 1560 by omega)
          refine stI hx hb hE hP hD hS 26 rfl (vp_in_iff.mpr ⟨by omega, by omega⟩) rfl dX11_act_32 (fun H locs hP hD hS => ?_)
          obtain ⟨f43, ef43, hP, hD⟩ : ∃ fz9, fz9 = upd2 f19 25 (upd (f19 25) l1_19.toNatClampNeg t42) ∧ va_P (dC, dI) vwCl (YW cy y0 r v19 fz9 w19 g19) H ∧ va_D A (YW cy y0 r v19 fz9 w19 g19) := ⟨_, rfl, hP, hD⟩
          have hCf43 : YC f43 := by rw [ef43]; exact ⟨hCf19.1, hCf19.2.1, (wear_st hCf19.2.2.1 (by show l1_19.toInt.toNat % 39 < 6 ∨ 12 ≤ l1_19.toInt.toNat % 39 ∨ (-1 ≤ t42.toInt ∧ t42.toInt ≤ 5); omega)), hCf19.2.2.2.1, hCf19.2.2.2.2.1, hCf19.2.2.2.2.2⟩
          have hRf43 : progOK (f43 4) (f43 5) (v19 9).toInt.toNat := by rw [ef43]; exact hRf19
          have hA_f43 : KF [24, 25] f43 f := by rw [ef43]; exact KF.up hA_f19 rfl
          obtain ⟨t44, et44⟩ : ∃ y : Int32, y = l1_19 + 1 := ⟨_, rfl⟩
          have zt44 : t44.toInt = l1_19.toInt + 1 := by rw [et44]; exact add_i rfl (by decide) (by omega) (by omega)
          refine lv_iinc (v := t44) (lv' := [(1, .int t44), (0, .ref y0)]) hx hb dX11_act_33 hl (k := 0) rfl (by rw [et44]; rfl) (by decide) rfl (fun ls hl => ?_)
          refine lv_goto (tgt := 11) hx hb dX11_act_36 (by decide) ?_
          have rg45 := fb_rng t44
          exact ih19 t44 v19 f43 w19 g19 hIv19 hCf43 hRf43 hq0_v19 hq1_v19 hq2_v19 hq3_v19 hq4_v19 hq5_v19 hq8_v19 hq9_v19 hq10_v19 hq13_v19 hq14_v19 hq15_v19 hq17_v19 hq18_v19 hq24_v19 hq25_v19 hq35_v19 hq36_v19 hq38_v19 hq39_v19 ⟨show (0 : Int) ≤ t44.toInt by omega, show t44.toInt ≤ (2147483647 : Int) by omega⟩ hM_v19 hA_f43 (by show (2147483647 - t44.toInt).toNat < n19; omega) _ _ _ hP hD hS (lv_sub hl [0, 1] rfl)
    exact lp19 _ 0 v f w g hIv hCf hRf rfl rfl rfl rfl rfl rfl rfl rfl rfl rfl rfl rfl rfl rfl rfl rfl rfl rfl rfl rfl ⟨by decide, by decide⟩ hM_v hA_f (Nat.lt_succ_self _) _ _ _ hP hD hS (lv_sub hl [0, 1] rfl)
set_option maxHeartbeats 4000000 in
set_option maxRecDepth 100000 in
theorem sY_X11_drawRain_1 (l : Launch) (dC : Nat → ClassId) (dI : Nat → Nat → Nat) (cy : Nat → ClassId) (y0 : Nat) (r : Nat → Nat)  (v : Nat → Int32) (f : Nat → Nat → Int32) (w : Int64) (g : Nat → Int64) (hIv : YI v) (hCf : YC f) (hRf : progOK (f 4) (f 5) (v 9).toInt.toNat)  : ctI l (dC, dI) cy yX11_drawRain cX11_drawRain 1 .boolean 1 60 0 0 ((Nat → Int32) × (Nat → Nat → Int32) × (Int64) × (Nat → Int64)) [.ref y0] (YW cy y0 r v f w g) (fun r u => KV [] u.1 v ∧ KF [24] u.2.1 f ∧ YI u.1 ∧ YC u.2.1 ∧ progOK (u.2.1 4) (u.2.1 5) (u.1 9).toInt.toNat ∧ u.1 0 = v 0 ∧ u.1 1 = v 1 ∧ u.1 2 = v 2 ∧ u.1 3 = v 3 ∧ u.1 4 = v 4 ∧ u.1 5 = v 5 ∧ u.1 8 = v 8 ∧ u.1 9 = v 9 ∧ u.1 10 = v 10 ∧ u.1 13 = v 13 ∧ u.1 14 = v 14 ∧ u.1 15 = v 15 ∧ u.1 17 = v 17 ∧ u.1 18 = v 18 ∧ u.1 24 = v 24 ∧ u.1 25 = v 25 ∧ u.1 35 = v 35 ∧ u.1 36 = v 36 ∧ u.1 38 = v 38 ∧ u.1 39 = v 39 ∧ ((r = 1) ∨ (r = 0))) (fun u => YW cy y0 r u.1 u.2.1 u.2.2.1 u.2.2.2) := by
  refine ctI_of (by decide) (Nat.le_of_ble_eq_true rfl) (fun p e s m below meth c A ls Q hx hb hml hts hown hE hP hD hA hl ret => ?_)
  have hUv : (v 35).toInt + (v 36).toInt ≤ 40 := hIv.2
  have hM_v : KV [] v v := fun _ _ => rfl
  have hA_f : KF [24] f f := fun _ _ => rfl
  have hown : s.vm.findClass RX11 = some m.cls := hown
  have hS : va_S A s.heap s.heap [] := va_S.rf
  have hl : lv_has ls 1 [(0, .ref y0)] := hl
  refine lv_aload_n hx hb dX11_drawRain_0 rfl (lv_at hl 0 rfl) ?_
  refine va_get (D := (dC, dI)) (ci := 11) (v := .ref (r 60)) (C := RX11) (T := TX11) (N := 79) hx hb hts inB_11 hown hE.1 hP 0 rfl rfl 60 (by decide) (hts _ k_1380) (fun _ h9 => h9) rfl dX11_drawRain_1 ?_
  refine lv_bipush (v := 38) hx hb dX11_drawRain_4 (by decide) ?_
  refine lv_aload_n hx hb dX11_drawRain_6 rfl (lv_at hl 0 rfl) ?_
  refine va_get (D := (dC, dI)) (ci := 11) (v := .ref (r 60)) (C := RX11) (T := TX11) (N := 79) hx hb hts inB_11 hown hE.1 hP 0 rfl rfl 60 (by decide) (hts _ k_1380) (fun _ h9 => h9) rfl dX11_drawRain_7 ?_
  refine lv_bipush (v := 38) hx hb dX11_drawRain_10 (by decide) ?_
  refine ldI hx hb hE hP 25 rfl (vp_in_nI (n := 38) (by decide) (by decide)) rfl rfl dX11_drawRain_12 ?_
  refine lv_topi (fun t1 et1 => ?_)
  have zt1 : 38 % 39 < 6 ∨ 12 ≤ 38 % 39 ∨ (-1 ≤ t1.toInt ∧ t1.toInt ≤ 5) := by rw [et1]; exact wear_ld hCf.2.1 (show 38 < 39 by omega)
  refine lv_sipush (v := 137) hx hb dX11_drawRain_13 (by decide) ?_
  refine lv_imul hx hb dX11_drawRain_16 ?_
  refine lv_topi (fun t2 et2 => ?_)
  refine lv_bipush (v := 71) hx hb dX11_drawRain_17 (by decide) ?_
  refine lv_iadd hx hb dX11_drawRain_19 ?_
  refine lv_topi (fun t3 et3 => ?_)
  refine lv_sipush (v := 1000) hx hb dX11_drawRain_20 (by decide) ?_
  refine lv_irem hx hb dX11_drawRain_23 (by decide) ?_
  refine lv_topi (fun t4 et4 => ?_)
  refine stI hx hb hE hP hD hS 25 rfl (vp_in_nI (n := 38) (by decide) (by decide)) rfl dX11_drawRain_24 (fun H locs hP hD hS => ?_)
  obtain ⟨f5, ef5, hP, hD⟩ : ∃ fz9, fz9 = upd2 f 24 (upd (f 24) (38 : Int32).toNatClampNeg t4) ∧ va_P (dC, dI) vwCl (YW cy y0 r v fz9 w g) H ∧ va_D A (YW cy y0 r v fz9 w g) := ⟨_, rfl, hP, hD⟩
  have hCf5 : YC f5 := by rw [ef5]; exact ⟨hCf.1, (wear_st hCf.2.1 (by show 38 % 39 < 6 ∨ 12 ≤ 38 % 39 ∨ (-1 ≤ t4.toInt ∧ t4.toInt ≤ 5); omega)), hCf.2.2.1, hCf.2.2.2.1, hCf.2.2.2.2.1, hCf.2.2.2.2.2⟩
  have hRf5 : progOK (f5 4) (f5 5) (v 9).toInt.toNat := by rw [ef5]; exact hRf
  have hA_f5 : KF [24] f5 f := by rw [ef5]; exact KF.up hA_f rfl
  refine lv_aload_n hx hb dX11_drawRain_25 rfl (lv_at hl 0 rfl) ?_
  refine va_get (D := (dC, dI)) (ci := 11) (v := .ref (r 60)) (C := RX11) (T := TX11) (N := 79) hx hb hts inB_11 hown hE.1 hP 0 rfl rfl 60 (by decide) (hts _ k_1380) (fun _ h9 => h9) rfl dX11_drawRain_26 ?_
  refine lv_bipush (v := 38) hx hb dX11_drawRain_29 (by decide) ?_
  refine ldI hx hb hE hP 25 rfl (vp_in_nI (n := 38) (by decide) (by decide)) rfl rfl dX11_drawRain_31 ?_
  refine lv_topi (fun t6 et6 => ?_)
  have zt6 : 38 % 39 < 6 ∨ 12 ≤ 38 % 39 ∨ (-1 ≤ t6.toInt ∧ t6.toInt ≤ 5) := by rw [et6]; exact wear_ld hCf5.2.1 (show 38 < 39 by omega)
  refine lv_bipush (v := 100) hx hb dX11_drawRain_32 (by decide) ?_
  refine lv_irem hx hb dX11_drawRain_34 (by decide) ?_
  refine lv_topi (fun t7 et7 => ?_)
  refine lv_aload_n hx hb dX11_drawRain_35 rfl (lv_at hl 0 rfl) ?_
  refine va_get (D := (dC, dI)) (ci := 11) (v := .int (v 29)) (C := RX11) (T := TX11) (N := 79) hx hb hts inB_11 hown hE.1 hP 0 rfl rfl 53 (by decide) (hts _ k_1373) (fun _ h9 => h9) rfl dX11_drawRain_36 ?_
  refine lv_icmp_ge (tgt := 46) hx hb dX11_drawRain_39 (by decide) (fun c8 => ?_) (fun c8 => ?_)
  · skip
    have zc8 : (v 29).toInt ≤ t7.toInt := by rw [fa_le] at c8; exact c8
    have rg9 := fb_rng t7
    have rg10 := fb_rng (v 29)
    refine lv_iconst (v := 0) hx hb dX11_drawRain_46 (by decide) ?_
    exact ret 0 (v, f5, w, g) _ _ _ _ _ _ rfl ⟨hM_v, hA_f5, hIv, hCf5, hRf5, rfl, rfl, rfl, rfl, rfl, rfl, rfl, rfl, rfl, rfl, rfl, rfl, rfl, rfl, rfl, rfl, rfl, rfl, rfl, rfl, (Or.inr rfl)⟩ hP hD hS dX11_drawRain_47 (Nat.le_refl _) (Nat.le_refl _)
  · skip
    have zc8 : ¬ ((v 29).toInt ≤ t7.toInt) := by rw [fa_le] at c8; exact c8
    have rg11 := fb_rng t7
    have rg12 := fb_rng (v 29)
    refine lv_iconst (v := 1) hx hb dX11_drawRain_42 (by decide) ?_
    refine lv_goto (tgt := 47) hx hb dX11_drawRain_43 (by decide) ?_
    exact ret 1 (v, f5, w, g) _ _ _ _ _ _ rfl ⟨hM_v, hA_f5, hIv, hCf5, hRf5, rfl, rfl, rfl, rfl, rfl, rfl, rfl, rfl, rfl, rfl, rfl, rfl, rfl, rfl, rfl, rfl, rfl, rfl, rfl, rfl, (Or.inl rfl)⟩ hP hD hS dX11_drawRain_47 (Nat.le_refl _) (Nat.le_refl _)
set_option maxHeartbeats 4000000 in
set_option maxRecDepth 100000 in
theorem sY_X11_wearers_1 (l : Launch) (dC : Nat → ClassId) (dI : Nat → Nat → Nat) (cy : Nat → ClassId) (y0 : Nat) (r : Nat → Nat)  (v : Nat → Int32) (f : Nat → Nat → Int32) (w : Int64) (g : Nat → Int64) (hIv : YI v) (hCf : YC f) (hRf : progOK (f 4) (f 5) (v 9).toInt.toNat)  : ctI l (dC, dI) cy yX11_wearers cX11_wearers 3 .int 2 80 0 0 Unit [.ref y0] (YW cy y0 r v f w g) (fun r u => ((0 : Int) ≤ r.toInt ∧ r.toInt ≤ 63)) (fun u => YW cy y0 r v f w g) := by
  refine ctI_of (by decide) (Nat.le_of_ble_eq_true rfl) (fun p e s m below meth c A ls Q hx hb hml hts hown hE hP hD hA hl ret => ?_)
  have hUv : (v 35).toInt + (v 36).toInt ≤ 40 := hIv.2
  have hown : s.vm.findClass RX11 = some m.cls := hown
  have hS : va_S A s.heap s.heap [] := va_S.rf
  have hl : lv_has ls 3 [(0, .ref y0)] := hl
  refine lv_iconst (v := 0) hx hb dX11_wearers_0 (by decide) ?_
  refine lv_istore_n (lv' := [(1, .int 0), (0, .ref y0)]) hx hb dX11_wearers_1 rfl hl (by decide) rfl (fun ls hl => ?_)
  refine lv_iconst (v := 0) hx hb dX11_wearers_2 (by decide) ?_
  refine lv_istore_n (lv' := [(2, .int 0), (1, .int 0), (0, .ref y0)]) hx hb dX11_wearers_3 rfl hl (by decide) rfl (fun ls hl => ?_)
  have lp1 : ∀ (n1 : Nat) (l1_1 : Int32) (l2_1 : Int32), ((0 : Int) ≤ l1_1.toInt ∧ l1_1.toInt ≤ 63) → ((0 : Int) ≤ l2_1.toInt ∧ l2_1.toInt ≤ 2147483647) → (2147483647 - l2_1.toInt).toNat < n1 → ∀ (H : Heap) (locs : List Loc) (ls : Array Slot), va_P (dC, dI) vwCl (YW cy y0 r v f w g) H → va_D A (YW cy y0 r v f w g) → va_S A s.heap H locs → lv_has ls 3 [(2, .int l2_1), (1, .int l1_1), (0, .ref y0)] → W p l e { frames := 2, cells := 0, slots := 0, locals := 80 } s m ([.ref y0] : List Value).toArray below meth c H locs 0 0 Q (F0 m 4 ls []) := by
    intro n1
    induction n1 with
    | zero => intro l1_1 l2_1 hr1_1 hr2_1 hm; exact absurd hm (Nat.not_lt_zero _)
    | succ n1 ih1 =>
      intro l1_1 l2_1 hr1_1 hr2_1 hm1 H locs ls hP hD hS hl
      refine lv_iload_n hx hb dX11_wearers_4 rfl (lv_at hl 0 rfl) ?_
      refine lv_aload_n hx hb dX11_wearers_5 rfl (lv_at hl 2 rfl) ?_
      refine va_get (D := (dC, dI)) (ci := 11) (v := .int (v 24)) (C := RX11) (T := TX11) (N := 79) hx hb hts inB_11 hown hE.1 hP 0 rfl rfl 48 (by decide) (hts _ k_1368) (fun _ h9 => h9) rfl dX11_wearers_6 ?_
      have b24_v : 0 ≤ (v 24).toInt ∧ (v 24).toInt ≤ 6 := YIb.b hIv.1 24 (by decide)
      refine lv_icmp_ge (tgt := 43) hx hb dX11_wearers_9 (by decide) (fun c2 => ?_) (fun c2 => ?_)
      · skip
        have zc2 : (v 24).toInt ≤ l2_1.toInt := by rw [fa_le] at c2; exact c2
        have rg3 := fb_rng l2_1
        have rg4 := fb_rng (v 24)
        refine lv_iload_n hx hb dX11_wearers_43 rfl (lv_at hl 1 rfl) ?_
        exact ret l1_1 () _ _ _ _ _ _ rfl ⟨by omega, by omega⟩ hP hD hS dX11_wearers_44 (Nat.le_refl _) (Nat.le_refl _)
      · skip
        have zc2 : ¬ ((v 24).toInt ≤ l2_1.toInt) := by rw [fa_le] at c2; exact c2
        have rg5 := fb_rng l2_1
        have rg6 := fb_rng (v 24)
        refine lv_iload_n hx hb dX11_wearers_12 rfl (lv_at hl 1 rfl) ?_
        refine lv_aload_n hx hb dX11_wearers_13 rfl (lv_at hl 2 rfl) ?_
        refine va_get (D := (dC, dI)) (ci := 11) (v := .ref (r 60)) (C := RX11) (T := TX11) (N := 79) hx hb hts inB_11 hown hE.1 hP 0 rfl rfl 60 (by decide) (hts _ k_1380) (fun _ h9 => h9) rfl dX11_wearers_14 ?_
        refine lv_bipush (v := 6) hx hb dX11_wearers_17 (by decide) ?_
        refine lv_iload_n hx hb dX11_wearers_19 rfl (lv_at hl 0 rfl) ?_
        refine lv_iadd hx hb dX11_wearers_20 ?_
        refine lv_topi (fun t7 et7 => ?_)
        have zt7 : t7.toInt = 6 + l2_1.toInt := by rw [et7]; exact add_i (by decide) rfl (by omega) (by omega)
        refine ldI hx hb hE hP 25 rfl (vp_in_iff.mpr ⟨by omega, by omega⟩) rfl rfl dX11_wearers_21 ?_
        refine lv_topi (fun t8 et8 => ?_)
        have zt8 : t7.toInt.toNat % 39 < 6 ∨ 12 ≤ t7.toInt.toNat % 39 ∨ (-1 ≤ t8.toInt ∧ t8.toInt ≤ 5) := by rw [et8]; exact wear_ld hCf.2.1 (show t7.toInt.toNat < 39 by omega)
        refine lv_if_lt (tgt := 29) hx hb dX11_wearers_22 (by decide) (fun c9 => ?_) (fun c9 => ?_)
        · skip
          have zc9 : t8.toInt < 0 := by rw [fa_lt, show (0 : Int32).toInt = 0 from by decide] at c9; exact c9
          refine lv_iconst (v := 0) hx hb dX11_wearers_29 (by decide) ?_
          have lt10 : (0 : Int32).toInt = 0 := by decide
          refine cbSi (n := 1) (rest := [.int l1_1]) hx hb hml hown hts hE hP hD hS hA (sY_X11_truth_1 l dC dI cy y0 r 0 v f w g hIv hCf hRf ) k_1761 k_1762 k_114 k_1763 (by decide +kernel) ⟨Nat.le_of_ble_eq_true rfl, Nat.le_of_ble_eq_true rfl⟩ (rfl) hl.1 rfl (Nat.le_of_ble_eq_true rfl) dX11_wearers_30 (fun r11 u H locs hw hP hD hS => ?_)
          refine lv_iload_n hx hb dX11_wearers_33 rfl (lv_at hl 0 rfl) ?_
          refine lv_ishl hx hb dX11_wearers_34 ?_
          refine lv_topi (fun t12 et12 => ?_)
          have zt12 : 0 ≤ t12.toInt ∧ t12.toInt ≤ 32 := by rw [et12]; exact shl01_rng (by omega) (by omega) (by omega) (by omega)
          refine lv_ior hx hb dX11_wearers_35 ?_
          refine lv_topi (fun t13 et13 => ?_)
          have zt13 : 0 ≤ t13.toInt ∧ t13.toInt ≤ 63 := by rw [et13]; exact or_rng (by omega) (by omega) (by omega) (by omega)
          refine lv_istore_n (lv' := [(1, .int t13), (2, .int l2_1), (0, .ref y0)]) hx hb dX11_wearers_36 rfl hl (by decide) rfl (fun ls hl => ?_)
          obtain ⟨t14, et14⟩ : ∃ y : Int32, y = l2_1 + 1 := ⟨_, rfl⟩
          have zt14 : t14.toInt = l2_1.toInt + 1 := by rw [et14]; exact add_i rfl (by decide) (by omega) (by omega)
          refine lv_iinc (v := t14) (lv' := [(2, .int t14), (1, .int t13), (0, .ref y0)]) hx hb dX11_wearers_37 hl (k := 1) rfl (by rw [et14]; rfl) (by decide) rfl (fun ls hl => ?_)
          refine lv_goto (tgt := 4) hx hb dX11_wearers_40 (by decide) ?_
          have rg15 := fb_rng t13
          have rg16 := fb_rng t14
          exact ih1 t13 t14 ⟨show (0 : Int) ≤ t13.toInt by omega, show t13.toInt ≤ (63 : Int) by omega⟩ ⟨show (0 : Int) ≤ t14.toInt by omega, show t14.toInt ≤ (2147483647 : Int) by omega⟩ (by show (2147483647 - t14.toInt).toNat < n1; omega) _ _ _ hP hD hS (lv_sub hl [0, 1, 2] rfl)
        · skip
          have zc9 : ¬ (t8.toInt < 0) := by rw [fa_lt, show (0 : Int32).toInt = 0 from by decide] at c9; exact c9
          refine lv_iconst (v := 1) hx hb dX11_wearers_25 (by decide) ?_
          refine lv_goto (tgt := 30) hx hb dX11_wearers_26 (by decide) ?_
          have lt17 : (1 : Int32).toInt = 1 := by decide
          refine cbSi (n := 1) (rest := [.int l1_1]) hx hb hml hown hts hE hP hD hS hA (sY_X11_truth_1 l dC dI cy y0 r 1 v f w g hIv hCf hRf ) k_1761 k_1762 k_114 k_1763 (by decide +kernel) ⟨Nat.le_of_ble_eq_true rfl, Nat.le_of_ble_eq_true rfl⟩ (rfl) hl.1 rfl (Nat.le_of_ble_eq_true rfl) dX11_wearers_30 (fun r18 u H locs hw hP hD hS => ?_)
          refine lv_iload_n hx hb dX11_wearers_33 rfl (lv_at hl 0 rfl) ?_
          refine lv_ishl hx hb dX11_wearers_34 ?_
          refine lv_topi (fun t19 et19 => ?_)
          have zt19 : 0 ≤ t19.toInt ∧ t19.toInt ≤ 32 := by rw [et19]; exact shl01_rng (by omega) (by omega) (by omega) (by omega)
          refine lv_ior hx hb dX11_wearers_35 ?_
          refine lv_topi (fun t20 et20 => ?_)
          have zt20 : 0 ≤ t20.toInt ∧ t20.toInt ≤ 63 := by rw [et20]; exact or_rng (by omega) (by omega) (by omega) (by omega)
          refine lv_istore_n (lv' := [(1, .int t20), (2, .int l2_1), (0, .ref y0)]) hx hb dX11_wearers_36 rfl hl (by decide) rfl (fun ls hl => ?_)
          obtain ⟨t21, et21⟩ : ∃ y : Int32, y = l2_1 + 1 := ⟨_, rfl⟩
          have zt21 : t21.toInt = l2_1.toInt + 1 := by rw [et21]; exact add_i rfl (by decide) (by omega) (by omega)
          refine lv_iinc (v := t21) (lv' := [(2, .int t21), (1, .int t20), (0, .ref y0)]) hx hb dX11_wearers_37 hl (k := 1) rfl (by rw [et21]; rfl) (by decide) rfl (fun ls hl => ?_)
          refine lv_goto (tgt := 4) hx hb dX11_wearers_40 (by decide) ?_
          have rg22 := fb_rng t20
          have rg23 := fb_rng t21
          exact ih1 t20 t21 ⟨show (0 : Int) ≤ t20.toInt by omega, show t20.toInt ≤ (63 : Int) by omega⟩ ⟨show (0 : Int) ≤ t21.toInt by omega, show t21.toInt ≤ (2147483647 : Int) by omega⟩ (by show (2147483647 - t21.toInt).toNat < n1; omega) _ _ _ hP hD hS (lv_sub hl [0, 1, 2] rfl)
  exact lp1 _ 0 0 ⟨by decide, by decide⟩ ⟨by decide, by decide⟩ (Nat.lt_succ_self _) _ _ _ hP hD hS (lv_sub hl [0, 1, 2] rfl)
set_option maxHeartbeats 4000000 in
set_option maxRecDepth 100000 in
theorem sY_X11_fitsOwn_1 (l : Launch) (dC : Nat → ClassId) (dI : Nat → Nat → Nat) (cy : Nat → ClassId) (y0 : Nat) (r : Nat → Nat) (p1 : Int32) (v : Nat → Int32) (f : Nat → Nat → Int32) (w : Int64) (g : Nat → Int64) (hIv : YI v) (hCf : YC f) (hRf : progOK (f 4) (f 5) (v 9).toInt.toNat) (hp1 : (0 : Int) ≤ p1.toInt ∧ p1.toInt ≤ 5) : ctI l (dC, dI) cy yX11_fitsOwn cX11_fitsOwn 2 .boolean 5 148 0 0 ((Nat → Int32) × (Nat → Nat → Int32) × (Int64) × (Nat → Int64)) [.ref y0, .int p1] (YW cy y0 r v f w g) (fun r u => KV [] u.1 v ∧ KF [7, 8] u.2.1 f ∧ YI u.1 ∧ YC u.2.1 ∧ progOK (u.2.1 4) (u.2.1 5) (u.1 9).toInt.toNat ∧ u.1 0 = v 0 ∧ u.1 1 = v 1 ∧ u.1 2 = v 2 ∧ u.1 3 = v 3 ∧ u.1 4 = v 4 ∧ u.1 5 = v 5 ∧ u.1 8 = v 8 ∧ u.1 9 = v 9 ∧ u.1 10 = v 10 ∧ u.1 13 = v 13 ∧ u.1 14 = v 14 ∧ u.1 15 = v 15 ∧ u.1 17 = v 17 ∧ u.1 18 = v 18 ∧ u.1 24 = v 24 ∧ u.1 25 = v 25 ∧ u.1 35 = v 35 ∧ u.1 36 = v 36 ∧ u.1 38 = v 38 ∧ u.1 39 = v 39 ∧ ((r = 1) ∨ (r = 0))) (fun u => YW cy y0 r u.1 u.2.1 u.2.2.1 u.2.2.2) := by
  refine ctI_of (by decide) (Nat.le_of_ble_eq_true rfl) (fun p e s m below meth c A ls Q hx hb hml hts hown hE hP hD hA hl ret => ?_)
  have hUv : (v 35).toInt + (v 36).toInt ≤ 40 := hIv.2
  have hM_v : KV [] v v := fun _ _ => rfl
  have hA_f : KF [7, 8] f f := fun _ _ => rfl
  have hown : s.vm.findClass RX11 = some m.cls := hown
  have hS : va_S A s.heap s.heap [] := va_S.rf
  have hl : lv_has ls 2 [(0, .ref y0), (1, .int p1)] := hl
  refine lv_aload_n hx hb dX11_fitsOwn_0 rfl (lv_at hl 0 rfl) ?_
  refine lv_iload_n hx hb dX11_fitsOwn_1 rfl (lv_at hl 1 rfl) ?_
  refine lv_aload_n hx hb dX11_fitsOwn_2 rfl (lv_at hl 0 rfl) ?_
  refine va_get (D := (dC, dI)) (ci := 11) (v := .ref (r 60)) (C := RX11) (T := TX11) (N := 79) hx hb hts inB_11 hown hE.1 hP 0 rfl rfl 60 (by decide) (hts _ k_1380) (fun _ h9 => h9) rfl dX11_fitsOwn_3 ?_
  refine lv_bipush (v := 6) hx hb dX11_fitsOwn_6 (by decide) ?_
  refine lv_iload_n hx hb dX11_fitsOwn_8 rfl (lv_at hl 1 rfl) ?_
  refine lv_iadd hx hb dX11_fitsOwn_9 ?_
  refine lv_topi (fun t1 et1 => ?_)
  have rg2 := fb_rng p1
  have zt1 : t1.toInt = 6 + p1.toInt := by rw [et1]; exact add_i (by decide) rfl (by omega) (by omega)
  refine ldI hx hb hE hP 25 rfl (vp_in_iff.mpr ⟨by omega, by omega⟩) rfl rfl dX11_fitsOwn_10 ?_
  refine lv_topi (fun t3 et3 => ?_)
  have zt3 : t1.toInt.toNat % 39 < 6 ∨ 12 ≤ t1.toInt.toNat % 39 ∨ (-1 ≤ t3.toInt ∧ t3.toInt ≤ 5) := by rw [et3]; exact wear_ld hCf.2.1 (show t1.toInt.toNat < 39 by omega)
  refine cbVi (n := 2) (rest := []) hx hb hml hown hts hE hP hD hS hA (sY_X11_fits_1 l dC dI cy y0 r p1 t3 v f w g hIv hCf hRf ⟨show (0 : Int) ≤ p1.toInt by omega, show p1.toInt ≤ (5 : Int) by omega⟩ ⟨show (-1 : Int) ≤ t3.toInt by omega, show t3.toInt ≤ (5 : Int) by omega⟩) k_1747 k_1749 k_73 k_114 k_1750 (by decide +kernel) ⟨Nat.le_of_ble_eq_true rfl, Nat.le_of_ble_eq_true rfl⟩ 0 11 rfl rfl (rfl) hl.1 rfl (Nat.le_of_ble_eq_true rfl) dX11_fitsOwn_11 (fun r4 u H locs hw hP hD hS => ?_)
  obtain ⟨v5, f6, w7, g8⟩ := u
  obtain ⟨kV_v5, kF_f6, hIv5, hCf6, hRf6, hk0_v5, hk1_v5, hk2_v5, hk3_v5, hk4_v5, hk5_v5, hk8_v5, hk9_v5, hk10_v5, hk13_v5, hk14_v5, hk15_v5, hk17_v5, hk18_v5, hk24_v5, hk25_v5, hk35_v5, hk36_v5, hk38_v5, hk39_v5, hw⟩ := hw
  have hM_v5 : KV [] v5 v := KV.tr kV_v5 hM_v rfl
  have hA_f6 : KF [7, 8] f6 f := KF.tr kF_f6 hA_f rfl
  have hP : va_P (dC, dI) vwCl (YW cy y0 r v5 f6 w7 g8) H := hP
  have hD : va_D A (YW cy y0 r v5 f6 w7 g8) := hD
  have hUv5 : (v5 35).toInt + (v5 36).toInt ≤ 40 := hIv5.2
  have hq9_v5 : v5 9 = (v 9) := hk9_v5
  have zq9_v5 := congrArg Int32.toInt hq9_v5
  rcases hw with ⟨g9⟩ | ⟨g9⟩
  · skip
    subst g9
    exact ret 1 (v5, f6, w7, g8) _ _ _ _ _ _ rfl ⟨hM_v5, hA_f6, hIv5, hCf6, hRf6, hk0_v5, hk1_v5, hk2_v5, hk3_v5, hk4_v5, hk5_v5, hk8_v5, hk9_v5, hk10_v5, hk13_v5, hk14_v5, hk15_v5, hk17_v5, hk18_v5, hk24_v5, hk25_v5, hk35_v5, hk36_v5, hk38_v5, hk39_v5, (Or.inl rfl)⟩ hP hD hS dX11_fitsOwn_14 (Nat.le_refl _) (Nat.le_refl _)
  · skip
    subst g9
    exact ret 0 (v5, f6, w7, g8) _ _ _ _ _ _ rfl ⟨hM_v5, hA_f6, hIv5, hCf6, hRf6, hk0_v5, hk1_v5, hk2_v5, hk3_v5, hk4_v5, hk5_v5, hk8_v5, hk9_v5, hk10_v5, hk13_v5, hk14_v5, hk15_v5, hk17_v5, hk18_v5, hk24_v5, hk25_v5, hk35_v5, hk36_v5, hk38_v5, hk39_v5, (Or.inr rfl)⟩ hP hD hS dX11_fitsOwn_14 (Nat.le_refl _) (Nat.le_refl _)
set_option maxHeartbeats 4000000 in
set_option maxRecDepth 100000 in
theorem sY_X11_fittedOnes_1 (l : Launch) (dC : Nat → ClassId) (dI : Nat → Nat → Nat) (cy : Nat → ClassId) (y0 : Nat) (r : Nat → Nat)  (v : Nat → Int32) (f : Nat → Nat → Int32) (w : Int64) (g : Nat → Int64) (hIv : YI v) (hCf : YC f) (hRf : progOK (f 4) (f 5) (v 9).toInt.toNat)  : ctI l (dC, dI) cy yX11_fittedOnes cX11_fittedOnes 3 .int 6 169 0 0 ((Nat → Int32) × (Nat → Nat → Int32) × (Int64) × (Nat → Int64)) [.ref y0] (YW cy y0 r v f w g) (fun r u => KV [] u.1 v ∧ KF [7, 8] u.2.1 f ∧ YI u.1 ∧ YC u.2.1 ∧ progOK (u.2.1 4) (u.2.1 5) (u.1 9).toInt.toNat ∧ u.1 0 = v 0 ∧ u.1 1 = v 1 ∧ u.1 2 = v 2 ∧ u.1 3 = v 3 ∧ u.1 4 = v 4 ∧ u.1 5 = v 5 ∧ u.1 8 = v 8 ∧ u.1 9 = v 9 ∧ u.1 10 = v 10 ∧ u.1 13 = v 13 ∧ u.1 14 = v 14 ∧ u.1 15 = v 15 ∧ u.1 17 = v 17 ∧ u.1 18 = v 18 ∧ u.1 24 = v 24 ∧ u.1 25 = v 25 ∧ u.1 35 = v 35 ∧ u.1 36 = v 36 ∧ u.1 38 = v 38 ∧ u.1 39 = v 39) (fun u => YW cy y0 r u.1 u.2.1 u.2.2.1 u.2.2.2) := by
  refine ctI_of (by decide) (Nat.le_of_ble_eq_true rfl) (fun p e s m below meth c A ls Q hx hb hml hts hown hE hP hD hA hl ret => ?_)
  have hUv : (v 35).toInt + (v 36).toInt ≤ 40 := hIv.2
  have hM_v : KV [] v v := fun _ _ => rfl
  have hA_f : KF [7, 8] f f := fun _ _ => rfl
  have hown : s.vm.findClass RX11 = some m.cls := hown
  have hS : va_S A s.heap s.heap [] := va_S.rf
  have hl : lv_has ls 3 [(0, .ref y0)] := hl
  refine lv_iconst (v := 0) hx hb dX11_fittedOnes_0 (by decide) ?_
  refine lv_istore_n (lv' := [(1, .int 0), (0, .ref y0)]) hx hb dX11_fittedOnes_1 rfl hl (by decide) rfl (fun ls hl => ?_)
  refine lv_iconst (v := 0) hx hb dX11_fittedOnes_2 (by decide) ?_
  refine lv_istore_n (lv' := [(2, .int 0), (1, .int 0), (0, .ref y0)]) hx hb dX11_fittedOnes_3 rfl hl (by decide) rfl (fun ls hl => ?_)
  have lp1 : ∀ (n1 : Nat) (l1_1 : Int32) (l2_1 : Int32) (v1 : Nat → Int32) (f1 : Nat → Nat → Int32) (w1 : Int64) (g1 : Nat → Int64), YI v1 → YC f1 → progOK (f1 4) (f1 5) (v1 9).toInt.toNat → v1 0 = (v 0) → v1 1 = (v 1) → v1 2 = (v 2) → v1 3 = (v 3) → v1 4 = (v 4) → v1 5 = (v 5) → v1 8 = (v 8) → v1 9 = (v 9) → v1 10 = (v 10) → v1 13 = (v 13) → v1 14 = (v 14) → v1 15 = (v 15) → v1 17 = (v 17) → v1 18 = (v 18) → v1 24 = (v 24) → v1 25 = (v 25) → v1 35 = (v 35) → v1 36 = (v 36) → v1 38 = (v 38) → v1 39 = (v 39) → ((0 : Int) ≤ l2_1.toInt ∧ l2_1.toInt ≤ 2147483647) → KV [] v1 v → KF [7, 8] f1 f → (2147483647 - l2_1.toInt).toNat < n1 → ∀ (H : Heap) (locs : List Loc) (ls : Array Slot), va_P (dC, dI) vwCl (YW cy y0 r v1 f1 w1 g1) H → va_D A (YW cy y0 r v1 f1 w1 g1) → va_S A s.heap H locs → lv_has ls 3 [(2, .int l2_1), (1, .int l1_1), (0, .ref y0)] → W p l e { frames := 6, cells := 0, slots := 0, locals := 169 } s m ([.ref y0] : List Value).toArray below meth c H locs 0 0 Q (F0 m 4 ls []) := by
    intro n1
    induction n1 with
    | zero => intro l1_1 l2_1 v1 f1 w1 g1 hIv1 hCf1 hRf1 hq0_v1 hq1_v1 hq2_v1 hq3_v1 hq4_v1 hq5_v1 hq8_v1 hq9_v1 hq10_v1 hq13_v1 hq14_v1 hq15_v1 hq17_v1 hq18_v1 hq24_v1 hq25_v1 hq35_v1 hq36_v1 hq38_v1 hq39_v1 hr2_1 hM_v1 hA_f1 hm; exact absurd hm (Nat.not_lt_zero _)
    | succ n1 ih1 =>
      intro l1_1 l2_1 v1 f1 w1 g1 hIv1 hCf1 hRf1 hq0_v1 hq1_v1 hq2_v1 hq3_v1 hq4_v1 hq5_v1 hq8_v1 hq9_v1 hq10_v1 hq13_v1 hq14_v1 hq15_v1 hq17_v1 hq18_v1 hq24_v1 hq25_v1 hq35_v1 hq36_v1 hq38_v1 hq39_v1 hr2_1 hM_v1 hA_f1 hm1 H locs ls hP hD hS hl
      have hUv1 : (v1 35).toInt + (v1 36).toInt ≤ 40 := hIv1.2
      have zq9_v1 := congrArg Int32.toInt hq9_v1
      refine lv_iload_n hx hb dX11_fittedOnes_4 rfl (lv_at hl 0 rfl) ?_
      refine lv_aload_n hx hb dX11_fittedOnes_5 rfl (lv_at hl 2 rfl) ?_
      refine va_get (D := (dC, dI)) (ci := 11) (v := .int (v1 24)) (C := RX11) (T := TX11) (N := 79) hx hb hts inB_11 hown hE.1 hP 0 rfl rfl 48 (by decide) (hts _ k_1368) (fun _ h9 => h9) rfl dX11_fittedOnes_6 ?_
      refine tI (y := (v 24)) hq24_v1 ?_
      have b24_v : 0 ≤ (v 24).toInt ∧ (v 24).toInt ≤ 6 := YIb.b hIv.1 24 (by decide)
      refine lv_icmp_ge (tgt := 31) hx hb dX11_fittedOnes_9 (by decide) (fun c2 => ?_) (fun c2 => ?_)
      · skip
        have zc2 : (v 24).toInt ≤ l2_1.toInt := by rw [fa_le] at c2; exact c2
        have rg3 := fb_rng l2_1
        have rg4 := fb_rng (v 24)
        refine lv_iload_n hx hb dX11_fittedOnes_31 rfl (lv_at hl 1 rfl) ?_
        exact ret l1_1 (v1, f1, w1, g1) _ _ _ _ _ _ rfl ⟨hM_v1, hA_f1, hIv1, hCf1, hRf1, (show v1 0 = v 0 from hq0_v1), (show v1 1 = v 1 from hq1_v1), (show v1 2 = v 2 from hq2_v1), (show v1 3 = v 3 from hq3_v1), (show v1 4 = v 4 from hq4_v1), (show v1 5 = v 5 from hq5_v1), (show v1 8 = v 8 from hq8_v1), (show v1 9 = v 9 from hq9_v1), (show v1 10 = v 10 from hq10_v1), (show v1 13 = v 13 from hq13_v1), (show v1 14 = v 14 from hq14_v1), (show v1 15 = v 15 from hq15_v1), (show v1 17 = v 17 from hq17_v1), (show v1 18 = v 18 from hq18_v1), (show v1 24 = v 24 from hq24_v1), (show v1 25 = v 25 from hq25_v1), (show v1 35 = v 35 from hq35_v1), (show v1 36 = v 36 from hq36_v1), (show v1 38 = v 38 from hq38_v1), (show v1 39 = v 39 from hq39_v1)⟩ hP hD hS dX11_fittedOnes_32 (Nat.le_refl _) (Nat.le_refl _)
      · skip
        have zc2 : ¬ ((v 24).toInt ≤ l2_1.toInt) := by rw [fa_le] at c2; exact c2
        have rg5 := fb_rng l2_1
        have rg6 := fb_rng (v 24)
        refine lv_iload_n hx hb dX11_fittedOnes_12 rfl (lv_at hl 1 rfl) ?_
        refine lv_aload_n hx hb dX11_fittedOnes_13 rfl (lv_at hl 2 rfl) ?_
        refine lv_iload_n hx hb dX11_fittedOnes_14 rfl (lv_at hl 0 rfl) ?_
        refine cbVi (n := 1) (rest := [.int l1_1]) hx hb hml hown hts hE hP hD hS hA (sY_X11_fitsOwn_1 l dC dI cy y0 r l2_1 v1 f1 w1 g1 hIv1 hCf1 hRf1 ⟨show (0 : Int) ≤ l2_1.toInt by omega, show l2_1.toInt ≤ (5 : Int) by omega⟩) k_1813 k_1815 k_82 k_114 k_1816 (by decide +kernel) ⟨Nat.le_of_ble_eq_true rfl, Nat.le_of_ble_eq_true rfl⟩ 0 11 rfl rfl (rfl) hl.1 rfl (Nat.le_of_ble_eq_true rfl) dX11_fittedOnes_15 (fun r7 u H locs hw hP hD hS => ?_)
        obtain ⟨v8, f9, w10, g11⟩ := u
        obtain ⟨kV_v8, kF_f9, hIv8, hCf9, hRf9, hk0_v8, hk1_v8, hk2_v8, hk3_v8, hk4_v8, hk5_v8, hk8_v8, hk9_v8, hk10_v8, hk13_v8, hk14_v8, hk15_v8, hk17_v8, hk18_v8, hk24_v8, hk25_v8, hk35_v8, hk36_v8, hk38_v8, hk39_v8, hw⟩ := hw
        have hM_v8 : KV [] v8 v := KV.tr kV_v8 hM_v1 rfl
        have hA_f9 : KF [7, 8] f9 f := KF.tr kF_f9 hA_f1 rfl
        have hP : va_P (dC, dI) vwCl (YW cy y0 r v8 f9 w10 g11) H := hP
        have hD : va_D A (YW cy y0 r v8 f9 w10 g11) := hD
        have hUv8 : (v8 35).toInt + (v8 36).toInt ≤ 40 := hIv8.2
        have hq0_v8 : v8 0 = (v 0) := hk0_v8.trans hq0_v1
        have hq1_v8 : v8 1 = (v 1) := hk1_v8.trans hq1_v1
        have hq2_v8 : v8 2 = (v 2) := hk2_v8.trans hq2_v1
        have hq3_v8 : v8 3 = (v 3) := hk3_v8.trans hq3_v1
        have hq4_v8 : v8 4 = (v 4) := hk4_v8.trans hq4_v1
        have hq5_v8 : v8 5 = (v 5) := hk5_v8.trans hq5_v1
        have hq8_v8 : v8 8 = (v 8) := hk8_v8.trans hq8_v1
        have hq9_v8 : v8 9 = (v 9) := hk9_v8.trans hq9_v1
        have zq9_v8 := congrArg Int32.toInt hq9_v8
        have hq10_v8 : v8 10 = (v 10) := hk10_v8.trans hq10_v1
        have hq13_v8 : v8 13 = (v 13) := hk13_v8.trans hq13_v1
        have hq14_v8 : v8 14 = (v 14) := hk14_v8.trans hq14_v1
        have hq15_v8 : v8 15 = (v 15) := hk15_v8.trans hq15_v1
        have hq17_v8 : v8 17 = (v 17) := hk17_v8.trans hq17_v1
        have hq18_v8 : v8 18 = (v 18) := hk18_v8.trans hq18_v1
        have hq24_v8 : v8 24 = (v 24) := hk24_v8.trans hq24_v1
        have hq25_v8 : v8 25 = (v 25) := hk25_v8.trans hq25_v1
        have hq35_v8 : v8 35 = (v 35) := hk35_v8.trans hq35_v1
        have hq36_v8 : v8 36 = (v 36) := hk36_v8.trans hq36_v1
        have hq38_v8 : v8 38 = (v 38) := hk38_v8.trans hq38_v1
        have hq39_v8 : v8 39 = (v 39) := hk39_v8.trans hq39_v1
        rcases hw with ⟨g12⟩ | ⟨g12⟩
        · skip
          subst g12
          have lt13 : (1 : Int32).toInt = 1 := by decide
          refine cbSi (n := 1) (rest := [.int l1_1]) hx hb hml hown hts hE hP hD hS hA (sY_X11_truth_1 l dC dI cy y0 r 1 v8 f9 w10 g11 hIv8 hCf9 hRf9 ) k_1761 k_1762 k_114 k_1763 (by decide +kernel) ⟨Nat.le_of_ble_eq_true rfl, Nat.le_of_ble_eq_true rfl⟩ (rfl) hl.1 rfl (Nat.le_of_ble_eq_true rfl) dX11_fittedOnes_18 (fun r14 u H locs hw hP hD hS => ?_)
          refine lv_iload_n hx hb dX11_fittedOnes_21 rfl (lv_at hl 0 rfl) ?_
          refine lv_ishl hx hb dX11_fittedOnes_22 ?_
          refine lv_topi (fun t15 et15 => ?_)
          have zt15 : 0 ≤ t15.toInt ∧ t15.toInt ≤ 32 := by rw [et15]; exact shl01_rng (by omega) (by omega) (by omega) (by omega)
          refine lv_ior hx hb dX11_fittedOnes_23 ?_
          refine lv_topi (fun t16 et16 => ?_)
          refine lv_istore_n (lv' := [(1, .int t16), (2, .int l2_1), (0, .ref y0)]) hx hb dX11_fittedOnes_24 rfl hl (by decide) rfl (fun ls hl => ?_)
          obtain ⟨t17, et17⟩ : ∃ y : Int32, y = l2_1 + 1 := ⟨_, rfl⟩
          have zt17 : t17.toInt = l2_1.toInt + 1 := by rw [et17]; exact add_i rfl (by decide) (by omega) (by omega)
          refine lv_iinc (v := t17) (lv' := [(2, .int t17), (1, .int t16), (0, .ref y0)]) hx hb dX11_fittedOnes_25 hl (k := 1) rfl (by rw [et17]; rfl) (by decide) rfl (fun ls hl => ?_)
          refine lv_goto (tgt := 4) hx hb dX11_fittedOnes_28 (by decide) ?_
          have rg18 := fb_rng t17
          exact ih1 t16 t17 v8 f9 w10 g11 hIv8 hCf9 hRf9 hq0_v8 hq1_v8 hq2_v8 hq3_v8 hq4_v8 hq5_v8 hq8_v8 hq9_v8 hq10_v8 hq13_v8 hq14_v8 hq15_v8 hq17_v8 hq18_v8 hq24_v8 hq25_v8 hq35_v8 hq36_v8 hq38_v8 hq39_v8 ⟨show (0 : Int) ≤ t17.toInt by omega, show t17.toInt ≤ (2147483647 : Int) by omega⟩ hM_v8 hA_f9 (by show (2147483647 - t17.toInt).toNat < n1; omega) _ _ _ hP hD hS (lv_sub hl [0, 1, 2] rfl)
        · skip
          subst g12
          have lt19 : (0 : Int32).toInt = 0 := by decide
          refine cbSi (n := 1) (rest := [.int l1_1]) hx hb hml hown hts hE hP hD hS hA (sY_X11_truth_1 l dC dI cy y0 r 0 v8 f9 w10 g11 hIv8 hCf9 hRf9 ) k_1761 k_1762 k_114 k_1763 (by decide +kernel) ⟨Nat.le_of_ble_eq_true rfl, Nat.le_of_ble_eq_true rfl⟩ (rfl) hl.1 rfl (Nat.le_of_ble_eq_true rfl) dX11_fittedOnes_18 (fun r20 u H locs hw hP hD hS => ?_)
          refine lv_iload_n hx hb dX11_fittedOnes_21 rfl (lv_at hl 0 rfl) ?_
          refine lv_ishl hx hb dX11_fittedOnes_22 ?_
          refine lv_topi (fun t21 et21 => ?_)
          have zt21 : 0 ≤ t21.toInt ∧ t21.toInt ≤ 32 := by rw [et21]; exact shl01_rng (by omega) (by omega) (by omega) (by omega)
          refine lv_ior hx hb dX11_fittedOnes_23 ?_
          refine lv_topi (fun t22 et22 => ?_)
          refine lv_istore_n (lv' := [(1, .int t22), (2, .int l2_1), (0, .ref y0)]) hx hb dX11_fittedOnes_24 rfl hl (by decide) rfl (fun ls hl => ?_)
          obtain ⟨t23, et23⟩ : ∃ y : Int32, y = l2_1 + 1 := ⟨_, rfl⟩
          have zt23 : t23.toInt = l2_1.toInt + 1 := by rw [et23]; exact add_i rfl (by decide) (by omega) (by omega)
          refine lv_iinc (v := t23) (lv' := [(2, .int t23), (1, .int t22), (0, .ref y0)]) hx hb dX11_fittedOnes_25 hl (k := 1) rfl (by rw [et23]; rfl) (by decide) rfl (fun ls hl => ?_)
          refine lv_goto (tgt := 4) hx hb dX11_fittedOnes_28 (by decide) ?_
          have rg24 := fb_rng t23
          exact ih1 t22 t23 v8 f9 w10 g11 hIv8 hCf9 hRf9 hq0_v8 hq1_v8 hq2_v8 hq3_v8 hq4_v8 hq5_v8 hq8_v8 hq9_v8 hq10_v8 hq13_v8 hq14_v8 hq15_v8 hq17_v8 hq18_v8 hq24_v8 hq25_v8 hq35_v8 hq36_v8 hq38_v8 hq39_v8 ⟨show (0 : Int) ≤ t23.toInt by omega, show t23.toInt ≤ (2147483647 : Int) by omega⟩ hM_v8 hA_f9 (by show (2147483647 - t23.toInt).toNat < n1; omega) _ _ _ hP hD hS (lv_sub hl [0, 1, 2] rfl)
  exact lp1 _ 0 0 v f w g hIv hCf hRf rfl rfl rfl rfl rfl rfl rfl rfl rfl rfl rfl rfl rfl rfl rfl rfl rfl rfl rfl rfl ⟨by decide, by decide⟩ hM_v hA_f (Nat.lt_succ_self _) _ _ _ hP hD hS (lv_sub hl [0, 1, 2] rfl)
