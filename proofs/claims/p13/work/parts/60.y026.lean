set_option maxHeartbeats 4000000 in
set_option maxRecDepth 100000 in
theorem sY_X11_fits_1 (NF : Nat) (l : Launch) (dC : Nat → ClassId) (dI : Nat → Nat → Nat) (cy : Nat → ClassId) (y0 : Nat) (r : Nat → Nat) (p1 : Int32) (p2 : Int32) (v : Nat → Int32) (f : Nat → Nat → Int32) (w : Int64) (g : Nat → Int64) (hIv : YI v) (hCf : YC f) (hRf : progOK (f 4) (f 5) (v 9).toInt.toNat) (hp1 : (0 : Int) ≤ p1.toInt ∧ p1.toInt ≤ 5) (hp2 : (-1 : Int) ≤ p2.toInt ∧ p2.toInt ≤ 5) : ctI l (dC, dI) cy yX11_fits cX11_fits 3 .boolean 4 126 0 0 ((Nat → Int32) × (Nat → Nat → Int32) × (Int64) × (Nat → Int64)) [.ref y0, .int p1, .int p2] (YW cy y0 r v f w g) (fun r u => gsY_X11_fits_1 NF p1 p2 v f w g = (r, u) ∧ KV [] u.1 v ∧ KF [7, 8] u.2.1 f ∧ YI u.1 ∧ YC u.2.1 ∧ progOK (u.2.1 4) (u.2.1 5) (u.1 9).toInt.toNat ∧ u.1 0 = v 0 ∧ u.1 1 = v 1 ∧ u.1 2 = v 2 ∧ u.1 3 = v 3 ∧ u.1 4 = v 4 ∧ u.1 5 = v 5 ∧ u.1 8 = v 8 ∧ u.1 9 = v 9 ∧ u.1 10 = v 10 ∧ u.1 13 = v 13 ∧ u.1 14 = v 14 ∧ u.1 15 = v 15 ∧ u.1 17 = v 17 ∧ u.1 18 = v 18 ∧ u.1 24 = v 24 ∧ u.1 25 = v 25 ∧ u.1 35 = v 35 ∧ u.1 36 = v 36 ∧ u.1 38 = v 38 ∧ u.1 39 = v 39 ∧ ((r = 1) ∨ (r = 0))) (fun u => YW cy y0 r u.1 u.2.1 u.2.2.1 u.2.2.2) := by
  refine ctI_of (by decide) (Nat.le_of_ble_eq_true rfl) (fun p e s m below meth c A ls Q hx hb hml hts hown hE hP hD hA hl ret => ?_)
  have hUv : (v 35).toInt + (v 36).toInt ≤ 40 := hIv.2
  have hM_v : KV [] v v := fun _ _ => rfl
  have hA_f : KF [7, 8] f f := fun _ _ => rfl
  have hown : s.vm.findClass RX11 = some m.cls := hown
  have hS : va_S A s.heap s.heap [] := va_S.rf
  have hl : lv_has ls 3 [(0, .ref y0), (1, .int p1), (2, .int p2)] := hl
  refine lv_iload_n hx hb dX11_fits_0 rfl (lv_at hl 2 rfl) ?_
  refine lv_if_lt (tgt := 21) hx hb dX11_fits_1 (by decide) (fun c1 => ?_) (fun c1 => ?_)
  · skip
    have zc1 : p2.toInt < 0 := by rw [fa_lt, show (0 : Int32).toInt = 0 from by decide] at c1; exact c1
    refine lv_iconst (v := 0) hx hb dX11_fits_21 (by decide) ?_
    exact ret 0 (v, f, w, g) _ _ _ _ _ _ rfl ⟨(gsY_X11_fits_1_q0 c1), hM_v, hA_f, hIv, hCf, hRf, rfl, rfl, rfl, rfl, rfl, rfl, rfl, rfl, rfl, rfl, rfl, rfl, rfl, rfl, rfl, rfl, rfl, rfl, rfl, rfl, (Or.inr rfl)⟩ hP hD hS dX11_fits_22 (Nat.le_refl _) (Nat.le_refl _)
  · skip
    have zc1 : ¬ (p2.toInt < 0) := by rw [fa_lt, show (0 : Int32).toInt = 0 from by decide] at c1; exact c1
    refine lv_aload_n hx hb dX11_fits_4 rfl (lv_at hl 0 rfl) ?_
    refine lv_iload_n hx hb dX11_fits_5 rfl (lv_at hl 1 rfl) ?_
    refine lv_iload_n hx hb dX11_fits_6 rfl (lv_at hl 2 rfl) ?_
    refine cbVi (n := 2) (rest := []) hx hb hml hown hts hE hP hD hS hA (sY_X11_misfitOf_1 NF l dC dI cy y0 r p1 p2 v f w g hIv hCf hRf ⟨show (0 : Int) ≤ p1.toInt by omega, show p1.toInt ≤ (5 : Int) by omega⟩ ⟨show (0 : Int) ≤ p2.toInt by omega, show p2.toInt ≤ (5 : Int) by omega⟩) k_1751 k_1753 k_74 k_114 k_1754 (by decide +kernel) ⟨Nat.le_of_ble_eq_true rfl, Nat.le_of_ble_eq_true rfl⟩ 0 11 rfl rfl (rfl) hl.1 rfl (Nat.le_of_ble_eq_true rfl) dX11_fits_7 (fun r2 u H locs hw hP hD hS => ?_)
    obtain ⟨hG3, hw⟩ := hw
    obtain ⟨v4, f5, w6, g7⟩ := u
    obtain ⟨kV_v4, kF_f5, hIv4, hCf5, hRf5, hk0_v4, hk1_v4, hk2_v4, hk3_v4, hk4_v4, hk5_v4, hk8_v4, hk9_v4, hk10_v4, hk13_v4, hk14_v4, hk15_v4, hk17_v4, hk18_v4, hk24_v4, hk25_v4, hk35_v4, hk36_v4, hk38_v4, hk39_v4⟩ := hw
    have hM_v4 : KV [] v4 v := KV.tr kV_v4 hM_v rfl
    have hA_f5 : KF [7, 8] f5 f := KF.tr kF_f5 hA_f rfl
    have hP : va_P (dC, dI) vwCl (YW cy y0 r v4 f5 w6 g7) H := hP
    have hD : va_D A (YW cy y0 r v4 f5 w6 g7) := hD
    have hUv4 : (v4 35).toInt + (v4 36).toInt ≤ 40 := hIv4.2
    have hq9_v4 : v4 9 = (v 9) := hk9_v4
    have zq9_v4 := congrArg Int32.toInt hq9_v4
    refine lv_aload_n hx hb dX11_fits_10 rfl (lv_at hl 0 rfl) ?_
    refine va_get (D := (dC, dI)) (ci := 11) (v := .int (v4 26)) (C := RX11) (T := TX11) (N := 79) hx hb hts inB_11 hown hE.1 hP 0 rfl rfl 50 (by decide) (hts _ k_1370) (fun _ h9 => h9) rfl dX11_fits_11 ?_
    refine lv_icmp_gt (tgt := 21) hx hb dX11_fits_14 (by decide) (fun c8 => ?_) (fun c8 => ?_)
    · skip
      have zc8 : (v4 26).toInt < r2.toInt := by rw [fa_lt] at c8; exact c8
      have rg9 := fb_rng r2
      have rg10 := fb_rng (v4 26)
      refine lv_iconst (v := 0) hx hb dX11_fits_21 (by decide) ?_
      exact ret 0 (v4, f5, w6, g7) _ _ _ _ _ _ rfl ⟨(gsY_X11_fits_1_q1 c1 hG3 c8), hM_v4, hA_f5, hIv4, hCf5, hRf5, hk0_v4, hk1_v4, hk2_v4, hk3_v4, hk4_v4, hk5_v4, hk8_v4, hk9_v4, hk10_v4, hk13_v4, hk14_v4, hk15_v4, hk17_v4, hk18_v4, hk24_v4, hk25_v4, hk35_v4, hk36_v4, hk38_v4, hk39_v4, (Or.inr rfl)⟩ hP hD hS dX11_fits_22 (Nat.le_refl _) (Nat.le_refl _)
    · skip
      have zc8 : ¬ ((v4 26).toInt < r2.toInt) := by rw [fa_lt] at c8; exact c8
      have rg11 := fb_rng r2
      have rg12 := fb_rng (v4 26)
      refine lv_iconst (v := 1) hx hb dX11_fits_17 (by decide) ?_
      refine lv_goto (tgt := 22) hx hb dX11_fits_18 (by decide) ?_
      exact ret 1 (v4, f5, w6, g7) _ _ _ _ _ _ rfl ⟨(gsY_X11_fits_1_q2 c1 hG3 c8), hM_v4, hA_f5, hIv4, hCf5, hRf5, hk0_v4, hk1_v4, hk2_v4, hk3_v4, hk4_v4, hk5_v4, hk8_v4, hk9_v4, hk10_v4, hk13_v4, hk14_v4, hk15_v4, hk17_v4, hk18_v4, hk24_v4, hk25_v4, hk35_v4, hk36_v4, hk38_v4, hk39_v4, (Or.inl rfl)⟩ hP hD hS dX11_fits_22 (Nat.le_refl _) (Nat.le_refl _)
set_option maxHeartbeats 4000000 in
set_option maxRecDepth 100000 in
theorem sY_X11_fitsOwn_1 (NF : Nat) (l : Launch) (dC : Nat → ClassId) (dI : Nat → Nat → Nat) (cy : Nat → ClassId) (y0 : Nat) (r : Nat → Nat) (p1 : Int32) (v : Nat → Int32) (f : Nat → Nat → Int32) (w : Int64) (g : Nat → Int64) (hIv : YI v) (hCf : YC f) (hRf : progOK (f 4) (f 5) (v 9).toInt.toNat) (hp1 : (0 : Int) ≤ p1.toInt ∧ p1.toInt ≤ 5) : ctI l (dC, dI) cy yX11_fitsOwn cX11_fitsOwn 2 .boolean 5 148 0 0 ((Nat → Int32) × (Nat → Nat → Int32) × (Int64) × (Nat → Int64)) [.ref y0, .int p1] (YW cy y0 r v f w g) (fun r u => gsY_X11_fitsOwn_1 NF p1 v f w g = (r, u) ∧ KV [] u.1 v ∧ KF [7, 8] u.2.1 f ∧ YI u.1 ∧ YC u.2.1 ∧ progOK (u.2.1 4) (u.2.1 5) (u.1 9).toInt.toNat ∧ u.1 0 = v 0 ∧ u.1 1 = v 1 ∧ u.1 2 = v 2 ∧ u.1 3 = v 3 ∧ u.1 4 = v 4 ∧ u.1 5 = v 5 ∧ u.1 8 = v 8 ∧ u.1 9 = v 9 ∧ u.1 10 = v 10 ∧ u.1 13 = v 13 ∧ u.1 14 = v 14 ∧ u.1 15 = v 15 ∧ u.1 17 = v 17 ∧ u.1 18 = v 18 ∧ u.1 24 = v 24 ∧ u.1 25 = v 25 ∧ u.1 35 = v 35 ∧ u.1 36 = v 36 ∧ u.1 38 = v 38 ∧ u.1 39 = v 39 ∧ ((r = 1) ∨ (r = 0))) (fun u => YW cy y0 r u.1 u.2.1 u.2.2.1 u.2.2.2) := by
  refine ctI_of (by decide) (Nat.le_of_ble_eq_true rfl) (fun p e s m below meth c A ls Q hx hb hml hts hown hE hP hD hA hl ret => ?_)
  have hUv : (v 35).toInt + (v 36).toInt ≤ 40 := hIv.2
  have hM_v : KV [] v v := fun _ _ => rfl
  have hA_f : KF [7, 8] f f := fun _ _ => rfl
  have hown : s.vm.findClass RX11 = some m.cls := hown
  have hS : va_S A s.heap s.heap [] := va_S.rf
  have hl : lv_has ls 2 [(0, .ref y0), (1, .int p1)] := hl
  refine lv_aload_n hx hb dX11_fitsOwn_0 rfl (lv_at hl 0 rfl) ?_
  refine lv_iload_n hx hb dX11_fitsOwn_1 rfl (lv_at hl 1 rfl) ?_
  refine lv_aload_n hx hb dX11_fitsOwn_2 rfl (lv_at hl 0 rfl) ?_
  refine va_get (D := (dC, dI)) (ci := 11) (v := .ref (r 60)) (C := RX11) (T := TX11) (N := 79) hx hb hts inB_11 hown hE.1 hP 0 rfl rfl 60 (by decide) (hts _ k_1380) (fun _ h9 => h9) rfl dX11_fitsOwn_3 ?_
  refine lv_bipush (v := 6) hx hb dX11_fitsOwn_6 (by decide) ?_
  refine lv_iload_n hx hb dX11_fitsOwn_8 rfl (lv_at hl 1 rfl) ?_
  refine lv_iadd hx hb dX11_fitsOwn_9 ?_
  refine lv_topi (fun t1 et1 => ?_)
  have rg2 := fb_rng p1
  have zt1 : t1.toInt = 6 + p1.toInt := by rw [et1]; exact add_i (by decide) rfl (by omega) (by omega)
  refine ldI hx hb hE hP 25 rfl (vp_in_iff.mpr ⟨by omega, by omega⟩) rfl rfl dX11_fitsOwn_10 ?_
  refine lv_topi (fun t3 et3 => ?_)
  have zt3 : t1.toInt.toNat % 39 < 6 ∨ 12 ≤ t1.toInt.toNat % 39 ∨ (-1 ≤ t3.toInt ∧ t3.toInt ≤ 5) := by rw [et3]; exact wear_ld hCf.2.1 (show t1.toInt.toNat < 39 by omega)
  refine cbVi (n := 2) (rest := []) hx hb hml hown hts hE hP hD hS hA (sY_X11_fits_1 NF l dC dI cy y0 r p1 t3 v f w g hIv hCf hRf ⟨show (0 : Int) ≤ p1.toInt by omega, show p1.toInt ≤ (5 : Int) by omega⟩ ⟨show (-1 : Int) ≤ t3.toInt by omega, show t3.toInt ≤ (5 : Int) by omega⟩) k_1747 k_1749 k_73 k_114 k_1750 (by decide +kernel) ⟨Nat.le_of_ble_eq_true rfl, Nat.le_of_ble_eq_true rfl⟩ 0 11 rfl rfl (rfl) hl.1 rfl (Nat.le_of_ble_eq_true rfl) dX11_fitsOwn_11 (fun r4 u H locs hw hP hD hS => ?_)
  obtain ⟨hG5, hw⟩ := hw
  obtain ⟨v6, f7, w8, g9⟩ := u
  obtain ⟨kV_v6, kF_f7, hIv6, hCf7, hRf7, hk0_v6, hk1_v6, hk2_v6, hk3_v6, hk4_v6, hk5_v6, hk8_v6, hk9_v6, hk10_v6, hk13_v6, hk14_v6, hk15_v6, hk17_v6, hk18_v6, hk24_v6, hk25_v6, hk35_v6, hk36_v6, hk38_v6, hk39_v6, hw⟩ := hw
  have hM_v6 : KV [] v6 v := KV.tr kV_v6 hM_v rfl
  have hA_f7 : KF [7, 8] f7 f := KF.tr kF_f7 hA_f rfl
  have hP : va_P (dC, dI) vwCl (YW cy y0 r v6 f7 w8 g9) H := hP
  have hD : va_D A (YW cy y0 r v6 f7 w8 g9) := hD
  have hUv6 : (v6 35).toInt + (v6 36).toInt ≤ 40 := hIv6.2
  have hq9_v6 : v6 9 = (v 9) := hk9_v6
  have zq9_v6 := congrArg Int32.toInt hq9_v6
  rcases hw with ⟨g10⟩ | ⟨g10⟩
  · skip
    subst g10
    exact ret 1 (v6, f7, w8, g9) _ _ _ _ _ _ rfl ⟨(gsY_X11_fitsOwn_1_q0 et1 et3 hG5), hM_v6, hA_f7, hIv6, hCf7, hRf7, hk0_v6, hk1_v6, hk2_v6, hk3_v6, hk4_v6, hk5_v6, hk8_v6, hk9_v6, hk10_v6, hk13_v6, hk14_v6, hk15_v6, hk17_v6, hk18_v6, hk24_v6, hk25_v6, hk35_v6, hk36_v6, hk38_v6, hk39_v6, (Or.inl rfl)⟩ hP hD hS dX11_fitsOwn_14 (Nat.le_refl _) (Nat.le_refl _)
  · skip
    subst g10
    exact ret 0 (v6, f7, w8, g9) _ _ _ _ _ _ rfl ⟨(gsY_X11_fitsOwn_1_q1 et1 et3 hG5), hM_v6, hA_f7, hIv6, hCf7, hRf7, hk0_v6, hk1_v6, hk2_v6, hk3_v6, hk4_v6, hk5_v6, hk8_v6, hk9_v6, hk10_v6, hk13_v6, hk14_v6, hk15_v6, hk17_v6, hk18_v6, hk24_v6, hk25_v6, hk35_v6, hk36_v6, hk38_v6, hk39_v6, (Or.inr rfl)⟩ hP hD hS dX11_fitsOwn_14 (Nat.le_refl _) (Nat.le_refl _)
set_option maxHeartbeats 4000000 in
set_option maxRecDepth 100000 in
theorem sY_X11_fittedOnes_1 (NF : Nat) (l : Launch) (dC : Nat → ClassId) (dI : Nat → Nat → Nat) (cy : Nat → ClassId) (y0 : Nat) (r : Nat → Nat)  (v : Nat → Int32) (f : Nat → Nat → Int32) (w : Int64) (g : Nat → Int64) (hIv : YI v) (hCf : YC f) (hRf : progOK (f 4) (f 5) (v 9).toInt.toNat)  : ctI l (dC, dI) cy yX11_fittedOnes cX11_fittedOnes 3 .int 6 169 0 0 ((Nat → Int32) × (Nat → Nat → Int32) × (Int64) × (Nat → Int64)) [.ref y0] (YW cy y0 r v f w g) (fun r u => gsY_X11_fittedOnes_1 NF v f w g = (r, u) ∧ KV [] u.1 v ∧ KF [7, 8] u.2.1 f ∧ YI u.1 ∧ YC u.2.1 ∧ progOK (u.2.1 4) (u.2.1 5) (u.1 9).toInt.toNat ∧ u.1 0 = v 0 ∧ u.1 1 = v 1 ∧ u.1 2 = v 2 ∧ u.1 3 = v 3 ∧ u.1 4 = v 4 ∧ u.1 5 = v 5 ∧ u.1 8 = v 8 ∧ u.1 9 = v 9 ∧ u.1 10 = v 10 ∧ u.1 13 = v 13 ∧ u.1 14 = v 14 ∧ u.1 15 = v 15 ∧ u.1 17 = v 17 ∧ u.1 18 = v 18 ∧ u.1 24 = v 24 ∧ u.1 25 = v 25 ∧ u.1 35 = v 35 ∧ u.1 36 = v 36 ∧ u.1 38 = v 38 ∧ u.1 39 = v 39) (fun u => YW cy y0 r u.1 u.2.1 u.2.2.1 u.2.2.2) := by
  refine ctI_of (by decide) (Nat.le_of_ble_eq_true rfl) (fun p e s m below meth c A ls Q hx hb hml hts hown hE hP hD hA hl ret => ?_)
  have hUv : (v 35).toInt + (v 36).toInt ≤ 40 := hIv.2
  have hM_v : KV [] v v := fun _ _ => rfl
  have hA_f : KF [7, 8] f f := fun _ _ => rfl
  have hown : s.vm.findClass RX11 = some m.cls := hown
  have hS : va_S A s.heap s.heap [] := va_S.rf
  have hl : lv_has ls 3 [(0, .ref y0)] := hl
  refine lv_iconst (v := 0) hx hb dX11_fittedOnes_0 (by decide) ?_
  refine lv_istore_n (lv' := [(1, .int 0), (0, .ref y0)]) hx hb dX11_fittedOnes_1 rfl hl (by decide) rfl (fun ls hl => ?_)
  refine lv_iconst (v := 0) hx hb dX11_fittedOnes_2 (by decide) ?_
  refine lv_istore_n (lv' := [(2, .int 0), (1, .int 0), (0, .ref y0)]) hx hb dX11_fittedOnes_3 rfl hl (by decide) rfl (fun ls hl => ?_)
  have lp1 : ∀ (n1 : Nat) (l1_1 : Int32) (l2_1 : Int32) (v1 : Nat → Int32) (f1 : Nat → Nat → Int32) (w1 : Int64) (g1 : Nat → Int64), YI v1 → YC f1 → progOK (f1 4) (f1 5) (v1 9).toInt.toNat → v1 0 = (v 0) → v1 1 = (v 1) → v1 2 = (v 2) → v1 3 = (v 3) → v1 4 = (v 4) → v1 5 = (v 5) → v1 8 = (v 8) → v1 9 = (v 9) → v1 10 = (v 10) → v1 13 = (v 13) → v1 14 = (v 14) → v1 15 = (v 15) → v1 17 = (v 17) → v1 18 = (v 18) → v1 24 = (v 24) → v1 25 = (v 25) → v1 35 = (v 35) → v1 36 = (v 36) → v1 38 = (v 38) → v1 39 = (v 39) → gsY_X11_fittedOnes_1_L1 NF v n1 l1_1 l2_1 v1 f1 w1 g1 = (gsY_X11_fittedOnes_1 NF v f w g) → ((0 : Int) ≤ l2_1.toInt ∧ l2_1.toInt ≤ 2147483647) → KV [] v1 v → KF [7, 8] f1 f → (2147483647 - l2_1.toInt).toNat < n1 → ∀ (H : Heap) (locs : List Loc) (ls : Array Slot), va_P (dC, dI) vwCl (YW cy y0 r v1 f1 w1 g1) H → va_D A (YW cy y0 r v1 f1 w1 g1) → va_S A s.heap H locs → lv_has ls 3 [(2, .int l2_1), (1, .int l1_1), (0, .ref y0)] → W p l e { frames := 6, cells := 0, slots := 0, locals := 169 } s m ([.ref y0] : List Value).toArray below meth c H locs 0 0 Q (F0 m 4 ls []) := by
    intro n1
    induction n1 with
    | zero => intro l1_1 l2_1 v1 f1 w1 g1 hIv1 hCf1 hRf1 hq0_v1 hq1_v1 hq2_v1 hq3_v1 hq4_v1 hq5_v1 hq8_v1 hq9_v1 hq10_v1 hq13_v1 hq14_v1 hq15_v1 hq17_v1 hq18_v1 hq24_v1 hq25_v1 hq35_v1 hq36_v1 hq38_v1 hq39_v1 hT1 hr2_1 hM_v1 hA_f1 hm; exact absurd hm (Nat.not_lt_zero _)
    | succ n1 ih1 =>
      intro l1_1 l2_1 v1 f1 w1 g1 hIv1 hCf1 hRf1 hq0_v1 hq1_v1 hq2_v1 hq3_v1 hq4_v1 hq5_v1 hq8_v1 hq9_v1 hq10_v1 hq13_v1 hq14_v1 hq15_v1 hq17_v1 hq18_v1 hq24_v1 hq25_v1 hq35_v1 hq36_v1 hq38_v1 hq39_v1 hT1 hr2_1 hM_v1 hA_f1 hm1 H locs ls hP hD hS hl
      have hUv1 : (v1 35).toInt + (v1 36).toInt ≤ 40 := hIv1.2
      have zq9_v1 := congrArg Int32.toInt hq9_v1
      refine lv_iload_n hx hb dX11_fittedOnes_4 rfl (lv_at hl 0 rfl) ?_
      refine lv_aload_n hx hb dX11_fittedOnes_5 rfl (lv_at hl 2 rfl) ?_
      refine va_get (D := (dC, dI)) (ci := 11) (v := .int (v1 24)) (C := RX11) (T := TX11) (N := 79) hx hb hts inB_11 hown hE.1 hP 0 rfl rfl 48 (by decide) (hts _ k_1368) (fun _ h9 => h9) rfl dX11_fittedOnes_6 ?_
      refine tI (y := (v 24)) hq24_v1 ?_
      have b24_v : 0 ≤ (v 24).toInt ∧ (v 24).toInt ≤ 6 := YIb.b hIv.1 24 (by decide)
      refine lv_icmp_ge (tgt := 31) hx hb dX11_fittedOnes_9 (by decide) (fun c2 => ?_) (fun c2 => ?_)
      · skip
        have zc2 : (v 24).toInt ≤ l2_1.toInt := by rw [fa_le] at c2; exact c2
        have rg3 := fb_rng l2_1
        have rg4 := fb_rng (v 24)
        refine lv_iload_n hx hb dX11_fittedOnes_31 rfl (lv_at hl 1 rfl) ?_
        exact ret l1_1 (v1, f1, w1, g1) _ _ _ _ _ _ rfl ⟨(hT1.symm.trans (gsY_X11_fittedOnes_1_q0 c2)), hM_v1, hA_f1, hIv1, hCf1, hRf1, (show v1 0 = v 0 from hq0_v1), (show v1 1 = v 1 from hq1_v1), (show v1 2 = v 2 from hq2_v1), (show v1 3 = v 3 from hq3_v1), (show v1 4 = v 4 from hq4_v1), (show v1 5 = v 5 from hq5_v1), (show v1 8 = v 8 from hq8_v1), (show v1 9 = v 9 from hq9_v1), (show v1 10 = v 10 from hq10_v1), (show v1 13 = v 13 from hq13_v1), (show v1 14 = v 14 from hq14_v1), (show v1 15 = v 15 from hq15_v1), (show v1 17 = v 17 from hq17_v1), (show v1 18 = v 18 from hq18_v1), (show v1 24 = v 24 from hq24_v1), (show v1 25 = v 25 from hq25_v1), (show v1 35 = v 35 from hq35_v1), (show v1 36 = v 36 from hq36_v1), (show v1 38 = v 38 from hq38_v1), (show v1 39 = v 39 from hq39_v1)⟩ hP hD hS dX11_fittedOnes_32 (Nat.le_refl _) (Nat.le_refl _)
      · skip
        have zc2 : ¬ ((v 24).toInt ≤ l2_1.toInt) := by rw [fa_le] at c2; exact c2
        have rg5 := fb_rng l2_1
        have rg6 := fb_rng (v 24)
        refine lv_iload_n hx hb dX11_fittedOnes_12 rfl (lv_at hl 1 rfl) ?_
        refine lv_aload_n hx hb dX11_fittedOnes_13 rfl (lv_at hl 2 rfl) ?_
        refine lv_iload_n hx hb dX11_fittedOnes_14 rfl (lv_at hl 0 rfl) ?_
        refine cbVi (n := 1) (rest := [.int l1_1]) hx hb hml hown hts hE hP hD hS hA (sY_X11_fitsOwn_1 NF l dC dI cy y0 r l2_1 v1 f1 w1 g1 hIv1 hCf1 hRf1 ⟨show (0 : Int) ≤ l2_1.toInt by omega, show l2_1.toInt ≤ (5 : Int) by omega⟩) k_1813 k_1815 k_82 k_114 k_1816 (by decide +kernel) ⟨Nat.le_of_ble_eq_true rfl, Nat.le_of_ble_eq_true rfl⟩ 0 11 rfl rfl (rfl) hl.1 rfl (Nat.le_of_ble_eq_true rfl) dX11_fittedOnes_15 (fun r7 u H locs hw hP hD hS => ?_)
        obtain ⟨hG8, hw⟩ := hw
        obtain ⟨v9, f10, w11, g12⟩ := u
        obtain ⟨kV_v9, kF_f10, hIv9, hCf10, hRf10, hk0_v9, hk1_v9, hk2_v9, hk3_v9, hk4_v9, hk5_v9, hk8_v9, hk9_v9, hk10_v9, hk13_v9, hk14_v9, hk15_v9, hk17_v9, hk18_v9, hk24_v9, hk25_v9, hk35_v9, hk36_v9, hk38_v9, hk39_v9, hw⟩ := hw
        have hM_v9 : KV [] v9 v := KV.tr kV_v9 hM_v1 rfl
        have hA_f10 : KF [7, 8] f10 f := KF.tr kF_f10 hA_f1 rfl
        have hP : va_P (dC, dI) vwCl (YW cy y0 r v9 f10 w11 g12) H := hP
        have hD : va_D A (YW cy y0 r v9 f10 w11 g12) := hD
        have hUv9 : (v9 35).toInt + (v9 36).toInt ≤ 40 := hIv9.2
        have hq0_v9 : v9 0 = (v 0) := hk0_v9.trans hq0_v1
        have hq1_v9 : v9 1 = (v 1) := hk1_v9.trans hq1_v1
        have hq2_v9 : v9 2 = (v 2) := hk2_v9.trans hq2_v1
        have hq3_v9 : v9 3 = (v 3) := hk3_v9.trans hq3_v1
        have hq4_v9 : v9 4 = (v 4) := hk4_v9.trans hq4_v1
        have hq5_v9 : v9 5 = (v 5) := hk5_v9.trans hq5_v1
        have hq8_v9 : v9 8 = (v 8) := hk8_v9.trans hq8_v1
        have hq9_v9 : v9 9 = (v 9) := hk9_v9.trans hq9_v1
        have zq9_v9 := congrArg Int32.toInt hq9_v9
        have hq10_v9 : v9 10 = (v 10) := hk10_v9.trans hq10_v1
        have hq13_v9 : v9 13 = (v 13) := hk13_v9.trans hq13_v1
        have hq14_v9 : v9 14 = (v 14) := hk14_v9.trans hq14_v1
        have hq15_v9 : v9 15 = (v 15) := hk15_v9.trans hq15_v1
        have hq17_v9 : v9 17 = (v 17) := hk17_v9.trans hq17_v1
        have hq18_v9 : v9 18 = (v 18) := hk18_v9.trans hq18_v1
        have hq24_v9 : v9 24 = (v 24) := hk24_v9.trans hq24_v1
        have hq25_v9 : v9 25 = (v 25) := hk25_v9.trans hq25_v1
        have hq35_v9 : v9 35 = (v 35) := hk35_v9.trans hq35_v1
        have hq36_v9 : v9 36 = (v 36) := hk36_v9.trans hq36_v1
        have hq38_v9 : v9 38 = (v 38) := hk38_v9.trans hq38_v1
        have hq39_v9 : v9 39 = (v 39) := hk39_v9.trans hq39_v1
        rcases hw with ⟨g13⟩ | ⟨g13⟩
        · skip
          subst g13
          have lt14 : (1 : Int32).toInt = 1 := by decide
          refine cbSi (n := 1) (rest := [.int l1_1]) hx hb hml hown hts hE hP hD hS hA (sY_X11_truth_1 NF l dC dI cy y0 r 1 v9 f10 w11 g12 hIv9 hCf10 hRf10 ) k_1761 k_1762 k_114 k_1763 (by decide +kernel) ⟨Nat.le_of_ble_eq_true rfl, Nat.le_of_ble_eq_true rfl⟩ (rfl) hl.1 rfl (Nat.le_of_ble_eq_true rfl) dX11_fittedOnes_18 (fun r15 u H locs hw hP hD hS => ?_)
          obtain ⟨hG16, hw⟩ := hw
          refine lv_iload_n hx hb dX11_fittedOnes_21 rfl (lv_at hl 0 rfl) ?_
          refine lv_ishl hx hb dX11_fittedOnes_22 ?_
          refine lv_topi (fun t17 et17 => ?_)
          have zt17 : 0 ≤ t17.toInt ∧ t17.toInt ≤ 32 := by rw [et17]; exact shl01_rng (by omega) (by omega) (by omega) (by omega)
          refine lv_ior hx hb dX11_fittedOnes_23 ?_
          refine lv_topi (fun t18 et18 => ?_)
          refine lv_istore_n (lv' := [(1, .int t18), (2, .int l2_1), (0, .ref y0)]) hx hb dX11_fittedOnes_24 rfl hl (by decide) rfl (fun ls hl => ?_)
          obtain ⟨t19, et19⟩ : ∃ y : Int32, y = l2_1 + 1 := ⟨_, rfl⟩
          have zt19 : t19.toInt = l2_1.toInt + 1 := by rw [et19]; exact add_i rfl (by decide) (by omega) (by omega)
          refine lv_iinc (v := t19) (lv' := [(2, .int t19), (1, .int t18), (0, .ref y0)]) hx hb dX11_fittedOnes_25 hl (k := 1) rfl (by rw [et19]; rfl) (by decide) rfl (fun ls hl => ?_)
          refine lv_goto (tgt := 4) hx hb dX11_fittedOnes_28 (by decide) ?_
          have rg20 := fb_rng t19
          exact ih1 t18 t19 v9 f10 w11 g12 hIv9 hCf10 hRf10 hq0_v9 hq1_v9 hq2_v9 hq3_v9 hq4_v9 hq5_v9 hq8_v9 hq9_v9 hq10_v9 hq13_v9 hq14_v9 hq15_v9 hq17_v9 hq18_v9 hq24_v9 hq25_v9 hq35_v9 hq36_v9 hq38_v9 hq39_v9 ((gsY_X11_fittedOnes_1_q1 c2 hG8 hG16.symm et17 et18 et19).symm.trans hT1) ⟨show (0 : Int) ≤ t19.toInt by omega, show t19.toInt ≤ (2147483647 : Int) by omega⟩ hM_v9 hA_f10 (by show (2147483647 - t19.toInt).toNat < n1; omega) _ _ _ hP hD hS (lv_sub hl [0, 1, 2] rfl)
        · skip
          subst g13
          have lt21 : (0 : Int32).toInt = 0 := by decide
          refine cbSi (n := 1) (rest := [.int l1_1]) hx hb hml hown hts hE hP hD hS hA (sY_X11_truth_1 NF l dC dI cy y0 r 0 v9 f10 w11 g12 hIv9 hCf10 hRf10 ) k_1761 k_1762 k_114 k_1763 (by decide +kernel) ⟨Nat.le_of_ble_eq_true rfl, Nat.le_of_ble_eq_true rfl⟩ (rfl) hl.1 rfl (Nat.le_of_ble_eq_true rfl) dX11_fittedOnes_18 (fun r22 u H locs hw hP hD hS => ?_)
          obtain ⟨hG23, hw⟩ := hw
          refine lv_iload_n hx hb dX11_fittedOnes_21 rfl (lv_at hl 0 rfl) ?_
          refine lv_ishl hx hb dX11_fittedOnes_22 ?_
          refine lv_topi (fun t24 et24 => ?_)
          have zt24 : 0 ≤ t24.toInt ∧ t24.toInt ≤ 32 := by rw [et24]; exact shl01_rng (by omega) (by omega) (by omega) (by omega)
          refine lv_ior hx hb dX11_fittedOnes_23 ?_
          refine lv_topi (fun t25 et25 => ?_)
          refine lv_istore_n (lv' := [(1, .int t25), (2, .int l2_1), (0, .ref y0)]) hx hb dX11_fittedOnes_24 rfl hl (by decide) rfl (fun ls hl => ?_)
          obtain ⟨t26, et26⟩ : ∃ y : Int32, y = l2_1 + 1 := ⟨_, rfl⟩
          have zt26 : t26.toInt = l2_1.toInt + 1 := by rw [et26]; exact add_i rfl (by decide) (by omega) (by omega)
          refine lv_iinc (v := t26) (lv' := [(2, .int t26), (1, .int t25), (0, .ref y0)]) hx hb dX11_fittedOnes_25 hl (k := 1) rfl (by rw [et26]; rfl) (by decide) rfl (fun ls hl => ?_)
          refine lv_goto (tgt := 4) hx hb dX11_fittedOnes_28 (by decide) ?_
          have rg27 := fb_rng t26
          exact ih1 t25 t26 v9 f10 w11 g12 hIv9 hCf10 hRf10 hq0_v9 hq1_v9 hq2_v9 hq3_v9 hq4_v9 hq5_v9 hq8_v9 hq9_v9 hq10_v9 hq13_v9 hq14_v9 hq15_v9 hq17_v9 hq18_v9 hq24_v9 hq25_v9 hq35_v9 hq36_v9 hq38_v9 hq39_v9 ((gsY_X11_fittedOnes_1_q2 c2 hG8 hG23.symm et24 et25 et26).symm.trans hT1) ⟨show (0 : Int) ≤ t26.toInt by omega, show t26.toInt ≤ (2147483647 : Int) by omega⟩ hM_v9 hA_f10 (by show (2147483647 - t26.toInt).toNat < n1; omega) _ _ _ hP hD hS (lv_sub hl [0, 1, 2] rfl)
  exact lp1 (4294967296 + NF) 0 0 v f w g hIv hCf hRf rfl rfl rfl rfl rfl rfl rfl rfl rfl rfl rfl rfl rfl rfl rfl rfl rfl rfl rfl rfl gsY_X11_fittedOnes_1_q3.symm ⟨by decide, by decide⟩ hM_v hA_f (by have q2 : (0 : Int32).toInt = 0 := (by decide); have q1 : (0 : Int32).toInt = 0 := (by decide); show (2147483647 - (0 : Int32).toInt).toNat < 4294967296 + NF; omega) _ _ _ hP hD hS (lv_sub hl [0, 1, 2] rfl)
set_option maxHeartbeats 4000000 in
set_option maxRecDepth 100000 in
theorem sY_X11_wearer_1 (NF : Nat) (l : Launch) (dC : Nat → ClassId) (dI : Nat → Nat → Nat) (cy : Nat → ClassId) (y0 : Nat) (r : Nat → Nat) (p1 : Int32) (v : Nat → Int32) (f : Nat → Nat → Int32) (w : Int64) (g : Nat → Int64) (hIv : YI v) (hCf : YC f) (hRf : progOK (f 4) (f 5) (v 9).toInt.toNat)  : ctI l (dC, dI) cy yX11_wearer cX11_wearer 4 .int 1 60 0 0 Unit [.ref y0, .int p1] (YW cy y0 r v f w g) (fun r u => gsY_X11_wearer_1 NF p1 v f w g = r) (fun u => YW cy y0 r v f w g) := by
  refine ctI_of (by decide) (Nat.le_of_ble_eq_true rfl) (fun p e s m below meth c A ls Q hx hb hml hts hown hE hP hD hA hl ret => ?_)
  have hUv : (v 35).toInt + (v 36).toInt ≤ 40 := hIv.2
  have hown : s.vm.findClass RX11 = some m.cls := hown
  have hS : va_S A s.heap s.heap [] := va_S.rf
  have hl : lv_has ls 4 [(0, .ref y0), (1, .int p1)] := hl
  refine lv_iconst (v := (-1)) hx hb dX11_wearer_0 (by decide) ?_
  refine lv_istore_n (lv' := [(2, .int (-1)), (0, .ref y0), (1, .int p1)]) hx hb dX11_wearer_1 rfl hl (by decide) rfl (fun ls hl => ?_)
  refine lv_iconst (v := 0) hx hb dX11_wearer_2 (by decide) ?_
  refine lv_istore_n (lv' := [(3, .int 0), (2, .int (-1)), (0, .ref y0), (1, .int p1)]) hx hb dX11_wearer_3 rfl hl (by decide) rfl (fun ls hl => ?_)
  have lp1 : ∀ (n1 : Nat) (l2_1 : Int32) (l3_1 : Int32), gsY_X11_wearer_1_L1 NF p1 v f n1 l2_1 l3_1 = (gsY_X11_wearer_1 NF p1 v f w g) → ((0 : Int) ≤ l3_1.toInt ∧ l3_1.toInt ≤ 2147483647) → (2147483647 - l3_1.toInt).toNat < n1 → ∀ (H : Heap) (locs : List Loc) (ls : Array Slot), va_P (dC, dI) vwCl (YW cy y0 r v f w g) H → va_D A (YW cy y0 r v f w g) → va_S A s.heap H locs → lv_has ls 4 [(3, .int l3_1), (2, .int l2_1), (0, .ref y0), (1, .int p1)] → W p l e { frames := 1, cells := 0, slots := 0, locals := 60 } s m ([.ref y0, .int p1] : List Value).toArray below meth c H locs 0 0 Q (F0 m 4 ls []) := by
    intro n1
    induction n1 with
    | zero => intro l2_1 l3_1 hT1 hr3_1 hm; exact absurd hm (Nat.not_lt_zero _)
    | succ n1 ih1 =>
      intro l2_1 l3_1 hT1 hr3_1 hm1 H locs ls hP hD hS hl
      refine lv_iload_n hx hb dX11_wearer_4 rfl (lv_at hl 0 rfl) ?_
      refine lv_aload_n hx hb dX11_wearer_5 rfl (lv_at hl 2 rfl) ?_
      refine va_get (D := (dC, dI)) (ci := 11) (v := .int (v 24)) (C := RX11) (T := TX11) (N := 79) hx hb hts inB_11 hown hE.1 hP 0 rfl rfl 48 (by decide) (hts _ k_1368) (fun _ h9 => h9) rfl dX11_wearer_6 ?_
      have b24_v : 0 ≤ (v 24).toInt ∧ (v 24).toInt ≤ 6 := YIb.b hIv.1 24 (by decide)
      refine lv_icmp_ge (tgt := 37) hx hb dX11_wearer_9 (by decide) (fun c2 => ?_) (fun c2 => ?_)
      · skip
        have zc2 : (v 24).toInt ≤ l3_1.toInt := by rw [fa_le] at c2; exact c2
        have rg3 := fb_rng l3_1
        have rg4 := fb_rng (v 24)
        refine lv_iload_n hx hb dX11_wearer_37 rfl (lv_at hl 1 rfl) ?_
        exact ret l2_1 () _ _ _ _ _ _ rfl (hT1.symm.trans (gsY_X11_wearer_1_q0 c2)) hP hD hS dX11_wearer_38 (Nat.le_refl _) (Nat.le_refl _)
      · skip
        have zc2 : ¬ ((v 24).toInt ≤ l3_1.toInt) := by rw [fa_le] at c2; exact c2
        have rg5 := fb_rng l3_1
        have rg6 := fb_rng (v 24)
        refine lv_aload_n hx hb dX11_wearer_12 rfl (lv_at hl 2 rfl) ?_
        refine va_get (D := (dC, dI)) (ci := 11) (v := .ref (r 60)) (C := RX11) (T := TX11) (N := 79) hx hb hts inB_11 hown hE.1 hP 0 rfl rfl 60 (by decide) (hts _ k_1380) (fun _ h9 => h9) rfl dX11_wearer_13 ?_
        refine lv_bipush (v := 6) hx hb dX11_wearer_16 (by decide) ?_
        refine lv_iload_n hx hb dX11_wearer_18 rfl (lv_at hl 0 rfl) ?_
        refine lv_iadd hx hb dX11_wearer_19 ?_
        refine lv_topi (fun t7 et7 => ?_)
        have zt7 : t7.toInt = 6 + l3_1.toInt := by rw [et7]; exact add_i (by decide) rfl (by omega) (by omega)
        refine ldI hx hb hE hP 25 rfl (vp_in_iff.mpr ⟨by omega, by omega⟩) rfl rfl dX11_wearer_20 ?_
        refine lv_topi (fun t8 et8 => ?_)
        have zt8 : t7.toInt.toNat % 39 < 6 ∨ 12 ≤ t7.toInt.toNat % 39 ∨ (-1 ≤ t8.toInt ∧ t8.toInt ≤ 5) := by rw [et8]; exact wear_ld hCf.2.1 (show t7.toInt.toNat < 39 by omega)
        refine lv_iload_n hx hb dX11_wearer_21 rfl (lv_at hl 3 rfl) ?_
        refine lv_icmp_ne (tgt := 29) hx hb dX11_wearer_22 (by decide) (fun c9 => ?_) (fun c9 => ?_)
        · skip
          have zc9 : ¬ (t8.toInt = p1.toInt) := by rw [fa_eq] at c9; exact c9
          have rg10 := fb_rng t8
          have rg11 := fb_rng p1
          refine lv_iload_n hx hb dX11_wearer_29 rfl (lv_at hl 1 rfl) ?_
          refine lv_istore_n (lv' := [(2, .int l2_1), (3, .int l3_1), (0, .ref y0), (1, .int p1)]) hx hb dX11_wearer_30 rfl hl (by decide) rfl (fun ls hl => ?_)
          obtain ⟨t12, et12⟩ : ∃ y : Int32, y = l3_1 + 1 := ⟨_, rfl⟩
          have zt12 : t12.toInt = l3_1.toInt + 1 := by rw [et12]; exact add_i rfl (by decide) (by omega) (by omega)
          refine lv_iinc (v := t12) (lv' := [(3, .int t12), (2, .int l2_1), (0, .ref y0), (1, .int p1)]) hx hb dX11_wearer_31 hl (k := 1) rfl (by rw [et12]; rfl) (by decide) rfl (fun ls hl => ?_)
          refine lv_goto (tgt := 4) hx hb dX11_wearer_34 (by decide) ?_
          have rg13 := fb_rng t12
          exact ih1 l2_1 t12 ((gsY_X11_wearer_1_q1 c2 et7 et8 c9 et12).symm.trans hT1) ⟨show (0 : Int) ≤ t12.toInt by omega, show t12.toInt ≤ (2147483647 : Int) by omega⟩ (by show (2147483647 - t12.toInt).toNat < n1; omega) _ _ _ hP hD hS (lv_sub hl [0, 1, 2, 3] rfl)
        · skip
          have zc9 : t8.toInt = p1.toInt := by rw [fa_eq] at c9; exact c9
          have rg14 := fb_rng t8
          have rg15 := fb_rng p1
          refine lv_iload_n hx hb dX11_wearer_25 rfl (lv_at hl 0 rfl) ?_
          refine lv_goto (tgt := 30) hx hb dX11_wearer_26 (by decide) ?_
          refine lv_istore_n (lv' := [(2, .int l3_1), (3, .int l3_1), (0, .ref y0), (1, .int p1)]) hx hb dX11_wearer_30 rfl hl (by decide) rfl (fun ls hl => ?_)
          obtain ⟨t16, et16⟩ : ∃ y : Int32, y = l3_1 + 1 := ⟨_, rfl⟩
          have zt16 : t16.toInt = l3_1.toInt + 1 := by rw [et16]; exact add_i rfl (by decide) (by omega) (by omega)
          refine lv_iinc (v := t16) (lv' := [(3, .int t16), (2, .int l3_1), (0, .ref y0), (1, .int p1)]) hx hb dX11_wearer_31 hl (k := 1) rfl (by rw [et16]; rfl) (by decide) rfl (fun ls hl => ?_)
          refine lv_goto (tgt := 4) hx hb dX11_wearer_34 (by decide) ?_
          have rg17 := fb_rng t16
          exact ih1 l3_1 t16 ((gsY_X11_wearer_1_q2 c2 et7 et8 c9 et16).symm.trans hT1) ⟨show (0 : Int) ≤ t16.toInt by omega, show t16.toInt ≤ (2147483647 : Int) by omega⟩ (by show (2147483647 - t16.toInt).toNat < n1; omega) _ _ _ hP hD hS (lv_sub hl [0, 1, 2, 3] rfl)
  exact lp1 (4294967296 + NF) (-1) 0 gsY_X11_wearer_1_q3.symm ⟨by decide, by decide⟩ (by have q3 : (0 : Int32).toInt = 0 := (by decide); have q2 : ((-1) : Int32).toInt = -1 := (by decide); show (2147483647 - (0 : Int32).toInt).toNat < 4294967296 + NF; omega) _ _ _ hP hD hS (lv_sub hl [0, 1, 2, 3] rfl)
set_option maxHeartbeats 4000000 in
set_option maxRecDepth 100000 in
theorem sY_X11_lesser_1 (NF : Nat) (l : Launch) (dC : Nat → ClassId) (dI : Nat → Nat → Nat) (cy : Nat → ClassId) (y0 : Nat) (r : Nat → Nat) (p0 : Int32) (p1 : Int32) (v : Nat → Int32) (f : Nat → Nat → Int32) (w : Int64) (g : Nat → Int64) (hIv : YI v) (hCf : YC f) (hRf : progOK (f 4) (f 5) (v 9).toInt.toNat)  : ctI l (dC, dI) cy yX11_lesser cX11_lesser 2 .int 1 60 0 0 Unit [.int p0, .int p1] (YW cy y0 r v f w g) (fun r u => gsY_X11_lesser_1 NF p0 p1 v f w g = r ∧ (r.toInt ≤ p0.toInt) ∧ (r.toInt ≤ p1.toInt)) (fun u => YW cy y0 r v f w g) := by
  refine ctI_of (by decide) (Nat.le_of_ble_eq_true rfl) (fun p e s m below meth c A ls Q hx hb hml hts hown hE hP hD hA hl ret => ?_)
  have hUv : (v 35).toInt + (v 36).toInt ≤ 40 := hIv.2
  have hown : s.vm.findClass RX11 = some m.cls := hown
  have hS : va_S A s.heap s.heap [] := va_S.rf
  have hl : lv_has ls 2 [(0, .int p0), (1, .int p1)] := hl
  refine lv_iload_n hx hb dX11_lesser_0 rfl (lv_at hl 0 rfl) ?_
  refine lv_iload_n hx hb dX11_lesser_1 rfl (lv_at hl 1 rfl) ?_
  refine lv_icmp_ge (tgt := 9) hx hb dX11_lesser_2 (by decide) (fun c1 => ?_) (fun c1 => ?_)
  · skip
    have zc1 : p1.toInt ≤ p0.toInt := by rw [fa_le] at c1; exact c1
    have rg2 := fb_rng p0
    have rg3 := fb_rng p1
    refine lv_iload_n hx hb dX11_lesser_9 rfl (lv_at hl 1 rfl) ?_
    exact ret p1 () _ _ _ _ _ _ rfl ⟨(gsY_X11_lesser_1_q0 c1), (by show p1.toInt ≤ p0.toInt; omega), (by show p1.toInt ≤ p1.toInt; omega)⟩ hP hD hS dX11_lesser_10 (Nat.le_refl _) (Nat.le_refl _)
  · skip
    have zc1 : ¬ (p1.toInt ≤ p0.toInt) := by rw [fa_le] at c1; exact c1
    have rg4 := fb_rng p0
    have rg5 := fb_rng p1
    refine lv_iload_n hx hb dX11_lesser_5 rfl (lv_at hl 0 rfl) ?_
    refine lv_goto (tgt := 10) hx hb dX11_lesser_6 (by decide) ?_
    exact ret p0 () _ _ _ _ _ _ rfl ⟨(gsY_X11_lesser_1_q1 c1), (by show p0.toInt ≤ p0.toInt; omega), (by show p0.toInt ≤ p1.toInt; omega)⟩ hP hD hS dX11_lesser_10 (Nat.le_refl _) (Nat.le_refl _)
set_option maxHeartbeats 4000000 in
set_option maxRecDepth 100000 in
theorem sY_X11_greater_1 (NF : Nat) (l : Launch) (dC : Nat → ClassId) (dI : Nat → Nat → Nat) (cy : Nat → ClassId) (y0 : Nat) (r : Nat → Nat) (p0 : Int32) (p1 : Int32) (v : Nat → Int32) (f : Nat → Nat → Int32) (w : Int64) (g : Nat → Int64) (hIv : YI v) (hCf : YC f) (hRf : progOK (f 4) (f 5) (v 9).toInt.toNat)  : ctI l (dC, dI) cy yX11_greater cX11_greater 2 .int 1 60 0 0 Unit [.int p0, .int p1] (YW cy y0 r v f w g) (fun r u => gsY_X11_greater_1 NF p0 p1 v f w g = r) (fun u => YW cy y0 r v f w g) := by
  refine ctI_of (by decide) (Nat.le_of_ble_eq_true rfl) (fun p e s m below meth c A ls Q hx hb hml hts hown hE hP hD hA hl ret => ?_)
  have hUv : (v 35).toInt + (v 36).toInt ≤ 40 := hIv.2
  have hown : s.vm.findClass RX11 = some m.cls := hown
  have hS : va_S A s.heap s.heap [] := va_S.rf
  have hl : lv_has ls 2 [(0, .int p0), (1, .int p1)] := hl
  refine lv_iload_n hx hb dX11_greater_0 rfl (lv_at hl 0 rfl) ?_
  refine lv_iload_n hx hb dX11_greater_1 rfl (lv_at hl 1 rfl) ?_
  refine lv_icmp_le (tgt := 9) hx hb dX11_greater_2 (by decide) (fun c1 => ?_) (fun c1 => ?_)
  · skip
    have zc1 : p0.toInt ≤ p1.toInt := by rw [fa_le] at c1; exact c1
    have rg2 := fb_rng p0
    have rg3 := fb_rng p1
    refine lv_iload_n hx hb dX11_greater_9 rfl (lv_at hl 1 rfl) ?_
    exact ret p1 () _ _ _ _ _ _ rfl (gsY_X11_greater_1_q0 c1) hP hD hS dX11_greater_10 (Nat.le_refl _) (Nat.le_refl _)
  · skip
    have zc1 : ¬ (p0.toInt ≤ p1.toInt) := by rw [fa_le] at c1; exact c1
    have rg4 := fb_rng p0
    have rg5 := fb_rng p1
    refine lv_iload_n hx hb dX11_greater_5 rfl (lv_at hl 0 rfl) ?_
    refine lv_goto (tgt := 10) hx hb dX11_greater_6 (by decide) ?_
    exact ret p0 () _ _ _ _ _ _ rfl (gsY_X11_greater_1_q1 c1) hP hD hS dX11_greater_10 (Nat.le_refl _) (Nat.le_refl _)
