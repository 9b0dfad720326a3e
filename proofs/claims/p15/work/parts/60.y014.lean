set_option maxHeartbeats 4000000 in
set_option maxRecDepth 100000 in
theorem sY_X11_coatsFor_1 (l : Launch) (dC : Nat → ClassId) (dI : Nat → Nat → Nat) (cy : Nat → ClassId) (y0 : Nat) (r : Nat → Nat) (p1 : Int32) (v : Nat → Int32) (f : Nat → Nat → Int32) (w : Int64) (g : Nat → Int64) (hIv : YI v) (hCf : YC f) (hRf : progOK (f 4) (f 5) (v 9).toInt.toNat) (hp1 : (0 : Int) ≤ p1.toInt ∧ p1.toInt ≤ 5) : ctI l (dC, dI) cy yX11_coatsFor cX11_coatsFor 4 .int 5 148 0 0 ((Nat → Int32) × (Nat → Nat → Int32) × (Int64) × (Nat → Int64)) [.ref y0, .int p1] (YW cy y0 r v f w g) (fun r u => KV [] u.1 v ∧ KF [7, 8] u.2.1 f ∧ YI u.1 ∧ YC u.2.1 ∧ progOK (u.2.1 4) (u.2.1 5) (u.1 9).toInt.toNat ∧ u.1 0 = v 0 ∧ u.1 1 = v 1 ∧ u.1 2 = v 2 ∧ u.1 3 = v 3 ∧ u.1 4 = v 4 ∧ u.1 5 = v 5 ∧ u.1 8 = v 8 ∧ u.1 9 = v 9 ∧ u.1 10 = v 10 ∧ u.1 13 = v 13 ∧ u.1 14 = v 14 ∧ u.1 15 = v 15 ∧ u.1 17 = v 17 ∧ u.1 18 = v 18 ∧ u.1 24 = v 24 ∧ u.1 25 = v 25 ∧ u.1 35 = v 35 ∧ u.1 36 = v 36 ∧ u.1 38 = v 38 ∧ u.1 39 = v 39) (fun u => YW cy y0 r u.1 u.2.1 u.2.2.1 u.2.2.2) := by
  refine ctI_of (by decide) (Nat.le_of_ble_eq_true rfl) (fun p e s m below meth c A ls Q hx hb hml hts hown hE hP hD hA hl ret => ?_)
  have hUv : (v 35).toInt + (v 36).toInt ≤ 40 := hIv.2
  have hM_v : KV [] v v := fun _ _ => rfl
  have hA_f : KF [7, 8] f f := fun _ _ => rfl
  have hown : s.vm.findClass RX11 = some m.cls := hown
  have hS : va_S A s.heap s.heap [] := va_S.rf
  have hl : lv_has ls 4 [(0, .ref y0), (1, .int p1)] := hl
  refine lv_iconst (v := 0) hx hb dX11_coatsFor_0 (by decide) ?_
  refine lv_istore_n (lv' := [(2, .int 0), (0, .ref y0), (1, .int p1)]) hx hb dX11_coatsFor_1 rfl hl (by decide) rfl (fun ls hl => ?_)
  refine lv_iconst (v := 0) hx hb dX11_coatsFor_2 (by decide) ?_
  refine lv_istore_n (lv' := [(3, .int 0), (2, .int 0), (0, .ref y0), (1, .int p1)]) hx hb dX11_coatsFor_3 rfl hl (by decide) rfl (fun ls hl => ?_)
  have lp1 : ∀ (n1 : Nat) (l2_1 : Int32) (l3_1 : Int32) (v1 : Nat → Int32) (f1 : Nat → Nat → Int32) (w1 : Int64) (g1 : Nat → Int64), YI v1 → YC f1 → progOK (f1 4) (f1 5) (v1 9).toInt.toNat → v1 0 = (v 0) → v1 1 = (v 1) → v1 2 = (v 2) → v1 3 = (v 3) → v1 4 = (v 4) → v1 5 = (v 5) → v1 8 = (v 8) → v1 9 = (v 9) → v1 10 = (v 10) → v1 13 = (v 13) → v1 14 = (v 14) → v1 15 = (v 15) → v1 17 = (v 17) → v1 18 = (v 18) → v1 24 = (v 24) → v1 25 = (v 25) → v1 35 = (v 35) → v1 36 = (v 36) → v1 38 = (v 38) → v1 39 = (v 39) → ((0 : Int) ≤ l3_1.toInt ∧ l3_1.toInt ≤ 2147483647) → KV [] v1 v → KF [7, 8] f1 f → (2147483647 - l3_1.toInt).toNat < n1 → ∀ (H : Heap) (locs : List Loc) (ls : Array Slot), va_P (dC, dI) vwCl (YW cy y0 r v1 f1 w1 g1) H → va_D A (YW cy y0 r v1 f1 w1 g1) → va_S A s.heap H locs → lv_has ls 4 [(3, .int l3_1), (2, .int l2_1), (0, .ref y0), (1, .int p1)] → W p l e { frames := 5, cells := 0, slots := 0, locals := 148 } s m ([.ref y0, .int p1] : List Value).toArray below meth c H locs 0 0 Q (F0 m 4 ls []) := by
    intro n1
    induction n1 with
    | zero => intro l2_1 l3_1 v1 f1 w1 g1 hIv1 hCf1 hRf1 hq0_v1 hq1_v1 hq2_v1 hq3_v1 hq4_v1 hq5_v1 hq8_v1 hq9_v1 hq10_v1 hq13_v1 hq14_v1 hq15_v1 hq17_v1 hq18_v1 hq24_v1 hq25_v1 hq35_v1 hq36_v1 hq38_v1 hq39_v1 hr3_1 hM_v1 hA_f1 hm; exact absurd hm (Nat.not_lt_zero _)
    | succ n1 ih1 =>
      intro l2_1 l3_1 v1 f1 w1 g1 hIv1 hCf1 hRf1 hq0_v1 hq1_v1 hq2_v1 hq3_v1 hq4_v1 hq5_v1 hq8_v1 hq9_v1 hq10_v1 hq13_v1 hq14_v1 hq15_v1 hq17_v1 hq18_v1 hq24_v1 hq25_v1 hq35_v1 hq36_v1 hq38_v1 hq39_v1 hr3_1 hM_v1 hA_f1 hm1 H locs ls hP hD hS hl
      have hUv1 : (v1 35).toInt + (v1 36).toInt ≤ 40 := hIv1.2
      have zq9_v1 := congrArg Int32.toInt hq9_v1
      refine lv_iload_n hx hb dX11_coatsFor_4 rfl (lv_at hl 0 rfl) ?_
      refine lv_aload_n hx hb dX11_coatsFor_5 rfl (lv_at hl 2 rfl) ?_
      refine va_get (D := (dC, dI)) (ci := 11) (v := .int (v1 25)) (C := RX11) (T := TX11) (N := 79) hx hb hts inB_11 hown hE.1 hP 0 rfl rfl 49 (by decide) (hts _ k_1369) (fun _ h9 => h9) rfl dX11_coatsFor_6 ?_
      refine tI (y := (v 25)) hq25_v1 ?_
      have b25_v : 0 ≤ (v 25).toInt ∧ (v 25).toInt ≤ 6 := YIb.b hIv.1 25 (by decide)
      refine lv_icmp_ge (tgt := 32) hx hb dX11_coatsFor_9 (by decide) (fun c2 => ?_) (fun c2 => ?_)
      · skip
        have zc2 : (v 25).toInt ≤ l3_1.toInt := by rw [fa_le] at c2; exact c2
        have rg3 := fb_rng l3_1
        have rg4 := fb_rng (v 25)
        refine lv_iload_n hx hb dX11_coatsFor_32 rfl (lv_at hl 1 rfl) ?_
        exact ret l2_1 (v1, f1, w1, g1) _ _ _ _ _ _ rfl ⟨hM_v1, hA_f1, hIv1, hCf1, hRf1, (show v1 0 = v 0 from hq0_v1), (show v1 1 = v 1 from hq1_v1), (show v1 2 = v 2 from hq2_v1), (show v1 3 = v 3 from hq3_v1), (show v1 4 = v 4 from hq4_v1), (show v1 5 = v 5 from hq5_v1), (show v1 8 = v 8 from hq8_v1), (show v1 9 = v 9 from hq9_v1), (show v1 10 = v 10 from hq10_v1), (show v1 13 = v 13 from hq13_v1), (show v1 14 = v 14 from hq14_v1), (show v1 15 = v 15 from hq15_v1), (show v1 17 = v 17 from hq17_v1), (show v1 18 = v 18 from hq18_v1), (show v1 24 = v 24 from hq24_v1), (show v1 25 = v 25 from hq25_v1), (show v1 35 = v 35 from hq35_v1), (show v1 36 = v 36 from hq36_v1), (show v1 38 = v 38 from hq38_v1), (show v1 39 = v 39 from hq39_v1)⟩ hP hD hS dX11_coatsFor_33 (Nat.le_refl _) (Nat.le_refl _)
      · skip
        have zc2 : ¬ ((v 25).toInt ≤ l3_1.toInt) := by rw [fa_le] at c2; exact c2
        have rg5 := fb_rng l3_1
        have rg6 := fb_rng (v 25)
        refine lv_iload_n hx hb dX11_coatsFor_12 rfl (lv_at hl 1 rfl) ?_
        refine lv_aload_n hx hb dX11_coatsFor_13 rfl (lv_at hl 2 rfl) ?_
        refine lv_iload_n hx hb dX11_coatsFor_14 rfl (lv_at hl 3 rfl) ?_
        refine lv_iload_n hx hb dX11_coatsFor_15 rfl (lv_at hl 0 rfl) ?_
        refine cbVi (n := 2) (rest := [.int l2_1]) hx hb hml hown hts hE hP hD hS hA (sY_X11_fits_1 0 l dC dI cy y0 r p1 l3_1 v1 f1 w1 g1 hIv1 hCf1 hRf1 ⟨show (0 : Int) ≤ p1.toInt by omega, show p1.toInt ≤ (5 : Int) by omega⟩ ⟨show (-1 : Int) ≤ l3_1.toInt by omega, show l3_1.toInt ≤ (5 : Int) by omega⟩) k_1747 k_1749 k_73 k_114 k_1750 (by decide +kernel) ⟨Nat.le_of_ble_eq_true rfl, Nat.le_of_ble_eq_true rfl⟩ 0 11 rfl rfl (rfl) hl.1 rfl (Nat.le_of_ble_eq_true rfl) dX11_coatsFor_16 (fun r7 u H locs hw hP hD hS => ?_)
        obtain ⟨hG8, hw⟩ := hw
        obtain ⟨v9, f10, w11, g12⟩ := u
        obtain ⟨kV_v9, kF_f10, hIv9, hCf10, hRf10, hk0_v9, hk1_v9, hk2_v9, hk3_v9, hk4_v9, hk5_v9, hk8_v9, hk9_v9, hk10_v9, hk13_v9, hk14_v9, hk15_v9, hk17_v9, hk18_v9, hk24_v9, hk25_v9, hk35_v9, hk36_v9, hk38_v9, hk39_v9, hw⟩ := hw
        have hM_v9 : KV [] v9 v := KV.tr kV_v9 hM_v1 rfl
        have hA_f10 : KF [7, 8] f10 f := KF.tr kF_f10 hA_f1 rfl
        have hP : va_P (dC, dI) vwCl (YW cy y0 r v9 f10 w11 g12) H := hP
        have hD : va_D A (YW cy y0 r v9 f10 w11 g12) := hD
        have hUv9 : (v9 35).toInt + (v9 36).toInt ≤ 40 := hIv9.2
        have hq0_v9 : v9 0 = (v 0) := hk0_v9.trans hq0_v1
        have hq1_v9 : v9 1 = (v 1) := hk1_v9.trans hq1_v1
        have hq2_v9 : v9 2 = (v 2) := hk2_v9.trans hq2_v1
        have hq3_v9 : v9 3 = (v 3) := hk3_v9.trans hq3_v1
        have hq4_v9 : v9 4 = (v 4) := hk4_v9.trans hq4_v1
        have hq5_v9 : v9 5 = (v 5) := hk5_v9.trans hq5_v1
        have hq8_v9 : v9 8 = (v 8) := hk8_v9.trans hq8_v1
        have hq9_v9 : v9 9 = (v 9) := hk9_v9.trans hq9_v1
        have zq9_v9 := congrArg Int32.toInt hq9_v9
        have hq10_v9 : v9 10 = (v 10) := hk10_v9.trans hq10_v1
        have hq13_v9 : v9 13 = (v 13) := hk13_v9.trans hq13_v1
        have hq14_v9 : v9 14 = (v 14) := hk14_v9.trans hq14_v1
        have hq15_v9 : v9 15 = (v 15) := hk15_v9.trans hq15_v1
        have hq17_v9 : v9 17 = (v 17) := hk17_v9.trans hq17_v1
        have hq18_v9 : v9 18 = (v 18) := hk18_v9.trans hq18_v1
        have hq24_v9 : v9 24 = (v 24) := hk24_v9.trans hq24_v1
        have hq25_v9 : v9 25 = (v 25) := hk25_v9.trans hq25_v1
        have hq35_v9 : v9 35 = (v 35) := hk35_v9.trans hq35_v1
        have hq36_v9 : v9 36 = (v 36) := hk36_v9.trans hq36_v1
        have hq38_v9 : v9 38 = (v 38) := hk38_v9.trans hq38_v1
        have hq39_v9 : v9 39 = (v 39) := hk39_v9.trans hq39_v1
        rcases hw with ⟨g13⟩ | ⟨g13⟩
        · skip
          subst g13
          have lt14 : (1 : Int32).toInt = 1 := by decide
          refine cbSi (n := 1) (rest := [.int l2_1]) hx hb hml hown hts hE hP hD hS hA (sY_X11_truth_1 0 l dC dI cy y0 r 1 v9 f10 w11 g12 hIv9 hCf10 hRf10 ) k_1761 k_1762 k_114 k_1763 (by decide +kernel) ⟨Nat.le_of_ble_eq_true rfl, Nat.le_of_ble_eq_true rfl⟩ (rfl) hl.1 rfl (Nat.le_of_ble_eq_true rfl) dX11_coatsFor_19 (fun r15 u H locs hw hP hD hS => ?_)
          obtain ⟨hG16, hw⟩ := hw
          refine lv_iload_n hx hb dX11_coatsFor_22 rfl (lv_at hl 0 rfl) ?_
          refine lv_ishl hx hb dX11_coatsFor_23 ?_
          refine lv_topi (fun t17 et17 => ?_)
          have zt17 : 0 ≤ t17.toInt ∧ t17.toInt ≤ 32 := by rw [et17]; exact shl01_rng (by omega) (by omega) (by omega) (by omega)
          refine lv_ior hx hb dX11_coatsFor_24 ?_
          refine lv_topi (fun t18 et18 => ?_)
          refine lv_istore_n (lv' := [(2, .int t18), (3, .int l3_1), (0, .ref y0), (1, .int p1)]) hx hb dX11_coatsFor_25 rfl hl (by decide) rfl (fun ls hl => ?_)
          obtain ⟨t19, et19⟩ : ∃ y : Int32, y = l3_1 + 1 := ⟨_, rfl⟩
          have zt19 : t19.toInt = l3_1.toInt + 1 := by rw [et19]; exact add_i rfl (by decide) (by omega) (by omega)
          refine lv_iinc (v := t19) (lv' := [(3, .int t19), (2, .int t18), (0, .ref y0), (1, .int p1)]) hx hb dX11_coatsFor_26 hl (k := 1) rfl (by rw [et19]; rfl) (by decide) rfl (fun ls hl => ?_)
          refine lv_goto (tgt := 4) hx hb dX11_coatsFor_29 (by decide) ?_
          have rg20 := fb_rng t19
          exact ih1 t18 t19 v9 f10 w11 g12 hIv9 hCf10 hRf10 hq0_v9 hq1_v9 hq2_v9 hq3_v9 hq4_v9 hq5_v9 hq8_v9 hq9_v9 hq10_v9 hq13_v9 hq14_v9 hq15_v9 hq17_v9 hq18_v9 hq24_v9 hq25_v9 hq35_v9 hq36_v9 hq38_v9 hq39_v9 ⟨show (0 : Int) ≤ t19.toInt by omega, show t19.toInt ≤ (2147483647 : Int) by omega⟩ hM_v9 hA_f10 (by show (2147483647 - t19.toInt).toNat < n1; omega) _ _ _ hP hD hS (lv_sub hl [0, 1, 2, 3] rfl)
        · skip
          subst g13
          have lt21 : (0 : Int32).toInt = 0 := by decide
          refine cbSi (n := 1) (rest := [.int l2_1]) hx hb hml hown hts hE hP hD hS hA (sY_X11_truth_1 0 l dC dI cy y0 r 0 v9 f10 w11 g12 hIv9 hCf10 hRf10 ) k_1761 k_1762 k_114 k_1763 (by decide +kernel) ⟨Nat.le_of_ble_eq_true rfl, Nat.le_of_ble_eq_true rfl⟩ (rfl) hl.1 rfl (Nat.le_of_ble_eq_true rfl) dX11_coatsFor_19 (fun r22 u H locs hw hP hD hS => ?_)
          obtain ⟨hG23, hw⟩ := hw
          refine lv_iload_n hx hb dX11_coatsFor_22 rfl (lv_at hl 0 rfl) ?_
          refine lv_ishl hx hb dX11_coatsFor_23 ?_
          refine lv_topi (fun t24 et24 => ?_)
          have zt24 : 0 ≤ t24.toInt ∧ t24.toInt ≤ 32 := by rw [et24]; exact shl01_rng (by omega) (by omega) (by omega) (by omega)
          refine lv_ior hx hb dX11_coatsFor_24 ?_
          refine lv_topi (fun t25 et25 => ?_)
          refine lv_istore_n (lv' := [(2, .int t25), (3, .int l3_1), (0, .ref y0), (1, .int p1)]) hx hb dX11_coatsFor_25 rfl hl (by decide) rfl (fun ls hl => ?_)
          obtain ⟨t26, et26⟩ : ∃ y : Int32, y = l3_1 + 1 := ⟨_, rfl⟩
          have zt26 : t26.toInt = l3_1.toInt + 1 := by rw [et26]; exact add_i rfl (by decide) (by omega) (by omega)
          refine lv_iinc (v := t26) (lv' := [(3, .int t26), (2, .int t25), (0, .ref y0), (1, .int p1)]) hx hb dX11_coatsFor_26 hl (k := 1) rfl (by rw [et26]; rfl) (by decide) rfl (fun ls hl => ?_)
          refine lv_goto (tgt := 4) hx hb dX11_coatsFor_29 (by decide) ?_
          have rg27 := fb_rng t26
          exact ih1 t25 t26 v9 f10 w11 g12 hIv9 hCf10 hRf10 hq0_v9 hq1_v9 hq2_v9 hq3_v9 hq4_v9 hq5_v9 hq8_v9 hq9_v9 hq10_v9 hq13_v9 hq14_v9 hq15_v9 hq17_v9 hq18_v9 hq24_v9 hq25_v9 hq35_v9 hq36_v9 hq38_v9 hq39_v9 ⟨show (0 : Int) ≤ t26.toInt by omega, show t26.toInt ≤ (2147483647 : Int) by omega⟩ hM_v9 hA_f10 (by show (2147483647 - t26.toInt).toNat < n1; omega) _ _ _ hP hD hS (lv_sub hl [0, 1, 2, 3] rfl)
  exact lp1 _ 0 0 v f w g hIv hCf hRf rfl rfl rfl rfl rfl rfl rfl rfl rfl rfl rfl rfl rfl rfl rfl rfl rfl rfl rfl rfl ⟨by decide, by decide⟩ hM_v hA_f (Nat.lt_succ_self _) _ _ _ hP hD hS (lv_sub hl [0, 1, 2, 3] rfl)
set_option maxHeartbeats 4000000 in
set_option maxRecDepth 100000 in
theorem sY_X11_man_1 (l : Launch) (dC : Nat → ClassId) (dI : Nat → Nat → Nat) (cy : Nat → ClassId) (y0 : Nat) (r : Nat → Nat) (p1 : Int32) (p2 : Int32) (v : Nat → Int32) (f : Nat → Nat → Int32) (w : Int64) (g : Nat → Int64) (hIv : YI v) (hCf : YC f) (hRf : progOK (f 4) (f 5) (v 9).toInt.toNat)  : ctI l (dC, dI) cy yX11_man cX11_man 3 .int 6 171 0 0 ((Nat → Int32) × (Nat → Nat → Int32) × (Int64) × (Nat → Int64)) [.ref y0, .int p1, .int p2] (YW cy y0 r v f w g) (fun r u => KV [] u.1 v ∧ KF [7, 8, 24] u.2.1 f ∧ YI u.1 ∧ YC u.2.1 ∧ progOK (u.2.1 4) (u.2.1 5) (u.1 9).toInt.toNat ∧ u.1 0 = v 0 ∧ u.1 1 = v 1 ∧ u.1 2 = v 2 ∧ u.1 3 = v 3 ∧ u.1 4 = v 4 ∧ u.1 5 = v 5 ∧ u.1 8 = v 8 ∧ u.1 9 = v 9 ∧ u.1 10 = v 10 ∧ u.1 13 = v 13 ∧ u.1 14 = v 14 ∧ u.1 15 = v 15 ∧ u.1 17 = v 17 ∧ u.1 18 = v 18 ∧ u.1 24 = v 24 ∧ u.1 25 = v 25 ∧ u.1 35 = v 35 ∧ u.1 36 = v 36 ∧ u.1 38 = v 38 ∧ u.1 39 = v 39) (fun u => YW cy y0 r u.1 u.2.1 u.2.2.1 u.2.2.2) := by
  refine ctI_of (by decide) (Nat.le_of_ble_eq_true rfl) (fun p e s m below meth c A ls Q hx hb hml hts hown hE hP hD hA hl ret => ?_)
  have hUv : (v 35).toInt + (v 36).toInt ≤ 40 := hIv.2
  have hM_v : KV [] v v := fun _ _ => rfl
  have hA_f : KF [7, 8, 24] f f := fun _ _ => rfl
  have hown : s.vm.findClass RX11 = some m.cls := hown
  have hS : va_S A s.heap s.heap [] := va_S.rf
  have hl : lv_has ls 3 [(0, .ref y0), (1, .int p1), (2, .int p2)] := hl
  refine lv_aload_n hx hb dX11_man_0 rfl (lv_at hl 0 rfl) ?_
  refine lv_iload_n hx hb dX11_man_1 rfl (lv_at hl 1 rfl) ?_
  refine cbVi (n := 1) (rest := []) hx hb hml hown hts hE hP hD hS hA (sY_X11_isMan_1 0 l dC dI cy y0 r p1 v f w g hIv hCf hRf ) k_1732 k_1734 k_70 k_114 k_1735 (by decide +kernel) ⟨Nat.le_of_ble_eq_true rfl, Nat.le_of_ble_eq_true rfl⟩ 0 11 rfl rfl (rfl) hl.1 rfl (Nat.le_of_ble_eq_true rfl) dX11_man_2 (fun r1 u H locs hw hP hD hS => ?_)
  obtain ⟨hG2, hw⟩ := hw
  rcases hw with ⟨g3, g3_0, g3_1, g3_2⟩ | ⟨g3⟩
  · skip
    subst g3
    refine lv_if_ne (tgt := 11) hx hb dX11_man_5 (by decide) (fun _ => ?_) (fun c0 => absurd c0 (by decide))
    refine lv_aload_n hx hb dX11_man_11 rfl (lv_at hl 0 rfl) ?_
    refine cbVv (n := 0) (rest := []) hx hb hml hown hts hE hP hD hS hA (sY_X11_fill_1 0 l dC dI cy y0 r  v f w g hIv hCf hRf ) k_1739 k_1741 k_71 k_114 k_1742 (by decide +kernel) ⟨Nat.le_of_ble_eq_true rfl, Nat.le_of_ble_eq_true rfl⟩ 0 11 rfl rfl (rfl) hl.1 rfl (Nat.le_of_ble_eq_true rfl) dX11_man_12 (fun u H locs hw hP hD hS => ?_)
    obtain ⟨hG4, hw⟩ := hw
    obtain ⟨v5, f6, w7, g8⟩ := u
    obtain ⟨kV_v5, kF_f6, hIv5, hCf6, hRf6, hk0_v5, hk1_v5, hk2_v5, hk3_v5, hk4_v5, hk5_v5, hk8_v5, hk9_v5, hk10_v5, hk13_v5, hk14_v5, hk15_v5, hk17_v5, hk18_v5, hk24_v5, hk25_v5, hk35_v5, hk36_v5, hk38_v5, hk39_v5⟩ := hw
    have hM_v5 : KV [] v5 v := KV.tr kV_v5 hM_v rfl
    have hA_f6 : KF [7, 8, 24] f6 f := KF.tr kF_f6 hA_f rfl
    have hP : va_P (dC, dI) vwCl (YW cy y0 r v5 f6 w7 g8) H := hP
    have hD : va_D A (YW cy y0 r v5 f6 w7 g8) := hD
    have hUv5 : (v5 35).toInt + (v5 36).toInt ≤ 40 := hIv5.2
    have hq9_v5 : v5 9 = (v 9) := hk9_v5
    have zq9_v5 := congrArg Int32.toInt hq9_v5
    refine lv_iload_n hx hb dX11_man_15 rfl (lv_at hl 2 rfl) ?_
    by_cases c9 : p2 = 0
    · skip
      refine lv_tableIn (off := 36) (tgt := 52) hx hb dX11_man_16 (by rw [c9]; decide) (by rw [c9]; decide) (by rw [c9]; decide) (by decide) ?_
      have zc9 : p2.toInt = 0 := by rw [fa_eq, show (0 : Int32).toInt = 0 from by decide] at c9; exact c9
      refine lv_aload_n hx hb dX11_man_52 rfl (lv_at hl 0 rfl) ?_
      refine va_get (D := (dC, dI)) (ci := 11) (v := .ref (r 34)) (C := RX11) (T := TX11) (N := 79) hx hb hts inB_11 hown hE.1 hP 0 rfl rfl 34 (by decide) (hts _ k_1354) (fun _ h9 => h9) rfl dX11_man_53 ?_
      refine lv_iload_n hx hb dX11_man_56 rfl (lv_at hl 1 rfl) ?_
      refine ldI hx hb hE hP 17 rfl (vp_in_iff.mpr ⟨by omega, by omega⟩) rfl rfl dX11_man_57 ?_
      refine lv_topi (fun t10 et10 => ?_)
      exact ret t10 (v5, f6, w7, g8) _ _ _ _ _ _ rfl ⟨hM_v5, hA_f6, hIv5, hCf6, hRf6, hk0_v5, hk1_v5, hk2_v5, hk3_v5, hk4_v5, hk5_v5, hk8_v5, hk9_v5, hk10_v5, hk13_v5, hk14_v5, hk15_v5, hk17_v5, hk18_v5, hk24_v5, hk25_v5, hk35_v5, hk36_v5, hk38_v5, hk39_v5⟩ hP hD hS dX11_man_58 (Nat.le_refl _) (Nat.le_refl _)
    · skip
      have zc9 : ¬ (p2.toInt = 0) := by rw [fa_eq, show (0 : Int32).toInt = 0 from by decide] at c9; exact c9
      by_cases c11 : p2 = 1
      · skip
        refine lv_tableIn (off := 43) (tgt := 59) hx hb dX11_man_16 (by rw [c11]; decide) (by rw [c11]; decide) (by rw [c11]; decide) (by decide) ?_
        have zc11 : p2.toInt = 1 := by rw [fa_eq, show (1 : Int32).toInt = 1 from by decide] at c11; exact c11
        refine lv_aload_n hx hb dX11_man_59 rfl (lv_at hl 0 rfl) ?_
        refine va_get (D := (dC, dI)) (ci := 11) (v := .ref (r 60)) (C := RX11) (T := TX11) (N := 79) hx hb hts inB_11 hown hE.1 hP 0 rfl rfl 60 (by decide) (hts _ k_1380) (fun _ h9 => h9) rfl dX11_man_60 ?_
        refine lv_iload_n hx hb dX11_man_63 rfl (lv_at hl 1 rfl) ?_
        refine ldI hx hb hE hP 25 rfl (vp_in_iff.mpr ⟨by omega, by omega⟩) rfl rfl dX11_man_64 ?_
        refine lv_topi (fun t12 et12 => ?_)
        have zt12 : p1.toInt.toNat % 39 < 6 ∨ 12 ≤ p1.toInt.toNat % 39 ∨ (-1 ≤ t12.toInt ∧ t12.toInt ≤ 5) := by rw [et12]; exact wear_ld hCf6.2.1 (show p1.toInt.toNat < 39 by omega)
        exact ret t12 (v5, f6, w7, g8) _ _ _ _ _ _ rfl ⟨hM_v5, hA_f6, hIv5, hCf6, hRf6, hk0_v5, hk1_v5, hk2_v5, hk3_v5, hk4_v5, hk5_v5, hk8_v5, hk9_v5, hk10_v5, hk13_v5, hk14_v5, hk15_v5, hk17_v5, hk18_v5, hk24_v5, hk25_v5, hk35_v5, hk36_v5, hk38_v5, hk39_v5⟩ hP hD hS dX11_man_65 (Nat.le_refl _) (Nat.le_refl _)
      · skip
        have zc11 : ¬ (p2.toInt = 1) := by rw [fa_eq, show (1 : Int32).toInt = 1 from by decide] at c11; exact c11
        by_cases c13 : p2 = 2
        · skip
          refine lv_tableIn (off := 50) (tgt := 66) hx hb dX11_man_16 (by rw [c13]; decide) (by rw [c13]; decide) (by rw [c13]; decide) (by decide) ?_
          have zc13 : p2.toInt = 2 := by rw [fa_eq, show (2 : Int32).toInt = 2 from by decide] at c13; exact c13
          refine lv_aload_n hx hb dX11_man_66 rfl (lv_at hl 0 rfl) ?_
          refine va_get (D := (dC, dI)) (ci := 11) (v := .ref (r 36)) (C := RX11) (T := TX11) (N := 79) hx hb hts inB_11 hown hE.1 hP 0 rfl rfl 36 (by decide) (hts _ k_1356) (fun _ h9 => h9) rfl dX11_man_67 ?_
          refine lv_iload_n hx hb dX11_man_70 rfl (lv_at hl 1 rfl) ?_
          refine ldI hx hb hE hP 19 rfl (vp_in_iff.mpr ⟨by omega, by omega⟩) rfl rfl dX11_man_71 ?_
          refine lv_topi (fun t14 et14 => ?_)
          exact ret t14 (v5, f6, w7, g8) _ _ _ _ _ _ rfl ⟨hM_v5, hA_f6, hIv5, hCf6, hRf6, hk0_v5, hk1_v5, hk2_v5, hk3_v5, hk4_v5, hk5_v5, hk8_v5, hk9_v5, hk10_v5, hk13_v5, hk14_v5, hk15_v5, hk17_v5, hk18_v5, hk24_v5, hk25_v5, hk35_v5, hk36_v5, hk38_v5, hk39_v5⟩ hP hD hS dX11_man_72 (Nat.le_refl _) (Nat.le_refl _)
        · skip
          have zc13 : ¬ (p2.toInt = 2) := by rw [fa_eq, show (2 : Int32).toInt = 2 from by decide] at c13; exact c13
          by_cases c15 : p2 = 3
          · skip
            refine lv_tableIn (off := 57) (tgt := 73) hx hb dX11_man_16 (by rw [c15]; decide) (by rw [c15]; decide) (by rw [c15]; decide) (by decide) ?_
            have zc15 : p2.toInt = 3 := by rw [fa_eq, show (3 : Int32).toInt = 3 from by decide] at c15; exact c15
            refine lv_aload_n hx hb dX11_man_73 rfl (lv_at hl 0 rfl) ?_
            refine va_get (D := (dC, dI)) (ci := 11) (v := .ref (r 60)) (C := RX11) (T := TX11) (N := 79) hx hb hts inB_11 hown hE.1 hP 0 rfl rfl 60 (by decide) (hts _ k_1380) (fun _ h9 => h9) rfl dX11_man_74 ?_
            refine lv_bipush (v := 6) hx hb dX11_man_77 (by decide) ?_
            refine lv_iload_n hx hb dX11_man_79 rfl (lv_at hl 1 rfl) ?_
            refine lv_iadd hx hb dX11_man_80 ?_
            refine lv_topi (fun t16 et16 => ?_)
            have rg17 := fb_rng p1
            have zt16 : t16.toInt = 6 + p1.toInt := by rw [et16]; exact add_i (by decide) rfl (by omega) (by omega)
            refine ldI hx hb hE hP 25 rfl (vp_in_iff.mpr ⟨by omega, by omega⟩) rfl rfl dX11_man_81 ?_
            refine lv_topi (fun t18 et18 => ?_)
            have zt18 : t16.toInt.toNat % 39 < 6 ∨ 12 ≤ t16.toInt.toNat % 39 ∨ (-1 ≤ t18.toInt ∧ t18.toInt ≤ 5) := by rw [et18]; exact wear_ld hCf6.2.1 (show t16.toInt.toNat < 39 by omega)
            exact ret t18 (v5, f6, w7, g8) _ _ _ _ _ _ rfl ⟨hM_v5, hA_f6, hIv5, hCf6, hRf6, hk0_v5, hk1_v5, hk2_v5, hk3_v5, hk4_v5, hk5_v5, hk8_v5, hk9_v5, hk10_v5, hk13_v5, hk14_v5, hk15_v5, hk17_v5, hk18_v5, hk24_v5, hk25_v5, hk35_v5, hk36_v5, hk38_v5, hk39_v5⟩ hP hD hS dX11_man_82 (Nat.le_refl _) (Nat.le_refl _)
          · skip
            have zc15 : ¬ (p2.toInt = 3) := by rw [fa_eq, show (3 : Int32).toInt = 3 from by decide] at c15; exact c15
            by_cases c19 : p2 = 4
            · skip
              refine lv_tableIn (off := 67) (tgt := 83) hx hb dX11_man_16 (by rw [c19]; decide) (by rw [c19]; decide) (by rw [c19]; decide) (by decide) ?_
              have zc19 : p2.toInt = 4 := by rw [fa_eq, show (4 : Int32).toInt = 4 from by decide] at c19; exact c19
              refine lv_aload_n hx hb dX11_man_83 rfl (lv_at hl 0 rfl) ?_
              refine lv_iload_n hx hb dX11_man_84 rfl (lv_at hl 1 rfl) ?_
              refine cbVi (n := 1) (rest := []) hx hb hml hown hts hE hP hD hS hA (sY_X11_coatsFor_1 l dC dI cy y0 r p1 v5 f6 w7 g8 hIv5 hCf6 hRf6 ⟨show (0 : Int) ≤ p1.toInt by omega, show p1.toInt ≤ (5 : Int) by omega⟩) k_1743 k_1745 k_72 k_114 k_1746 (by decide +kernel) ⟨Nat.le_of_ble_eq_true rfl, Nat.le_of_ble_eq_true rfl⟩ 0 11 rfl rfl (rfl) hl.1 rfl (Nat.le_of_ble_eq_true rfl) dX11_man_85 (fun r20 u H locs hw hP hD hS => ?_)
              obtain ⟨v21, f22, w23, g24⟩ := u
              obtain ⟨kV_v21, kF_f22, hIv21, hCf22, hRf22, hk0_v21, hk1_v21, hk2_v21, hk3_v21, hk4_v21, hk5_v21, hk8_v21, hk9_v21, hk10_v21, hk13_v21, hk14_v21, hk15_v21, hk17_v21, hk18_v21, hk24_v21, hk25_v21, hk35_v21, hk36_v21, hk38_v21, hk39_v21⟩ := hw
              have hM_v21 : KV [] v21 v := KV.tr kV_v21 hM_v5 rfl
              have hA_f22 : KF [7, 8, 24] f22 f := KF.tr kF_f22 hA_f6 rfl
              have hP : va_P (dC, dI) vwCl (YW cy y0 r v21 f22 w23 g24) H := hP
              have hD : va_D A (YW cy y0 r v21 f22 w23 g24) := hD
              have hUv21 : (v21 35).toInt + (v21 36).toInt ≤ 40 := hIv21.2
              have hq9_v21 : v21 9 = (v 9) := hk9_v21.trans hq9_v5
              have zq9_v21 := congrArg Int32.toInt hq9_v21
              exact ret r20 (v21, f22, w23, g24) _ _ _ _ _ _ rfl ⟨hM_v21, hA_f22, hIv21, hCf22, hRf22, (hk0_v21.trans hk0_v5), (hk1_v21.trans hk1_v5), (hk2_v21.trans hk2_v5), (hk3_v21.trans hk3_v5), (hk4_v21.trans hk4_v5), (hk5_v21.trans hk5_v5), (hk8_v21.trans hk8_v5), (hk9_v21.trans hk9_v5), (hk10_v21.trans hk10_v5), (hk13_v21.trans hk13_v5), (hk14_v21.trans hk14_v5), (hk15_v21.trans hk15_v5), (hk17_v21.trans hk17_v5), (hk18_v21.trans hk18_v5), (hk24_v21.trans hk24_v5), (hk25_v21.trans hk25_v5), (hk35_v21.trans hk35_v5), (hk36_v21.trans hk36_v5), (hk38_v21.trans hk38_v5), (hk39_v21.trans hk39_v5)⟩ hP hD hS dX11_man_88 (Nat.le_refl _) (Nat.le_refl _)
            · skip
              have zc19 : ¬ (p2.toInt = 4) := by rw [fa_eq, show (4 : Int32).toInt = 4 from by decide] at c19; exact c19
              refine lv_tableOut (tgt := 89) hx hb dX11_man_16 (by omega) (by decide) ?_
              refine lv_bipush (v := (-2)) hx hb dX11_man_89 (by decide) ?_
              exact ret (-2) (v5, f6, w7, g8) _ _ _ _ _ _ rfl ⟨hM_v5, hA_f6, hIv5, hCf6, hRf6, hk0_v5, hk1_v5, hk2_v5, hk3_v5, hk4_v5, hk5_v5, hk8_v5, hk9_v5, hk10_v5, hk13_v5, hk14_v5, hk15_v5, hk17_v5, hk18_v5, hk24_v5, hk25_v5, hk35_v5, hk36_v5, hk38_v5, hk39_v5⟩ hP hD hS dX11_man_91 (Nat.le_refl _) (Nat.le_refl _)
  · skip
    subst g3
    refine lv_if_ne (tgt := 11) hx hb dX11_man_5 (by decide) (fun c0 => absurd (by decide) c0) (fun _ => ?_)
    refine lv_bipush (v := (-2)) hx hb dX11_man_8 (by decide) ?_
    exact ret (-2) (v, f, w, g) _ _ _ _ _ _ rfl ⟨hM_v, hA_f, hIv, hCf, hRf, rfl, rfl, rfl, rfl, rfl, rfl, rfl, rfl, rfl, rfl, rfl, rfl, rfl, rfl, rfl, rfl, rfl, rfl, rfl, rfl⟩ hP hD hS dX11_man_10 (Nat.le_refl _) (Nat.le_refl _)
set_option maxHeartbeats 4000000 in
set_option maxRecDepth 100000 in
theorem sY_X11_coat_1 (l : Launch) (dC : Nat → ClassId) (dI : Nat → Nat → Nat) (cy : Nat → ClassId) (y0 : Nat) (r : Nat → Nat) (p1 : Int32) (p2 : Int32) (v : Nat → Int32) (f : Nat → Nat → Int32) (w : Int64) (g : Nat → Int64) (hIv : YI v) (hCf : YC f) (hRf : progOK (f 4) (f 5) (v 9).toInt.toNat)  : ctI l (dC, dI) cy yX11_coat cX11_coat 3 .int 3 103 0 0 ((Nat → Int32) × (Nat → Nat → Int32) × (Int64) × (Nat → Int64)) [.ref y0, .int p1, .int p2] (YW cy y0 r v f w g) (fun r u => KV [] u.1 v ∧ KF [24] u.2.1 f ∧ YI u.1 ∧ YC u.2.1 ∧ progOK (u.2.1 4) (u.2.1 5) (u.1 9).toInt.toNat ∧ u.1 0 = v 0 ∧ u.1 1 = v 1 ∧ u.1 2 = v 2 ∧ u.1 3 = v 3 ∧ u.1 4 = v 4 ∧ u.1 5 = v 5 ∧ u.1 8 = v 8 ∧ u.1 9 = v 9 ∧ u.1 10 = v 10 ∧ u.1 13 = v 13 ∧ u.1 14 = v 14 ∧ u.1 15 = v 15 ∧ u.1 17 = v 17 ∧ u.1 18 = v 18 ∧ u.1 24 = v 24 ∧ u.1 25 = v 25 ∧ u.1 35 = v 35 ∧ u.1 36 = v 36 ∧ u.1 38 = v 38 ∧ u.1 39 = v 39) (fun u => YW cy y0 r u.1 u.2.1 u.2.2.1 u.2.2.2) := by
  refine ctI_of (by decide) (Nat.le_of_ble_eq_true rfl) (fun p e s m below meth c A ls Q hx hb hml hts hown hE hP hD hA hl ret => ?_)
  have hUv : (v 35).toInt + (v 36).toInt ≤ 40 := hIv.2
  have hM_v : KV [] v v := fun _ _ => rfl
  have hA_f : KF [24] f f := fun _ _ => rfl
  have hown : s.vm.findClass RX11 = some m.cls := hown
  have hS : va_S A s.heap s.heap [] := va_S.rf
  have hl : lv_has ls 3 [(0, .ref y0), (1, .int p1), (2, .int p2)] := hl
  refine lv_aload_n hx hb dX11_coat_0 rfl (lv_at hl 0 rfl) ?_
  refine lv_iload_n hx hb dX11_coat_1 rfl (lv_at hl 1 rfl) ?_
  refine cbVi (n := 1) (rest := []) hx hb hml hown hts hE hP hD hS hA (sY_X11_isCoat_1 0 l dC dI cy y0 r p1 v f w g hIv hCf hRf ) k_1771 k_1773 k_75 k_114 k_1774 (by decide +kernel) ⟨Nat.le_of_ble_eq_true rfl, Nat.le_of_ble_eq_true rfl⟩ 0 11 rfl rfl (rfl) hl.1 rfl (Nat.le_of_ble_eq_true rfl) dX11_coat_2 (fun r1 u H locs hw hP hD hS => ?_)
  obtain ⟨hG2, hw⟩ := hw
  rcases hw with ⟨g3, g3_0, g3_1, g3_2⟩ | ⟨g3⟩
  · skip
    subst g3
    refine lv_if_ne (tgt := 11) hx hb dX11_coat_5 (by decide) (fun _ => ?_) (fun c0 => absurd c0 (by decide))
    refine lv_aload_n hx hb dX11_coat_11 rfl (lv_at hl 0 rfl) ?_
    refine cbVv (n := 0) (rest := []) hx hb hml hown hts hE hP hD hS hA (sY_X11_fill_1 0 l dC dI cy y0 r  v f w g hIv hCf hRf ) k_1739 k_1741 k_71 k_114 k_1742 (by decide +kernel) ⟨Nat.le_of_ble_eq_true rfl, Nat.le_of_ble_eq_true rfl⟩ 0 11 rfl rfl (rfl) hl.1 rfl (Nat.le_of_ble_eq_true rfl) dX11_coat_12 (fun u H locs hw hP hD hS => ?_)
    obtain ⟨hG4, hw⟩ := hw
    obtain ⟨v5, f6, w7, g8⟩ := u
    obtain ⟨kV_v5, kF_f6, hIv5, hCf6, hRf6, hk0_v5, hk1_v5, hk2_v5, hk3_v5, hk4_v5, hk5_v5, hk8_v5, hk9_v5, hk10_v5, hk13_v5, hk14_v5, hk15_v5, hk17_v5, hk18_v5, hk24_v5, hk25_v5, hk35_v5, hk36_v5, hk38_v5, hk39_v5⟩ := hw
    have hM_v5 : KV [] v5 v := KV.tr kV_v5 hM_v rfl
    have hA_f6 : KF [24] f6 f := KF.tr kF_f6 hA_f rfl
    have hP : va_P (dC, dI) vwCl (YW cy y0 r v5 f6 w7 g8) H := hP
    have hD : va_D A (YW cy y0 r v5 f6 w7 g8) := hD
    have hUv5 : (v5 35).toInt + (v5 36).toInt ≤ 40 := hIv5.2
    have hq9_v5 : v5 9 = (v 9) := hk9_v5
    have zq9_v5 := congrArg Int32.toInt hq9_v5
    refine lv_iload_n hx hb dX11_coat_15 rfl (lv_at hl 2 rfl) ?_
    by_cases c9 : p2 = 0
    · skip
      refine lv_tableIn (off := 40) (tgt := 56) hx hb dX11_coat_16 (by rw [c9]; decide) (by rw [c9]; decide) (by rw [c9]; decide) (by decide) ?_
      have zc9 : p2.toInt = 0 := by rw [fa_eq, show (0 : Int32).toInt = 0 from by decide] at c9; exact c9
      refine lv_aload_n hx hb dX11_coat_56 rfl (lv_at hl 0 rfl) ?_
      refine va_get (D := (dC, dI)) (ci := 11) (v := .ref (r 60)) (C := RX11) (T := TX11) (N := 79) hx hb hts inB_11 hown hE.1 hP 0 rfl rfl 60 (by decide) (hts _ k_1380) (fun _ h9 => h9) rfl dX11_coat_57 ?_
      refine lv_bipush (v := 12) hx hb dX11_coat_60 (by decide) ?_
      refine lv_iload_n hx hb dX11_coat_62 rfl (lv_at hl 1 rfl) ?_
      refine lv_iadd hx hb dX11_coat_63 ?_
      refine lv_topi (fun t10 et10 => ?_)
      have rg11 := fb_rng p1
      have zt10 : t10.toInt = 12 + p1.toInt := by rw [et10]; exact add_i (by decide) rfl (by omega) (by omega)
      refine ldI hx hb hE hP 25 rfl (vp_in_iff.mpr ⟨by omega, by omega⟩) rfl rfl dX11_coat_64 ?_
      refine lv_topi (fun t12 et12 => ?_)
      have zt12 : t10.toInt.toNat % 39 < 6 ∨ 12 ≤ t10.toInt.toNat % 39 ∨ (-1 ≤ t12.toInt ∧ t12.toInt ≤ 5) := by rw [et12]; exact wear_ld hCf6.2.1 (show t10.toInt.toNat < 39 by omega)
      exact ret t12 (v5, f6, w7, g8) _ _ _ _ _ _ rfl ⟨hM_v5, hA_f6, hIv5, hCf6, hRf6, hk0_v5, hk1_v5, hk2_v5, hk3_v5, hk4_v5, hk5_v5, hk8_v5, hk9_v5, hk10_v5, hk13_v5, hk14_v5, hk15_v5, hk17_v5, hk18_v5, hk24_v5, hk25_v5, hk35_v5, hk36_v5, hk38_v5, hk39_v5⟩ hP hD hS dX11_coat_65 (Nat.le_refl _) (Nat.le_refl _)
    · skip
      have zc9 : ¬ (p2.toInt = 0) := by rw [fa_eq, show (0 : Int32).toInt = 0 from by decide] at c9; exact c9
      by_cases c13 : p2 = 1
      · skip
        refine lv_tableIn (off := 50) (tgt := 66) hx hb dX11_coat_16 (by rw [c13]; decide) (by rw [c13]; decide) (by rw [c13]; decide) (by decide) ?_
        have zc13 : p2.toInt = 1 := by rw [fa_eq, show (1 : Int32).toInt = 1 from by decide] at c13; exact c13
        refine lv_aload_n hx hb dX11_coat_66 rfl (lv_at hl 0 rfl) ?_
        refine va_get (D := (dC, dI)) (ci := 11) (v := .ref (r 60)) (C := RX11) (T := TX11) (N := 79) hx hb hts inB_11 hown hE.1 hP 0 rfl rfl 60 (by decide) (hts _ k_1380) (fun _ h9 => h9) rfl dX11_coat_67 ?_
        refine lv_bipush (v := 18) hx hb dX11_coat_70 (by decide) ?_
        refine lv_iload_n hx hb dX11_coat_72 rfl (lv_at hl 1 rfl) ?_
        refine lv_iadd hx hb dX11_coat_73 ?_
        refine lv_topi (fun t14 et14 => ?_)
        have rg15 := fb_rng p1
        have zt14 : t14.toInt = 18 + p1.toInt := by rw [et14]; exact add_i (by decide) rfl (by omega) (by omega)
        refine ldI hx hb hE hP 25 rfl (vp_in_iff.mpr ⟨by omega, by omega⟩) rfl rfl dX11_coat_74 ?_
        refine lv_topi (fun t16 et16 => ?_)
        have zt16 : t14.toInt.toNat % 39 < 6 ∨ 12 ≤ t14.toInt.toNat % 39 ∨ (-1 ≤ t16.toInt ∧ t16.toInt ≤ 5) := by rw [et16]; exact wear_ld hCf6.2.1 (show t14.toInt.toNat < 39 by omega)
        exact ret t16 (v5, f6, w7, g8) _ _ _ _ _ _ rfl ⟨hM_v5, hA_f6, hIv5, hCf6, hRf6, hk0_v5, hk1_v5, hk2_v5, hk3_v5, hk4_v5, hk5_v5, hk8_v5, hk9_v5, hk10_v5, hk13_v5, hk14_v5, hk15_v5, hk17_v5, hk18_v5, hk24_v5, hk25_v5, hk35_v5, hk36_v5, hk38_v5, hk39_v5⟩ hP hD hS dX11_coat_75 (Nat.le_refl _) (Nat.le_refl _)
      · skip
        have zc13 : ¬ (p2.toInt = 1) := by rw [fa_eq, show (1 : Int32).toInt = 1 from by decide] at c13; exact c13
        by_cases c17 : p2 = 2
        · skip
          refine lv_tableIn (off := 60) (tgt := 76) hx hb dX11_coat_16 (by rw [c17]; decide) (by rw [c17]; decide) (by rw [c17]; decide) (by decide) ?_
          have zc17 : p2.toInt = 2 := by rw [fa_eq, show (2 : Int32).toInt = 2 from by decide] at c17; exact c17
          refine lv_aload_n hx hb dX11_coat_76 rfl (lv_at hl 0 rfl) ?_
          refine va_get (D := (dC, dI)) (ci := 11) (v := .ref (r 60)) (C := RX11) (T := TX11) (N := 79) hx hb hts inB_11 hown hE.1 hP 0 rfl rfl 60 (by decide) (hts _ k_1380) (fun _ h9 => h9) rfl dX11_coat_77 ?_
          refine lv_bipush (v := 24) hx hb dX11_coat_80 (by decide) ?_
          refine lv_iload_n hx hb dX11_coat_82 rfl (lv_at hl 1 rfl) ?_
          refine lv_iadd hx hb dX11_coat_83 ?_
          refine lv_topi (fun t18 et18 => ?_)
          have rg19 := fb_rng p1
          have zt18 : t18.toInt = 24 + p1.toInt := by rw [et18]; exact add_i (by decide) rfl (by omega) (by omega)
          refine ldI hx hb hE hP 25 rfl (vp_in_iff.mpr ⟨by omega, by omega⟩) rfl rfl dX11_coat_84 ?_
          refine lv_topi (fun t20 et20 => ?_)
          have zt20 : t18.toInt.toNat % 39 < 6 ∨ 12 ≤ t18.toInt.toNat % 39 ∨ (-1 ≤ t20.toInt ∧ t20.toInt ≤ 5) := by rw [et20]; exact wear_ld hCf6.2.1 (show t18.toInt.toNat < 39 by omega)
          exact ret t20 (v5, f6, w7, g8) _ _ _ _ _ _ rfl ⟨hM_v5, hA_f6, hIv5, hCf6, hRf6, hk0_v5, hk1_v5, hk2_v5, hk3_v5, hk4_v5, hk5_v5, hk8_v5, hk9_v5, hk10_v5, hk13_v5, hk14_v5, hk15_v5, hk17_v5, hk18_v5, hk24_v5, hk25_v5, hk35_v5, hk36_v5, hk38_v5, hk39_v5⟩ hP hD hS dX11_coat_85 (Nat.le_refl _) (Nat.le_refl _)
        · skip
          have zc17 : ¬ (p2.toInt = 2) := by rw [fa_eq, show (2 : Int32).toInt = 2 from by decide] at c17; exact c17
          by_cases c21 : p2 = 3
          · skip
            refine lv_tableIn (off := 70) (tgt := 86) hx hb dX11_coat_16 (by rw [c21]; decide) (by rw [c21]; decide) (by rw [c21]; decide) (by decide) ?_
            have zc21 : p2.toInt = 3 := by rw [fa_eq, show (3 : Int32).toInt = 3 from by decide] at c21; exact c21
            refine lv_aload_n hx hb dX11_coat_86 rfl (lv_at hl 0 rfl) ?_
            refine va_get (D := (dC, dI)) (ci := 11) (v := .ref (r 60)) (C := RX11) (T := TX11) (N := 79) hx hb hts inB_11 hown hE.1 hP 0 rfl rfl 60 (by decide) (hts _ k_1380) (fun _ h9 => h9) rfl dX11_coat_87 ?_
            refine lv_bipush (v := 30) hx hb dX11_coat_90 (by decide) ?_
            refine lv_iload_n hx hb dX11_coat_92 rfl (lv_at hl 1 rfl) ?_
            refine lv_iadd hx hb dX11_coat_93 ?_
            refine lv_topi (fun t22 et22 => ?_)
            have rg23 := fb_rng p1
            have zt22 : t22.toInt = 30 + p1.toInt := by rw [et22]; exact add_i (by decide) rfl (by omega) (by omega)
            refine ldI hx hb hE hP 25 rfl (vp_in_iff.mpr ⟨by omega, by omega⟩) rfl rfl dX11_coat_94 ?_
            refine lv_topi (fun t24 et24 => ?_)
            have zt24 : t22.toInt.toNat % 39 < 6 ∨ 12 ≤ t22.toInt.toNat % 39 ∨ (-1 ≤ t24.toInt ∧ t24.toInt ≤ 5) := by rw [et24]; exact wear_ld hCf6.2.1 (show t22.toInt.toNat < 39 by omega)
            exact ret t24 (v5, f6, w7, g8) _ _ _ _ _ _ rfl ⟨hM_v5, hA_f6, hIv5, hCf6, hRf6, hk0_v5, hk1_v5, hk2_v5, hk3_v5, hk4_v5, hk5_v5, hk8_v5, hk9_v5, hk10_v5, hk13_v5, hk14_v5, hk15_v5, hk17_v5, hk18_v5, hk24_v5, hk25_v5, hk35_v5, hk36_v5, hk38_v5, hk39_v5⟩ hP hD hS dX11_coat_95 (Nat.le_refl _) (Nat.le_refl _)
          · skip
            have zc21 : ¬ (p2.toInt = 3) := by rw [fa_eq, show (3 : Int32).toInt = 3 from by decide] at c21; exact c21
            by_cases c25 : p2 = 4
            · skip
              refine lv_tableIn (off := 80) (tgt := 96) hx hb dX11_coat_16 (by rw [c25]; decide) (by rw [c25]; decide) (by rw [c25]; decide) (by decide) ?_
              have zc25 : p2.toInt = 4 := by rw [fa_eq, show (4 : Int32).toInt = 4 from by decide] at c25; exact c25
              refine lv_aload_n hx hb dX11_coat_96 rfl (lv_at hl 0 rfl) ?_
              refine va_get (D := (dC, dI)) (ci := 11) (v := .ref (r 60)) (C := RX11) (T := TX11) (N := 79) hx hb hts inB_11 hown hE.1 hP 0 rfl rfl 60 (by decide) (hts _ k_1380) (fun _ h9 => h9) rfl dX11_coat_97 ?_
              refine lv_bipush (v := 36) hx hb dX11_coat_100 (by decide) ?_
              refine ldI hx hb hE hP 25 rfl (vp_in_nI (n := 36) (by decide) (by decide)) rfl rfl dX11_coat_102 ?_
              refine lv_topi (fun t26 et26 => ?_)
              have zt26 : 36 % 39 < 6 ∨ 12 ≤ 36 % 39 ∨ (-1 ≤ t26.toInt ∧ t26.toInt ≤ 5) := by rw [et26]; exact wear_ld hCf6.2.1 (show 36 < 39 by omega)
              refine lv_iload_n hx hb dX11_coat_103 rfl (lv_at hl 1 rfl) ?_
              refine lv_ishr hx hb dX11_coat_104 ?_
              refine lv_topi (fun t27 et27 => ?_)
              refine lv_iconst (v := 1) hx hb dX11_coat_105 (by decide) ?_
              refine lv_iand hx hb dX11_coat_106 ?_
              refine lv_topi (fun t28 et28 => ?_)
              have zt28 : 0 ≤ t28.toInt ∧ t28.toInt < 2 := by rw [et28]; exact and_rng _ (k := 1) (by decide) (by decide)
              exact ret t28 (v5, f6, w7, g8) _ _ _ _ _ _ rfl ⟨hM_v5, hA_f6, hIv5, hCf6, hRf6, hk0_v5, hk1_v5, hk2_v5, hk3_v5, hk4_v5, hk5_v5, hk8_v5, hk9_v5, hk10_v5, hk13_v5, hk14_v5, hk15_v5, hk17_v5, hk18_v5, hk24_v5, hk25_v5, hk35_v5, hk36_v5, hk38_v5, hk39_v5⟩ hP hD hS dX11_coat_107 (Nat.le_refl _) (Nat.le_refl _)
            · skip
              have zc25 : ¬ (p2.toInt = 4) := by rw [fa_eq, show (4 : Int32).toInt = 4 from by decide] at c25; exact c25
              by_cases c29 : p2 = 5
              · skip
                refine lv_tableIn (off := 92) (tgt := 108) hx hb dX11_coat_16 (by rw [c29]; decide) (by rw [c29]; decide) (by rw [c29]; decide) (by decide) ?_
                have zc29 : p2.toInt = 5 := by rw [fa_eq, show (5 : Int32).toInt = 5 from by decide] at c29; exact c29
                refine lv_aload_n hx hb dX11_coat_108 rfl (lv_at hl 0 rfl) ?_
                refine lv_iload_n hx hb dX11_coat_109 rfl (lv_at hl 1 rfl) ?_
                refine cbVi (n := 1) (rest := []) hx hb hml hown hts hE hP hD hS hA (sY_X11_wearer_1 0 l dC dI cy y0 r p1 v5 f6 w7 g8 hIv5 hCf6 hRf6 ) k_1775 k_1777 k_76 k_114 k_1778 (by decide +kernel) ⟨Nat.le_of_ble_eq_true rfl, Nat.le_of_ble_eq_true rfl⟩ 0 11 rfl rfl (rfl) hl.1 rfl (Nat.le_of_ble_eq_true rfl) dX11_coat_110 (fun r30 u H locs hw hP hD hS => ?_)
                have hG31 := hw
                exact ret r30 (v5, f6, w7, g8) _ _ _ _ _ _ rfl ⟨hM_v5, hA_f6, hIv5, hCf6, hRf6, hk0_v5, hk1_v5, hk2_v5, hk3_v5, hk4_v5, hk5_v5, hk8_v5, hk9_v5, hk10_v5, hk13_v5, hk14_v5, hk15_v5, hk17_v5, hk18_v5, hk24_v5, hk25_v5, hk35_v5, hk36_v5, hk38_v5, hk39_v5⟩ hP hD hS dX11_coat_113 (Nat.le_refl _) (Nat.le_refl _)
              · skip
                have zc29 : ¬ (p2.toInt = 5) := by rw [fa_eq, show (5 : Int32).toInt = 5 from by decide] at c29; exact c29
                refine lv_tableOut (tgt := 114) hx hb dX11_coat_16 (by omega) (by decide) ?_
                refine lv_bipush (v := (-2)) hx hb dX11_coat_114 (by decide) ?_
                exact ret (-2) (v5, f6, w7, g8) _ _ _ _ _ _ rfl ⟨hM_v5, hA_f6, hIv5, hCf6, hRf6, hk0_v5, hk1_v5, hk2_v5, hk3_v5, hk4_v5, hk5_v5, hk8_v5, hk9_v5, hk10_v5, hk13_v5, hk14_v5, hk15_v5, hk17_v5, hk18_v5, hk24_v5, hk25_v5, hk35_v5, hk36_v5, hk38_v5, hk39_v5⟩ hP hD hS dX11_coat_116 (Nat.le_refl _) (Nat.le_refl _)
  · skip
    subst g3
    refine lv_if_ne (tgt := 11) hx hb dX11_coat_5 (by decide) (fun c0 => absurd (by decide) c0) (fun _ => ?_)
    refine lv_bipush (v := (-2)) hx hb dX11_coat_8 (by decide) ?_
    exact ret (-2) (v, f, w, g) _ _ _ _ _ _ rfl ⟨hM_v, hA_f, hIv, hCf, hRf, rfl, rfl, rfl, rfl, rfl, rfl, rfl, rfl, rfl, rfl, rfl, rfl, rfl, rfl, rfl, rfl, rfl, rfl, rfl, rfl⟩ hP hD hS dX11_coat_10 (Nat.le_refl _) (Nat.le_refl _)
set_option maxHeartbeats 4000000 in
set_option maxRecDepth 100000 in
theorem sY_X11_will_1 (l : Launch) (dC : Nat → ClassId) (dI : Nat → Nat → Nat) (cy : Nat → ClassId) (y0 : Nat) (r : Nat → Nat) (p1 : Int32) (p2 : Int32) (p3 : Int32) (v : Nat → Int32) (f : Nat → Nat → Int32) (w : Int64) (g : Nat → Int64) (hIv : YI v) (hCf : YC f) (hRf : progOK (f 4) (f 5) (v 9).toInt.toNat)  : ctI l (dC, dI) cy yX11_will cX11_will 5 .int 8 214 0 0 ((Nat → Int32) × (Nat → Nat → Int32) × (Int64) × (Nat → Int64)) [.ref y0, .int p1, .int p2, .int p3] (YW cy y0 r v f w g) (fun r u => KV [] u.1 v ∧ KF [7, 8, 24] u.2.1 f ∧ YI u.1 ∧ YC u.2.1 ∧ progOK (u.2.1 4) (u.2.1 5) (u.1 9).toInt.toNat ∧ u.1 0 = v 0 ∧ u.1 1 = v 1 ∧ u.1 2 = v 2 ∧ u.1 3 = v 3 ∧ u.1 4 = v 4 ∧ u.1 5 = v 5 ∧ u.1 8 = v 8 ∧ u.1 9 = v 9 ∧ u.1 10 = v 10 ∧ u.1 13 = v 13 ∧ u.1 14 = v 14 ∧ u.1 15 = v 15 ∧ u.1 17 = v 17 ∧ u.1 18 = v 18 ∧ u.1 24 = v 24 ∧ u.1 25 = v 25 ∧ u.1 35 = v 35 ∧ u.1 36 = v 36 ∧ u.1 38 = v 38 ∧ u.1 39 = v 39) (fun u => YW cy y0 r u.1 u.2.1 u.2.2.1 u.2.2.2) := by
  refine ctI_of (by decide) (Nat.le_of_ble_eq_true rfl) (fun p e s m below meth c A ls Q hx hb hml hts hown hE hP hD hA hl ret => ?_)
  have hUv : (v 35).toInt + (v 36).toInt ≤ 40 := hIv.2
  have hM_v : KV [] v v := fun _ _ => rfl
  have hA_f : KF [7, 8, 24] f f := fun _ _ => rfl
  have hown : s.vm.findClass RX11 = some m.cls := hown
  have hS : va_S A s.heap s.heap [] := va_S.rf
  have hl : lv_has ls 5 [(0, .ref y0), (1, .int p1), (2, .int p2), (3, .int p3)] := hl
  refine lv_aload_n hx hb dX11_will_0 rfl (lv_at hl 0 rfl) ?_
  refine lv_iload_n hx hb dX11_will_1 rfl (lv_at hl 1 rfl) ?_
  refine cbVi (n := 1) (rest := []) hx hb hml hown hts hE hP hD hS hA (sY_X11_isMan_1 0 l dC dI cy y0 r p1 v f w g hIv hCf hRf ) k_1732 k_1734 k_70 k_114 k_1735 (by decide +kernel) ⟨Nat.le_of_ble_eq_true rfl, Nat.le_of_ble_eq_true rfl⟩ 0 11 rfl rfl (rfl) hl.1 rfl (Nat.le_of_ble_eq_true rfl) dX11_will_2 (fun r1 u H locs hw hP hD hS => ?_)
  obtain ⟨hG2, hw⟩ := hw
  rcases hw with ⟨g3, g3_0, g3_1, g3_2⟩ | ⟨g3⟩
  · skip
    subst g3
    refine lv_if_eq (tgt := 27) hx hb dX11_will_5 (by decide) (fun c0 => absurd c0 (by decide)) (fun _ => ?_)
    refine lv_iload_n hx hb dX11_will_8 rfl (lv_at hl 2 rfl) ?_
    refine lv_iconst (v := 0) hx hb dX11_will_9 (by decide) ?_
    refine lv_bipush (v := 60) hx hb dX11_will_10 (by decide) ?_
    have lt4 : (0 : Int32).toInt = 0 := by decide
    have lt5 : (60 : Int32).toInt = 60 := by decide
    refine cbSi (n := 3) (rest := []) hx hb hml hown hts hE hP hD hS hA (sY_X11_isIn_1 0 l dC dI cy y0 r p2 0 60 v f w g hIv hCf hRf ) k_1736 k_1737 k_114 k_1738 (by decide +kernel) ⟨Nat.le_of_ble_eq_true rfl, Nat.le_of_ble_eq_true rfl⟩ (rfl) hl.1 rfl (Nat.le_of_ble_eq_true rfl) dX11_will_12 (fun r6 u H locs hw hP hD hS => ?_)
    obtain ⟨hG7, hw⟩ := hw
    rcases hw with ⟨g8, g8_0, g8_1⟩ | ⟨g8⟩
    · skip
      subst g8
      refine lv_if_eq (tgt := 27) hx hb dX11_will_15 (by decide) (fun c0 => absurd c0 (by decide)) (fun _ => ?_)
      refine lv_iload_n hx hb dX11_will_18 rfl (lv_at hl 3 rfl) ?_
      refine lv_iconst (v := 0) hx hb dX11_will_19 (by decide) ?_
      refine lv_iconst (v := 1) hx hb dX11_will_20 (by decide) ?_
      have lt9 : (1 : Int32).toInt = 1 := by decide
      refine cbSi (n := 3) (rest := []) hx hb hml hown hts hE hP hD hS hA (sY_X11_isIn_1 0 l dC dI cy y0 r p3 0 1 v f w g hIv hCf hRf ) k_1736 k_1737 k_114 k_1738 (by decide +kernel) ⟨Nat.le_of_ble_eq_true rfl, Nat.le_of_ble_eq_true rfl⟩ (rfl) hl.1 rfl (Nat.le_of_ble_eq_true rfl) dX11_will_21 (fun r10 u H locs hw hP hD hS => ?_)
      obtain ⟨hG11, hw⟩ := hw
      rcases hw with ⟨g12, g12_0, g12_1⟩ | ⟨g12⟩
      · skip
        subst g12
        refine lv_if_ne (tgt := 30) hx hb dX11_will_24 (by decide) (fun _ => ?_) (fun c0 => absurd c0 (by decide))
        refine lv_aload_n hx hb dX11_will_30 rfl (lv_at hl 0 rfl) ?_
        refine cbVv (n := 0) (rest := []) hx hb hml hown hts hE hP hD hS hA (sY_X11_fill_1 0 l dC dI cy y0 r  v f w g hIv hCf hRf ) k_1739 k_1741 k_71 k_114 k_1742 (by decide +kernel) ⟨Nat.le_of_ble_eq_true rfl, Nat.le_of_ble_eq_true rfl⟩ 0 11 rfl rfl (rfl) hl.1 rfl (Nat.le_of_ble_eq_true rfl) dX11_will_31 (fun u H locs hw hP hD hS => ?_)
        obtain ⟨hG13, hw⟩ := hw
        obtain ⟨v14, f15, w16, g17⟩ := u
        obtain ⟨kV_v14, kF_f15, hIv14, hCf15, hRf15, hk0_v14, hk1_v14, hk2_v14, hk3_v14, hk4_v14, hk5_v14, hk8_v14, hk9_v14, hk10_v14, hk13_v14, hk14_v14, hk15_v14, hk17_v14, hk18_v14, hk24_v14, hk25_v14, hk35_v14, hk36_v14, hk38_v14, hk39_v14⟩ := hw
        have hM_v14 : KV [] v14 v := KV.tr kV_v14 hM_v rfl
        have hA_f15 : KF [7, 8, 24] f15 f := KF.tr kF_f15 hA_f rfl
        have hP : va_P (dC, dI) vwCl (YW cy y0 r v14 f15 w16 g17) H := hP
        have hD : va_D A (YW cy y0 r v14 f15 w16 g17) := hD
        have hUv14 : (v14 35).toInt + (v14 36).toInt ≤ 40 := hIv14.2
        have hq0_v14 : v14 0 = (v 0) := hk0_v14
        have hq1_v14 : v14 1 = (v 1) := hk1_v14
        have hq2_v14 : v14 2 = (v 2) := hk2_v14
        have hq3_v14 : v14 3 = (v 3) := hk3_v14
        have hq4_v14 : v14 4 = (v 4) := hk4_v14
        have hq5_v14 : v14 5 = (v 5) := hk5_v14
        have hq8_v14 : v14 8 = (v 8) := hk8_v14
        have hq9_v14 : v14 9 = (v 9) := hk9_v14
        have zq9_v14 := congrArg Int32.toInt hq9_v14
        have hq10_v14 : v14 10 = (v 10) := hk10_v14
        have hq13_v14 : v14 13 = (v 13) := hk13_v14
        have hq14_v14 : v14 14 = (v 14) := hk14_v14
        have hq15_v14 : v14 15 = (v 15) := hk15_v14
        have hq17_v14 : v14 17 = (v 17) := hk17_v14
        have hq18_v14 : v14 18 = (v 18) := hk18_v14
        have hq24_v14 : v14 24 = (v 24) := hk24_v14
        have hq25_v14 : v14 25 = (v 25) := hk25_v14
        have hq35_v14 : v14 35 = (v 35) := hk35_v14
        have hq36_v14 : v14 36 = (v 36) := hk36_v14
        have hq38_v14 : v14 38 = (v 38) := hk38_v14
        have hq39_v14 : v14 39 = (v 39) := hk39_v14
        refine lv_iconst (v := 0) hx hb dX11_will_34 (by decide) ?_
        refine lv_istore (lv' := [(4, .int 0), (0, .ref y0), (1, .int p1), (2, .int p2), (3, .int p3)]) hx hb dX11_will_35 hl (by decide) rfl (fun ls hl => ?_)
        have lp18 : ∀ (n18 : Nat) (l4_18 : Int32) (v18 : Nat → Int32) (f18 : Nat → Nat → Int32) (w18 : Int64) (g18 : Nat → Int64), YI v18 → YC f18 → progOK (f18 4) (f18 5) (v18 9).toInt.toNat → v18 0 = (v 0) → v18 1 = (v 1) → v18 2 = (v 2) → v18 3 = (v 3) → v18 4 = (v 4) → v18 5 = (v 5) → v18 8 = (v 8) → v18 9 = (v 9) → v18 10 = (v 10) → v18 13 = (v 13) → v18 14 = (v 14) → v18 15 = (v 15) → v18 17 = (v 17) → v18 18 = (v 18) → v18 24 = (v 24) → v18 25 = (v 25) → v18 35 = (v 35) → v18 36 = (v 36) → v18 38 = (v 38) → v18 39 = (v 39) → ((0 : Int) ≤ l4_18.toInt ∧ l4_18.toInt ≤ 2147483647) → KV [] v18 v → KF [7, 8, 24] f18 f → (2147483647 - l4_18.toInt).toNat < n18 → ∀ (H : Heap) (locs : List Loc) (ls : Array Slot), va_P (dC, dI) vwCl (YW cy y0 r v18 f18 w18 g18) H → va_D A (YW cy y0 r v18 f18 w18 g18) → va_S A s.heap H locs → lv_has ls 5 [(4, .int l4_18), (0, .ref y0), (1, .int p1), (2, .int p2), (3, .int p3)] → W p l e { frames := 8, cells := 0, slots := 0, locals := 214 } s m ([.ref y0, .int p1, .int p2, .int p3] : List Value).toArray below meth c H locs 0 0 Q (F0 m 37 ls []) := by
          intro n18
          induction n18 with
          | zero => intro l4_18 v18 f18 w18 g18 hIv18 hCf18 hRf18 hq0_v18 hq1_v18 hq2_v18 hq3_v18 hq4_v18 hq5_v18 hq8_v18 hq9_v18 hq10_v18 hq13_v18 hq14_v18 hq15_v18 hq17_v18 hq18_v18 hq24_v18 hq25_v18 hq35_v18 hq36_v18 hq38_v18 hq39_v18 hr4_18 hM_v18 hA_f18 hm; exact absurd hm (Nat.not_lt_zero _)
          | succ n18 ih18 =>
            intro l4_18 v18 f18 w18 g18 hIv18 hCf18 hRf18 hq0_v18 hq1_v18 hq2_v18 hq3_v18 hq4_v18 hq5_v18 hq8_v18 hq9_v18 hq10_v18 hq13_v18 hq14_v18 hq15_v18 hq17_v18 hq18_v18 hq24_v18 hq25_v18 hq35_v18 hq36_v18 hq38_v18 hq39_v18 hr4_18 hM_v18 hA_f18 hm18 H locs ls hP hD hS hl
            have hUv18 : (v18 35).toInt + (v18 36).toInt ≤ 40 := hIv18.2
            have zq9_v18 := congrArg Int32.toInt hq9_v18
            refine lv_iload hx hb dX11_will_37 (lv_at hl 0 rfl) ?_
            refine lv_iload_n hx hb dX11_will_39 rfl (lv_at hl 3 rfl) ?_
            refine lv_icmp_ge (tgt := 71) hx hb dX11_will_40 (by decide) (fun c19 => ?_) (fun c19 => ?_)
            · skip
              have zc19 : p2.toInt ≤ l4_18.toInt := by rw [fa_le] at c19; exact c19
              have rg20 := fb_rng l4_18
              have rg21 := fb_rng p2
              refine lv_aload_n hx hb dX11_will_71 rfl (lv_at hl 1 rfl) ?_
              refine va_get (D := (dC, dI)) (ci := 11) (v := .ref (r 60)) (C := RX11) (T := TX11) (N := 79) hx hb hts inB_11 hown hE.1 hP 0 rfl rfl 60 (by decide) (hts _ k_1380) (fun _ h9 => h9) rfl dX11_will_72 ?_
              refine lv_bipush (v := 6) hx hb dX11_will_75 (by decide) ?_
              refine lv_iload_n hx hb dX11_will_77 rfl (lv_at hl 2 rfl) ?_
              refine lv_iadd hx hb dX11_will_78 ?_
              refine lv_topi (fun t22 et22 => ?_)
              have rg23 := fb_rng p1
              have zt22 : t22.toInt = 6 + p1.toInt := by rw [et22]; exact add_i (by decide) rfl (by omega) (by omega)
              refine ldI hx hb hE hP 25 rfl (vp_in_iff.mpr ⟨by omega, by omega⟩) rfl rfl dX11_will_79 ?_
              refine lv_topi (fun t24 et24 => ?_)
              have zt24 : t22.toInt.toNat % 39 < 6 ∨ 12 ≤ t22.toInt.toNat % 39 ∨ (-1 ≤ t24.toInt ∧ t24.toInt ≤ 5) := by rw [et24]; exact wear_ld hCf18.2.1 (show t22.toInt.toNat < 39 by omega)
              exact ret t24 (v18, f18, w18, g18) _ _ _ _ _ _ rfl ⟨hM_v18, hA_f18, hIv18, hCf18, hRf18, hq0_v18, hq1_v18, hq2_v18, hq3_v18, hq4_v18, hq5_v18, hq8_v18, hq9_v18, hq10_v18, hq13_v18, hq14_v18, hq15_v18, hq17_v18, hq18_v18, hq24_v18, hq25_v18, hq35_v18, hq36_v18, hq38_v18, hq39_v18⟩ hP hD hS dX11_will_80 (Nat.le_refl _) (Nat.le_refl _)
            · skip
              have zc19 : ¬ (p2.toInt ≤ l4_18.toInt) := by rw [fa_le] at c19; exact c19
              have rg25 := fb_rng l4_18
              have rg26 := fb_rng p2
              refine lv_aload_n hx hb dX11_will_43 rfl (lv_at hl 1 rfl) ?_
              refine lv_iload_n hx hb dX11_will_44 rfl (lv_at hl 4 rfl) ?_
              refine lv_iconst (v := 1) hx hb dX11_will_45 (by decide) ?_
              refine lv_icmp_ne (tgt := 60) hx hb dX11_will_46 (by decide) (fun c27 => ?_) (fun c27 => ?_)
              · skip
                have zc27 : ¬ (p3.toInt = 1) := by rw [fa_eq, show (1 : Int32).toInt = 1 from by decide] at c27; exact c27
                refine lv_iconst (v := 0) hx hb dX11_will_60 (by decide) ?_
                refine cbVi (n := 1) (rest := []) hx hb hml hown hts hE hP hD hS hA (sY_X11_goDay_1 0 l dC dI cy y0 r 0 v18 f18 w18 g18 hIv18 hCf18 hRf18 ) k_1795 k_1797 k_79 k_114 k_1798 (by decide +kernel) ⟨Nat.le_of_ble_eq_true rfl, Nat.le_of_ble_eq_true rfl⟩ 0 11 rfl rfl (rfl) hl.1 rfl (Nat.le_of_ble_eq_true rfl) dX11_will_61 (fun r28 u H locs hw hP hD hS => ?_)
                obtain ⟨hG29, hw⟩ := hw
                obtain ⟨v30, f31, w32, g33⟩ := u
                obtain ⟨kV_v30, kF_f31, hIv30, hCf31, hRf31, hk0_v30, hk1_v30, hk2_v30, hk3_v30, hk4_v30, hk5_v30, hk8_v30, hk9_v30, hk10_v30, hk13_v30, hk14_v30, hk15_v30, hk17_v30, hk18_v30, hk24_v30, hk25_v30, hk35_v30, hk36_v30, hk38_v30, hk39_v30⟩ := hw
                have hM_v30 : KV [] v30 v := KV.tr kV_v30 hM_v18 rfl
                have hA_f31 : KF [7, 8, 24] f31 f := KF.tr kF_f31 hA_f18 rfl
                have hP : va_P (dC, dI) vwCl (YW cy y0 r v30 f31 w32 g33) H := hP
                have hD : va_D A (YW cy y0 r v30 f31 w32 g33) := hD
                have hUv30 : (v30 35).toInt + (v30 36).toInt ≤ 40 := hIv30.2
                have hq0_v30 : v30 0 = (v 0) := hk0_v30.trans hq0_v18
                have hq1_v30 : v30 1 = (v 1) := hk1_v30.trans hq1_v18
                have hq2_v30 : v30 2 = (v 2) := hk2_v30.trans hq2_v18
                have hq3_v30 : v30 3 = (v 3) := hk3_v30.trans hq3_v18
                have hq4_v30 : v30 4 = (v 4) := hk4_v30.trans hq4_v18
                have hq5_v30 : v30 5 = (v 5) := hk5_v30.trans hq5_v18
                have hq8_v30 : v30 8 = (v 8) := hk8_v30.trans hq8_v18
                have hq9_v30 : v30 9 = (v 9) := hk9_v30.trans hq9_v18
                have zq9_v30 := congrArg Int32.toInt hq9_v30
                have hq10_v30 : v30 10 = (v 10) := hk10_v30.trans hq10_v18
                have hq13_v30 : v30 13 = (v 13) := hk13_v30.trans hq13_v18
                have hq14_v30 : v30 14 = (v 14) := hk14_v30.trans hq14_v18
                have hq15_v30 : v30 15 = (v 15) := hk15_v30.trans hq15_v18
                have hq17_v30 : v30 17 = (v 17) := hk17_v30.trans hq17_v18
                have hq18_v30 : v30 18 = (v 18) := hk18_v30.trans hq18_v18
                have hq24_v30 : v30 24 = (v 24) := hk24_v30.trans hq24_v18
                have hq25_v30 : v30 25 = (v 25) := hk25_v30.trans hq25_v18
                have hq35_v30 : v30 35 = (v 35) := hk35_v30.trans hq35_v18
                have hq36_v30 : v30 36 = (v 36) := hk36_v30.trans hq36_v18
                have hq38_v30 : v30 38 = (v 38) := hk38_v30.trans hq38_v18
                have hq39_v30 : v30 39 = (v 39) := hk39_v30.trans hq39_v18
                refine lv_pop hx hb dX11_will_64 rfl ?_
                obtain ⟨t34, et34⟩ : ∃ y : Int32, y = l4_18 + 1 := ⟨_, rfl⟩
                have zt34 : t34.toInt = l4_18.toInt + 1 := by rw [et34]; exact add_i rfl (by decide) (by omega) (by omega)
                refine lv_iinc (v := t34) (lv' := [(4, .int t34), (0, .ref y0), (1, .int p1), (2, .int p2), (3, .int p3)]) hx hb dX11_will_65 hl (k := 0) rfl (by rw [et34]; rfl) (by decide) rfl (fun ls hl => ?_)
                refine lv_goto (tgt := 37) hx hb dX11_will_68 (by decide) ?_
                have rg35 := fb_rng t34
                exact ih18 t34 v30 f31 w32 g33 hIv30 hCf31 hRf31 hq0_v30 hq1_v30 hq2_v30 hq3_v30 hq4_v30 hq5_v30 hq8_v30 hq9_v30 hq10_v30 hq13_v30 hq14_v30 hq15_v30 hq17_v30 hq18_v30 hq24_v30 hq25_v30 hq35_v30 hq36_v30 hq38_v30 hq39_v30 ⟨show (0 : Int) ≤ t34.toInt by omega, show t34.toInt ≤ (2147483647 : Int) by omega⟩ hM_v30 hA_f31 (by show (2147483647 - t34.toInt).toNat < n18; omega) _ _ _ hP hD hS (lv_sub hl [0, 1, 2, 3, 4] rfl)
              · skip
                have zc27 : p3.toInt = 1 := by rw [fa_eq, show (1 : Int32).toInt = 1 from by decide] at c27; exact c27
                refine lv_aload_n hx hb dX11_will_49 rfl (lv_at hl 1 rfl) ?_
                refine cbVi (n := 0) (rest := [.ref y0]) hx hb hml hown hts hE hP hD hS hA (sY_X11_drawRain_1 0 l dC dI cy y0 r  v18 f18 w18 g18 hIv18 hCf18 hRf18 ) k_1791 k_1793 k_78 k_114 k_1794 (by decide +kernel) ⟨Nat.le_of_ble_eq_true rfl, Nat.le_of_ble_eq_true rfl⟩ 0 11 rfl rfl (rfl) hl.1 rfl (Nat.le_of_ble_eq_true rfl) dX11_will_50 (fun r36 u H locs hw hP hD hS => ?_)
                obtain ⟨hG37, hw⟩ := hw
                obtain ⟨v38, f39, w40, g41⟩ := u
                obtain ⟨kV_v38, kF_f39, hIv38, hCf39, hRf39, hk0_v38, hk1_v38, hk2_v38, hk3_v38, hk4_v38, hk5_v38, hk8_v38, hk9_v38, hk10_v38, hk13_v38, hk14_v38, hk15_v38, hk17_v38, hk18_v38, hk24_v38, hk25_v38, hk35_v38, hk36_v38, hk38_v38, hk39_v38, hw⟩ := hw
                have hM_v38 : KV [] v38 v := KV.tr kV_v38 hM_v18 rfl
                have hA_f39 : KF [7, 8, 24] f39 f := KF.tr kF_f39 hA_f18 rfl
                have hP : va_P (dC, dI) vwCl (YW cy y0 r v38 f39 w40 g41) H := hP
                have hD : va_D A (YW cy y0 r v38 f39 w40 g41) := hD
                have hUv38 : (v38 35).toInt + (v38 36).toInt ≤ 40 := hIv38.2
                have hq0_v38 : v38 0 = (v 0) := hk0_v38.trans hq0_v18
                have hq1_v38 : v38 1 = (v 1) := hk1_v38.trans hq1_v18
                have hq2_v38 : v38 2 = (v 2) := hk2_v38.trans hq2_v18
                have hq3_v38 : v38 3 = (v 3) := hk3_v38.trans hq3_v18
                have hq4_v38 : v38 4 = (v 4) := hk4_v38.trans hq4_v18
                have hq5_v38 : v38 5 = (v 5) := hk5_v38.trans hq5_v18
                have hq8_v38 : v38 8 = (v 8) := hk8_v38.trans hq8_v18
                have hq9_v38 : v38 9 = (v 9) := hk9_v38.trans hq9_v18
                have zq9_v38 := congrArg Int32.toInt hq9_v38
                have hq10_v38 : v38 10 = (v 10) := hk10_v38.trans hq10_v18
                have hq13_v38 : v38 13 = (v 13) := hk13_v38.trans hq13_v18
                have hq14_v38 : v38 14 = (v 14) := hk14_v38.trans hq14_v18
                have hq15_v38 : v38 15 = (v 15) := hk15_v38.trans hq15_v18
                have hq17_v38 : v38 17 = (v 17) := hk17_v38.trans hq17_v18
                have hq18_v38 : v38 18 = (v 18) := hk18_v38.trans hq18_v18
                have hq24_v38 : v38 24 = (v 24) := hk24_v38.trans hq24_v18
                have hq25_v38 : v38 25 = (v 25) := hk25_v38.trans hq25_v18
                have hq35_v38 : v38 35 = (v 35) := hk35_v38.trans hq35_v18
                have hq36_v38 : v38 36 = (v 36) := hk36_v38.trans hq36_v18
                have hq38_v38 : v38 38 = (v 38) := hk38_v38.trans hq38_v18
                have hq39_v38 : v38 39 = (v 39) := hk39_v38.trans hq39_v18
                rcases hw with ⟨g42⟩ | ⟨g42⟩
                · skip
                  subst g42
                  refine lv_if_eq (tgt := 60) hx hb dX11_will_53 (by decide) (fun c0 => absurd c0 (by decide)) (fun _ => ?_)
                  refine lv_iconst (v := 1) hx hb dX11_will_56 (by decide) ?_
                  refine lv_goto (tgt := 61) hx hb dX11_will_57 (by decide) ?_
                  refine cbVi (n := 1) (rest := []) hx hb hml hown hts hE hP hD hS hA (sY_X11_goDay_1 0 l dC dI cy y0 r 1 v38 f39 w40 g41 hIv38 hCf39 hRf39 ) k_1795 k_1797 k_79 k_114 k_1798 (by decide +kernel) ⟨Nat.le_of_ble_eq_true rfl, Nat.le_of_ble_eq_true rfl⟩ 0 11 rfl rfl (rfl) hl.1 rfl (Nat.le_of_ble_eq_true rfl) dX11_will_61 (fun r43 u H locs hw hP hD hS => ?_)
                  obtain ⟨hG44, hw⟩ := hw
                  obtain ⟨v45, f46, w47, g48⟩ := u
                  obtain ⟨kV_v45, kF_f46, hIv45, hCf46, hRf46, hk0_v45, hk1_v45, hk2_v45, hk3_v45, hk4_v45, hk5_v45, hk8_v45, hk9_v45, hk10_v45, hk13_v45, hk14_v45, hk15_v45, hk17_v45, hk18_v45, hk24_v45, hk25_v45, hk35_v45, hk36_v45, hk38_v45, hk39_v45⟩ := hw
                  have hM_v45 : KV [] v45 v := KV.tr kV_v45 hM_v38 rfl
                  have hA_f46 : KF [7, 8, 24] f46 f := KF.tr kF_f46 hA_f39 rfl
                  have hP : va_P (dC, dI) vwCl (YW cy y0 r v45 f46 w47 g48) H := hP
                  have hD : va_D A (YW cy y0 r v45 f46 w47 g48) := hD
                  have hUv45 : (v45 35).toInt + (v45 36).toInt ≤ 40 := hIv45.2
                  have hq0_v45 : v45 0 = (v 0) := hk0_v45.trans hq0_v38
                  have hq1_v45 : v45 1 = (v 1) := hk1_v45.trans hq1_v38
                  have hq2_v45 : v45 2 = (v 2) := hk2_v45.trans hq2_v38
                  have hq3_v45 : v45 3 = (v 3) := hk3_v45.trans hq3_v38
                  have hq4_v45 : v45 4 = (v 4) := hk4_v45.trans hq4_v38
                  have hq5_v45 : v45 5 = (v 5) := hk5_v45.trans hq5_v38
                  have hq8_v45 : v45 8 = (v 8) := hk8_v45.trans hq8_v38
                  have hq9_v45 : v45 9 = (v 9) := hk9_v45.trans hq9_v38
                  have zq9_v45 := congrArg Int32.toInt hq9_v45
                  have hq10_v45 : v45 10 = (v 10) := hk10_v45.trans hq10_v38
                  have hq13_v45 : v45 13 = (v 13) := hk13_v45.trans hq13_v38
                  have hq14_v45 : v45 14 = (v 14) := hk14_v45.trans hq14_v38
                  have hq15_v45 : v45 15 = (v 15) := hk15_v45.trans hq15_v38
                  have hq17_v45 : v45 17 = (v 17) := hk17_v45.trans hq17_v38
                  have hq18_v45 : v45 18 = (v 18) := hk18_v45.trans hq18_v38
                  have hq24_v45 : v45 24 = (v 24) := hk24_v45.trans hq24_v38
                  have hq25_v45 : v45 25 = (v 25) := hk25_v45.trans hq25_v38
                  have hq35_v45 : v45 35 = (v 35) := hk35_v45.trans hq35_v38
                  have hq36_v45 : v45 36 = (v 36) := hk36_v45.trans hq36_v38
                  have hq38_v45 : v45 38 = (v 38) := hk38_v45.trans hq38_v38
                  have hq39_v45 : v45 39 = (v 39) := hk39_v45.trans hq39_v38
                  refine lv_pop hx hb dX11_will_64 rfl ?_
                  obtain ⟨t49, et49⟩ : ∃ y : Int32, y = l4_18 + 1 := ⟨_, rfl⟩
                  have zt49 : t49.toInt = l4_18.toInt + 1 := by rw [et49]; exact add_i rfl (by decide) (by omega) (by omega)
                  refine lv_iinc (v := t49) (lv' := [(4, .int t49), (0, .ref y0), (1, .int p1), (2, .int p2), (3, .int p3)]) hx hb dX11_will_65 hl (k := 0) rfl (by rw [et49]; rfl) (by decide) rfl (fun ls hl => ?_)
                  refine lv_goto (tgt := 37) hx hb dX11_will_68 (by decide) ?_
                  have rg50 := fb_rng t49
                  exact ih18 t49 v45 f46 w47 g48 hIv45 hCf46 hRf46 hq0_v45 hq1_v45 hq2_v45 hq3_v45 hq4_v45 hq5_v45 hq8_v45 hq9_v45 hq10_v45 hq13_v45 hq14_v45 hq15_v45 hq17_v45 hq18_v45 hq24_v45 hq25_v45 hq35_v45 hq36_v45 hq38_v45 hq39_v45 ⟨show (0 : Int) ≤ t49.toInt by omega, show t49.toInt ≤ (2147483647 : Int) by omega⟩ hM_v45 hA_f46 (by show (2147483647 - t49.toInt).toNat < n18; omega) _ _ _ hP hD hS (lv_sub hl [0, 1, 2, 3, 4] rfl)
                · skip
                  subst g42
                  refine lv_if_eq (tgt := 60) hx hb dX11_will_53 (by decide) (fun _ => ?_) (fun c0 => absurd (by decide) c0)
                  refine lv_iconst (v := 0) hx hb dX11_will_60 (by decide) ?_
                  refine cbVi (n := 1) (rest := []) hx hb hml hown hts hE hP hD hS hA (sY_X11_goDay_1 0 l dC dI cy y0 r 0 v38 f39 w40 g41 hIv38 hCf39 hRf39 ) k_1795 k_1797 k_79 k_114 k_1798 (by decide +kernel) ⟨Nat.le_of_ble_eq_true rfl, Nat.le_of_ble_eq_true rfl⟩ 0 11 rfl rfl (rfl) hl.1 rfl (Nat.le_of_ble_eq_true rfl) dX11_will_61 (fun r51 u H locs hw hP hD hS => ?_)
                  obtain ⟨hG52, hw⟩ := hw
                  obtain ⟨v53, f54, w55, g56⟩ := u
                  obtain ⟨kV_v53, kF_f54, hIv53, hCf54, hRf54, hk0_v53, hk1_v53, hk2_v53, hk3_v53, hk4_v53, hk5_v53, hk8_v53, hk9_v53, hk10_v53, hk13_v53, hk14_v53, hk15_v53, hk17_v53, hk18_v53, hk24_v53, hk25_v53, hk35_v53, hk36_v53, hk38_v53, hk39_v53⟩ := hw
                  have hM_v53 : KV [] v53 v := KV.tr kV_v53 hM_v38 rfl
                  have hA_f54 : KF [7, 8, 24] f54 f := KF.tr kF_f54 hA_f39 rfl
                  have hP : va_P (dC, dI) vwCl (YW cy y0 r v53 f54 w55 g56) H := hP
                  have hD : va_D A (YW cy y0 r v53 f54 w55 g56) := hD
                  have hUv53 : (v53 35).toInt + (v53 36).toInt ≤ 40 := hIv53.2
                  have hq0_v53 : v53 0 = (v 0) := hk0_v53.trans hq0_v38
                  have hq1_v53 : v53 1 = (v 1) := hk1_v53.trans hq1_v38
                  have hq2_v53 : v53 2 = (v 2) := hk2_v53.trans hq2_v38
                  have hq3_v53 : v53 3 = (v 3) := hk3_v53.trans hq3_v38
                  have hq4_v53 : v53 4 = (v 4) := hk4_v53.trans hq4_v38
                  have hq5_v53 : v53 5 = (v 5) := hk5_v53.trans hq5_v38
                  have hq8_v53 : v53 8 = (v 8) := hk8_v53.trans hq8_v38
                  have hq9_v53 : v53 9 = (v 9) := hk9_v53.trans hq9_v38
                  have zq9_v53 := congrArg Int32.toInt hq9_v53
                  have hq10_v53 : v53 10 = (v 10) := hk10_v53.trans hq10_v38
                  have hq13_v53 : v53 13 = (v 13) := hk13_v53.trans hq13_v38
                  have hq14_v53 : v53 14 = (v 14) := hk14_v53.trans hq14_v38
                  have hq15_v53 : v53 15 = (v 15) := hk15_v53.trans hq15_v38
                  have hq17_v53 : v53 17 = (v 17) := hk17_v53.trans hq17_v38
                  have hq18_v53 : v53 18 = (v 18) := hk18_v53.trans hq18_v38
                  have hq24_v53 : v53 24 = (v 24) := hk24_v53.trans hq24_v38
                  have hq25_v53 : v53 25 = (v 25) := hk25_v53.trans hq25_v38
                  have hq35_v53 : v53 35 = (v 35) := hk35_v53.trans hq35_v38
                  have hq36_v53 : v53 36 = (v 36) := hk36_v53.trans hq36_v38
                  have hq38_v53 : v53 38 = (v 38) := hk38_v53.trans hq38_v38
                  have hq39_v53 : v53 39 = (v 39) := hk39_v53.trans hq39_v38
                  refine lv_pop hx hb dX11_will_64 rfl ?_
                  obtain ⟨t57, et57⟩ : ∃ y : Int32, y = l4_18 + 1 := ⟨_, rfl⟩
                  have zt57 : t57.toInt = l4_18.toInt + 1 := by rw [et57]; exact add_i rfl (by decide) (by omega) (by omega)
                  refine lv_iinc (v := t57) (lv' := [(4, .int t57), (0, .ref y0), (1, .int p1), (2, .int p2), (3, .int p3)]) hx hb dX11_will_65 hl (k := 0) rfl (by rw [et57]; rfl) (by decide) rfl (fun ls hl => ?_)
                  refine lv_goto (tgt := 37) hx hb dX11_will_68 (by decide) ?_
                  have rg58 := fb_rng t57
                  exact ih18 t57 v53 f54 w55 g56 hIv53 hCf54 hRf54 hq0_v53 hq1_v53 hq2_v53 hq3_v53 hq4_v53 hq5_v53 hq8_v53 hq9_v53 hq10_v53 hq13_v53 hq14_v53 hq15_v53 hq17_v53 hq18_v53 hq24_v53 hq25_v53 hq35_v53 hq36_v53 hq38_v53 hq39_v53 ⟨show (0 : Int) ≤ t57.toInt by omega, show t57.toInt ≤ (2147483647 : Int) by omega⟩ hM_v53 hA_f54 (by show (2147483647 - t57.toInt).toNat < n18; omega) _ _ _ hP hD hS (lv_sub hl [0, 1, 2, 3, 4] rfl)
        exact lp18 _ 0 v14 f15 w16 g17 hIv14 hCf15 hRf15 hq0_v14 hq1_v14 hq2_v14 hq3_v14 hq4_v14 hq5_v14 hq8_v14 hq9_v14 hq10_v14 hq13_v14 hq14_v14 hq15_v14 hq17_v14 hq18_v14 hq24_v14 hq25_v14 hq35_v14 hq36_v14 hq38_v14 hq39_v14 ⟨by decide, by decide⟩ hM_v14 hA_f15 (Nat.lt_succ_self _) _ _ _ hP hD hS (lv_sub hl [0, 1, 2, 3, 4] rfl)
      · skip
        subst g12
        refine lv_if_ne (tgt := 30) hx hb dX11_will_24 (by decide) (fun c0 => absurd (by decide) c0) (fun _ => ?_)
        refine lv_bipush (v := (-2)) hx hb dX11_will_27 (by decide) ?_
        exact ret (-2) (v, f, w, g) _ _ _ _ _ _ rfl ⟨hM_v, hA_f, hIv, hCf, hRf, rfl, rfl, rfl, rfl, rfl, rfl, rfl, rfl, rfl, rfl, rfl, rfl, rfl, rfl, rfl, rfl, rfl, rfl, rfl, rfl⟩ hP hD hS dX11_will_29 (Nat.le_refl _) (Nat.le_refl _)
    · skip
      subst g8
      refine lv_if_eq (tgt := 27) hx hb dX11_will_15 (by decide) (fun _ => ?_) (fun c0 => absurd (by decide) c0)
      refine lv_bipush (v := (-2)) hx hb dX11_will_27 (by decide) ?_
      exact ret (-2) (v, f, w, g) _ _ _ _ _ _ rfl ⟨hM_v, hA_f, hIv, hCf, hRf, rfl, rfl, rfl, rfl, rfl, rfl, rfl, rfl, rfl, rfl, rfl, rfl, rfl, rfl, rfl, rfl, rfl, rfl, rfl, rfl⟩ hP hD hS dX11_will_29 (Nat.le_refl _) (Nat.le_refl _)
  · skip
    subst g3
    refine lv_if_eq (tgt := 27) hx hb dX11_will_5 (by decide) (fun _ => ?_) (fun c0 => absurd (by decide) c0)
    refine lv_bipush (v := (-2)) hx hb dX11_will_27 (by decide) ?_
    exact ret (-2) (v, f, w, g) _ _ _ _ _ _ rfl ⟨hM_v, hA_f, hIv, hCf, hRf, rfl, rfl, rfl, rfl, rfl, rfl, rfl, rfl, rfl, rfl, rfl, rfl, rfl, rfl, rfl, rfl, rfl, rfl, rfl, rfl⟩ hP hD hS dX11_will_29 (Nat.le_refl _) (Nat.le_refl _)
set_option maxHeartbeats 4000000 in
set_option maxRecDepth 100000 in
theorem sY_X11_out_1 (l : Launch) (dC : Nat → ClassId) (dI : Nat → Nat → Nat) (cy : Nat → ClassId) (y0 : Nat) (r : Nat → Nat) (p1 : Int32) (v : Nat → Int32) (f : Nat → Nat → Int32) (w : Int64) (g : Nat → Int64) (hIv : YI v) (hCf : YC f) (hRf : progOK (f 4) (f 5) (v 9).toInt.toNat)  : ctI l (dC, dI) cy yX11_out cX11_out 3 .int 8 214 0 0 ((Nat → Int32) × (Nat → Nat → Int32) × (Int64) × (Nat → Int64)) [.ref y0, .int p1] (YW cy y0 r v f w g) (fun r u => KV [] u.1 v ∧ KF [7, 8, 24] u.2.1 f ∧ YI u.1 ∧ YC u.2.1 ∧ progOK (u.2.1 4) (u.2.1 5) (u.1 9).toInt.toNat ∧ u.1 0 = v 0 ∧ u.1 1 = v 1 ∧ u.1 2 = v 2 ∧ u.1 3 = v 3 ∧ u.1 4 = v 4 ∧ u.1 5 = v 5 ∧ u.1 8 = v 8 ∧ u.1 9 = v 9 ∧ u.1 10 = v 10 ∧ u.1 13 = v 13 ∧ u.1 14 = v 14 ∧ u.1 15 = v 15 ∧ u.1 17 = v 17 ∧ u.1 18 = v 18 ∧ u.1 24 = v 24 ∧ u.1 25 = v 25 ∧ u.1 35 = v 35 ∧ u.1 36 = v 36 ∧ u.1 38 = v 38 ∧ u.1 39 = v 39) (fun u => YW cy y0 r u.1 u.2.1 u.2.2.1 u.2.2.2) := by
  refine ctI_of (by decide) (Nat.le_of_ble_eq_true rfl) (fun p e s m below meth c A ls Q hx hb hml hts hown hE hP hD hA hl ret => ?_)
  have hUv : (v 35).toInt + (v 36).toInt ≤ 40 := hIv.2
  have hM_v : KV [] v v := fun _ _ => rfl
  have hA_f : KF [7, 8, 24] f f := fun _ _ => rfl
  have hown : s.vm.findClass RX11 = some m.cls := hown
  have hS : va_S A s.heap s.heap [] := va_S.rf
  have hl : lv_has ls 3 [(0, .ref y0), (1, .int p1)] := hl
  refine lv_aload_n hx hb dX11_out_0 rfl (lv_at hl 0 rfl) ?_
  refine lv_iload_n hx hb dX11_out_1 rfl (lv_at hl 1 rfl) ?_
  refine cbVi (n := 1) (rest := []) hx hb hml hown hts hE hP hD hS hA (sY_X11_isMan_1 0 l dC dI cy y0 r p1 v f w g hIv hCf hRf ) k_1732 k_1734 k_70 k_114 k_1735 (by decide +kernel) ⟨Nat.le_of_ble_eq_true rfl, Nat.le_of_ble_eq_true rfl⟩ 0 11 rfl rfl (rfl) hl.1 rfl (Nat.le_of_ble_eq_true rfl) dX11_out_2 (fun r1 u H locs hw hP hD hS => ?_)
  obtain ⟨hG2, hw⟩ := hw
  rcases hw with ⟨g3, g3_0, g3_1, g3_2⟩ | ⟨g3⟩
  · skip
    subst g3
    refine lv_if_ne (tgt := 10) hx hb dX11_out_5 (by decide) (fun _ => ?_) (fun c0 => absurd c0 (by decide))
    refine lv_aload_n hx hb dX11_out_10 rfl (lv_at hl 0 rfl) ?_
    refine cbVv (n := 0) (rest := []) hx hb hml hown hts hE hP hD hS hA (sY_X11_fill_1 0 l dC dI cy y0 r  v f w g hIv hCf hRf ) k_1739 k_1741 k_71 k_114 k_1742 (by decide +kernel) ⟨Nat.le_of_ble_eq_true rfl, Nat.le_of_ble_eq_true rfl⟩ 0 11 rfl rfl (rfl) hl.1 rfl (Nat.le_of_ble_eq_true rfl) dX11_out_11 (fun u H locs hw hP hD hS => ?_)
    obtain ⟨hG4, hw⟩ := hw
    obtain ⟨v5, f6, w7, g8⟩ := u
    obtain ⟨kV_v5, kF_f6, hIv5, hCf6, hRf6, hk0_v5, hk1_v5, hk2_v5, hk3_v5, hk4_v5, hk5_v5, hk8_v5, hk9_v5, hk10_v5, hk13_v5, hk14_v5, hk15_v5, hk17_v5, hk18_v5, hk24_v5, hk25_v5, hk35_v5, hk36_v5, hk38_v5, hk39_v5⟩ := hw
    have hM_v5 : KV [] v5 v := KV.tr kV_v5 hM_v rfl
    have hA_f6 : KF [7, 8, 24] f6 f := KF.tr kF_f6 hA_f rfl
    have hP : va_P (dC, dI) vwCl (YW cy y0 r v5 f6 w7 g8) H := hP
    have hD : va_D A (YW cy y0 r v5 f6 w7 g8) := hD
    have hUv5 : (v5 35).toInt + (v5 36).toInt ≤ 40 := hIv5.2
    have hq0_v5 : v5 0 = (v 0) := hk0_v5
    have hq1_v5 : v5 1 = (v 1) := hk1_v5
    have hq2_v5 : v5 2 = (v 2) := hk2_v5
    have hq3_v5 : v5 3 = (v 3) := hk3_v5
    have hq4_v5 : v5 4 = (v 4) := hk4_v5
    have hq5_v5 : v5 5 = (v 5) := hk5_v5
    have hq8_v5 : v5 8 = (v 8) := hk8_v5
    have hq9_v5 : v5 9 = (v 9) := hk9_v5
    have zq9_v5 := congrArg Int32.toInt hq9_v5
    have hq10_v5 : v5 10 = (v 10) := hk10_v5
    have hq13_v5 : v5 13 = (v 13) := hk13_v5
    have hq14_v5 : v5 14 = (v 14) := hk14_v5
    have hq15_v5 : v5 15 = (v 15) := hk15_v5
    have hq17_v5 : v5 17 = (v 17) := hk17_v5
    have hq18_v5 : v5 18 = (v 18) := hk18_v5
    have hq24_v5 : v5 24 = (v 24) := hk24_v5
    have hq25_v5 : v5 25 = (v 25) := hk25_v5
    have hq35_v5 : v5 35 = (v 35) := hk35_v5
    have hq36_v5 : v5 36 = (v 36) := hk36_v5
    have hq38_v5 : v5 38 = (v 38) := hk38_v5
    have hq39_v5 : v5 39 = (v 39) := hk39_v5
    refine lv_iconst (v := 0) hx hb dX11_out_14 (by decide) ?_
    refine lv_istore_n (lv' := [(2, .int 0), (0, .ref y0), (1, .int p1)]) hx hb dX11_out_15 rfl hl (by decide) rfl (fun ls hl => ?_)
    have lp9 : ∀ (n9 : Nat) (l2_9 : Int32) (v9 : Nat → Int32) (f9 : Nat → Nat → Int32) (w9 : Int64) (g9 : Nat → Int64), YI v9 → YC f9 → progOK (f9 4) (f9 5) (v9 9).toInt.toNat → v9 0 = (v 0) → v9 1 = (v 1) → v9 2 = (v 2) → v9 3 = (v 3) → v9 4 = (v 4) → v9 5 = (v 5) → v9 8 = (v 8) → v9 9 = (v 9) → v9 10 = (v 10) → v9 13 = (v 13) → v9 14 = (v 14) → v9 15 = (v 15) → v9 17 = (v 17) → v9 18 = (v 18) → v9 24 = (v 24) → v9 25 = (v 25) → v9 35 = (v 35) → v9 36 = (v 36) → v9 38 = (v 38) → v9 39 = (v 39) → ((0 : Int) ≤ l2_9.toInt ∧ l2_9.toInt ≤ 2147483647) → KV [] v9 v → KF [7, 8, 24] f9 f → (2147483647 - l2_9.toInt).toNat < n9 → ∀ (H : Heap) (locs : List Loc) (ls : Array Slot), va_P (dC, dI) vwCl (YW cy y0 r v9 f9 w9 g9) H → va_D A (YW cy y0 r v9 f9 w9 g9) → va_S A s.heap H locs → lv_has ls 3 [(2, .int l2_9), (0, .ref y0), (1, .int p1)] → W p l e { frames := 8, cells := 0, slots := 0, locals := 214 } s m ([.ref y0, .int p1] : List Value).toArray below meth c H locs 0 0 Q (F0 m 16 ls []) := by
      intro n9
      induction n9 with
      | zero => intro l2_9 v9 f9 w9 g9 hIv9 hCf9 hRf9 hq0_v9 hq1_v9 hq2_v9 hq3_v9 hq4_v9 hq5_v9 hq8_v9 hq9_v9 hq10_v9 hq13_v9 hq14_v9 hq15_v9 hq17_v9 hq18_v9 hq24_v9 hq25_v9 hq35_v9 hq36_v9 hq38_v9 hq39_v9 hr2_9 hM_v9 hA_f9 hm; exact absurd hm (Nat.not_lt_zero _)
      | succ n9 ih9 =>
        intro l2_9 v9 f9 w9 g9 hIv9 hCf9 hRf9 hq0_v9 hq1_v9 hq2_v9 hq3_v9 hq4_v9 hq5_v9 hq8_v9 hq9_v9 hq10_v9 hq13_v9 hq14_v9 hq15_v9 hq17_v9 hq18_v9 hq24_v9 hq25_v9 hq35_v9 hq36_v9 hq38_v9 hq39_v9 hr2_9 hM_v9 hA_f9 hm9 H locs ls hP hD hS hl
        have hUv9 : (v9 35).toInt + (v9 36).toInt ≤ 40 := hIv9.2
        have zq9_v9 := congrArg Int32.toInt hq9_v9
        refine lv_iload_n hx hb dX11_out_16 rfl (lv_at hl 0 rfl) ?_
        refine lv_bipush (v := 60) hx hb dX11_out_17 (by decide) ?_
        refine lv_icmp_gt (tgt := 48) hx hb dX11_out_19 (by decide) (fun c10 => ?_) (fun c10 => ?_)
        · skip
          have zc10 : 60 < l2_9.toInt := by rw [fa_lt, show (60 : Int32).toInt = 60 from by decide] at c10; exact c10
          refine lv_iconst (v := (-1)) hx hb dX11_out_48 (by decide) ?_
          exact ret (-1) (v9, f9, w9, g9) _ _ _ _ _ _ rfl ⟨hM_v9, hA_f9, hIv9, hCf9, hRf9, hq0_v9, hq1_v9, hq2_v9, hq3_v9, hq4_v9, hq5_v9, hq8_v9, hq9_v9, hq10_v9, hq13_v9, hq14_v9, hq15_v9, hq17_v9, hq18_v9, hq24_v9, hq25_v9, hq35_v9, hq36_v9, hq38_v9, hq39_v9⟩ hP hD hS dX11_out_49 (Nat.le_refl _) (Nat.le_refl _)
        · skip
          have zc10 : ¬ (60 < l2_9.toInt) := by rw [fa_lt, show (60 : Int32).toInt = 60 from by decide] at c10; exact c10
          refine lv_aload_n hx hb dX11_out_22 rfl (lv_at hl 1 rfl) ?_
          refine va_get (D := (dC, dI)) (ci := 11) (v := .ref (r 60)) (C := RX11) (T := TX11) (N := 79) hx hb hts inB_11 hown hE.1 hP 0 rfl rfl 60 (by decide) (hts _ k_1380) (fun _ h9 => h9) rfl dX11_out_23 ?_
          refine lv_bipush (v := 6) hx hb dX11_out_26 (by decide) ?_
          refine lv_iload_n hx hb dX11_out_28 rfl (lv_at hl 2 rfl) ?_
          refine lv_iadd hx hb dX11_out_29 ?_
          refine lv_topi (fun t11 et11 => ?_)
          have rg12 := fb_rng p1
          have zt11 : t11.toInt = 6 + p1.toInt := by rw [et11]; exact add_i (by decide) rfl (by omega) (by omega)
          refine ldI hx hb hE hP 25 rfl (vp_in_iff.mpr ⟨by omega, by omega⟩) rfl rfl dX11_out_30 ?_
          refine lv_topi (fun t13 et13 => ?_)
          have zt13 : t11.toInt.toNat % 39 < 6 ∨ 12 ≤ t11.toInt.toNat % 39 ∨ (-1 ≤ t13.toInt ∧ t13.toInt ≤ 5) := by rw [et13]; exact wear_ld hCf9.2.1 (show t11.toInt.toNat < 39 by omega)
          refine lv_if_ge (tgt := 36) hx hb dX11_out_31 (by decide) (fun c14 => ?_) (fun c14 => ?_)
          · skip
            have zc14 : 0 ≤ t13.toInt := by rw [fa_le, show (0 : Int32).toInt = 0 from by decide] at c14; exact c14
            refine lv_aload_n hx hb dX11_out_36 rfl (lv_at hl 1 rfl) ?_
            refine lv_iconst (v := 0) hx hb dX11_out_37 (by decide) ?_
            refine cbVi (n := 1) (rest := []) hx hb hml hown hts hE hP hD hS hA (sY_X11_goDay_1 0 l dC dI cy y0 r 0 v9 f9 w9 g9 hIv9 hCf9 hRf9 ) k_1795 k_1797 k_79 k_114 k_1798 (by decide +kernel) ⟨Nat.le_of_ble_eq_true rfl, Nat.le_of_ble_eq_true rfl⟩ 0 11 rfl rfl (rfl) hl.1 rfl (Nat.le_of_ble_eq_true rfl) dX11_out_38 (fun r15 u H locs hw hP hD hS => ?_)
            obtain ⟨hG16, hw⟩ := hw
            obtain ⟨v17, f18, w19, g20⟩ := u
            obtain ⟨kV_v17, kF_f18, hIv17, hCf18, hRf18, hk0_v17, hk1_v17, hk2_v17, hk3_v17, hk4_v17, hk5_v17, hk8_v17, hk9_v17, hk10_v17, hk13_v17, hk14_v17, hk15_v17, hk17_v17, hk18_v17, hk24_v17, hk25_v17, hk35_v17, hk36_v17, hk38_v17, hk39_v17⟩ := hw
            have hM_v17 : KV [] v17 v := KV.tr kV_v17 hM_v9 rfl
            have hA_f18 : KF [7, 8, 24] f18 f := KF.tr kF_f18 hA_f9 rfl
            have hP : va_P (dC, dI) vwCl (YW cy y0 r v17 f18 w19 g20) H := hP
            have hD : va_D A (YW cy y0 r v17 f18 w19 g20) := hD
            have hUv17 : (v17 35).toInt + (v17 36).toInt ≤ 40 := hIv17.2
            have hq0_v17 : v17 0 = (v 0) := hk0_v17.trans hq0_v9
            have hq1_v17 : v17 1 = (v 1) := hk1_v17.trans hq1_v9
            have hq2_v17 : v17 2 = (v 2) := hk2_v17.trans hq2_v9
            have hq3_v17 : v17 3 = (v 3) := hk3_v17.trans hq3_v9
            have hq4_v17 : v17 4 = (v 4) := hk4_v17.trans hq4_v9
            have hq5_v17 : v17 5 = (v 5) := hk5_v17.trans hq5_v9
            have hq8_v17 : v17 8 = (v 8) := hk8_v17.trans hq8_v9
            have hq9_v17 : v17 9 = (v 9) := hk9_v17.trans hq9_v9
            have zq9_v17 := congrArg Int32.toInt hq9_v17
            have hq10_v17 : v17 10 = (v 10) := hk10_v17.trans hq10_v9
            have hq13_v17 : v17 13 = (v 13) := hk13_v17.trans hq13_v9
            have hq14_v17 : v17 14 = (v 14) := hk14_v17.trans hq14_v9
            have hq15_v17 : v17 15 = (v 15) := hk15_v17.trans hq15_v9
            have hq17_v17 : v17 17 = (v 17) := hk17_v17.trans hq17_v9
            have hq18_v17 : v17 18 = (v 18) := hk18_v17.trans hq18_v9
            have hq24_v17 : v17 24 = (v 24) := hk24_v17.trans hq24_v9
            have hq25_v17 : v17 25 = (v 25) := hk25_v17.trans hq25_v9
            have hq35_v17 : v17 35 = (v 35) := hk35_v17.trans hq35_v9
            have hq36_v17 : v17 36 = (v 36) := hk36_v17.trans hq36_v9
            have hq38_v17 : v17 38 = (v 38) := hk38_v17.trans hq38_v9
            have hq39_v17 : v17 39 = (v 39) := hk39_v17.trans hq39_v9
            refine lv_pop hx hb dX11_out_41 rfl ?_
            obtain ⟨t21, et21⟩ : ∃ y : Int32, y = l2_9 + 1 := ⟨_, rfl⟩
            have rg22 := fb_rng l2_9
            have zt21 : t21.toInt = l2_9.toInt + 1 := by rw [et21]; exact add_i rfl (by decide) (by omega) (by omega)
            refine lv_iinc (v := t21) (lv' := [(2, .int t21), (0, .ref y0), (1, .int p1)]) hx hb dX11_out_42 hl (k := 0) rfl (by rw [et21]; rfl) (by decide) rfl (fun ls hl => ?_)
            refine lv_goto (tgt := 16) hx hb dX11_out_45 (by decide) ?_
            have rg23 := fb_rng t21
            exact ih9 t21 v17 f18 w19 g20 hIv17 hCf18 hRf18 hq0_v17 hq1_v17 hq2_v17 hq3_v17 hq4_v17 hq5_v17 hq8_v17 hq9_v17 hq10_v17 hq13_v17 hq14_v17 hq15_v17 hq17_v17 hq18_v17 hq24_v17 hq25_v17 hq35_v17 hq36_v17 hq38_v17 hq39_v17 ⟨show (0 : Int) ≤ t21.toInt by omega, show t21.toInt ≤ (2147483647 : Int) by omega⟩ hM_v17 hA_f18 (by show (2147483647 - t21.toInt).toNat < n9; omega) _ _ _ hP hD hS (lv_sub hl [0, 1, 2] rfl)
          · skip
            have zc14 : ¬ (0 ≤ t13.toInt) := by rw [fa_le, show (0 : Int32).toInt = 0 from by decide] at c14; exact c14
            refine lv_iload_n hx hb dX11_out_34 rfl (lv_at hl 0 rfl) ?_
            exact ret l2_9 (v9, f9, w9, g9) _ _ _ _ _ _ rfl ⟨hM_v9, hA_f9, hIv9, hCf9, hRf9, hq0_v9, hq1_v9, hq2_v9, hq3_v9, hq4_v9, hq5_v9, hq8_v9, hq9_v9, hq10_v9, hq13_v9, hq14_v9, hq15_v9, hq17_v9, hq18_v9, hq24_v9, hq25_v9, hq35_v9, hq36_v9, hq38_v9, hq39_v9⟩ hP hD hS dX11_out_35 (Nat.le_refl _) (Nat.le_refl _)
    exact lp9 _ 0 v5 f6 w7 g8 hIv5 hCf6 hRf6 hq0_v5 hq1_v5 hq2_v5 hq3_v5 hq4_v5 hq5_v5 hq8_v5 hq9_v5 hq10_v5 hq13_v5 hq14_v5 hq15_v5 hq17_v5 hq18_v5 hq24_v5 hq25_v5 hq35_v5 hq36_v5 hq38_v5 hq39_v5 ⟨by decide, by decide⟩ hM_v5 hA_f6 (Nat.lt_succ_self _) _ _ _ hP hD hS (lv_sub hl [0, 1, 2] rfl)
  · skip
    subst g3
    refine lv_if_ne (tgt := 10) hx hb dX11_out_5 (by decide) (fun c0 => absurd (by decide) c0) (fun _ => ?_)
    refine lv_iconst (v := (-1)) hx hb dX11_out_8 (by decide) ?_
    exact ret (-1) (v, f, w, g) _ _ _ _ _ _ rfl ⟨hM_v, hA_f, hIv, hCf, hRf, rfl, rfl, rfl, rfl, rfl, rfl, rfl, rfl, rfl, rfl, rfl, rfl, rfl, rfl, rfl, rfl, rfl, rfl, rfl, rfl⟩ hP hD hS dX11_out_9 (Nat.le_refl _) (Nat.le_refl _)
set_option maxHeartbeats 4000000 in
set_option maxRecDepth 100000 in
theorem sY_X11_fitted_1 (l : Launch) (dC : Nat → ClassId) (dI : Nat → Nat → Nat) (cy : Nat → ClassId) (y0 : Nat) (r : Nat → Nat)  (v : Nat → Int32) (f : Nat → Nat → Int32) (w : Int64) (g : Nat → Int64) (hIv : YI v) (hCf : YC f) (hRf : progOK (f 4) (f 5) (v 9).toInt.toNat)  : ctI l (dC, dI) cy yX11_fitted cX11_fitted 1 .int 7 191 0 0 ((Nat → Int32) × (Nat → Nat → Int32) × (Int64) × (Nat → Int64)) [.ref y0] (YW cy y0 r v f w g) (fun r u => KV [] u.1 v ∧ KF [7, 8, 24] u.2.1 f ∧ YI u.1 ∧ YC u.2.1 ∧ progOK (u.2.1 4) (u.2.1 5) (u.1 9).toInt.toNat ∧ u.1 0 = v 0 ∧ u.1 1 = v 1 ∧ u.1 2 = v 2 ∧ u.1 3 = v 3 ∧ u.1 4 = v 4 ∧ u.1 5 = v 5 ∧ u.1 8 = v 8 ∧ u.1 9 = v 9 ∧ u.1 10 = v 10 ∧ u.1 13 = v 13 ∧ u.1 14 = v 14 ∧ u.1 15 = v 15 ∧ u.1 17 = v 17 ∧ u.1 18 = v 18 ∧ u.1 24 = v 24 ∧ u.1 25 = v 25 ∧ u.1 35 = v 35 ∧ u.1 36 = v 36 ∧ u.1 38 = v 38 ∧ u.1 39 = v 39) (fun u => YW cy y0 r u.1 u.2.1 u.2.2.1 u.2.2.2) := by
  refine ctI_of (by decide) (Nat.le_of_ble_eq_true rfl) (fun p e s m below meth c A ls Q hx hb hml hts hown hE hP hD hA hl ret => ?_)
  have hUv : (v 35).toInt + (v 36).toInt ≤ 40 := hIv.2
  have hM_v : KV [] v v := fun _ _ => rfl
  have hA_f : KF [7, 8, 24] f f := fun _ _ => rfl
  have hown : s.vm.findClass RX11 = some m.cls := hown
  have hS : va_S A s.heap s.heap [] := va_S.rf
  have hl : lv_has ls 1 [(0, .ref y0)] := hl
  refine lv_aload_n hx hb dX11_fitted_0 rfl (lv_at hl 0 rfl) ?_
  refine cbVv (n := 0) (rest := []) hx hb hml hown hts hE hP hD hS hA (sY_X11_fill_1 0 l dC dI cy y0 r  v f w g hIv hCf hRf ) k_1739 k_1741 k_71 k_114 k_1742 (by decide +kernel) ⟨Nat.le_of_ble_eq_true rfl, Nat.le_of_ble_eq_true rfl⟩ 0 11 rfl rfl (rfl) hl.1 rfl (Nat.le_of_ble_eq_true rfl) dX11_fitted_1 (fun u H locs hw hP hD hS => ?_)
  obtain ⟨hG1, hw⟩ := hw
  obtain ⟨v2, f3, w4, g5⟩ := u
  obtain ⟨kV_v2, kF_f3, hIv2, hCf3, hRf3, hk0_v2, hk1_v2, hk2_v2, hk3_v2, hk4_v2, hk5_v2, hk8_v2, hk9_v2, hk10_v2, hk13_v2, hk14_v2, hk15_v2, hk17_v2, hk18_v2, hk24_v2, hk25_v2, hk35_v2, hk36_v2, hk38_v2, hk39_v2⟩ := hw
  have hM_v2 : KV [] v2 v := KV.tr kV_v2 hM_v rfl
  have hA_f3 : KF [7, 8, 24] f3 f := KF.tr kF_f3 hA_f rfl
  have hP : va_P (dC, dI) vwCl (YW cy y0 r v2 f3 w4 g5) H := hP
  have hD : va_D A (YW cy y0 r v2 f3 w4 g5) := hD
  have hUv2 : (v2 35).toInt + (v2 36).toInt ≤ 40 := hIv2.2
  have hq9_v2 : v2 9 = (v 9) := hk9_v2
  have zq9_v2 := congrArg Int32.toInt hq9_v2
  refine lv_aload_n hx hb dX11_fitted_4 rfl (lv_at hl 0 rfl) ?_
  refine cbVi (n := 0) (rest := []) hx hb hml hown hts hE hP hD hS hA (sY_X11_fittedOnes_1 0 l dC dI cy y0 r  v2 f3 w4 g5 hIv2 hCf3 hRf3 ) k_1809 k_1811 k_81 k_114 k_1812 (by decide +kernel) ⟨Nat.le_of_ble_eq_true rfl, Nat.le_of_ble_eq_true rfl⟩ 0 11 rfl rfl (rfl) hl.1 rfl (Nat.le_of_ble_eq_true rfl) dX11_fitted_5 (fun r6 u H locs hw hP hD hS => ?_)
  obtain ⟨hG7, hw⟩ := hw
  obtain ⟨v8, f9, w10, g11⟩ := u
  obtain ⟨kV_v8, kF_f9, hIv8, hCf9, hRf9, hk0_v8, hk1_v8, hk2_v8, hk3_v8, hk4_v8, hk5_v8, hk8_v8, hk9_v8, hk10_v8, hk13_v8, hk14_v8, hk15_v8, hk17_v8, hk18_v8, hk24_v8, hk25_v8, hk35_v8, hk36_v8, hk38_v8, hk39_v8⟩ := hw
  have hM_v8 : KV [] v8 v := KV.tr kV_v8 hM_v2 rfl
  have hA_f9 : KF [7, 8, 24] f9 f := KF.tr kF_f9 hA_f3 rfl
  have hP : va_P (dC, dI) vwCl (YW cy y0 r v8 f9 w10 g11) H := hP
  have hD : va_D A (YW cy y0 r v8 f9 w10 g11) := hD
  have hUv8 : (v8 35).toInt + (v8 36).toInt ≤ 40 := hIv8.2
  have hq9_v8 : v8 9 = (v 9) := hk9_v8.trans hq9_v2
  have zq9_v8 := congrArg Int32.toInt hq9_v8
  exact ret r6 (v8, f9, w10, g11) _ _ _ _ _ _ rfl ⟨hM_v8, hA_f9, hIv8, hCf9, hRf9, (hk0_v8.trans hk0_v2), (hk1_v8.trans hk1_v2), (hk2_v8.trans hk2_v2), (hk3_v8.trans hk3_v2), (hk4_v8.trans hk4_v2), (hk5_v8.trans hk5_v2), (hk8_v8.trans hk8_v2), (hk9_v8.trans hk9_v2), (hk10_v8.trans hk10_v2), (hk13_v8.trans hk13_v2), (hk14_v8.trans hk14_v2), (hk15_v8.trans hk15_v2), (hk17_v8.trans hk17_v2), (hk18_v8.trans hk18_v2), (hk24_v8.trans hk24_v2), (hk25_v8.trans hk25_v2), (hk35_v8.trans hk35_v2), (hk36_v8.trans hk36_v2), (hk38_v8.trans hk38_v2), (hk39_v8.trans hk39_v2)⟩ hP hD hS dX11_fitted_8 (Nat.le_refl _) (Nat.le_refl _)
set_option maxHeartbeats 4000000 in
set_option maxRecDepth 100000 in
theorem sY_X11_layIlls_1 (l : Launch) (dC : Nat → ClassId) (dI : Nat → Nat → Nat) (cy : Nat → ClassId) (y0 : Nat) (r : Nat → Nat)  (v : Nat → Int32) (f : Nat → Nat → Int32) (w : Int64) (g : Nat → Int64) (hIv : YI v) (hCf : YC f) (hRf : progOK (f 4) (f 5) (v 9).toInt.toNat)  : ctV l (dC, dI) cy yX11_layIlls cX11_layIlls 3 4 126 0 0 ((Nat → Int32) × (Nat → Nat → Int32) × (Int64) × (Nat → Int64)) [.ref y0] (YW cy y0 r v f w g) (fun u => KV [] u.1 v ∧ KF [7, 8, 24, 28] u.2.1 f ∧ YI u.1 ∧ YC u.2.1 ∧ progOK (u.2.1 4) (u.2.1 5) (u.1 9).toInt.toNat ∧ u.1 0 = v 0 ∧ u.1 1 = v 1 ∧ u.1 2 = v 2 ∧ u.1 3 = v 3 ∧ u.1 4 = v 4 ∧ u.1 5 = v 5 ∧ u.1 8 = v 8 ∧ u.1 9 = v 9 ∧ u.1 10 = v 10 ∧ u.1 13 = v 13 ∧ u.1 14 = v 14 ∧ u.1 15 = v 15 ∧ u.1 17 = v 17 ∧ u.1 18 = v 18 ∧ u.1 24 = v 24 ∧ u.1 25 = v 25 ∧ u.1 35 = v 35 ∧ u.1 36 = v 36 ∧ u.1 38 = v 38 ∧ u.1 39 = v 39) (fun u => YW cy y0 r u.1 u.2.1 u.2.2.1 u.2.2.2) := by
  refine ctV_of (by decide) (Nat.le_of_ble_eq_true rfl) (fun p e s m below meth c A ls Q hx hb hml hts hown hnm hE hP hD hA hl ret => ?_)
  have hUv : (v 35).toInt + (v 36).toInt ≤ 40 := hIv.2
  have hM_v : KV [] v v := fun _ _ => rfl
  have hA_f : KF [7, 8, 24, 28] f f := fun _ _ => rfl
  have hown : s.vm.findClass RX11 = some m.cls := hown
  have hS : va_S A s.heap s.heap [] := va_S.rf
  have hl : lv_has ls 3 [(0, .ref y0)] := hl
  refine lv_aload_n hx hb dX11_layIlls_0 rfl (lv_at hl 0 rfl) ?_
  refine cbVv (n := 0) (rest := []) hx hb hml hown hts hE hP hD hS hA (sY_X11_fill_1 0 l dC dI cy y0 r  v f w g hIv hCf hRf ) k_1739 k_1741 k_71 k_114 k_1742 (by decide +kernel) ⟨Nat.le_of_ble_eq_true rfl, Nat.le_of_ble_eq_true rfl⟩ 0 11 rfl rfl (rfl) hl.1 rfl (Nat.le_of_ble_eq_true rfl) dX11_layIlls_1 (fun u H locs hw hP hD hS => ?_)
  obtain ⟨hG1, hw⟩ := hw
  obtain ⟨v2, f3, w4, g5⟩ := u
  obtain ⟨kV_v2, kF_f3, hIv2, hCf3, hRf3, hk0_v2, hk1_v2, hk2_v2, hk3_v2, hk4_v2, hk5_v2, hk8_v2, hk9_v2, hk10_v2, hk13_v2, hk14_v2, hk15_v2, hk17_v2, hk18_v2, hk24_v2, hk25_v2, hk35_v2, hk36_v2, hk38_v2, hk39_v2⟩ := hw
  have hM_v2 : KV [] v2 v := KV.tr kV_v2 hM_v rfl
  have hA_f3 : KF [7, 8, 24, 28] f3 f := KF.tr kF_f3 hA_f rfl
  have hP : va_P (dC, dI) vwCl (YW cy y0 r v2 f3 w4 g5) H := hP
  have hD : va_D A (YW cy y0 r v2 f3 w4 g5) := hD
  have hUv2 : (v2 35).toInt + (v2 36).toInt ≤ 40 := hIv2.2
  have hq0_v2 : v2 0 = (v 0) := hk0_v2
  have hq1_v2 : v2 1 = (v 1) := hk1_v2
  have hq2_v2 : v2 2 = (v 2) := hk2_v2
  have hq3_v2 : v2 3 = (v 3) := hk3_v2
  have hq4_v2 : v2 4 = (v 4) := hk4_v2
  have hq5_v2 : v2 5 = (v 5) := hk5_v2
  have hq8_v2 : v2 8 = (v 8) := hk8_v2
  have hq9_v2 : v2 9 = (v 9) := hk9_v2
  have zq9_v2 := congrArg Int32.toInt hq9_v2
  have hq10_v2 : v2 10 = (v 10) := hk10_v2
  have hq13_v2 : v2 13 = (v 13) := hk13_v2
  have hq14_v2 : v2 14 = (v 14) := hk14_v2
  have hq15_v2 : v2 15 = (v 15) := hk15_v2
  have hq17_v2 : v2 17 = (v 17) := hk17_v2
  have hq18_v2 : v2 18 = (v 18) := hk18_v2
  have hq24_v2 : v2 24 = (v 24) := hk24_v2
  have hq25_v2 : v2 25 = (v 25) := hk25_v2
  have hq35_v2 : v2 35 = (v 35) := hk35_v2
  have hq36_v2 : v2 36 = (v 36) := hk36_v2
  have hq38_v2 : v2 38 = (v 38) := hk38_v2
  have hq39_v2 : v2 39 = (v 39) := hk39_v2
  refine lv_iconst (v := 0) hx hb dX11_layIlls_4 (by decide) ?_
  refine lv_istore_n (lv' := [(1, .int 0), (0, .ref y0)]) hx hb dX11_layIlls_5 rfl hl (by decide) rfl (fun ls hl => ?_)
  have lp6 : ∀ (n6 : Nat) (l1_6 : Int32) (v6 : Nat → Int32) (f6 : Nat → Nat → Int32) (w6 : Int64) (g6 : Nat → Int64), YI v6 → YC f6 → progOK (f6 4) (f6 5) (v6 9).toInt.toNat → v6 0 = (v 0) → v6 1 = (v 1) → v6 2 = (v 2) → v6 3 = (v 3) → v6 4 = (v 4) → v6 5 = (v 5) → v6 8 = (v 8) → v6 9 = (v 9) → v6 10 = (v 10) → v6 13 = (v 13) → v6 14 = (v 14) → v6 15 = (v 15) → v6 17 = (v 17) → v6 18 = (v 18) → v6 24 = (v 24) → v6 25 = (v 25) → v6 35 = (v 35) → v6 36 = (v 36) → v6 38 = (v 38) → v6 39 = (v 39) → ((0 : Int) ≤ l1_6.toInt ∧ l1_6.toInt ≤ 2147483647) → KV [] v6 v → KF [7, 8, 24, 28] f6 f → (2147483647 - l1_6.toInt).toNat < n6 → ∀ (H : Heap) (locs : List Loc) (ls : Array Slot), va_P (dC, dI) vwCl (YW cy y0 r v6 f6 w6 g6) H → va_D A (YW cy y0 r v6 f6 w6 g6) → va_S A s.heap H locs → lv_has ls 3 [(1, .int l1_6), (0, .ref y0)] → W p l e { frames := 4, cells := 0, slots := 0, locals := 126 } s m ([.ref y0] : List Value).toArray below meth c H locs 0 0 Q (F0 m 6 ls []) := by
    intro n6
    induction n6 with
    | zero => intro l1_6 v6 f6 w6 g6 hIv6 hCf6 hRf6 hq0_v6 hq1_v6 hq2_v6 hq3_v6 hq4_v6 hq5_v6 hq8_v6 hq9_v6 hq10_v6 hq13_v6 hq14_v6 hq15_v6 hq17_v6 hq18_v6 hq24_v6 hq25_v6 hq35_v6 hq36_v6 hq38_v6 hq39_v6 hr1_6 hM_v6 hA_f6 hm; exact absurd hm (Nat.not_lt_zero _)
    | succ n6 ih6 =>
      intro l1_6 v6 f6 w6 g6 hIv6 hCf6 hRf6 hq0_v6 hq1_v6 hq2_v6 hq3_v6 hq4_v6 hq5_v6 hq8_v6 hq9_v6 hq10_v6 hq13_v6 hq14_v6 hq15_v6 hq17_v6 hq18_v6 hq24_v6 hq25_v6 hq35_v6 hq36_v6 hq38_v6 hq39_v6 hr1_6 hM_v6 hA_f6 hm6 H locs ls hP hD hS hl
      have hUv6 : (v6 35).toInt + (v6 36).toInt ≤ 40 := hIv6.2
      have zq9_v6 := congrArg Int32.toInt hq9_v6
      refine lv_iload_n hx hb dX11_layIlls_6 rfl (lv_at hl 0 rfl) ?_
      refine lv_aload_n hx hb dX11_layIlls_7 rfl (lv_at hl 1 rfl) ?_
      refine va_get (D := (dC, dI)) (ci := 11) (v := .int (v6 24)) (C := RX11) (T := TX11) (N := 79) hx hb hts inB_11 hown hE.1 hP 0 rfl rfl 48 (by decide) (hts _ k_1368) (fun _ h9 => h9) rfl dX11_layIlls_8 ?_
      refine tI (y := (v 24)) hq24_v6 ?_
      have b24_v : 0 ≤ (v 24).toInt ∧ (v 24).toInt ≤ 6 := YIb.b hIv.1 24 (by decide)
      refine lv_icmp_ge (tgt := 53) hx hb dX11_layIlls_11 (by decide) (fun c7 => ?_) (fun c7 => ?_)
      · skip
        have zc7 : (v 24).toInt ≤ l1_6.toInt := by rw [fa_le] at c7; exact c7
        have rg8 := fb_rng l1_6
        have rg9 := fb_rng (v 24)
        exact ret (v6, f6, w6, g6) _ _ _ _ _ _ ⟨hM_v6, hA_f6, hIv6, hCf6, hRf6, hq0_v6, hq1_v6, hq2_v6, hq3_v6, hq4_v6, hq5_v6, hq8_v6, hq9_v6, hq10_v6, hq13_v6, hq14_v6, hq15_v6, hq17_v6, hq18_v6, hq24_v6, hq25_v6, hq35_v6, hq36_v6, hq38_v6, hq39_v6⟩ hP hD hS dX11_layIlls_53 (Nat.le_refl _) (Nat.le_refl _)
      · skip
        have zc7 : ¬ ((v 24).toInt ≤ l1_6.toInt) := by rw [fa_le] at c7; exact c7
        have rg10 := fb_rng l1_6
        have rg11 := fb_rng (v 24)
        refine lv_iconst (v := 0) hx hb dX11_layIlls_14 (by decide) ?_
        refine lv_istore_n (lv' := [(2, .int 0), (1, .int l1_6), (0, .ref y0)]) hx hb dX11_layIlls_15 rfl hl (by decide) rfl (fun ls hl => ?_)
        have lp12 : ∀ (n12 : Nat) (l2_12 : Int32) (v12 : Nat → Int32) (f12 : Nat → Nat → Int32) (w12 : Int64) (g12 : Nat → Int64), YI v12 → YC f12 → progOK (f12 4) (f12 5) (v12 9).toInt.toNat → v12 0 = (v 0) → v12 1 = (v 1) → v12 2 = (v 2) → v12 3 = (v 3) → v12 4 = (v 4) → v12 5 = (v 5) → v12 8 = (v 8) → v12 9 = (v 9) → v12 10 = (v 10) → v12 13 = (v 13) → v12 14 = (v 14) → v12 15 = (v 15) → v12 17 = (v 17) → v12 18 = (v 18) → v12 24 = (v 24) → v12 25 = (v 25) → v12 35 = (v 35) → v12 36 = (v 36) → v12 38 = (v 38) → v12 39 = (v 39) → ((0 : Int) ≤ l2_12.toInt ∧ l2_12.toInt ≤ 2147483647) → KV [] v12 v → KF [7, 8, 24, 28] f12 f → (2147483647 - l2_12.toInt).toNat < n12 → ∀ (H : Heap) (locs : List Loc) (ls : Array Slot), va_P (dC, dI) vwCl (YW cy y0 r v12 f12 w12 g12) H → va_D A (YW cy y0 r v12 f12 w12 g12) → va_S A s.heap H locs → lv_has ls 3 [(2, .int l2_12), (1, .int l1_6), (0, .ref y0)] → W p l e { frames := 4, cells := 0, slots := 0, locals := 126 } s m ([.ref y0] : List Value).toArray below meth c H locs 0 0 Q (F0 m 16 ls []) := by
          intro n12
          induction n12 with
          | zero => intro l2_12 v12 f12 w12 g12 hIv12 hCf12 hRf12 hq0_v12 hq1_v12 hq2_v12 hq3_v12 hq4_v12 hq5_v12 hq8_v12 hq9_v12 hq10_v12 hq13_v12 hq14_v12 hq15_v12 hq17_v12 hq18_v12 hq24_v12 hq25_v12 hq35_v12 hq36_v12 hq38_v12 hq39_v12 hr2_12 hM_v12 hA_f12 hm; exact absurd hm (Nat.not_lt_zero _)
          | succ n12 ih12 =>
            intro l2_12 v12 f12 w12 g12 hIv12 hCf12 hRf12 hq0_v12 hq1_v12 hq2_v12 hq3_v12 hq4_v12 hq5_v12 hq8_v12 hq9_v12 hq10_v12 hq13_v12 hq14_v12 hq15_v12 hq17_v12 hq18_v12 hq24_v12 hq25_v12 hq35_v12 hq36_v12 hq38_v12 hq39_v12 hr2_12 hM_v12 hA_f12 hm12 H locs ls hP hD hS hl
            have hUv12 : (v12 35).toInt + (v12 36).toInt ≤ 40 := hIv12.2
            have zq9_v12 := congrArg Int32.toInt hq9_v12
            refine lv_iload_n hx hb dX11_layIlls_16 rfl (lv_at hl 0 rfl) ?_
            refine lv_aload_n hx hb dX11_layIlls_17 rfl (lv_at hl 2 rfl) ?_
            refine va_get (D := (dC, dI)) (ci := 11) (v := .int (v12 25)) (C := RX11) (T := TX11) (N := 79) hx hb hts inB_11 hown hE.1 hP 0 rfl rfl 49 (by decide) (hts _ k_1369) (fun _ h9 => h9) rfl dX11_layIlls_18 ?_
            refine tI (y := (v 25)) hq25_v12 ?_
            have b25_v : 0 ≤ (v 25).toInt ∧ (v 25).toInt ≤ 6 := YIb.b hIv.1 25 (by decide)
            refine lv_icmp_ge (tgt := 47) hx hb dX11_layIlls_21 (by decide) (fun c13 => ?_) (fun c13 => ?_)
            · skip
              have zc13 : (v 25).toInt ≤ l2_12.toInt := by rw [fa_le] at c13; exact c13
              have rg14 := fb_rng l2_12
              have rg15 := fb_rng (v 25)
              obtain ⟨t16, et16⟩ : ∃ y : Int32, y = l1_6 + 1 := ⟨_, rfl⟩
              have zt16 : t16.toInt = l1_6.toInt + 1 := by rw [et16]; exact add_i rfl (by decide) (by omega) (by omega)
              refine lv_iinc (v := t16) (lv' := [(1, .int t16), (2, .int l2_12), (0, .ref y0)]) hx hb dX11_layIlls_47 hl (k := 1) rfl (by rw [et16]; rfl) (by decide) rfl (fun ls hl => ?_)
              refine lv_goto (tgt := 6) hx hb dX11_layIlls_50 (by decide) ?_
              have rg17 := fb_rng t16
              exact ih6 t16 v12 f12 w12 g12 hIv12 hCf12 hRf12 hq0_v12 hq1_v12 hq2_v12 hq3_v12 hq4_v12 hq5_v12 hq8_v12 hq9_v12 hq10_v12 hq13_v12 hq14_v12 hq15_v12 hq17_v12 hq18_v12 hq24_v12 hq25_v12 hq35_v12 hq36_v12 hq38_v12 hq39_v12 ⟨show (0 : Int) ≤ t16.toInt by omega, show t16.toInt ≤ (2147483647 : Int) by omega⟩ hM_v12 hA_f12 (by show (2147483647 - t16.toInt).toNat < n6; omega) _ _ _ hP hD hS (lv_sub hl [0, 2] rfl)
            · skip
              have zc13 : ¬ ((v 25).toInt ≤ l2_12.toInt) := by rw [fa_le] at c13; exact c13
              have rg18 := fb_rng l2_12
              have rg19 := fb_rng (v 25)
              refine lv_aload_n hx hb dX11_layIlls_24 rfl (lv_at hl 2 rfl) ?_
              refine va_get (D := (dC, dI)) (ci := 11) (v := .ref (r 66)) (C := RX11) (T := TX11) (N := 79) hx hb hts inB_11 hown hE.1 hP 0 rfl rfl 66 (by decide) (hts _ k_1386) (fun _ h9 => h9) rfl dX11_layIlls_25 ?_
              refine lv_bipush (v := 6) hx hb dX11_layIlls_28 (by decide) ?_
              refine lv_iload_n hx hb dX11_layIlls_30 rfl (lv_at hl 1 rfl) ?_
              refine lv_imul hx hb dX11_layIlls_31 ?_
              refine lv_topi (fun t20 et20 => ?_)
              have zt20 : t20.toInt = 6 * l1_6.toInt := by rw [et20]; exact mul_i (by decide) rfl (by omega) (by omega)
              refine lv_iload_n hx hb dX11_layIlls_32 rfl (lv_at hl 0 rfl) ?_
              refine lv_iadd hx hb dX11_layIlls_33 ?_
              refine lv_topi (fun t21 et21 => ?_)
              have rg22 := fb_rng t20
              have zt21 : t21.toInt = t20.toInt + l2_12.toInt := by rw [et21]; exact add_i rfl rfl (by omega) (by omega)
              refine lv_aload_n hx hb dX11_layIlls_34 rfl (lv_at hl 2 rfl) ?_
              refine lv_iload_n hx hb dX11_layIlls_35 rfl (lv_at hl 1 rfl) ?_
              refine lv_iload_n hx hb dX11_layIlls_36 rfl (lv_at hl 0 rfl) ?_
              refine cbVi (n := 2) (rest := [.int t21, .ref (r 66)]) hx hb hml hown hts hE hP hD hS hA (sY_X11_misfitOf_1 0 l dC dI cy y0 r l1_6 l2_12 v12 f12 w12 g12 hIv12 hCf12 hRf12 ⟨show (0 : Int) ≤ l1_6.toInt by omega, show l1_6.toInt ≤ (5 : Int) by omega⟩ ⟨show (0 : Int) ≤ l2_12.toInt by omega, show l2_12.toInt ≤ (5 : Int) by omega⟩) k_1751 k_1753 k_74 k_114 k_1754 (by decide +kernel) ⟨Nat.le_of_ble_eq_true rfl, Nat.le_of_ble_eq_true rfl⟩ 0 11 rfl rfl (rfl) hl.1 rfl (Nat.le_of_ble_eq_true rfl) dX11_layIlls_37 (fun r23 u H locs hw hP hD hS => ?_)
              obtain ⟨hG24, hw⟩ := hw
              obtain ⟨v25, f26, w27, g28⟩ := u
              obtain ⟨kV_v25, kF_f26, hIv25, hCf26, hRf26, hk0_v25, hk1_v25, hk2_v25, hk3_v25, hk4_v25, hk5_v25, hk8_v25, hk9_v25, hk10_v25, hk13_v25, hk14_v25, hk15_v25, hk17_v25, hk18_v25, hk24_v25, hk25_v25, hk35_v25, hk36_v25, hk38_v25, hk39_v25⟩ := hw
              have hM_v25 : KV [] v25 v := KV.tr kV_v25 hM_v12 rfl
              have hA_f26 : KF [7, 8, 24, 28] f26 f := KF.tr kF_f26 hA_f12 rfl
              have hP : va_P (dC, dI) vwCl (YW cy y0 r v25 f26 w27 g28) H := hP
              have hD : va_D A (YW cy y0 r v25 f26 w27 g28) := hD
              have hUv25 : (v25 35).toInt + (v25 36).toInt ≤ 40 := hIv25.2
              have hq0_v25 : v25 0 = (v 0) := hk0_v25.trans hq0_v12
              have hq1_v25 : v25 1 = (v 1) := hk1_v25.trans hq1_v12
              have hq2_v25 : v25 2 = (v 2) := hk2_v25.trans hq2_v12
              have hq3_v25 : v25 3 = (v 3) := hk3_v25.trans hq3_v12
              have hq4_v25 : v25 4 = (v 4) := hk4_v25.trans hq4_v12
              have hq5_v25 : v25 5 = (v 5) := hk5_v25.trans hq5_v12
              have hq8_v25 : v25 8 = (v 8) := hk8_v25.trans hq8_v12
              have hq9_v25 : v25 9 = (v 9) := hk9_v25.trans hq9_v12
              have zq9_v25 := congrArg Int32.toInt hq9_v25
              have hq10_v25 : v25 10 = (v 10) := hk10_v25.trans hq10_v12
              have hq13_v25 : v25 13 = (v 13) := hk13_v25.trans hq13_v12
              have hq14_v25 : v25 14 = (v 14) := hk14_v25.trans hq14_v12
              have hq15_v25 : v25 15 = (v 15) := hk15_v25.trans hq15_v12
              have hq17_v25 : v25 17 = (v 17) := hk17_v25.trans hq17_v12
              have hq18_v25 : v25 18 = (v 18) := hk18_v25.trans hq18_v12
              have hq24_v25 : v25 24 = (v 24) := hk24_v25.trans hq24_v12
              have hq25_v25 : v25 25 = (v 25) := hk25_v25.trans hq25_v12
              have hq35_v25 : v25 35 = (v 35) := hk35_v25.trans hq35_v12
              have hq36_v25 : v25 36 = (v 36) := hk36_v25.trans hq36_v12
              have hq38_v25 : v25 38 = (v 38) := hk38_v25.trans hq38_v12
              have hq39_v25 : v25 39 = (v 39) := hk39_v25.trans hq39_v12
              refine stI hx hb hE hP hD hS 29 rfl (vp_in_iff.mpr ⟨by omega, by omega⟩) rfl dX11_layIlls_40 (fun H locs hP hD hS => ?_)
              obtain ⟨f29, ef29, hP, hD⟩ : ∃ fz9, fz9 = upd2 f26 28 (upd (f26 28) t21.toNatClampNeg r23) ∧ va_P (dC, dI) vwCl (YW cy y0 r v25 fz9 w27 g28) H ∧ va_D A (YW cy y0 r v25 fz9 w27 g28) := ⟨_, rfl, hP, hD⟩
              have hCf29 : YC f29 := by rw [ef29]; exact hCf26
              have hRf29 : progOK (f29 4) (f29 5) (v25 9).toInt.toNat := by rw [ef29]; exact hRf26
              have hA_f29 : KF [7, 8, 24, 28] f29 f := by rw [ef29]; exact KF.up hA_f26 rfl
              obtain ⟨t30, et30⟩ : ∃ y : Int32, y = l2_12 + 1 := ⟨_, rfl⟩
              have zt30 : t30.toInt = l2_12.toInt + 1 := by rw [et30]; exact add_i rfl (by decide) (by omega) (by omega)
              refine lv_iinc (v := t30) (lv' := [(2, .int t30), (1, .int l1_6), (0, .ref y0)]) hx hb dX11_layIlls_41 hl (k := 0) rfl (by rw [et30]; rfl) (by decide) rfl (fun ls hl => ?_)
              refine lv_goto (tgt := 16) hx hb dX11_layIlls_44 (by decide) ?_
              have rg31 := fb_rng t30
              exact ih12 t30 v25 f29 w27 g28 hIv25 hCf29 hRf29 hq0_v25 hq1_v25 hq2_v25 hq3_v25 hq4_v25 hq5_v25 hq8_v25 hq9_v25 hq10_v25 hq13_v25 hq14_v25 hq15_v25 hq17_v25 hq18_v25 hq24_v25 hq25_v25 hq35_v25 hq36_v25 hq38_v25 hq39_v25 ⟨show (0 : Int) ≤ t30.toInt by omega, show t30.toInt ≤ (2147483647 : Int) by omega⟩ hM_v25 hA_f29 (by show (2147483647 - t30.toInt).toNat < n12; omega) _ _ _ hP hD hS (lv_sub hl [0, 1, 2] rfl)
        exact lp12 _ 0 v6 f6 w6 g6 hIv6 hCf6 hRf6 hq0_v6 hq1_v6 hq2_v6 hq3_v6 hq4_v6 hq5_v6 hq8_v6 hq9_v6 hq10_v6 hq13_v6 hq14_v6 hq15_v6 hq17_v6 hq18_v6 hq24_v6 hq25_v6 hq35_v6 hq36_v6 hq38_v6 hq39_v6 ⟨by decide, by decide⟩ hM_v6 hA_f6 (Nat.lt_succ_self _) _ _ _ hP hD hS (lv_sub hl [0, 1, 2] rfl)
  exact lp6 _ 0 v2 f3 w4 g5 hIv2 hCf3 hRf3 hq0_v2 hq1_v2 hq2_v2 hq3_v2 hq4_v2 hq5_v2 hq8_v2 hq9_v2 hq10_v2 hq13_v2 hq14_v2 hq15_v2 hq17_v2 hq18_v2 hq24_v2 hq25_v2 hq35_v2 hq36_v2 hq38_v2 hq39_v2 ⟨by decide, by decide⟩ hM_v2 hA_f3 (Nat.lt_succ_self _) _ _ _ hP hD hS (lv_sub hl [0, 1] rfl)
set_option maxHeartbeats 4000000 in
set_option maxRecDepth 100000 in
theorem sY_X11_layDress_1 (l : Launch) (dC : Nat → ClassId) (dI : Nat → Nat → Nat) (cy : Nat → ClassId) (y0 : Nat) (r : Nat → Nat) (p1 : Int32) (v : Nat → Int32) (f : Nat → Nat → Int32) (w : Int64) (g : Nat → Int64) (hIv : YI v) (hCf : YC f) (hRf : progOK (f 4) (f 5) (v 9).toInt.toNat) (hp1 : (0 : Int) ≤ p1.toInt ∧ p1.toInt ≤ 2147483647) : ctI l (dC, dI) cy yX11_layDress cX11_layDress 7 .int 1 60 0 0 ((Nat → Int32) × (Nat → Nat → Int32) × (Int64) × (Nat → Int64)) [.ref y0, .int p1] (YW cy y0 r v f w g) (fun r u => KV [] u.1 v ∧ KF [27] u.2.1 f ∧ YI u.1 ∧ YC u.2.1 ∧ progOK (u.2.1 4) (u.2.1 5) (u.1 9).toInt.toNat ∧ u.1 0 = v 0 ∧ u.1 1 = v 1 ∧ u.1 2 = v 2 ∧ u.1 3 = v 3 ∧ u.1 4 = v 4 ∧ u.1 5 = v 5 ∧ u.1 8 = v 8 ∧ u.1 9 = v 9 ∧ u.1 10 = v 10 ∧ u.1 13 = v 13 ∧ u.1 14 = v 14 ∧ u.1 15 = v 15 ∧ u.1 17 = v 17 ∧ u.1 18 = v 18 ∧ u.1 24 = v 24 ∧ u.1 25 = v 25 ∧ u.1 35 = v 35 ∧ u.1 36 = v 36 ∧ u.1 38 = v 38 ∧ u.1 39 = v 39) (fun u => YW cy y0 r u.1 u.2.1 u.2.2.1 u.2.2.2) := by
  refine ctI_of (by decide) (Nat.le_of_ble_eq_true rfl) (fun p e s m below meth c A ls Q hx hb hml hts hown hE hP hD hA hl ret => ?_)
  have hUv : (v 35).toInt + (v 36).toInt ≤ 40 := hIv.2
  have hM_v : KV [] v v := fun _ _ => rfl
  have hA_f : KF [27] f f := fun _ _ => rfl
  have hown : s.vm.findClass RX11 = some m.cls := hown
  have hS : va_S A s.heap s.heap [] := va_S.rf
  have hl : lv_has ls 7 [(0, .ref y0), (1, .int p1)] := hl
  refine lv_iload_n hx hb dX11_layDress_0 rfl (lv_at hl 1 rfl) ?_
  refine lv_istore_n (lv' := [(2, .int p1), (0, .ref y0), (1, .int p1)]) hx hb dX11_layDress_1 rfl hl (by decide) rfl (fun ls hl => ?_)
  refine lv_iconst (v := 0) hx hb dX11_layDress_2 (by decide) ?_
  refine lv_istore_n (lv' := [(3, .int 0), (2, .int p1), (0, .ref y0), (1, .int p1)]) hx hb dX11_layDress_3 rfl hl (by decide) rfl (fun ls hl => ?_)
  refine lv_iconst (v := 0) hx hb dX11_layDress_4 (by decide) ?_
  refine lv_istore (lv' := [(4, .int 0), (3, .int 0), (2, .int p1), (0, .ref y0), (1, .int p1)]) hx hb dX11_layDress_5 hl (by decide) rfl (fun ls hl => ?_)
  refine lv_aload_n hx hb dX11_layDress_7 rfl (lv_at hl 3 rfl) ?_
  refine va_get (D := (dC, dI)) (ci := 11) (v := .int (v 24)) (C := RX11) (T := TX11) (N := 79) hx hb hts inB_11 hown hE.1 hP 0 rfl rfl 48 (by decide) (hts _ k_1368) (fun _ h9 => h9) rfl dX11_layDress_8 ?_
  have b24_v : 0 ≤ (v 24).toInt ∧ (v 24).toInt ≤ 6 := YIb.b hIv.1 24 (by decide)
  refine lv_iconst (v := 1) hx hb dX11_layDress_11 (by decide) ?_
  refine lv_isub hx hb dX11_layDress_12 ?_
  refine lv_topi (fun t1 et1 => ?_)
  have rg2 := fb_rng (v 24)
  have zt1 : t1.toInt = (v 24).toInt - 1 := by rw [et1]; exact sub_i rfl (by decide) (by omega) (by omega)
  refine lv_istore (lv' := [(5, .int t1), (4, .int 0), (3, .int 0), (2, .int p1), (0, .ref y0), (1, .int p1)]) hx hb dX11_layDress_13 hl (by decide) rfl (fun ls hl => ?_)
  have lp3 : ∀ (n3 : Nat) (l2_3 : Int32) (l3_3 : Int32) (l4_3 : Int32) (l5_3 : Int32) (v3 : Nat → Int32) (f3 : Nat → Nat → Int32) (w3 : Int64) (g3 : Nat → Int64), YI v3 → YC f3 → progOK (f3 4) (f3 5) (v3 9).toInt.toNat → v3 0 = (v 0) → v3 1 = (v 1) → v3 2 = (v 2) → v3 3 = (v 3) → v3 4 = (v 4) → v3 5 = (v 5) → v3 8 = (v 8) → v3 9 = (v 9) → v3 10 = (v 10) → v3 13 = (v 13) → v3 14 = (v 14) → v3 15 = (v 15) → v3 17 = (v 17) → v3 18 = (v 18) → v3 24 = (v 24) → v3 25 = (v 25) → v3 35 = (v 35) → v3 36 = (v 36) → v3 38 = (v 38) → v3 39 = (v 39) → ((0 : Int) ≤ l2_3.toInt ∧ l2_3.toInt ≤ 2147483647) → ((-2147483648 : Int) ≤ l5_3.toInt ∧ l5_3.toInt ≤ 5) → KV [] v3 v → KF [27] f3 f → (l5_3.toInt + 2147483648).toNat < n3 → ∀ (H : Heap) (locs : List Loc) (ls : Array Slot), va_P (dC, dI) vwCl (YW cy y0 r v3 f3 w3 g3) H → va_D A (YW cy y0 r v3 f3 w3 g3) → va_S A s.heap H locs → lv_has ls 7 [(5, .int l5_3), (4, .int l4_3), (3, .int l3_3), (2, .int l2_3), (0, .ref y0), (1, .int p1)] → W p l e { frames := 1, cells := 0, slots := 0, locals := 60 } s m ([.ref y0, .int p1] : List Value).toArray below meth c H locs 0 0 Q (F0 m 15 ls []) := by
    intro n3
    induction n3 with
    | zero => intro l2_3 l3_3 l4_3 l5_3 v3 f3 w3 g3 hIv3 hCf3 hRf3 hq0_v3 hq1_v3 hq2_v3 hq3_v3 hq4_v3 hq5_v3 hq8_v3 hq9_v3 hq10_v3 hq13_v3 hq14_v3 hq15_v3 hq17_v3 hq18_v3 hq24_v3 hq25_v3 hq35_v3 hq36_v3 hq38_v3 hq39_v3 hr2_3 hr5_3 hM_v3 hA_f3 hm; exact absurd hm (Nat.not_lt_zero _)
    | succ n3 ih3 =>
      intro l2_3 l3_3 l4_3 l5_3 v3 f3 w3 g3 hIv3 hCf3 hRf3 hq0_v3 hq1_v3 hq2_v3 hq3_v3 hq4_v3 hq5_v3 hq8_v3 hq9_v3 hq10_v3 hq13_v3 hq14_v3 hq15_v3 hq17_v3 hq18_v3 hq24_v3 hq25_v3 hq35_v3 hq36_v3 hq38_v3 hq39_v3 hr2_3 hr5_3 hM_v3 hA_f3 hm3 H locs ls hP hD hS hl
      have hUv3 : (v3 35).toInt + (v3 36).toInt ≤ 40 := hIv3.2
      have zq9_v3 := congrArg Int32.toInt hq9_v3
      refine lv_iload hx hb dX11_layDress_15 (lv_at hl 0 rfl) ?_
      refine lv_if_lt (tgt := 121) hx hb dX11_layDress_17 (by decide) (fun c4 => ?_) (fun c4 => ?_)
      · skip
        have zc4 : l5_3.toInt < 0 := by rw [fa_lt, show (0 : Int32).toInt = 0 from by decide] at c4; exact c4
        refine lv_iload hx hb dX11_layDress_121 (lv_at hl 1 rfl) ?_
        exact ret l4_3 (v3, f3, w3, g3) _ _ _ _ _ _ rfl ⟨hM_v3, hA_f3, hIv3, hCf3, hRf3, (show v3 0 = v 0 from hq0_v3), (show v3 1 = v 1 from hq1_v3), (show v3 2 = v 2 from hq2_v3), (show v3 3 = v 3 from hq3_v3), (show v3 4 = v 4 from hq4_v3), (show v3 5 = v 5 from hq5_v3), (show v3 8 = v 8 from hq8_v3), (show v3 9 = v 9 from hq9_v3), (show v3 10 = v 10 from hq10_v3), (show v3 13 = v 13 from hq13_v3), (show v3 14 = v 14 from hq14_v3), (show v3 15 = v 15 from hq15_v3), (show v3 17 = v 17 from hq17_v3), (show v3 18 = v 18 from hq18_v3), (show v3 24 = v 24 from hq24_v3), (show v3 25 = v 25 from hq25_v3), (show v3 35 = v 35 from hq35_v3), (show v3 36 = v 36 from hq36_v3), (show v3 38 = v 38 from hq38_v3), (show v3 39 = v 39 from hq39_v3)⟩ hP hD hS dX11_layDress_123 (Nat.le_refl _) (Nat.le_refl _)
      · skip
        have zc4 : ¬ (l5_3.toInt < 0) := by rw [fa_lt, show (0 : Int32).toInt = 0 from by decide] at c4; exact c4
        refine lv_iload_n hx hb dX11_layDress_20 rfl (lv_at hl 3 rfl) ?_
        refine lv_aload_n hx hb dX11_layDress_21 rfl (lv_at hl 4 rfl) ?_
        refine va_get (D := (dC, dI)) (ci := 11) (v := .int (v3 25)) (C := RX11) (T := TX11) (N := 79) hx hb hts inB_11 hown hE.1 hP 0 rfl rfl 49 (by decide) (hts _ k_1369) (fun _ h9 => h9) rfl dX11_layDress_22 ?_
        refine tI (y := (v 25)) hq25_v3 ?_
        have b25_v : 0 ≤ (v 25).toInt ∧ (v 25).toInt ≤ 6 := YIb.b hIv.1 25 (by decide)
        refine lv_iconst (v := 1) hx hb dX11_layDress_25 (by decide) ?_
        refine lv_iadd hx hb dX11_layDress_26 ?_
        refine lv_topi (fun t5 et5 => ?_)
        have rg6 := fb_rng (v 25)
        have zt5 : t5.toInt = (v 25).toInt + 1 := by rw [et5]; exact add_i rfl (by decide) (by omega) (by omega)
        refine lv_irem hx hb dX11_layDress_27 (ne0 (by omega)) ?_
        refine lv_topi (fun t7 et7 => ?_)
        have zt7 : 0 ≤ t7.toInt ∧ t7.toInt < t5.toInt := by rw [et7]; exact rem_rng (zx := l2_3.toInt) (zy := t5.toInt) rfl rfl (by omega) (by omega)
        refine lv_istore (lv' := [(6, .int t7), (5, .int l5_3), (4, .int l4_3), (3, .int l3_3), (2, .int l2_3), (0, .ref y0), (1, .int p1)]) hx hb dX11_layDress_28 hl (by decide) rfl (fun ls hl => ?_)
        refine lv_iload_n hx hb dX11_layDress_30 rfl (lv_at hl 4 rfl) ?_
        refine lv_aload_n hx hb dX11_layDress_31 rfl (lv_at hl 5 rfl) ?_
        refine va_get (D := (dC, dI)) (ci := 11) (v := .int (v3 25)) (C := RX11) (T := TX11) (N := 79) hx hb hts inB_11 hown hE.1 hP 0 rfl rfl 49 (by decide) (hts _ k_1369) (fun _ h9 => h9) rfl dX11_layDress_32 ?_
        refine tI (y := (v 25)) hq25_v3 ?_
        refine lv_iconst (v := 1) hx hb dX11_layDress_35 (by decide) ?_
        refine lv_iadd hx hb dX11_layDress_36 ?_
        refine tI (y := t5) et5.symm ?_
        refine lv_idiv hx hb dX11_layDress_37 (ne0 (by omega)) ?_
        refine lv_topi (fun t8 et8 => ?_)
        have zt8 : 0 ≤ t8.toInt ∧ t8.toInt ≤ l2_3.toInt := by rw [et8]; exact div_rng (zx := l2_3.toInt) (zy := t5.toInt) rfl rfl (by omega) (by omega)
        refine lv_istore_n (lv' := [(2, .int t8), (6, .int t7), (5, .int l5_3), (4, .int l4_3), (3, .int l3_3), (0, .ref y0), (1, .int p1)]) hx hb dX11_layDress_38 rfl hl (by decide) rfl (fun ls hl => ?_)
        refine lv_aload_n hx hb dX11_layDress_39 rfl (lv_at hl 5 rfl) ?_
        refine va_get (D := (dC, dI)) (ci := 11) (v := .ref (r 65)) (C := RX11) (T := TX11) (N := 79) hx hb hts inB_11 hown hE.1 hP 0 rfl rfl 65 (by decide) (hts _ k_1385) (fun _ h9 => h9) rfl dX11_layDress_40 ?_
        refine lv_iload hx hb dX11_layDress_43 (lv_at hl 2 rfl) ?_
        refine lv_iload hx hb dX11_layDress_45 (lv_at hl 1 rfl) ?_
        refine lv_aload_n hx hb dX11_layDress_47 rfl (lv_at hl 5 rfl) ?_
        refine va_get (D := (dC, dI)) (ci := 11) (v := .int (v3 25)) (C := RX11) (T := TX11) (N := 79) hx hb hts inB_11 hown hE.1 hP 0 rfl rfl 49 (by decide) (hts _ k_1369) (fun _ h9 => h9) rfl dX11_layDress_48 ?_
        refine tI (y := (v 25)) hq25_v3 ?_
        refine lv_icmp_ne (tgt := 58) hx hb dX11_layDress_51 (by decide) (fun c9 => ?_) (fun c9 => ?_)
        · skip
          have zc9 : ¬ (t7.toInt = (v 25).toInt) := by rw [fa_eq] at c9; exact c9
          have rg10 := fb_rng t7
          refine lv_iload hx hb dX11_layDress_58 (lv_at hl 1 rfl) ?_
          refine stI hx hb hE hP hD hS 28 rfl (vp_in_iff.mpr ⟨by omega, by omega⟩) rfl dX11_layDress_60 (fun H locs hP hD hS => ?_)
          obtain ⟨f11, ef11, hP, hD⟩ : ∃ fz9, fz9 = upd2 f3 27 (upd (f3 27) l5_3.toNatClampNeg t7) ∧ va_P (dC, dI) vwCl (YW cy y0 r v3 fz9 w3 g3) H ∧ va_D A (YW cy y0 r v3 fz9 w3 g3) := ⟨_, rfl, hP, hD⟩
          have hCf11 : YC f11 := by rw [ef11]; exact ⟨hCf3.1, hCf3.2.1, hCf3.2.2.1, (rng_st hCf3.2.2.2.1 (by show -1 ≤ t7.toInt ∧ t7.toInt ≤ 5; omega)), hCf3.2.2.2.2.1, hCf3.2.2.2.2.2⟩
          have hRf11 : progOK (f11 4) (f11 5) (v3 9).toInt.toNat := by rw [ef11]; exact hRf3
          have hA_f11 : KF [27] f11 f := by rw [ef11]; exact KF.up hA_f3 rfl
          refine lv_iload hx hb dX11_layDress_61 (lv_at hl 1 rfl) ?_
          refine lv_aload_n hx hb dX11_layDress_63 rfl (lv_at hl 5 rfl) ?_
          refine va_get (D := (dC, dI)) (ci := 11) (v := .int (v3 25)) (C := RX11) (T := TX11) (N := 79) hx hb hts inB_11 hown hE.1 hP 0 rfl rfl 49 (by decide) (hts _ k_1369) (fun _ h9 => h9) rfl dX11_layDress_64 ?_
          refine tI (y := (v 25)) hq25_v3 ?_
          refine lv_icmp_ne (tgt := 73) hx hb dX11_layDress_67 (by decide) (fun c12 => ?_) (fun c12 => ?_)
          · skip
            have zc12 : ¬ (t7.toInt = (v 25).toInt) := by rw [fa_eq] at c12; exact c12
            refine lv_iload_n hx hb dX11_layDress_73 rfl (lv_at hl 4 rfl) ?_
            refine lv_iload hx hb dX11_layDress_74 (lv_at hl 1 rfl) ?_
            refine lv_ishr hx hb dX11_layDress_76 ?_
            refine lv_topi (fun t13 et13 => ?_)
            refine lv_iconst (v := 1) hx hb dX11_layDress_77 (by decide) ?_
            refine lv_iand hx hb dX11_layDress_78 ?_
            refine lv_topi (fun t14 et14 => ?_)
            have zt14 : 0 ≤ t14.toInt ∧ t14.toInt < 2 := by rw [et14]; exact and_rng _ (k := 1) (by decide) (by decide)
            refine lv_iconst (v := 1) hx hb dX11_layDress_79 (by decide) ?_
            refine lv_icmp_eq (tgt := 103) hx hb dX11_layDress_80 (by decide) (fun c15 => ?_) (fun c15 => ?_)
            · skip
              have zc15 : t14.toInt = 1 := by rw [fa_eq, show (1 : Int32).toInt = 1 from by decide] at c15; exact c15
              refine lv_iconst (v := (-1)) hx hb dX11_layDress_103 (by decide) ?_
              exact ret (-1) (v3, f11, w3, g3) _ _ _ _ _ _ rfl ⟨hM_v3, hA_f11, hIv3, hCf11, hRf11, (show v3 0 = v 0 from hq0_v3), (show v3 1 = v 1 from hq1_v3), (show v3 2 = v 2 from hq2_v3), (show v3 3 = v 3 from hq3_v3), (show v3 4 = v 4 from hq4_v3), (show v3 5 = v 5 from hq5_v3), (show v3 8 = v 8 from hq8_v3), (show v3 9 = v 9 from hq9_v3), (show v3 10 = v 10 from hq10_v3), (show v3 13 = v 13 from hq13_v3), (show v3 14 = v 14 from hq14_v3), (show v3 15 = v 15 from hq15_v3), (show v3 17 = v 17 from hq17_v3), (show v3 18 = v 18 from hq18_v3), (show v3 24 = v 24 from hq24_v3), (show v3 25 = v 25 from hq25_v3), (show v3 35 = v 35 from hq35_v3), (show v3 36 = v 36 from hq36_v3), (show v3 38 = v 38 from hq38_v3), (show v3 39 = v 39 from hq39_v3)⟩ hP hD hS dX11_layDress_104 (Nat.le_refl _) (Nat.le_refl _)
            · skip
              have zc15 : ¬ (t14.toInt = 1) := by rw [fa_eq, show (1 : Int32).toInt = 1 from by decide] at c15; exact c15
              refine lv_aload_n hx hb dX11_layDress_83 rfl (lv_at hl 5 rfl) ?_
              refine va_get (D := (dC, dI)) (ci := 11) (v := .ref (r 66)) (C := RX11) (T := TX11) (N := 79) hx hb hts inB_11 hown hE.1 hP 0 rfl rfl 66 (by decide) (hts _ k_1386) (fun _ h9 => h9) rfl dX11_layDress_84 ?_
              refine lv_bipush (v := 6) hx hb dX11_layDress_87 (by decide) ?_
              refine lv_iload hx hb dX11_layDress_89 (lv_at hl 2 rfl) ?_
              refine lv_imul hx hb dX11_layDress_91 ?_
              refine lv_topi (fun t16 et16 => ?_)
              have rg17 := fb_rng l5_3
              have zt16 : t16.toInt = 6 * l5_3.toInt := by rw [et16]; exact mul_i (by decide) rfl (by omega) (by omega)
              refine lv_iload hx hb dX11_layDress_92 (lv_at hl 1 rfl) ?_
              refine lv_iadd hx hb dX11_layDress_94 ?_
              refine lv_topi (fun t18 et18 => ?_)
              have rg19 := fb_rng t16
              have zt18 : t18.toInt = t16.toInt + t7.toInt := by rw [et18]; exact add_i rfl rfl (by omega) (by omega)
              refine ldI hx hb hE hP 29 rfl (vp_in_iff.mpr ⟨by omega, by omega⟩) rfl rfl dX11_layDress_95 ?_
              refine lv_topi (fun t20 et20 => ?_)
              refine lv_aload_n hx hb dX11_layDress_96 rfl (lv_at hl 5 rfl) ?_
              refine va_get (D := (dC, dI)) (ci := 11) (v := .int (v3 26)) (C := RX11) (T := TX11) (N := 79) hx hb hts inB_11 hown hE.1 hP 0 rfl rfl 50 (by decide) (hts _ k_1370) (fun _ h9 => h9) rfl dX11_layDress_97 ?_
              refine lv_icmp_le (tgt := 105) hx hb dX11_layDress_100 (by decide) (fun c21 => ?_) (fun c21 => ?_)
              · skip
                have zc21 : t20.toInt ≤ (v3 26).toInt := by rw [fa_le] at c21; exact c21
                have rg22 := fb_rng t20
                have rg23 := fb_rng (v3 26)
                refine lv_iload_n hx hb dX11_layDress_105 rfl (lv_at hl 4 rfl) ?_
                refine lv_iconst (v := 1) hx hb dX11_layDress_106 (by decide) ?_
                refine lv_iload hx hb dX11_layDress_107 (lv_at hl 1 rfl) ?_
                refine lv_ishl hx hb dX11_layDress_109 ?_
                refine lv_topi (fun t24 et24 => ?_)
                have zt24 : 1 ≤ t24.toInt ∧ t24.toInt ≤ 64 := by rw [et24]; exact shl1_rng6 (by omega) (by omega)
                refine lv_ior hx hb dX11_layDress_110 ?_
                refine lv_topi (fun t25 et25 => ?_)
                refine lv_istore_n (lv' := [(3, .int t25), (2, .int t8), (6, .int t7), (5, .int l5_3), (4, .int l4_3), (0, .ref y0), (1, .int p1)]) hx hb dX11_layDress_111 rfl hl (by decide) rfl (fun ls hl => ?_)
                obtain ⟨t26, et26⟩ : ∃ y : Int32, y = l4_3 + 1 := ⟨_, rfl⟩
                refine lv_iinc (v := t26) (lv' := [(4, .int t26), (3, .int t25), (2, .int t8), (6, .int t7), (5, .int l5_3), (0, .ref y0), (1, .int p1)]) hx hb dX11_layDress_112 hl (k := 4) rfl (by rw [et26]; rfl) (by decide) rfl (fun ls hl => ?_)
                obtain ⟨t27, et27⟩ : ∃ y : Int32, y = l5_3 + (-1) := ⟨_, rfl⟩
                have zt27 : t27.toInt = l5_3.toInt + (-1) := by rw [et27]; exact add_i rfl (by decide) (by omega) (by omega)
                refine lv_iinc (v := t27) (lv' := [(5, .int t27), (4, .int t26), (3, .int t25), (2, .int t8), (6, .int t7), (0, .ref y0), (1, .int p1)]) hx hb dX11_layDress_115 hl (k := 4) rfl (by rw [et27]; rfl) (by decide) rfl (fun ls hl => ?_)
                refine lv_goto (tgt := 15) hx hb dX11_layDress_118 (by decide) ?_
                have rg28 := fb_rng t8
                have rg29 := fb_rng t27
                exact ih3 t8 t25 t26 t27 v3 f11 w3 g3 hIv3 hCf11 hRf11 hq0_v3 hq1_v3 hq2_v3 hq3_v3 hq4_v3 hq5_v3 hq8_v3 hq9_v3 hq10_v3 hq13_v3 hq14_v3 hq15_v3 hq17_v3 hq18_v3 hq24_v3 hq25_v3 hq35_v3 hq36_v3 hq38_v3 hq39_v3 ⟨show (0 : Int) ≤ t8.toInt by omega, show t8.toInt ≤ (2147483647 : Int) by omega⟩ ⟨show (-2147483648 : Int) ≤ t27.toInt by omega, show t27.toInt ≤ (5 : Int) by omega⟩ hM_v3 hA_f11 (by show (t27.toInt + 2147483648).toNat < n3; omega) _ _ _ hP hD hS (lv_sub hl [0, 1, 2, 3, 5, 6] rfl)
              · skip
                have zc21 : ¬ (t20.toInt ≤ (v3 26).toInt) := by rw [fa_le] at c21; exact c21
                have rg30 := fb_rng t20
                have rg31 := fb_rng (v3 26)
                refine lv_iconst (v := (-1)) hx hb dX11_layDress_103 (by decide) ?_
                exact ret (-1) (v3, f11, w3, g3) _ _ _ _ _ _ rfl ⟨hM_v3, hA_f11, hIv3, hCf11, hRf11, (show v3 0 = v 0 from hq0_v3), (show v3 1 = v 1 from hq1_v3), (show v3 2 = v 2 from hq2_v3), (show v3 3 = v 3 from hq3_v3), (show v3 4 = v 4 from hq4_v3), (show v3 5 = v 5 from hq5_v3), (show v3 8 = v 8 from hq8_v3), (show v3 9 = v 9 from hq9_v3), (show v3 10 = v 10 from hq10_v3), (show v3 13 = v 13 from hq13_v3), (show v3 14 = v 14 from hq14_v3), (show v3 15 = v 15 from hq15_v3), (show v3 17 = v 17 from hq17_v3), (show v3 18 = v 18 from hq18_v3), (show v3 24 = v 24 from hq24_v3), (show v3 25 = v 25 from hq25_v3), (show v3 35 = v 35 from hq35_v3), (show v3 36 = v 36 from hq36_v3), (show v3 38 = v 38 from hq38_v3), (show v3 39 = v 39 from hq39_v3)⟩ hP hD hS dX11_layDress_104 (Nat.le_refl _) (Nat.le_refl _)
          · skip
            have zc12 : t7.toInt = (v 25).toInt := by rw [fa_eq] at c12; exact c12
            refine lv_goto (tgt := 115) hx hb dX11_layDress_70 (by decide) ?_
            obtain ⟨t32, et32⟩ : ∃ y : Int32, y = l5_3 + (-1) := ⟨_, rfl⟩
            have rg33 := fb_rng l5_3
            have zt32 : t32.toInt = l5_3.toInt + (-1) := by rw [et32]; exact add_i rfl (by decide) (by omega) (by omega)
            refine lv_iinc (v := t32) (lv' := [(5, .int t32), (2, .int t8), (6, .int t7), (4, .int l4_3), (3, .int l3_3), (0, .ref y0), (1, .int p1)]) hx hb dX11_layDress_115 hl (k := 2) rfl (by rw [et32]; rfl) (by decide) rfl (fun ls hl => ?_)
            refine lv_goto (tgt := 15) hx hb dX11_layDress_118 (by decide) ?_
            have rg34 := fb_rng t8
            have rg35 := fb_rng t32
            exact ih3 t8 l3_3 l4_3 t32 v3 f11 w3 g3 hIv3 hCf11 hRf11 hq0_v3 hq1_v3 hq2_v3 hq3_v3 hq4_v3 hq5_v3 hq8_v3 hq9_v3 hq10_v3 hq13_v3 hq14_v3 hq15_v3 hq17_v3 hq18_v3 hq24_v3 hq25_v3 hq35_v3 hq36_v3 hq38_v3 hq39_v3 ⟨show (0 : Int) ≤ t8.toInt by omega, show t8.toInt ≤ (2147483647 : Int) by omega⟩ ⟨show (-2147483648 : Int) ≤ t32.toInt by omega, show t32.toInt ≤ (5 : Int) by omega⟩ hM_v3 hA_f11 (by show (t32.toInt + 2147483648).toNat < n3; omega) _ _ _ hP hD hS (lv_sub hl [0, 3, 4, 1, 5, 6] rfl)
        · skip
          have zc9 : t7.toInt = (v 25).toInt := by rw [fa_eq] at c9; exact c9
          have rg36 := fb_rng t7
          refine lv_iconst (v := (-1)) hx hb dX11_layDress_54 (by decide) ?_
          refine lv_goto (tgt := 60) hx hb dX11_layDress_55 (by decide) ?_
          refine stI hx hb hE hP hD hS 28 rfl (vp_in_iff.mpr ⟨by omega, by omega⟩) rfl dX11_layDress_60 (fun H locs hP hD hS => ?_)
          obtain ⟨f37, ef37, hP, hD⟩ : ∃ fz9, fz9 = upd2 f3 27 (upd (f3 27) l5_3.toNatClampNeg (-1)) ∧ va_P (dC, dI) vwCl (YW cy y0 r v3 fz9 w3 g3) H ∧ va_D A (YW cy y0 r v3 fz9 w3 g3) := ⟨_, rfl, hP, hD⟩
          have hCf37 : YC f37 := by rw [ef37]; exact ⟨hCf3.1, hCf3.2.1, hCf3.2.2.1, (rng_st hCf3.2.2.2.1 (by have q9 : ((-1) : Int32).toInt = -1 := (by decide); show -1 ≤ ((-1) : Int32).toInt ∧ ((-1) : Int32).toInt ≤ 5; omega)), hCf3.2.2.2.2.1, hCf3.2.2.2.2.2⟩
          have hRf37 : progOK (f37 4) (f37 5) (v3 9).toInt.toNat := by rw [ef37]; exact hRf3
          have hA_f37 : KF [27] f37 f := by rw [ef37]; exact KF.up hA_f3 rfl
          refine lv_iload hx hb dX11_layDress_61 (lv_at hl 1 rfl) ?_
          refine lv_aload_n hx hb dX11_layDress_63 rfl (lv_at hl 5 rfl) ?_
          refine va_get (D := (dC, dI)) (ci := 11) (v := .int (v3 25)) (C := RX11) (T := TX11) (N := 79) hx hb hts inB_11 hown hE.1 hP 0 rfl rfl 49 (by decide) (hts _ k_1369) (fun _ h9 => h9) rfl dX11_layDress_64 ?_
          refine tI (y := (v 25)) hq25_v3 ?_
          refine lv_icmp_ne (tgt := 73) hx hb dX11_layDress_67 (by decide) (fun c38 => ?_) (fun c38 => ?_)
          · skip
            have zc38 : ¬ (t7.toInt = (v 25).toInt) := by rw [fa_eq] at c38; exact c38
            refine lv_iload_n hx hb dX11_layDress_73 rfl (lv_at hl 4 rfl) ?_
            refine lv_iload hx hb dX11_layDress_74 (lv_at hl 1 rfl) ?_
            refine lv_ishr hx hb dX11_layDress_76 ?_
            refine lv_topi (fun t39 et39 => ?_)
            refine lv_iconst (v := 1) hx hb dX11_layDress_77 (by decide) ?_
            refine lv_iand hx hb dX11_layDress_78 ?_
            refine lv_topi (fun t40 et40 => ?_)
            have zt40 : 0 ≤ t40.toInt ∧ t40.toInt < 2 := by rw [et40]; exact and_rng _ (k := 1) (by decide) (by decide)
            refine lv_iconst (v := 1) hx hb dX11_layDress_79 (by decide) ?_
            refine lv_icmp_eq (tgt := 103) hx hb dX11_layDress_80 (by decide) (fun c41 => ?_) (fun c41 => ?_)
            · skip
              have zc41 : t40.toInt = 1 := by rw [fa_eq, show (1 : Int32).toInt = 1 from by decide] at c41; exact c41
              refine lv_iconst (v := (-1)) hx hb dX11_layDress_103 (by decide) ?_
              exact ret (-1) (v3, f37, w3, g3) _ _ _ _ _ _ rfl ⟨hM_v3, hA_f37, hIv3, hCf37, hRf37, (show v3 0 = v 0 from hq0_v3), (show v3 1 = v 1 from hq1_v3), (show v3 2 = v 2 from hq2_v3), (show v3 3 = v 3 from hq3_v3), (show v3 4 = v 4 from hq4_v3), (show v3 5 = v 5 from hq5_v3), (show v3 8 = v 8 from hq8_v3), (show v3 9 = v 9 from hq9_v3), (show v3 10 = v 10 from hq10_v3), (show v3 13 = v 13 from hq13_v3), (show v3 14 = v 14 from hq14_v3), (show v3 15 = v 15 from hq15_v3), (show v3 17 = v 17 from hq17_v3), (show v3 18 = v 18 from hq18_v3), (show v3 24 = v 24 from hq24_v3), (show v3 25 = v 25 from hq25_v3), (show v3 35 = v 35 from hq35_v3), (show v3 36 = v 36 from hq36_v3), (show v3 38 = v 38 from hq38_v3), (show v3 39 = v 39 from hq39_v3)⟩ hP hD hS dX11_layDress_104 (Nat.le_refl _) (Nat.le_refl _)
            · skip
              have zc41 : ¬ (t40.toInt = 1) := by rw [fa_eq, show (1 : Int32).toInt = 1 from by decide] at c41; exact c41
              refine lv_aload_n hx hb dX11_layDress_83 rfl (lv_at hl 5 rfl) ?_
              refine va_get (D := (dC, dI)) (ci := 11) (v := .ref (r 66)) (C := RX11) (T := TX11) (N := 79) hx hb hts inB_11 hown hE.1 hP 0 rfl rfl 66 (by decide) (hts _ k_1386) (fun _ h9 => h9) rfl dX11_layDress_84 ?_
              refine lv_bipush (v := 6) hx hb dX11_layDress_87 (by decide) ?_
              refine lv_iload hx hb dX11_layDress_89 (lv_at hl 2 rfl) ?_
              refine lv_imul hx hb dX11_layDress_91 ?_
              refine lv_topi (fun t42 et42 => ?_)
              have rg43 := fb_rng l5_3
              have zt42 : t42.toInt = 6 * l5_3.toInt := by rw [et42]; exact mul_i (by decide) rfl (by omega) (by omega)
              refine lv_iload hx hb dX11_layDress_92 (lv_at hl 1 rfl) ?_
              refine lv_iadd hx hb dX11_layDress_94 ?_
              refine lv_topi (fun t44 et44 => ?_)
              have rg45 := fb_rng t42
              have zt44 : t44.toInt = t42.toInt + t7.toInt := by rw [et44]; exact add_i rfl rfl (by omega) (by omega)
              refine ldI hx hb hE hP 29 rfl (vp_in_iff.mpr ⟨by omega, by omega⟩) rfl rfl dX11_layDress_95 ?_
              refine lv_topi (fun t46 et46 => ?_)
              refine lv_aload_n hx hb dX11_layDress_96 rfl (lv_at hl 5 rfl) ?_
              refine va_get (D := (dC, dI)) (ci := 11) (v := .int (v3 26)) (C := RX11) (T := TX11) (N := 79) hx hb hts inB_11 hown hE.1 hP 0 rfl rfl 50 (by decide) (hts _ k_1370) (fun _ h9 => h9) rfl dX11_layDress_97 ?_
              refine lv_icmp_le (tgt := 105) hx hb dX11_layDress_100 (by decide) (fun c47 => ?_) (fun c47 => ?_)
              · skip
                have zc47 : t46.toInt ≤ (v3 26).toInt := by rw [fa_le] at c47; exact c47
                have rg48 := fb_rng t46
                have rg49 := fb_rng (v3 26)
                refine lv_iload_n hx hb dX11_layDress_105 rfl (lv_at hl 4 rfl) ?_
                refine lv_iconst (v := 1) hx hb dX11_layDress_106 (by decide) ?_
                refine lv_iload hx hb dX11_layDress_107 (lv_at hl 1 rfl) ?_
                refine lv_ishl hx hb dX11_layDress_109 ?_
                refine lv_topi (fun t50 et50 => ?_)
                have zt50 : 1 ≤ t50.toInt ∧ t50.toInt ≤ 64 := by rw [et50]; exact shl1_rng6 (by omega) (by omega)
                refine lv_ior hx hb dX11_layDress_110 ?_
                refine lv_topi (fun t51 et51 => ?_)
                refine lv_istore_n (lv' := [(3, .int t51), (2, .int t8), (6, .int t7), (5, .int l5_3), (4, .int l4_3), (0, .ref y0), (1, .int p1)]) hx hb dX11_layDress_111 rfl hl (by decide) rfl (fun ls hl => ?_)
                obtain ⟨t52, et52⟩ : ∃ y : Int32, y = l4_3 + 1 := ⟨_, rfl⟩
                refine lv_iinc (v := t52) (lv' := [(4, .int t52), (3, .int t51), (2, .int t8), (6, .int t7), (5, .int l5_3), (0, .ref y0), (1, .int p1)]) hx hb dX11_layDress_112 hl (k := 4) rfl (by rw [et52]; rfl) (by decide) rfl (fun ls hl => ?_)
                obtain ⟨t53, et53⟩ : ∃ y : Int32, y = l5_3 + (-1) := ⟨_, rfl⟩
                have zt53 : t53.toInt = l5_3.toInt + (-1) := by rw [et53]; exact add_i rfl (by decide) (by omega) (by omega)
                refine lv_iinc (v := t53) (lv' := [(5, .int t53), (4, .int t52), (3, .int t51), (2, .int t8), (6, .int t7), (0, .ref y0), (1, .int p1)]) hx hb dX11_layDress_115 hl (k := 4) rfl (by rw [et53]; rfl) (by decide) rfl (fun ls hl => ?_)
                refine lv_goto (tgt := 15) hx hb dX11_layDress_118 (by decide) ?_
                have rg54 := fb_rng t8
                have rg55 := fb_rng t53
                exact ih3 t8 t51 t52 t53 v3 f37 w3 g3 hIv3 hCf37 hRf37 hq0_v3 hq1_v3 hq2_v3 hq3_v3 hq4_v3 hq5_v3 hq8_v3 hq9_v3 hq10_v3 hq13_v3 hq14_v3 hq15_v3 hq17_v3 hq18_v3 hq24_v3 hq25_v3 hq35_v3 hq36_v3 hq38_v3 hq39_v3 ⟨show (0 : Int) ≤ t8.toInt by omega, show t8.toInt ≤ (2147483647 : Int) by omega⟩ ⟨show (-2147483648 : Int) ≤ t53.toInt by omega, show t53.toInt ≤ (5 : Int) by omega⟩ hM_v3 hA_f37 (by show (t53.toInt + 2147483648).toNat < n3; omega) _ _ _ hP hD hS (lv_sub hl [0, 1, 2, 3, 5, 6] rfl)
              · skip
                have zc47 : ¬ (t46.toInt ≤ (v3 26).toInt) := by rw [fa_le] at c47; exact c47
                have rg56 := fb_rng t46
                have rg57 := fb_rng (v3 26)
                refine lv_iconst (v := (-1)) hx hb dX11_layDress_103 (by decide) ?_
                exact ret (-1) (v3, f37, w3, g3) _ _ _ _ _ _ rfl ⟨hM_v3, hA_f37, hIv3, hCf37, hRf37, (show v3 0 = v 0 from hq0_v3), (show v3 1 = v 1 from hq1_v3), (show v3 2 = v 2 from hq2_v3), (show v3 3 = v 3 from hq3_v3), (show v3 4 = v 4 from hq4_v3), (show v3 5 = v 5 from hq5_v3), (show v3 8 = v 8 from hq8_v3), (show v3 9 = v 9 from hq9_v3), (show v3 10 = v 10 from hq10_v3), (show v3 13 = v 13 from hq13_v3), (show v3 14 = v 14 from hq14_v3), (show v3 15 = v 15 from hq15_v3), (show v3 17 = v 17 from hq17_v3), (show v3 18 = v 18 from hq18_v3), (show v3 24 = v 24 from hq24_v3), (show v3 25 = v 25 from hq25_v3), (show v3 35 = v 35 from hq35_v3), (show v3 36 = v 36 from hq36_v3), (show v3 38 = v 38 from hq38_v3), (show v3 39 = v 39 from hq39_v3)⟩ hP hD hS dX11_layDress_104 (Nat.le_refl _) (Nat.le_refl _)
          · skip
            have zc38 : t7.toInt = (v 25).toInt := by rw [fa_eq] at c38; exact c38
            refine lv_goto (tgt := 115) hx hb dX11_layDress_70 (by decide) ?_
            obtain ⟨t58, et58⟩ : ∃ y : Int32, y = l5_3 + (-1) := ⟨_, rfl⟩
            have rg59 := fb_rng l5_3
            have zt58 : t58.toInt = l5_3.toInt + (-1) := by rw [et58]; exact add_i rfl (by decide) (by omega) (by omega)
            refine lv_iinc (v := t58) (lv' := [(5, .int t58), (2, .int t8), (6, .int t7), (4, .int l4_3), (3, .int l3_3), (0, .ref y0), (1, .int p1)]) hx hb dX11_layDress_115 hl (k := 2) rfl (by rw [et58]; rfl) (by decide) rfl (fun ls hl => ?_)
            refine lv_goto (tgt := 15) hx hb dX11_layDress_118 (by decide) ?_
            have rg60 := fb_rng t8
            have rg61 := fb_rng t58
            exact ih3 t8 l3_3 l4_3 t58 v3 f37 w3 g3 hIv3 hCf37 hRf37 hq0_v3 hq1_v3 hq2_v3 hq3_v3 hq4_v3 hq5_v3 hq8_v3 hq9_v3 hq10_v3 hq13_v3 hq14_v3 hq15_v3 hq17_v3 hq18_v3 hq24_v3 hq25_v3 hq35_v3 hq36_v3 hq38_v3 hq39_v3 ⟨show (0 : Int) ≤ t8.toInt by omega, show t8.toInt ≤ (2147483647 : Int) by omega⟩ ⟨show (-2147483648 : Int) ≤ t58.toInt by omega, show t58.toInt ≤ (5 : Int) by omega⟩ hM_v3 hA_f37 (by show (t58.toInt + 2147483648).toNat < n3; omega) _ _ _ hP hD hS (lv_sub hl [0, 3, 4, 1, 5, 6] rfl)
  have rg62 := fb_rng p1
  have rg63 := fb_rng t1
  exact lp3 _ p1 0 0 t1 v f w g hIv hCf hRf rfl rfl rfl rfl rfl rfl rfl rfl rfl rfl rfl rfl rfl rfl rfl rfl rfl rfl rfl rfl ⟨show (0 : Int) ≤ p1.toInt by omega, show p1.toInt ≤ (2147483647 : Int) by omega⟩ ⟨show (-2147483648 : Int) ≤ t1.toInt by omega, show t1.toInt ≤ (5 : Int) by omega⟩ hM_v hA_f (Nat.lt_succ_self _) _ _ _ hP hD hS (lv_sub hl [0, 1, 2, 3, 4, 5] rfl)
