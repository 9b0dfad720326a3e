set_option maxHeartbeats 4000000 in
set_option maxRecDepth 100000 in
theorem sY_X11_menFor_1 (l : Launch) (dC : Nat → ClassId) (dI : Nat → Nat → Nat) (cy : Nat → ClassId) (y0 : Nat) (r : Nat → Nat) (p1 : Int32) (v : Nat → Int32) (f : Nat → Nat → Int32) (w : Int64) (g : Nat → Int64) (hIv : YI v) (hCf : YC f) (hRf : progOK (f 4) (f 5) (v 9).toInt.toNat) (hp1 : (0 : Int) ≤ p1.toInt ∧ p1.toInt ≤ 5) : ctI l (dC, dI) cy yX11_menFor cX11_menFor 4 .int 5 148 0 0 ((Nat → Int32) × (Nat → Nat → Int32) × (Int64) × (Nat → Int64)) [.ref y0, .int p1] (YW cy y0 r v f w g) (fun r u => KV [] u.1 v ∧ KF [7, 8] u.2.1 f ∧ YI u.1 ∧ YC u.2.1 ∧ progOK (u.2.1 4) (u.2.1 5) (u.1 9).toInt.toNat ∧ u.1 0 = v 0 ∧ u.1 1 = v 1 ∧ u.1 2 = v 2 ∧ u.1 3 = v 3 ∧ u.1 4 = v 4 ∧ u.1 5 = v 5 ∧ u.1 8 = v 8 ∧ u.1 9 = v 9 ∧ u.1 10 = v 10 ∧ u.1 13 = v 13 ∧ u.1 14 = v 14 ∧ u.1 15 = v 15 ∧ u.1 17 = v 17 ∧ u.1 18 = v 18 ∧ u.1 24 = v 24 ∧ u.1 25 = v 25 ∧ u.1 35 = v 35 ∧ u.1 36 = v 36 ∧ u.1 38 = v 38 ∧ u.1 39 = v 39) (fun u => YW cy y0 r u.1 u.2.1 u.2.2.1 u.2.2.2) := by
  refine ctI_of (by decide) (Nat.le_of_ble_eq_true rfl) (fun p e s m below meth c A ls Q hx hb hml hts hown hE hP hD hA hl ret => ?_)
  have hUv : (v 35).toInt + (v 36).toInt ≤ 40 := hIv.2
  have hM_v : KV [] v v := fun _ _ => rfl
  have hA_f : KF [7, 8] f f := fun _ _ => rfl
  have hown : s.vm.findClass RX11 = some m.cls := hown
  have hS : va_S A s.heap s.heap [] := va_S.rf
  have hl : lv_has ls 4 [(0, .ref y0), (1, .int p1)] := hl
  refine lv_iconst (v := 0) hx hb dX11_menFor_0 (by decide) ?_
  refine lv_istore_n (lv' := [(2, .int 0), (0, .ref y0), (1, .int p1)]) hx hb dX11_menFor_1 rfl hl (by decide) rfl (fun ls hl => ?_)
  refine lv_iconst (v := 0) hx hb dX11_menFor_2 (by decide) ?_
  refine lv_istore_n (lv' := [(3, .int 0), (2, .int 0), (0, .ref y0), (1, .int p1)]) hx hb dX11_menFor_3 rfl hl (by decide) rfl (fun ls hl => ?_)
  have lp1 : ∀ (n1 : Nat) (l2_1 : Int32) (l3_1 : Int32) (v1 : Nat → Int32) (f1 : Nat → Nat → Int32) (w1 : Int64) (g1 : Nat → Int64), YI v1 → YC f1 → progOK (f1 4) (f1 5) (v1 9).toInt.toNat → v1 0 = (v 0) → v1 1 = (v 1) → v1 2 = (v 2) → v1 3 = (v 3) → v1 4 = (v 4) → v1 5 = (v 5) → v1 8 = (v 8) → v1 9 = (v 9) → v1 10 = (v 10) → v1 13 = (v 13) → v1 14 = (v 14) → v1 15 = (v 15) → v1 17 = (v 17) → v1 18 = (v 18) → v1 24 = (v 24) → v1 25 = (v 25) → v1 35 = (v 35) → v1 36 = (v 36) → v1 38 = (v 38) → v1 39 = (v 39) → ((0 : Int) ≤ l3_1.toInt ∧ l3_1.toInt ≤ 2147483647) → KV [] v1 v → KF [7, 8] f1 f → (2147483647 - l3_1.toInt).toNat < n1 → ∀ (H : Heap) (locs : List Loc) (ls : Array Slot), va_P (dC, dI) vwCl (YW cy y0 r v1 f1 w1 g1) H → va_D A (YW cy y0 r v1 f1 w1 g1) → va_S A s.heap H locs → lv_has ls 4 [(3, .int l3_1), (2, .int l2_1), (0, .ref y0), (1, .int p1)] → W p l e { frames := 5, cells := 0, slots := 0, locals := 148 } s m ([.ref y0, .int p1] : List Value).toArray below meth c H locs 0 0 Q (F0 m 4 ls []) := by
    intro n1
    induction n1 with
    | zero => intro l2_1 l3_1 v1 f1 w1 g1 hIv1 hCf1 hRf1 hq0_v1 hq1_v1 hq2_v1 hq3_v1 hq4_v1 hq5_v1 hq8_v1 hq9_v1 hq10_v1 hq13_v1 hq14_v1 hq15_v1 hq17_v1 hq18_v1 hq24_v1 hq25_v1 hq35_v1 hq36_v1 hq38_v1 hq39_v1 hr3_1 hM_v1 hA_f1 hm; exact absurd hm (Nat.not_lt_zero _)
    | succ n1 ih1 =>
      intro l2_1 l3_1 v1 f1 w1 g1 hIv1 hCf1 hRf1 hq0_v1 hq1_v1 hq2_v1 hq3_v1 hq4_v1 hq5_v1 hq8_v1 hq9_v1 hq10_v1 hq13_v1 hq14_v1 hq15_v1 hq17_v1 hq18_v1 hq24_v1 hq25_v1 hq35_v1 hq36_v1 hq38_v1 hq39_v1 hr3_1 hM_v1 hA_f1 hm1 H locs ls hP hD hS hl
      have hUv1 : (v1 35).toInt + (v1 36).toInt ≤ 40 := hIv1.2
      have zq9_v1 := congrArg Int32.toInt hq9_v1
      refine lv_iload_n hx hb dX11_menFor_4 rfl (lv_at hl 0 rfl) ?_
      refine lv_aload_n hx hb dX11_menFor_5 rfl (lv_at hl 2 rfl) ?_
      refine va_get (D := (dC, dI)) (ci := 11) (v := .int (v1 24)) (C := RX11) (T := TX11) (N := 79) hx hb hts inB_11 hown hE.1 hP 0 rfl rfl 48 (by decide) (hts _ k_1368) (fun _ h9 => h9) rfl dX11_menFor_6 ?_
      refine tI (y := (v 24)) hq24_v1 ?_
      have b24_v : 0 ≤ (v 24).toInt ∧ (v 24).toInt ≤ 6 := YIb.b hIv.1 24 (by decide)
      refine lv_icmp_ge (tgt := 30) hx hb dX11_menFor_9 (by decide) (fun c2 => ?_) (fun c2 => ?_)
      · skip
        have zc2 : (v 24).toInt ≤ l3_1.toInt := by rw [fa_le] at c2; exact c2
        have rg3 := fb_rng l3_1
        have rg4 := fb_rng (v 24)
        refine lv_iload_n hx hb dX11_menFor_30 rfl (lv_at hl 1 rfl) ?_
        exact ret l2_1 (v1, f1, w1, g1) _ _ _ _ _ _ rfl ⟨hM_v1, hA_f1, hIv1, hCf1, hRf1, (show v1 0 = v 0 from hq0_v1), (show v1 1 = v 1 from hq1_v1), (show v1 2 = v 2 from hq2_v1), (show v1 3 = v 3 from hq3_v1), (show v1 4 = v 4 from hq4_v1), (show v1 5 = v 5 from hq5_v1), (show v1 8 = v 8 from hq8_v1), (show v1 9 = v 9 from hq9_v1), (show v1 10 = v 10 from hq10_v1), (show v1 13 = v 13 from hq13_v1), (show v1 14 = v 14 from hq14_v1), (show v1 15 = v 15 from hq15_v1), (show v1 17 = v 17 from hq17_v1), (show v1 18 = v 18 from hq18_v1), (show v1 24 = v 24 from hq24_v1), (show v1 25 = v 25 from hq25_v1), (show v1 35 = v 35 from hq35_v1), (show v1 36 = v 36 from hq36_v1), (show v1 38 = v 38 from hq38_v1), (show v1 39 = v 39 from hq39_v1)⟩ hP hD hS dX11_menFor_31 (Nat.le_refl _) (Nat.le_refl _)
      · skip
        have zc2 : ¬ ((v 24).toInt ≤ l3_1.toInt) := by rw [fa_le] at c2; exact c2
        have rg5 := fb_rng l3_1
        have rg6 := fb_rng (v 24)
        refine lv_iload_n hx hb dX11_menFor_12 rfl (lv_at hl 1 rfl) ?_
        refine lv_aload_n hx hb dX11_menFor_13 rfl (lv_at hl 2 rfl) ?_
        refine lv_iload_n hx hb dX11_menFor_14 rfl (lv_at hl 0 rfl) ?_
        refine lv_iload_n hx hb dX11_menFor_15 rfl (lv_at hl 3 rfl) ?_
        refine cbVi (n := 2) (rest := [.int l2_1]) hx hb hml hown hts hE hP hD hS hA (sY_X11_fits_1 0 l dC dI cy y0 r l3_1 p1 v1 f1 w1 g1 hIv1 hCf1 hRf1 ⟨show (0 : Int) ≤ l3_1.toInt by omega, show l3_1.toInt ≤ (5 : Int) by omega⟩ ⟨show (-1 : Int) ≤ p1.toInt by omega, show p1.toInt ≤ (5 : Int) by omega⟩) k_1747 k_1749 k_73 k_114 k_1750 (by decide +kernel) ⟨Nat.le_of_ble_eq_true rfl, Nat.le_of_ble_eq_true rfl⟩ 0 11 rfl rfl (rfl) hl.1 rfl (Nat.le_of_ble_eq_true rfl) dX11_menFor_16 (fun r7 u H locs hw hP hD hS => ?_)
        obtain ⟨hG8, hw⟩ := hw
        obtain ⟨v9, f10, w11, g12⟩ := u
        obtain ⟨kV_v9, kF_f10, hIv9, hCf10, hRf10, hk0_v9, hk1_v9, hk2_v9, hk3_v9, hk4_v9, hk5_v9, hk8_v9, hk9_v9, hk10_v9, hk13_v9, hk14_v9, hk15_v9, hk17_v9, hk18_v9, hk24_v9, hk25_v9, hk35_v9, hk36_v9, hk38_v9, hk39_v9, hw⟩ := hw
        have hM_v9 : KV [] v9 v := KV.tr kV_v9 hM_v1 rfl
        have hA_f10 : KF [7, 8] f10 f := KF.tr kF_f10 hA_f1 rfl
        have hP : va_P (dC, dI) vwCl (YW cy y0 r v9 f10 w11 g12) H := hP
        have hD : va_D A (YW cy y0 r v9 f10 w11 g12) := hD
        have hUv9 : (v9 35).toInt + (v9 36).toInt ≤ 40 := hIv9.2
        have hq0_v9 : v9 0 = (v 0) := hk0_v9.trans hq0_v1
        have hq1_v9 : v9 1 = (v 1) := hk1_v9.trans hq1_v1
        have hq2_v9 : v9 2 = (v 2) := hk2_v9.trans hq2_v1
        have hq3_v9 : v9 3 = (v 3) := hk3_v9.trans hq3_v1
        have hq4_v9 : v9 4 = (v 4) := hk4_v9.trans hq4_v1
        have hq5_v9 : v9 5 = (v 5) := hk5_v9.trans hq5_v1
        have hq8_v9 : v9 8 = (v 8) := hk8_v9.trans hq8_v1
        have hq9_v9 : v9 9 = (v 9) := hk9_v9.trans hq9_v1
        have zq9_v9 := congrArg Int32.toInt hq9_v9
        have hq10_v9 : v9 10 = (v 10) := hk10_v9.trans hq10_v1
        have hq13_v9 : v9 13 = (v 13) := hk13_v9.trans hq13_v1
        have hq14_v9 : v9 14 = (v 14) := hk14_v9.trans hq14_v1
        have hq15_v9 : v9 15 = (v 15) := hk15_v9.trans hq15_v1
        have hq17_v9 : v9 17 = (v 17) := hk17_v9.trans hq17_v1
        have hq18_v9 : v9 18 = (v 18) := hk18_v9.trans hq18_v1
        have hq24_v9 : v9 24 = (v 24) := hk24_v9.trans hq24_v1
        have hq25_v9 : v9 25 = (v 25) := hk25_v9.trans hq25_v1
        have hq35_v9 : v9 35 = (v 35) := hk35_v9.trans hq35_v1
        have hq36_v9 : v9 36 = (v 36) := hk36_v9.trans hq36_v1
        have hq38_v9 : v9 38 = (v 38) := hk38_v9.trans hq38_v1
        have hq39_v9 : v9 39 = (v 39) := hk39_v9.trans hq39_v1
        rcases hw with ⟨g13⟩ | ⟨g13⟩
        · skip
          subst g13
          have lt14 : (1 : Int32).toInt = 1 := by decide
          refine cbSi (n := 1) (rest := [.int l2_1]) hx hb hml hown hts hE hP hD hS hA (sY_X11_truth_1 0 l dC dI cy y0 r 1 v9 f10 w11 g12 hIv9 hCf10 hRf10 ) k_1761 k_1762 k_114 k_1763 (by decide +kernel) ⟨Nat.le_of_ble_eq_true rfl, Nat.le_of_ble_eq_true rfl⟩ (rfl) hl.1 rfl (Nat.le_of_ble_eq_true rfl) dX11_menFor_19 (fun r15 u H locs hw hP hD hS => ?_)
          obtain ⟨hG16, hw⟩ := hw
          refine lv_iadd hx hb dX11_menFor_22 ?_
          refine lv_topi (fun t17 et17 => ?_)
          refine lv_istore_n (lv' := [(2, .int t17), (3, .int l3_1), (0, .ref y0), (1, .int p1)]) hx hb dX11_menFor_23 rfl hl (by decide) rfl (fun ls hl => ?_)
          obtain ⟨t18, et18⟩ : ∃ y : Int32, y = l3_1 + 1 := ⟨_, rfl⟩
          have zt18 : t18.toInt = l3_1.toInt + 1 := by rw [et18]; exact add_i rfl (by decide) (by omega) (by omega)
          refine lv_iinc (v := t18) (lv' := [(3, .int t18), (2, .int t17), (0, .ref y0), (1, .int p1)]) hx hb dX11_menFor_24 hl (k := 1) rfl (by rw [et18]; rfl) (by decide) rfl (fun ls hl => ?_)
          refine lv_goto (tgt := 4) hx hb dX11_menFor_27 (by decide) ?_
          have rg19 := fb_rng t18
          exact ih1 t17 t18 v9 f10 w11 g12 hIv9 hCf10 hRf10 hq0_v9 hq1_v9 hq2_v9 hq3_v9 hq4_v9 hq5_v9 hq8_v9 hq9_v9 hq10_v9 hq13_v9 hq14_v9 hq15_v9 hq17_v9 hq18_v9 hq24_v9 hq25_v9 hq35_v9 hq36_v9 hq38_v9 hq39_v9 ⟨show (0 : Int) ≤ t18.toInt by omega, show t18.toInt ≤ (2147483647 : Int) by omega⟩ hM_v9 hA_f10 (by show (2147483647 - t18.toInt).toNat < n1; omega) _ _ _ hP hD hS (lv_sub hl [0, 1, 2, 3] rfl)
        · skip
          subst g13
          have lt20 : (0 : Int32).toInt = 0 := by decide
          refine cbSi (n := 1) (rest := [.int l2_1]) hx hb hml hown hts hE hP hD hS hA (sY_X11_truth_1 0 l dC dI cy y0 r 0 v9 f10 w11 g12 hIv9 hCf10 hRf10 ) k_1761 k_1762 k_114 k_1763 (by decide +kernel) ⟨Nat.le_of_ble_eq_true rfl, Nat.le_of_ble_eq_true rfl⟩ (rfl) hl.1 rfl (Nat.le_of_ble_eq_true rfl) dX11_menFor_19 (fun r21 u H locs hw hP hD hS => ?_)
          obtain ⟨hG22, hw⟩ := hw
          refine lv_iadd hx hb dX11_menFor_22 ?_
          refine lv_topi (fun t23 et23 => ?_)
          refine lv_istore_n (lv' := [(2, .int t23), (3, .int l3_1), (0, .ref y0), (1, .int p1)]) hx hb dX11_menFor_23 rfl hl (by decide) rfl (fun ls hl => ?_)
          obtain ⟨t24, et24⟩ : ∃ y : Int32, y = l3_1 + 1 := ⟨_, rfl⟩
          have zt24 : t24.toInt = l3_1.toInt + 1 := by rw [et24]; exact add_i rfl (by decide) (by omega) (by omega)
          refine lv_iinc (v := t24) (lv' := [(3, .int t24), (2, .int t23), (0, .ref y0), (1, .int p1)]) hx hb dX11_menFor_24 hl (k := 1) rfl (by rw [et24]; rfl) (by decide) rfl (fun ls hl => ?_)
          refine lv_goto (tgt := 4) hx hb dX11_menFor_27 (by decide) ?_
          have rg25 := fb_rng t24
          exact ih1 t23 t24 v9 f10 w11 g12 hIv9 hCf10 hRf10 hq0_v9 hq1_v9 hq2_v9 hq3_v9 hq4_v9 hq5_v9 hq8_v9 hq9_v9 hq10_v9 hq13_v9 hq14_v9 hq15_v9 hq17_v9 hq18_v9 hq24_v9 hq25_v9 hq35_v9 hq36_v9 hq38_v9 hq39_v9 ⟨show (0 : Int) ≤ t24.toInt by omega, show t24.toInt ≤ (2147483647 : Int) by omega⟩ hM_v9 hA_f10 (by show (2147483647 - t24.toInt).toNat < n1; omega) _ _ _ hP hD hS (lv_sub hl [0, 1, 2, 3] rfl)
  exact lp1 _ 0 0 v f w g hIv hCf hRf rfl rfl rfl rfl rfl rfl rfl rfl rfl rfl rfl rfl rfl rfl rfl rfl rfl rfl rfl rfl ⟨by decide, by decide⟩ hM_v hA_f (Nat.lt_succ_self _) _ _ _ hP hD hS (lv_sub hl [0, 1, 2, 3] rfl)
set_option maxHeartbeats 4000000 in
set_option maxRecDepth 100000 in
theorem sY_X11_rags_1 (l : Launch) (dC : Nat → ClassId) (dI : Nat → Nat → Nat) (cy : Nat → ClassId) (y0 : Nat) (r : Nat → Nat)  (v : Nat → Int32) (f : Nat → Nat → Int32) (w : Int64) (g : Nat → Int64) (hIv : YI v) (hCf : YC f) (hRf : progOK (f 4) (f 5) (v 9).toInt.toNat)  : ctI l (dC, dI) cy yX11_rags cX11_rags 3 .int 6 171 0 0 ((Nat → Int32) × (Nat → Nat → Int32) × (Int64) × (Nat → Int64)) [.ref y0] (YW cy y0 r v f w g) (fun r u => KV [] u.1 v ∧ KF [7, 8, 24] u.2.1 f ∧ YI u.1 ∧ YC u.2.1 ∧ progOK (u.2.1 4) (u.2.1 5) (u.1 9).toInt.toNat ∧ u.1 0 = v 0 ∧ u.1 1 = v 1 ∧ u.1 2 = v 2 ∧ u.1 3 = v 3 ∧ u.1 4 = v 4 ∧ u.1 5 = v 5 ∧ u.1 8 = v 8 ∧ u.1 9 = v 9 ∧ u.1 10 = v 10 ∧ u.1 13 = v 13 ∧ u.1 14 = v 14 ∧ u.1 15 = v 15 ∧ u.1 17 = v 17 ∧ u.1 18 = v 18 ∧ u.1 24 = v 24 ∧ u.1 25 = v 25 ∧ u.1 35 = v 35 ∧ u.1 36 = v 36 ∧ u.1 38 = v 38 ∧ u.1 39 = v 39) (fun u => YW cy y0 r u.1 u.2.1 u.2.2.1 u.2.2.2) := by
  refine ctI_of (by decide) (Nat.le_of_ble_eq_true rfl) (fun p e s m below meth c A ls Q hx hb hml hts hown hE hP hD hA hl ret => ?_)
  have hUv : (v 35).toInt + (v 36).toInt ≤ 40 := hIv.2
  have hM_v : KV [] v v := fun _ _ => rfl
  have hA_f : KF [7, 8, 24] f f := fun _ _ => rfl
  have hown : s.vm.findClass RX11 = some m.cls := hown
  have hS : va_S A s.heap s.heap [] := va_S.rf
  have hl : lv_has ls 3 [(0, .ref y0)] := hl
  refine lv_aload_n hx hb dX11_rags_0 rfl (lv_at hl 0 rfl) ?_
  refine cbVv (n := 0) (rest := []) hx hb hml hown hts hE hP hD hS hA (sY_X11_fill_1 0 l dC dI cy y0 r  v f w g hIv hCf hRf ) k_1739 k_1741 k_71 k_114 k_1742 (by decide +kernel) ⟨Nat.le_of_ble_eq_true rfl, Nat.le_of_ble_eq_true rfl⟩ 0 11 rfl rfl (rfl) hl.1 rfl (Nat.le_of_ble_eq_true rfl) dX11_rags_1 (fun u H locs hw hP hD hS => ?_)
  obtain ⟨hG1, hw⟩ := hw
  obtain ⟨v2, f3, w4, g5⟩ := u
  obtain ⟨kV_v2, kF_f3, hIv2, hCf3, hRf3, hk0_v2, hk1_v2, hk2_v2, hk3_v2, hk4_v2, hk5_v2, hk8_v2, hk9_v2, hk10_v2, hk13_v2, hk14_v2, hk15_v2, hk17_v2, hk18_v2, hk24_v2, hk25_v2, hk35_v2, hk36_v2, hk38_v2, hk39_v2⟩ := hw
  have hM_v2 : KV [] v2 v := KV.tr kV_v2 hM_v rfl
  have hA_f3 : KF [7, 8, 24] f3 f := KF.tr kF_f3 hA_f rfl
  have hP : va_P (dC, dI) vwCl (YW cy y0 r v2 f3 w4 g5) H := hP
  have hD : va_D A (YW cy y0 r v2 f3 w4 g5) := hD
  have hUv2 : (v2 35).toInt + (v2 36).toInt ≤ 40 := hIv2.2
  have hq0_v2 : v2 0 = (v 0) := hk0_v2
  have hq1_v2 : v2 1 = (v 1) := hk1_v2
  have hq2_v2 : v2 2 = (v 2) := hk2_v2
  have hq3_v2 : v2 3 = (v 3) := hk3_v2
  have hq4_v2 : v2 4 = (v 4) := hk4_v2
  have hq5_v2 : v2 5 = (v 5) := hk5_v2
  have hq8_v2 : v2 8 = (v 8) := hk8_v2
  have hq9_v2 : v2 9 = (v 9) := hk9_v2
  have zq9_v2 := congrArg Int32.toInt hq9_v2
  have hq10_v2 : v2 10 = (v 10) := hk10_v2
  have hq13_v2 : v2 13 = (v 13) := hk13_v2
  have hq14_v2 : v2 14 = (v 14) := hk14_v2
  have hq15_v2 : v2 15 = (v 15) := hk15_v2
  have hq17_v2 : v2 17 = (v 17) := hk17_v2
  have hq18_v2 : v2 18 = (v 18) := hk18_v2
  have hq24_v2 : v2 24 = (v 24) := hk24_v2
  have hq25_v2 : v2 25 = (v 25) := hk25_v2
  have hq35_v2 : v2 35 = (v 35) := hk35_v2
  have hq36_v2 : v2 36 = (v 36) := hk36_v2
  have hq38_v2 : v2 38 = (v 38) := hk38_v2
  have hq39_v2 : v2 39 = (v 39) := hk39_v2
  refine lv_iconst (v := 0) hx hb dX11_rags_4 (by decide) ?_
  refine lv_istore_n (lv' := [(1, .int 0), (0, .ref y0)]) hx hb dX11_rags_5 rfl hl (by decide) rfl (fun ls hl => ?_)
  refine lv_iconst (v := 0) hx hb dX11_rags_6 (by decide) ?_
  refine lv_istore_n (lv' := [(2, .int 0), (1, .int 0), (0, .ref y0)]) hx hb dX11_rags_7 rfl hl (by decide) rfl (fun ls hl => ?_)
  have lp6 : ∀ (n6 : Nat) (l1_6 : Int32) (l2_6 : Int32) (v6 : Nat → Int32) (f6 : Nat → Nat → Int32) (w6 : Int64) (g6 : Nat → Int64), YI v6 → YC f6 → progOK (f6 4) (f6 5) (v6 9).toInt.toNat → v6 0 = (v 0) → v6 1 = (v 1) → v6 2 = (v 2) → v6 3 = (v 3) → v6 4 = (v 4) → v6 5 = (v 5) → v6 8 = (v 8) → v6 9 = (v 9) → v6 10 = (v 10) → v6 13 = (v 13) → v6 14 = (v 14) → v6 15 = (v 15) → v6 17 = (v 17) → v6 18 = (v 18) → v6 24 = (v 24) → v6 25 = (v 25) → v6 35 = (v 35) → v6 36 = (v 36) → v6 38 = (v 38) → v6 39 = (v 39) → ((0 : Int) ≤ l2_6.toInt ∧ l2_6.toInt ≤ 2147483647) → KV [] v6 v → KF [7, 8, 24] f6 f → (2147483647 - l2_6.toInt).toNat < n6 → ∀ (H : Heap) (locs : List Loc) (ls : Array Slot), va_P (dC, dI) vwCl (YW cy y0 r v6 f6 w6 g6) H → va_D A (YW cy y0 r v6 f6 w6 g6) → va_S A s.heap H locs → lv_has ls 3 [(2, .int l2_6), (1, .int l1_6), (0, .ref y0)] → W p l e { frames := 6, cells := 0, slots := 0, locals := 171 } s m ([.ref y0] : List Value).toArray below meth c H locs 0 0 Q (F0 m 8 ls []) := by
    intro n6
    induction n6 with
    | zero => intro l1_6 l2_6 v6 f6 w6 g6 hIv6 hCf6 hRf6 hq0_v6 hq1_v6 hq2_v6 hq3_v6 hq4_v6 hq5_v6 hq8_v6 hq9_v6 hq10_v6 hq13_v6 hq14_v6 hq15_v6 hq17_v6 hq18_v6 hq24_v6 hq25_v6 hq35_v6 hq36_v6 hq38_v6 hq39_v6 hr2_6 hM_v6 hA_f6 hm; exact absurd hm (Nat.not_lt_zero _)
    | succ n6 ih6 =>
      intro l1_6 l2_6 v6 f6 w6 g6 hIv6 hCf6 hRf6 hq0_v6 hq1_v6 hq2_v6 hq3_v6 hq4_v6 hq5_v6 hq8_v6 hq9_v6 hq10_v6 hq13_v6 hq14_v6 hq15_v6 hq17_v6 hq18_v6 hq24_v6 hq25_v6 hq35_v6 hq36_v6 hq38_v6 hq39_v6 hr2_6 hM_v6 hA_f6 hm6 H locs ls hP hD hS hl
      have hUv6 : (v6 35).toInt + (v6 36).toInt ≤ 40 := hIv6.2
      have zq9_v6 := congrArg Int32.toInt hq9_v6
      refine lv_iload_n hx hb dX11_rags_8 rfl (lv_at hl 0 rfl) ?_
      refine lv_aload_n hx hb dX11_rags_9 rfl (lv_at hl 2 rfl) ?_
      refine va_get (D := (dC, dI)) (ci := 11) (v := .int (v6 25)) (C := RX11) (T := TX11) (N := 79) hx hb hts inB_11 hown hE.1 hP 0 rfl rfl 49 (by decide) (hts _ k_1369) (fun _ h9 => h9) rfl dX11_rags_10 ?_
      refine tI (y := (v 25)) hq25_v6 ?_
      have b25_v : 0 ≤ (v 25).toInt ∧ (v 25).toInt ≤ 6 := YIb.b hIv.1 25 (by decide)
      refine lv_icmp_ge (tgt := 43) hx hb dX11_rags_13 (by decide) (fun c7 => ?_) (fun c7 => ?_)
      · skip
        have zc7 : (v 25).toInt ≤ l2_6.toInt := by rw [fa_le] at c7; exact c7
        have rg8 := fb_rng l2_6
        have rg9 := fb_rng (v 25)
        refine lv_iload_n hx hb dX11_rags_43 rfl (lv_at hl 1 rfl) ?_
        exact ret l1_6 (v6, f6, w6, g6) _ _ _ _ _ _ rfl ⟨hM_v6, hA_f6, hIv6, hCf6, hRf6, hq0_v6, hq1_v6, hq2_v6, hq3_v6, hq4_v6, hq5_v6, hq8_v6, hq9_v6, hq10_v6, hq13_v6, hq14_v6, hq15_v6, hq17_v6, hq18_v6, hq24_v6, hq25_v6, hq35_v6, hq36_v6, hq38_v6, hq39_v6⟩ hP hD hS dX11_rags_44 (Nat.le_refl _) (Nat.le_refl _)
      · skip
        have zc7 : ¬ ((v 25).toInt ≤ l2_6.toInt) := by rw [fa_le] at c7; exact c7
        have rg10 := fb_rng l2_6
        have rg11 := fb_rng (v 25)
        refine lv_iload_n hx hb dX11_rags_16 rfl (lv_at hl 1 rfl) ?_
        refine lv_aload_n hx hb dX11_rags_17 rfl (lv_at hl 2 rfl) ?_
        refine lv_iload_n hx hb dX11_rags_18 rfl (lv_at hl 0 rfl) ?_
        refine cbVi (n := 1) (rest := [.int l1_6]) hx hb hml hown hts hE hP hD hS hA (sY_X11_menFor_1 l dC dI cy y0 r l2_6 v6 f6 w6 g6 hIv6 hCf6 hRf6 ⟨show (0 : Int) ≤ l2_6.toInt by omega, show l2_6.toInt ≤ (5 : Int) by omega⟩) k_1968 k_1970 k_95 k_114 k_1971 (by decide +kernel) ⟨Nat.le_of_ble_eq_true rfl, Nat.le_of_ble_eq_true rfl⟩ 0 11 rfl rfl (rfl) hl.1 rfl (Nat.le_of_ble_eq_true rfl) dX11_rags_19 (fun r12 u H locs hw hP hD hS => ?_)
        obtain ⟨v13, f14, w15, g16⟩ := u
        obtain ⟨kV_v13, kF_f14, hIv13, hCf14, hRf14, hk0_v13, hk1_v13, hk2_v13, hk3_v13, hk4_v13, hk5_v13, hk8_v13, hk9_v13, hk10_v13, hk13_v13, hk14_v13, hk15_v13, hk17_v13, hk18_v13, hk24_v13, hk25_v13, hk35_v13, hk36_v13, hk38_v13, hk39_v13⟩ := hw
        have hM_v13 : KV [] v13 v := KV.tr kV_v13 hM_v6 rfl
        have hA_f14 : KF [7, 8, 24] f14 f := KF.tr kF_f14 hA_f6 rfl
        have hP : va_P (dC, dI) vwCl (YW cy y0 r v13 f14 w15 g16) H := hP
        have hD : va_D A (YW cy y0 r v13 f14 w15 g16) := hD
        have hUv13 : (v13 35).toInt + (v13 36).toInt ≤ 40 := hIv13.2
        have hq0_v13 : v13 0 = (v 0) := hk0_v13.trans hq0_v6
        have hq1_v13 : v13 1 = (v 1) := hk1_v13.trans hq1_v6
        have hq2_v13 : v13 2 = (v 2) := hk2_v13.trans hq2_v6
        have hq3_v13 : v13 3 = (v 3) := hk3_v13.trans hq3_v6
        have hq4_v13 : v13 4 = (v 4) := hk4_v13.trans hq4_v6
        have hq5_v13 : v13 5 = (v 5) := hk5_v13.trans hq5_v6
        have hq8_v13 : v13 8 = (v 8) := hk8_v13.trans hq8_v6
        have hq9_v13 : v13 9 = (v 9) := hk9_v13.trans hq9_v6
        have zq9_v13 := congrArg Int32.toInt hq9_v13
        have hq10_v13 : v13 10 = (v 10) := hk10_v13.trans hq10_v6
        have hq13_v13 : v13 13 = (v 13) := hk13_v13.trans hq13_v6
        have hq14_v13 : v13 14 = (v 14) := hk14_v13.trans hq14_v6
        have hq15_v13 : v13 15 = (v 15) := hk15_v13.trans hq15_v6
        have hq17_v13 : v13 17 = (v 17) := hk17_v13.trans hq17_v6
        have hq18_v13 : v13 18 = (v 18) := hk18_v13.trans hq18_v6
        have hq24_v13 : v13 24 = (v 24) := hk24_v13.trans hq24_v6
        have hq25_v13 : v13 25 = (v 25) := hk25_v13.trans hq25_v6
        have hq35_v13 : v13 35 = (v 35) := hk35_v13.trans hq35_v6
        have hq36_v13 : v13 36 = (v 36) := hk36_v13.trans hq36_v6
        have hq38_v13 : v13 38 = (v 38) := hk38_v13.trans hq38_v6
        have hq39_v13 : v13 39 = (v 39) := hk39_v13.trans hq39_v6
        refine lv_if_ne (tgt := 29) hx hb dX11_rags_22 (by decide) (fun c17 => ?_) (fun c17 => ?_)
        · skip
          have zc17 : ¬ (r12.toInt = 0) := by rw [fa_eq, show (0 : Int32).toInt = 0 from by decide] at c17; exact c17
          refine lv_iconst (v := 0) hx hb dX11_rags_29 (by decide) ?_
          have lt18 : (0 : Int32).toInt = 0 := by decide
          refine cbSi (n := 1) (rest := [.int l1_6]) hx hb hml hown hts hE hP hD hS hA (sY_X11_truth_1 0 l dC dI cy y0 r 0 v13 f14 w15 g16 hIv13 hCf14 hRf14 ) k_1761 k_1762 k_114 k_1763 (by decide +kernel) ⟨Nat.le_of_ble_eq_true rfl, Nat.le_of_ble_eq_true rfl⟩ (rfl) hl.1 rfl (Nat.le_of_ble_eq_true rfl) dX11_rags_30 (fun r19 u H locs hw hP hD hS => ?_)
          obtain ⟨hG20, hw⟩ := hw
          refine lv_iload_n hx hb dX11_rags_33 rfl (lv_at hl 0 rfl) ?_
          refine lv_ishl hx hb dX11_rags_34 ?_
          refine lv_topi (fun t21 et21 => ?_)
          have zt21 : 0 ≤ t21.toInt ∧ t21.toInt ≤ 32 := by rw [et21]; exact shl01_rng (by omega) (by omega) (by omega) (by omega)
          refine lv_ior hx hb dX11_rags_35 ?_
          refine lv_topi (fun t22 et22 => ?_)
          refine lv_istore_n (lv' := [(1, .int t22), (2, .int l2_6), (0, .ref y0)]) hx hb dX11_rags_36 rfl hl (by decide) rfl (fun ls hl => ?_)
          obtain ⟨t23, et23⟩ : ∃ y : Int32, y = l2_6 + 1 := ⟨_, rfl⟩
          have zt23 : t23.toInt = l2_6.toInt + 1 := by rw [et23]; exact add_i rfl (by decide) (by omega) (by omega)
          refine lv_iinc (v := t23) (lv' := [(2, .int t23), (1, .int t22), (0, .ref y0)]) hx hb dX11_rags_37 hl (k := 1) rfl (by rw [et23]; rfl) (by decide) rfl (fun ls hl => ?_)
          refine lv_goto (tgt := 8) hx hb dX11_rags_40 (by decide) ?_
          have rg24 := fb_rng t23
          exact ih6 t22 t23 v13 f14 w15 g16 hIv13 hCf14 hRf14 hq0_v13 hq1_v13 hq2_v13 hq3_v13 hq4_v13 hq5_v13 hq8_v13 hq9_v13 hq10_v13 hq13_v13 hq14_v13 hq15_v13 hq17_v13 hq18_v13 hq24_v13 hq25_v13 hq35_v13 hq36_v13 hq38_v13 hq39_v13 ⟨show (0 : Int) ≤ t23.toInt by omega, show t23.toInt ≤ (2147483647 : Int) by omega⟩ hM_v13 hA_f14 (by show (2147483647 - t23.toInt).toNat < n6; omega) _ _ _ hP hD hS (lv_sub hl [0, 1, 2] rfl)
        · skip
          have zc17 : r12.toInt = 0 := by rw [fa_eq, show (0 : Int32).toInt = 0 from by decide] at c17; exact c17
          refine lv_iconst (v := 1) hx hb dX11_rags_25 (by decide) ?_
          refine lv_goto (tgt := 30) hx hb dX11_rags_26 (by decide) ?_
          have lt25 : (1 : Int32).toInt = 1 := by decide
          refine cbSi (n := 1) (rest := [.int l1_6]) hx hb hml hown hts hE hP hD hS hA (sY_X11_truth_1 0 l dC dI cy y0 r 1 v13 f14 w15 g16 hIv13 hCf14 hRf14 ) k_1761 k_1762 k_114 k_1763 (by decide +kernel) ⟨Nat.le_of_ble_eq_true rfl, Nat.le_of_ble_eq_true rfl⟩ (rfl) hl.1 rfl (Nat.le_of_ble_eq_true rfl) dX11_rags_30 (fun r26 u H locs hw hP hD hS => ?_)
          obtain ⟨hG27, hw⟩ := hw
          refine lv_iload_n hx hb dX11_rags_33 rfl (lv_at hl 0 rfl) ?_
          refine lv_ishl hx hb dX11_rags_34 ?_
          refine lv_topi (fun t28 et28 => ?_)
          have zt28 : 0 ≤ t28.toInt ∧ t28.toInt ≤ 32 := by rw [et28]; exact shl01_rng (by omega) (by omega) (by omega) (by omega)
          refine lv_ior hx hb dX11_rags_35 ?_
          refine lv_topi (fun t29 et29 => ?_)
          refine lv_istore_n (lv' := [(1, .int t29), (2, .int l2_6), (0, .ref y0)]) hx hb dX11_rags_36 rfl hl (by decide) rfl (fun ls hl => ?_)
          obtain ⟨t30, et30⟩ : ∃ y : Int32, y = l2_6 + 1 := ⟨_, rfl⟩
          have zt30 : t30.toInt = l2_6.toInt + 1 := by rw [et30]; exact add_i rfl (by decide) (by omega) (by omega)
          refine lv_iinc (v := t30) (lv' := [(2, .int t30), (1, .int t29), (0, .ref y0)]) hx hb dX11_rags_37 hl (k := 1) rfl (by rw [et30]; rfl) (by decide) rfl (fun ls hl => ?_)
          refine lv_goto (tgt := 8) hx hb dX11_rags_40 (by decide) ?_
          have rg31 := fb_rng t30
          exact ih6 t29 t30 v13 f14 w15 g16 hIv13 hCf14 hRf14 hq0_v13 hq1_v13 hq2_v13 hq3_v13 hq4_v13 hq5_v13 hq8_v13 hq9_v13 hq10_v13 hq13_v13 hq14_v13 hq15_v13 hq17_v13 hq18_v13 hq24_v13 hq25_v13 hq35_v13 hq36_v13 hq38_v13 hq39_v13 ⟨show (0 : Int) ≤ t30.toInt by omega, show t30.toInt ≤ (2147483647 : Int) by omega⟩ hM_v13 hA_f14 (by show (2147483647 - t30.toInt).toNat < n6; omega) _ _ _ hP hD hS (lv_sub hl [0, 1, 2] rfl)
  exact lp6 _ 0 0 v2 f3 w4 g5 hIv2 hCf3 hRf3 hq0_v2 hq1_v2 hq2_v2 hq3_v2 hq4_v2 hq5_v2 hq8_v2 hq9_v2 hq10_v2 hq13_v2 hq14_v2 hq15_v2 hq17_v2 hq18_v2 hq24_v2 hq25_v2 hq35_v2 hq36_v2 hq38_v2 hq39_v2 ⟨by decide, by decide⟩ hM_v2 hA_f3 (Nat.lt_succ_self _) _ _ _ hP hD hS (lv_sub hl [0, 1, 2] rfl)
set_option maxHeartbeats 4000000 in
set_option maxRecDepth 100000 in
theorem sY_X11_naked_1 (l : Launch) (dC : Nat → ClassId) (dI : Nat → Nat → Nat) (cy : Nat → ClassId) (y0 : Nat) (r : Nat → Nat)  (v : Nat → Int32) (f : Nat → Nat → Int32) (w : Int64) (g : Nat → Int64) (hIv : YI v) (hCf : YC f) (hRf : progOK (f 4) (f 5) (v 9).toInt.toNat)  : ctI l (dC, dI) cy yX11_naked cX11_naked 3 .int 6 171 0 0 ((Nat → Int32) × (Nat → Nat → Int32) × (Int64) × (Nat → Int64)) [.ref y0] (YW cy y0 r v f w g) (fun r u => KV [] u.1 v ∧ KF [7, 8, 24] u.2.1 f ∧ YI u.1 ∧ YC u.2.1 ∧ progOK (u.2.1 4) (u.2.1 5) (u.1 9).toInt.toNat ∧ u.1 0 = v 0 ∧ u.1 1 = v 1 ∧ u.1 2 = v 2 ∧ u.1 3 = v 3 ∧ u.1 4 = v 4 ∧ u.1 5 = v 5 ∧ u.1 8 = v 8 ∧ u.1 9 = v 9 ∧ u.1 10 = v 10 ∧ u.1 13 = v 13 ∧ u.1 14 = v 14 ∧ u.1 15 = v 15 ∧ u.1 17 = v 17 ∧ u.1 18 = v 18 ∧ u.1 24 = v 24 ∧ u.1 25 = v 25 ∧ u.1 35 = v 35 ∧ u.1 36 = v 36 ∧ u.1 38 = v 38 ∧ u.1 39 = v 39) (fun u => YW cy y0 r u.1 u.2.1 u.2.2.1 u.2.2.2) := by
  refine ctI_of (by decide) (Nat.le_of_ble_eq_true rfl) (fun p e s m below meth c A ls Q hx hb hml hts hown hE hP hD hA hl ret => ?_)
  have hUv : (v 35).toInt + (v 36).toInt ≤ 40 := hIv.2
  have hM_v : KV [] v v := fun _ _ => rfl
  have hA_f : KF [7, 8, 24] f f := fun _ _ => rfl
  have hown : s.vm.findClass RX11 = some m.cls := hown
  have hS : va_S A s.heap s.heap [] := va_S.rf
  have hl : lv_has ls 3 [(0, .ref y0)] := hl
  refine lv_aload_n hx hb dX11_naked_0 rfl (lv_at hl 0 rfl) ?_
  refine cbVv (n := 0) (rest := []) hx hb hml hown hts hE hP hD hS hA (sY_X11_fill_1 0 l dC dI cy y0 r  v f w g hIv hCf hRf ) k_1739 k_1741 k_71 k_114 k_1742 (by decide +kernel) ⟨Nat.le_of_ble_eq_true rfl, Nat.le_of_ble_eq_true rfl⟩ 0 11 rfl rfl (rfl) hl.1 rfl (Nat.le_of_ble_eq_true rfl) dX11_naked_1 (fun u H locs hw hP hD hS => ?_)
  obtain ⟨hG1, hw⟩ := hw
  obtain ⟨v2, f3, w4, g5⟩ := u
  obtain ⟨kV_v2, kF_f3, hIv2, hCf3, hRf3, hk0_v2, hk1_v2, hk2_v2, hk3_v2, hk4_v2, hk5_v2, hk8_v2, hk9_v2, hk10_v2, hk13_v2, hk14_v2, hk15_v2, hk17_v2, hk18_v2, hk24_v2, hk25_v2, hk35_v2, hk36_v2, hk38_v2, hk39_v2⟩ := hw
  have hM_v2 : KV [] v2 v := KV.tr kV_v2 hM_v rfl
  have hA_f3 : KF [7, 8, 24] f3 f := KF.tr kF_f3 hA_f rfl
  have hP : va_P (dC, dI) vwCl (YW cy y0 r v2 f3 w4 g5) H := hP
  have hD : va_D A (YW cy y0 r v2 f3 w4 g5) := hD
  have hUv2 : (v2 35).toInt + (v2 36).toInt ≤ 40 := hIv2.2
  have hq0_v2 : v2 0 = (v 0) := hk0_v2
  have hq1_v2 : v2 1 = (v 1) := hk1_v2
  have hq2_v2 : v2 2 = (v 2) := hk2_v2
  have hq3_v2 : v2 3 = (v 3) := hk3_v2
  have hq4_v2 : v2 4 = (v 4) := hk4_v2
  have hq5_v2 : v2 5 = (v 5) := hk5_v2
  have hq8_v2 : v2 8 = (v 8) := hk8_v2
  have hq9_v2 : v2 9 = (v 9) := hk9_v2
  have zq9_v2 := congrArg Int32.toInt hq9_v2
  have hq10_v2 : v2 10 = (v 10) := hk10_v2
  have hq13_v2 : v2 13 = (v 13) := hk13_v2
  have hq14_v2 : v2 14 = (v 14) := hk14_v2
  have hq15_v2 : v2 15 = (v 15) := hk15_v2
  have hq17_v2 : v2 17 = (v 17) := hk17_v2
  have hq18_v2 : v2 18 = (v 18) := hk18_v2
  have hq24_v2 : v2 24 = (v 24) := hk24_v2
  have hq25_v2 : v2 25 = (v 25) := hk25_v2
  have hq35_v2 : v2 35 = (v 35) := hk35_v2
  have hq36_v2 : v2 36 = (v 36) := hk36_v2
  have hq38_v2 : v2 38 = (v 38) := hk38_v2
  have hq39_v2 : v2 39 = (v 39) := hk39_v2
  refine lv_iconst (v := 0) hx hb dX11_naked_4 (by decide) ?_
  refine lv_istore_n (lv' := [(1, .int 0), (0, .ref y0)]) hx hb dX11_naked_5 rfl hl (by decide) rfl (fun ls hl => ?_)
  refine lv_iconst (v := 0) hx hb dX11_naked_6 (by decide) ?_
  refine lv_istore_n (lv' := [(2, .int 0), (1, .int 0), (0, .ref y0)]) hx hb dX11_naked_7 rfl hl (by decide) rfl (fun ls hl => ?_)
  have lp6 : ∀ (n6 : Nat) (l1_6 : Int32) (l2_6 : Int32) (v6 : Nat → Int32) (f6 : Nat → Nat → Int32) (w6 : Int64) (g6 : Nat → Int64), YI v6 → YC f6 → progOK (f6 4) (f6 5) (v6 9).toInt.toNat → v6 0 = (v 0) → v6 1 = (v 1) → v6 2 = (v 2) → v6 3 = (v 3) → v6 4 = (v 4) → v6 5 = (v 5) → v6 8 = (v 8) → v6 9 = (v 9) → v6 10 = (v 10) → v6 13 = (v 13) → v6 14 = (v 14) → v6 15 = (v 15) → v6 17 = (v 17) → v6 18 = (v 18) → v6 24 = (v 24) → v6 25 = (v 25) → v6 35 = (v 35) → v6 36 = (v 36) → v6 38 = (v 38) → v6 39 = (v 39) → ((0 : Int) ≤ l2_6.toInt ∧ l2_6.toInt ≤ 2147483647) → KV [] v6 v → KF [7, 8, 24] f6 f → (2147483647 - l2_6.toInt).toNat < n6 → ∀ (H : Heap) (locs : List Loc) (ls : Array Slot), va_P (dC, dI) vwCl (YW cy y0 r v6 f6 w6 g6) H → va_D A (YW cy y0 r v6 f6 w6 g6) → va_S A s.heap H locs → lv_has ls 3 [(2, .int l2_6), (1, .int l1_6), (0, .ref y0)] → W p l e { frames := 6, cells := 0, slots := 0, locals := 171 } s m ([.ref y0] : List Value).toArray below meth c H locs 0 0 Q (F0 m 8 ls []) := by
    intro n6
    induction n6 with
    | zero => intro l1_6 l2_6 v6 f6 w6 g6 hIv6 hCf6 hRf6 hq0_v6 hq1_v6 hq2_v6 hq3_v6 hq4_v6 hq5_v6 hq8_v6 hq9_v6 hq10_v6 hq13_v6 hq14_v6 hq15_v6 hq17_v6 hq18_v6 hq24_v6 hq25_v6 hq35_v6 hq36_v6 hq38_v6 hq39_v6 hr2_6 hM_v6 hA_f6 hm; exact absurd hm (Nat.not_lt_zero _)
    | succ n6 ih6 =>
      intro l1_6 l2_6 v6 f6 w6 g6 hIv6 hCf6 hRf6 hq0_v6 hq1_v6 hq2_v6 hq3_v6 hq4_v6 hq5_v6 hq8_v6 hq9_v6 hq10_v6 hq13_v6 hq14_v6 hq15_v6 hq17_v6 hq18_v6 hq24_v6 hq25_v6 hq35_v6 hq36_v6 hq38_v6 hq39_v6 hr2_6 hM_v6 hA_f6 hm6 H locs ls hP hD hS hl
      have hUv6 : (v6 35).toInt + (v6 36).toInt ≤ 40 := hIv6.2
      have zq9_v6 := congrArg Int32.toInt hq9_v6
      refine lv_iload_n hx hb dX11_naked_8 rfl (lv_at hl 0 rfl) ?_
      refine lv_aload_n hx hb dX11_naked_9 rfl (lv_at hl 2 rfl) ?_
      refine va_get (D := (dC, dI)) (ci := 11) (v := .int (v6 24)) (C := RX11) (T := TX11) (N := 79) hx hb hts inB_11 hown hE.1 hP 0 rfl rfl 48 (by decide) (hts _ k_1368) (fun _ h9 => h9) rfl dX11_naked_10 ?_
      refine tI (y := (v 24)) hq24_v6 ?_
      have b24_v : 0 ≤ (v 24).toInt ∧ (v 24).toInt ≤ 6 := YIb.b hIv.1 24 (by decide)
      refine lv_icmp_ge (tgt := 43) hx hb dX11_naked_13 (by decide) (fun c7 => ?_) (fun c7 => ?_)
      · skip
        have zc7 : (v 24).toInt ≤ l2_6.toInt := by rw [fa_le] at c7; exact c7
        have rg8 := fb_rng l2_6
        have rg9 := fb_rng (v 24)
        refine lv_iload_n hx hb dX11_naked_43 rfl (lv_at hl 1 rfl) ?_
        exact ret l1_6 (v6, f6, w6, g6) _ _ _ _ _ _ rfl ⟨hM_v6, hA_f6, hIv6, hCf6, hRf6, hq0_v6, hq1_v6, hq2_v6, hq3_v6, hq4_v6, hq5_v6, hq8_v6, hq9_v6, hq10_v6, hq13_v6, hq14_v6, hq15_v6, hq17_v6, hq18_v6, hq24_v6, hq25_v6, hq35_v6, hq36_v6, hq38_v6, hq39_v6⟩ hP hD hS dX11_naked_44 (Nat.le_refl _) (Nat.le_refl _)
      · skip
        have zc7 : ¬ ((v 24).toInt ≤ l2_6.toInt) := by rw [fa_le] at c7; exact c7
        have rg10 := fb_rng l2_6
        have rg11 := fb_rng (v 24)
        refine lv_iload_n hx hb dX11_naked_16 rfl (lv_at hl 1 rfl) ?_
        refine lv_aload_n hx hb dX11_naked_17 rfl (lv_at hl 2 rfl) ?_
        refine lv_iload_n hx hb dX11_naked_18 rfl (lv_at hl 0 rfl) ?_
        refine cbVi (n := 1) (rest := [.int l1_6]) hx hb hml hown hts hE hP hD hS hA (sY_X11_coatsFor_1 l dC dI cy y0 r l2_6 v6 f6 w6 g6 hIv6 hCf6 hRf6 ⟨show (0 : Int) ≤ l2_6.toInt by omega, show l2_6.toInt ≤ (5 : Int) by omega⟩) k_1743 k_1745 k_72 k_114 k_1746 (by decide +kernel) ⟨Nat.le_of_ble_eq_true rfl, Nat.le_of_ble_eq_true rfl⟩ 0 11 rfl rfl (rfl) hl.1 rfl (Nat.le_of_ble_eq_true rfl) dX11_naked_19 (fun r12 u H locs hw hP hD hS => ?_)
        obtain ⟨v13, f14, w15, g16⟩ := u
        obtain ⟨kV_v13, kF_f14, hIv13, hCf14, hRf14, hk0_v13, hk1_v13, hk2_v13, hk3_v13, hk4_v13, hk5_v13, hk8_v13, hk9_v13, hk10_v13, hk13_v13, hk14_v13, hk15_v13, hk17_v13, hk18_v13, hk24_v13, hk25_v13, hk35_v13, hk36_v13, hk38_v13, hk39_v13⟩ := hw
        have hM_v13 : KV [] v13 v := KV.tr kV_v13 hM_v6 rfl
        have hA_f14 : KF [7, 8, 24] f14 f := KF.tr kF_f14 hA_f6 rfl
        have hP : va_P (dC, dI) vwCl (YW cy y0 r v13 f14 w15 g16) H := hP
        have hD : va_D A (YW cy y0 r v13 f14 w15 g16) := hD
        have hUv13 : (v13 35).toInt + (v13 36).toInt ≤ 40 := hIv13.2
        have hq0_v13 : v13 0 = (v 0) := hk0_v13.trans hq0_v6
        have hq1_v13 : v13 1 = (v 1) := hk1_v13.trans hq1_v6
        have hq2_v13 : v13 2 = (v 2) := hk2_v13.trans hq2_v6
        have hq3_v13 : v13 3 = (v 3) := hk3_v13.trans hq3_v6
        have hq4_v13 : v13 4 = (v 4) := hk4_v13.trans hq4_v6
        have hq5_v13 : v13 5 = (v 5) := hk5_v13.trans hq5_v6
        have hq8_v13 : v13 8 = (v 8) := hk8_v13.trans hq8_v6
        have hq9_v13 : v13 9 = (v 9) := hk9_v13.trans hq9_v6
        have zq9_v13 := congrArg Int32.toInt hq9_v13
        have hq10_v13 : v13 10 = (v 10) := hk10_v13.trans hq10_v6
        have hq13_v13 : v13 13 = (v 13) := hk13_v13.trans hq13_v6
        have hq14_v13 : v13 14 = (v 14) := hk14_v13.trans hq14_v6
        have hq15_v13 : v13 15 = (v 15) := hk15_v13.trans hq15_v6
        have hq17_v13 : v13 17 = (v 17) := hk17_v13.trans hq17_v6
        have hq18_v13 : v13 18 = (v 18) := hk18_v13.trans hq18_v6
        have hq24_v13 : v13 24 = (v 24) := hk24_v13.trans hq24_v6
        have hq25_v13 : v13 25 = (v 25) := hk25_v13.trans hq25_v6
        have hq35_v13 : v13 35 = (v 35) := hk35_v13.trans hq35_v6
        have hq36_v13 : v13 36 = (v 36) := hk36_v13.trans hq36_v6
        have hq38_v13 : v13 38 = (v 38) := hk38_v13.trans hq38_v6
        have hq39_v13 : v13 39 = (v 39) := hk39_v13.trans hq39_v6
        refine lv_if_ne (tgt := 29) hx hb dX11_naked_22 (by decide) (fun c17 => ?_) (fun c17 => ?_)
        · skip
          have zc17 : ¬ (r12.toInt = 0) := by rw [fa_eq, show (0 : Int32).toInt = 0 from by decide] at c17; exact c17
          refine lv_iconst (v := 0) hx hb dX11_naked_29 (by decide) ?_
          have lt18 : (0 : Int32).toInt = 0 := by decide
          refine cbSi (n := 1) (rest := [.int l1_6]) hx hb hml hown hts hE hP hD hS hA (sY_X11_truth_1 0 l dC dI cy y0 r 0 v13 f14 w15 g16 hIv13 hCf14 hRf14 ) k_1761 k_1762 k_114 k_1763 (by decide +kernel) ⟨Nat.le_of_ble_eq_true rfl, Nat.le_of_ble_eq_true rfl⟩ (rfl) hl.1 rfl (Nat.le_of_ble_eq_true rfl) dX11_naked_30 (fun r19 u H locs hw hP hD hS => ?_)
          obtain ⟨hG20, hw⟩ := hw
          refine lv_iload_n hx hb dX11_naked_33 rfl (lv_at hl 0 rfl) ?_
          refine lv_ishl hx hb dX11_naked_34 ?_
          refine lv_topi (fun t21 et21 => ?_)
          have zt21 : 0 ≤ t21.toInt ∧ t21.toInt ≤ 32 := by rw [et21]; exact shl01_rng (by omega) (by omega) (by omega) (by omega)
          refine lv_ior hx hb dX11_naked_35 ?_
          refine lv_topi (fun t22 et22 => ?_)
          refine lv_istore_n (lv' := [(1, .int t22), (2, .int l2_6), (0, .ref y0)]) hx hb dX11_naked_36 rfl hl (by decide) rfl (fun ls hl => ?_)
          obtain ⟨t23, et23⟩ : ∃ y : Int32, y = l2_6 + 1 := ⟨_, rfl⟩
          have zt23 : t23.toInt = l2_6.toInt + 1 := by rw [et23]; exact add_i rfl (by decide) (by omega) (by omega)
          refine lv_iinc (v := t23) (lv' := [(2, .int t23), (1, .int t22), (0, .ref y0)]) hx hb dX11_naked_37 hl (k := 1) rfl (by rw [et23]; rfl) (by decide) rfl (fun ls hl => ?_)
          refine lv_goto (tgt := 8) hx hb dX11_naked_40 (by decide) ?_
          have rg24 := fb_rng t23
          exact ih6 t22 t23 v13 f14 w15 g16 hIv13 hCf14 hRf14 hq0_v13 hq1_v13 hq2_v13 hq3_v13 hq4_v13 hq5_v13 hq8_v13 hq9_v13 hq10_v13 hq13_v13 hq14_v13 hq15_v13 hq17_v13 hq18_v13 hq24_v13 hq25_v13 hq35_v13 hq36_v13 hq38_v13 hq39_v13 ⟨show (0 : Int) ≤ t23.toInt by omega, show t23.toInt ≤ (2147483647 : Int) by omega⟩ hM_v13 hA_f14 (by show (2147483647 - t23.toInt).toNat < n6; omega) _ _ _ hP hD hS (lv_sub hl [0, 1, 2] rfl)
        · skip
          have zc17 : r12.toInt = 0 := by rw [fa_eq, show (0 : Int32).toInt = 0 from by decide] at c17; exact c17
          refine lv_iconst (v := 1) hx hb dX11_naked_25 (by decide) ?_
          refine lv_goto (tgt := 30) hx hb dX11_naked_26 (by decide) ?_
          have lt25 : (1 : Int32).toInt = 1 := by decide
          refine cbSi (n := 1) (rest := [.int l1_6]) hx hb hml hown hts hE hP hD hS hA (sY_X11_truth_1 0 l dC dI cy y0 r 1 v13 f14 w15 g16 hIv13 hCf14 hRf14 ) k_1761 k_1762 k_114 k_1763 (by decide +kernel) ⟨Nat.le_of_ble_eq_true rfl, Nat.le_of_ble_eq_true rfl⟩ (rfl) hl.1 rfl (Nat.le_of_ble_eq_true rfl) dX11_naked_30 (fun r26 u H locs hw hP hD hS => ?_)
          obtain ⟨hG27, hw⟩ := hw
          refine lv_iload_n hx hb dX11_naked_33 rfl (lv_at hl 0 rfl) ?_
          refine lv_ishl hx hb dX11_naked_34 ?_
          refine lv_topi (fun t28 et28 => ?_)
          have zt28 : 0 ≤ t28.toInt ∧ t28.toInt ≤ 32 := by rw [et28]; exact shl01_rng (by omega) (by omega) (by omega) (by omega)
          refine lv_ior hx hb dX11_naked_35 ?_
          refine lv_topi (fun t29 et29 => ?_)
          refine lv_istore_n (lv' := [(1, .int t29), (2, .int l2_6), (0, .ref y0)]) hx hb dX11_naked_36 rfl hl (by decide) rfl (fun ls hl => ?_)
          obtain ⟨t30, et30⟩ : ∃ y : Int32, y = l2_6 + 1 := ⟨_, rfl⟩
          have zt30 : t30.toInt = l2_6.toInt + 1 := by rw [et30]; exact add_i rfl (by decide) (by omega) (by omega)
          refine lv_iinc (v := t30) (lv' := [(2, .int t30), (1, .int t29), (0, .ref y0)]) hx hb dX11_naked_37 hl (k := 1) rfl (by rw [et30]; rfl) (by decide) rfl (fun ls hl => ?_)
          refine lv_goto (tgt := 8) hx hb dX11_naked_40 (by decide) ?_
          have rg31 := fb_rng t30
          exact ih6 t29 t30 v13 f14 w15 g16 hIv13 hCf14 hRf14 hq0_v13 hq1_v13 hq2_v13 hq3_v13 hq4_v13 hq5_v13 hq8_v13 hq9_v13 hq10_v13 hq13_v13 hq14_v13 hq15_v13 hq17_v13 hq18_v13 hq24_v13 hq25_v13 hq35_v13 hq36_v13 hq38_v13 hq39_v13 ⟨show (0 : Int) ≤ t30.toInt by omega, show t30.toInt ≤ (2147483647 : Int) by omega⟩ hM_v13 hA_f14 (by show (2147483647 - t30.toInt).toNat < n6; omega) _ _ _ hP hD hS (lv_sub hl [0, 1, 2] rfl)
  exact lp6 _ 0 0 v2 f3 w4 g5 hIv2 hCf3 hRf3 hq0_v2 hq1_v2 hq2_v2 hq3_v2 hq4_v2 hq5_v2 hq8_v2 hq9_v2 hq10_v2 hq13_v2 hq14_v2 hq15_v2 hq17_v2 hq18_v2 hq24_v2 hq25_v2 hq35_v2 hq36_v2 hq38_v2 hq39_v2 ⟨by decide, by decide⟩ hM_v2 hA_f3 (Nat.lt_succ_self _) _ _ _ hP hD hS (lv_sub hl [0, 1, 2] rfl)
set_option maxHeartbeats 4000000 in
set_option maxRecDepth 100000 in
theorem sY_X11_popular_1 (l : Launch) (dC : Nat → ClassId) (dI : Nat → Nat → Nat) (cy : Nat → ClassId) (y0 : Nat) (r : Nat → Nat) (p1 : Int32) (v : Nat → Int32) (f : Nat → Nat → Int32) (w : Int64) (g : Nat → Int64) (hIv : YI v) (hCf : YC f) (hRf : progOK (f 4) (f 5) (v 9).toInt.toNat)  : ctI l (dC, dI) cy yX11_popular cX11_popular 2 .int 6 171 0 0 ((Nat → Int32) × (Nat → Nat → Int32) × (Int64) × (Nat → Int64)) [.ref y0, .int p1] (YW cy y0 r v f w g) (fun r u => KV [] u.1 v ∧ KF [7, 8, 24] u.2.1 f ∧ YI u.1 ∧ YC u.2.1 ∧ progOK (u.2.1 4) (u.2.1 5) (u.1 9).toInt.toNat ∧ u.1 0 = v 0 ∧ u.1 1 = v 1 ∧ u.1 2 = v 2 ∧ u.1 3 = v 3 ∧ u.1 4 = v 4 ∧ u.1 5 = v 5 ∧ u.1 8 = v 8 ∧ u.1 9 = v 9 ∧ u.1 10 = v 10 ∧ u.1 13 = v 13 ∧ u.1 14 = v 14 ∧ u.1 15 = v 15 ∧ u.1 17 = v 17 ∧ u.1 18 = v 18 ∧ u.1 24 = v 24 ∧ u.1 25 = v 25 ∧ u.1 35 = v 35 ∧ u.1 36 = v 36 ∧ u.1 38 = v 38 ∧ u.1 39 = v 39) (fun u => YW cy y0 r u.1 u.2.1 u.2.2.1 u.2.2.2) := by
  refine ctI_of (by decide) (Nat.le_of_ble_eq_true rfl) (fun p e s m below meth c A ls Q hx hb hml hts hown hE hP hD hA hl ret => ?_)
  have hUv : (v 35).toInt + (v 36).toInt ≤ 40 := hIv.2
  have hM_v : KV [] v v := fun _ _ => rfl
  have hA_f : KF [7, 8, 24] f f := fun _ _ => rfl
  have hown : s.vm.findClass RX11 = some m.cls := hown
  have hS : va_S A s.heap s.heap [] := va_S.rf
  have hl : lv_has ls 2 [(0, .ref y0), (1, .int p1)] := hl
  refine lv_aload_n hx hb dX11_popular_0 rfl (lv_at hl 0 rfl) ?_
  refine cbVv (n := 0) (rest := []) hx hb hml hown hts hE hP hD hS hA (sY_X11_fill_1 0 l dC dI cy y0 r  v f w g hIv hCf hRf ) k_1739 k_1741 k_71 k_114 k_1742 (by decide +kernel) ⟨Nat.le_of_ble_eq_true rfl, Nat.le_of_ble_eq_true rfl⟩ 0 11 rfl rfl (rfl) hl.1 rfl (Nat.le_of_ble_eq_true rfl) dX11_popular_1 (fun u H locs hw hP hD hS => ?_)
  obtain ⟨hG1, hw⟩ := hw
  obtain ⟨v2, f3, w4, g5⟩ := u
  obtain ⟨kV_v2, kF_f3, hIv2, hCf3, hRf3, hk0_v2, hk1_v2, hk2_v2, hk3_v2, hk4_v2, hk5_v2, hk8_v2, hk9_v2, hk10_v2, hk13_v2, hk14_v2, hk15_v2, hk17_v2, hk18_v2, hk24_v2, hk25_v2, hk35_v2, hk36_v2, hk38_v2, hk39_v2⟩ := hw
  have hM_v2 : KV [] v2 v := KV.tr kV_v2 hM_v rfl
  have hA_f3 : KF [7, 8, 24] f3 f := KF.tr kF_f3 hA_f rfl
  have hP : va_P (dC, dI) vwCl (YW cy y0 r v2 f3 w4 g5) H := hP
  have hD : va_D A (YW cy y0 r v2 f3 w4 g5) := hD
  have hUv2 : (v2 35).toInt + (v2 36).toInt ≤ 40 := hIv2.2
  have hq9_v2 : v2 9 = (v 9) := hk9_v2
  have zq9_v2 := congrArg Int32.toInt hq9_v2
  refine lv_aload_n hx hb dX11_popular_4 rfl (lv_at hl 0 rfl) ?_
  refine lv_iload_n hx hb dX11_popular_5 rfl (lv_at hl 1 rfl) ?_
  refine cbVi (n := 1) (rest := []) hx hb hml hown hts hE hP hD hS hA (sY_X11_isCoat_1 0 l dC dI cy y0 r p1 v2 f3 w4 g5 hIv2 hCf3 hRf3 ) k_1771 k_1773 k_75 k_114 k_1774 (by decide +kernel) ⟨Nat.le_of_ble_eq_true rfl, Nat.le_of_ble_eq_true rfl⟩ 0 11 rfl rfl (rfl) hl.1 rfl (Nat.le_of_ble_eq_true rfl) dX11_popular_6 (fun r6 u H locs hw hP hD hS => ?_)
  obtain ⟨hG7, hw⟩ := hw
  rcases hw with ⟨g8, g8_0, g8_1, g8_2⟩ | ⟨g8⟩
  · skip
    subst g8
    refine lv_if_eq (tgt := 20) hx hb dX11_popular_9 (by decide) (fun c0 => absurd c0 (by decide)) (fun _ => ?_)
    refine lv_aload_n hx hb dX11_popular_12 rfl (lv_at hl 0 rfl) ?_
    refine lv_iload_n hx hb dX11_popular_13 rfl (lv_at hl 1 rfl) ?_
    refine cbVi (n := 1) (rest := []) hx hb hml hown hts hE hP hD hS hA (sY_X11_menFor_1 l dC dI cy y0 r p1 v2 f3 w4 g5 hIv2 hCf3 hRf3 ⟨show (0 : Int) ≤ p1.toInt by omega, show p1.toInt ≤ (5 : Int) by omega⟩) k_1968 k_1970 k_95 k_114 k_1971 (by decide +kernel) ⟨Nat.le_of_ble_eq_true rfl, Nat.le_of_ble_eq_true rfl⟩ 0 11 rfl rfl (rfl) hl.1 rfl (Nat.le_of_ble_eq_true rfl) dX11_popular_14 (fun r9 u H locs hw hP hD hS => ?_)
    obtain ⟨v10, f11, w12, g13⟩ := u
    obtain ⟨kV_v10, kF_f11, hIv10, hCf11, hRf11, hk0_v10, hk1_v10, hk2_v10, hk3_v10, hk4_v10, hk5_v10, hk8_v10, hk9_v10, hk10_v10, hk13_v10, hk14_v10, hk15_v10, hk17_v10, hk18_v10, hk24_v10, hk25_v10, hk35_v10, hk36_v10, hk38_v10, hk39_v10⟩ := hw
    have hM_v10 : KV [] v10 v := KV.tr kV_v10 hM_v2 rfl
    have hA_f11 : KF [7, 8, 24] f11 f := KF.tr kF_f11 hA_f3 rfl
    have hP : va_P (dC, dI) vwCl (YW cy y0 r v10 f11 w12 g13) H := hP
    have hD : va_D A (YW cy y0 r v10 f11 w12 g13) := hD
    have hUv10 : (v10 35).toInt + (v10 36).toInt ≤ 40 := hIv10.2
    have hq9_v10 : v10 9 = (v 9) := hk9_v10.trans hq9_v2
    have zq9_v10 := congrArg Int32.toInt hq9_v10
    refine lv_goto (tgt := 21) hx hb dX11_popular_17 (by decide) ?_
    exact ret r9 (v10, f11, w12, g13) _ _ _ _ _ _ rfl ⟨hM_v10, hA_f11, hIv10, hCf11, hRf11, (hk0_v10.trans hk0_v2), (hk1_v10.trans hk1_v2), (hk2_v10.trans hk2_v2), (hk3_v10.trans hk3_v2), (hk4_v10.trans hk4_v2), (hk5_v10.trans hk5_v2), (hk8_v10.trans hk8_v2), (hk9_v10.trans hk9_v2), (hk10_v10.trans hk10_v2), (hk13_v10.trans hk13_v2), (hk14_v10.trans hk14_v2), (hk15_v10.trans hk15_v2), (hk17_v10.trans hk17_v2), (hk18_v10.trans hk18_v2), (hk24_v10.trans hk24_v2), (hk25_v10.trans hk25_v2), (hk35_v10.trans hk35_v2), (hk36_v10.trans hk36_v2), (hk38_v10.trans hk38_v2), (hk39_v10.trans hk39_v2)⟩ hP hD hS dX11_popular_21 (Nat.le_refl _) (Nat.le_refl _)
  · skip
    subst g8
    refine lv_if_eq (tgt := 20) hx hb dX11_popular_9 (by decide) (fun _ => ?_) (fun c0 => absurd (by decide) c0)
    refine lv_iconst (v := (-1)) hx hb dX11_popular_20 (by decide) ?_
    exact ret (-1) (v2, f3, w4, g5) _ _ _ _ _ _ rfl ⟨hM_v2, hA_f3, hIv2, hCf3, hRf3, hk0_v2, hk1_v2, hk2_v2, hk3_v2, hk4_v2, hk5_v2, hk8_v2, hk9_v2, hk10_v2, hk13_v2, hk14_v2, hk15_v2, hk17_v2, hk18_v2, hk24_v2, hk25_v2, hk35_v2, hk36_v2, hk38_v2, hk39_v2⟩ hP hD hS dX11_popular_21 (Nat.le_refl _) (Nat.le_refl _)
