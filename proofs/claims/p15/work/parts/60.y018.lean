set_option maxHeartbeats 4000000 in
set_option maxRecDepth 100000 in
theorem sY_X11_menFor_1 (l : Launch) (dC : Nat → ClassId) (dI : Nat → Nat → Nat) (cy : Nat → ClassId) (y0 : Nat) (r : Nat → Nat) (p1 : Int32) (v : Nat → Int32) (f : Nat → Nat → Int32) (w : Int64) (g : Nat → Int64) (hIv : YI v) (hCf : YC f) (hRf : progOK (f 4) (f 5) (v 9).toInt.toNat) (hp1 : (0 : Int) ≤ p1.toInt ∧ p1.toInt ≤ 5) : ctI l (dC, dI) cy yX11_menFor cX11_menFor 4 .int 5 148 0 0 ((Nat → Int32) × (Nat → Nat → Int32) × (Int64) × (Nat → Int64)) [.ref y0, .int p1] (YW cy y0 r v f w g) (fun r u => KV [] u.1 v ∧ KF [7, 8] u.2.1 f ∧ YI u.1 ∧ YC u.2.1 ∧ progOK (u.2.1 4) (u.2.1 5) (u.1 9).toInt.toNat ∧ u.1 0 = v 0 ∧ u.1 1 = v 1 ∧ u.1 2 = v 2 ∧ u.1 3 = v 3 ∧ u.1 4 = v 4 ∧ u.1 5 = v 5 ∧ u.1 8 = v 8 ∧ u.1 9 = v 9 ∧ u.1 10 = v 10 ∧ u.1 13 = v 13 ∧ u.1 14 = v 14 ∧ u.1 15 = v 15 ∧ u.1 17 = v 17 ∧ u.1 18 = v 18 ∧ u.1 24 = v 24 ∧ u.1 25 = v 25 ∧ u.1 35 = v 35 ∧ u.1 36 = v 36 ∧ u.1 38 = v 38 ∧ u.1 39 = v 39) (fun u => YW cy y0 r u.1 u.2.1 u.2.2.1 u.2.2.2) := by
  refine ctI_of (by decide) (Nat.le_of_ble_eq_true rfl) (fun p e s m below meth c A ls Q hx hb hml hts hown hE hP hD hA hl ret => ?_)
  have hUv : (v 35).toInt + (v 36).toInt ≤ 40 := hIv.2
  have hM_v : KV [] v v := fun _ _ => rfl
  have hA_f : KF [7, 8] f f := fun _ _ => rfl
  have hown : s.vm.findClass RX11 = some m.cls := hown
  have hS : va_S A s.heap s.heap [] := va_S.rf
  have hl : lv_has ls 4 [(0, .ref y0), (1, .int p1)] := hl
  refine lv_iconst (v := 0) hx hb dX11_menFor_0 (by decide) ?_
  refine lv_istore_n (lv' := [(2, .int 0), (0, .ref y0), (1, .int p1)]) hx hb dX11_menFor_1 rfl hl (by decide) rfl (fun ls hl => ?_)
  refine lv_iconst (v := 0) hx hb dX11_menFor_2 (by decide) ?_
  refine lv_istore_n (lv' := [(3, .int 0), (2, .int 0), (0, .ref y0), (1, .int p1)]) hx hb dX11_menFor_3 rfl hl (by decide) rfl (fun ls hl => ?_)
  have lp1 : ∀ (n1 : Nat) (l2_1 : Int32) (l3_1 : Int32) (v1 : Nat → Int32) (f1 : Nat → Nat → Int32) (w1 : Int64) (g1 : Nat → Int64), YI v1 → YC f1 → progOK (f1 4) (f1 5) (v1 9).toInt.toNat → v1 0 = (v 0) → v1 1 = (v 1) → v1 2 = (v 2) → v1 3 = (v 3) → v1 4 = (v 4) → v1 5 = (v 5) → v1 8 = (v 8) → v1 9 = (v 9) → v1 10 = (v 10) → v1 13 = (v 13) → v1 14 = (v 14) → v1 15 = (v 15) → v1 17 = (v 17) → v1 18 = (v 18) → v1 24 = (v 24) → v1 25 = (v 25) → v1 35 = (v 35) → v1 36 = (v 36) → v1 38 = (v 38) → v1 39 = (v 39) → ((0 : Int) ≤ l3_1.toInt ∧ l3_1.toInt ≤ 2147483647) → KV [] v1 v → KF [7, 8] f1 f → (2147483647 - l3_1.toInt).toNat < n1 → ∀ (H : Heap) (locs : List Loc) (ls : Array Slot), va_P (dC, dI) vwCl (YW cy y0 r v1 f1 w1 g1) H → va_D A (YW cy y0 r v1 f1 w1 g1) → va_S A s.heap H locs → lv_has ls 4 [(3, .int l3_1), (2, .int l2_1), (0, .ref y0), (1, .int p1)] → W p l e { frames := 5, cells := 0, slots := 0, locals := 148 } s m ([.ref y0, .int p1] : List Value).toArray below meth c H locs 0 0 Q (F0 m 4 ls []) := by
    intro n1
    induction n1 with
    | zero => intro l2_1 l3_1 v1 f1 w1 g1 hIv1 hCf1 hRf1 hq0_v1 hq1_v1 hq2_v1 hq3_v1 hq4_v1 hq5_v1 hq8_v1 hq9_v1 hq10_v1 hq13_v1 hq14_v1 hq15_v1 hq17_v1 hq18_v1 hq24_v1 hq25_v1 hq35_v1 hq36_v1 hq38_v1 hq39_v1 hr3_1 hM_v1 hA_f1 hm; exact absurd hm (Nat.not_lt_zero _)
    | succ n1 ih1 =>
      intro l2_1 l3_1 v1 f1 w1 g1 hIv1 hCf1 hRf1 hq0_v1 hq1_v1 hq2_v1 hq3_v1 hq4_v1 hq5_v1 hq8_v1 hq9_v1 hq10_v1 hq13_v1 hq14_v1 hq15_v1 hq17_v1 hq18_v1 hq24_v1 hq25_v1 hq35_v1 hq36_v1 hq38_v1 hq39_v1 hr3_1 hM_v1 hA_f1 hm1 H locs ls hP hD hS hl
      have hUv1 : (v1 35).toInt + (v1 36).toInt ≤ 40 := hIv1.2
      have zq9_v1 := congrArg Int32.toInt hq9_v1
      refine lv_iload_n hx hb dX11_menFor_4 rfl (lv_at hl 0 rfl) ?_
      refine lv_aload_n hx hb dX11_menFor_5 rfl (lv_at hl 2 rfl) ?_
      refine va_get (D := (dC, dI)) (ci := 11) (v := .int (v1 24)) (C := RX11) (T := TX11) (N := 79) hx hb hts inB_11 hown hE.1 hP 0 rfl rfl 48 (by decide) (hts _ k_1368) (fun _ h9 => h9) rfl dX11_menFor_6 ?_
      refine tI (y := (v 24)) hq24_v1 ?_
      have b24_v : 0 ≤ (v 24).toInt ∧ (v 24).toInt ≤ 6 := YIb.b hIv.1 24 (by decide)
      refine lv_icmp_ge (tgt := 30) hx hb dX11_menFor_9 (by decide) (fun c2 => ?_) (fun c2 => ?_)
      · skip
        have zc2 : (v 24).toInt ≤ l3_1.toInt := by rw [fa_le] at c2; exact c2
        have rg3 := fb_rng l3_1
        have rg4 := fb_rng (v 24)
        refine lv_iload_n hx hb dX11_menFor_30 rfl (lv_at hl 1 rfl) ?_
        exact ret l2_1 (v1, f1, w1, g1) _ _ _ _ _ _ rfl ⟨hM_v1, hA_f1, hIv1, hCf1, hRf1, (show v1 0 = v 0 from hq0_v1), (show v1 1 = v 1 from hq1_v1), (show v1 2 = v 2 from hq2_v1), (show v1 3 = v 3 from hq3_v1), (show v1 4 = v 4 from hq4_v1), (show v1 5 = v 5 from hq5_v1), (show v1 8 = v 8 from hq8_v1), (show v1 9 = v 9 from hq9_v1), (show v1 10 = v 10 from hq10_v1), (show v1 13 = v 13 from hq13_v1), (show v1 14 = v 14 from hq14_v1), (show v1 15 = v 15 from hq15_v1), (show v1 17 = v 17 from hq17_v1), (show v1 18 = v 18 from hq18_v1), (show v1 24 = v 24 from hq24_v1), (show v1 25 = v 25 from hq25_v1), (show v1 35 = v 35 from hq35_v1), (show v1 36 = v 36 from hq36_v1), (show v1 38 = v 38 from hq38_v1), (show v1 39 = v 39 from hq39_v1)⟩ hP hD hS dX11_menFor_31 (Nat.le_refl _) (Nat.le_refl _)
      · skip
        have zc2 : ¬ ((v 24).toInt ≤ l3_1.toInt) := by rw [fa_le] at c2; exact c2
        have rg5 := fb_rng l3_1
        have rg6 := fb_rng (v 24)
        refine lv_iload_n hx hb dX11_menFor_12 rfl (lv_at hl 1 rfl) ?_
        refine lv_aload_n hx hb dX11_menFor_13 rfl (lv_at hl 2 rfl) ?_
        refine lv_iload_n hx hb dX11_menFor_14 rfl (lv_at hl 0 rfl) ?_
        refine lv_iload_n hx hb dX11_menFor_15 rfl (lv_at hl 3 rfl) ?_
        refine cbVi (n := 2) (rest := [.int l2_1]) hx hb hml hown hts hE hP hD hS hA (sY_X11_fits_1 0 l dC dI cy y0 r l3_1 p1 v1 f1 w1 g1 hIv1 hCf1 hRf1 ⟨show (0 : Int) ≤ l3_1.toInt by omega, show l3_1.toInt ≤ (5 : Int) by omega⟩ ⟨show (-1 : Int) ≤ p1.toInt by omega, show p1.toInt ≤ (5 : Int) by omega⟩) k_1747 k_1749 k_73 k_114 k_1750 (by decide +kernel) ⟨Nat.le_of_ble_eq_true rfl, Nat.le_of_ble_eq_true rfl⟩ 0 11 rfl rfl (rfl) hl.1 rfl (Nat.le_of_ble_eq_true rfl) dX11_menFor_16 (fun r7 u H locs hw hP hD hS => ?_)
        obtain ⟨hG8, hw⟩ := hw
        obtain ⟨v9, f10, w11, g12⟩ := u
        obtain ⟨kV_v9, kF_f10, hIv9, hCf10, hRf10, hk0_v9, hk1_v9, hk2_v9, hk3_v9, hk4_v9, hk5_v9, hk8_v9, hk9_v9, hk10_v9, hk13_v9, hk14_v9, hk15_v9, hk17_v9, hk18_v9, hk24_v9, hk25_v9, hk35_v9, hk36_v9, hk38_v9, hk39_v9, hw⟩ := hw
        have hM_v9 : KV [] v9 v := KV.tr kV_v9 hM_v1 rfl
        have hA_f10 : KF [7, 8] f10 f := KF.tr kF_f10 hA_f1 rfl
        have hP : va_P (dC, dI) vwCl (YW cy y0 r v9 f10 w11 g12) H := hP
        have hD : va_D A (YW cy y0 r v9 f10 w11 g12) := hD
        have hUv9 : (v9 35).toInt + (v9 36).toInt ≤ 40 := hIv9.2
        have hq0_v9 : v9 0 = (v 0) := hk0_v9.trans hq0_v1
        have hq1_v9 : v9 1 = (v 1) := hk1_v9.trans hq1_v1
        have hq2_v9 : v9 2 = (v 2) := hk2_v9.trans hq2_v1
        have hq3_v9 : v9 3 = (v 3) := hk3_v9.trans hq3_v1
        have hq4_v9 : v9 4 = (v 4) := hk4_v9.trans hq4_v1
        have hq5_v9 : v9 5 = (v 5) := hk5_v9.trans hq5_v1
        have hq8_v9 : v9 8 = (v 8) := hk8_v9.trans hq8_v1
        have hq9_v9 : v9 9 = (v 9) := hk9_v9.trans hq9_v1
        have zq9_v9 := congrArg Int32.toInt hq9_v9
        have hq10_v9 : v9 10 = (v 10) := hk10_v9.trans hq10_v1
        have hq13_v9 : v9 13 = (v 13) := hk13_v9.trans hq13_v1
        have hq14_v9 : v9 14 = (v 14) := hk14_v9.trans hq14_v1
        have hq15_v9 : v9 15 = (v 15) := hk15_v9.trans hq15_v1
        have hq17_v9 : v9 17 = (v 17) := hk17_v9.trans hq17_v1
        have hq18_v9 : v9 18 = (v 18) := hk18_v9.trans hq18_v1
        have hq24_v9 : v9 24 = (v 24) := hk24_v9.trans hq24_v1
        have hq25_v9 : v9 25 = (v 25) := hk25_v9.trans hq25_v1
        have hq35_v9 : v9 35 = (v 35) := hk35_v9.trans hq35_v1
        have hq36_v9 : v9 36 = (v 36) := hk36_v9.trans hq36_v1
        have hq38_v9 : v9 38 = (v 38) := hk38_v9.trans hq38_v1
        have hq39_v9 : v9 39 = (v 39) := hk39_v9.trans hq39_v1
        rcases hw with ⟨g13⟩ | ⟨g13⟩
        · skip
          subst g13
          have lt14 : (1 : Int32).toInt = 1 := by decide
          refine cbSi (n := 1) (rest := [.int l2_1]) hx hb hml hown hts hE hP hD hS hA (sY_X11_truth_1 0 l dC dI cy y0 r 1 v9 f10 w11 g12 hIv9 hCf10 hRf10 ) k_1761 k_1762 k_114 k_1763 (by decide +kernel) ⟨Nat.le_of_ble_eq_true rfl, Nat.le_of_ble_eq_true rfl⟩ (rfl) hl.1 rfl (Nat.le_of_ble_eq_true rfl) dX11_menFor_19 (fun r15 u H locs hw hP hD hS => ?_)
          obtain ⟨hG16, hw⟩ := hw
          refine lv_iadd hx hb dX11_menFor_22 ?_
          refine lv_topi (fun t17 et17 => ?_)
          refine lv_istore_n (lv' := [(2, .int t17), (3, .int l3_1), (0, .ref y0), (1, .int p1)]) hx hb dX11_menFor_23 rfl hl (by decide) rfl (fun ls hl => ?_)
          obtain ⟨t18, et18⟩ : ∃ y : Int32, y = l3_1 + 1 := ⟨_, rfl⟩
          have zt18 : t18.toInt = l3_1.toInt + 1 := by rw [et18]; exact add_i rfl (by decide) (by omega) (by omega)
          refine lv_iinc (v := t18) (lv' := [(3, .int t18), (2, .int t17), (0, .ref y0), (1, .int p1)]) hx hb dX11_menFor_24 hl (k := 1) rfl (by rw [et18]; rfl) (by decide) rfl (fun ls hl => ?_)
          refine lv_goto (tgt := 4) hx hb dX11_menFor_27 (by decide) ?_
          have rg19 := fb_rng t18
          exact ih1 t17 t18 v9 f10 w11 g12 hIv9 hCf10 hRf10 hq0_v9 hq1_v9 hq2_v9 hq3_v9 hq4_v9 hq5_v9 hq8_v9 hq9_v9 hq10_v9 hq13_v9 hq14_v9 hq15_v9 hq17_v9 hq18_v9 hq24_v9 hq25_v9 hq35_v9 hq36_v9 hq38_v9 hq39_v9 ⟨show (0 : Int) ≤ t18.toInt by omega, show t18.toInt ≤ (2147483647 : Int) by omega⟩ hM_v9 hA_f10 (by show (2147483647 - t18.toInt).toNat < n1; omega) _ _ _ hP hD hS (lv_sub hl [0, 1, 2, 3] rfl)
        · skip
          subst g13
          have lt20 : (0 : Int32).toInt = 0 := by decide
          refine cbSi (n := 1) (rest := [.int l2_1]) hx hb hml hown hts hE hP hD hS hA (sY_X11_truth_1 0 l dC dI cy y0 r 0 v9 f10 w11 g12 hIv9 hCf10 hRf10 ) k_1761 k_1762 k_114 k_1763 (by decide +kernel) ⟨Nat.le_of_ble_eq_true rfl, Nat.le_of_ble_eq_true rfl⟩ (rfl) hl.1 rfl (Nat.le_of_ble_eq_true rfl) dX11_menFor_19 (fun r21 u H locs hw hP hD hS => ?_)
          obtain ⟨hG22, hw⟩ := hw
          refine lv_iadd hx hb dX11_menFor_22 ?_
          refine lv_topi (fun t23 et23 => ?_)
          refine lv_istore_n (lv' := [(2, .int t23), (3, .int l3_1), (0, .ref y0), (1, .int p1)]) hx hb dX11_menFor_23 rfl hl (by decide) rfl (fun ls hl => ?_)
          obtain ⟨t24, et24⟩ : ∃ y : Int32, y = l3_1 + 1 := ⟨_, rfl⟩
          have zt24 : t24.toInt = l3_1.toInt + 1 := by rw [et24]; exact add_i rfl (by decide) (by omega) (by omega)
          refine lv_iinc (v := t24) (lv' := [(3, .int t24), (2, .int t23), (0, .ref y0), (1, .int p1)]) hx hb dX11_menFor_24 hl (k := 1) rfl (by rw [et24]; rfl) (by decide) rfl (fun ls hl => ?_)
          refine lv_goto (tgt := 4) hx hb dX11_menFor_27 (by decide) ?_
          have rg25 := fb_rng t24
          exact ih1 t23 t24 v9 f10 w11 g12 hIv9 hCf10 hRf10 hq0_v9 hq1_v9 hq2_v9 hq3_v9 hq4_v9 hq5_v9 hq8_v9 hq9_v9 hq10_v9 hq13_v9 hq14_v9 hq15_v9 hq17_v9 hq18_v9 hq24_v9 hq25_v9 hq35_v9 hq36_v9 hq38_v9 hq39_v9 ⟨show (0 : Int) ≤ t24.toInt by omega, show t24.toInt ≤ (2147483647 : Int) by omega⟩ hM_v9 hA_f10 (by show (2147483647 - t24.toInt).toNat < n1; omega) _ _ _ hP hD hS (lv_sub hl [0, 1, 2, 3] rfl)
  exact lp1 _ 0 0 v f w g hIv hCf hRf rfl rfl rfl rfl rfl rfl rfl rfl rfl rfl rfl rfl rfl rfl rfl rfl rfl rfl rfl rfl ⟨by decide, by decide⟩ hM_v hA_f (Nat.lt_succ_self _) _ _ _ hP hD hS (lv_sub hl [0, 1, 2, 3] rfl)
set_option maxHeartbeats 4000000 in
set_option maxRecDepth 100000 in
theorem sY_X11_rags_1 (l : Launch) (dC : Nat → ClassId) (dI : Nat → Nat → Nat) (cy : Nat → ClassId) (y0 : Nat) (r : Nat → Nat)  (v : Nat → Int32) (f : Nat → Nat → Int32) (w : Int64) (g : Nat → Int64) (hIv : YI v) (hCf : YC f) (hRf : progOK (f 4) (f 5) (v 9).toInt.toNat)  : ctI l (dC, dI) cy yX11_rags cX11_rags 3 .int 6 171 0 0 ((Nat → Int32) × (Nat → Nat → Int32) × (Int64) × (Nat → Int64)) [.ref y0] (YW cy y0 r v f w g) (fun r u => KV [] u.1 v ∧ KF [7, 8, 24] u.2.1 f ∧ YI u.1 ∧ YC u.2.1 ∧ progOK (u.2.1 4) (u.2.1 5) (u.1 9).toInt.toNat ∧ u.1 0 = v 0 ∧ u.1 1 = v 1 ∧ u.1 2 = v 2 ∧ u.1 3 = v 3 ∧ u.1 4 = v 4 ∧ u.1 5 = v 5 ∧ u.1 8 = v 8 ∧ u.1 9 = v 9 ∧ u.1 10 = v 10 ∧ u.1 13 = v 13 ∧ u.1 14 = v 14 ∧ u.1 15 = v 15 ∧ u.1 17 = v 17 ∧ u.1 18 = v 18 ∧ u.1 24 = v 24 ∧ u.1 25 = v 25 ∧ u.1 35 = v 35 ∧ u.1 36 = v 36 ∧ u.1 38 = v 38 ∧ u.1 39 = v 39) (fun u => YW cy y0 r u.1 u.2.1 u.2.2.1 u.2.2.2) := by
  refine ctI_of (by decide) (Nat.le_of_ble_eq_true rfl) (fun p e s m below meth c A ls Q hx hb hml hts hown hE hP hD hA hl ret => ?_)
  have hUv : (v 35).toInt + (v 36).toInt ≤ 40 := hIv.2
  have hM_v : KV [] v v := fun _ _ => rfl
  have hA_f : KF [7, 8, 24] f f := fun _ _ => rfl
  have hown : s.vm.findClass RX11 = some m.cls := hown
  have hS : va_S A s.heap s.heap [] := va_S.rf
  have hl : lv_has ls 3 [(0, .ref y0)] := hl
  refine lv_aload_n hx hb dX11_rags_0 rfl (lv_at hl 0 rfl) ?_
  refine cbVv (n := 0) (rest := []) hx hb hml hown hts hE hP hD hS hA (sY_X11_fill_1 0 l dC dI cy y0 r  v f w g hIv hCf hRf ) k_1739 k_1741 k_71 k_114 k_1742 (by decide +kernel) ⟨Nat.le_of_ble_eq_true rfl, Nat.le_of_ble_eq_true rfl⟩ 0 11 rfl rfl (rfl) hl.1 rfl (Nat.le_of_ble_eq_true rfl) dX11_rags_1 (fun u H locs hw hP hD hS => ?_)
  obtain ⟨hG1, hw⟩ := hw
  obtain ⟨v2, f3, w4, g5⟩ := u
  obtain ⟨kV_v2, kF_f3, hIv2, hCf3, hRf3, hk0_v2, hk1_v2, hk2_v2, hk3_v2, hk4_v2, hk5_v2, hk8_v2, hk9_v2, hk10_v2, hk13_v2, hk14_v2, hk15_v2, hk17_v2, hk18_v2, hk24_v2, hk25_v2, hk35_v2, hk36_v2, hk38_v2, hk39_v2⟩ := hw
  have hM_v2 : KV [] v2 v := KV.tr kV_v2 hM_v rfl
  have hA_f3 : KF [7, 8, 24] f3 f := KF.tr kF_f3 hA_f rfl
  have hP : va_P (dC, dI) vwCl (YW cy y0 r v2 f3 w4 g5) H := hP
  have hD : va_D A (YW cy y0 r v2 f3 w4 g5) := hD
  have hUv2 : (v2 35).toInt + (v2 36).toInt ≤ 40 := hIv2.2
  have hq0_v2 : v2 0 = (v 0) := hk0_v2
  have hq1_v2 : v2 1 = (v 1) := hk1_v2
  have hq2_v2 : v2 2 = (v 2) := hk2_v2
  have hq3_v2 : v2 3 = (v 3) := hk3_v2
  have hq4_v2 : v2 4 = (v 4) := hk4_v2
  have hq5_v2 : v2 5 = (v 5) := hk5_v2
  have hq8_v2 : v2 8 = (v 8) := hk8_v2
  have hq9_v2 : v2 9 = (v 9) := hk9_v2
  have zq9_v2 := congrArg Int32.toInt hq9_v2
  have hq10_v2 : v2 10 = (v 10) := hk10_v2
  have hq13_v2 : v2 13 = (v 13) := hk13_v2
  have hq14_v2 : v2 14 = (v 14) := hk14_v2
  have hq15_v2 : v2 15 = (v 15) := hk15_v2
  have hq17_v2 : v2 17 = (v 17) := hk17_v2
  have hq18_v2 : v2 18 = (v 18) := hk18_v2
  have hq24_v2 : v2 24 = (v 24) := hk24_v2
  have hq25_v2 : v2 25 = (v 25) := hk25_v2
  have hq35_v2 : v2 35 = (v 35) := hk35_v2
  have hq36_v2 : v2 36 = (v 36) := hk36_v2
  have hq38_v2 : v2 38 = (v 38) := hk38_v2
  have hq39_v2 : v2 39 = (v 39) := hk39_v2
  refine lv_iconst (v := 0) hx hb dX11_rags_4 (by decide) ?_
  refine lv_istore_n (lv' := [(1, .int 0), (0, .ref y0)]) hx hb dX11_rags_5 rfl hl (by decide) rfl (fun ls hl => ?_)
  refine lv_iconst (v := 0) hx hb dX11_rags_6 (by decide) ?_
  refine lv_istore_n (lv' := [(2, .int 0), (1, .int 0), (0, .ref y0)]) hx hb dX11_rags_7 rfl hl (by decide) rfl (fun ls hl => ?_)
  have lp6 : ∀ (n6 : Nat) (l1_6 : Int32) (l2_6 : Int32) (v6 : Nat → Int32) (f6 : Nat → Nat → Int32) (w6 : Int64) (g6 : Nat → Int64), YI v6 → YC f6 → progOK (f6 4) (f6 5) (v6 9).toInt.toNat → v6 0 = (v 0) → v6 1 = (v 1) → v6 2 = (v 2) → v6 3 = (v 3) → v6 4 = (v 4) → v6 5 = (v 5) → v6 8 = (v 8) → v6 9 = (v 9) → v6 10 = (v 10) → v6 13 = (v 13) → v6 14 = (v 14) → v6 15 = (v 15) → v6 17 = (v 17) → v6 18 = (v 18) → v6 24 = (v 24) → v6 25 = (v 25) → v6 35 = (v 35) → v6 36 = (v 36) → v6 38 = (v 38) → v6 39 = (v 39) → ((0 : Int) ≤ l2_6.toInt ∧ l2_6.toInt ≤ 2147483647) → KV [] v6 v → KF [7, 8, 24] f6 f → (2147483647 - l2_6.toInt).toNat < n6 → ∀ (H : Heap) (locs : List Loc) (ls : Array Slot), va_P (dC, dI) vwCl (YW cy y0 r v6 f6 w6 g6) H → va_D A (YW cy y0 r v6 f6 w6 g6) → va_S A s.heap H locs → lv_has ls 3 [(2, .int l2_6), (1, .int l1_6), (0, .ref y0)] → W p l e { frames := 6, cells := 0, slots := 0, locals := 171 } s m ([.ref y0] : List Value).toArray below meth c H locs 0 0 Q (F0 m 8 ls []) := by
    intro n6
    induction n6 with
    | zero => intro l1_6 l2_6 v6 f6 w6 g6 hIv6 hCf6 hRf6 hq0_v6 hq1_v6 hq2_v6 hq3_v6 hq4_v6 hq5_v6 hq8_v6 hq9_v6 hq10_v6 hq13_v6 hq14_v6 hq15_v6 hq17_v6 hq18_v6 hq24_v6 hq25_v6 hq35_v6 hq36_v6 hq38_v6 hq39_v6 hr2_6 hM_v6 hA_f6 hm; exact absurd hm (Nat.not_lt_zero _)
    | succ n6 ih6 =>
      intro l1_6 l2_6 v6 f6 w6 g6 hIv6 hCf6 hRf6 hq0_v6 hq1_v6 hq2_v6 hq3_v6 hq4_v6 hq5_v6 hq8_v6 hq9_v6 hq10_v6 hq13_v6 hq14_v6 hq15_v6 hq17_v6 hq18_v6 hq24_v6 hq25_v6 hq35_v6 hq36_v6 hq38_v6 hq39_v6 hr2_6 hM_v6 hA_f6 hm6 H locs ls hP hD hS hl
      have hUv6 : (v6 35).toInt + (v6 36).toInt ≤ 40 := hIv6.2
      have zq9_v6 := congrArg Int32.toInt hq9_v6
      refine lv_iload_n hx hb dX11_rags_8 rfl (lv_at hl 0 rfl) ?_
      refine lv_aload_n hx hb dX11_rags_9 rfl (lv_at hl 2 rfl) ?_
      refine va_get (D := (dC, dI)) (ci := 11) (v := .int (v6 25)) (C := RX11) (T := TX11) (N := 79) hx hb hts inB_11 hown hE.1 hP 0 rfl rfl 49 (by decide) (hts _ k_1369) (fun _ h9 => h9) rfl dX11_rags_10 ?_
      refine tI (y := (v 25)) hq25_v6 ?_
      have b25_v : 0 ≤ (v 25).toInt ∧ (v 25).toInt ≤ 6 := YIb.b hIv.1 25 (by decide)
      refine lv_icmp_ge (tgt := 43) hx hb dX11_rags_13 (by decide) (fun c7 => ?_) (fun c7 => ?_)
      · skip
        have zc7 : (v 25).toInt ≤ l2_6.toInt := by rw [fa_le] at c7; exact c7
        have rg8 := fb_rng l2_6
        have rg9 := fb_rng (v 25)
        refine lv_iload_n hx hb dX11_rags_43 rfl (lv_at hl 1 rfl) ?_
        exact ret l1_6 (v6, f6, w6, g6) _ _ _ _ _ _ rfl ⟨hM_v6, hA_f6, hIv6, hCf6, hRf6, hq0_v6, hq1_v6, hq2_v6, hq3_v6, hq4_v6, hq5_v6, hq8_v6, hq9_v6, hq10_v6, hq13_v6, hq14_v6, hq15_v6, hq17_v6, hq18_v6, hq24_v6, hq25_v6, hq35_v6, hq36_v6, hq38_v6, hq39_v6⟩ hP hD hS dX11_rags_44 (Nat.le_refl _) (Nat.le_refl _)
      · skip
        have zc7 : ¬ ((v 25).toInt ≤ l2_6.toInt) := by rw [fa_le] at c7; exact c7
        have rg10 := fb_rng l2_6
        have rg11 := fb_rng (v 25)
        refine lv_iload_n hx hb dX11_rags_16 rfl (lv_at hl 1 rfl) ?_
        refine lv_aload_n hx hb dX11_rags_17 rfl (lv_at hl 2 rfl) ?_
        refine lv_iload_n hx hb dX11_rags_18 rfl (lv_at hl 0 rfl) ?_
        refine cbVi (n := 1) (rest := [.int l1_6]) hx hb hml hown hts hE hP hD hS hA (sY_X11_menFor_1 l dC dI cy y0 r l2_6 v6 f6 w6 g6 hIv6 hCf6 hRf6 ⟨show (0 : Int) ≤ l2_6.toInt by omega, show l2_6.toInt ≤ (5 : Int) by omega⟩) k_1968 k_1970 k_95 k_114 k_1971 (by decide +kernel) ⟨Nat.le_of_ble_eq_true rfl, Nat.le_of_ble_eq_true rfl⟩ 0 11 rfl rfl (rfl) hl.1 rfl (Nat.le_of_ble_eq_true rfl) dX11_rags_19 (fun r12 u H locs hw hP hD hS => ?_)
        obtain ⟨v13, f14, w15, g16⟩ := u
        obtain ⟨kV_v13, kF_f14, hIv13, hCf14, hRf14, hk0_v13, hk1_v13, hk2_v13, hk3_v13, hk4_v13, hk5_v13, hk8_v13, hk9_v13, hk10_v13, hk13_v13, hk14_v13, hk15_v13, hk17_v13, hk18_v13, hk24_v13, hk25_v13, hk35_v13, hk36_v13, hk38_v13, hk39_v13⟩ := hw
        have hM_v13 : KV [] v13 v := KV.tr kV_v13 hM_v6 rfl
        have hA_f14 : KF [7, 8, 24] f14 f := KF.tr kF_f14 hA_f6 rfl
        have hP : va_P (dC, dI) vwCl (YW cy y0 r v13 f14 w15 g16) H := hP
        have hD : va_D A (YW cy y0 r v13 f14 w15 g16) := hD
        have hUv13 : (v13 35).toInt + (v13 36).toInt ≤ 40 := hIv13.2
        have hq0_v13 : v13 0 = (v 0) := hk0_v13.trans hq0_v6
        have hq1_v13 : v13 1 = (v 1) := hk1_v13.trans hq1_v6
        have hq2_v13 : v13 2 = (v 2) := hk2_v13.trans hq2_v6
        have hq3_v13 : v13 3 = (v 3) := hk3_v13.trans hq3_v6
        have hq4_v13 : v13 4 = (v 4) := hk4_v13.trans hq4_v6
        have hq5_v13 : v13 5 = (v 5) := hk5_v13.trans hq5_v6
        have hq8_v13 : v13 8 = (v 8) := hk8_v13.trans hq8_v6
        have hq9_v13 : v13 9 = (v 9) := hk9_v13.trans hq9_v6
        have zq9_v13 := congrArg Int32.toInt hq9_v13
        have hq10_v13 : v13 10 = (v 10) := hk10_v13.trans hq10_v6
        have hq13_v13 : v13 13 = (v 13) := hk13_v13.trans hq13_v6
        have hq14_v13 : v13 14 = (v 14) := hk14_v13.trans hq14_v6
        have hq15_v13 : v13 15 = (v 15) := hk15_v13.trans hq15_v6
        have hq17_v13 : v13 17 = (v 17) := hk17_v13.trans hq17_v6
        have hq18_v13 : v13 18 = (v 18) := hk18_v13.trans hq18_v6
        have hq24_v13 : v13 24 = (v 24) := hk24_v13.trans hq24_v6
        have hq25_v13 : v13 25 = (v 25) := hk25_v13.trans hq25_v6
        have hq35_v13 : v13 35 = (v 35) := hk35_v13.trans hq35_v6
        have hq36_v13 : v13 36 = (v 36) := hk36_v13.trans hq36_v6
        have hq38_v13 : v13 38 = (v 38) := hk38_v13.trans hq38_v6
        have hq39_v13 : v13 39 = (v 39) := hk39_v13.trans hq39_v6
        refine lv_if_ne (tgt := 29) hx hb dX11_rags_22 (by decide) (fun c17 => ?_) (fun c17 => ?_)
        · skip
          have zc17 : ¬ (r12.toInt = 0) := by rw [fa_eq, show (0 : Int32).toInt = 0 from by decide] at c17; exact c17
          refine lv_iconst (v := 0) hx hb dX11_rags_29 (by decide) ?_
          have lt18 : (0 : Int32).toInt = 0 := by decide
          refine cbSi (n := 1) (rest := [.int l1_6]) hx hb hml hown hts hE hP hD hS hA (sY_X11_truth_1 0 l dC dI cy y0 r 0 v13 f14 w15 g16 hIv13 hCf14 hRf14 ) k_1761 k_1762 k_114 k_1763 (by decide +kernel) ⟨Nat.le_of_ble_eq_true rfl, Nat.le_of_ble_eq_true rfl⟩ (rfl) hl.1 rfl (Nat.le_of_ble_eq_true rfl) dX11_rags_30 (fun r19 u H locs hw hP hD hS => ?_)
          obtain ⟨hG20, hw⟩ := hw
          refine lv_iload_n hx hb dX11_rags_33 rfl (lv_at hl 0 rfl) ?_
          refine lv_ishl hx hb dX11_rags_34 ?_
          refine lv_topi (fun t21 et21 => ?_)
          have zt21 : 0 ≤ t21.toInt ∧ t21.toInt ≤ 32 := by rw [et21]; exact shl01_rng (by omega) (by omega) (by omega) (by omega)
          refine lv_ior hx hb dX11_rags_35 ?_
          refine lv_topi (fun t22 et22 => ?_)
          refine lv_istore_n (lv' := [(1, .int t22), (2, .int l2_6), (0, .ref y0)]) hx hb dX11_rags_36 rfl hl (by decide) rfl (fun ls hl => ?_)
          obtain ⟨t23, et23⟩ : ∃ y : Int32, y = l2_6 + 1 := ⟨_, rfl⟩
          have zt23 : t23.toInt = l2_6.toInt + 1 := by rw [et23]; exact add_i rfl (by decide) (by omega) (by omega)
          refine lv_iinc (v := t23) (lv' := [(2, .int t23), (1, .int t22), (0, .ref y0)]) hx hb dX11_rags_37 hl (k := 1) rfl (by rw [et23]; rfl) (by decide) rfl (fun ls hl => ?_)
          refine lv_goto (tgt := 8) hx hb dX11_rags_40 (by decide) ?_
          have rg24 := fb_rng t23
          exact ih6 t22 t23 v13 f14 w15 g16 hIv13 hCf14 hRf14 hq0_v13 hq1_v13 hq2_v13 hq3_v13 hq4_v13 hq5_v13 hq8_v13 hq9_v13 hq10_v13 hq13_v13 hq14_v13 hq15_v13 hq17_v13 hq18_v13 hq24_v13 hq25_v13 hq35_v13 hq36_v13 hq38_v13 hq39_v13 ⟨show (0 : Int) ≤ t23.toInt by omega, show t23.toInt ≤ (2147483647 : Int) by omega⟩ hM_v13 hA_f14 (by show (2147483647 - t23.toInt).toNat < n6; omega) _ _ _ hP hD hS (lv_sub hl [0, 1, 2] rfl)
        · skip
          have zc17 : r12.toInt = 0 := by rw [fa_eq, show (0 : Int32).toInt = 0 from by decide] at c17; exact c17
          refine lv_iconst (v := 1) hx hb dX11_rags_25 (by decide) ?_
          refine lv_goto (tgt := 30) hx hb dX11_rags_26 (by decide) ?_
          have lt25 : (1 : Int32).toInt = 1 := by decide
          refine cbSi (n := 1) (rest := [.int l1_6]) hx hb hml hown hts hE hP hD hS hA (sY_X11_truth_1 0 l dC dI cy y0 r 1 v13 f14 w15 g16 hIv13 hCf14 hRf14 ) k_1761 k_1762 k_114 k_1763 (by decide +kernel) ⟨Nat.le_of_ble_eq_true rfl, Nat.le_of_ble_eq_true rfl⟩ (rfl) hl.1 rfl (Nat.le_of_ble_eq_true rfl) dX11_rags_30 (fun r26 u H locs hw hP hD hS => ?_)
          obtain ⟨hG27, hw⟩ := hw
          refine lv_iload_n hx hb dX11_rags_33 rfl (lv_at hl 0 rfl) ?_
          refine lv_ishl hx hb dX11_rags_34 ?_
          refine lv_topi (fun t28 et28 => ?_)
          have zt28 : 0 ≤ t28.toInt ∧ t28.toInt ≤ 32 := by rw [et28]; exact shl01_rng (by omega) (by omega) (by omega) (by omega)
          refine lv_ior hx hb dX11_rags_35 ?_
          refine lv_topi (fun t29 et29 => ?_)
          refine lv_istore_n (lv' := [(1, .int t29), (2, .int l2_6), (0, .ref y0)]) hx hb dX11_rags_36 rfl hl (by decide) rfl (fun ls hl => ?_)
          obtain ⟨t30, et30⟩ : ∃ y : Int32, y = l2_6 + 1 := ⟨_, rfl⟩
          have zt30 : t30.toInt = l2_6.toInt + 1 := by rw [et30]; exact add_i rfl (by decide) (by omega) (by omega)
          refine lv_iinc (v := t30) (lv' := [(2, .int t30), (1, .int t29), (0, .ref y0)]) hx hb dX11_rags_37 hl (k := 1) rfl (by rw [et30]; rfl) (by decide) rfl (fun ls hl => ?_)
          refine lv_goto (tgt := 8) hx hb dX11_rags_40 (by decide) ?_
          have rg31 := fb_rng t30
          exact ih6 t29 t30 v13 f14 w15 g16 hIv13 hCf14 hRf14 hq0_v13 hq1_v13 hq2_v13 hq3_v13 hq4_v13 hq5_v13 hq8_v13 hq9_v13 hq10_v13 hq13_v13 hq14_v13 hq15_v13 hq17_v13 hq18_v13 hq24_v13 hq25_v13 hq35_v13 hq36_v13 hq38_v13 hq39_v13 ⟨show (0 : Int) ≤ t30.toInt by omega, show t30.toInt ≤ (2147483647 : Int) by omega⟩ hM_v13 hA_f14 (by show (2147483647 - t30.toInt).toNat < n6; omega) _ _ _ hP hD hS (lv_sub hl [0, 1, 2] rfl)
  exact lp6 _ 0 0 v2 f3 w4 g5 hIv2 hCf3 hRf3 hq0_v2 hq1_v2 hq2_v2 hq3_v2 hq4_v2 hq5_v2 hq8_v2 hq9_v2 hq10_v2 hq13_v2 hq14_v2 hq15_v2 hq17_v2 hq18_v2 hq24_v2 hq25_v2 hq35_v2 hq36_v2 hq38_v2 hq39_v2 ⟨by decide, by decide⟩ hM_v2 hA_f3 (Nat.lt_succ_self _) _ _ _ hP hD hS (lv_sub hl [0, 1, 2] rfl)
set_option maxHeartbeats 4000000 in
set_option maxRecDepth 100000 in
theorem sY_X11_naked_1 (l : Launch) (dC : Nat → ClassId) (dI : Nat → Nat → Nat) (cy : Nat → ClassId) (y0 : Nat) (r : Nat → Nat)  (v : Nat → Int32) (f : Nat → Nat → Int32) (w : Int64) (g : Nat → Int64) (hIv : YI v) (hCf : YC f) (hRf : progOK (f 4) (f 5) (v 9).toInt.toNat)  : ctI l (dC, dI) cy yX11_naked cX11_naked 3 .int 6 171 0 0 ((Nat → Int32) × (Nat → Nat → Int32) × (Int64) × (Nat → Int64)) [.ref y0] (YW cy y0 r v f w g) (fun r u => KV [] u.1 v ∧ KF [7, 8, 24] u.2.1 f ∧ YI u.1 ∧ YC u.2.1 ∧ progOK (u.2.1 4) (u.2.1 5) (u.1 9).toInt.toNat ∧ u.1 0 = v 0 ∧ u.1 1 = v 1 ∧ u.1 2 = v 2 ∧ u.1 3 = v 3 ∧ u.1 4 = v 4 ∧ u.1 5 = v 5 ∧ u.1 8 = v 8 ∧ u.1 9 = v 9 ∧ u.1 10 = v 10 ∧ u.1 13 = v 13 ∧ u.1 14 = v 14 ∧ u.1 15 = v 15 ∧ u.1 17 = v 17 ∧ u.1 18 = v 18 ∧ u.1 24 = v 24 ∧ u.1 25 = v 25 ∧ u.1 35 = v 35 ∧ u.1 36 = v 36 ∧ u.1 38 = v 38 ∧ u.1 39 = v 39) (fun u => YW cy y0 r u.1 u.2.1 u.2.2.1 u.2.2.2) := by
  refine ctI_of (by decide) (Nat.le_of_ble_eq_true rfl) (fun p e s m below meth c A ls Q hx hb hml hts hown hE hP hD hA hl ret => ?_)
  have hUv : (v 35).toInt + (v 36).toInt ≤ 40 := hIv.2
  have hM_v : KV [] v v := fun _ _ => rfl
  have hA_f : KF [7, 8, 24] f f := fun _ _ => rfl
  have hown : s.vm.findClass RX11 = some m.cls := hown
  have hS : va_S A s.heap s.heap [] := va_S.rf
  have hl : lv_has ls 3 [(0, .ref y0)] := hl
  refine lv_aload_n hx hb dX11_naked_0 rfl (lv_at hl 0 rfl) ?_
  refine cbVv (n := 0) (rest := []) hx hb hml hown hts hE hP hD hS hA (sY_X11_fill_1 0 l dC dI cy y0 r  v f w g hIv hCf hRf ) k_1739 k_1741 k_71 k_114 k_1742 (by decide +kernel) ⟨Nat.le_of_ble_eq_true rfl, Nat.le_of_ble_eq_true rfl⟩ 0 11 rfl rfl (rfl) hl.1 rfl (Nat.le_of_ble_eq_true rfl) dX11_naked_1 (fun u H locs hw hP hD hS => ?_)
  obtain ⟨hG1, hw⟩ := hw
  obtain ⟨v2, f3, w4, g5⟩ := u
  obtain ⟨kV_v2, kF_f3, hIv2, hCf3, hRf3, hk0_v2, hk1_v2, hk2_v2, hk3_v2, hk4_v2, hk5_v2, hk8_v2, hk9_v2, hk10_v2, hk13_v2, hk14_v2, hk15_v2, hk17_v2, hk18_v2, hk24_v2, hk25_v2, hk35_v2, hk36_v2, hk38_v2, hk39_v2⟩ := hw
  have hM_v2 : KV [] v2 v := KV.tr kV_v2 hM_v rfl
  have hA_f3 : KF [7, 8, 24] f3 f := KF.tr kF_f3 hA_f rfl
  have hP : va_P (dC, dI) vwCl (YW cy y0 r v2 f3 w4 g5) H := hP
  have hD : va_D A (YW cy y0 r v2 f3 w4 g5) := hD
  have hUv2 : (v2 35).toInt + (v2 36).toInt ≤ 40 := hIv2.2
  have hq0_v2 : v2 0 = (v 0) := hk0_v2
  have hq1_v2 : v2 1 = (v 1) := hk1_v2
  have hq2_v2 : v2 2 = (v 2) := hk2_v2
  have hq3_v2 : v2 3 = (v 3) := hk3_v2
  have hq4_v2 : v2 4 = (v 4) := hk4_v2
  have hq5_v2 : v2 5 = (v 5) := hk5_v2
  have hq8_v2 : v2 8 = (v 8) := hk8_v2
  have hq9_v2 : v2 9 = (v 9) := hk9_v2
  have zq9_v2 := congrArg Int32.toInt hq9_v2
  have hq10_v2 : v2 10 = (v 10) := hk10_v2
  have hq13_v2 : v2 13 = (v 13) := hk13_v2
  have hq14_v2 : v2 14 = (v 14) := hk14_v2
  have hq15_v2 : v2 15 = (v 15) := hk15_v2
  have hq17_v2 : v2 17 = (v 17) := hk17_v2
  have hq18_v2 : v2 18 = (v 18) := hk18_v2
  have hq24_v2 : v2 24 = (v 24) := hk24_v2
  have hq25_v2 : v2 25 = (v 25) := hk25_v2
  have hq35_v2 : v2 35 = (v 35) := hk35_v2
  have hq36_v2 : v2 36 = (v 36) := hk36_v2
  have hq38_v2 : v2 38 = (v 38) := hk38_v2
  have hq39_v2 : v2 39 = (v 39) := hk39_v2
  refine lv_iconst (v := 0) hx hb dX11_naked_4 (by decide) ?_
  refine lv_istore_n (lv' := [(1, .int 0), (0, .ref y0)]) hx hb dX11_naked_5 rfl hl (by decide) rfl (fun ls hl => ?_)
  refine lv_iconst (v := 0) hx hb dX11_naked_6 (by decide) ?_
  refine lv_istore_n (lv' := [(2, .int 0), (1, .int 0), (0, .ref y0)]) hx hb dX11_naked_7 rfl hl (by decide) rfl (fun ls hl => ?_)
  have lp6 : ∀ (n6 : Nat) (l1_6 : Int32) (l2_6 : Int32) (v6 : Nat → Int32) (f6 : Nat → Nat → Int32) (w6 : Int64) (g6 : Nat → Int64), YI v6 → YC f6 → progOK (f6 4) (f6 5) (v6 9).toInt.toNat → v6 0 = (v 0) → v6 1 = (v 1) → v6 2 = (v 2) → v6 3 = (v 3) → v6 4 = (v 4) → v6 5 = (v 5) → v6 8 = (v 8) → v6 9 = (v 9) → v6 10 = (v 10) → v6 13 = (v 13) → v6 14 = (v 14) → v6 15 = (v 15) → v6 17 = (v 17) → v6 18 = (v 18) → v6 24 = (v 24) → v6 25 = (v 25) → v6 35 = (v 35) → v6 36 = (v 36) → v6 38 = (v 38) → v6 39 = (v 39) → ((0 : Int) ≤ l2_6.toInt ∧ l2_6.toInt ≤ 2147483647) → KV [] v6 v → KF [7, 8, 24] f6 f → (2147483647 - l2_6.toInt).toNat < n6 → ∀ (H : Heap) (locs : List Loc) (ls : Array Slot), va_P (dC, dI) vwCl (YW cy y0 r v6 f6 w6 g6) H → va_D A (YW cy y0 r v6 f6 w6 g6) → va_S A s.heap H locs → lv_has ls 3 [(2, .int l2_6), (1, .int l1_6), (0, .ref y0)] → W p l e { frames := 6, cells := 0, slots := 0, locals := 171 } s m ([.ref y0] : List Value).toArray below meth c H locs 0 0 Q (F0 m 8 ls []) := by
    intro n6
    induction n6 with
    | zero => intro l1_6 l2_6 v6 f6 w6 g6 hIv6 hCf6 hRf6 hq0_v6 hq1_v6 hq2_v6 hq3_v6 hq4_v6 hq5_v6 hq8_v6 hq9_v6 hq10_v6 hq13_v6 hq14_v6 hq15_v6 hq17_v6 hq18_v6 hq24_v6 hq25_v6 hq35_v6 hq36_v6 hq38_v6 hq39_v6 hr2_6 hM_v6 hA_f6 hm; exact absurd hm (Nat.not_lt_zero _)
    | succ n6 ih6 =>
      intro l1_6 l2_6 v6 f6 w6 g6 hIv6 hCf6 hRf6 hq0_v6 hq1_v6 hq2_v6 hq3_v6 hq4_v6 hq5_v6 hq8_v6 hq9_v6 hq10_v6 hq13_v6 hq14_v6 hq15_v6 hq17_v6 hq18_v6 hq24_v6 hq25_v6 hq35_v6 hq36_v6 hq38_v6 hq39_v6 hr2_6 hM_v6 hA_f6 hm6 H locs ls hP hD hS hl
      have hUv6 : (v6 35).toInt + (v6 36).toInt ≤ 40 := hIv6.2
      have zq9_v6 := congrArg Int32.toInt hq9_v6
      refine lv_iload_n hx hb dX11_naked_8 rfl (lv_at hl 0 rfl) ?_
      refine lv_aload_n hx hb dX11_naked_9 rfl (lv_at hl 2 rfl) ?_
      refine va_get (D := (dC, dI)) (ci := 11) (v := .int (v6 24)) (C := RX11) (T := TX11) (N := 79) hx hb hts inB_11 hown hE.1 hP 0 rfl rfl 48 (by decide) (hts _ k_1368) (fun _ h9 => h9) rfl dX11_naked_10 ?_
      refine tI (y := (v 24)) hq24_v6 ?_
      have b24_v : 0 ≤ (v 24).toInt ∧ (v 24).toInt ≤ 6 := YIb.b hIv.1 24 (by decide)
      refine lv_icmp_ge (tgt := 43) hx hb dX11_naked_13 (by decide) (fun c7 => ?_) (fun c7 => ?_)
      · skip
        have zc7 : (v 24).toInt ≤ l2_6.toInt := by rw [fa_le] at c7; exact c7
        have rg8 := fb_rng l2_6
        have rg9 := fb_rng (v 24)
        refine lv_iload_n hx hb dX11_naked_43 rfl (lv_at hl 1 rfl) ?_
        exact ret l1_6 (v6, f6, w6, g6) _ _ _ _ _ _ rfl ⟨hM_v6, hA_f6, hIv6, hCf6, hRf6, hq0_v6, hq1_v6, hq2_v6, hq3_v6, hq4_v6, hq5_v6, hq8_v6, hq9_v6, hq10_v6, hq13_v6, hq14_v6, hq15_v6, hq17_v6, hq18_v6, hq24_v6, hq25_v6, hq35_v6, hq36_v6, hq38_v6, hq39_v6⟩ hP hD hS dX11_naked_44 (Nat.le_refl _) (Nat.le_refl _)
      · skip
        have zc7 : ¬ ((v 24).toInt ≤ l2_6.toInt) := by rw [fa_le] at c7; exact c7
        have rg10 := fb_rng l2_6
        have rg11 := fb_rng (v 24)
        refine lv_iload_n hx hb dX11_naked_16 rfl (lv_at hl 1 rfl) ?_
        refine lv_aload_n hx hb dX11_naked_17 rfl (lv_at hl 2 rfl) ?_
        refine lv_iload_n hx hb dX11_naked_18 rfl (lv_at hl 0 rfl) ?_
        refine cbVi (n := 1) (rest := [.int l1_6]) hx hb hml hown hts hE hP hD hS hA (sY_X11_coatsFor_1 l dC dI cy y0 r l2_6 v6 f6 w6 g6 hIv6 hCf6 hRf6 ⟨show (0 : Int) ≤ l2_6.toInt by omega, show l2_6.toInt ≤ (5 : Int) by omega⟩) k_1743 k_1745 k_72 k_114 k_1746 (by decide +kernel) ⟨Nat.le_of_ble_eq_true rfl, Nat.le_of_ble_eq_true rfl⟩ 0 11 rfl rfl (rfl) hl.1 rfl (Nat.le_of_ble_eq_true rfl) dX11_naked_19 (fun r12 u H locs hw hP hD hS => ?_)
        obtain ⟨v13, f14, w15, g16⟩ := u
        obtain ⟨kV_v13, kF_f14, hIv13, hCf14, hRf14, hk0_v13, hk1_v13, hk2_v13, hk3_v13, hk4_v13, hk5_v13, hk8_v13, hk9_v13, hk10_v13, hk13_v13, hk14_v13, hk15_v13, hk17_v13, hk18_v13, hk24_v13, hk25_v13, hk35_v13, hk36_v13, hk38_v13, hk39_v13⟩ := hw
        have hM_v13 : KV [] v13 v := KV.tr kV_v13 hM_v6 rfl
        have hA_f14 : KF [7, 8, 24] f14 f := KF.tr kF_f14 hA_f6 rfl
        have hP : va_P (dC, dI) vwCl (YW cy y0 r v13 f14 w15 g16) H := hP
        have hD : va_D A (YW cy y0 r v13 f14 w15 g16) := hD
        have hUv13 : (v13 35).toInt + (v13 36).toInt ≤ 40 := hIv13.2
        have hq0_v13 : v13 0 = (v 0) := hk0_v13.trans hq0_v6
        have hq1_v13 : v13 1 = (v 1) := hk1_v13.trans hq1_v6
        have hq2_v13 : v13 2 = (v 2) := hk2_v13.trans hq2_v6
        have hq3_v13 : v13 3 = (v 3) := hk3_v13.trans hq3_v6
        have hq4_v13 : v13 4 = (v 4) := hk4_v13.trans hq4_v6
        have hq5_v13 : v13 5 = (v 5) := hk5_v13.trans hq5_v6
        have hq8_v13 : v13 8 = (v 8) := hk8_v13.trans hq8_v6
        have hq9_v13 : v13 9 = (v 9) := hk9_v13.trans hq9_v6
        have zq9_v13 := congrArg Int32.toInt hq9_v13
        have hq10_v13 : v13 10 = (v 10) := hk10_v13.trans hq10_v6
        have hq13_v13 : v13 13 = (v 13) := hk13_v13.trans hq13_v6
        have hq14_v13 : v13 14 = (v 14) := hk14_v13.trans hq14_v6
        have hq15_v13 : v13 15 = (v 15) := hk15_v13.trans hq15_v6
        have hq17_v13 : v13 17 = (v 17) := hk17_v13.trans hq17_v6
        have hq18_v13 : v13 18 = (v 18) := hk18_v13.trans hq18_v6
        have hq24_v13 : v13 24 = (v 24) := hk24_v13.trans hq24_v6
        have hq25_v13 : v13 25 = (v 25) := hk25_v13.trans hq25_v6
        have hq35_v13 : v13 35 = (v 35) := hk35_v13.trans hq35_v6
        have hq36_v13 : v13 36 = (v 36) := hk36_v13.trans hq36_v6
        have hq38_v13 : v13 38 = (v 38) := hk38_v13.trans hq38_v6
        have hq39_v13 : v13 39 = (v 39) := hk39_v13.trans hq39_v6
        refine lv_if_ne (tgt := 29) hx hb dX11_naked_22 (by decide) (fun c17 => ?_) (fun c17 => ?_)
        · skip
          have zc17 : ¬ (r12.toInt = 0) := by rw [fa_eq, show (0 : Int32).toInt = 0 from by decide] at c17; exact c17
          refine lv_iconst (v := 0) hx hb dX11_naked_29 (by decide) ?_
          have lt18 : (0 : Int32).toInt = 0 := by decide
          refine cbSi (n := 1) (rest := [.int l1_6]) hx hb hml hown hts hE hP hD hS hA (sY_X11_truth_1 0 l dC dI cy y0 r 0 v13 f14 w15 g16 hIv13 hCf14 hRf14 ) k_1761 k_1762 k_114 k_1763 (by decide +kernel) ⟨Nat.le_of_ble_eq_true rfl, Nat.le_of_ble_eq_true rfl⟩ (rfl) hl.1 rfl (Nat.le_of_ble_eq_true rfl) dX11_naked_30 (fun r19 u H locs hw hP hD hS => ?_)
          obtain ⟨hG20, hw⟩ := hw
          refine lv_iload_n hx hb dX11_naked_33 rfl (lv_at hl 0 rfl) ?_
          refine lv_ishl hx hb dX11_naked_34 ?_
          refine lv_topi (fun t21 et21 => ?_)
          have zt21 : 0 ≤ t21.toInt ∧ t21.toInt ≤ 32 := by rw [et21]; exact shl01_rng (by omega) (by omega) (by omega) (by omega)
          refine lv_ior hx hb dX11_naked_35 ?_
          refine lv_topi (fun t22 et22 => ?_)
          refine lv_istore_n (lv' := [(1, .int t22), (2, .int l2_6), (0, .ref y0)]) hx hb dX11_naked_36 rfl hl (by decide) rfl (fun ls hl => ?_)
          obtain ⟨t23, et23⟩ : ∃ y : Int32, y = l2_6 + 1 := ⟨_, rfl⟩
          have zt23 : t23.toInt = l2_6.toInt + 1 := by rw [et23]; exact add_i rfl (by decide) (by omega) (by omega)
          refine lv_iinc (v := t23) (lv' := [(2, .int t23), (1, .int t22), (0, .ref y0)]) hx hb dX11_naked_37 hl (k := 1) rfl (by rw [et23]; rfl) (by decide) rfl (fun ls hl => ?_)
          refine lv_goto (tgt := 8) hx hb dX11_naked_40 (by decide) ?_
          have rg24 := fb_rng t23
          exact ih6 t22 t23 v13 f14 w15 g16 hIv13 hCf14 hRf14 hq0_v13 hq1_v13 hq2_v13 hq3_v13 hq4_v13 hq5_v13 hq8_v13 hq9_v13 hq10_v13 hq13_v13 hq14_v13 hq15_v13 hq17_v13 hq18_v13 hq24_v13 hq25_v13 hq35_v13 hq36_v13 hq38_v13 hq39_v13 ⟨show (0 : Int) ≤ t23.toInt by omega, show t23.toInt ≤ (2147483647 : Int) by omega⟩ hM_v13 hA_f14 (by show (2147483647 - t23.toInt).toNat < n6; omega) _ _ _ hP hD hS (lv_sub hl [0, 1, 2] rfl)
        · skip
          have zc17 : r12.toInt = 0 := by rw [fa_eq, show (0 : Int32).toInt = 0 from by decide] at c17; exact c17
          refine lv_iconst (v := 1) hx hb dX11_naked_25 (by decide) ?_
          refine lv_goto (tgt := 30) hx hb dX11_naked_26 (by decide) ?_
          have lt25 : (1 : Int32).toInt = 1 := by decide
          refine cbSi (n := 1) (rest := [.int l1_6]) hx hb hml hown hts hE hP hD hS hA (sY_X11_truth_1 0 l dC dI cy y0 r 1 v13 f14 w15 g16 hIv13 hCf14 hRf14 ) k_1761 k_1762 k_114 k_1763 (by decide +kernel) ⟨Nat.le_of_ble_eq_true rfl, Nat.le_of_ble_eq_true rfl⟩ (rfl) hl.1 rfl (Nat.le_of_ble_eq_true rfl) dX11_naked_30 (fun r26 u H locs hw hP hD hS => ?_)
          obtain ⟨hG27, hw⟩ := hw
          refine lv_iload_n hx hb dX11_naked_33 rfl (lv_at hl 0 rfl) ?_
          refine lv_ishl hx hb dX11_naked_34 ?_
          refine lv_topi (fun t28 et28 => ?_)
          have zt28 : 0 ≤ t28.toInt ∧ t28.toInt ≤ 32 := by rw [et28]; exact shl01_rng (by omega) (by omega) (by omega) (by omega)
          refine lv_ior hx hb dX11_naked_35 ?_
          refine lv_topi (fun t29 et29 => ?_)
          refine lv_istore_n (lv' := [(1, .int t29), (2, .int l2_6), (0, .ref y0)]) hx hb dX11_naked_36 rfl hl (by decide) rfl (fun ls hl => ?_)
          obtain ⟨t30, et30⟩ : ∃ y : Int32, y = l2_6 + 1 := ⟨_, rfl⟩
          have zt30 : t30.toInt = l2_6.toInt + 1 := by rw [et30]; exact add_i rfl (by decide) (by omega) (by omega)
          refine lv_iinc (v := t30) (lv' := [(2, .int t30), (1, .int t29), (0, .ref y0)]) hx hb dX11_naked_37 hl (k := 1) rfl (by rw [et30]; rfl) (by decide) rfl (fun ls hl => ?_)
          refine lv_goto (tgt := 8) hx hb dX11_naked_40 (by decide) ?_
          have rg31 := fb_rng t30
          exact ih6 t29 t30 v13 f14 w15 g16 hIv13 hCf14 hRf14 hq0_v13 hq1_v13 hq2_v13 hq3_v13 hq4_v13 hq5_v13 hq8_v13 hq9_v13 hq10_v13 hq13_v13 hq14_v13 hq15_v13 hq17_v13 hq18_v13 hq24_v13 hq25_v13 hq35_v13 hq36_v13 hq38_v13 hq39_v13 ⟨show (0 : Int) ≤ t30.toInt by omega, show t30.toInt ≤ (2147483647 : Int) by omega⟩ hM_v13 hA_f14 (by show (2147483647 - t30.toInt).toNat < n6; omega) _ _ _ hP hD hS (lv_sub hl [0, 1, 2] rfl)
  exact lp6 _ 0 0 v2 f3 w4 g5 hIv2 hCf3 hRf3 hq0_v2 hq1_v2 hq2_v2 hq3_v2 hq4_v2 hq5_v2 hq8_v2 hq9_v2 hq10_v2 hq13_v2 hq14_v2 hq15_v2 hq17_v2 hq18_v2 hq24_v2 hq25_v2 hq35_v2 hq36_v2 hq38_v2 hq39_v2 ⟨by decide, by decide⟩ hM_v2 hA_f3 (Nat.lt_succ_self _) _ _ _ hP hD hS (lv_sub hl [0, 1, 2] rfl)
set_option maxHeartbeats 4000000 in
set_option maxRecDepth 100000 in
theorem sY_X11_popular_1 (l : Launch) (dC : Nat → ClassId) (dI : Nat → Nat → Nat) (cy : Nat → ClassId) (y0 : Nat) (r : Nat → Nat) (p1 : Int32) (v : Nat → Int32) (f : Nat → Nat → Int32) (w : Int64) (g : Nat → Int64) (hIv : YI v) (hCf : YC f) (hRf : progOK (f 4) (f 5) (v 9).toInt.toNat)  : ctI l (dC, dI) cy yX11_popular cX11_popular 2 .int 6 171 0 0 ((Nat → Int32) × (Nat → Nat → Int32) × (Int64) × (Nat → Int64)) [.ref y0, .int p1] (YW cy y0 r v f w g) (fun r u => KV [] u.1 v ∧ KF [7, 8, 24] u.2.1 f ∧ YI u.1 ∧ YC u.2.1 ∧ progOK (u.2.1 4) (u.2.1 5) (u.1 9).toInt.toNat ∧ u.1 0 = v 0 ∧ u.1 1 = v 1 ∧ u.1 2 = v 2 ∧ u.1 3 = v 3 ∧ u.1 4 = v 4 ∧ u.1 5 = v 5 ∧ u.1 8 = v 8 ∧ u.1 9 = v 9 ∧ u.1 10 = v 10 ∧ u.1 13 = v 13 ∧ u.1 14 = v 14 ∧ u.1 15 = v 15 ∧ u.1 17 = v 17 ∧ u.1 18 = v 18 ∧ u.1 24 = v 24 ∧ u.1 25 = v 25 ∧ u.1 35 = v 35 ∧ u.1 36 = v 36 ∧ u.1 38 = v 38 ∧ u.1 39 = v 39) (fun u => YW cy y0 r u.1 u.2.1 u.2.2.1 u.2.2.2) := by
  refine ctI_of (by decide) (Nat.le_of_ble_eq_true rfl) (fun p e s m below meth c A ls Q hx hb hml hts hown hE hP hD hA hl ret => ?_)
  have hUv : (v 35).toInt + (v 36).toInt ≤ 40 := hIv.2
  have hM_v : KV [] v v := fun _ _ => rfl
  have hA_f : KF [7, 8, 24] f f := fun _ _ => rfl
  have hown : s.vm.findClass RX11 = some m.cls := hown
  have hS : va_S A s.heap s.heap [] := va_S.rf
  have hl : lv_has ls 2 [(0, .ref y0), (1, .int p1)] := hl
  refine lv_aload_n hx hb dX11_popular_0 rfl (lv_at hl 0 rfl) ?_
  refine cbVv (n := 0) (rest := []) hx hb hml hown hts hE hP hD hS hA (sY_X11_fill_1 0 l dC dI cy y0 r  v f w g hIv hCf hRf ) k_1739 k_1741 k_71 k_114 k_1742 (by decide +kernel) ⟨Nat.le_of_ble_eq_true rfl, Nat.le_of_ble_eq_true rfl⟩ 0 11 rfl rfl (rfl) hl.1 rfl (Nat.le_of_ble_eq_true rfl) dX11_popular_1 (fun u H locs hw hP hD hS => ?_)
  obtain ⟨hG1, hw⟩ := hw
  obtain ⟨v2, f3, w4, g5⟩ := u
  obtain ⟨kV_v2, kF_f3, hIv2, hCf3, hRf3, hk0_v2, hk1_v2, hk2_v2, hk3_v2, hk4_v2, hk5_v2, hk8_v2, hk9_v2, hk10_v2, hk13_v2, hk14_v2, hk15_v2, hk17_v2, hk18_v2, hk24_v2, hk25_v2, hk35_v2, hk36_v2, hk38_v2, hk39_v2⟩ := hw
  have hM_v2 : KV [] v2 v := KV.tr kV_v2 hM_v rfl
  have hA_f3 : KF [7, 8, 24] f3 f := KF.tr kF_f3 hA_f rfl
  have hP : va_P (dC, dI) vwCl (YW cy y0 r v2 f3 w4 g5) H := hP
  have hD : va_D A (YW cy y0 r v2 f3 w4 g5) := hD
  have hUv2 : (v2 35).toInt + (v2 36).toInt ≤ 40 := hIv2.2
  have hq9_v2 : v2 9 = (v 9) := hk9_v2
  have zq9_v2 := congrArg Int32.toInt hq9_v2
  refine lv_aload_n hx hb dX11_popular_4 rfl (lv_at hl 0 rfl) ?_
  refine lv_iload_n hx hb dX11_popular_5 rfl (lv_at hl 1 rfl) ?_
  refine cbVi (n := 1) (rest := []) hx hb hml hown hts hE hP hD hS hA (sY_X11_isCoat_1 0 l dC dI cy y0 r p1 v2 f3 w4 g5 hIv2 hCf3 hRf3 ) k_1771 k_1773 k_75 k_114 k_1774 (by decide +kernel) ⟨Nat.le_of_ble_eq_true rfl, Nat.le_of_ble_eq_true rfl⟩ 0 11 rfl rfl (rfl) hl.1 rfl (Nat.le_of_ble_eq_true rfl) dX11_popular_6 (fun r6 u H locs hw hP hD hS => ?_)
  obtain ⟨hG7, hw⟩ := hw
  rcases hw with ⟨g8, g8_0, g8_1, g8_2⟩ | ⟨g8⟩
  · skip
    subst g8
    refine lv_if_eq (tgt := 20) hx hb dX11_popular_9 (by decide) (fun c0 => absurd c0 (by decide)) (fun _ => ?_)
    refine lv_aload_n hx hb dX11_popular_12 rfl (lv_at hl 0 rfl) ?_
    refine lv_iload_n hx hb dX11_popular_13 rfl (lv_at hl 1 rfl) ?_
    refine cbVi (n := 1) (rest := []) hx hb hml hown hts hE hP hD hS hA (sY_X11_menFor_1 l dC dI cy y0 r p1 v2 f3 w4 g5 hIv2 hCf3 hRf3 ⟨show (0 : Int) ≤ p1.toInt by omega, show p1.toInt ≤ (5 : Int) by omega⟩) k_1968 k_1970 k_95 k_114 k_1971 (by decide +kernel) ⟨Nat.le_of_ble_eq_true rfl, Nat.le_of_ble_eq_true rfl⟩ 0 11 rfl rfl (rfl) hl.1 rfl (Nat.le_of_ble_eq_true rfl) dX11_popular_14 (fun r9 u H locs hw hP hD hS => ?_)
    obtain ⟨v10, f11, w12, g13⟩ := u
    obtain ⟨kV_v10, kF_f11, hIv10, hCf11, hRf11, hk0_v10, hk1_v10, hk2_v10, hk3_v10, hk4_v10, hk5_v10, hk8_v10, hk9_v10, hk10_v10, hk13_v10, hk14_v10, hk15_v10, hk17_v10, hk18_v10, hk24_v10, hk25_v10, hk35_v10, hk36_v10, hk38_v10, hk39_v10⟩ := hw
    have hM_v10 : KV [] v10 v := KV.tr kV_v10 hM_v2 rfl
    have hA_f11 : KF [7, 8, 24] f11 f := KF.tr kF_f11 hA_f3 rfl
    have hP : va_P (dC, dI) vwCl (YW cy y0 r v10 f11 w12 g13) H := hP
    have hD : va_D A (YW cy y0 r v10 f11 w12 g13) := hD
    have hUv10 : (v10 35).toInt + (v10 36).toInt ≤ 40 := hIv10.2
    have hq9_v10 : v10 9 = (v 9) := hk9_v10.trans hq9_v2
    have zq9_v10 := congrArg Int32.toInt hq9_v10
    refine lv_goto (tgt := 21) hx hb dX11_popular_17 (by decide) ?_
    exact ret r9 (v10, f11, w12, g13) _ _ _ _ _ _ rfl ⟨hM_v10, hA_f11, hIv10, hCf11, hRf11, (hk0_v10.trans hk0_v2), (hk1_v10.trans hk1_v2), (hk2_v10.trans hk2_v2), (hk3_v10.trans hk3_v2), (hk4_v10.trans hk4_v2), (hk5_v10.trans hk5_v2), (hk8_v10.trans hk8_v2), (hk9_v10.trans hk9_v2), (hk10_v10.trans hk10_v2), (hk13_v10.trans hk13_v2), (hk14_v10.trans hk14_v2), (hk15_v10.trans hk15_v2), (hk17_v10.trans hk17_v2), (hk18_v10.trans hk18_v2), (hk24_v10.trans hk24_v2), (hk25_v10.trans hk25_v2), (hk35_v10.trans hk35_v2), (hk36_v10.trans hk36_v2), (hk38_v10.trans hk38_v2), (hk39_v10.trans hk39_v2)⟩ hP hD hS dX11_popular_21 (Nat.le_refl _) (Nat.le_refl _)
  · skip
    subst g8
    refine lv_if_eq (tgt := 20) hx hb dX11_popular_9 (by decide) (fun _ => ?_) (fun c0 => absurd (by decide) c0)
    refine lv_iconst (v := (-1)) hx hb dX11_popular_20 (by decide) ?_
    exact ret (-1) (v2, f3, w4, g5) _ _ _ _ _ _ rfl ⟨hM_v2, hA_f3, hIv2, hCf3, hRf3, hk0_v2, hk1_v2, hk2_v2, hk3_v2, hk4_v2, hk5_v2, hk8_v2, hk9_v2, hk10_v2, hk13_v2, hk14_v2, hk15_v2, hk17_v2, hk18_v2, hk24_v2, hk25_v2, hk35_v2, hk36_v2, hk38_v2, hk39_v2⟩ hP hD hS dX11_popular_21 (Nat.le_refl _) (Nat.le_refl _)
set_option maxHeartbeats 4000000 in
set_option maxRecDepth 100000 in
theorem sY_X11_ownIll_1 (l : Launch) (dC : Nat → ClassId) (dI : Nat → Nat → Nat) (cy : Nat → ClassId) (y0 : Nat) (r : Nat → Nat) (p1 : Int32) (v : Nat → Int32) (f : Nat → Nat → Int32) (w : Int64) (g : Nat → Int64) (hIv : YI v) (hCf : YC f) (hRf : progOK (f 4) (f 5) (v 9).toInt.toNat) (hp1 : (0 : Int) ≤ p1.toInt ∧ p1.toInt ≤ 5) : ctI l (dC, dI) cy yX11_ownIll cX11_ownIll 2 .int 4 126 0 0 ((Nat → Int32) × (Nat → Nat → Int32) × (Int64) × (Nat → Int64)) [.ref y0, .int p1] (YW cy y0 r v f w g) (fun r u => KV [] u.1 v ∧ KF [7, 8] u.2.1 f ∧ YI u.1 ∧ YC u.2.1 ∧ progOK (u.2.1 4) (u.2.1 5) (u.1 9).toInt.toNat ∧ u.1 0 = v 0 ∧ u.1 1 = v 1 ∧ u.1 2 = v 2 ∧ u.1 3 = v 3 ∧ u.1 4 = v 4 ∧ u.1 5 = v 5 ∧ u.1 8 = v 8 ∧ u.1 9 = v 9 ∧ u.1 10 = v 10 ∧ u.1 13 = v 13 ∧ u.1 14 = v 14 ∧ u.1 15 = v 15 ∧ u.1 17 = v 17 ∧ u.1 18 = v 18 ∧ u.1 24 = v 24 ∧ u.1 25 = v 25 ∧ u.1 35 = v 35 ∧ u.1 36 = v 36 ∧ u.1 38 = v 38 ∧ u.1 39 = v 39) (fun u => YW cy y0 r u.1 u.2.1 u.2.2.1 u.2.2.2) := by
  refine ctI_of (by decide) (Nat.le_of_ble_eq_true rfl) (fun p e s m below meth c A ls Q hx hb hml hts hown hE hP hD hA hl ret => ?_)
  have hUv : (v 35).toInt + (v 36).toInt ≤ 40 := hIv.2
  have hM_v : KV [] v v := fun _ _ => rfl
  have hA_f : KF [7, 8] f f := fun _ _ => rfl
  have hown : s.vm.findClass RX11 = some m.cls := hown
  have hS : va_S A s.heap s.heap [] := va_S.rf
  have hl : lv_has ls 2 [(0, .ref y0), (1, .int p1)] := hl
  refine lv_aload_n hx hb dX11_ownIll_0 rfl (lv_at hl 0 rfl) ?_
  refine va_get (D := (dC, dI)) (ci := 11) (v := .ref (r 60)) (C := RX11) (T := TX11) (N := 79) hx hb hts inB_11 hown hE.1 hP 0 rfl rfl 60 (by decide) (hts _ k_1380) (fun _ h9 => h9) rfl dX11_ownIll_1 ?_
  refine lv_bipush (v := 6) hx hb dX11_ownIll_4 (by decide) ?_
  refine lv_iload_n hx hb dX11_ownIll_6 rfl (lv_at hl 1 rfl) ?_
  refine lv_iadd hx hb dX11_ownIll_7 ?_
  refine lv_topi (fun t1 et1 => ?_)
  have rg2 := fb_rng p1
  have zt1 : t1.toInt = 6 + p1.toInt := by rw [et1]; exact add_i (by decide) rfl (by omega) (by omega)
  refine ldI hx hb hE hP 25 rfl (vp_in_iff.mpr ⟨by omega, by omega⟩) rfl rfl dX11_ownIll_8 ?_
  refine lv_topi (fun t3 et3 => ?_)
  have zt3 : t1.toInt.toNat % 39 < 6 ∨ 12 ≤ t1.toInt.toNat % 39 ∨ (-1 ≤ t3.toInt ∧ t3.toInt ≤ 5) := by rw [et3]; exact wear_ld hCf.2.1 (show t1.toInt.toNat < 39 by omega)
  refine lv_if_ge (tgt := 16) hx hb dX11_ownIll_9 (by decide) (fun c4 => ?_) (fun c4 => ?_)
  · skip
    have zc4 : 0 ≤ t3.toInt := by rw [fa_le, show (0 : Int32).toInt = 0 from by decide] at c4; exact c4
    refine lv_aload_n hx hb dX11_ownIll_16 rfl (lv_at hl 0 rfl) ?_
    refine lv_iload_n hx hb dX11_ownIll_17 rfl (lv_at hl 1 rfl) ?_
    refine lv_aload_n hx hb dX11_ownIll_18 rfl (lv_at hl 0 rfl) ?_
    refine va_get (D := (dC, dI)) (ci := 11) (v := .ref (r 60)) (C := RX11) (T := TX11) (N := 79) hx hb hts inB_11 hown hE.1 hP 0 rfl rfl 60 (by decide) (hts _ k_1380) (fun _ h9 => h9) rfl dX11_ownIll_19 ?_
    refine lv_bipush (v := 6) hx hb dX11_ownIll_22 (by decide) ?_
    refine lv_iload_n hx hb dX11_ownIll_24 rfl (lv_at hl 1 rfl) ?_
    refine lv_iadd hx hb dX11_ownIll_25 ?_
    refine tI (y := t1) et1.symm ?_
    refine ldI hx hb hE hP 25 rfl (vp_in_iff.mpr ⟨by omega, by omega⟩) rfl rfl dX11_ownIll_26 ?_
    refine tI (y := t3) et3.symm ?_
    refine cbVi (n := 2) (rest := []) hx hb hml hown hts hE hP hD hS hA (sY_X11_misfitOf_1 0 l dC dI cy y0 r p1 t3 v f w g hIv hCf hRf ⟨show (0 : Int) ≤ p1.toInt by omega, show p1.toInt ≤ (5 : Int) by omega⟩ ⟨show (0 : Int) ≤ t3.toInt by omega, show t3.toInt ≤ (5 : Int) by omega⟩) k_1751 k_1753 k_74 k_114 k_1754 (by decide +kernel) ⟨Nat.le_of_ble_eq_true rfl, Nat.le_of_ble_eq_true rfl⟩ 0 11 rfl rfl (rfl) hl.1 rfl (Nat.le_of_ble_eq_true rfl) dX11_ownIll_27 (fun r5 u H locs hw hP hD hS => ?_)
    obtain ⟨hG6, hw⟩ := hw
    obtain ⟨v7, f8, w9, g10⟩ := u
    obtain ⟨kV_v7, kF_f8, hIv7, hCf8, hRf8, hk0_v7, hk1_v7, hk2_v7, hk3_v7, hk4_v7, hk5_v7, hk8_v7, hk9_v7, hk10_v7, hk13_v7, hk14_v7, hk15_v7, hk17_v7, hk18_v7, hk24_v7, hk25_v7, hk35_v7, hk36_v7, hk38_v7, hk39_v7⟩ := hw
    have hM_v7 : KV [] v7 v := KV.tr kV_v7 hM_v rfl
    have hA_f8 : KF [7, 8] f8 f := KF.tr kF_f8 hA_f rfl
    have hP : va_P (dC, dI) vwCl (YW cy y0 r v7 f8 w9 g10) H := hP
    have hD : va_D A (YW cy y0 r v7 f8 w9 g10) := hD
    have hUv7 : (v7 35).toInt + (v7 36).toInt ≤ 40 := hIv7.2
    have hq9_v7 : v7 9 = (v 9) := hk9_v7
    have zq9_v7 := congrArg Int32.toInt hq9_v7
    exact ret r5 (v7, f8, w9, g10) _ _ _ _ _ _ rfl ⟨hM_v7, hA_f8, hIv7, hCf8, hRf8, hk0_v7, hk1_v7, hk2_v7, hk3_v7, hk4_v7, hk5_v7, hk8_v7, hk9_v7, hk10_v7, hk13_v7, hk14_v7, hk15_v7, hk17_v7, hk18_v7, hk24_v7, hk25_v7, hk35_v7, hk36_v7, hk38_v7, hk39_v7⟩ hP hD hS dX11_ownIll_30 (Nat.le_refl _) (Nat.le_refl _)
  · skip
    have zc4 : ¬ (0 ≤ t3.toInt) := by rw [fa_le, show (0 : Int32).toInt = 0 from by decide] at c4; exact c4
    refine lv_iconst (v := (-1)) hx hb dX11_ownIll_12 (by decide) ?_
    refine lv_goto (tgt := 30) hx hb dX11_ownIll_13 (by decide) ?_
    exact ret (-1) (v, f, w, g) _ _ _ _ _ _ rfl ⟨hM_v, hA_f, hIv, hCf, hRf, rfl, rfl, rfl, rfl, rfl, rfl, rfl, rfl, rfl, rfl, rfl, rfl, rfl, rfl, rfl, rfl, rfl, rfl, rfl, rfl⟩ hP hD hS dX11_ownIll_30 (Nat.le_refl _) (Nat.le_refl _)
set_option maxHeartbeats 4000000 in
set_option maxRecDepth 100000 in
theorem sY_X11_law_1 (l : Launch) (dC : Nat → ClassId) (dI : Nat → Nat → Nat) (cy : Nat → ClassId) (y0 : Nat) (r : Nat → Nat) (p1 : Int32) (v : Nat → Int32) (f : Nat → Nat → Int32) (w : Int64) (g : Nat → Int64) (hIv : YI v) (hCf : YC f) (hRf : progOK (f 4) (f 5) (v 9).toInt.toNat)  : ctI l (dC, dI) cy yX11_law cX11_law 4 .int 5 147 0 0 ((Nat → Int32) × (Nat → Nat → Int32) × (Int64) × (Nat → Int64)) [.ref y0, .int p1] (YW cy y0 r v f w g) (fun r u => KV [] u.1 v ∧ KF [7, 8, 24] u.2.1 f ∧ YI u.1 ∧ YC u.2.1 ∧ progOK (u.2.1 4) (u.2.1 5) (u.1 9).toInt.toNat ∧ u.1 0 = v 0 ∧ u.1 1 = v 1 ∧ u.1 2 = v 2 ∧ u.1 3 = v 3 ∧ u.1 4 = v 4 ∧ u.1 5 = v 5 ∧ u.1 8 = v 8 ∧ u.1 9 = v 9 ∧ u.1 10 = v 10 ∧ u.1 13 = v 13 ∧ u.1 14 = v 14 ∧ u.1 15 = v 15 ∧ u.1 17 = v 17 ∧ u.1 18 = v 18 ∧ u.1 24 = v 24 ∧ u.1 25 = v 25 ∧ u.1 35 = v 35 ∧ u.1 36 = v 36 ∧ u.1 38 = v 38 ∧ u.1 39 = v 39) (fun u => YW cy y0 r u.1 u.2.1 u.2.2.1 u.2.2.2) := by
  refine ctI_of (by decide) (Nat.le_of_ble_eq_true rfl) (fun p e s m below meth c A ls Q hx hb hml hts hown hE hP hD hA hl ret => ?_)
  have hUv : (v 35).toInt + (v 36).toInt ≤ 40 := hIv.2
  have hM_v : KV [] v v := fun _ _ => rfl
  have hA_f : KF [7, 8, 24] f f := fun _ _ => rfl
  have hown : s.vm.findClass RX11 = some m.cls := hown
  have hS : va_S A s.heap s.heap [] := va_S.rf
  have hl : lv_has ls 4 [(0, .ref y0), (1, .int p1)] := hl
  refine lv_iload_n hx hb dX11_law_0 rfl (lv_at hl 1 rfl) ?_
  refine lv_iconst (v := 0) hx hb dX11_law_1 (by decide) ?_
  refine lv_sipush (v := 999) hx hb dX11_law_2 (by decide) ?_
  have lt1 : (0 : Int32).toInt = 0 := by decide
  have lt2 : (999 : Int32).toInt = 999 := by decide
  refine cbSi (n := 3) (rest := []) hx hb hml hown hts hE hP hD hS hA (sY_X11_isIn_1 0 l dC dI cy y0 r p1 0 999 v f w g hIv hCf hRf ) k_1736 k_1737 k_114 k_1738 (by decide +kernel) ⟨Nat.le_of_ble_eq_true rfl, Nat.le_of_ble_eq_true rfl⟩ (rfl) hl.1 rfl (Nat.le_of_ble_eq_true rfl) dX11_law_5 (fun r3 u H locs hw hP hD hS => ?_)
  obtain ⟨hG4, hw⟩ := hw
  rcases hw with ⟨g5, g5_0, g5_1⟩ | ⟨g5⟩
  · skip
    subst g5
    refine lv_if_ne (tgt := 13) hx hb dX11_law_8 (by decide) (fun _ => ?_) (fun c0 => absurd c0 (by decide))
    refine lv_aload_n hx hb dX11_law_13 rfl (lv_at hl 0 rfl) ?_
    refine cbVv (n := 0) (rest := []) hx hb hml hown hts hE hP hD hS hA (sY_X11_fill_1 0 l dC dI cy y0 r  v f w g hIv hCf hRf ) k_1739 k_1741 k_71 k_114 k_1742 (by decide +kernel) ⟨Nat.le_of_ble_eq_true rfl, Nat.le_of_ble_eq_true rfl⟩ 0 11 rfl rfl (rfl) hl.1 rfl (Nat.le_of_ble_eq_true rfl) dX11_law_14 (fun u H locs hw hP hD hS => ?_)
    obtain ⟨hG6, hw⟩ := hw
    obtain ⟨v7, f8, w9, g10⟩ := u
    obtain ⟨kV_v7, kF_f8, hIv7, hCf8, hRf8, hk0_v7, hk1_v7, hk2_v7, hk3_v7, hk4_v7, hk5_v7, hk8_v7, hk9_v7, hk10_v7, hk13_v7, hk14_v7, hk15_v7, hk17_v7, hk18_v7, hk24_v7, hk25_v7, hk35_v7, hk36_v7, hk38_v7, hk39_v7⟩ := hw
    have hM_v7 : KV [] v7 v := KV.tr kV_v7 hM_v rfl
    have hA_f8 : KF [7, 8, 24] f8 f := KF.tr kF_f8 hA_f rfl
    have hP : va_P (dC, dI) vwCl (YW cy y0 r v7 f8 w9 g10) H := hP
    have hD : va_D A (YW cy y0 r v7 f8 w9 g10) := hD
    have hUv7 : (v7 35).toInt + (v7 36).toInt ≤ 40 := hIv7.2
    have hq0_v7 : v7 0 = (v 0) := hk0_v7
    have hq1_v7 : v7 1 = (v 1) := hk1_v7
    have hq2_v7 : v7 2 = (v 2) := hk2_v7
    have hq3_v7 : v7 3 = (v 3) := hk3_v7
    have hq4_v7 : v7 4 = (v 4) := hk4_v7
    have hq5_v7 : v7 5 = (v 5) := hk5_v7
    have hq8_v7 : v7 8 = (v 8) := hk8_v7
    have hq9_v7 : v7 9 = (v 9) := hk9_v7
    have zq9_v7 := congrArg Int32.toInt hq9_v7
    have hq10_v7 : v7 10 = (v 10) := hk10_v7
    have hq13_v7 : v7 13 = (v 13) := hk13_v7
    have hq14_v7 : v7 14 = (v 14) := hk14_v7
    have hq15_v7 : v7 15 = (v 15) := hk15_v7
    have hq17_v7 : v7 17 = (v 17) := hk17_v7
    have hq18_v7 : v7 18 = (v 18) := hk18_v7
    have hq24_v7 : v7 24 = (v 24) := hk24_v7
    have hq25_v7 : v7 25 = (v 25) := hk25_v7
    have hq35_v7 : v7 35 = (v 35) := hk35_v7
    have hq36_v7 : v7 36 = (v 36) := hk36_v7
    have hq38_v7 : v7 38 = (v 38) := hk38_v7
    have hq39_v7 : v7 39 = (v 39) := hk39_v7
    refine lv_iconst (v := 0) hx hb dX11_law_17 (by decide) ?_
    refine lv_istore_n (lv' := [(2, .int 0), (0, .ref y0), (1, .int p1)]) hx hb dX11_law_18 rfl hl (by decide) rfl (fun ls hl => ?_)
    refine lv_iconst (v := 0) hx hb dX11_law_19 (by decide) ?_
    refine lv_istore_n (lv' := [(3, .int 0), (2, .int 0), (0, .ref y0), (1, .int p1)]) hx hb dX11_law_20 rfl hl (by decide) rfl (fun ls hl => ?_)
    have lp11 : ∀ (n11 : Nat) (l2_11 : Int32) (l3_11 : Int32) (v11 : Nat → Int32) (f11 : Nat → Nat → Int32) (w11 : Int64) (g11 : Nat → Int64), YI v11 → YC f11 → progOK (f11 4) (f11 5) (v11 9).toInt.toNat → v11 0 = (v 0) → v11 1 = (v 1) → v11 2 = (v 2) → v11 3 = (v 3) → v11 4 = (v 4) → v11 5 = (v 5) → v11 8 = (v 8) → v11 9 = (v 9) → v11 10 = (v 10) → v11 13 = (v 13) → v11 14 = (v 14) → v11 15 = (v 15) → v11 17 = (v 17) → v11 18 = (v 18) → v11 24 = (v 24) → v11 25 = (v 25) → v11 35 = (v 35) → v11 36 = (v 36) → v11 38 = (v 38) → v11 39 = (v 39) → ((0 : Int) ≤ l3_11.toInt ∧ l3_11.toInt ≤ 2147483647) → KV [] v11 v → KF [7, 8, 24] f11 f → (2147483647 - l3_11.toInt).toNat < n11 → ∀ (H : Heap) (locs : List Loc) (ls : Array Slot), va_P (dC, dI) vwCl (YW cy y0 r v11 f11 w11 g11) H → va_D A (YW cy y0 r v11 f11 w11 g11) → va_S A s.heap H locs → lv_has ls 4 [(3, .int l3_11), (2, .int l2_11), (0, .ref y0), (1, .int p1)] → W p l e { frames := 5, cells := 0, slots := 0, locals := 147 } s m ([.ref y0, .int p1] : List Value).toArray below meth c H locs 0 0 Q (F0 m 21 ls []) := by
      intro n11
      induction n11 with
      | zero => intro l2_11 l3_11 v11 f11 w11 g11 hIv11 hCf11 hRf11 hq0_v11 hq1_v11 hq2_v11 hq3_v11 hq4_v11 hq5_v11 hq8_v11 hq9_v11 hq10_v11 hq13_v11 hq14_v11 hq15_v11 hq17_v11 hq18_v11 hq24_v11 hq25_v11 hq35_v11 hq36_v11 hq38_v11 hq39_v11 hr3_11 hM_v11 hA_f11 hm; exact absurd hm (Nat.not_lt_zero _)
      | succ n11 ih11 =>
        intro l2_11 l3_11 v11 f11 w11 g11 hIv11 hCf11 hRf11 hq0_v11 hq1_v11 hq2_v11 hq3_v11 hq4_v11 hq5_v11 hq8_v11 hq9_v11 hq10_v11 hq13_v11 hq14_v11 hq15_v11 hq17_v11 hq18_v11 hq24_v11 hq25_v11 hq35_v11 hq36_v11 hq38_v11 hq39_v11 hr3_11 hM_v11 hA_f11 hm11 H locs ls hP hD hS hl
        have hUv11 : (v11 35).toInt + (v11 36).toInt ≤ 40 := hIv11.2
        have zq9_v11 := congrArg Int32.toInt hq9_v11
        refine lv_iload_n hx hb dX11_law_21 rfl (lv_at hl 0 rfl) ?_
        refine lv_aload_n hx hb dX11_law_22 rfl (lv_at hl 2 rfl) ?_
        refine va_get (D := (dC, dI)) (ci := 11) (v := .int (v11 24)) (C := RX11) (T := TX11) (N := 79) hx hb hts inB_11 hown hE.1 hP 0 rfl rfl 48 (by decide) (hts _ k_1368) (fun _ h9 => h9) rfl dX11_law_23 ?_
        refine tI (y := (v 24)) hq24_v11 ?_
        have b24_v : 0 ≤ (v 24).toInt ∧ (v 24).toInt ≤ 6 := YIb.b hIv.1 24 (by decide)
        refine lv_icmp_ge (tgt := 63) hx hb dX11_law_26 (by decide) (fun c12 => ?_) (fun c12 => ?_)
        · skip
          have zc12 : (v 24).toInt ≤ l3_11.toInt := by rw [fa_le] at c12; exact c12
          have rg13 := fb_rng l3_11
          have rg14 := fb_rng (v 24)
          refine lv_iload_n hx hb dX11_law_63 rfl (lv_at hl 1 rfl) ?_
          exact ret l2_11 (v11, f11, w11, g11) _ _ _ _ _ _ rfl ⟨hM_v11, hA_f11, hIv11, hCf11, hRf11, hq0_v11, hq1_v11, hq2_v11, hq3_v11, hq4_v11, hq5_v11, hq8_v11, hq9_v11, hq10_v11, hq13_v11, hq14_v11, hq15_v11, hq17_v11, hq18_v11, hq24_v11, hq25_v11, hq35_v11, hq36_v11, hq38_v11, hq39_v11⟩ hP hD hS dX11_law_64 (Nat.le_refl _) (Nat.le_refl _)
        · skip
          have zc12 : ¬ ((v 24).toInt ≤ l3_11.toInt) := by rw [fa_le] at c12; exact c12
          have rg15 := fb_rng l3_11
          have rg16 := fb_rng (v 24)
          refine lv_iload_n hx hb dX11_law_29 rfl (lv_at hl 1 rfl) ?_
          refine lv_aload_n hx hb dX11_law_30 rfl (lv_at hl 2 rfl) ?_
          refine lv_iload_n hx hb dX11_law_31 rfl (lv_at hl 0 rfl) ?_
          refine cbVi (n := 1) (rest := [.int l2_11]) hx hb hml hown hts hE hP hD hS hA (sY_X11_ownIll_1 l dC dI cy y0 r l3_11 v11 f11 w11 g11 hIv11 hCf11 hRf11 ⟨show (0 : Int) ≤ l3_11.toInt by omega, show l3_11.toInt ≤ (5 : Int) by omega⟩) k_1984 k_1986 k_96 k_114 k_1987 (by decide +kernel) ⟨Nat.le_of_ble_eq_true rfl, Nat.le_of_ble_eq_true rfl⟩ 0 11 rfl rfl (rfl) hl.1 rfl (Nat.le_of_ble_eq_true rfl) dX11_law_32 (fun r17 u H locs hw hP hD hS => ?_)
          obtain ⟨v18, f19, w20, g21⟩ := u
          obtain ⟨kV_v18, kF_f19, hIv18, hCf19, hRf19, hk0_v18, hk1_v18, hk2_v18, hk3_v18, hk4_v18, hk5_v18, hk8_v18, hk9_v18, hk10_v18, hk13_v18, hk14_v18, hk15_v18, hk17_v18, hk18_v18, hk24_v18, hk25_v18, hk35_v18, hk36_v18, hk38_v18, hk39_v18⟩ := hw
          have hM_v18 : KV [] v18 v := KV.tr kV_v18 hM_v11 rfl
          have hA_f19 : KF [7, 8, 24] f19 f := KF.tr kF_f19 hA_f11 rfl
          have hP : va_P (dC, dI) vwCl (YW cy y0 r v18 f19 w20 g21) H := hP
          have hD : va_D A (YW cy y0 r v18 f19 w20 g21) := hD
          have hUv18 : (v18 35).toInt + (v18 36).toInt ≤ 40 := hIv18.2
          have hq0_v18 : v18 0 = (v 0) := hk0_v18.trans hq0_v11
          have hq1_v18 : v18 1 = (v 1) := hk1_v18.trans hq1_v11
          have hq2_v18 : v18 2 = (v 2) := hk2_v18.trans hq2_v11
          have hq3_v18 : v18 3 = (v 3) := hk3_v18.trans hq3_v11
          have hq4_v18 : v18 4 = (v 4) := hk4_v18.trans hq4_v11
          have hq5_v18 : v18 5 = (v 5) := hk5_v18.trans hq5_v11
          have hq8_v18 : v18 8 = (v 8) := hk8_v18.trans hq8_v11
          have hq9_v18 : v18 9 = (v 9) := hk9_v18.trans hq9_v11
          have zq9_v18 := congrArg Int32.toInt hq9_v18
          have hq10_v18 : v18 10 = (v 10) := hk10_v18.trans hq10_v11
          have hq13_v18 : v18 13 = (v 13) := hk13_v18.trans hq13_v11
          have hq14_v18 : v18 14 = (v 14) := hk14_v18.trans hq14_v11
          have hq15_v18 : v18 15 = (v 15) := hk15_v18.trans hq15_v11
          have hq17_v18 : v18 17 = (v 17) := hk17_v18.trans hq17_v11
          have hq18_v18 : v18 18 = (v 18) := hk18_v18.trans hq18_v11
          have hq24_v18 : v18 24 = (v 24) := hk24_v18.trans hq24_v11
          have hq25_v18 : v18 25 = (v 25) := hk25_v18.trans hq25_v11
          have hq35_v18 : v18 35 = (v 35) := hk35_v18.trans hq35_v11
          have hq36_v18 : v18 36 = (v 36) := hk36_v18.trans hq36_v11
          have hq38_v18 : v18 38 = (v 38) := hk38_v18.trans hq38_v11
          have hq39_v18 : v18 39 = (v 39) := hk39_v18.trans hq39_v11
          refine lv_if_lt (tgt := 51) hx hb dX11_law_35 (by decide) (fun c22 => ?_) (fun c22 => ?_)
          · skip
            have zc22 : r17.toInt < 0 := by rw [fa_lt, show (0 : Int32).toInt = 0 from by decide] at c22; exact c22
            refine lv_iconst (v := 0) hx hb dX11_law_51 (by decide) ?_
            have lt23 : (0 : Int32).toInt = 0 := by decide
            refine cbSi (n := 1) (rest := [.int l2_11]) hx hb hml hown hts hE hP hD hS hA (sY_X11_truth_1 0 l dC dI cy y0 r 0 v18 f19 w20 g21 hIv18 hCf19 hRf19 ) k_1761 k_1762 k_114 k_1763 (by decide +kernel) ⟨Nat.le_of_ble_eq_true rfl, Nat.le_of_ble_eq_true rfl⟩ (rfl) hl.1 rfl (Nat.le_of_ble_eq_true rfl) dX11_law_52 (fun r24 u H locs hw hP hD hS => ?_)
            obtain ⟨hG25, hw⟩ := hw
            refine lv_iadd hx hb dX11_law_55 ?_
            refine lv_topi (fun t26 et26 => ?_)
            refine lv_istore_n (lv' := [(2, .int t26), (3, .int l3_11), (0, .ref y0), (1, .int p1)]) hx hb dX11_law_56 rfl hl (by decide) rfl (fun ls hl => ?_)
            obtain ⟨t27, et27⟩ : ∃ y : Int32, y = l3_11 + 1 := ⟨_, rfl⟩
            have zt27 : t27.toInt = l3_11.toInt + 1 := by rw [et27]; exact add_i rfl (by decide) (by omega) (by omega)
            refine lv_iinc (v := t27) (lv' := [(3, .int t27), (2, .int t26), (0, .ref y0), (1, .int p1)]) hx hb dX11_law_57 hl (k := 1) rfl (by rw [et27]; rfl) (by decide) rfl (fun ls hl => ?_)
            refine lv_goto (tgt := 21) hx hb dX11_law_60 (by decide) ?_
            have rg28 := fb_rng t27
            exact ih11 t26 t27 v18 f19 w20 g21 hIv18 hCf19 hRf19 hq0_v18 hq1_v18 hq2_v18 hq3_v18 hq4_v18 hq5_v18 hq8_v18 hq9_v18 hq10_v18 hq13_v18 hq14_v18 hq15_v18 hq17_v18 hq18_v18 hq24_v18 hq25_v18 hq35_v18 hq36_v18 hq38_v18 hq39_v18 ⟨show (0 : Int) ≤ t27.toInt by omega, show t27.toInt ≤ (2147483647 : Int) by omega⟩ hM_v18 hA_f19 (by show (2147483647 - t27.toInt).toNat < n11; omega) _ _ _ hP hD hS (lv_sub hl [0, 1, 2, 3] rfl)
          · skip
            have zc22 : ¬ (r17.toInt < 0) := by rw [fa_lt, show (0 : Int32).toInt = 0 from by decide] at c22; exact c22
            refine lv_aload_n hx hb dX11_law_38 rfl (lv_at hl 2 rfl) ?_
            refine lv_iload_n hx hb dX11_law_39 rfl (lv_at hl 0 rfl) ?_
            refine cbVi (n := 1) (rest := [.int l2_11]) hx hb hml hown hts hE hP hD hS hA (sY_X11_ownIll_1 l dC dI cy y0 r l3_11 v18 f19 w20 g21 hIv18 hCf19 hRf19 ⟨show (0 : Int) ≤ l3_11.toInt by omega, show l3_11.toInt ≤ (5 : Int) by omega⟩) k_1984 k_1986 k_96 k_114 k_1987 (by decide +kernel) ⟨Nat.le_of_ble_eq_true rfl, Nat.le_of_ble_eq_true rfl⟩ 0 11 rfl rfl (rfl) hl.1 rfl (Nat.le_of_ble_eq_true rfl) dX11_law_40 (fun r29 u H locs hw hP hD hS => ?_)
            obtain ⟨v30, f31, w32, g33⟩ := u
            obtain ⟨kV_v30, kF_f31, hIv30, hCf31, hRf31, hk0_v30, hk1_v30, hk2_v30, hk3_v30, hk4_v30, hk5_v30, hk8_v30, hk9_v30, hk10_v30, hk13_v30, hk14_v30, hk15_v30, hk17_v30, hk18_v30, hk24_v30, hk25_v30, hk35_v30, hk36_v30, hk38_v30, hk39_v30⟩ := hw
            have hM_v30 : KV [] v30 v := KV.tr kV_v30 hM_v18 rfl
            have hA_f31 : KF [7, 8, 24] f31 f := KF.tr kF_f31 hA_f19 rfl
            have hP : va_P (dC, dI) vwCl (YW cy y0 r v30 f31 w32 g33) H := hP
            have hD : va_D A (YW cy y0 r v30 f31 w32 g33) := hD
            have hUv30 : (v30 35).toInt + (v30 36).toInt ≤ 40 := hIv30.2
            have hq0_v30 : v30 0 = (v 0) := hk0_v30.trans hq0_v18
            have hq1_v30 : v30 1 = (v 1) := hk1_v30.trans hq1_v18
            have hq2_v30 : v30 2 = (v 2) := hk2_v30.trans hq2_v18
            have hq3_v30 : v30 3 = (v 3) := hk3_v30.trans hq3_v18
            have hq4_v30 : v30 4 = (v 4) := hk4_v30.trans hq4_v18
            have hq5_v30 : v30 5 = (v 5) := hk5_v30.trans hq5_v18
            have hq8_v30 : v30 8 = (v 8) := hk8_v30.trans hq8_v18
            have hq9_v30 : v30 9 = (v 9) := hk9_v30.trans hq9_v18
            have zq9_v30 := congrArg Int32.toInt hq9_v30
            have hq10_v30 : v30 10 = (v 10) := hk10_v30.trans hq10_v18
            have hq13_v30 : v30 13 = (v 13) := hk13_v30.trans hq13_v18
            have hq14_v30 : v30 14 = (v 14) := hk14_v30.trans hq14_v18
            have hq15_v30 : v30 15 = (v 15) := hk15_v30.trans hq15_v18
            have hq17_v30 : v30 17 = (v 17) := hk17_v30.trans hq17_v18
            have hq18_v30 : v30 18 = (v 18) := hk18_v30.trans hq18_v18
            have hq24_v30 : v30 24 = (v 24) := hk24_v30.trans hq24_v18
            have hq25_v30 : v30 25 = (v 25) := hk25_v30.trans hq25_v18
            have hq35_v30 : v30 35 = (v 35) := hk35_v30.trans hq35_v18
            have hq36_v30 : v30 36 = (v 36) := hk36_v30.trans hq36_v18
            have hq38_v30 : v30 38 = (v 38) := hk38_v30.trans hq38_v18
            have hq39_v30 : v30 39 = (v 39) := hk39_v30.trans hq39_v18
            refine lv_iload_n hx hb dX11_law_43 rfl (lv_at hl 3 rfl) ?_
            refine lv_icmp_gt (tgt := 51) hx hb dX11_law_44 (by decide) (fun c34 => ?_) (fun c34 => ?_)
            · skip
              have zc34 : p1.toInt < r29.toInt := by rw [fa_lt] at c34; exact c34
              have rg35 := fb_rng r29
              have rg36 := fb_rng p1
              refine lv_iconst (v := 0) hx hb dX11_law_51 (by decide) ?_
              have lt37 : (0 : Int32).toInt = 0 := by decide
              refine cbSi (n := 1) (rest := [.int l2_11]) hx hb hml hown hts hE hP hD hS hA (sY_X11_truth_1 0 l dC dI cy y0 r 0 v30 f31 w32 g33 hIv30 hCf31 hRf31 ) k_1761 k_1762 k_114 k_1763 (by decide +kernel) ⟨Nat.le_of_ble_eq_true rfl, Nat.le_of_ble_eq_true rfl⟩ (rfl) hl.1 rfl (Nat.le_of_ble_eq_true rfl) dX11_law_52 (fun r38 u H locs hw hP hD hS => ?_)
              obtain ⟨hG39, hw⟩ := hw
              refine lv_iadd hx hb dX11_law_55 ?_
              refine lv_topi (fun t40 et40 => ?_)
              refine lv_istore_n (lv' := [(2, .int t40), (3, .int l3_11), (0, .ref y0), (1, .int p1)]) hx hb dX11_law_56 rfl hl (by decide) rfl (fun ls hl => ?_)
              obtain ⟨t41, et41⟩ : ∃ y : Int32, y = l3_11 + 1 := ⟨_, rfl⟩
              have zt41 : t41.toInt = l3_11.toInt + 1 := by rw [et41]; exact add_i rfl (by decide) (by omega) (by omega)
              refine lv_iinc (v := t41) (lv' := [(3, .int t41), (2, .int t40), (0, .ref y0), (1, .int p1)]) hx hb dX11_law_57 hl (k := 1) rfl (by rw [et41]; rfl) (by decide) rfl (fun ls hl => ?_)
              refine lv_goto (tgt := 21) hx hb dX11_law_60 (by decide) ?_
              have rg42 := fb_rng t41
              exact ih11 t40 t41 v30 f31 w32 g33 hIv30 hCf31 hRf31 hq0_v30 hq1_v30 hq2_v30 hq3_v30 hq4_v30 hq5_v30 hq8_v30 hq9_v30 hq10_v30 hq13_v30 hq14_v30 hq15_v30 hq17_v30 hq18_v30 hq24_v30 hq25_v30 hq35_v30 hq36_v30 hq38_v30 hq39_v30 ⟨show (0 : Int) ≤ t41.toInt by omega, show t41.toInt ≤ (2147483647 : Int) by omega⟩ hM_v30 hA_f31 (by show (2147483647 - t41.toInt).toNat < n11; omega) _ _ _ hP hD hS (lv_sub hl [0, 1, 2, 3] rfl)
            · skip
              have zc34 : ¬ (p1.toInt < r29.toInt) := by rw [fa_lt] at c34; exact c34
              have rg43 := fb_rng r29
              have rg44 := fb_rng p1
              refine lv_iconst (v := 1) hx hb dX11_law_47 (by decide) ?_
              refine lv_goto (tgt := 52) hx hb dX11_law_48 (by decide) ?_
              have lt45 : (1 : Int32).toInt = 1 := by decide
              refine cbSi (n := 1) (rest := [.int l2_11]) hx hb hml hown hts hE hP hD hS hA (sY_X11_truth_1 0 l dC dI cy y0 r 1 v30 f31 w32 g33 hIv30 hCf31 hRf31 ) k_1761 k_1762 k_114 k_1763 (by decide +kernel) ⟨Nat.le_of_ble_eq_true rfl, Nat.le_of_ble_eq_true rfl⟩ (rfl) hl.1 rfl (Nat.le_of_ble_eq_true rfl) dX11_law_52 (fun r46 u H locs hw hP hD hS => ?_)
              obtain ⟨hG47, hw⟩ := hw
              refine lv_iadd hx hb dX11_law_55 ?_
              refine lv_topi (fun t48 et48 => ?_)
              refine lv_istore_n (lv' := [(2, .int t48), (3, .int l3_11), (0, .ref y0), (1, .int p1)]) hx hb dX11_law_56 rfl hl (by decide) rfl (fun ls hl => ?_)
              obtain ⟨t49, et49⟩ : ∃ y : Int32, y = l3_11 + 1 := ⟨_, rfl⟩
              have zt49 : t49.toInt = l3_11.toInt + 1 := by rw [et49]; exact add_i rfl (by decide) (by omega) (by omega)
              refine lv_iinc (v := t49) (lv' := [(3, .int t49), (2, .int t48), (0, .ref y0), (1, .int p1)]) hx hb dX11_law_57 hl (k := 1) rfl (by rw [et49]; rfl) (by decide) rfl (fun ls hl => ?_)
              refine lv_goto (tgt := 21) hx hb dX11_law_60 (by decide) ?_
              have rg50 := fb_rng t49
              exact ih11 t48 t49 v30 f31 w32 g33 hIv30 hCf31 hRf31 hq0_v30 hq1_v30 hq2_v30 hq3_v30 hq4_v30 hq5_v30 hq8_v30 hq9_v30 hq10_v30 hq13_v30 hq14_v30 hq15_v30 hq17_v30 hq18_v30 hq24_v30 hq25_v30 hq35_v30 hq36_v30 hq38_v30 hq39_v30 ⟨show (0 : Int) ≤ t49.toInt by omega, show t49.toInt ≤ (2147483647 : Int) by omega⟩ hM_v30 hA_f31 (by show (2147483647 - t49.toInt).toNat < n11; omega) _ _ _ hP hD hS (lv_sub hl [0, 1, 2, 3] rfl)
    exact lp11 _ 0 0 v7 f8 w9 g10 hIv7 hCf8 hRf8 hq0_v7 hq1_v7 hq2_v7 hq3_v7 hq4_v7 hq5_v7 hq8_v7 hq9_v7 hq10_v7 hq13_v7 hq14_v7 hq15_v7 hq17_v7 hq18_v7 hq24_v7 hq25_v7 hq35_v7 hq36_v7 hq38_v7 hq39_v7 ⟨by decide, by decide⟩ hM_v7 hA_f8 (Nat.lt_succ_self _) _ _ _ hP hD hS (lv_sub hl [0, 1, 2, 3] rfl)
  · skip
    subst g5
    refine lv_if_ne (tgt := 13) hx hb dX11_law_8 (by decide) (fun c0 => absurd (by decide) c0) (fun _ => ?_)
    refine lv_iconst (v := (-1)) hx hb dX11_law_11 (by decide) ?_
    exact ret (-1) (v, f, w, g) _ _ _ _ _ _ rfl ⟨hM_v, hA_f, hIv, hCf, hRf, rfl, rfl, rfl, rfl, rfl, rfl, rfl, rfl, rfl, rfl, rfl, rfl, rfl, rfl, rfl, rfl, rfl, rfl, rfl, rfl⟩ hP hD hS dX11_law_12 (Nat.le_refl _) (Nat.le_refl _)
set_option maxHeartbeats 4000000 in
set_option maxRecDepth 100000 in
theorem sY_X11_ease_1 (l : Launch) (dC : Nat → ClassId) (dI : Nat → Nat → Nat) (cy : Nat → ClassId) (y0 : Nat) (r : Nat → Nat)  (v : Nat → Int32) (f : Nat → Nat → Int32) (w : Int64) (g : Nat → Int64) (hIv : YI v) (hCf : YC f) (hRf : progOK (f 4) (f 5) (v 9).toInt.toNat)  : ctI l (dC, dI) cy yX11_ease cX11_ease 3 .int 5 147 0 0 ((Nat → Int32) × (Nat → Nat → Int32) × (Int64) × (Nat → Int64)) [.ref y0] (YW cy y0 r v f w g) (fun r u => KV [] u.1 v ∧ KF [7, 8, 24] u.2.1 f ∧ YI u.1 ∧ YC u.2.1 ∧ progOK (u.2.1 4) (u.2.1 5) (u.1 9).toInt.toNat ∧ u.1 0 = v 0 ∧ u.1 1 = v 1 ∧ u.1 2 = v 2 ∧ u.1 3 = v 3 ∧ u.1 4 = v 4 ∧ u.1 5 = v 5 ∧ u.1 8 = v 8 ∧ u.1 9 = v 9 ∧ u.1 10 = v 10 ∧ u.1 13 = v 13 ∧ u.1 14 = v 14 ∧ u.1 15 = v 15 ∧ u.1 17 = v 17 ∧ u.1 18 = v 18 ∧ u.1 24 = v 24 ∧ u.1 25 = v 25 ∧ u.1 35 = v 35 ∧ u.1 36 = v 36 ∧ u.1 38 = v 38 ∧ u.1 39 = v 39) (fun u => YW cy y0 r u.1 u.2.1 u.2.2.1 u.2.2.2) := by
  refine ctI_of (by decide) (Nat.le_of_ble_eq_true rfl) (fun p e s m below meth c A ls Q hx hb hml hts hown hE hP hD hA hl ret => ?_)
  have hUv : (v 35).toInt + (v 36).toInt ≤ 40 := hIv.2
  have hM_v : KV [] v v := fun _ _ => rfl
  have hA_f : KF [7, 8, 24] f f := fun _ _ => rfl
  have hown : s.vm.findClass RX11 = some m.cls := hown
  have hS : va_S A s.heap s.heap [] := va_S.rf
  have hl : lv_has ls 3 [(0, .ref y0)] := hl
  refine lv_aload_n hx hb dX11_ease_0 rfl (lv_at hl 0 rfl) ?_
  refine cbVv (n := 0) (rest := []) hx hb hml hown hts hE hP hD hS hA (sY_X11_fill_1 0 l dC dI cy y0 r  v f w g hIv hCf hRf ) k_1739 k_1741 k_71 k_114 k_1742 (by decide +kernel) ⟨Nat.le_of_ble_eq_true rfl, Nat.le_of_ble_eq_true rfl⟩ 0 11 rfl rfl (rfl) hl.1 rfl (Nat.le_of_ble_eq_true rfl) dX11_ease_1 (fun u H locs hw hP hD hS => ?_)
  obtain ⟨hG1, hw⟩ := hw
  obtain ⟨v2, f3, w4, g5⟩ := u
  obtain ⟨kV_v2, kF_f3, hIv2, hCf3, hRf3, hk0_v2, hk1_v2, hk2_v2, hk3_v2, hk4_v2, hk5_v2, hk8_v2, hk9_v2, hk10_v2, hk13_v2, hk14_v2, hk15_v2, hk17_v2, hk18_v2, hk24_v2, hk25_v2, hk35_v2, hk36_v2, hk38_v2, hk39_v2⟩ := hw
  have hM_v2 : KV [] v2 v := KV.tr kV_v2 hM_v rfl
  have hA_f3 : KF [7, 8, 24] f3 f := KF.tr kF_f3 hA_f rfl
  have hP : va_P (dC, dI) vwCl (YW cy y0 r v2 f3 w4 g5) H := hP
  have hD : va_D A (YW cy y0 r v2 f3 w4 g5) := hD
  have hUv2 : (v2 35).toInt + (v2 36).toInt ≤ 40 := hIv2.2
  have hq0_v2 : v2 0 = (v 0) := hk0_v2
  have hq1_v2 : v2 1 = (v 1) := hk1_v2
  have hq2_v2 : v2 2 = (v 2) := hk2_v2
  have hq3_v2 : v2 3 = (v 3) := hk3_v2
  have hq4_v2 : v2 4 = (v 4) := hk4_v2
  have hq5_v2 : v2 5 = (v 5) := hk5_v2
  have hq8_v2 : v2 8 = (v 8) := hk8_v2
  have hq9_v2 : v2 9 = (v 9) := hk9_v2
  have zq9_v2 := congrArg Int32.toInt hq9_v2
  have hq10_v2 : v2 10 = (v 10) := hk10_v2
  have hq13_v2 : v2 13 = (v 13) := hk13_v2
  have hq14_v2 : v2 14 = (v 14) := hk14_v2
  have hq15_v2 : v2 15 = (v 15) := hk15_v2
  have hq17_v2 : v2 17 = (v 17) := hk17_v2
  have hq18_v2 : v2 18 = (v 18) := hk18_v2
  have hq24_v2 : v2 24 = (v 24) := hk24_v2
  have hq25_v2 : v2 25 = (v 25) := hk25_v2
  have hq35_v2 : v2 35 = (v 35) := hk35_v2
  have hq36_v2 : v2 36 = (v 36) := hk36_v2
  have hq38_v2 : v2 38 = (v 38) := hk38_v2
  have hq39_v2 : v2 39 = (v 39) := hk39_v2
  refine lv_iconst (v := 0) hx hb dX11_ease_4 (by decide) ?_
  refine lv_istore_n (lv' := [(1, .int 0), (0, .ref y0)]) hx hb dX11_ease_5 rfl hl (by decide) rfl (fun ls hl => ?_)
  refine lv_iconst (v := 0) hx hb dX11_ease_6 (by decide) ?_
  refine lv_istore_n (lv' := [(2, .int 0), (1, .int 0), (0, .ref y0)]) hx hb dX11_ease_7 rfl hl (by decide) rfl (fun ls hl => ?_)
  have lp6 : ∀ (n6 : Nat) (l1_6 : Int32) (l2_6 : Int32) (v6 : Nat → Int32) (f6 : Nat → Nat → Int32) (w6 : Int64) (g6 : Nat → Int64), YI v6 → YC f6 → progOK (f6 4) (f6 5) (v6 9).toInt.toNat → v6 0 = (v 0) → v6 1 = (v 1) → v6 2 = (v 2) → v6 3 = (v 3) → v6 4 = (v 4) → v6 5 = (v 5) → v6 8 = (v 8) → v6 9 = (v 9) → v6 10 = (v 10) → v6 13 = (v 13) → v6 14 = (v 14) → v6 15 = (v 15) → v6 17 = (v 17) → v6 18 = (v 18) → v6 24 = (v 24) → v6 25 = (v 25) → v6 35 = (v 35) → v6 36 = (v 36) → v6 38 = (v 38) → v6 39 = (v 39) → ((0 : Int) ≤ l2_6.toInt ∧ l2_6.toInt ≤ 2147483647) → KV [] v6 v → KF [7, 8, 24] f6 f → (2147483647 - l2_6.toInt).toNat < n6 → ∀ (H : Heap) (locs : List Loc) (ls : Array Slot), va_P (dC, dI) vwCl (YW cy y0 r v6 f6 w6 g6) H → va_D A (YW cy y0 r v6 f6 w6 g6) → va_S A s.heap H locs → lv_has ls 3 [(2, .int l2_6), (1, .int l1_6), (0, .ref y0)] → W p l e { frames := 5, cells := 0, slots := 0, locals := 147 } s m ([.ref y0] : List Value).toArray below meth c H locs 0 0 Q (F0 m 8 ls []) := by
    intro n6
    induction n6 with
    | zero => intro l1_6 l2_6 v6 f6 w6 g6 hIv6 hCf6 hRf6 hq0_v6 hq1_v6 hq2_v6 hq3_v6 hq4_v6 hq5_v6 hq8_v6 hq9_v6 hq10_v6 hq13_v6 hq14_v6 hq15_v6 hq17_v6 hq18_v6 hq24_v6 hq25_v6 hq35_v6 hq36_v6 hq38_v6 hq39_v6 hr2_6 hM_v6 hA_f6 hm; exact absurd hm (Nat.not_lt_zero _)
    | succ n6 ih6 =>
      intro l1_6 l2_6 v6 f6 w6 g6 hIv6 hCf6 hRf6 hq0_v6 hq1_v6 hq2_v6 hq3_v6 hq4_v6 hq5_v6 hq8_v6 hq9_v6 hq10_v6 hq13_v6 hq14_v6 hq15_v6 hq17_v6 hq18_v6 hq24_v6 hq25_v6 hq35_v6 hq36_v6 hq38_v6 hq39_v6 hr2_6 hM_v6 hA_f6 hm6 H locs ls hP hD hS hl
      have hUv6 : (v6 35).toInt + (v6 36).toInt ≤ 40 := hIv6.2
      have zq9_v6 := congrArg Int32.toInt hq9_v6
      refine lv_iload_n hx hb dX11_ease_8 rfl (lv_at hl 0 rfl) ?_
      refine lv_aload_n hx hb dX11_ease_9 rfl (lv_at hl 2 rfl) ?_
      refine va_get (D := (dC, dI)) (ci := 11) (v := .int (v6 24)) (C := RX11) (T := TX11) (N := 79) hx hb hts inB_11 hown hE.1 hP 0 rfl rfl 48 (by decide) (hts _ k_1368) (fun _ h9 => h9) rfl dX11_ease_10 ?_
      refine tI (y := (v 24)) hq24_v6 ?_
      have b24_v : 0 ≤ (v 24).toInt ∧ (v 24).toInt ≤ 6 := YIb.b hIv.1 24 (by decide)
      refine lv_icmp_ge (tgt := 32) hx hb dX11_ease_13 (by decide) (fun c7 => ?_) (fun c7 => ?_)
      · skip
        have zc7 : (v 24).toInt ≤ l2_6.toInt := by rw [fa_le] at c7; exact c7
        have rg8 := fb_rng l2_6
        have rg9 := fb_rng (v 24)
        refine lv_iload_n hx hb dX11_ease_32 rfl (lv_at hl 1 rfl) ?_
        exact ret l1_6 (v6, f6, w6, g6) _ _ _ _ _ _ rfl ⟨hM_v6, hA_f6, hIv6, hCf6, hRf6, hq0_v6, hq1_v6, hq2_v6, hq3_v6, hq4_v6, hq5_v6, hq8_v6, hq9_v6, hq10_v6, hq13_v6, hq14_v6, hq15_v6, hq17_v6, hq18_v6, hq24_v6, hq25_v6, hq35_v6, hq36_v6, hq38_v6, hq39_v6⟩ hP hD hS dX11_ease_33 (Nat.le_refl _) (Nat.le_refl _)
      · skip
        have zc7 : ¬ ((v 24).toInt ≤ l2_6.toInt) := by rw [fa_le] at c7; exact c7
        have rg10 := fb_rng l2_6
        have rg11 := fb_rng (v 24)
        refine lv_iload_n hx hb dX11_ease_16 rfl (lv_at hl 1 rfl) ?_
        refine lv_aload_n hx hb dX11_ease_17 rfl (lv_at hl 2 rfl) ?_
        refine lv_iload_n hx hb dX11_ease_18 rfl (lv_at hl 0 rfl) ?_
        refine cbVi (n := 1) (rest := [.int l1_6]) hx hb hml hown hts hE hP hD hS hA (sY_X11_ownIll_1 l dC dI cy y0 r l2_6 v6 f6 w6 g6 hIv6 hCf6 hRf6 ⟨show (0 : Int) ≤ l2_6.toInt by omega, show l2_6.toInt ≤ (5 : Int) by omega⟩) k_1984 k_1986 k_96 k_114 k_1987 (by decide +kernel) ⟨Nat.le_of_ble_eq_true rfl, Nat.le_of_ble_eq_true rfl⟩ 0 11 rfl rfl (rfl) hl.1 rfl (Nat.le_of_ble_eq_true rfl) dX11_ease_19 (fun r12 u H locs hw hP hD hS => ?_)
        obtain ⟨v13, f14, w15, g16⟩ := u
        obtain ⟨kV_v13, kF_f14, hIv13, hCf14, hRf14, hk0_v13, hk1_v13, hk2_v13, hk3_v13, hk4_v13, hk5_v13, hk8_v13, hk9_v13, hk10_v13, hk13_v13, hk14_v13, hk15_v13, hk17_v13, hk18_v13, hk24_v13, hk25_v13, hk35_v13, hk36_v13, hk38_v13, hk39_v13⟩ := hw
        have hM_v13 : KV [] v13 v := KV.tr kV_v13 hM_v6 rfl
        have hA_f14 : KF [7, 8, 24] f14 f := KF.tr kF_f14 hA_f6 rfl
        have hP : va_P (dC, dI) vwCl (YW cy y0 r v13 f14 w15 g16) H := hP
        have hD : va_D A (YW cy y0 r v13 f14 w15 g16) := hD
        have hUv13 : (v13 35).toInt + (v13 36).toInt ≤ 40 := hIv13.2
        have hq0_v13 : v13 0 = (v 0) := hk0_v13.trans hq0_v6
        have hq1_v13 : v13 1 = (v 1) := hk1_v13.trans hq1_v6
        have hq2_v13 : v13 2 = (v 2) := hk2_v13.trans hq2_v6
        have hq3_v13 : v13 3 = (v 3) := hk3_v13.trans hq3_v6
        have hq4_v13 : v13 4 = (v 4) := hk4_v13.trans hq4_v6
        have hq5_v13 : v13 5 = (v 5) := hk5_v13.trans hq5_v6
        have hq8_v13 : v13 8 = (v 8) := hk8_v13.trans hq8_v6
        have hq9_v13 : v13 9 = (v 9) := hk9_v13.trans hq9_v6
        have zq9_v13 := congrArg Int32.toInt hq9_v13
        have hq10_v13 : v13 10 = (v 10) := hk10_v13.trans hq10_v6
        have hq13_v13 : v13 13 = (v 13) := hk13_v13.trans hq13_v6
        have hq14_v13 : v13 14 = (v 14) := hk14_v13.trans hq14_v6
        have hq15_v13 : v13 15 = (v 15) := hk15_v13.trans hq15_v6
        have hq17_v13 : v13 17 = (v 17) := hk17_v13.trans hq17_v6
        have hq18_v13 : v13 18 = (v 18) := hk18_v13.trans hq18_v6
        have hq24_v13 : v13 24 = (v 24) := hk24_v13.trans hq24_v6
        have hq25_v13 : v13 25 = (v 25) := hk25_v13.trans hq25_v6
        have hq35_v13 : v13 35 = (v 35) := hk35_v13.trans hq35_v6
        have hq36_v13 : v13 36 = (v 36) := hk36_v13.trans hq36_v6
        have hq38_v13 : v13 38 = (v 38) := hk38_v13.trans hq38_v6
        have hq39_v13 : v13 39 = (v 39) := hk39_v13.trans hq39_v6
        refine cbSi (n := 2) (rest := []) hx hb hml hown hts hE hP hD hS hA (sY_X11_greater_1 0 l dC dI cy y0 r l1_6 r12 v13 f14 w15 g16 hIv13 hCf14 hRf14 ) k_1802 k_1803 k_114 k_1804 (by decide +kernel) ⟨Nat.le_of_ble_eq_true rfl, Nat.le_of_ble_eq_true rfl⟩ (rfl) hl.1 rfl (Nat.le_of_ble_eq_true rfl) dX11_ease_22 (fun r17 u H locs hw hP hD hS => ?_)
        have hG18 := hw
        refine lv_istore_n (lv' := [(1, .int r17), (2, .int l2_6), (0, .ref y0)]) hx hb dX11_ease_25 rfl hl (by decide) rfl (fun ls hl => ?_)
        obtain ⟨t19, et19⟩ : ∃ y : Int32, y = l2_6 + 1 := ⟨_, rfl⟩
        have zt19 : t19.toInt = l2_6.toInt + 1 := by rw [et19]; exact add_i rfl (by decide) (by omega) (by omega)
        refine lv_iinc (v := t19) (lv' := [(2, .int t19), (1, .int r17), (0, .ref y0)]) hx hb dX11_ease_26 hl (k := 1) rfl (by rw [et19]; rfl) (by decide) rfl (fun ls hl => ?_)
        refine lv_goto (tgt := 8) hx hb dX11_ease_29 (by decide) ?_
        have rg20 := fb_rng t19
        exact ih6 r17 t19 v13 f14 w15 g16 hIv13 hCf14 hRf14 hq0_v13 hq1_v13 hq2_v13 hq3_v13 hq4_v13 hq5_v13 hq8_v13 hq9_v13 hq10_v13 hq13_v13 hq14_v13 hq15_v13 hq17_v13 hq18_v13 hq24_v13 hq25_v13 hq35_v13 hq36_v13 hq38_v13 hq39_v13 ⟨show (0 : Int) ≤ t19.toInt by omega, show t19.toInt ≤ (2147483647 : Int) by omega⟩ hM_v13 hA_f14 (by show (2147483647 - t19.toInt).toNat < n6; omega) _ _ _ hP hD hS (lv_sub hl [0, 1, 2] rfl)
  exact lp6 _ 0 0 v2 f3 w4 g5 hIv2 hCf3 hRf3 hq0_v2 hq1_v2 hq2_v2 hq3_v2 hq4_v2 hq5_v2 hq8_v2 hq9_v2 hq10_v2 hq13_v2 hq14_v2 hq15_v2 hq17_v2 hq18_v2 hq24_v2 hq25_v2 hq35_v2 hq36_v2 hq38_v2 hq39_v2 ⟨by decide, by decide⟩ hM_v2 hA_f3 (Nat.lt_succ_self _) _ _ _ hP hD hS (lv_sub hl [0, 1, 2] rfl)
set_option maxHeartbeats 4000000 in
set_option maxRecDepth 100000 in
theorem sY_X11_breadth_1 (l : Launch) (dC : Nat → ClassId) (dI : Nat → Nat → Nat) (cy : Nat → ClassId) (y0 : Nat) (r : Nat → Nat)  (v : Nat → Int32) (f : Nat → Nat → Int32) (w : Int64) (g : Nat → Int64) (hIv : YI v) (hCf : YC f) (hRf : progOK (f 4) (f 5) (v 9).toInt.toNat)  : ctI l (dC, dI) cy yX11_breadth cX11_breadth 1 .int 3 102 0 0 ((Nat → Int32) × (Nat → Nat → Int32) × (Int64) × (Nat → Int64)) [.ref y0] (YW cy y0 r v f w g) (fun r u => KV [] u.1 v ∧ KF [24] u.2.1 f ∧ YI u.1 ∧ YC u.2.1 ∧ progOK (u.2.1 4) (u.2.1 5) (u.1 9).toInt.toNat ∧ u.1 0 = v 0 ∧ u.1 1 = v 1 ∧ u.1 2 = v 2 ∧ u.1 3 = v 3 ∧ u.1 4 = v 4 ∧ u.1 5 = v 5 ∧ u.1 8 = v 8 ∧ u.1 9 = v 9 ∧ u.1 10 = v 10 ∧ u.1 13 = v 13 ∧ u.1 14 = v 14 ∧ u.1 15 = v 15 ∧ u.1 17 = v 17 ∧ u.1 18 = v 18 ∧ u.1 24 = v 24 ∧ u.1 25 = v 25 ∧ u.1 35 = v 35 ∧ u.1 36 = v 36 ∧ u.1 38 = v 38 ∧ u.1 39 = v 39) (fun u => YW cy y0 r u.1 u.2.1 u.2.2.1 u.2.2.2) := by
  refine ctI_of (by decide) (Nat.le_of_ble_eq_true rfl) (fun p e s m below meth c A ls Q hx hb hml hts hown hE hP hD hA hl ret => ?_)
  have hUv : (v 35).toInt + (v 36).toInt ≤ 40 := hIv.2
  have hM_v : KV [] v v := fun _ _ => rfl
  have hA_f : KF [24] f f := fun _ _ => rfl
  have hown : s.vm.findClass RX11 = some m.cls := hown
  have hS : va_S A s.heap s.heap [] := va_S.rf
  have hl : lv_has ls 1 [(0, .ref y0)] := hl
  refine lv_aload_n hx hb dX11_breadth_0 rfl (lv_at hl 0 rfl) ?_
  refine cbVv (n := 0) (rest := []) hx hb hml hown hts hE hP hD hS hA (sY_X11_fill_1 0 l dC dI cy y0 r  v f w g hIv hCf hRf ) k_1739 k_1741 k_71 k_114 k_1742 (by decide +kernel) ⟨Nat.le_of_ble_eq_true rfl, Nat.le_of_ble_eq_true rfl⟩ 0 11 rfl rfl (rfl) hl.1 rfl (Nat.le_of_ble_eq_true rfl) dX11_breadth_1 (fun u H locs hw hP hD hS => ?_)
  obtain ⟨hG1, hw⟩ := hw
  obtain ⟨v2, f3, w4, g5⟩ := u
  obtain ⟨kV_v2, kF_f3, hIv2, hCf3, hRf3, hk0_v2, hk1_v2, hk2_v2, hk3_v2, hk4_v2, hk5_v2, hk8_v2, hk9_v2, hk10_v2, hk13_v2, hk14_v2, hk15_v2, hk17_v2, hk18_v2, hk24_v2, hk25_v2, hk35_v2, hk36_v2, hk38_v2, hk39_v2⟩ := hw
  have hM_v2 : KV [] v2 v := KV.tr kV_v2 hM_v rfl
  have hA_f3 : KF [24] f3 f := KF.tr kF_f3 hA_f rfl
  have hP : va_P (dC, dI) vwCl (YW cy y0 r v2 f3 w4 g5) H := hP
  have hD : va_D A (YW cy y0 r v2 f3 w4 g5) := hD
  have hUv2 : (v2 35).toInt + (v2 36).toInt ≤ 40 := hIv2.2
  have hq9_v2 : v2 9 = (v 9) := hk9_v2
  have zq9_v2 := congrArg Int32.toInt hq9_v2
  refine lv_aload_n hx hb dX11_breadth_4 rfl (lv_at hl 0 rfl) ?_
  refine lv_aload_n hx hb dX11_breadth_5 rfl (lv_at hl 0 rfl) ?_
  refine cbVi (n := 0) (rest := [.ref y0]) hx hb hml hown hts hE hP hD hS hA (sY_X11_wearers_1 0 l dC dI cy y0 r  v2 f3 w4 g5 hIv2 hCf3 hRf3 ) k_1805 k_1807 k_80 k_114 k_1808 (by decide +kernel) ⟨Nat.le_of_ble_eq_true rfl, Nat.le_of_ble_eq_true rfl⟩ 0 11 rfl rfl (rfl) hl.1 rfl (Nat.le_of_ble_eq_true rfl) dX11_breadth_6 (fun r6 u H locs hw hP hD hS => ?_)
  obtain ⟨hG7, hw⟩ := hw
  refine cbVi (n := 1) (rest := []) hx hb hml hown hts hE hP hD hS hA (sY_X11_wideOf_1 l dC dI cy y0 r r6 v2 f3 w4 g5 hIv2 hCf3 hRf3 ) k_1912 k_1914 k_88 k_114 k_1915 (by decide +kernel) ⟨Nat.le_of_ble_eq_true rfl, Nat.le_of_ble_eq_true rfl⟩ 0 11 rfl rfl (rfl) hl.1 rfl (Nat.le_of_ble_eq_true rfl) dX11_breadth_9 (fun r8 u H locs hw hP hD hS => ?_)
  exact ret r8 (v2, f3, w4, g5) _ _ _ _ _ _ rfl ⟨hM_v2, hA_f3, hIv2, hCf3, hRf3, hk0_v2, hk1_v2, hk2_v2, hk3_v2, hk4_v2, hk5_v2, hk8_v2, hk9_v2, hk10_v2, hk13_v2, hk14_v2, hk15_v2, hk17_v2, hk18_v2, hk24_v2, hk25_v2, hk35_v2, hk36_v2, hk38_v2, hk39_v2⟩ hP hD hS dX11_breadth_12 (Nat.le_refl _) (Nat.le_refl _)
set_option maxHeartbeats 4000000 in
set_option maxRecDepth 100000 in
theorem sY_X11_rout_1 (l : Launch) (dC : Nat → ClassId) (dI : Nat → Nat → Nat) (cy : Nat → ClassId) (y0 : Nat) (r : Nat → Nat)  (v : Nat → Int32) (f : Nat → Nat → Int32) (w : Int64) (g : Nat → Int64) (hIv : YI v) (hCf : YC f) (hRf : progOK (f 4) (f 5) (v 9).toInt.toNat)  : ctI l (dC, dI) cy yX11_rout cX11_rout 2 .int 8 214 0 0 ((Nat → Int32) × (Nat → Nat → Int32) × (Int64) × (Nat → Int64)) [.ref y0] (YW cy y0 r v f w g) (fun r u => KV [] u.1 v ∧ KF [7, 8, 24] u.2.1 f ∧ YI u.1 ∧ YC u.2.1 ∧ progOK (u.2.1 4) (u.2.1 5) (u.1 9).toInt.toNat ∧ u.1 0 = v 0 ∧ u.1 1 = v 1 ∧ u.1 2 = v 2 ∧ u.1 3 = v 3 ∧ u.1 4 = v 4 ∧ u.1 5 = v 5 ∧ u.1 8 = v 8 ∧ u.1 9 = v 9 ∧ u.1 10 = v 10 ∧ u.1 13 = v 13 ∧ u.1 14 = v 14 ∧ u.1 15 = v 15 ∧ u.1 17 = v 17 ∧ u.1 18 = v 18 ∧ u.1 24 = v 24 ∧ u.1 25 = v 25 ∧ u.1 35 = v 35 ∧ u.1 36 = v 36 ∧ u.1 38 = v 38 ∧ u.1 39 = v 39) (fun u => YW cy y0 r u.1 u.2.1 u.2.2.1 u.2.2.2) := by
  refine ctI_of (by decide) (Nat.le_of_ble_eq_true rfl) (fun p e s m below meth c A ls Q hx hb hml hts hown hE hP hD hA hl ret => ?_)
  have hUv : (v 35).toInt + (v 36).toInt ≤ 40 := hIv.2
  have hM_v : KV [] v v := fun _ _ => rfl
  have hA_f : KF [7, 8, 24] f f := fun _ _ => rfl
  have hown : s.vm.findClass RX11 = some m.cls := hown
  have hS : va_S A s.heap s.heap [] := va_S.rf
  have hl : lv_has ls 2 [(0, .ref y0)] := hl
  refine lv_aload_n hx hb dX11_rout_0 rfl (lv_at hl 0 rfl) ?_
  refine cbVv (n := 0) (rest := []) hx hb hml hown hts hE hP hD hS hA (sY_X11_fill_1 0 l dC dI cy y0 r  v f w g hIv hCf hRf ) k_1739 k_1741 k_71 k_114 k_1742 (by decide +kernel) ⟨Nat.le_of_ble_eq_true rfl, Nat.le_of_ble_eq_true rfl⟩ 0 11 rfl rfl (rfl) hl.1 rfl (Nat.le_of_ble_eq_true rfl) dX11_rout_1 (fun u H locs hw hP hD hS => ?_)
  obtain ⟨hG1, hw⟩ := hw
  obtain ⟨v2, f3, w4, g5⟩ := u
  obtain ⟨kV_v2, kF_f3, hIv2, hCf3, hRf3, hk0_v2, hk1_v2, hk2_v2, hk3_v2, hk4_v2, hk5_v2, hk8_v2, hk9_v2, hk10_v2, hk13_v2, hk14_v2, hk15_v2, hk17_v2, hk18_v2, hk24_v2, hk25_v2, hk35_v2, hk36_v2, hk38_v2, hk39_v2⟩ := hw
  have hM_v2 : KV [] v2 v := KV.tr kV_v2 hM_v rfl
  have hA_f3 : KF [7, 8, 24] f3 f := KF.tr kF_f3 hA_f rfl
  have hP : va_P (dC, dI) vwCl (YW cy y0 r v2 f3 w4 g5) H := hP
  have hD : va_D A (YW cy y0 r v2 f3 w4 g5) := hD
  have hUv2 : (v2 35).toInt + (v2 36).toInt ≤ 40 := hIv2.2
  have hq0_v2 : v2 0 = (v 0) := hk0_v2
  have hq1_v2 : v2 1 = (v 1) := hk1_v2
  have hq2_v2 : v2 2 = (v 2) := hk2_v2
  have hq3_v2 : v2 3 = (v 3) := hk3_v2
  have hq4_v2 : v2 4 = (v 4) := hk4_v2
  have hq5_v2 : v2 5 = (v 5) := hk5_v2
  have hq8_v2 : v2 8 = (v 8) := hk8_v2
  have hq9_v2 : v2 9 = (v 9) := hk9_v2
  have zq9_v2 := congrArg Int32.toInt hq9_v2
  have hq10_v2 : v2 10 = (v 10) := hk10_v2
  have hq13_v2 : v2 13 = (v 13) := hk13_v2
  have hq14_v2 : v2 14 = (v 14) := hk14_v2
  have hq15_v2 : v2 15 = (v 15) := hk15_v2
  have hq17_v2 : v2 17 = (v 17) := hk17_v2
  have hq18_v2 : v2 18 = (v 18) := hk18_v2
  have hq24_v2 : v2 24 = (v 24) := hk24_v2
  have hq25_v2 : v2 25 = (v 25) := hk25_v2
  have hq35_v2 : v2 35 = (v 35) := hk35_v2
  have hq36_v2 : v2 36 = (v 36) := hk36_v2
  have hq38_v2 : v2 38 = (v 38) := hk38_v2
  have hq39_v2 : v2 39 = (v 39) := hk39_v2
  refine lv_iconst (v := 0) hx hb dX11_rout_4 (by decide) ?_
  refine lv_istore_n (lv' := [(1, .int 0), (0, .ref y0)]) hx hb dX11_rout_5 rfl hl (by decide) rfl (fun ls hl => ?_)
  have lp6 : ∀ (n6 : Nat) (l1_6 : Int32) (v6 : Nat → Int32) (f6 : Nat → Nat → Int32) (w6 : Int64) (g6 : Nat → Int64), YI v6 → YC f6 → progOK (f6 4) (f6 5) (v6 9).toInt.toNat → v6 0 = (v 0) → v6 1 = (v 1) → v6 2 = (v 2) → v6 3 = (v 3) → v6 4 = (v 4) → v6 5 = (v 5) → v6 8 = (v 8) → v6 9 = (v 9) → v6 10 = (v 10) → v6 13 = (v 13) → v6 14 = (v 14) → v6 15 = (v 15) → v6 17 = (v 17) → v6 18 = (v 18) → v6 24 = (v 24) → v6 25 = (v 25) → v6 35 = (v 35) → v6 36 = (v 36) → v6 38 = (v 38) → v6 39 = (v 39) → ((0 : Int) ≤ l1_6.toInt ∧ l1_6.toInt ≤ 2147483647) → KV [] v6 v → KF [7, 8, 24] f6 f → (2147483647 - l1_6.toInt).toNat < n6 → ∀ (H : Heap) (locs : List Loc) (ls : Array Slot), va_P (dC, dI) vwCl (YW cy y0 r v6 f6 w6 g6) H → va_D A (YW cy y0 r v6 f6 w6 g6) → va_S A s.heap H locs → lv_has ls 2 [(1, .int l1_6), (0, .ref y0)] → W p l e { frames := 8, cells := 0, slots := 0, locals := 214 } s m ([.ref y0] : List Value).toArray below meth c H locs 0 0 Q (F0 m 6 ls []) := by
    intro n6
    induction n6 with
    | zero => intro l1_6 v6 f6 w6 g6 hIv6 hCf6 hRf6 hq0_v6 hq1_v6 hq2_v6 hq3_v6 hq4_v6 hq5_v6 hq8_v6 hq9_v6 hq10_v6 hq13_v6 hq14_v6 hq15_v6 hq17_v6 hq18_v6 hq24_v6 hq25_v6 hq35_v6 hq36_v6 hq38_v6 hq39_v6 hr1_6 hM_v6 hA_f6 hm; exact absurd hm (Nat.not_lt_zero _)
    | succ n6 ih6 =>
      intro l1_6 v6 f6 w6 g6 hIv6 hCf6 hRf6 hq0_v6 hq1_v6 hq2_v6 hq3_v6 hq4_v6 hq5_v6 hq8_v6 hq9_v6 hq10_v6 hq13_v6 hq14_v6 hq15_v6 hq17_v6 hq18_v6 hq24_v6 hq25_v6 hq35_v6 hq36_v6 hq38_v6 hq39_v6 hr1_6 hM_v6 hA_f6 hm6 H locs ls hP hD hS hl
      have hUv6 : (v6 35).toInt + (v6 36).toInt ≤ 40 := hIv6.2
      have zq9_v6 := congrArg Int32.toInt hq9_v6
      refine lv_iload_n hx hb dX11_rout_6 rfl (lv_at hl 0 rfl) ?_
      refine lv_bipush (v := 60) hx hb dX11_rout_7 (by decide) ?_
      refine lv_icmp_gt (tgt := 33) hx hb dX11_rout_9 (by decide) (fun c7 => ?_) (fun c7 => ?_)
      · skip
        have zc7 : 60 < l1_6.toInt := by rw [fa_lt, show (60 : Int32).toInt = 60 from by decide] at c7; exact c7
        refine lv_iconst (v := (-1)) hx hb dX11_rout_33 (by decide) ?_
        exact ret (-1) (v6, f6, w6, g6) _ _ _ _ _ _ rfl ⟨hM_v6, hA_f6, hIv6, hCf6, hRf6, hq0_v6, hq1_v6, hq2_v6, hq3_v6, hq4_v6, hq5_v6, hq8_v6, hq9_v6, hq10_v6, hq13_v6, hq14_v6, hq15_v6, hq17_v6, hq18_v6, hq24_v6, hq25_v6, hq35_v6, hq36_v6, hq38_v6, hq39_v6⟩ hP hD hS dX11_rout_34 (Nat.le_refl _) (Nat.le_refl _)
      · skip
        have zc7 : ¬ (60 < l1_6.toInt) := by rw [fa_lt, show (60 : Int32).toInt = 60 from by decide] at c7; exact c7
        refine lv_aload_n hx hb dX11_rout_12 rfl (lv_at hl 1 rfl) ?_
        refine cbVi (n := 0) (rest := []) hx hb hml hown hts hE hP hD hS hA (sY_X11_wearers_1 0 l dC dI cy y0 r  v6 f6 w6 g6 hIv6 hCf6 hRf6 ) k_1805 k_1807 k_80 k_114 k_1808 (by decide +kernel) ⟨Nat.le_of_ble_eq_true rfl, Nat.le_of_ble_eq_true rfl⟩ 0 11 rfl rfl (rfl) hl.1 rfl (Nat.le_of_ble_eq_true rfl) dX11_rout_13 (fun r8 u H locs hw hP hD hS => ?_)
        obtain ⟨hG9, hw⟩ := hw
        refine lv_if_ne (tgt := 21) hx hb dX11_rout_16 (by decide) (fun c10 => ?_) (fun c10 => ?_)
        · skip
          have zc10 : ¬ (r8.toInt = 0) := by rw [fa_eq, show (0 : Int32).toInt = 0 from by decide] at c10; exact c10
          refine lv_aload_n hx hb dX11_rout_21 rfl (lv_at hl 1 rfl) ?_
          refine lv_iconst (v := 0) hx hb dX11_rout_22 (by decide) ?_
          refine cbVi (n := 1) (rest := []) hx hb hml hown hts hE hP hD hS hA (sY_X11_goDay_1 0 l dC dI cy y0 r 0 v6 f6 w6 g6 hIv6 hCf6 hRf6 ) k_1795 k_1797 k_79 k_114 k_1798 (by decide +kernel) ⟨Nat.le_of_ble_eq_true rfl, Nat.le_of_ble_eq_true rfl⟩ 0 11 rfl rfl (rfl) hl.1 rfl (Nat.le_of_ble_eq_true rfl) dX11_rout_23 (fun r11 u H locs hw hP hD hS => ?_)
          obtain ⟨hG12, hw⟩ := hw
          obtain ⟨v13, f14, w15, g16⟩ := u
          obtain ⟨kV_v13, kF_f14, hIv13, hCf14, hRf14, hk0_v13, hk1_v13, hk2_v13, hk3_v13, hk4_v13, hk5_v13, hk8_v13, hk9_v13, hk10_v13, hk13_v13, hk14_v13, hk15_v13, hk17_v13, hk18_v13, hk24_v13, hk25_v13, hk35_v13, hk36_v13, hk38_v13, hk39_v13⟩ := hw
          have hM_v13 : KV [] v13 v := KV.tr kV_v13 hM_v6 rfl
          have hA_f14 : KF [7, 8, 24] f14 f := KF.tr kF_f14 hA_f6 rfl
          have hP : va_P (dC, dI) vwCl (YW cy y0 r v13 f14 w15 g16) H := hP
          have hD : va_D A (YW cy y0 r v13 f14 w15 g16) := hD
          have hUv13 : (v13 35).toInt + (v13 36).toInt ≤ 40 := hIv13.2
          have hq0_v13 : v13 0 = (v 0) := hk0_v13.trans hq0_v6
          have hq1_v13 : v13 1 = (v 1) := hk1_v13.trans hq1_v6
          have hq2_v13 : v13 2 = (v 2) := hk2_v13.trans hq2_v6
          have hq3_v13 : v13 3 = (v 3) := hk3_v13.trans hq3_v6
          have hq4_v13 : v13 4 = (v 4) := hk4_v13.trans hq4_v6
          have hq5_v13 : v13 5 = (v 5) := hk5_v13.trans hq5_v6
          have hq8_v13 : v13 8 = (v 8) := hk8_v13.trans hq8_v6
          have hq9_v13 : v13 9 = (v 9) := hk9_v13.trans hq9_v6
          have zq9_v13 := congrArg Int32.toInt hq9_v13
          have hq10_v13 : v13 10 = (v 10) := hk10_v13.trans hq10_v6
          have hq13_v13 : v13 13 = (v 13) := hk13_v13.trans hq13_v6
          have hq14_v13 : v13 14 = (v 14) := hk14_v13.trans hq14_v6
          have hq15_v13 : v13 15 = (v 15) := hk15_v13.trans hq15_v6
          have hq17_v13 : v13 17 = (v 17) := hk17_v13.trans hq17_v6
          have hq18_v13 : v13 18 = (v 18) := hk18_v13.trans hq18_v6
          have hq24_v13 : v13 24 = (v 24) := hk24_v13.trans hq24_v6
          have hq25_v13 : v13 25 = (v 25) := hk25_v13.trans hq25_v6
          have hq35_v13 : v13 35 = (v 35) := hk35_v13.trans hq35_v6
          have hq36_v13 : v13 36 = (v 36) := hk36_v13.trans hq36_v6
          have hq38_v13 : v13 38 = (v 38) := hk38_v13.trans hq38_v6
          have hq39_v13 : v13 39 = (v 39) := hk39_v13.trans hq39_v6
          refine lv_pop hx hb dX11_rout_26 rfl ?_
          obtain ⟨t17, et17⟩ : ∃ y : Int32, y = l1_6 + 1 := ⟨_, rfl⟩
          have rg18 := fb_rng l1_6
          have zt17 : t17.toInt = l1_6.toInt + 1 := by rw [et17]; exact add_i rfl (by decide) (by omega) (by omega)
          refine lv_iinc (v := t17) (lv' := [(1, .int t17), (0, .ref y0)]) hx hb dX11_rout_27 hl (k := 0) rfl (by rw [et17]; rfl) (by decide) rfl (fun ls hl => ?_)
          refine lv_goto (tgt := 6) hx hb dX11_rout_30 (by decide) ?_
          have rg19 := fb_rng t17
          exact ih6 t17 v13 f14 w15 g16 hIv13 hCf14 hRf14 hq0_v13 hq1_v13 hq2_v13 hq3_v13 hq4_v13 hq5_v13 hq8_v13 hq9_v13 hq10_v13 hq13_v13 hq14_v13 hq15_v13 hq17_v13 hq18_v13 hq24_v13 hq25_v13 hq35_v13 hq36_v13 hq38_v13 hq39_v13 ⟨show (0 : Int) ≤ t17.toInt by omega, show t17.toInt ≤ (2147483647 : Int) by omega⟩ hM_v13 hA_f14 (by show (2147483647 - t17.toInt).toNat < n6; omega) _ _ _ hP hD hS (lv_sub hl [0, 1] rfl)
        · skip
          have zc10 : r8.toInt = 0 := by rw [fa_eq, show (0 : Int32).toInt = 0 from by decide] at c10; exact c10
          refine lv_iload_n hx hb dX11_rout_19 rfl (lv_at hl 0 rfl) ?_
          exact ret l1_6 (v6, f6, w6, g6) _ _ _ _ _ _ rfl ⟨hM_v6, hA_f6, hIv6, hCf6, hRf6, hq0_v6, hq1_v6, hq2_v6, hq3_v6, hq4_v6, hq5_v6, hq8_v6, hq9_v6, hq10_v6, hq13_v6, hq14_v6, hq15_v6, hq17_v6, hq18_v6, hq24_v6, hq25_v6, hq35_v6, hq36_v6, hq38_v6, hq39_v6⟩ hP hD hS dX11_rout_20 (Nat.le_refl _) (Nat.le_refl _)
  exact lp6 _ 0 v2 f3 w4 g5 hIv2 hCf3 hRf3 hq0_v2 hq1_v2 hq2_v2 hq3_v2 hq4_v2 hq5_v2 hq8_v2 hq9_v2 hq10_v2 hq13_v2 hq14_v2 hq15_v2 hq17_v2 hq18_v2 hq24_v2 hq25_v2 hq35_v2 hq36_v2 hq38_v2 hq39_v2 ⟨by decide, by decide⟩ hM_v2 hA_f3 (Nat.lt_succ_self _) _ _ _ hP hD hS (lv_sub hl [0, 1] rfl)
set_option maxHeartbeats 4000000 in
set_option maxRecDepth 100000 in
theorem sY_X11_lies_1 (l : Launch) (dC : Nat → ClassId) (dI : Nat → Nat → Nat) (cy : Nat → ClassId) (y0 : Nat) (r : Nat → Nat) (p1 : Int32) (v : Nat → Int32) (f : Nat → Nat → Int32) (w : Int64) (g : Nat → Int64) (hIv : YI v) (hCf : YC f) (hRf : progOK (f 4) (f 5) (v 9).toInt.toNat)  : ctI l (dC, dI) cy yX11_lies cX11_lies 2 .int 2 82 0 0 Unit [.ref y0, .int p1] (YW cy y0 r v f w g) (fun r u => True) (fun u => YW cy y0 r v f w g) := by
  refine ctI_of (by decide) (Nat.le_of_ble_eq_true rfl) (fun p e s m below meth c A ls Q hx hb hml hts hown hE hP hD hA hl ret => ?_)
  have hUv : (v 35).toInt + (v 36).toInt ≤ 40 := hIv.2
  have hown : s.vm.findClass RX11 = some m.cls := hown
  have hS : va_S A s.heap s.heap [] := va_S.rf
  have hl : lv_has ls 2 [(0, .ref y0), (1, .int p1)] := hl
  refine lv_iload_n hx hb dX11_lies_0 rfl (lv_at hl 1 rfl) ?_
  refine lv_iconst (v := 0) hx hb dX11_lies_1 (by decide) ?_
  refine lv_aload_n hx hb dX11_lies_2 rfl (lv_at hl 0 rfl) ?_
  refine va_get (D := (dC, dI)) (ci := 11) (v := .int (v 37)) (C := RX11) (T := TX11) (N := 79) hx hb hts inB_11 hown hE.1 hP 0 rfl rfl 67 (by decide) (hts _ k_1387) (fun _ h9 => h9) rfl dX11_lies_3 ?_
  have b37_v : 0 ≤ (v 37).toInt ∧ (v 37).toInt ≤ 6 := YIb.b hIv.1 37 (by decide)
  refine lv_iconst (v := 1) hx hb dX11_lies_6 (by decide) ?_
  refine lv_isub hx hb dX11_lies_7 ?_
  refine lv_topi (fun t1 et1 => ?_)
  have rg2 := fb_rng (v 37)
  have zt1 : t1.toInt = (v 37).toInt - 1 := by rw [et1]; exact sub_i rfl (by decide) (by omega) (by omega)
  have lt3 : (0 : Int32).toInt = 0 := by decide
  refine cbSi (n := 3) (rest := []) hx hb hml hown hts hE hP hD hS hA (sY_X11_isIn_1 0 l dC dI cy y0 r p1 0 t1 v f w g hIv hCf hRf ) k_1736 k_1737 k_114 k_1738 (by decide +kernel) ⟨Nat.le_of_ble_eq_true rfl, Nat.le_of_ble_eq_true rfl⟩ (rfl) hl.1 rfl (Nat.le_of_ble_eq_true rfl) dX11_lies_8 (fun r4 u H locs hw hP hD hS => ?_)
  obtain ⟨hG5, hw⟩ := hw
  rcases hw with ⟨g6, g6_0, g6_1⟩ | ⟨g6⟩
  · skip
    subst g6
    refine lv_if_eq (tgt := 23) hx hb dX11_lies_11 (by decide) (fun c0 => absurd c0 (by decide)) (fun _ => ?_)
    refine lv_aload_n hx hb dX11_lies_14 rfl (lv_at hl 0 rfl) ?_
    refine va_get (D := (dC, dI)) (ci := 11) (v := .ref (r 64)) (C := RX11) (T := TX11) (N := 79) hx hb hts inB_11 hown hE.1 hP 0 rfl rfl 64 (by decide) (hts _ k_1384) (fun _ h9 => h9) rfl dX11_lies_15 ?_
    refine lv_iload_n hx hb dX11_lies_18 rfl (lv_at hl 1 rfl) ?_
    refine ldI hx hb hE hP 27 rfl (vp_in_iff.mpr ⟨by omega, by omega⟩) rfl rfl dX11_lies_19 ?_
    refine lv_topi (fun t7 et7 => ?_)
    refine lv_goto (tgt := 25) hx hb dX11_lies_20 (by decide) ?_
    exact ret t7 () _ _ _ _ _ _ rfl trivial hP hD hS dX11_lies_25 (Nat.le_refl _) (Nat.le_refl _)
  · skip
    subst g6
    refine lv_if_eq (tgt := 23) hx hb dX11_lies_11 (by decide) (fun _ => ?_) (fun c0 => absurd (by decide) c0)
    refine lv_bipush (v := (-2)) hx hb dX11_lies_23 (by decide) ?_
    exact ret (-2) () _ _ _ _ _ _ rfl trivial hP hD hS dX11_lies_25 (Nat.le_refl _) (Nat.le_refl _)
set_option maxHeartbeats 4000000 in
set_option maxRecDepth 100000 in
theorem sY_X11_fitsGrowth_1 (l : Launch) (dC : Nat → ClassId) (dI : Nat → Nat → Nat) (cy : Nat → ClassId) (y0 : Nat) (r : Nat → Nat) (p1 : Int32) (p2 : Int32) (v : Nat → Int32) (f : Nat → Nat → Int32) (w : Int64) (g : Nat → Int64) (hIv : YI v) (hCf : YC f) (hRf : progOK (f 4) (f 5) (v 9).toInt.toNat) (hp1 : (0 : Int) ≤ p1.toInt ∧ p1.toInt ≤ 30) : ctI l (dC, dI) cy yX11_fitsGrowth cX11_fitsGrowth 5 .boolean 1 60 0 0 Unit [.ref y0, .int p1, .int p2] (YW cy y0 r v f w g) (fun r u => ((r = 1) ∨ (r = 0))) (fun u => YW cy y0 r v f w g) := by
  refine ctI_of (by decide) (Nat.le_of_ble_eq_true rfl) (fun p e s m below meth c A ls Q hx hb hml hts hown hE hP hD hA hl ret => ?_)
  have hUv : (v 35).toInt + (v 36).toInt ≤ 40 := hIv.2
  have hown : s.vm.findClass RX11 = some m.cls := hown
  have hS : va_S A s.heap s.heap [] := va_S.rf
  have hl : lv_has ls 5 [(0, .ref y0), (1, .int p1), (2, .int p2)] := hl
  refine lv_iconst (v := 1) hx hb dX11_fitsGrowth_0 (by decide) ?_
  refine lv_istore_n (lv' := [(3, .int 1), (0, .ref y0), (1, .int p1), (2, .int p2)]) hx hb dX11_fitsGrowth_1 rfl hl (by decide) rfl (fun ls hl => ?_)
  refine lv_iconst (v := 0) hx hb dX11_fitsGrowth_2 (by decide) ?_
  refine lv_istore (lv' := [(4, .int 0), (3, .int 1), (0, .ref y0), (1, .int p1), (2, .int p2)]) hx hb dX11_fitsGrowth_3 hl (by decide) rfl (fun ls hl => ?_)
  have lp1 : ∀ (n1 : Nat) (l3_1 : Int32) (l4_1 : Int32), ((0 : Int) ≤ l3_1.toInt ∧ l3_1.toInt ≤ 1) → ((0 : Int) ≤ l4_1.toInt ∧ l4_1.toInt ≤ 2147483647) → (2147483647 - l4_1.toInt).toNat < n1 → ∀ (H : Heap) (locs : List Loc) (ls : Array Slot), va_P (dC, dI) vwCl (YW cy y0 r v f w g) H → va_D A (YW cy y0 r v f w g) → va_S A s.heap H locs → lv_has ls 5 [(4, .int l4_1), (3, .int l3_1), (0, .ref y0), (1, .int p1), (2, .int p2)] → W p l e { frames := 1, cells := 0, slots := 0, locals := 60 } s m ([.ref y0, .int p1, .int p2] : List Value).toArray below meth c H locs 0 0 Q (F0 m 5 ls []) := by
    intro n1
    induction n1 with
    | zero => intro l3_1 l4_1 hr3_1 hr4_1 hm; exact absurd hm (Nat.not_lt_zero _)
    | succ n1 ih1 =>
      intro l3_1 l4_1 hr3_1 hr4_1 hm1 H locs ls hP hD hS hl
      refine lv_iload hx hb dX11_fitsGrowth_5 (lv_at hl 0 rfl) ?_
      refine lv_aload_n hx hb dX11_fitsGrowth_7 rfl (lv_at hl 2 rfl) ?_
      refine va_get (D := (dC, dI)) (ci := 11) (v := .int (v 38)) (C := RX11) (T := TX11) (N := 79) hx hb hts inB_11 hown hE.1 hP 0 rfl rfl 73 (by decide) (hts _ k_1393) (fun _ h9 => h9) rfl dX11_fitsGrowth_8 ?_
      have b38_v : 0 ≤ (v 38).toInt ∧ (v 38).toInt ≤ 30 := YIb.b hIv.1 38 (by decide)
      refine lv_icmp_ge (tgt := 92) hx hb dX11_fitsGrowth_11 (by decide) (fun c2 => ?_) (fun c2 => ?_)
      · skip
        have zc2 : (v 38).toInt ≤ l4_1.toInt := by rw [fa_le] at c2; exact c2
        have rg3 := fb_rng l4_1
        have rg4 := fb_rng (v 38)
        refine lv_iload_n hx hb dX11_fitsGrowth_92 rfl (lv_at hl 1 rfl) ?_
        rcases b01 (x := l3_1) (by omega) (by omega) with h5 | h5
        · skip
          refine tI (y := 1) h5 ?_
          exact ret 1 () _ _ _ _ _ _ rfl (Or.inl rfl) hP hD hS dX11_fitsGrowth_93 (Nat.le_refl _) (Nat.le_refl _)
        · skip
          refine tI (y := 0) h5 ?_
          exact ret 0 () _ _ _ _ _ _ rfl (Or.inr rfl) hP hD hS dX11_fitsGrowth_93 (Nat.le_refl _) (Nat.le_refl _)
      · skip
        have zc2 : ¬ ((v 38).toInt ≤ l4_1.toInt) := by rw [fa_le] at c2; exact c2
        have rg6 := fb_rng l4_1
        have rg7 := fb_rng (v 38)
        refine lv_iload_n hx hb dX11_fitsGrowth_14 rfl (lv_at hl 1 rfl) ?_
        refine lv_if_eq (tgt := 92) hx hb dX11_fitsGrowth_15 (by decide) (fun c8 => ?_) (fun c8 => ?_)
        · skip
          have zc8 : l3_1.toInt = 0 := by rw [fa_eq, show (0 : Int32).toInt = 0 from by decide] at c8; exact c8
          refine lv_iload_n hx hb dX11_fitsGrowth_92 rfl (lv_at hl 1 rfl) ?_
          rcases b01 (x := l3_1) (by omega) (by omega) with h9 | h9
          · skip
            refine tI (y := 1) h9 ?_
            exact ret 1 () _ _ _ _ _ _ rfl (Or.inl rfl) hP hD hS dX11_fitsGrowth_93 (Nat.le_refl _) (Nat.le_refl _)
          · skip
            refine tI (y := 0) h9 ?_
            exact ret 0 () _ _ _ _ _ _ rfl (Or.inr rfl) hP hD hS dX11_fitsGrowth_93 (Nat.le_refl _) (Nat.le_refl _)
        · skip
          have zc8 : ¬ (l3_1.toInt = 0) := by rw [fa_eq, show (0 : Int32).toInt = 0 from by decide] at c8; exact c8
          refine lv_aload_n hx hb dX11_fitsGrowth_18 rfl (lv_at hl 2 rfl) ?_
          refine va_get (D := (dC, dI)) (ci := 11) (v := .ref (r 70)) (C := RX11) (T := TX11) (N := 79) hx hb hts inB_11 hown hE.1 hP 0 rfl rfl 70 (by decide) (hts _ k_1390) (fun _ h9 => h9) rfl dX11_fitsGrowth_19 ?_
          refine lv_iload hx hb dX11_fitsGrowth_22 (lv_at hl 0 rfl) ?_
          refine ldI hx hb hE hP 32 rfl (vp_in_iff.mpr ⟨by omega, by omega⟩) rfl rfl dX11_fitsGrowth_24 ?_
          refine lv_topi (fun t10 et10 => ?_)
          refine lv_iload_n hx hb dX11_fitsGrowth_25 rfl (lv_at hl 4 rfl) ?_
          refine lv_icmp_gt (tgt := 86) hx hb dX11_fitsGrowth_26 (by decide) (fun c11 => ?_) (fun c11 => ?_)
          · skip
            have zc11 : p2.toInt < t10.toInt := by rw [fa_lt] at c11; exact c11
            have rg12 := fb_rng t10
            have rg13 := fb_rng p2
            obtain ⟨t14, et14⟩ : ∃ y : Int32, y = l4_1 + 1 := ⟨_, rfl⟩
            have zt14 : t14.toInt = l4_1.toInt + 1 := by rw [et14]; exact add_i rfl (by decide) (by omega) (by omega)
            refine lv_iinc (v := t14) (lv' := [(4, .int t14), (3, .int l3_1), (0, .ref y0), (1, .int p1), (2, .int p2)]) hx hb dX11_fitsGrowth_86 hl (k := 0) rfl (by rw [et14]; rfl) (by decide) rfl (fun ls hl => ?_)
            refine lv_goto (tgt := 5) hx hb dX11_fitsGrowth_89 (by decide) ?_
            have rg15 := fb_rng l3_1
            have rg16 := fb_rng t14
            exact ih1 l3_1 t14 ⟨show (0 : Int) ≤ l3_1.toInt by omega, show l3_1.toInt ≤ (1 : Int) by omega⟩ ⟨show (0 : Int) ≤ t14.toInt by omega, show t14.toInt ≤ (2147483647 : Int) by omega⟩ (by show (2147483647 - t14.toInt).toNat < n1; omega) _ _ _ hP hD hS (lv_sub hl [0, 1, 2, 3, 4] rfl)
          · skip
            have zc11 : ¬ (p2.toInt < t10.toInt) := by rw [fa_lt] at c11; exact c11
            have rg17 := fb_rng t10
            have rg18 := fb_rng p2
            refine lv_aload_n hx hb dX11_fitsGrowth_29 rfl (lv_at hl 2 rfl) ?_
            refine va_get (D := (dC, dI)) (ci := 11) (v := .ref (r 71)) (C := RX11) (T := TX11) (N := 79) hx hb hts inB_11 hown hE.1 hP 0 rfl rfl 71 (by decide) (hts _ k_1391) (fun _ h9 => h9) rfl dX11_fitsGrowth_30 ?_
            refine lv_iload hx hb dX11_fitsGrowth_33 (lv_at hl 0 rfl) ?_
            refine ldI hx hb hE hP 33 rfl (vp_in_iff.mpr ⟨by omega, by omega⟩) rfl rfl dX11_fitsGrowth_35 ?_
            refine lv_topi (fun t19 et19 => ?_)
            refine lv_if_lt (tgt := 53) hx hb dX11_fitsGrowth_36 (by decide) (fun c20 => ?_) (fun c20 => ?_)
            · skip
              have zc20 : t19.toInt < 0 := by rw [fa_lt, show (0 : Int32).toInt = 0 from by decide] at c20; exact c20
              refine lv_aload_n hx hb dX11_fitsGrowth_53 rfl (lv_at hl 2 rfl) ?_
              refine va_get (D := (dC, dI)) (ci := 11) (v := .ref (r 75)) (C := RX11) (T := TX11) (N := 79) hx hb hts inB_11 hown hE.1 hP 0 rfl rfl 75 (by decide) (hts _ k_1395) (fun _ h9 => h9) rfl dX11_fitsGrowth_54 ?_
              refine lv_bipush (v := 21) hx hb dX11_fitsGrowth_57 (by decide) ?_
              refine lv_iload_n hx hb dX11_fitsGrowth_59 rfl (lv_at hl 3 rfl) ?_
              refine lv_imul hx hb dX11_fitsGrowth_60 ?_
              refine lv_topi (fun t21 et21 => ?_)
              have rg22 := fb_rng p1
              have zt21 : t21.toInt = 21 * p1.toInt := by rw [et21]; exact mul_i (by decide) rfl (by omega) (by omega)
              refine lv_aload_n hx hb dX11_fitsGrowth_61 rfl (lv_at hl 2 rfl) ?_
              refine va_get (D := (dC, dI)) (ci := 11) (v := .ref (r 69)) (C := RX11) (T := TX11) (N := 79) hx hb hts inB_11 hown hE.1 hP 0 rfl rfl 69 (by decide) (hts _ k_1389) (fun _ h9 => h9) rfl dX11_fitsGrowth_62 ?_
              refine lv_iload hx hb dX11_fitsGrowth_65 (lv_at hl 0 rfl) ?_
              refine ldI hx hb hE hP 31 rfl (vp_in_iff.mpr ⟨by omega, by omega⟩) rfl rfl dX11_fitsGrowth_67 ?_
              refine lv_topi (fun t23 et23 => ?_)
              have zt23 : 0 ≤ t23.toInt ∧ t23.toInt ≤ 20 := by rw [et23]; exact hCf.2.2.2.2.1 l4_1.toInt.toNat (show l4_1.toInt.toNat < 30 by omega)
              refine lv_iadd hx hb dX11_fitsGrowth_68 ?_
              refine lv_topi (fun t24 et24 => ?_)
              have rg25 := fb_rng t21
              have rg26 := fb_rng t23
              have zt24 : t24.toInt = t21.toInt + t23.toInt := by rw [et24]; exact add_i rfl rfl (by omega) (by omega)
              refine ldZ hx hb hE hP 35 rfl (vp_in_iff.mpr ⟨by omega, by omega⟩) rfl rfl dX11_fitsGrowth_69 ?_
              refine lv_topi (fun t27 et27 => ?_)
              refine lv_aload_n hx hb dX11_fitsGrowth_70 rfl (lv_at hl 2 rfl) ?_
              refine va_get (D := (dC, dI)) (ci := 11) (v := .ref (r 72)) (C := RX11) (T := TX11) (N := 79) hx hb hts inB_11 hown hE.1 hP 0 rfl rfl 72 (by decide) (hts _ k_1392) (fun _ h9 => h9) rfl dX11_fitsGrowth_71 ?_
              refine lv_iload hx hb dX11_fitsGrowth_74 (lv_at hl 0 rfl) ?_
              refine ldZ hx hb hE hP 34 rfl (vp_in_iff.mpr ⟨by omega, by omega⟩) rfl rfl dX11_fitsGrowth_76 ?_
              refine lv_topi (fun t28 et28 => ?_)
              refine lv_icmp_ne (tgt := 84) hx hb dX11_fitsGrowth_77 (by decide) (fun c29 => ?_) (fun c29 => ?_)
              · skip
                have zc29 : ¬ (t27.toInt = t28.toInt) := by rw [fa_eq] at c29; exact c29
                have rg30 := fb_rng t27
                have rg31 := fb_rng t28
                refine lv_iconst (v := 0) hx hb dX11_fitsGrowth_84 (by decide) ?_
                refine lv_istore_n (lv' := [(3, .int 0), (4, .int l4_1), (0, .ref y0), (1, .int p1), (2, .int p2)]) hx hb dX11_fitsGrowth_85 rfl hl (by decide) rfl (fun ls hl => ?_)
                obtain ⟨t32, et32⟩ : ∃ y : Int32, y = l4_1 + 1 := ⟨_, rfl⟩
                have zt32 : t32.toInt = l4_1.toInt + 1 := by rw [et32]; exact add_i rfl (by decide) (by omega) (by omega)
                refine lv_iinc (v := t32) (lv' := [(4, .int t32), (3, .int 0), (0, .ref y0), (1, .int p1), (2, .int p2)]) hx hb dX11_fitsGrowth_86 hl (k := 1) rfl (by rw [et32]; rfl) (by decide) rfl (fun ls hl => ?_)
                refine lv_goto (tgt := 5) hx hb dX11_fitsGrowth_89 (by decide) ?_
                have rg33 := fb_rng t32
                exact ih1 0 t32 ⟨by decide, by decide⟩ ⟨show (0 : Int) ≤ t32.toInt by omega, show t32.toInt ≤ (2147483647 : Int) by omega⟩ (by show (2147483647 - t32.toInt).toNat < n1; omega) _ _ _ hP hD hS (lv_sub hl [0, 1, 2, 3, 4] rfl)
              · skip
                have zc29 : t27.toInt = t28.toInt := by rw [fa_eq] at c29; exact c29
                have rg34 := fb_rng t27
                have rg35 := fb_rng t28
                refine lv_iconst (v := 1) hx hb dX11_fitsGrowth_80 (by decide) ?_
                refine lv_goto (tgt := 85) hx hb dX11_fitsGrowth_81 (by decide) ?_
                refine lv_istore_n (lv' := [(3, .int 1), (4, .int l4_1), (0, .ref y0), (1, .int p1), (2, .int p2)]) hx hb dX11_fitsGrowth_85 rfl hl (by decide) rfl (fun ls hl => ?_)
                obtain ⟨t36, et36⟩ : ∃ y : Int32, y = l4_1 + 1 := ⟨_, rfl⟩
                have zt36 : t36.toInt = l4_1.toInt + 1 := by rw [et36]; exact add_i rfl (by decide) (by omega) (by omega)
                refine lv_iinc (v := t36) (lv' := [(4, .int t36), (3, .int 1), (0, .ref y0), (1, .int p1), (2, .int p2)]) hx hb dX11_fitsGrowth_86 hl (k := 1) rfl (by rw [et36]; rfl) (by decide) rfl (fun ls hl => ?_)
                refine lv_goto (tgt := 5) hx hb dX11_fitsGrowth_89 (by decide) ?_
                have rg37 := fb_rng t36
                exact ih1 1 t36 ⟨by decide, by decide⟩ ⟨show (0 : Int) ≤ t36.toInt by omega, show t36.toInt ≤ (2147483647 : Int) by omega⟩ (by show (2147483647 - t36.toInt).toNat < n1; omega) _ _ _ hP hD hS (lv_sub hl [0, 1, 2, 3, 4] rfl)
            · skip
              have zc20 : ¬ (t19.toInt < 0) := by rw [fa_lt, show (0 : Int32).toInt = 0 from by decide] at c20; exact c20
              refine lv_aload_n hx hb dX11_fitsGrowth_39 rfl (lv_at hl 2 rfl) ?_
              refine va_get (D := (dC, dI)) (ci := 11) (v := .ref (r 71)) (C := RX11) (T := TX11) (N := 79) hx hb hts inB_11 hown hE.1 hP 0 rfl rfl 71 (by decide) (hts _ k_1391) (fun _ h9 => h9) rfl dX11_fitsGrowth_40 ?_
              refine lv_iload hx hb dX11_fitsGrowth_43 (lv_at hl 0 rfl) ?_
              refine ldI hx hb hE hP 33 rfl (vp_in_iff.mpr ⟨by omega, by omega⟩) rfl rfl dX11_fitsGrowth_45 ?_
              refine tI (y := t19) et19.symm ?_
              refine lv_iload_n hx hb dX11_fitsGrowth_46 rfl (lv_at hl 4 rfl) ?_
              refine lv_icmp_gt (tgt := 53) hx hb dX11_fitsGrowth_47 (by decide) (fun c38 => ?_) (fun c38 => ?_)
              · skip
                have zc38 : p2.toInt < t19.toInt := by rw [fa_lt] at c38; exact c38
                have rg39 := fb_rng t19
                refine lv_aload_n hx hb dX11_fitsGrowth_53 rfl (lv_at hl 2 rfl) ?_
                refine va_get (D := (dC, dI)) (ci := 11) (v := .ref (r 75)) (C := RX11) (T := TX11) (N := 79) hx hb hts inB_11 hown hE.1 hP 0 rfl rfl 75 (by decide) (hts _ k_1395) (fun _ h9 => h9) rfl dX11_fitsGrowth_54 ?_
                refine lv_bipush (v := 21) hx hb dX11_fitsGrowth_57 (by decide) ?_
                refine lv_iload_n hx hb dX11_fitsGrowth_59 rfl (lv_at hl 3 rfl) ?_
                refine lv_imul hx hb dX11_fitsGrowth_60 ?_
                refine lv_topi (fun t40 et40 => ?_)
                have rg41 := fb_rng p1
                have zt40 : t40.toInt = 21 * p1.toInt := by rw [et40]; exact mul_i (by decide) rfl (by omega) (by omega)
                refine lv_aload_n hx hb dX11_fitsGrowth_61 rfl (lv_at hl 2 rfl) ?_
                refine va_get (D := (dC, dI)) (ci := 11) (v := .ref (r 69)) (C := RX11) (T := TX11) (N := 79) hx hb hts inB_11 hown hE.1 hP 0 rfl rfl 69 (by decide) (hts _ k_1389) (fun _ h9 => h9) rfl dX11_fitsGrowth_62 ?_
                refine lv_iload hx hb dX11_fitsGrowth_65 (lv_at hl 0 rfl) ?_
                refine ldI hx hb hE hP 31 rfl (vp_in_iff.mpr ⟨by omega, by omega⟩) rfl rfl dX11_fitsGrowth_67 ?_
                refine lv_topi (fun t42 et42 => ?_)
                have zt42 : 0 ≤ t42.toInt ∧ t42.toInt ≤ 20 := by rw [et42]; exact hCf.2.2.2.2.1 l4_1.toInt.toNat (show l4_1.toInt.toNat < 30 by omega)
                refine lv_iadd hx hb dX11_fitsGrowth_68 ?_
                refine lv_topi (fun t43 et43 => ?_)
                have rg44 := fb_rng t40
                have rg45 := fb_rng t42
                have zt43 : t43.toInt = t40.toInt + t42.toInt := by rw [et43]; exact add_i rfl rfl (by omega) (by omega)
                refine ldZ hx hb hE hP 35 rfl (vp_in_iff.mpr ⟨by omega, by omega⟩) rfl rfl dX11_fitsGrowth_69 ?_
                refine lv_topi (fun t46 et46 => ?_)
                refine lv_aload_n hx hb dX11_fitsGrowth_70 rfl (lv_at hl 2 rfl) ?_
                refine va_get (D := (dC, dI)) (ci := 11) (v := .ref (r 72)) (C := RX11) (T := TX11) (N := 79) hx hb hts inB_11 hown hE.1 hP 0 rfl rfl 72 (by decide) (hts _ k_1392) (fun _ h9 => h9) rfl dX11_fitsGrowth_71 ?_
                refine lv_iload hx hb dX11_fitsGrowth_74 (lv_at hl 0 rfl) ?_
                refine ldZ hx hb hE hP 34 rfl (vp_in_iff.mpr ⟨by omega, by omega⟩) rfl rfl dX11_fitsGrowth_76 ?_
                refine lv_topi (fun t47 et47 => ?_)
                refine lv_icmp_ne (tgt := 84) hx hb dX11_fitsGrowth_77 (by decide) (fun c48 => ?_) (fun c48 => ?_)
                · skip
                  have zc48 : ¬ (t46.toInt = t47.toInt) := by rw [fa_eq] at c48; exact c48
                  have rg49 := fb_rng t46
                  have rg50 := fb_rng t47
                  refine lv_iconst (v := 0) hx hb dX11_fitsGrowth_84 (by decide) ?_
                  refine lv_istore_n (lv' := [(3, .int 0), (4, .int l4_1), (0, .ref y0), (1, .int p1), (2, .int p2)]) hx hb dX11_fitsGrowth_85 rfl hl (by decide) rfl (fun ls hl => ?_)
                  obtain ⟨t51, et51⟩ : ∃ y : Int32, y = l4_1 + 1 := ⟨_, rfl⟩
                  have zt51 : t51.toInt = l4_1.toInt + 1 := by rw [et51]; exact add_i rfl (by decide) (by omega) (by omega)
                  refine lv_iinc (v := t51) (lv' := [(4, .int t51), (3, .int 0), (0, .ref y0), (1, .int p1), (2, .int p2)]) hx hb dX11_fitsGrowth_86 hl (k := 1) rfl (by rw [et51]; rfl) (by decide) rfl (fun ls hl => ?_)
                  refine lv_goto (tgt := 5) hx hb dX11_fitsGrowth_89 (by decide) ?_
                  have rg52 := fb_rng t51
                  exact ih1 0 t51 ⟨by decide, by decide⟩ ⟨show (0 : Int) ≤ t51.toInt by omega, show t51.toInt ≤ (2147483647 : Int) by omega⟩ (by show (2147483647 - t51.toInt).toNat < n1; omega) _ _ _ hP hD hS (lv_sub hl [0, 1, 2, 3, 4] rfl)
                · skip
                  have zc48 : t46.toInt = t47.toInt := by rw [fa_eq] at c48; exact c48
                  have rg53 := fb_rng t46
                  have rg54 := fb_rng t47
                  refine lv_iconst (v := 1) hx hb dX11_fitsGrowth_80 (by decide) ?_
                  refine lv_goto (tgt := 85) hx hb dX11_fitsGrowth_81 (by decide) ?_
                  refine lv_istore_n (lv' := [(3, .int 1), (4, .int l4_1), (0, .ref y0), (1, .int p1), (2, .int p2)]) hx hb dX11_fitsGrowth_85 rfl hl (by decide) rfl (fun ls hl => ?_)
                  obtain ⟨t55, et55⟩ : ∃ y : Int32, y = l4_1 + 1 := ⟨_, rfl⟩
                  have zt55 : t55.toInt = l4_1.toInt + 1 := by rw [et55]; exact add_i rfl (by decide) (by omega) (by omega)
                  refine lv_iinc (v := t55) (lv' := [(4, .int t55), (3, .int 1), (0, .ref y0), (1, .int p1), (2, .int p2)]) hx hb dX11_fitsGrowth_86 hl (k := 1) rfl (by rw [et55]; rfl) (by decide) rfl (fun ls hl => ?_)
                  refine lv_goto (tgt := 5) hx hb dX11_fitsGrowth_89 (by decide) ?_
                  have rg56 := fb_rng t55
                  exact ih1 1 t55 ⟨by decide, by decide⟩ ⟨show (0 : Int) ≤ t55.toInt by omega, show t55.toInt ≤ (2147483647 : Int) by omega⟩ (by show (2147483647 - t55.toInt).toNat < n1; omega) _ _ _ hP hD hS (lv_sub hl [0, 1, 2, 3, 4] rfl)
              · skip
                have zc38 : ¬ (p2.toInt < t19.toInt) := by rw [fa_lt] at c38; exact c38
                have rg57 := fb_rng t19
                refine lv_goto (tgt := 86) hx hb dX11_fitsGrowth_50 (by decide) ?_
                obtain ⟨t58, et58⟩ : ∃ y : Int32, y = l4_1 + 1 := ⟨_, rfl⟩
                have zt58 : t58.toInt = l4_1.toInt + 1 := by rw [et58]; exact add_i rfl (by decide) (by omega) (by omega)
                refine lv_iinc (v := t58) (lv' := [(4, .int t58), (3, .int l3_1), (0, .ref y0), (1, .int p1), (2, .int p2)]) hx hb dX11_fitsGrowth_86 hl (k := 0) rfl (by rw [et58]; rfl) (by decide) rfl (fun ls hl => ?_)
                refine lv_goto (tgt := 5) hx hb dX11_fitsGrowth_89 (by decide) ?_
                have rg59 := fb_rng l3_1
                have rg60 := fb_rng t58
                exact ih1 l3_1 t58 ⟨show (0 : Int) ≤ l3_1.toInt by omega, show l3_1.toInt ≤ (1 : Int) by omega⟩ ⟨show (0 : Int) ≤ t58.toInt by omega, show t58.toInt ≤ (2147483647 : Int) by omega⟩ (by show (2147483647 - t58.toInt).toNat < n1; omega) _ _ _ hP hD hS (lv_sub hl [0, 1, 2, 3, 4] rfl)
  exact lp1 _ 1 0 ⟨by decide, by decide⟩ ⟨by decide, by decide⟩ (Nat.lt_succ_self _) _ _ _ hP hD hS (lv_sub hl [0, 1, 2, 3, 4] rfl)
set_option maxHeartbeats 4000000 in
set_option maxRecDepth 100000 in
theorem sY_X11_layGrowths_1 (l : Launch) (dC : Nat → ClassId) (dI : Nat → Nat → Nat) (cy : Nat → ClassId) (y0 : Nat) (r : Nat → Nat) (p1 : Int32) (v : Nat → Int32) (f : Nat → Nat → Int32) (w : Int64) (g : Nat → Int64) (hIv : YI v) (hCf : YC f) (hRf : progOK (f 4) (f 5) (v 9).toInt.toNat)  : ctI l (dC, dI) cy yX11_layGrowths cX11_layGrowths 5 .int 5 148 0 0 ((Nat → Int32) × (Nat → Nat → Int32) × (Int64) × (Nat → Int64)) [.ref y0, .int p1] (YW cy y0 r v f w g) (fun r u => KV [] u.1 v ∧ KF [7, 8, 24, 34, 35] u.2.1 f ∧ YI u.1 ∧ YC u.2.1 ∧ progOK (u.2.1 4) (u.2.1 5) (u.1 9).toInt.toNat ∧ u.1 0 = v 0 ∧ u.1 1 = v 1 ∧ u.1 2 = v 2 ∧ u.1 3 = v 3 ∧ u.1 4 = v 4 ∧ u.1 5 = v 5 ∧ u.1 8 = v 8 ∧ u.1 9 = v 9 ∧ u.1 10 = v 10 ∧ u.1 13 = v 13 ∧ u.1 14 = v 14 ∧ u.1 15 = v 15 ∧ u.1 17 = v 17 ∧ u.1 18 = v 18 ∧ u.1 24 = v 24 ∧ u.1 25 = v 25 ∧ u.1 35 = v 35 ∧ u.1 36 = v 36 ∧ u.1 38 = v 38 ∧ u.1 39 = v 39) (fun u => YW cy y0 r u.1 u.2.1 u.2.2.1 u.2.2.2) := by
  refine ctI_of (by decide) (Nat.le_of_ble_eq_true rfl) (fun p e s m below meth c A ls Q hx hb hml hts hown hE hP hD hA hl ret => ?_)
  have hUv : (v 35).toInt + (v 36).toInt ≤ 40 := hIv.2
  have hM_v : KV [] v v := fun _ _ => rfl
  have hA_f : KF [7, 8, 24, 34, 35] f f := fun _ _ => rfl
  have hown : s.vm.findClass RX11 = some m.cls := hown
  have hS : va_S A s.heap s.heap [] := va_S.rf
  have hl : lv_has ls 5 [(0, .ref y0), (1, .int p1)] := hl
  refine lv_iconst (v := 0) hx hb dX11_layGrowths_0 (by decide) ?_
  refine lv_istore_n (lv' := [(2, .int 0), (0, .ref y0), (1, .int p1)]) hx hb dX11_layGrowths_1 rfl hl (by decide) rfl (fun ls hl => ?_)
  refine lv_iconst (v := 0) hx hb dX11_layGrowths_2 (by decide) ?_
  refine lv_istore_n (lv' := [(3, .int 0), (2, .int 0), (0, .ref y0), (1, .int p1)]) hx hb dX11_layGrowths_3 rfl hl (by decide) rfl (fun ls hl => ?_)
  have lp1 : ∀ (n1 : Nat) (l2_1 : Int32) (l3_1 : Int32) (v1 : Nat → Int32) (f1 : Nat → Nat → Int32) (w1 : Int64) (g1 : Nat → Int64), YI v1 → YC f1 → progOK (f1 4) (f1 5) (v1 9).toInt.toNat → v1 0 = (v 0) → v1 1 = (v 1) → v1 2 = (v 2) → v1 3 = (v 3) → v1 4 = (v 4) → v1 5 = (v 5) → v1 8 = (v 8) → v1 9 = (v 9) → v1 10 = (v 10) → v1 13 = (v 13) → v1 14 = (v 14) → v1 15 = (v 15) → v1 17 = (v 17) → v1 18 = (v 18) → v1 24 = (v 24) → v1 25 = (v 25) → v1 35 = (v 35) → v1 36 = (v 36) → v1 38 = (v 38) → v1 39 = (v 39) → ((0 : Int) ≤ l3_1.toInt ∧ l3_1.toInt ≤ 2147483647) → KV [] v1 v → KF [7, 8, 24, 34, 35] f1 f → (2147483647 - l3_1.toInt).toNat < n1 → ∀ (H : Heap) (locs : List Loc) (ls : Array Slot), va_P (dC, dI) vwCl (YW cy y0 r v1 f1 w1 g1) H → va_D A (YW cy y0 r v1 f1 w1 g1) → va_S A s.heap H locs → lv_has ls 5 [(3, .int l3_1), (2, .int l2_1), (0, .ref y0), (1, .int p1)] → W p l e { frames := 5, cells := 0, slots := 0, locals := 148 } s m ([.ref y0, .int p1] : List Value).toArray below meth c H locs 0 0 Q (F0 m 4 ls []) := by
    intro n1
    induction n1 with
    | zero => intro l2_1 l3_1 v1 f1 w1 g1 hIv1 hCf1 hRf1 hq0_v1 hq1_v1 hq2_v1 hq3_v1 hq4_v1 hq5_v1 hq8_v1 hq9_v1 hq10_v1 hq13_v1 hq14_v1 hq15_v1 hq17_v1 hq18_v1 hq24_v1 hq25_v1 hq35_v1 hq36_v1 hq38_v1 hq39_v1 hr3_1 hM_v1 hA_f1 hm; exact absurd hm (Nat.not_lt_zero _)
    | succ n1 ih1 =>
      intro l2_1 l3_1 v1 f1 w1 g1 hIv1 hCf1 hRf1 hq0_v1 hq1_v1 hq2_v1 hq3_v1 hq4_v1 hq5_v1 hq8_v1 hq9_v1 hq10_v1 hq13_v1 hq14_v1 hq15_v1 hq17_v1 hq18_v1 hq24_v1 hq25_v1 hq35_v1 hq36_v1 hq38_v1 hq39_v1 hr3_1 hM_v1 hA_f1 hm1 H locs ls hP hD hS hl
      have hUv1 : (v1 35).toInt + (v1 36).toInt ≤ 40 := hIv1.2
      have zq9_v1 := congrArg Int32.toInt hq9_v1
      refine lv_iload_n hx hb dX11_layGrowths_4 rfl (lv_at hl 0 rfl) ?_
      refine lv_bipush (v := 30) hx hb dX11_layGrowths_5 (by decide) ?_
      refine lv_icmp_gt (tgt := 143) hx hb dX11_layGrowths_7 (by decide) (fun c2 => ?_) (fun c2 => ?_)
      · skip
        have zc2 : 30 < l3_1.toInt := by rw [fa_lt, show (30 : Int32).toInt = 30 from by decide] at c2; exact c2
        refine lv_iload_n hx hb dX11_layGrowths_143 rfl (lv_at hl 1 rfl) ?_
        exact ret l2_1 (v1, f1, w1, g1) _ _ _ _ _ _ rfl ⟨hM_v1, hA_f1, hIv1, hCf1, hRf1, (show v1 0 = v 0 from hq0_v1), (show v1 1 = v 1 from hq1_v1), (show v1 2 = v 2 from hq2_v1), (show v1 3 = v 3 from hq3_v1), (show v1 4 = v 4 from hq4_v1), (show v1 5 = v 5 from hq5_v1), (show v1 8 = v 8 from hq8_v1), (show v1 9 = v 9 from hq9_v1), (show v1 10 = v 10 from hq10_v1), (show v1 13 = v 13 from hq13_v1), (show v1 14 = v 14 from hq14_v1), (show v1 15 = v 15 from hq15_v1), (show v1 17 = v 17 from hq17_v1), (show v1 18 = v 18 from hq18_v1), (show v1 24 = v 24 from hq24_v1), (show v1 25 = v 25 from hq25_v1), (show v1 35 = v 35 from hq35_v1), (show v1 36 = v 36 from hq36_v1), (show v1 38 = v 38 from hq38_v1), (show v1 39 = v 39 from hq39_v1)⟩ hP hD hS dX11_layGrowths_144 (Nat.le_refl _) (Nat.le_refl _)
      · skip
        have zc2 : ¬ (30 < l3_1.toInt) := by rw [fa_lt, show (30 : Int32).toInt = 30 from by decide] at c2; exact c2
        refine lv_aload_n hx hb dX11_layGrowths_10 rfl (lv_at hl 2 rfl) ?_
        refine va_get (D := (dC, dI)) (ci := 11) (v := .int (v1 24)) (C := RX11) (T := TX11) (N := 79) hx hb hts inB_11 hown hE.1 hP 0 rfl rfl 48 (by decide) (hts _ k_1368) (fun _ h9 => h9) rfl dX11_layGrowths_11 ?_
        refine tI (y := (v 24)) hq24_v1 ?_
        have b24_v : 0 ≤ (v 24).toInt ∧ (v 24).toInt ≤ 6 := YIb.b hIv.1 24 (by decide)
        refine lv_if_le (tgt := 143) hx hb dX11_layGrowths_14 (by decide) (fun c3 => ?_) (fun c3 => ?_)
        · skip
          have zc3 : (v 24).toInt ≤ 0 := by rw [fa_le, show (0 : Int32).toInt = 0 from by decide] at c3; exact c3
          refine lv_iload_n hx hb dX11_layGrowths_143 rfl (lv_at hl 1 rfl) ?_
          exact ret l2_1 (v1, f1, w1, g1) _ _ _ _ _ _ rfl ⟨hM_v1, hA_f1, hIv1, hCf1, hRf1, (show v1 0 = v 0 from hq0_v1), (show v1 1 = v 1 from hq1_v1), (show v1 2 = v 2 from hq2_v1), (show v1 3 = v 3 from hq3_v1), (show v1 4 = v 4 from hq4_v1), (show v1 5 = v 5 from hq5_v1), (show v1 8 = v 8 from hq8_v1), (show v1 9 = v 9 from hq9_v1), (show v1 10 = v 10 from hq10_v1), (show v1 13 = v 13 from hq13_v1), (show v1 14 = v 14 from hq14_v1), (show v1 15 = v 15 from hq15_v1), (show v1 17 = v 17 from hq17_v1), (show v1 18 = v 18 from hq18_v1), (show v1 24 = v 24 from hq24_v1), (show v1 25 = v 25 from hq25_v1), (show v1 35 = v 35 from hq35_v1), (show v1 36 = v 36 from hq36_v1), (show v1 38 = v 38 from hq38_v1), (show v1 39 = v 39 from hq39_v1)⟩ hP hD hS dX11_layGrowths_144 (Nat.le_refl _) (Nat.le_refl _)
        · skip
          have zc3 : ¬ ((v 24).toInt ≤ 0) := by rw [fa_le, show (0 : Int32).toInt = 0 from by decide] at c3; exact c3
          refine lv_aload_n hx hb dX11_layGrowths_17 rfl (lv_at hl 2 rfl) ?_
          refine va_get (D := (dC, dI)) (ci := 11) (v := .int (v1 25)) (C := RX11) (T := TX11) (N := 79) hx hb hts inB_11 hown hE.1 hP 0 rfl rfl 49 (by decide) (hts _ k_1369) (fun _ h9 => h9) rfl dX11_layGrowths_18 ?_
          refine tI (y := (v 25)) hq25_v1 ?_
          have b25_v : 0 ≤ (v 25).toInt ∧ (v 25).toInt ≤ 6 := YIb.b hIv.1 25 (by decide)
          refine lv_if_le (tgt := 143) hx hb dX11_layGrowths_21 (by decide) (fun c4 => ?_) (fun c4 => ?_)
          · skip
            have zc4 : (v 25).toInt ≤ 0 := by rw [fa_le, show (0 : Int32).toInt = 0 from by decide] at c4; exact c4
            refine lv_iload_n hx hb dX11_layGrowths_143 rfl (lv_at hl 1 rfl) ?_
            exact ret l2_1 (v1, f1, w1, g1) _ _ _ _ _ _ rfl ⟨hM_v1, hA_f1, hIv1, hCf1, hRf1, (show v1 0 = v 0 from hq0_v1), (show v1 1 = v 1 from hq1_v1), (show v1 2 = v 2 from hq2_v1), (show v1 3 = v 3 from hq3_v1), (show v1 4 = v 4 from hq4_v1), (show v1 5 = v 5 from hq5_v1), (show v1 8 = v 8 from hq8_v1), (show v1 9 = v 9 from hq9_v1), (show v1 10 = v 10 from hq10_v1), (show v1 13 = v 13 from hq13_v1), (show v1 14 = v 14 from hq14_v1), (show v1 15 = v 15 from hq15_v1), (show v1 17 = v 17 from hq17_v1), (show v1 18 = v 18 from hq18_v1), (show v1 24 = v 24 from hq24_v1), (show v1 25 = v 25 from hq25_v1), (show v1 35 = v 35 from hq35_v1), (show v1 36 = v 36 from hq36_v1), (show v1 38 = v 38 from hq38_v1), (show v1 39 = v 39 from hq39_v1)⟩ hP hD hS dX11_layGrowths_144 (Nat.le_refl _) (Nat.le_refl _)
          · skip
            have zc4 : ¬ ((v 25).toInt ≤ 0) := by rw [fa_le, show (0 : Int32).toInt = 0 from by decide] at c4; exact c4
            refine lv_aload_n hx hb dX11_layGrowths_24 rfl (lv_at hl 2 rfl) ?_
            refine cbVv (n := 0) (rest := []) hx hb hml hown hts hE hP hD hS hA (sY_X11_begin_1 0 l dC dI cy y0 r  v1 f1 w1 g1 hIv1 hCf1 hRf1 ) k_1716 k_1718 k_68 k_114 k_1719 (by decide +kernel) ⟨Nat.le_of_ble_eq_true rfl, Nat.le_of_ble_eq_true rfl⟩ 0 11 rfl rfl (rfl) hl.1 rfl (Nat.le_of_ble_eq_true rfl) dX11_layGrowths_25 (fun u H locs hw hP hD hS => ?_)
            obtain ⟨hG5, hw⟩ := hw
            obtain ⟨v6, f7, w8, g9⟩ := u
            obtain ⟨kV_v6, kF_f7, hIv6, hCf7, hRf7, hk0_v6, hk1_v6, hk2_v6, hk3_v6, hk4_v6, hk5_v6, hk8_v6, hk9_v6, hk10_v6, hk13_v6, hk14_v6, hk15_v6, hk17_v6, hk18_v6, hk24_v6, hk25_v6, hk35_v6, hk36_v6, hk38_v6, hk39_v6⟩ := hw
            have hM_v6 : KV [] v6 v := KV.tr kV_v6 hM_v1 rfl
            have hA_f7 : KF [7, 8, 24, 34, 35] f7 f := KF.tr kF_f7 hA_f1 rfl
            have hP : va_P (dC, dI) vwCl (YW cy y0 r v6 f7 w8 g9) H := hP
            have hD : va_D A (YW cy y0 r v6 f7 w8 g9) := hD
            have hUv6 : (v6 35).toInt + (v6 36).toInt ≤ 40 := hIv6.2
            have hq0_v6 : v6 0 = (v 0) := hk0_v6.trans hq0_v1
            have hq1_v6 : v6 1 = (v 1) := hk1_v6.trans hq1_v1
            have hq2_v6 : v6 2 = (v 2) := hk2_v6.trans hq2_v1
            have hq3_v6 : v6 3 = (v 3) := hk3_v6.trans hq3_v1
            have hq4_v6 : v6 4 = (v 4) := hk4_v6.trans hq4_v1
            have hq5_v6 : v6 5 = (v 5) := hk5_v6.trans hq5_v1
            have hq8_v6 : v6 8 = (v 8) := hk8_v6.trans hq8_v1
            have hq9_v6 : v6 9 = (v 9) := hk9_v6.trans hq9_v1
            have zq9_v6 := congrArg Int32.toInt hq9_v6
            have hq10_v6 : v6 10 = (v 10) := hk10_v6.trans hq10_v1
            have hq13_v6 : v6 13 = (v 13) := hk13_v6.trans hq13_v1
            have hq14_v6 : v6 14 = (v 14) := hk14_v6.trans hq14_v1
            have hq15_v6 : v6 15 = (v 15) := hk15_v6.trans hq15_v1
            have hq17_v6 : v6 17 = (v 17) := hk17_v6.trans hq17_v1
            have hq18_v6 : v6 18 = (v 18) := hk18_v6.trans hq18_v1
            have hq24_v6 : v6 24 = (v 24) := hk24_v6.trans hq24_v1
            have hq25_v6 : v6 25 = (v 25) := hk25_v6.trans hq25_v1
            have hq35_v6 : v6 35 = (v 35) := hk35_v6.trans hq35_v1
            have hq36_v6 : v6 36 = (v 36) := hk36_v6.trans hq36_v1
            have hq38_v6 : v6 38 = (v 38) := hk38_v6.trans hq38_v1
            have hq39_v6 : v6 39 = (v 39) := hk39_v6.trans hq39_v1
            refine lv_iconst (v := 0) hx hb dX11_layGrowths_28 (by decide) ?_
            refine lv_istore (lv' := [(4, .int 0), (3, .int l3_1), (2, .int l2_1), (0, .ref y0), (1, .int p1)]) hx hb dX11_layGrowths_29 hl (by decide) rfl (fun ls hl => ?_)
            have lp10 : ∀ (n10 : Nat) (l4_10 : Int32) (v10 : Nat → Int32) (f10 : Nat → Nat → Int32) (w10 : Int64) (g10 : Nat → Int64), YI v10 → YC f10 → progOK (f10 4) (f10 5) (v10 9).toInt.toNat → v10 0 = (v 0) → v10 1 = (v 1) → v10 2 = (v 2) → v10 3 = (v 3) → v10 4 = (v 4) → v10 5 = (v 5) → v10 8 = (v 8) → v10 9 = (v 9) → v10 10 = (v 10) → v10 13 = (v 13) → v10 14 = (v 14) → v10 15 = (v 15) → v10 17 = (v 17) → v10 18 = (v 18) → v10 24 = (v 24) → v10 25 = (v 25) → v10 35 = (v 35) → v10 36 = (v 36) → v10 38 = (v 38) → v10 39 = (v 39) → ((0 : Int) ≤ l4_10.toInt ∧ l4_10.toInt ≤ 2147483647) → KV [] v10 v → KF [7, 8, 24, 34, 35] f10 f → (2147483647 - l4_10.toInt).toNat < n10 → ∀ (H : Heap) (locs : List Loc) (ls : Array Slot), va_P (dC, dI) vwCl (YW cy y0 r v10 f10 w10 g10) H → va_D A (YW cy y0 r v10 f10 w10 g10) → va_S A s.heap H locs → lv_has ls 5 [(4, .int l4_10), (3, .int l3_1), (2, .int l2_1), (0, .ref y0), (1, .int p1)] → W p l e { frames := 5, cells := 0, slots := 0, locals := 148 } s m ([.ref y0, .int p1] : List Value).toArray below meth c H locs 0 0 Q (F0 m 31 ls []) := by
              intro n10
              induction n10 with
              | zero => intro l4_10 v10 f10 w10 g10 hIv10 hCf10 hRf10 hq0_v10 hq1_v10 hq2_v10 hq3_v10 hq4_v10 hq5_v10 hq8_v10 hq9_v10 hq10_v10 hq13_v10 hq14_v10 hq15_v10 hq17_v10 hq18_v10 hq24_v10 hq25_v10 hq35_v10 hq36_v10 hq38_v10 hq39_v10 hr4_10 hM_v10 hA_f10 hm; exact absurd hm (Nat.not_lt_zero _)
              | succ n10 ih10 =>
                intro l4_10 v10 f10 w10 g10 hIv10 hCf10 hRf10 hq0_v10 hq1_v10 hq2_v10 hq3_v10 hq4_v10 hq5_v10 hq8_v10 hq9_v10 hq10_v10 hq13_v10 hq14_v10 hq15_v10 hq17_v10 hq18_v10 hq24_v10 hq25_v10 hq35_v10 hq36_v10 hq38_v10 hq39_v10 hr4_10 hM_v10 hA_f10 hm10 H locs ls hP hD hS hl
                have hUv10 : (v10 35).toInt + (v10 36).toInt ≤ 40 := hIv10.2
                have zq9_v10 := congrArg Int32.toInt hq9_v10
                refine lv_iload hx hb dX11_layGrowths_31 (lv_at hl 0 rfl) ?_
                refine lv_bipush (v := 20) hx hb dX11_layGrowths_33 (by decide) ?_
                refine lv_icmp_gt (tgt := 113) hx hb dX11_layGrowths_35 (by decide) (fun c11 => ?_) (fun c11 => ?_)
                · skip
                  have zc11 : 20 < l4_10.toInt := by rw [fa_lt, show (20 : Int32).toInt = 20 from by decide] at c11; exact c11
                  refine lv_aload_n hx hb dX11_layGrowths_113 rfl (lv_at hl 3 rfl) ?_
                  refine va_get (D := (dC, dI)) (ci := 11) (v := .ref (r 76)) (C := RX11) (T := TX11) (N := 79) hx hb hts inB_11 hown hE.1 hP 0 rfl rfl 76 (by decide) (hts _ k_1396) (fun _ h9 => h9) rfl dX11_layGrowths_114 ?_
                  refine lv_iload_n hx hb dX11_layGrowths_117 rfl (lv_at hl 1 rfl) ?_
                  refine lv_aload_n hx hb dX11_layGrowths_118 rfl (lv_at hl 3 rfl) ?_
                  refine lv_iload_n hx hb dX11_layGrowths_119 rfl (lv_at hl 1 rfl) ?_
                  refine lv_iload_n hx hb dX11_layGrowths_120 rfl (lv_at hl 4 rfl) ?_
                  refine cbVi (n := 2) (rest := [.int l3_1, .ref (r 76)]) hx hb hml hown hts hE hP hD hS hA (sY_X11_fitsGrowth_1 l dC dI cy y0 r l3_1 p1 v10 f10 w10 g10 hIv10 hCf10 hRf10 ⟨show (0 : Int) ≤ l3_1.toInt by omega, show l3_1.toInt ≤ (30 : Int) by omega⟩) k_2028 k_2030 k_98 k_114 k_2031 (by decide +kernel) ⟨Nat.le_of_ble_eq_true rfl, Nat.le_of_ble_eq_true rfl⟩ 0 11 rfl rfl (rfl) hl.1 rfl (Nat.le_of_ble_eq_true rfl) dX11_layGrowths_121 (fun r12 u H locs hw hP hD hS => ?_)
                  rcases hw with ⟨g13⟩ | ⟨g13⟩
                  · skip
                    subst g13
                    refine stZ hx hb hE hP hD hS 36 rfl (vp_in_iff.mpr ⟨by omega, by omega⟩) rfl dX11_layGrowths_124 (fun H locs hP hD hS => ?_)
                    obtain ⟨f14, ef14, hP, hD⟩ : ∃ fz9, fz9 = upd2 f10 35 (upd (f10 35) l3_1.toNatClampNeg (vp_nar .boolean 1)) ∧ va_P (dC, dI) vwCl (YW cy y0 r v10 fz9 w10 g10) H ∧ va_D A (YW cy y0 r v10 fz9 w10 g10) := ⟨_, rfl, hP, hD⟩
                    have hCf14 : YC f14 := by rw [ef14]; exact hCf10
                    have hRf14 : progOK (f14 4) (f14 5) (v10 9).toInt.toNat := by rw [ef14]; exact hRf10
                    have hA_f14 : KF [7, 8, 24, 34, 35] f14 f := by rw [ef14]; exact KF.up hA_f10 rfl
                    refine lv_iload_n hx hb dX11_layGrowths_125 rfl (lv_at hl 2 rfl) ?_
                    refine lv_aload_n hx hb dX11_layGrowths_126 rfl (lv_at hl 3 rfl) ?_
                    refine va_get (D := (dC, dI)) (ci := 11) (v := .ref (r 76)) (C := RX11) (T := TX11) (N := 79) hx hb hts inB_11 hown hE.1 hP 0 rfl rfl 76 (by decide) (hts _ k_1396) (fun _ h9 => h9) rfl dX11_layGrowths_127 ?_
                    refine lv_iload_n hx hb dX11_layGrowths_130 rfl (lv_at hl 1 rfl) ?_
                    refine ldZ hx hb hE hP 36 rfl (vp_in_iff.mpr ⟨by omega, by omega⟩) rfl rfl dX11_layGrowths_131 ?_
                    refine lv_topi (fun t15 et15 => ?_)
                    refine cbSi (n := 1) (rest := [.int l2_1]) hx hb hml hown hts hE hP hD hS hA (sY_X11_truth_1 0 l dC dI cy y0 r t15 v10 f14 w10 g10 hIv10 hCf14 hRf14 ) k_1761 k_1762 k_114 k_1763 (by decide +kernel) ⟨Nat.le_of_ble_eq_true rfl, Nat.le_of_ble_eq_true rfl⟩ (rfl) hl.1 rfl (Nat.le_of_ble_eq_true rfl) dX11_layGrowths_132 (fun r16 u H locs hw hP hD hS => ?_)
                    obtain ⟨hG17, hw⟩ := hw
                    refine lv_iadd hx hb dX11_layGrowths_135 ?_
                    refine lv_topi (fun t18 et18 => ?_)
                    refine lv_istore_n (lv' := [(2, .int t18), (4, .int l4_10), (3, .int l3_1), (0, .ref y0), (1, .int p1)]) hx hb dX11_layGrowths_136 rfl hl (by decide) rfl (fun ls hl => ?_)
                    obtain ⟨t19, et19⟩ : ∃ y : Int32, y = l3_1 + 1 := ⟨_, rfl⟩
                    have rg20 := fb_rng l3_1
                    have zt19 : t19.toInt = l3_1.toInt + 1 := by rw [et19]; exact add_i rfl (by decide) (by omega) (by omega)
                    refine lv_iinc (v := t19) (lv' := [(3, .int t19), (2, .int t18), (4, .int l4_10), (0, .ref y0), (1, .int p1)]) hx hb dX11_layGrowths_137 hl (k := 2) rfl (by rw [et19]; rfl) (by decide) rfl (fun ls hl => ?_)
                    refine lv_goto (tgt := 4) hx hb dX11_layGrowths_140 (by decide) ?_
                    have rg21 := fb_rng t19
                    exact ih1 t18 t19 v10 f14 w10 g10 hIv10 hCf14 hRf14 hq0_v10 hq1_v10 hq2_v10 hq3_v10 hq4_v10 hq5_v10 hq8_v10 hq9_v10 hq10_v10 hq13_v10 hq14_v10 hq15_v10 hq17_v10 hq18_v10 hq24_v10 hq25_v10 hq35_v10 hq36_v10 hq38_v10 hq39_v10 ⟨show (0 : Int) ≤ t19.toInt by omega, show t19.toInt ≤ (2147483647 : Int) by omega⟩ hM_v10 hA_f14 (by show (2147483647 - t19.toInt).toNat < n1; omega) _ _ _ hP hD hS (lv_sub hl [0, 1, 3, 4] rfl)
                  · skip
                    subst g13
                    refine stZ hx hb hE hP hD hS 36 rfl (vp_in_iff.mpr ⟨by omega, by omega⟩) rfl dX11_layGrowths_124 (fun H locs hP hD hS => ?_)
                    obtain ⟨f22, ef22, hP, hD⟩ : ∃ fz9, fz9 = upd2 f10 35 (upd (f10 35) l3_1.toNatClampNeg (vp_nar .boolean 0)) ∧ va_P (dC, dI) vwCl (YW cy y0 r v10 fz9 w10 g10) H ∧ va_D A (YW cy y0 r v10 fz9 w10 g10) := ⟨_, rfl, hP, hD⟩
                    have hCf22 : YC f22 := by rw [ef22]; exact hCf10
                    have hRf22 : progOK (f22 4) (f22 5) (v10 9).toInt.toNat := by rw [ef22]; exact hRf10
                    have hA_f22 : KF [7, 8, 24, 34, 35] f22 f := by rw [ef22]; exact KF.up hA_f10 rfl
                    refine lv_iload_n hx hb dX11_layGrowths_125 rfl (lv_at hl 2 rfl) ?_
                    refine lv_aload_n hx hb dX11_layGrowths_126 rfl (lv_at hl 3 rfl) ?_
                    refine va_get (D := (dC, dI)) (ci := 11) (v := .ref (r 76)) (C := RX11) (T := TX11) (N := 79) hx hb hts inB_11 hown hE.1 hP 0 rfl rfl 76 (by decide) (hts _ k_1396) (fun _ h9 => h9) rfl dX11_layGrowths_127 ?_
                    refine lv_iload_n hx hb dX11_layGrowths_130 rfl (lv_at hl 1 rfl) ?_
                    refine ldZ hx hb hE hP 36 rfl (vp_in_iff.mpr ⟨by omega, by omega⟩) rfl rfl dX11_layGrowths_131 ?_
                    refine lv_topi (fun t23 et23 => ?_)
                    refine cbSi (n := 1) (rest := [.int l2_1]) hx hb hml hown hts hE hP hD hS hA (sY_X11_truth_1 0 l dC dI cy y0 r t23 v10 f22 w10 g10 hIv10 hCf22 hRf22 ) k_1761 k_1762 k_114 k_1763 (by decide +kernel) ⟨Nat.le_of_ble_eq_true rfl, Nat.le_of_ble_eq_true rfl⟩ (rfl) hl.1 rfl (Nat.le_of_ble_eq_true rfl) dX11_layGrowths_132 (fun r24 u H locs hw hP hD hS => ?_)
                    obtain ⟨hG25, hw⟩ := hw
                    refine lv_iadd hx hb dX11_layGrowths_135 ?_
                    refine lv_topi (fun t26 et26 => ?_)
                    refine lv_istore_n (lv' := [(2, .int t26), (4, .int l4_10), (3, .int l3_1), (0, .ref y0), (1, .int p1)]) hx hb dX11_layGrowths_136 rfl hl (by decide) rfl (fun ls hl => ?_)
                    obtain ⟨t27, et27⟩ : ∃ y : Int32, y = l3_1 + 1 := ⟨_, rfl⟩
                    have rg28 := fb_rng l3_1
                    have zt27 : t27.toInt = l3_1.toInt + 1 := by rw [et27]; exact add_i rfl (by decide) (by omega) (by omega)
                    refine lv_iinc (v := t27) (lv' := [(3, .int t27), (2, .int t26), (4, .int l4_10), (0, .ref y0), (1, .int p1)]) hx hb dX11_layGrowths_137 hl (k := 2) rfl (by rw [et27]; rfl) (by decide) rfl (fun ls hl => ?_)
                    refine lv_goto (tgt := 4) hx hb dX11_layGrowths_140 (by decide) ?_
                    have rg29 := fb_rng t27
                    exact ih1 t26 t27 v10 f22 w10 g10 hIv10 hCf22 hRf22 hq0_v10 hq1_v10 hq2_v10 hq3_v10 hq4_v10 hq5_v10 hq8_v10 hq9_v10 hq10_v10 hq13_v10 hq14_v10 hq15_v10 hq17_v10 hq18_v10 hq24_v10 hq25_v10 hq35_v10 hq36_v10 hq38_v10 hq39_v10 ⟨show (0 : Int) ≤ t27.toInt by omega, show t27.toInt ≤ (2147483647 : Int) by omega⟩ hM_v10 hA_f22 (by show (2147483647 - t27.toInt).toNat < n1; omega) _ _ _ hP hD hS (lv_sub hl [0, 1, 3, 4] rfl)
                · skip
                  have zc11 : ¬ (20 < l4_10.toInt) := by rw [fa_lt, show (20 : Int32).toInt = 20 from by decide] at c11; exact c11
                  refine lv_aload_n hx hb dX11_layGrowths_38 rfl (lv_at hl 3 rfl) ?_
                  refine va_get (D := (dC, dI)) (ci := 11) (v := .ref (r 75)) (C := RX11) (T := TX11) (N := 79) hx hb hts inB_11 hown hE.1 hP 0 rfl rfl 75 (by decide) (hts _ k_1395) (fun _ h9 => h9) rfl dX11_layGrowths_39 ?_
                  refine lv_bipush (v := 21) hx hb dX11_layGrowths_42 (by decide) ?_
                  refine lv_iload_n hx hb dX11_layGrowths_44 rfl (lv_at hl 1 rfl) ?_
                  refine lv_imul hx hb dX11_layGrowths_45 ?_
                  refine lv_topi (fun t30 et30 => ?_)
                  have rg31 := fb_rng l3_1
                  have zt30 : t30.toInt = 21 * l3_1.toInt := by rw [et30]; exact mul_i (by decide) rfl (by omega) (by omega)
                  refine lv_iload hx hb dX11_layGrowths_46 (lv_at hl 0 rfl) ?_
                  refine lv_iadd hx hb dX11_layGrowths_48 ?_
                  refine lv_topi (fun t32 et32 => ?_)
                  have rg33 := fb_rng t30
                  have rg34 := fb_rng l4_10
                  have zt32 : t32.toInt = t30.toInt + l4_10.toInt := by rw [et32]; exact add_i rfl rfl (by omega) (by omega)
                  refine lv_aload_n hx hb dX11_layGrowths_49 rfl (lv_at hl 3 rfl) ?_
                  refine lv_iconst (v := 0) hx hb dX11_layGrowths_50 (by decide) ?_
                  refine lv_iconst (v := 0) hx hb dX11_layGrowths_51 (by decide) ?_
                  refine cbVi (n := 2) (rest := [.int t32, .ref (r 75)]) hx hb hml hown hts hE hP hD hS hA (sY_X11_fits_1 0 l dC dI cy y0 r 0 0 v10 f10 w10 g10 hIv10 hCf10 hRf10 ⟨by decide, by decide⟩ ⟨by decide, by decide⟩) k_1747 k_1749 k_73 k_114 k_1750 (by decide +kernel) ⟨Nat.le_of_ble_eq_true rfl, Nat.le_of_ble_eq_true rfl⟩ 0 11 rfl rfl (rfl) hl.1 rfl (Nat.le_of_ble_eq_true rfl) dX11_layGrowths_52 (fun r35 u H locs hw hP hD hS => ?_)
                  obtain ⟨hG36, hw⟩ := hw
                  obtain ⟨v37, f38, w39, g40⟩ := u
                  obtain ⟨kV_v37, kF_f38, hIv37, hCf38, hRf38, hk0_v37, hk1_v37, hk2_v37, hk3_v37, hk4_v37, hk5_v37, hk8_v37, hk9_v37, hk10_v37, hk13_v37, hk14_v37, hk15_v37, hk17_v37, hk18_v37, hk24_v37, hk25_v37, hk35_v37, hk36_v37, hk38_v37, hk39_v37, hw⟩ := hw
                  have hM_v37 : KV [] v37 v := KV.tr kV_v37 hM_v10 rfl
                  have hA_f38 : KF [7, 8, 24, 34, 35] f38 f := KF.tr kF_f38 hA_f10 rfl
                  have hP : va_P (dC, dI) vwCl (YW cy y0 r v37 f38 w39 g40) H := hP
                  have hD : va_D A (YW cy y0 r v37 f38 w39 g40) := hD
                  have hUv37 : (v37 35).toInt + (v37 36).toInt ≤ 40 := hIv37.2
                  have hq0_v37 : v37 0 = (v 0) := hk0_v37.trans hq0_v10
                  have hq1_v37 : v37 1 = (v 1) := hk1_v37.trans hq1_v10
                  have hq2_v37 : v37 2 = (v 2) := hk2_v37.trans hq2_v10
                  have hq3_v37 : v37 3 = (v 3) := hk3_v37.trans hq3_v10
                  have hq4_v37 : v37 4 = (v 4) := hk4_v37.trans hq4_v10
                  have hq5_v37 : v37 5 = (v 5) := hk5_v37.trans hq5_v10
                  have hq8_v37 : v37 8 = (v 8) := hk8_v37.trans hq8_v10
                  have hq9_v37 : v37 9 = (v 9) := hk9_v37.trans hq9_v10
                  have zq9_v37 := congrArg Int32.toInt hq9_v37
                  have hq10_v37 : v37 10 = (v 10) := hk10_v37.trans hq10_v10
                  have hq13_v37 : v37 13 = (v 13) := hk13_v37.trans hq13_v10
                  have hq14_v37 : v37 14 = (v 14) := hk14_v37.trans hq14_v10
                  have hq15_v37 : v37 15 = (v 15) := hk15_v37.trans hq15_v10
                  have hq17_v37 : v37 17 = (v 17) := hk17_v37.trans hq17_v10
                  have hq18_v37 : v37 18 = (v 18) := hk18_v37.trans hq18_v10
                  have hq24_v37 : v37 24 = (v 24) := hk24_v37.trans hq24_v10
                  have hq25_v37 : v37 25 = (v 25) := hk25_v37.trans hq25_v10
                  have hq35_v37 : v37 35 = (v 35) := hk35_v37.trans hq35_v10
                  have hq36_v37 : v37 36 = (v 36) := hk36_v37.trans hq36_v10
                  have hq38_v37 : v37 38 = (v 38) := hk38_v37.trans hq38_v10
                  have hq39_v37 : v37 39 = (v 39) := hk39_v37.trans hq39_v10
                  rcases hw with ⟨g41⟩ | ⟨g41⟩
                  · skip
                    subst g41
                    refine stZ hx hb hE hP hD hS 35 rfl (vp_in_iff.mpr ⟨by omega, by omega⟩) rfl dX11_layGrowths_55 (fun H locs hP hD hS => ?_)
                    obtain ⟨f42, ef42, hP, hD⟩ : ∃ fz9, fz9 = upd2 f38 34 (upd (f38 34) t32.toNatClampNeg (vp_nar .boolean 1)) ∧ va_P (dC, dI) vwCl (YW cy y0 r v37 fz9 w39 g40) H ∧ va_D A (YW cy y0 r v37 fz9 w39 g40) := ⟨_, rfl, hP, hD⟩
                    have hCf42 : YC f42 := by rw [ef42]; exact hCf38
                    have hRf42 : progOK (f42 4) (f42 5) (v37 9).toInt.toNat := by rw [ef42]; exact hRf38
                    have hA_f42 : KF [7, 8, 24, 34, 35] f42 f := by rw [ef42]; exact KF.up hA_f38 rfl
                    refine lv_aload_n hx hb dX11_layGrowths_56 rfl (lv_at hl 3 rfl) ?_
                    refine va_get (D := (dC, dI)) (ci := 11) (v := .ref (r 60)) (C := RX11) (T := TX11) (N := 79) hx hb hts inB_11 hown hE.1 hP 0 rfl rfl 60 (by decide) (hts _ k_1380) (fun _ h9 => h9) rfl dX11_layGrowths_57 ?_
                    refine lv_iconst (v := 0) hx hb dX11_layGrowths_60 (by decide) ?_
                    refine lv_bipush (v := 99) hx hb dX11_layGrowths_61 (by decide) ?_
                    refine lv_aload_n hx hb dX11_layGrowths_63 rfl (lv_at hl 3 rfl) ?_
                    refine va_get (D := (dC, dI)) (ci := 11) (v := .ref (r 60)) (C := RX11) (T := TX11) (N := 79) hx hb hts inB_11 hown hE.1 hP 0 rfl rfl 60 (by decide) (hts _ k_1380) (fun _ h9 => h9) rfl dX11_layGrowths_64 ?_
                    refine lv_iconst (v := 0) hx hb dX11_layGrowths_67 (by decide) ?_
                    refine ldI hx hb hE hP 25 rfl (vp_in_nI (n := 0) (by decide) (by decide)) rfl rfl dX11_layGrowths_68 ?_
                    refine lv_topi (fun t43 et43 => ?_)
                    have zt43 : 0 % 39 < 6 ∨ 12 ≤ 0 % 39 ∨ (-1 ≤ t43.toInt ∧ t43.toInt ≤ 5) := by rw [et43]; exact wear_ld hCf42.2.1 (show 0 < 39 by omega)
                    refine lv_iload_n hx hb dX11_layGrowths_69 rfl (lv_at hl 1 rfl) ?_
                    refine lv_iadd hx hb dX11_layGrowths_70 ?_
                    refine lv_topi (fun t44 et44 => ?_)
                    have lt45 : (99 : Int32).toInt = 99 := by decide
                    refine cbSi (n := 2) (rest := [.int 0, .ref (r 60)]) hx hb hml hown hts hE hP hD hS hA (sY_X11_lesser_1 0 l dC dI cy y0 r 99 t44 v37 f42 w39 g40 hIv37 hCf42 hRf42 ) k_1799 k_1800 k_114 k_1801 (by decide +kernel) ⟨Nat.le_of_ble_eq_true rfl, Nat.le_of_ble_eq_true rfl⟩ (rfl) hl.1 rfl (Nat.le_of_ble_eq_true rfl) dX11_layGrowths_71 (fun r46 u H locs hw hP hD hS => ?_)
                    obtain ⟨hG47, hw⟩ := hw
                    obtain ⟨pp48, pp49⟩ := hw
                    have pp48 : r46.toInt ≤ (99 : Int32).toInt := pp48
                    have pp49 : r46.toInt ≤ t44.toInt := pp49
                    refine stI hx hb hE hP hD hS 25 rfl (vp_in_nI (n := 0) (by decide) (by decide)) rfl dX11_layGrowths_74 (fun H locs hP hD hS => ?_)
                    obtain ⟨f50, ef50, hP, hD⟩ : ∃ fz9, fz9 = upd2 f42 24 (upd (f42 24) (0 : Int32).toNatClampNeg r46) ∧ va_P (dC, dI) vwCl (YW cy y0 r v37 fz9 w39 g40) H ∧ va_D A (YW cy y0 r v37 fz9 w39 g40) := ⟨_, rfl, hP, hD⟩
                    have hCf50 : YC f50 := by rw [ef50]; exact ⟨hCf42.1, (wear_st hCf42.2.1 (by show 0 % 39 < 6 ∨ 12 ≤ 0 % 39 ∨ (-1 ≤ r46.toInt ∧ r46.toInt ≤ 5); omega)), hCf42.2.2.1, hCf42.2.2.2.1, hCf42.2.2.2.2.1, hCf42.2.2.2.2.2⟩
                    have hRf50 : progOK (f50 4) (f50 5) (v37 9).toInt.toNat := by rw [ef50]; exact hRf42
                    have hA_f50 : KF [7, 8, 24, 34, 35] f50 f := by rw [ef50]; exact KF.up hA_f42 rfl
                    refine lv_aload_n hx hb dX11_layGrowths_75 rfl (lv_at hl 3 rfl) ?_
                    refine va_get (D := (dC, dI)) (ci := 11) (v := .ref (r 60)) (C := RX11) (T := TX11) (N := 79) hx hb hts inB_11 hown hE.1 hP 0 rfl rfl 60 (by decide) (hts _ k_1380) (fun _ h9 => h9) rfl dX11_layGrowths_76 ?_
                    refine lv_bipush (v := 30) hx hb dX11_layGrowths_79 (by decide) ?_
                    refine lv_bipush (v := 99) hx hb dX11_layGrowths_81 (by decide) ?_
                    refine lv_aload_n hx hb dX11_layGrowths_83 rfl (lv_at hl 3 rfl) ?_
                    refine va_get (D := (dC, dI)) (ci := 11) (v := .ref (r 60)) (C := RX11) (T := TX11) (N := 79) hx hb hts inB_11 hown hE.1 hP 0 rfl rfl 60 (by decide) (hts _ k_1380) (fun _ h9 => h9) rfl dX11_layGrowths_84 ?_
                    refine lv_bipush (v := 30) hx hb dX11_layGrowths_87 (by decide) ?_
                    refine ldI hx hb hE hP 25 rfl (vp_in_nI (n := 30) (by decide) (by decide)) rfl rfl dX11_layGrowths_89 ?_
                    refine lv_topi (fun t51 et51 => ?_)
                    have zt51 : 30 % 39 < 6 ∨ 12 ≤ 30 % 39 ∨ (-1 ≤ t51.toInt ∧ t51.toInt ≤ 5) := by rw [et51]; exact wear_ld hCf50.2.1 (show 30 < 39 by omega)
                    refine lv_iconst (v := 1) hx hb dX11_layGrowths_90 (by decide) ?_
                    refine lv_iadd hx hb dX11_layGrowths_91 ?_
                    refine lv_topi (fun t52 et52 => ?_)
                    refine cbSi (n := 2) (rest := [.int 30, .ref (r 60)]) hx hb hml hown hts hE hP hD hS hA (sY_X11_lesser_1 0 l dC dI cy y0 r 99 t52 v37 f50 w39 g40 hIv37 hCf50 hRf50 ) k_1799 k_1800 k_114 k_1801 (by decide +kernel) ⟨Nat.le_of_ble_eq_true rfl, Nat.le_of_ble_eq_true rfl⟩ (rfl) hl.1 rfl (Nat.le_of_ble_eq_true rfl) dX11_layGrowths_92 (fun r53 u H locs hw hP hD hS => ?_)
                    obtain ⟨hG54, hw⟩ := hw
                    obtain ⟨pp55, pp56⟩ := hw
                    have pp55 : r53.toInt ≤ (99 : Int32).toInt := pp55
                    have pp56 : r53.toInt ≤ t52.toInt := pp56
                    refine stI hx hb hE hP hD hS 25 rfl (vp_in_nI (n := 30) (by decide) (by decide)) rfl dX11_layGrowths_95 (fun H locs hP hD hS => ?_)
                    obtain ⟨f57, ef57, hP, hD⟩ : ∃ fz9, fz9 = upd2 f50 24 (upd (f50 24) (30 : Int32).toNatClampNeg r53) ∧ va_P (dC, dI) vwCl (YW cy y0 r v37 fz9 w39 g40) H ∧ va_D A (YW cy y0 r v37 fz9 w39 g40) := ⟨_, rfl, hP, hD⟩
                    have hCf57 : YC f57 := by rw [ef57]; exact ⟨hCf50.1, (wear_st hCf50.2.1 (by show 30 % 39 < 6 ∨ 12 ≤ 30 % 39 ∨ (-1 ≤ r53.toInt ∧ r53.toInt ≤ 5); omega)), hCf50.2.2.1, hCf50.2.2.2.1, hCf50.2.2.2.2.1, hCf50.2.2.2.2.2⟩
                    have hRf57 : progOK (f57 4) (f57 5) (v37 9).toInt.toNat := by rw [ef57]; exact hRf50
                    have hA_f57 : KF [7, 8, 24, 34, 35] f57 f := by rw [ef57]; exact KF.up hA_f50 rfl
                    refine lv_aload_n hx hb dX11_layGrowths_96 rfl (lv_at hl 3 rfl) ?_
                    refine va_get (D := (dC, dI)) (ci := 11) (v := .ref (r 60)) (C := RX11) (T := TX11) (N := 79) hx hb hts inB_11 hown hE.1 hP 0 rfl rfl 60 (by decide) (hts _ k_1380) (fun _ h9 => h9) rfl dX11_layGrowths_97 ?_
                    refine lv_bipush (v := 37) hx hb dX11_layGrowths_100 (by decide) ?_
                    refine lv_dup2_11 hx hb dX11_layGrowths_102 rfl rfl ?_
                    refine ldI hx hb hE hP 25 rfl (vp_in_nI (n := 37) (by decide) (by decide)) rfl rfl dX11_layGrowths_103 ?_
                    refine lv_topi (fun t58 et58 => ?_)
                    have zt58 : 37 % 39 < 6 ∨ 12 ≤ 37 % 39 ∨ (-1 ≤ t58.toInt ∧ t58.toInt ≤ 5) := by rw [et58]; exact wear_ld hCf57.2.1 (show 37 < 39 by omega)
                    refine lv_iconst (v := 1) hx hb dX11_layGrowths_104 (by decide) ?_
                    refine lv_iadd hx hb dX11_layGrowths_105 ?_
                    refine lv_topi (fun t59 et59 => ?_)
                    refine stI hx hb hE hP hD hS 25 rfl (vp_in_nI (n := 37) (by decide) (by decide)) rfl dX11_layGrowths_106 (fun H locs hP hD hS => ?_)
                    obtain ⟨f60, ef60, hP, hD⟩ : ∃ fz9, fz9 = upd2 f57 24 (upd (f57 24) (37 : Int32).toNatClampNeg t59) ∧ va_P (dC, dI) vwCl (YW cy y0 r v37 fz9 w39 g40) H ∧ va_D A (YW cy y0 r v37 fz9 w39 g40) := ⟨_, rfl, hP, hD⟩
                    have hCf60 : YC f60 := by rw [ef60]; exact ⟨hCf57.1, (wear_st hCf57.2.1 (by show 37 % 39 < 6 ∨ 12 ≤ 37 % 39 ∨ (-1 ≤ t59.toInt ∧ t59.toInt ≤ 5); omega)), hCf57.2.2.1, hCf57.2.2.2.1, hCf57.2.2.2.2.1, hCf57.2.2.2.2.2⟩
                    have hRf60 : progOK (f60 4) (f60 5) (v37 9).toInt.toNat := by rw [ef60]; exact hRf57
                    have hA_f60 : KF [7, 8, 24, 34, 35] f60 f := by rw [ef60]; exact KF.up hA_f57 rfl
                    obtain ⟨t61, et61⟩ : ∃ y : Int32, y = l4_10 + 1 := ⟨_, rfl⟩
                    have zt61 : t61.toInt = l4_10.toInt + 1 := by rw [et61]; exact add_i rfl (by decide) (by omega) (by omega)
                    refine lv_iinc (v := t61) (lv' := [(4, .int t61), (3, .int l3_1), (2, .int l2_1), (0, .ref y0), (1, .int p1)]) hx hb dX11_layGrowths_107 hl (k := 0) rfl (by rw [et61]; rfl) (by decide) rfl (fun ls hl => ?_)
                    refine lv_goto (tgt := 31) hx hb dX11_layGrowths_110 (by decide) ?_
                    have rg62 := fb_rng t61
                    exact ih10 t61 v37 f60 w39 g40 hIv37 hCf60 hRf60 hq0_v37 hq1_v37 hq2_v37 hq3_v37 hq4_v37 hq5_v37 hq8_v37 hq9_v37 hq10_v37 hq13_v37 hq14_v37 hq15_v37 hq17_v37 hq18_v37 hq24_v37 hq25_v37 hq35_v37 hq36_v37 hq38_v37 hq39_v37 ⟨show (0 : Int) ≤ t61.toInt by omega, show t61.toInt ≤ (2147483647 : Int) by omega⟩ hM_v37 hA_f60 (by show (2147483647 - t61.toInt).toNat < n10; omega) _ _ _ hP hD hS (lv_sub hl [0, 1, 2, 3, 4] rfl)
                  · skip
                    subst g41
                    refine stZ hx hb hE hP hD hS 35 rfl (vp_in_iff.mpr ⟨by omega, by omega⟩) rfl dX11_layGrowths_55 (fun H locs hP hD hS => ?_)
                    obtain ⟨f63, ef63, hP, hD⟩ : ∃ fz9, fz9 = upd2 f38 34 (upd (f38 34) t32.toNatClampNeg (vp_nar .boolean 0)) ∧ va_P (dC, dI) vwCl (YW cy y0 r v37 fz9 w39 g40) H ∧ va_D A (YW cy y0 r v37 fz9 w39 g40) := ⟨_, rfl, hP, hD⟩
                    have hCf63 : YC f63 := by rw [ef63]; exact hCf38
                    have hRf63 : progOK (f63 4) (f63 5) (v37 9).toInt.toNat := by rw [ef63]; exact hRf38
                    have hA_f63 : KF [7, 8, 24, 34, 35] f63 f := by rw [ef63]; exact KF.up hA_f38 rfl
                    refine lv_aload_n hx hb dX11_layGrowths_56 rfl (lv_at hl 3 rfl) ?_
                    refine va_get (D := (dC, dI)) (ci := 11) (v := .ref (r 60)) (C := RX11) (T := TX11) (N := 79) hx hb hts inB_11 hown hE.1 hP 0 rfl rfl 60 (by decide) (hts _ k_1380) (fun _ h9 => h9) rfl dX11_layGrowths_57 ?_
                    refine lv_iconst (v := 0) hx hb dX11_layGrowths_60 (by decide) ?_
                    refine lv_bipush (v := 99) hx hb dX11_layGrowths_61 (by decide) ?_
                    refine lv_aload_n hx hb dX11_layGrowths_63 rfl (lv_at hl 3 rfl) ?_
                    refine va_get (D := (dC, dI)) (ci := 11) (v := .ref (r 60)) (C := RX11) (T := TX11) (N := 79) hx hb hts inB_11 hown hE.1 hP 0 rfl rfl 60 (by decide) (hts _ k_1380) (fun _ h9 => h9) rfl dX11_layGrowths_64 ?_
                    refine lv_iconst (v := 0) hx hb dX11_layGrowths_67 (by decide) ?_
                    refine ldI hx hb hE hP 25 rfl (vp_in_nI (n := 0) (by decide) (by decide)) rfl rfl dX11_layGrowths_68 ?_
                    refine lv_topi (fun t64 et64 => ?_)
                    have zt64 : 0 % 39 < 6 ∨ 12 ≤ 0 % 39 ∨ (-1 ≤ t64.toInt ∧ t64.toInt ≤ 5) := by rw [et64]; exact wear_ld hCf63.2.1 (show 0 < 39 by omega)
                    refine lv_iload_n hx hb dX11_layGrowths_69 rfl (lv_at hl 1 rfl) ?_
                    refine lv_iadd hx hb dX11_layGrowths_70 ?_
                    refine lv_topi (fun t65 et65 => ?_)
                    have lt66 : (99 : Int32).toInt = 99 := by decide
                    refine cbSi (n := 2) (rest := [.int 0, .ref (r 60)]) hx hb hml hown hts hE hP hD hS hA (sY_X11_lesser_1 0 l dC dI cy y0 r 99 t65 v37 f63 w39 g40 hIv37 hCf63 hRf63 ) k_1799 k_1800 k_114 k_1801 (by decide +kernel) ⟨Nat.le_of_ble_eq_true rfl, Nat.le_of_ble_eq_true rfl⟩ (rfl) hl.1 rfl (Nat.le_of_ble_eq_true rfl) dX11_layGrowths_71 (fun r67 u H locs hw hP hD hS => ?_)
                    obtain ⟨hG68, hw⟩ := hw
                    obtain ⟨pp69, pp70⟩ := hw
                    have pp69 : r67.toInt ≤ (99 : Int32).toInt := pp69
                    have pp70 : r67.toInt ≤ t65.toInt := pp70
                    refine stI hx hb hE hP hD hS 25 rfl (vp_in_nI (n := 0) (by decide) (by decide)) rfl dX11_layGrowths_74 (fun H locs hP hD hS => ?_)
                    obtain ⟨f71, ef71, hP, hD⟩ : ∃ fz9, fz9 = upd2 f63 24 (upd (f63 24) (0 : Int32).toNatClampNeg r67) ∧ va_P (dC, dI) vwCl (YW cy y0 r v37 fz9 w39 g40) H ∧ va_D A (YW cy y0 r v37 fz9 w39 g40) := ⟨_, rfl, hP, hD⟩
                    have hCf71 : YC f71 := by rw [ef71]; exact ⟨hCf63.1, (wear_st hCf63.2.1 (by show 0 % 39 < 6 ∨ 12 ≤ 0 % 39 ∨ (-1 ≤ r67.toInt ∧ r67.toInt ≤ 5); omega)), hCf63.2.2.1, hCf63.2.2.2.1, hCf63.2.2.2.2.1, hCf63.2.2.2.2.2⟩
                    have hRf71 : progOK (f71 4) (f71 5) (v37 9).toInt.toNat := by rw [ef71]; exact hRf63
                    have hA_f71 : KF [7, 8, 24, 34, 35] f71 f := by rw [ef71]; exact KF.up hA_f63 rfl
                    refine lv_aload_n hx hb dX11_layGrowths_75 rfl (lv_at hl 3 rfl) ?_
                    refine va_get (D := (dC, dI)) (ci := 11) (v := .ref (r 60)) (C := RX11) (T := TX11) (N := 79) hx hb hts inB_11 hown hE.1 hP 0 rfl rfl 60 (by decide) (hts _ k_1380) (fun _ h9 => h9) rfl dX11_layGrowths_76 ?_
                    refine lv_bipush (v := 30) hx hb dX11_layGrowths_79 (by decide) ?_
                    refine lv_bipush (v := 99) hx hb dX11_layGrowths_81 (by decide) ?_
                    refine lv_aload_n hx hb dX11_layGrowths_83 rfl (lv_at hl 3 rfl) ?_
                    refine va_get (D := (dC, dI)) (ci := 11) (v := .ref (r 60)) (C := RX11) (T := TX11) (N := 79) hx hb hts inB_11 hown hE.1 hP 0 rfl rfl 60 (by decide) (hts _ k_1380) (fun _ h9 => h9) rfl dX11_layGrowths_84 ?_
                    refine lv_bipush (v := 30) hx hb dX11_layGrowths_87 (by decide) ?_
                    refine ldI hx hb hE hP 25 rfl (vp_in_nI (n := 30) (by decide) (by decide)) rfl rfl dX11_layGrowths_89 ?_
                    refine lv_topi (fun t72 et72 => ?_)
                    have zt72 : 30 % 39 < 6 ∨ 12 ≤ 30 % 39 ∨ (-1 ≤ t72.toInt ∧ t72.toInt ≤ 5) := by rw [et72]; exact wear_ld hCf71.2.1 (show 30 < 39 by omega)
                    refine lv_iconst (v := 1) hx hb dX11_layGrowths_90 (by decide) ?_
                    refine lv_iadd hx hb dX11_layGrowths_91 ?_
                    refine lv_topi (fun t73 et73 => ?_)
                    refine cbSi (n := 2) (rest := [.int 30, .ref (r 60)]) hx hb hml hown hts hE hP hD hS hA (sY_X11_lesser_1 0 l dC dI cy y0 r 99 t73 v37 f71 w39 g40 hIv37 hCf71 hRf71 ) k_1799 k_1800 k_114 k_1801 (by decide +kernel) ⟨Nat.le_of_ble_eq_true rfl, Nat.le_of_ble_eq_true rfl⟩ (rfl) hl.1 rfl (Nat.le_of_ble_eq_true rfl) dX11_layGrowths_92 (fun r74 u H locs hw hP hD hS => ?_)
                    obtain ⟨hG75, hw⟩ := hw
                    obtain ⟨pp76, pp77⟩ := hw
                    have pp76 : r74.toInt ≤ (99 : Int32).toInt := pp76
                    have pp77 : r74.toInt ≤ t73.toInt := pp77
                    refine stI hx hb hE hP hD hS 25 rfl (vp_in_nI (n := 30) (by decide) (by decide)) rfl dX11_layGrowths_95 (fun H locs hP hD hS => ?_)
                    obtain ⟨f78, ef78, hP, hD⟩ : ∃ fz9, fz9 = upd2 f71 24 (upd (f71 24) (30 : Int32).toNatClampNeg r74) ∧ va_P (dC, dI) vwCl (YW cy y0 r v37 fz9 w39 g40) H ∧ va_D A (YW cy y0 r v37 fz9 w39 g40) := ⟨_, rfl, hP, hD⟩
                    have hCf78 : YC f78 := by rw [ef78]; exact ⟨hCf71.1, (wear_st hCf71.2.1 (by show 30 % 39 < 6 ∨ 12 ≤ 30 % 39 ∨ (-1 ≤ r74.toInt ∧ r74.toInt ≤ 5); omega)), hCf71.2.2.1, hCf71.2.2.2.1, hCf71.2.2.2.2.1, hCf71.2.2.2.2.2⟩
                    have hRf78 : progOK (f78 4) (f78 5) (v37 9).toInt.toNat := by rw [ef78]; exact hRf71
                    have hA_f78 : KF [7, 8, 24, 34, 35] f78 f := by rw [ef78]; exact KF.up hA_f71 rfl
                    refine lv_aload_n hx hb dX11_layGrowths_96 rfl (lv_at hl 3 rfl) ?_
                    refine va_get (D := (dC, dI)) (ci := 11) (v := .ref (r 60)) (C := RX11) (T := TX11) (N := 79) hx hb hts inB_11 hown hE.1 hP 0 rfl rfl 60 (by decide) (hts _ k_1380) (fun _ h9 => h9) rfl dX11_layGrowths_97 ?_
                    refine lv_bipush (v := 37) hx hb dX11_layGrowths_100 (by decide) ?_
                    refine lv_dup2_11 hx hb dX11_layGrowths_102 rfl rfl ?_
                    refine ldI hx hb hE hP 25 rfl (vp_in_nI (n := 37) (by decide) (by decide)) rfl rfl dX11_layGrowths_103 ?_
                    refine lv_topi (fun t79 et79 => ?_)
                    have zt79 : 37 % 39 < 6 ∨ 12 ≤ 37 % 39 ∨ (-1 ≤ t79.toInt ∧ t79.toInt ≤ 5) := by rw [et79]; exact wear_ld hCf78.2.1 (show 37 < 39 by omega)
                    refine lv_iconst (v := 1) hx hb dX11_layGrowths_104 (by decide) ?_
                    refine lv_iadd hx hb dX11_layGrowths_105 ?_
                    refine lv_topi (fun t80 et80 => ?_)
                    refine stI hx hb hE hP hD hS 25 rfl (vp_in_nI (n := 37) (by decide) (by decide)) rfl dX11_layGrowths_106 (fun H locs hP hD hS => ?_)
                    obtain ⟨f81, ef81, hP, hD⟩ : ∃ fz9, fz9 = upd2 f78 24 (upd (f78 24) (37 : Int32).toNatClampNeg t80) ∧ va_P (dC, dI) vwCl (YW cy y0 r v37 fz9 w39 g40) H ∧ va_D A (YW cy y0 r v37 fz9 w39 g40) := ⟨_, rfl, hP, hD⟩
                    have hCf81 : YC f81 := by rw [ef81]; exact ⟨hCf78.1, (wear_st hCf78.2.1 (by show 37 % 39 < 6 ∨ 12 ≤ 37 % 39 ∨ (-1 ≤ t80.toInt ∧ t80.toInt ≤ 5); omega)), hCf78.2.2.1, hCf78.2.2.2.1, hCf78.2.2.2.2.1, hCf78.2.2.2.2.2⟩
                    have hRf81 : progOK (f81 4) (f81 5) (v37 9).toInt.toNat := by rw [ef81]; exact hRf78
                    have hA_f81 : KF [7, 8, 24, 34, 35] f81 f := by rw [ef81]; exact KF.up hA_f78 rfl
                    obtain ⟨t82, et82⟩ : ∃ y : Int32, y = l4_10 + 1 := ⟨_, rfl⟩
                    have zt82 : t82.toInt = l4_10.toInt + 1 := by rw [et82]; exact add_i rfl (by decide) (by omega) (by omega)
                    refine lv_iinc (v := t82) (lv' := [(4, .int t82), (3, .int l3_1), (2, .int l2_1), (0, .ref y0), (1, .int p1)]) hx hb dX11_layGrowths_107 hl (k := 0) rfl (by rw [et82]; rfl) (by decide) rfl (fun ls hl => ?_)
                    refine lv_goto (tgt := 31) hx hb dX11_layGrowths_110 (by decide) ?_
                    have rg83 := fb_rng t82
                    exact ih10 t82 v37 f81 w39 g40 hIv37 hCf81 hRf81 hq0_v37 hq1_v37 hq2_v37 hq3_v37 hq4_v37 hq5_v37 hq8_v37 hq9_v37 hq10_v37 hq13_v37 hq14_v37 hq15_v37 hq17_v37 hq18_v37 hq24_v37 hq25_v37 hq35_v37 hq36_v37 hq38_v37 hq39_v37 ⟨show (0 : Int) ≤ t82.toInt by omega, show t82.toInt ≤ (2147483647 : Int) by omega⟩ hM_v37 hA_f81 (by show (2147483647 - t82.toInt).toNat < n10; omega) _ _ _ hP hD hS (lv_sub hl [0, 1, 2, 3, 4] rfl)
            exact lp10 _ 0 v6 f7 w8 g9 hIv6 hCf7 hRf7 hq0_v6 hq1_v6 hq2_v6 hq3_v6 hq4_v6 hq5_v6 hq8_v6 hq9_v6 hq10_v6 hq13_v6 hq14_v6 hq15_v6 hq17_v6 hq18_v6 hq24_v6 hq25_v6 hq35_v6 hq36_v6 hq38_v6 hq39_v6 ⟨by decide, by decide⟩ hM_v6 hA_f7 (Nat.lt_succ_self _) _ _ _ hP hD hS (lv_sub hl [0, 1, 2, 3, 4] rfl)
  exact lp1 _ 0 0 v f w g hIv hCf hRf rfl rfl rfl rfl rfl rfl rfl rfl rfl rfl rfl rfl rfl rfl rfl rfl rfl rfl rfl rfl ⟨by decide, by decide⟩ hM_v hA_f (Nat.lt_succ_self _) _ _ _ hP hD hS (lv_sub hl [0, 1, 2, 3] rfl)
