set_option maxHeartbeats 4000000 in
set_option maxRecDepth 100000 in
theorem sY_X11_unit_1 (l : Launch) (dC : Nat → ClassId) (dI : Nat → Nat → Nat) (cy : Nat → ClassId) (y0 : Nat) (r : Nat → Nat)  (v : Nat → Int32) (f : Nat → Nat → Int32) (w : Int64) (g : Nat → Int64) (hIv : YI v) (hCf : YC f) (hRf : progOK (f 4) (f 5) (v 9).toInt.toNat)  (hf0 : (v 8).toInt + (v 10).toInt ≤ 10 * (v 13).toInt + 1) (hf1 : (v 10).toInt ≤ (v 14).toInt + (v 13).toInt + 1) (hf2 : (v 13).toInt ≤ 30) (hf3 : (v 14).toInt ≤ 7) (hg0 : FI 0 (v 10).toInt (v 14).toInt (v 8).toInt (f 6) (f 2) (f 3)) : ctV l (dC, dI) cy yX11_unit cX11_unit 3 4 124 0 0 ((Nat → Int32) × (Nat → Nat → Int32) × (Int64) × (Nat → Int64)) [.ref y0] (YW cy y0 r v f w g) (fun u => YI u.1 ∧ YC u.2.1 ∧ progOK (u.2.1 4) (u.2.1 5) (u.1 9).toInt.toNat ∧ u.1 0 = v 0 ∧ u.1 4 = v 4 ∧ u.1 9 = v 9 ∧ u.1 15 = v 15 ∧ u.1 17 = v 17 ∧ u.1 18 = v 18 ∧ u.1 24 = v 24 ∧ u.1 25 = v 25 ∧ u.1 35 = v 35 ∧ u.1 36 = v 36 ∧ u.1 38 = v 38 ∧ u.1 39 = v 39 ∧ (GR (v 3).toInt (v 5).toInt (u.1 3).toInt (u.1 5).toInt) ∧ ((u.1 1).toInt = 0 → FI 1 (u.1 10).toInt (u.1 14).toInt (u.1 8).toInt (u.2.1 6) (u.2.1 2) (u.2.1 3)) ∧ (NB (u.1 1).toInt (u.1 8).toInt (u.1 10).toInt (u.1 13).toInt (u.1 14).toInt) ∧ (UG (u.1 1).toInt (v 13).toInt (u.1 13).toInt)) (fun u => YW cy y0 r u.1 u.2.1 u.2.2.1 u.2.2.2) := by
  refine ctV_of (by decide) (Nat.le_of_ble_eq_true rfl) (fun p e s m below meth c A ls Q hx hb hml hts hown hnm hE hP hD hA hl ret => ?_)
  have hUv : (v 35).toInt + (v 36).toInt ≤ 40 := hIv.2
  have hFI := hg0
  have b1_v : (0 : Int) ≤ (v 1).toInt ∧ (v 1).toInt ≤ 4 := YIb.b hIv.1 1 (by decide)
  have b3_v : (0 : Int) ≤ (v 3).toInt ∧ (v 3).toInt ≤ 1600 := YIb.b hIv.1 3 (by decide)
  have b8_v : (0 : Int) ≤ (v 8).toInt ∧ (v 8).toInt ≤ 320 := YIb.b hIv.1 8 (by decide)
  have b10_v : (0 : Int) ≤ (v 10).toInt ∧ (v 10).toInt ≤ 160 := YIb.b hIv.1 10 (by decide)
  have b13_v : (0 : Int) ≤ (v 13).toInt ∧ (v 13).toInt ≤ 31 := YIb.b hIv.1 13 (by decide)
  have b14_v : (0 : Int) ≤ (v 14).toInt ∧ (v 14).toInt ≤ 8 := YIb.b hIv.1 14 (by decide)
  have hGR : GR (v 3).toInt (v 5).toInt (v 3).toInt (v 5).toInt := GR.refl _ _
  have hown : s.vm.findClass RX11 = some m.cls := hown
  have hS : va_S A s.heap s.heap [] := va_S.rf
  have hl : lv_has ls 3 [(0, .ref y0)] := hl
  refine lv_iconst (v := 1) hx hb dX11_unit_0 (by decide) ?_
  refine lv_istore_n (lv' := [(1, .int 1), (0, .ref y0)]) hx hb dX11_unit_1 rfl hl (by decide) rfl (fun ls hl => ?_)
  have lp1 : ∀ (n1 : Nat) (l1_1 : Int32) (v1 : Nat → Int32) (f1 : Nat → Nat → Int32) (w1 : Int64) (g1 : Nat → Int64), YI v1 → YC f1 → progOK (f1 4) (f1 5) (v1 9).toInt.toNat → v1 0 = (v 0) → v1 4 = (v 4) → v1 8 = (v 8) → v1 9 = (v 9) → v1 15 = (v 15) → v1 17 = (v 17) → v1 18 = (v 18) → v1 24 = (v 24) → v1 25 = (v 25) → v1 35 = (v 35) → v1 36 = (v 36) → v1 38 = (v 38) → v1 39 = (v 39) → ((0 : Int) ≤ l1_1.toInt ∧ l1_1.toInt ≤ 1) → ((v1 1).toInt = 0 → FI 0 (v1 10).toInt (v1 14).toInt (v1 8).toInt (f1 6) (f1 2) (f1 3)) → (NU (v1 1).toInt (v1 8).toInt (v1 10).toInt (v1 13).toInt (v1 14).toInt) → (GR (v 3).toInt (v 5).toInt (v1 3).toInt (v1 5).toInt) → ((v 13).toInt ≤ (v1 13).toInt) → f1 2 = (f 2) → f1 3 = (f 3) → (2 * (9 - (v1 14).toInt) + l1_1.toInt).toNat < n1 → ∀ (H : Heap) (locs : List Loc) (ls : Array Slot), va_P (dC, dI) vwCl (YW cy y0 r v1 f1 w1 g1) H → va_D A (YW cy y0 r v1 f1 w1 g1) → va_S A s.heap H locs → lv_has ls 3 [(1, .int l1_1), (0, .ref y0)] → W p l e { frames := 4, cells := 0, slots := 0, locals := 124 } s m ([.ref y0] : List Value).toArray below meth c H locs 0 0 Q (F0 m 2 ls []) := by
    intro n1
    induction n1 with
    | zero => intro l1_1 v1 f1 w1 g1 hIv1 hCf1 hRf1 hq0_v1 hq4_v1 hq8_v1 hq9_v1 hq15_v1 hq17_v1 hq18_v1 hq24_v1 hq25_v1 hq35_v1 hq36_v1 hq38_v1 hq39_v1 hr1_1 hx0_1 hx1_1 hx2_1 hx3_1 hs2_f1 hs3_f1 hm; exact absurd hm (Nat.not_lt_zero _)
    | succ n1 ih1 =>
      intro l1_1 v1 f1 w1 g1 hIv1 hCf1 hRf1 hq0_v1 hq4_v1 hq8_v1 hq9_v1 hq15_v1 hq17_v1 hq18_v1 hq24_v1 hq25_v1 hq35_v1 hq36_v1 hq38_v1 hq39_v1 hr1_1 hx0_1 hx1_1 hx2_1 hx3_1 hs2_f1 hs3_f1 hm1 H locs ls hP hD hS hl
      have hUv1 : (v1 35).toInt + (v1 36).toInt ≤ 40 := hIv1.2
      have zq8_v1 := congrArg Int32.toInt hq8_v1
      have b1_v1 : 0 ≤ (v1 1).toInt ∧ (v1 1).toInt ≤ 4 := YIb.b hIv1.1 1 (by decide)
      have b10_v1 : 0 ≤ (v1 10).toInt ∧ (v1 10).toInt ≤ 160 := YIb.b hIv1.1 10 (by decide)
      have b14_v1 : 0 ≤ (v1 14).toInt ∧ (v1 14).toInt ≤ 8 := YIb.b hIv1.1 14 (by decide)
      have b8_v1 : 0 ≤ (v1 8).toInt ∧ (v1 8).toInt ≤ 320 := YIb.b hIv1.1 8 (by decide)
      have b8_v : 0 ≤ (v 8).toInt ∧ (v 8).toInt ≤ 320 := YIb.b hIv.1 8 (by decide)
      have b13_v1 : 0 ≤ (v1 13).toInt ∧ (v1 13).toInt ≤ 31 := YIb.b hIv1.1 13 (by decide)
      have b3_v1 : 0 ≤ (v1 3).toInt ∧ (v1 3).toInt ≤ 1600 := YIb.b hIv1.1 3 (by decide)
      rw [hs2_f1] at hx0_1
      rw [hs3_f1] at hx0_1
      have hFJ := hx0_1
      have hNU := hx1_1
      have hGR := hx2_1
      refine lv_iload_n hx hb dX11_unit_2 rfl (lv_at hl 0 rfl) ?_
      have jp101 : ∀ (H : Heap) (locs : List Loc) (ls : Array Slot), va_P (dC, dI) vwCl (YW cy y0 r v1 f1 w1 g1) H → va_D A (YW cy y0 r v1 f1 w1 g1) → va_S A s.heap H locs → lv_has ls 3 [(1, .int l1_1), (0, .ref y0)] → W p l e { frames := 4, cells := 0, slots := 0, locals := 124 } s m ([.ref y0] : List Value).toArray below meth c H locs 0 0 Q (F0 m 101 ls []) := by
        intro H locs ls hP hD hS hl
        refine lv_aload_n hx hb dX11_unit_101 rfl (lv_at hl 1 rfl) ?_
        refine va_get (D := (dC, dI)) (ci := 11) (v := .int (v1 1)) (C := RX11) (T := TX11) (N := 79) hx hb hts inB_11 hown hE.1 hP 0 rfl rfl 2 (by decide) (hts _ k_1322) (fun _ h9 => h9) rfl dX11_unit_102 ?_
        refine lv_if_le (tgt := 109) hx hb dX11_unit_105 (by decide) (fun c2 => ?_) (fun c2 => ?_)
        · skip
          have zc2 : (v1 1).toInt ≤ 0 := by rw [fa_le, show (0 : Int32).toInt = 0 from by decide] at c2; exact c2
          obtain ⟨hn1, hn2, hn3, hn4⟩ := hNU (by omega)
          refine lv_aload_n hx hb dX11_unit_109 rfl (lv_at hl 1 rfl) ?_
          refine cbVi (n := 0) (rest := []) hx hb hml hown hts hE hP hD hS hA (sY_X11_asked_1 l dC dI cy y0 r  v1 f1 w1 g1 hIv1 hCf1 hRf1 ) k_1692 k_1694 k_62 k_114 k_1695 (by decide +kernel) ⟨Nat.le_of_ble_eq_true rfl, Nat.le_of_ble_eq_true rfl⟩ 0 11 rfl rfl (rfl) hl.1 rfl (Nat.le_of_ble_eq_true rfl) dX11_unit_110 (fun r3 u H locs hw hP hD hS => ?_)
          refine lv_istore_n (lv' := [(2, .int r3), (1, .int l1_1), (0, .ref y0)]) hx hb dX11_unit_113 rfl hl (by decide) rfl (fun ls hl => ?_)
          have jp133 : ∀ (H : Heap) (locs : List Loc) (ls : Array Slot), va_P (dC, dI) vwCl (YW cy y0 r v1 f1 w1 g1) H → va_D A (YW cy y0 r v1 f1 w1 g1) → va_S A s.heap H locs → lv_has ls 3 [(2, .int r3), (1, .int l1_1), (0, .ref y0)] → W p l e { frames := 4, cells := 0, slots := 0, locals := 124 } s m ([.ref y0] : List Value).toArray below meth c H locs 0 0 Q (F0 m 133 ls []) := by
            intro H locs ls hP hD hS hl
            refine lv_aload_n hx hb dX11_unit_133 rfl (lv_at hl 2 rfl) ?_
            refine lv_iconst (v := 2) hx hb dX11_unit_134 (by decide) ?_
            refine cbVv (n := 1) (rest := []) hx hb hml hown hts hE hP hD hS hA (sY_X11_wrong_1 l dC dI cy y0 r 2 v1 f1 w1 g1 hIv1 hCf1 hRf1 ⟨by decide, by decide⟩) k_1641 k_1643 k_50 k_114 k_1644 (by decide +kernel) ⟨Nat.le_of_ble_eq_true rfl, Nat.le_of_ble_eq_true rfl⟩ 0 11 rfl rfl (rfl) hl.1 rfl (Nat.le_of_ble_eq_true rfl) dX11_unit_135 (fun u H locs hw hP hD hS => ?_)
            obtain ⟨v4, f5, w6, g7⟩ := u
            obtain ⟨hIv4, hCf5, hRf5, hk0_v4, hk3_v4, hk4_v4, hk5_v4, hk8_v4, hk9_v4, hk10_v4, hk13_v4, hk14_v4, hk15_v4, hk17_v4, hk18_v4, hk24_v4, hk25_v4, hk35_v4, hk36_v4, hk38_v4, hk39_v4, pv8, pv9, pv10, kq11, kq12, kq13⟩ := hw
            have hP : va_P (dC, dI) vwCl (YW cy y0 r v4 f5 w6 g7) H := hP
            have hD : va_D A (YW cy y0 r v4 f5 w6 g7) := hD
            have b3_v4 : 0 ≤ (v4 3).toInt ∧ (v4 3).toInt ≤ 1600 := YIb.b hIv4.1 3 (by decide)
            have b1_v4 : 0 ≤ (v4 1).toInt ∧ (v4 1).toInt ≤ 4 := YIb.b hIv4.1 1 (by decide)
            have pv8 : (v1 3).toInt ≤ (v4 3).toInt := pv8
            have pv9 : (v4 5).toInt = (v1 5).toInt ∨ (v1 3).toInt < (v4 3).toInt ∨ ¬ (v4 5).toInt = 59 := pv9
            have pv10 : 0 < (v4 1).toInt := pv10
            have hs2_f5 : f5 2 = (f 2) := kq11.trans hs2_f1
            have hs3_f5 : f5 3 = (f 3) := kq12.trans hs3_f1
            have hs6_f5 : f5 6 = (f1 6) := kq13
            have hUv4 : (v4 35).toInt + (v4 36).toInt ≤ 40 := hIv4.2
            have hq0_v4 : v4 0 = (v 0) := hk0_v4.trans hq0_v1
            have hq3_v4 : v4 3 = (v1 3) := hk3_v4
            have zq3_v4 := congrArg Int32.toInt hq3_v4
            have hq4_v4 : v4 4 = (v 4) := hk4_v4.trans hq4_v1
            have hq5_v4 : v4 5 = (v1 5) := hk5_v4
            have zq5_v4 := congrArg Int32.toInt hq5_v4
            have hq8_v4 : v4 8 = (v 8) := hk8_v4.trans hq8_v1
            have zq8_v4 := congrArg Int32.toInt hq8_v4
            have hq9_v4 : v4 9 = (v 9) := hk9_v4.trans hq9_v1
            have hq10_v4 : v4 10 = (v1 10) := hk10_v4
            have zq10_v4 := congrArg Int32.toInt hq10_v4
            have hq13_v4 : v4 13 = (v1 13) := hk13_v4
            have zq13_v4 := congrArg Int32.toInt hq13_v4
            have hq14_v4 : v4 14 = (v1 14) := hk14_v4
            have zq14_v4 := congrArg Int32.toInt hq14_v4
            have hq15_v4 : v4 15 = (v 15) := hk15_v4.trans hq15_v1
            have hq17_v4 : v4 17 = (v 17) := hk17_v4.trans hq17_v1
            have hq18_v4 : v4 18 = (v 18) := hk18_v4.trans hq18_v1
            have hq24_v4 : v4 24 = (v 24) := hk24_v4.trans hq24_v1
            have hq25_v4 : v4 25 = (v 25) := hk25_v4.trans hq25_v1
            have hq35_v4 : v4 35 = (v 35) := hk35_v4.trans hq35_v1
            have hq36_v4 : v4 36 = (v 36) := hk36_v4.trans hq36_v1
            have hq38_v4 : v4 38 = (v 38) := hk38_v4.trans hq38_v1
            have hq39_v4 : v4 39 = (v 39) := hk39_v4.trans hq39_v1
            have hGR : GR (v 3).toInt (v 5).toInt (v4 3).toInt (v4 5).toInt := GR.tr hGR (show GR (v1 3).toInt (v1 5).toInt (v4 3).toInt (v4 5).toInt from ⟨pv8, pv9⟩) (by first | rfl | assumption | omega) (by first | rfl | assumption | omega)
            clear pv9
            refine lv_aload_n hx hb dX11_unit_138 rfl (lv_at hl 2 rfl) ?_
            refine va_get (D := (dC, dI)) (ci := 11) (v := .int (v4 1)) (C := RX11) (T := TX11) (N := 79) hx hb hts inB_11 hown hE.1 hP 0 rfl rfl 2 (by decide) (hts _ k_1322) (fun _ h9 => h9) rfl dX11_unit_139 ?_
            have b1_v4 : 0 ≤ (v4 1).toInt ∧ (v4 1).toInt ≤ 4 := YIb.b hIv4.1 1 (by decide)
            refine lv_if_le (tgt := 146) hx hb dX11_unit_142 (by decide) (fun c14 => ?_) (fun c14 => ?_)
            · skip
              have zc14 : (v4 1).toInt ≤ 0 := by rw [fa_le, show (0 : Int32).toInt = 0 from by decide] at c14; exact c14
              refine lv_aload_n hx hb dX11_unit_146 rfl (lv_at hl 2 rfl) ?_
              refine cbVv (n := 0) (rest := []) hx hb hml hown hts hE hP hD hS hA (sY_X11_countUnit_1 l dC dI cy y0 r  v4 f5 w6 g7 hIv4 hCf5 hRf5 (by show (v4 13).toInt ≤ 30; omega)) k_1688 k_1690 k_61 k_114 k_1691 (by decide +kernel) ⟨Nat.le_of_ble_eq_true rfl, Nat.le_of_ble_eq_true rfl⟩ 0 11 rfl rfl (rfl) hl.1 rfl (Nat.le_of_ble_eq_true rfl) dX11_unit_147 (fun u H locs hw hP hD hS => ?_)
              obtain ⟨v15, f16, w17, g18⟩ := u
              obtain ⟨hIv15, hCf16, hRf16, hk0_v15, hk1_v15, hk3_v15, hk4_v15, hk5_v15, hk8_v15, hk9_v15, hk10_v15, hk14_v15, hk15_v15, hk17_v15, hk18_v15, hk24_v15, hk25_v15, hk35_v15, hk36_v15, hk38_v15, hk39_v15, pv19, kq20, kq21, kq22⟩ := hw
              have hP : va_P (dC, dI) vwCl (YW cy y0 r v15 f16 w17 g18) H := hP
              have hD : va_D A (YW cy y0 r v15 f16 w17 g18) := hD
              have b13_v15 : 0 ≤ (v15 13).toInt ∧ (v15 13).toInt ≤ 31 := YIb.b hIv15.1 13 (by decide)
              have pv19 : (v15 13).toInt = (v4 13).toInt + 1 := pv19
              have hs2_f16 : f16 2 = (f 2) := kq20.trans hs2_f5
              have hs3_f16 : f16 3 = (f 3) := kq21.trans hs3_f5
              have hs6_f16 : f16 6 = (f1 6) := kq22.trans hs6_f5
              have hUv15 : (v15 35).toInt + (v15 36).toInt ≤ 40 := hIv15.2
              have hq0_v15 : v15 0 = (v 0) := hk0_v15.trans hq0_v4
              have hq1_v15 : v15 1 = (v4 1) := hk1_v15
              have zq1_v15 := congrArg Int32.toInt hq1_v15
              have hq3_v15 : v15 3 = (v1 3) := hk3_v15.trans hq3_v4
              have zq3_v15 := congrArg Int32.toInt hq3_v15
              have hq4_v15 : v15 4 = (v 4) := hk4_v15.trans hq4_v4
              have hq5_v15 : v15 5 = (v1 5) := hk5_v15.trans hq5_v4
              have zq5_v15 := congrArg Int32.toInt hq5_v15
              have hq8_v15 : v15 8 = (v 8) := hk8_v15.trans hq8_v4
              have zq8_v15 := congrArg Int32.toInt hq8_v15
              have hq9_v15 : v15 9 = (v 9) := hk9_v15.trans hq9_v4
              have hq10_v15 : v15 10 = (v1 10) := hk10_v15.trans hq10_v4
              have zq10_v15 := congrArg Int32.toInt hq10_v15
              have hq14_v15 : v15 14 = (v1 14) := hk14_v15.trans hq14_v4
              have zq14_v15 := congrArg Int32.toInt hq14_v15
              have hq15_v15 : v15 15 = (v 15) := hk15_v15.trans hq15_v4
              have hq17_v15 : v15 17 = (v 17) := hk17_v15.trans hq17_v4
              have hq18_v15 : v15 18 = (v 18) := hk18_v15.trans hq18_v4
              have hq24_v15 : v15 24 = (v 24) := hk24_v15.trans hq24_v4
              have hq25_v15 : v15 25 = (v 25) := hk25_v15.trans hq25_v4
              have hq35_v15 : v15 35 = (v 35) := hk35_v15.trans hq35_v4
              have hq36_v15 : v15 36 = (v 36) := hk36_v15.trans hq36_v4
              have hq38_v15 : v15 38 = (v 38) := hk38_v15.trans hq38_v4
              have hq39_v15 : v15 39 = (v 39) := hk39_v15.trans hq39_v4
              refine lv_aload_n hx hb dX11_unit_150 rfl (lv_at hl 2 rfl) ?_
              refine lv_iload_n hx hb dX11_unit_151 rfl (lv_at hl 0 rfl) ?_
              refine lv_if_ge (tgt := 159) hx hb dX11_unit_152 (by decide) (fun c23 => ?_) (fun c23 => ?_)
              · skip
                have zc23 : 0 ≤ r3.toInt := by rw [fa_le, show (0 : Int32).toInt = 0 from by decide] at c23; exact c23
                refine lv_iconst (v := 1) hx hb dX11_unit_159 (by decide) ?_
                refine lv_iload_n hx hb dX11_unit_160 rfl (lv_at hl 0 rfl) ?_
                refine lv_if_ge (tgt := 171) hx hb dX11_unit_161 (by decide) (fun c24 => ?_) (fun c24 => ?_)
                · skip
                  have zc24 : 0 ≤ r3.toInt := by rw [fa_le, show (0 : Int32).toInt = 0 from by decide] at c24; exact c24
                  refine lv_iload_n hx hb dX11_unit_171 rfl (lv_at hl 0 rfl) ?_
                  refine cbVv (n := 2) (rest := []) hx hb hml hown hts hE hP hD hS hA (sY_X11_add_1 l dC dI cy y0 r 1 r3 v15 f16 w17 g18 hIv15 hCf16 hRf16 (by have q1 : (1 : Int32).toInt = 1 := (by decide); show (v15 8).toInt ≤ 319; omega)) k_1696 k_1698 k_63 k_114 k_1699 (by decide +kernel) ⟨Nat.le_of_ble_eq_true rfl, Nat.le_of_ble_eq_true rfl⟩ 0 11 rfl rfl (rfl) hl.1 rfl (Nat.le_of_ble_eq_true rfl) dX11_unit_172 (fun u H locs hw hP hD hS => ?_)
                  obtain ⟨v25, f26, w27, g28⟩ := u
                  obtain ⟨hIv25, hCf26, hRf26, hk0_v25, hk1_v25, hk3_v25, hk4_v25, hk5_v25, hk9_v25, hk10_v25, hk13_v25, hk14_v25, hk15_v25, hk17_v25, hk18_v25, hk24_v25, hk25_v25, hk35_v25, hk36_v25, hk38_v25, hk39_v25, pv29, pg30, pg31, kq32⟩ := hw
                  have hP : va_P (dC, dI) vwCl (YW cy y0 r v25 f26 w27 g28) H := hP
                  have hD : va_D A (YW cy y0 r v25 f26 w27 g28) := hD
                  have b8_v25 : 0 ≤ (v25 8).toInt ∧ (v25 8).toInt ≤ 320 := YIb.b hIv25.1 8 (by decide)
                  have pv29 : (v25 8).toInt = (v15 8).toInt + 1 := pv29
                  have pg30 : (f26 2) = upd (f16 2) ((v15 8).toInt).toNat 1 := pg30
                  rw [hs2_f16] at pg30
                  have pg31 : (f26 3) = upd (f16 3) ((v15 8).toInt).toNat r3 := pg31
                  rw [hs3_f16] at pg31
                  have hs6_f26 : f26 6 = (f1 6) := kq32.trans hs6_f16
                  have hUv25 : (v25 35).toInt + (v25 36).toInt ≤ 40 := hIv25.2
                  have hq0_v25 : v25 0 = (v 0) := hk0_v25.trans hq0_v15
                  have hq1_v25 : v25 1 = (v4 1) := hk1_v25.trans hq1_v15
                  have zq1_v25 := congrArg Int32.toInt hq1_v25
                  have hq3_v25 : v25 3 = (v1 3) := hk3_v25.trans hq3_v15
                  have zq3_v25 := congrArg Int32.toInt hq3_v25
                  have hq4_v25 : v25 4 = (v 4) := hk4_v25.trans hq4_v15
                  have hq5_v25 : v25 5 = (v1 5) := hk5_v25.trans hq5_v15
                  have zq5_v25 := congrArg Int32.toInt hq5_v25
                  have hq9_v25 : v25 9 = (v 9) := hk9_v25.trans hq9_v15
                  have hq10_v25 : v25 10 = (v1 10) := hk10_v25.trans hq10_v15
                  have zq10_v25 := congrArg Int32.toInt hq10_v25
                  have hq13_v25 : v25 13 = (v15 13) := hk13_v25
                  have zq13_v25 := congrArg Int32.toInt hq13_v25
                  have hq14_v25 : v25 14 = (v1 14) := hk14_v25.trans hq14_v15
                  have zq14_v25 := congrArg Int32.toInt hq14_v25
                  have hq15_v25 : v25 15 = (v 15) := hk15_v25.trans hq15_v15
                  have hq17_v25 : v25 17 = (v 17) := hk17_v25.trans hq17_v15
                  have hq18_v25 : v25 18 = (v 18) := hk18_v25.trans hq18_v15
                  have hq24_v25 : v25 24 = (v 24) := hk24_v25.trans hq24_v15
                  have hq25_v25 : v25 25 = (v 25) := hk25_v25.trans hq25_v15
                  have hq35_v25 : v25 35 = (v 35) := hk35_v25.trans hq35_v15
                  have hq36_v25 : v25 36 = (v 36) := hk36_v25.trans hq36_v15
                  have hq38_v25 : v25 38 = (v 38) := hk38_v25.trans hq38_v15
                  have hq39_v25 : v25 39 = (v 39) := hk39_v25.trans hq39_v15
                  have hFU : FI 1 (v25 10).toInt (v25 14).toInt (v25 8).toInt (f1 6) (f26 2) (f26 3) := FI.unit (hFJ (by omega)) pg30 pg31 (by omega) (Or.inr ⟨rfl, by omega, by omega⟩) (by omega) (by first | rfl | assumption | omega) (by first | rfl | assumption | omega) (by first | rfl | assumption | omega)
                  refine lv_aload_n hx hb dX11_unit_175 rfl (lv_at hl 2 rfl) ?_
                  refine cbVv (n := 0) (rest := []) hx hb hml hown hts hE hP hD hS hA (sY_X11_token_1 l dC dI cy y0 r  v25 f26 w27 g28 hIv25 hCf26 hRf26 ) k_1579 k_1581 k_42 k_114 k_1582 (by decide +kernel) ⟨Nat.le_of_ble_eq_true rfl, Nat.le_of_ble_eq_true rfl⟩ 0 11 rfl rfl (rfl) hl.1 rfl (Nat.le_of_ble_eq_true rfl) dX11_unit_176 (fun u H locs hw hP hD hS => ?_)
                  obtain ⟨v33, f34, w35, g36⟩ := u
                  obtain ⟨hIv33, hCf34, hRf34, hk0_v33, hk1_v33, hk4_v33, hk8_v33, hk9_v33, hk10_v33, hk13_v33, hk14_v33, hk15_v33, hk17_v33, hk18_v33, hk24_v33, hk25_v33, hk35_v33, hk36_v33, hk38_v33, hk39_v33, pv37, pv38, kq39, kq40, kq41⟩ := hw
                  have hP : va_P (dC, dI) vwCl (YW cy y0 r v33 f34 w35 g36) H := hP
                  have hD : va_D A (YW cy y0 r v33 f34 w35 g36) := hD
                  have b3_v33 : 0 ≤ (v33 3).toInt ∧ (v33 3).toInt ≤ 1600 := YIb.b hIv33.1 3 (by decide)
                  have pv37 : (v25 3).toInt ≤ (v33 3).toInt := pv37
                  have pv38 : (v33 5).toInt = (v25 5).toInt ∨ (v25 3).toInt < (v33 3).toInt ∨ ¬ (v33 5).toInt = 59 := pv38
                  have hs2_f34 : f34 2 = (f26 2) := kq39
                  have hs3_f34 : f34 3 = (f26 3) := kq40
                  have hs6_f34 : f34 6 = (f1 6) := kq41.trans hs6_f26
                  have hUv33 : (v33 35).toInt + (v33 36).toInt ≤ 40 := hIv33.2
                  have hq0_v33 : v33 0 = (v 0) := hk0_v33.trans hq0_v25
                  have hq1_v33 : v33 1 = (v4 1) := hk1_v33.trans hq1_v25
                  have zq1_v33 := congrArg Int32.toInt hq1_v33
                  have hq4_v33 : v33 4 = (v 4) := hk4_v33.trans hq4_v25
                  have hq8_v33 : v33 8 = (v25 8) := hk8_v33
                  have zq8_v33 := congrArg Int32.toInt hq8_v33
                  have hq9_v33 : v33 9 = (v 9) := hk9_v33.trans hq9_v25
                  have hq10_v33 : v33 10 = (v1 10) := hk10_v33.trans hq10_v25
                  have zq10_v33 := congrArg Int32.toInt hq10_v33
                  have hq13_v33 : v33 13 = (v15 13) := hk13_v33.trans hq13_v25
                  have zq13_v33 := congrArg Int32.toInt hq13_v33
                  have hq14_v33 : v33 14 = (v1 14) := hk14_v33.trans hq14_v25
                  have zq14_v33 := congrArg Int32.toInt hq14_v33
                  have hq15_v33 : v33 15 = (v 15) := hk15_v33.trans hq15_v25
                  have hq17_v33 : v33 17 = (v 17) := hk17_v33.trans hq17_v25
                  have hq18_v33 : v33 18 = (v 18) := hk18_v33.trans hq18_v25
                  have hq24_v33 : v33 24 = (v 24) := hk24_v33.trans hq24_v25
                  have hq25_v33 : v33 25 = (v 25) := hk25_v33.trans hq25_v25
                  have hq35_v33 : v33 35 = (v 35) := hk35_v33.trans hq35_v25
                  have hq36_v33 : v33 36 = (v 36) := hk36_v33.trans hq36_v25
                  have hq38_v33 : v33 38 = (v 38) := hk38_v33.trans hq38_v25
                  have hq39_v33 : v33 39 = (v 39) := hk39_v33.trans hq39_v25
                  have hGR : GR (v 3).toInt (v 5).toInt (v33 3).toInt (v33 5).toInt := GR.tr hGR (show GR (v25 3).toInt (v25 5).toInt (v33 3).toInt (v33 5).toInt from ⟨pv37, pv38⟩) (by first | rfl | assumption | omega) (by first | rfl | assumption | omega)
                  clear pv38
                  exact ret (v33, f34, w35, g36) _ _ _ _ _ _ ⟨hIv33, hCf34, hRf34, (hk0_v33.trans (hk0_v25.trans (hk0_v15.trans (hk0_v4.trans (show v1 0 = v 0 from hq0_v1))))), (hk4_v33.trans (hk4_v25.trans (hk4_v15.trans (hk4_v4.trans (show v1 4 = v 4 from hq4_v1))))), (hk9_v33.trans (hk9_v25.trans (hk9_v15.trans (hk9_v4.trans (show v1 9 = v 9 from hq9_v1))))), (hk15_v33.trans (hk15_v25.trans (hk15_v15.trans (hk15_v4.trans (show v1 15 = v 15 from hq15_v1))))), (hk17_v33.trans (hk17_v25.trans (hk17_v15.trans (hk17_v4.trans (show v1 17 = v 17 from hq17_v1))))), (hk18_v33.trans (hk18_v25.trans (hk18_v15.trans (hk18_v4.trans (show v1 18 = v 18 from hq18_v1))))), (hk24_v33.trans (hk24_v25.trans (hk24_v15.trans (hk24_v4.trans (show v1 24 = v 24 from hq24_v1))))), (hk25_v33.trans (hk25_v25.trans (hk25_v15.trans (hk25_v4.trans (show v1 25 = v 25 from hq25_v1))))), (hk35_v33.trans (hk35_v25.trans (hk35_v15.trans (hk35_v4.trans (show v1 35 = v 35 from hq35_v1))))), (hk36_v33.trans (hk36_v25.trans (hk36_v15.trans (hk36_v4.trans (show v1 36 = v 36 from hq36_v1))))), (hk38_v33.trans (hk38_v25.trans (hk38_v15.trans (hk38_v4.trans (show v1 38 = v 38 from hq38_v1))))), (hk39_v33.trans (hk39_v25.trans (hk39_v15.trans (hk39_v4.trans (show v1 39 = v 39 from hq39_v1))))), (by show GR (v 3).toInt (v 5).toInt (v33 3).toInt (v33 5).toInt; exact GR.cast hGR (by first | rfl | assumption | omega) (by first | rfl | assumption | omega)), (by show (v33 1).toInt = 0 → FI 1 (v33 10).toInt (v33 14).toInt (v33 8).toInt (f34 6) (f34 2) (f34 3); rw [hs6_f34, hs2_f34, hs3_f34]; intro hz9; exact FI.cast hFU (by first | rfl | assumption | omega) (by first | rfl | assumption | omega) (by first | rfl | assumption | omega)), (by show NB (v33 1).toInt (v33 8).toInt (v33 10).toInt (v33 13).toInt (v33 14).toInt; exact NB.mk (by omega) (by omega) (by omega) (by omega)), (by show UG (v33 1).toInt (v 13).toInt (v33 13).toInt; exact UG.mk (by omega))⟩ hP hD hS dX11_unit_179 (Nat.le_refl _) (Nat.le_refl _)
                · skip
                  have zc24 : ¬ (0 ≤ r3.toInt) := by rw [fa_le, show (0 : Int32).toInt = 0 from by decide] at c24; exact c24
                  refine lv_aload_n hx hb dX11_unit_164 rfl (lv_at hl 2 rfl) ?_
                  refine va_get (D := (dC, dI)) (ci := 11) (v := .int (v15 7)) (C := RX11) (T := TX11) (N := 79) hx hb hts inB_11 hown hE.1 hP 0 rfl rfl 8 (by decide) (hts _ k_1328) (fun _ h9 => h9) rfl dX11_unit_165 ?_
                  refine lv_goto (tgt := 172) hx hb dX11_unit_168 (by decide) ?_
                  refine cbVv (n := 2) (rest := []) hx hb hml hown hts hE hP hD hS hA (sY_X11_add_1 l dC dI cy y0 r 1 (v15 7) v15 f16 w17 g18 hIv15 hCf16 hRf16 (by have q1 : (1 : Int32).toInt = 1 := (by decide); show (v15 8).toInt ≤ 319; omega)) k_1696 k_1698 k_63 k_114 k_1699 (by decide +kernel) ⟨Nat.le_of_ble_eq_true rfl, Nat.le_of_ble_eq_true rfl⟩ 0 11 rfl rfl (rfl) hl.1 rfl (Nat.le_of_ble_eq_true rfl) dX11_unit_172 (fun u H locs hw hP hD hS => ?_)
                  obtain ⟨v42, f43, w44, g45⟩ := u
                  obtain ⟨hIv42, hCf43, hRf43, hk0_v42, hk1_v42, hk3_v42, hk4_v42, hk5_v42, hk9_v42, hk10_v42, hk13_v42, hk14_v42, hk15_v42, hk17_v42, hk18_v42, hk24_v42, hk25_v42, hk35_v42, hk36_v42, hk38_v42, hk39_v42, pv46, pg47, pg48, kq49⟩ := hw
                  have hP : va_P (dC, dI) vwCl (YW cy y0 r v42 f43 w44 g45) H := hP
                  have hD : va_D A (YW cy y0 r v42 f43 w44 g45) := hD
                  have b8_v42 : 0 ≤ (v42 8).toInt ∧ (v42 8).toInt ≤ 320 := YIb.b hIv42.1 8 (by decide)
                  have pv46 : (v42 8).toInt = (v15 8).toInt + 1 := pv46
                  have pg47 : (f43 2) = upd (f16 2) ((v15 8).toInt).toNat 1 := pg47
                  rw [hs2_f16] at pg47
                  have pg48 : (f43 3) = upd (f16 3) ((v15 8).toInt).toNat (v15 7) := pg48
                  rw [hs3_f16] at pg48
                  have hs6_f43 : f43 6 = (f1 6) := kq49.trans hs6_f16
                  have hUv42 : (v42 35).toInt + (v42 36).toInt ≤ 40 := hIv42.2
                  have hq0_v42 : v42 0 = (v 0) := hk0_v42.trans hq0_v15
                  have hq1_v42 : v42 1 = (v4 1) := hk1_v42.trans hq1_v15
                  have zq1_v42 := congrArg Int32.toInt hq1_v42
                  have hq3_v42 : v42 3 = (v1 3) := hk3_v42.trans hq3_v15
                  have zq3_v42 := congrArg Int32.toInt hq3_v42
                  have hq4_v42 : v42 4 = (v 4) := hk4_v42.trans hq4_v15
                  have hq5_v42 : v42 5 = (v1 5) := hk5_v42.trans hq5_v15
                  have zq5_v42 := congrArg Int32.toInt hq5_v42
                  have hq9_v42 : v42 9 = (v 9) := hk9_v42.trans hq9_v15
                  have hq10_v42 : v42 10 = (v1 10) := hk10_v42.trans hq10_v15
                  have zq10_v42 := congrArg Int32.toInt hq10_v42
                  have hq13_v42 : v42 13 = (v15 13) := hk13_v42
                  have zq13_v42 := congrArg Int32.toInt hq13_v42
                  have hq14_v42 : v42 14 = (v1 14) := hk14_v42.trans hq14_v15
                  have zq14_v42 := congrArg Int32.toInt hq14_v42
                  have hq15_v42 : v42 15 = (v 15) := hk15_v42.trans hq15_v15
                  have hq17_v42 : v42 17 = (v 17) := hk17_v42.trans hq17_v15
                  have hq18_v42 : v42 18 = (v 18) := hk18_v42.trans hq18_v15
                  have hq24_v42 : v42 24 = (v 24) := hk24_v42.trans hq24_v15
                  have hq25_v42 : v42 25 = (v 25) := hk25_v42.trans hq25_v15
                  have hq35_v42 : v42 35 = (v 35) := hk35_v42.trans hq35_v15
                  have hq36_v42 : v42 36 = (v 36) := hk36_v42.trans hq36_v15
                  have hq38_v42 : v42 38 = (v 38) := hk38_v42.trans hq38_v15
                  have hq39_v42 : v42 39 = (v 39) := hk39_v42.trans hq39_v15
                  have hFU : FI 1 (v42 10).toInt (v42 14).toInt (v42 8).toInt (f1 6) (f43 2) (f43 3) := FI.unit (hFJ (by omega)) pg47 pg48 (by omega) (Or.inr ⟨rfl, by omega, by omega⟩) (by omega) (by first | rfl | assumption | omega) (by first | rfl | assumption | omega) (by first | rfl | assumption | omega)
                  refine lv_aload_n hx hb dX11_unit_175 rfl (lv_at hl 2 rfl) ?_
                  refine cbVv (n := 0) (rest := []) hx hb hml hown hts hE hP hD hS hA (sY_X11_token_1 l dC dI cy y0 r  v42 f43 w44 g45 hIv42 hCf43 hRf43 ) k_1579 k_1581 k_42 k_114 k_1582 (by decide +kernel) ⟨Nat.le_of_ble_eq_true rfl, Nat.le_of_ble_eq_true rfl⟩ 0 11 rfl rfl (rfl) hl.1 rfl (Nat.le_of_ble_eq_true rfl) dX11_unit_176 (fun u H locs hw hP hD hS => ?_)
                  obtain ⟨v50, f51, w52, g53⟩ := u
                  obtain ⟨hIv50, hCf51, hRf51, hk0_v50, hk1_v50, hk4_v50, hk8_v50, hk9_v50, hk10_v50, hk13_v50, hk14_v50, hk15_v50, hk17_v50, hk18_v50, hk24_v50, hk25_v50, hk35_v50, hk36_v50, hk38_v50, hk39_v50, pv54, pv55, kq56, kq57, kq58⟩ := hw
                  have hP : va_P (dC, dI) vwCl (YW cy y0 r v50 f51 w52 g53) H := hP
                  have hD : va_D A (YW cy y0 r v50 f51 w52 g53) := hD
                  have b3_v50 : 0 ≤ (v50 3).toInt ∧ (v50 3).toInt ≤ 1600 := YIb.b hIv50.1 3 (by decide)
                  have pv54 : (v42 3).toInt ≤ (v50 3).toInt := pv54
                  have pv55 : (v50 5).toInt = (v42 5).toInt ∨ (v42 3).toInt < (v50 3).toInt ∨ ¬ (v50 5).toInt = 59 := pv55
                  have hs2_f51 : f51 2 = (f43 2) := kq56
                  have hs3_f51 : f51 3 = (f43 3) := kq57
                  have hs6_f51 : f51 6 = (f1 6) := kq58.trans hs6_f43
                  have hUv50 : (v50 35).toInt + (v50 36).toInt ≤ 40 := hIv50.2
                  have hq0_v50 : v50 0 = (v 0) := hk0_v50.trans hq0_v42
                  have hq1_v50 : v50 1 = (v4 1) := hk1_v50.trans hq1_v42
                  have zq1_v50 := congrArg Int32.toInt hq1_v50
                  have hq4_v50 : v50 4 = (v 4) := hk4_v50.trans hq4_v42
                  have hq8_v50 : v50 8 = (v42 8) := hk8_v50
                  have zq8_v50 := congrArg Int32.toInt hq8_v50
                  have hq9_v50 : v50 9 = (v 9) := hk9_v50.trans hq9_v42
                  have hq10_v50 : v50 10 = (v1 10) := hk10_v50.trans hq10_v42
                  have zq10_v50 := congrArg Int32.toInt hq10_v50
                  have hq13_v50 : v50 13 = (v15 13) := hk13_v50.trans hq13_v42
                  have zq13_v50 := congrArg Int32.toInt hq13_v50
                  have hq14_v50 : v50 14 = (v1 14) := hk14_v50.trans hq14_v42
                  have zq14_v50 := congrArg Int32.toInt hq14_v50
                  have hq15_v50 : v50 15 = (v 15) := hk15_v50.trans hq15_v42
                  have hq17_v50 : v50 17 = (v 17) := hk17_v50.trans hq17_v42
                  have hq18_v50 : v50 18 = (v 18) := hk18_v50.trans hq18_v42
                  have hq24_v50 : v50 24 = (v 24) := hk24_v50.trans hq24_v42
                  have hq25_v50 : v50 25 = (v 25) := hk25_v50.trans hq25_v42
                  have hq35_v50 : v50 35 = (v 35) := hk35_v50.trans hq35_v42
                  have hq36_v50 : v50 36 = (v 36) := hk36_v50.trans hq36_v42
                  have hq38_v50 : v50 38 = (v 38) := hk38_v50.trans hq38_v42
                  have hq39_v50 : v50 39 = (v 39) := hk39_v50.trans hq39_v42
                  have hGR : GR (v 3).toInt (v 5).toInt (v50 3).toInt (v50 5).toInt := GR.tr hGR (show GR (v42 3).toInt (v42 5).toInt (v50 3).toInt (v50 5).toInt from ⟨pv54, pv55⟩) (by first | rfl | assumption | omega) (by first | rfl | assumption | omega)
                  clear pv55
                  exact ret (v50, f51, w52, g53) _ _ _ _ _ _ ⟨hIv50, hCf51, hRf51, (hk0_v50.trans (hk0_v42.trans (hk0_v15.trans (hk0_v4.trans (show v1 0 = v 0 from hq0_v1))))), (hk4_v50.trans (hk4_v42.trans (hk4_v15.trans (hk4_v4.trans (show v1 4 = v 4 from hq4_v1))))), (hk9_v50.trans (hk9_v42.trans (hk9_v15.trans (hk9_v4.trans (show v1 9 = v 9 from hq9_v1))))), (hk15_v50.trans (hk15_v42.trans (hk15_v15.trans (hk15_v4.trans (show v1 15 = v 15 from hq15_v1))))), (hk17_v50.trans (hk17_v42.trans (hk17_v15.trans (hk17_v4.trans (show v1 17 = v 17 from hq17_v1))))), (hk18_v50.trans (hk18_v42.trans (hk18_v15.trans (hk18_v4.trans (show v1 18 = v 18 from hq18_v1))))), (hk24_v50.trans (hk24_v42.trans (hk24_v15.trans (hk24_v4.trans (show v1 24 = v 24 from hq24_v1))))), (hk25_v50.trans (hk25_v42.trans (hk25_v15.trans (hk25_v4.trans (show v1 25 = v 25 from hq25_v1))))), (hk35_v50.trans (hk35_v42.trans (hk35_v15.trans (hk35_v4.trans (show v1 35 = v 35 from hq35_v1))))), (hk36_v50.trans (hk36_v42.trans (hk36_v15.trans (hk36_v4.trans (show v1 36 = v 36 from hq36_v1))))), (hk38_v50.trans (hk38_v42.trans (hk38_v15.trans (hk38_v4.trans (show v1 38 = v 38 from hq38_v1))))), (hk39_v50.trans (hk39_v42.trans (hk39_v15.trans (hk39_v4.trans (show v1 39 = v 39 from hq39_v1))))), (by show GR (v 3).toInt (v 5).toInt (v50 3).toInt (v50 5).toInt; exact GR.cast hGR (by first | rfl | assumption | omega) (by first | rfl | assumption | omega)), (by show (v50 1).toInt = 0 → FI 1 (v50 10).toInt (v50 14).toInt (v50 8).toInt (f51 6) (f51 2) (f51 3); rw [hs6_f51, hs2_f51, hs3_f51]; intro hz9; exact FI.cast hFU (by first | rfl | assumption | omega) (by first | rfl | assumption | omega) (by first | rfl | assumption | omega)), (by show NB (v50 1).toInt (v50 8).toInt (v50 10).toInt (v50 13).toInt (v50 14).toInt; exact NB.mk (by omega) (by omega) (by omega) (by omega)), (by show UG (v50 1).toInt (v 13).toInt (v50 13).toInt; exact UG.mk (by omega))⟩ hP hD hS dX11_unit_179 (Nat.le_refl _) (Nat.le_refl _)
              · skip
                have zc23 : ¬ (0 ≤ r3.toInt) := by rw [fa_le, show (0 : Int32).toInt = 0 from by decide] at c23; exact c23
                refine lv_iconst (v := 0) hx hb dX11_unit_155 (by decide) ?_
                refine lv_goto (tgt := 160) hx hb dX11_unit_156 (by decide) ?_
                refine lv_iload_n hx hb dX11_unit_160 rfl (lv_at hl 0 rfl) ?_
                refine lv_if_ge (tgt := 171) hx hb dX11_unit_161 (by decide) (fun c59 => ?_) (fun c59 => ?_)
                · skip
                  have zc59 : 0 ≤ r3.toInt := by rw [fa_le, show (0 : Int32).toInt = 0 from by decide] at c59; exact c59
                  refine lv_iload_n hx hb dX11_unit_171 rfl (lv_at hl 0 rfl) ?_
                  refine cbVv (n := 2) (rest := []) hx hb hml hown hts hE hP hD hS hA (sY_X11_add_1 l dC dI cy y0 r 0 r3 v15 f16 w17 g18 hIv15 hCf16 hRf16 (by have q1 : (0 : Int32).toInt = 0 := (by decide); show (v15 8).toInt ≤ 319; omega)) k_1696 k_1698 k_63 k_114 k_1699 (by decide +kernel) ⟨Nat.le_of_ble_eq_true rfl, Nat.le_of_ble_eq_true rfl⟩ 0 11 rfl rfl (rfl) hl.1 rfl (Nat.le_of_ble_eq_true rfl) dX11_unit_172 (fun u H locs hw hP hD hS => ?_)
                  obtain ⟨v60, f61, w62, g63⟩ := u
                  obtain ⟨hIv60, hCf61, hRf61, hk0_v60, hk1_v60, hk3_v60, hk4_v60, hk5_v60, hk9_v60, hk10_v60, hk13_v60, hk14_v60, hk15_v60, hk17_v60, hk18_v60, hk24_v60, hk25_v60, hk35_v60, hk36_v60, hk38_v60, hk39_v60, pv64, pg65, pg66, kq67⟩ := hw
                  have hP : va_P (dC, dI) vwCl (YW cy y0 r v60 f61 w62 g63) H := hP
                  have hD : va_D A (YW cy y0 r v60 f61 w62 g63) := hD
                  have b8_v60 : 0 ≤ (v60 8).toInt ∧ (v60 8).toInt ≤ 320 := YIb.b hIv60.1 8 (by decide)
                  have pv64 : (v60 8).toInt = (v15 8).toInt + 1 := pv64
                  have pg65 : (f61 2) = upd (f16 2) ((v15 8).toInt).toNat 0 := pg65
                  rw [hs2_f16] at pg65
                  have pg66 : (f61 3) = upd (f16 3) ((v15 8).toInt).toNat r3 := pg66
                  rw [hs3_f16] at pg66
                  have hs6_f61 : f61 6 = (f1 6) := kq67.trans hs6_f16
                  have hUv60 : (v60 35).toInt + (v60 36).toInt ≤ 40 := hIv60.2
                  have hq0_v60 : v60 0 = (v 0) := hk0_v60.trans hq0_v15
                  have hq1_v60 : v60 1 = (v4 1) := hk1_v60.trans hq1_v15
                  have zq1_v60 := congrArg Int32.toInt hq1_v60
                  have hq3_v60 : v60 3 = (v1 3) := hk3_v60.trans hq3_v15
                  have zq3_v60 := congrArg Int32.toInt hq3_v60
                  have hq4_v60 : v60 4 = (v 4) := hk4_v60.trans hq4_v15
                  have hq5_v60 : v60 5 = (v1 5) := hk5_v60.trans hq5_v15
                  have zq5_v60 := congrArg Int32.toInt hq5_v60
                  have hq9_v60 : v60 9 = (v 9) := hk9_v60.trans hq9_v15
                  have hq10_v60 : v60 10 = (v1 10) := hk10_v60.trans hq10_v15
                  have zq10_v60 := congrArg Int32.toInt hq10_v60
                  have hq13_v60 : v60 13 = (v15 13) := hk13_v60
                  have zq13_v60 := congrArg Int32.toInt hq13_v60
                  have hq14_v60 : v60 14 = (v1 14) := hk14_v60.trans hq14_v15
                  have zq14_v60 := congrArg Int32.toInt hq14_v60
                  have hq15_v60 : v60 15 = (v 15) := hk15_v60.trans hq15_v15
                  have hq17_v60 : v60 17 = (v 17) := hk17_v60.trans hq17_v15
                  have hq18_v60 : v60 18 = (v 18) := hk18_v60.trans hq18_v15
                  have hq24_v60 : v60 24 = (v 24) := hk24_v60.trans hq24_v15
                  have hq25_v60 : v60 25 = (v 25) := hk25_v60.trans hq25_v15
                  have hq35_v60 : v60 35 = (v 35) := hk35_v60.trans hq35_v15
                  have hq36_v60 : v60 36 = (v 36) := hk36_v60.trans hq36_v15
                  have hq38_v60 : v60 38 = (v 38) := hk38_v60.trans hq38_v15
                  have hq39_v60 : v60 39 = (v 39) := hk39_v60.trans hq39_v15
                  have hFU : FI 1 (v60 10).toInt (v60 14).toInt (v60 8).toInt (f1 6) (f61 2) (f61 3) := FI.unit (hFJ (by omega)) pg65 pg66 (by omega) (Or.inl rfl) (by omega) (by first | rfl | assumption | omega) (by first | rfl | assumption | omega) (by first | rfl | assumption | omega)
                  refine lv_aload_n hx hb dX11_unit_175 rfl (lv_at hl 2 rfl) ?_
                  refine cbVv (n := 0) (rest := []) hx hb hml hown hts hE hP hD hS hA (sY_X11_token_1 l dC dI cy y0 r  v60 f61 w62 g63 hIv60 hCf61 hRf61 ) k_1579 k_1581 k_42 k_114 k_1582 (by decide +kernel) ⟨Nat.le_of_ble_eq_true rfl, Nat.le_of_ble_eq_true rfl⟩ 0 11 rfl rfl (rfl) hl.1 rfl (Nat.le_of_ble_eq_true rfl) dX11_unit_176 (fun u H locs hw hP hD hS => ?_)
                  obtain ⟨v68, f69, w70, g71⟩ := u
                  obtain ⟨hIv68, hCf69, hRf69, hk0_v68, hk1_v68, hk4_v68, hk8_v68, hk9_v68, hk10_v68, hk13_v68, hk14_v68, hk15_v68, hk17_v68, hk18_v68, hk24_v68, hk25_v68, hk35_v68, hk36_v68, hk38_v68, hk39_v68, pv72, pv73, kq74, kq75, kq76⟩ := hw
                  have hP : va_P (dC, dI) vwCl (YW cy y0 r v68 f69 w70 g71) H := hP
                  have hD : va_D A (YW cy y0 r v68 f69 w70 g71) := hD
                  have b3_v68 : 0 ≤ (v68 3).toInt ∧ (v68 3).toInt ≤ 1600 := YIb.b hIv68.1 3 (by decide)
                  have pv72 : (v60 3).toInt ≤ (v68 3).toInt := pv72
                  have pv73 : (v68 5).toInt = (v60 5).toInt ∨ (v60 3).toInt < (v68 3).toInt ∨ ¬ (v68 5).toInt = 59 := pv73
                  have hs2_f69 : f69 2 = (f61 2) := kq74
                  have hs3_f69 : f69 3 = (f61 3) := kq75
                  have hs6_f69 : f69 6 = (f1 6) := kq76.trans hs6_f61
                  have hUv68 : (v68 35).toInt + (v68 36).toInt ≤ 40 := hIv68.2
                  have hq0_v68 : v68 0 = (v 0) := hk0_v68.trans hq0_v60
                  have hq1_v68 : v68 1 = (v4 1) := hk1_v68.trans hq1_v60
                  have zq1_v68 := congrArg Int32.toInt hq1_v68
                  have hq4_v68 : v68 4 = (v 4) := hk4_v68.trans hq4_v60
                  have hq8_v68 : v68 8 = (v60 8) := hk8_v68
                  have zq8_v68 := congrArg Int32.toInt hq8_v68
                  have hq9_v68 : v68 9 = (v 9) := hk9_v68.trans hq9_v60
                  have hq10_v68 : v68 10 = (v1 10) := hk10_v68.trans hq10_v60
                  have zq10_v68 := congrArg Int32.toInt hq10_v68
                  have hq13_v68 : v68 13 = (v15 13) := hk13_v68.trans hq13_v60
                  have zq13_v68 := congrArg Int32.toInt hq13_v68
                  have hq14_v68 : v68 14 = (v1 14) := hk14_v68.trans hq14_v60
                  have zq14_v68 := congrArg Int32.toInt hq14_v68
                  have hq15_v68 : v68 15 = (v 15) := hk15_v68.trans hq15_v60
                  have hq17_v68 : v68 17 = (v 17) := hk17_v68.trans hq17_v60
                  have hq18_v68 : v68 18 = (v 18) := hk18_v68.trans hq18_v60
                  have hq24_v68 : v68 24 = (v 24) := hk24_v68.trans hq24_v60
                  have hq25_v68 : v68 25 = (v 25) := hk25_v68.trans hq25_v60
                  have hq35_v68 : v68 35 = (v 35) := hk35_v68.trans hq35_v60
                  have hq36_v68 : v68 36 = (v 36) := hk36_v68.trans hq36_v60
                  have hq38_v68 : v68 38 = (v 38) := hk38_v68.trans hq38_v60
                  have hq39_v68 : v68 39 = (v 39) := hk39_v68.trans hq39_v60
                  have hGR : GR (v 3).toInt (v 5).toInt (v68 3).toInt (v68 5).toInt := GR.tr hGR (show GR (v60 3).toInt (v60 5).toInt (v68 3).toInt (v68 5).toInt from ⟨pv72, pv73⟩) (by first | rfl | assumption | omega) (by first | rfl | assumption | omega)
                  clear pv73
                  exact ret (v68, f69, w70, g71) _ _ _ _ _ _ ⟨hIv68, hCf69, hRf69, (hk0_v68.trans (hk0_v60.trans (hk0_v15.trans (hk0_v4.trans (show v1 0 = v 0 from hq0_v1))))), (hk4_v68.trans (hk4_v60.trans (hk4_v15.trans (hk4_v4.trans (show v1 4 = v 4 from hq4_v1))))), (hk9_v68.trans (hk9_v60.trans (hk9_v15.trans (hk9_v4.trans (show v1 9 = v 9 from hq9_v1))))), (hk15_v68.trans (hk15_v60.trans (hk15_v15.trans (hk15_v4.trans (show v1 15 = v 15 from hq15_v1))))), (hk17_v68.trans (hk17_v60.trans (hk17_v15.trans (hk17_v4.trans (show v1 17 = v 17 from hq17_v1))))), (hk18_v68.trans (hk18_v60.trans (hk18_v15.trans (hk18_v4.trans (show v1 18 = v 18 from hq18_v1))))), (hk24_v68.trans (hk24_v60.trans (hk24_v15.trans (hk24_v4.trans (show v1 24 = v 24 from hq24_v1))))), (hk25_v68.trans (hk25_v60.trans (hk25_v15.trans (hk25_v4.trans (show v1 25 = v 25 from hq25_v1))))), (hk35_v68.trans (hk35_v60.trans (hk35_v15.trans (hk35_v4.trans (show v1 35 = v 35 from hq35_v1))))), (hk36_v68.trans (hk36_v60.trans (hk36_v15.trans (hk36_v4.trans (show v1 36 = v 36 from hq36_v1))))), (hk38_v68.trans (hk38_v60.trans (hk38_v15.trans (hk38_v4.trans (show v1 38 = v 38 from hq38_v1))))), (hk39_v68.trans (hk39_v60.trans (hk39_v15.trans (hk39_v4.trans (show v1 39 = v 39 from hq39_v1))))), (by show GR (v 3).toInt (v 5).toInt (v68 3).toInt (v68 5).toInt; exact GR.cast hGR (by first | rfl | assumption | omega) (by first | rfl | assumption | omega)), (by show (v68 1).toInt = 0 → FI 1 (v68 10).toInt (v68 14).toInt (v68 8).toInt (f69 6) (f69 2) (f69 3); rw [hs6_f69, hs2_f69, hs3_f69]; intro hz9; exact FI.cast hFU (by first | rfl | assumption | omega) (by first | rfl | assumption | omega) (by first | rfl | assumption | omega)), (by show NB (v68 1).toInt (v68 8).toInt (v68 10).toInt (v68 13).toInt (v68 14).toInt; exact NB.mk (by omega) (by omega) (by omega) (by omega)), (by show UG (v68 1).toInt (v 13).toInt (v68 13).toInt; exact UG.mk (by omega))⟩ hP hD hS dX11_unit_179 (Nat.le_refl _) (Nat.le_refl _)
                · skip
                  have zc59 : ¬ (0 ≤ r3.toInt) := by rw [fa_le, show (0 : Int32).toInt = 0 from by decide] at c59; exact c59
                  refine lv_aload_n hx hb dX11_unit_164 rfl (lv_at hl 2 rfl) ?_
                  refine va_get (D := (dC, dI)) (ci := 11) (v := .int (v15 7)) (C := RX11) (T := TX11) (N := 79) hx hb hts inB_11 hown hE.1 hP 0 rfl rfl 8 (by decide) (hts _ k_1328) (fun _ h9 => h9) rfl dX11_unit_165 ?_
                  refine lv_goto (tgt := 172) hx hb dX11_unit_168 (by decide) ?_
                  refine cbVv (n := 2) (rest := []) hx hb hml hown hts hE hP hD hS hA (sY_X11_add_1 l dC dI cy y0 r 0 (v15 7) v15 f16 w17 g18 hIv15 hCf16 hRf16 (by have q1 : (0 : Int32).toInt = 0 := (by decide); show (v15 8).toInt ≤ 319; omega)) k_1696 k_1698 k_63 k_114 k_1699 (by decide +kernel) ⟨Nat.le_of_ble_eq_true rfl, Nat.le_of_ble_eq_true rfl⟩ 0 11 rfl rfl (rfl) hl.1 rfl (Nat.le_of_ble_eq_true rfl) dX11_unit_172 (fun u H locs hw hP hD hS => ?_)
                  obtain ⟨v77, f78, w79, g80⟩ := u
                  obtain ⟨hIv77, hCf78, hRf78, hk0_v77, hk1_v77, hk3_v77, hk4_v77, hk5_v77, hk9_v77, hk10_v77, hk13_v77, hk14_v77, hk15_v77, hk17_v77, hk18_v77, hk24_v77, hk25_v77, hk35_v77, hk36_v77, hk38_v77, hk39_v77, pv81, pg82, pg83, kq84⟩ := hw
                  have hP : va_P (dC, dI) vwCl (YW cy y0 r v77 f78 w79 g80) H := hP
                  have hD : va_D A (YW cy y0 r v77 f78 w79 g80) := hD
                  have b8_v77 : 0 ≤ (v77 8).toInt ∧ (v77 8).toInt ≤ 320 := YIb.b hIv77.1 8 (by decide)
                  have pv81 : (v77 8).toInt = (v15 8).toInt + 1 := pv81
                  have pg82 : (f78 2) = upd (f16 2) ((v15 8).toInt).toNat 0 := pg82
                  rw [hs2_f16] at pg82
                  have pg83 : (f78 3) = upd (f16 3) ((v15 8).toInt).toNat (v15 7) := pg83
                  rw [hs3_f16] at pg83
                  have hs6_f78 : f78 6 = (f1 6) := kq84.trans hs6_f16
                  have hUv77 : (v77 35).toInt + (v77 36).toInt ≤ 40 := hIv77.2
                  have hq0_v77 : v77 0 = (v 0) := hk0_v77.trans hq0_v15
                  have hq1_v77 : v77 1 = (v4 1) := hk1_v77.trans hq1_v15
                  have zq1_v77 := congrArg Int32.toInt hq1_v77
                  have hq3_v77 : v77 3 = (v1 3) := hk3_v77.trans hq3_v15
                  have zq3_v77 := congrArg Int32.toInt hq3_v77
                  have hq4_v77 : v77 4 = (v 4) := hk4_v77.trans hq4_v15
                  have hq5_v77 : v77 5 = (v1 5) := hk5_v77.trans hq5_v15
                  have zq5_v77 := congrArg Int32.toInt hq5_v77
                  have hq9_v77 : v77 9 = (v 9) := hk9_v77.trans hq9_v15
                  have hq10_v77 : v77 10 = (v1 10) := hk10_v77.trans hq10_v15
                  have zq10_v77 := congrArg Int32.toInt hq10_v77
                  have hq13_v77 : v77 13 = (v15 13) := hk13_v77
                  have zq13_v77 := congrArg Int32.toInt hq13_v77
                  have hq14_v77 : v77 14 = (v1 14) := hk14_v77.trans hq14_v15
                  have zq14_v77 := congrArg Int32.toInt hq14_v77
                  have hq15_v77 : v77 15 = (v 15) := hk15_v77.trans hq15_v15
                  have hq17_v77 : v77 17 = (v 17) := hk17_v77.trans hq17_v15
                  have hq18_v77 : v77 18 = (v 18) := hk18_v77.trans hq18_v15
                  have hq24_v77 : v77 24 = (v 24) := hk24_v77.trans hq24_v15
                  have hq25_v77 : v77 25 = (v 25) := hk25_v77.trans hq25_v15
                  have hq35_v77 : v77 35 = (v 35) := hk35_v77.trans hq35_v15
                  have hq36_v77 : v77 36 = (v 36) := hk36_v77.trans hq36_v15
                  have hq38_v77 : v77 38 = (v 38) := hk38_v77.trans hq38_v15
                  have hq39_v77 : v77 39 = (v 39) := hk39_v77.trans hq39_v15
                  have hFU : FI 1 (v77 10).toInt (v77 14).toInt (v77 8).toInt (f1 6) (f78 2) (f78 3) := FI.unit (hFJ (by omega)) pg82 pg83 (by omega) (Or.inl rfl) (by omega) (by first | rfl | assumption | omega) (by first | rfl | assumption | omega) (by first | rfl | assumption | omega)
                  refine lv_aload_n hx hb dX11_unit_175 rfl (lv_at hl 2 rfl) ?_
                  refine cbVv (n := 0) (rest := []) hx hb hml hown hts hE hP hD hS hA (sY_X11_token_1 l dC dI cy y0 r  v77 f78 w79 g80 hIv77 hCf78 hRf78 ) k_1579 k_1581 k_42 k_114 k_1582 (by decide +kernel) ⟨Nat.le_of_ble_eq_true rfl, Nat.le_of_ble_eq_true rfl⟩ 0 11 rfl rfl (rfl) hl.1 rfl (Nat.le_of_ble_eq_true rfl) dX11_unit_176 (fun u H locs hw hP hD hS => ?_)
                  obtain ⟨v85, f86, w87, g88⟩ := u
                  obtain ⟨hIv85, hCf86, hRf86, hk0_v85, hk1_v85, hk4_v85, hk8_v85, hk9_v85, hk10_v85, hk13_v85, hk14_v85, hk15_v85, hk17_v85, hk18_v85, hk24_v85, hk25_v85, hk35_v85, hk36_v85, hk38_v85, hk39_v85, pv89, pv90, kq91, kq92, kq93⟩ := hw
                  have hP : va_P (dC, dI) vwCl (YW cy y0 r v85 f86 w87 g88) H := hP
                  have hD : va_D A (YW cy y0 r v85 f86 w87 g88) := hD
                  have b3_v85 : 0 ≤ (v85 3).toInt ∧ (v85 3).toInt ≤ 1600 := YIb.b hIv85.1 3 (by decide)
                  have pv89 : (v77 3).toInt ≤ (v85 3).toInt := pv89
                  have pv90 : (v85 5).toInt = (v77 5).toInt ∨ (v77 3).toInt < (v85 3).toInt ∨ ¬ (v85 5).toInt = 59 := pv90
                  have hs2_f86 : f86 2 = (f78 2) := kq91
                  have hs3_f86 : f86 3 = (f78 3) := kq92
                  have hs6_f86 : f86 6 = (f1 6) := kq93.trans hs6_f78
                  have hUv85 : (v85 35).toInt + (v85 36).toInt ≤ 40 := hIv85.2
                  have hq0_v85 : v85 0 = (v 0) := hk0_v85.trans hq0_v77
                  have hq1_v85 : v85 1 = (v4 1) := hk1_v85.trans hq1_v77
                  have zq1_v85 := congrArg Int32.toInt hq1_v85
                  have hq4_v85 : v85 4 = (v 4) := hk4_v85.trans hq4_v77
                  have hq8_v85 : v85 8 = (v77 8) := hk8_v85
                  have zq8_v85 := congrArg Int32.toInt hq8_v85
                  have hq9_v85 : v85 9 = (v 9) := hk9_v85.trans hq9_v77
                  have hq10_v85 : v85 10 = (v1 10) := hk10_v85.trans hq10_v77
                  have zq10_v85 := congrArg Int32.toInt hq10_v85
                  have hq13_v85 : v85 13 = (v15 13) := hk13_v85.trans hq13_v77
                  have zq13_v85 := congrArg Int32.toInt hq13_v85
                  have hq14_v85 : v85 14 = (v1 14) := hk14_v85.trans hq14_v77
                  have zq14_v85 := congrArg Int32.toInt hq14_v85
                  have hq15_v85 : v85 15 = (v 15) := hk15_v85.trans hq15_v77
                  have hq17_v85 : v85 17 = (v 17) := hk17_v85.trans hq17_v77
                  have hq18_v85 : v85 18 = (v 18) := hk18_v85.trans hq18_v77
                  have hq24_v85 : v85 24 = (v 24) := hk24_v85.trans hq24_v77
                  have hq25_v85 : v85 25 = (v 25) := hk25_v85.trans hq25_v77
                  have hq35_v85 : v85 35 = (v 35) := hk35_v85.trans hq35_v77
                  have hq36_v85 : v85 36 = (v 36) := hk36_v85.trans hq36_v77
                  have hq38_v85 : v85 38 = (v 38) := hk38_v85.trans hq38_v77
                  have hq39_v85 : v85 39 = (v 39) := hk39_v85.trans hq39_v77
                  have hGR : GR (v 3).toInt (v 5).toInt (v85 3).toInt (v85 5).toInt := GR.tr hGR (show GR (v77 3).toInt (v77 5).toInt (v85 3).toInt (v85 5).toInt from ⟨pv89, pv90⟩) (by first | rfl | assumption | omega) (by first | rfl | assumption | omega)
                  clear pv90
                  exact ret (v85, f86, w87, g88) _ _ _ _ _ _ ⟨hIv85, hCf86, hRf86, (hk0_v85.trans (hk0_v77.trans (hk0_v15.trans (hk0_v4.trans (show v1 0 = v 0 from hq0_v1))))), (hk4_v85.trans (hk4_v77.trans (hk4_v15.trans (hk4_v4.trans (show v1 4 = v 4 from hq4_v1))))), (hk9_v85.trans (hk9_v77.trans (hk9_v15.trans (hk9_v4.trans (show v1 9 = v 9 from hq9_v1))))), (hk15_v85.trans (hk15_v77.trans (hk15_v15.trans (hk15_v4.trans (show v1 15 = v 15 from hq15_v1))))), (hk17_v85.trans (hk17_v77.trans (hk17_v15.trans (hk17_v4.trans (show v1 17 = v 17 from hq17_v1))))), (hk18_v85.trans (hk18_v77.trans (hk18_v15.trans (hk18_v4.trans (show v1 18 = v 18 from hq18_v1))))), (hk24_v85.trans (hk24_v77.trans (hk24_v15.trans (hk24_v4.trans (show v1 24 = v 24 from hq24_v1))))), (hk25_v85.trans (hk25_v77.trans (hk25_v15.trans (hk25_v4.trans (show v1 25 = v 25 from hq25_v1))))), (hk35_v85.trans (hk35_v77.trans (hk35_v15.trans (hk35_v4.trans (show v1 35 = v 35 from hq35_v1))))), (hk36_v85.trans (hk36_v77.trans (hk36_v15.trans (hk36_v4.trans (show v1 36 = v 36 from hq36_v1))))), (hk38_v85.trans (hk38_v77.trans (hk38_v15.trans (hk38_v4.trans (show v1 38 = v 38 from hq38_v1))))), (hk39_v85.trans (hk39_v77.trans (hk39_v15.trans (hk39_v4.trans (show v1 39 = v 39 from hq39_v1))))), (by show GR (v 3).toInt (v 5).toInt (v85 3).toInt (v85 5).toInt; exact GR.cast hGR (by first | rfl | assumption | omega) (by first | rfl | assumption | omega)), (by show (v85 1).toInt = 0 → FI 1 (v85 10).toInt (v85 14).toInt (v85 8).toInt (f86 6) (f86 2) (f86 3); rw [hs6_f86, hs2_f86, hs3_f86]; intro hz9; exact FI.cast hFU (by first | rfl | assumption | omega) (by first | rfl | assumption | omega) (by first | rfl | assumption | omega)), (by show NB (v85 1).toInt (v85 8).toInt (v85 10).toInt (v85 13).toInt (v85 14).toInt; exact NB.mk (by omega) (by omega) (by omega) (by omega)), (by show UG (v85 1).toInt (v 13).toInt (v85 13).toInt; exact UG.mk (by omega))⟩ hP hD hS dX11_unit_179 (Nat.le_refl _) (Nat.le_refl _)
            · skip
              have zc14 : ¬ ((v4 1).toInt ≤ 0) := by rw [fa_le, show (0 : Int32).toInt = 0 from by decide] at c14; exact c14
              exact ret (v4, f5, w6, g7) _ _ _ _ _ _ ⟨hIv4, hCf5, hRf5, (hk0_v4.trans (show v1 0 = v 0 from hq0_v1)), (hk4_v4.trans (show v1 4 = v 4 from hq4_v1)), (hk9_v4.trans (show v1 9 = v 9 from hq9_v1)), (hk15_v4.trans (show v1 15 = v 15 from hq15_v1)), (hk17_v4.trans (show v1 17 = v 17 from hq17_v1)), (hk18_v4.trans (show v1 18 = v 18 from hq18_v1)), (hk24_v4.trans (show v1 24 = v 24 from hq24_v1)), (hk25_v4.trans (show v1 25 = v 25 from hq25_v1)), (hk35_v4.trans (show v1 35 = v 35 from hq35_v1)), (hk36_v4.trans (show v1 36 = v 36 from hq36_v1)), (hk38_v4.trans (show v1 38 = v 38 from hq38_v1)), (hk39_v4.trans (show v1 39 = v 39 from hq39_v1)), (by show GR (v 3).toInt (v 5).toInt (v4 3).toInt (v4 5).toInt; exact GR.cast hGR (by first | rfl | assumption | omega) (by first | rfl | assumption | omega)), (by show (v4 1).toInt = 0 → FI 1 (v4 10).toInt (v4 14).toInt (v4 8).toInt (f5 6) (f5 2) (f5 3); rw [hs6_f5, hs2_f5, hs3_f5]; intro hz9; exfalso; omega), (by show NB (v4 1).toInt (v4 8).toInt (v4 10).toInt (v4 13).toInt (v4 14).toInt; exact NB.ab (by omega)), (by show UG (v4 1).toInt (v 13).toInt (v4 13).toInt; exact UG.ab (by omega))⟩ hP hD hS dX11_unit_145 (Nat.le_refl _) (Nat.le_refl _)
          have jp126 : ∀ (H : Heap) (locs : List Loc) (ls : Array Slot), va_P (dC, dI) vwCl (YW cy y0 r v1 f1 w1 g1) H → va_D A (YW cy y0 r v1 f1 w1 g1) → va_S A s.heap H locs → lv_has ls 3 [(2, .int r3), (1, .int l1_1), (0, .ref y0)] → W p l e { frames := 4, cells := 0, slots := 0, locals := 124 } s m ([.ref y0] : List Value).toArray below meth c H locs 0 0 Q (F0 m 126 ls []) := by
            intro H locs ls hP hD hS hl
            refine lv_aload_n hx hb dX11_unit_126 rfl (lv_at hl 2 rfl) ?_
            refine cbVi (n := 0) (rest := []) hx hb hml hown hts hE hP hD hS hA (sY_X11_isFull_1 l dC dI cy y0 r  v1 f1 w1 g1 hIv1 hCf1 hRf1 ) k_1684 k_1686 k_60 k_114 k_1687 (by decide +kernel) ⟨Nat.le_of_ble_eq_true rfl, Nat.le_of_ble_eq_true rfl⟩ 0 11 rfl rfl (rfl) hl.1 rfl (Nat.le_of_ble_eq_true rfl) dX11_unit_127 (fun r94 u H locs hw hP hD hS => ?_)
            rcases hw with ⟨g95⟩ | ⟨g95, g95_0⟩
            · skip
              subst g95
              refine lv_if_eq (tgt := 138) hx hb dX11_unit_130 (by decide) (fun c0 => absurd c0 (by decide)) (fun _ => ?_)
              exact jp133 _ _ _ hP hD hS hl
            · skip
              subst g95
              refine lv_if_eq (tgt := 138) hx hb dX11_unit_130 (by decide) (fun _ => ?_) (fun c0 => absurd (by decide) c0)
              refine lv_aload_n hx hb dX11_unit_138 rfl (lv_at hl 2 rfl) ?_
              refine va_get (D := (dC, dI)) (ci := 11) (v := .int (v1 1)) (C := RX11) (T := TX11) (N := 79) hx hb hts inB_11 hown hE.1 hP 0 rfl rfl 2 (by decide) (hts _ k_1322) (fun _ h9 => h9) rfl dX11_unit_139 ?_
              refine lv_if_le (tgt := 146) hx hb dX11_unit_142 (by decide) (fun c96 => ?_) (fun c96 => ?_)
              · skip
                have zc96 : (v1 1).toInt ≤ 0 := by rw [fa_le, show (0 : Int32).toInt = 0 from by decide] at c96; exact c96
                refine lv_aload_n hx hb dX11_unit_146 rfl (lv_at hl 2 rfl) ?_
                refine cbVv (n := 0) (rest := []) hx hb hml hown hts hE hP hD hS hA (sY_X11_countUnit_1 l dC dI cy y0 r  v1 f1 w1 g1 hIv1 hCf1 hRf1 (by show (v1 13).toInt ≤ 30; omega)) k_1688 k_1690 k_61 k_114 k_1691 (by decide +kernel) ⟨Nat.le_of_ble_eq_true rfl, Nat.le_of_ble_eq_true rfl⟩ 0 11 rfl rfl (rfl) hl.1 rfl (Nat.le_of_ble_eq_true rfl) dX11_unit_147 (fun u H locs hw hP hD hS => ?_)
                obtain ⟨v97, f98, w99, g100⟩ := u
                obtain ⟨hIv97, hCf98, hRf98, hk0_v97, hk1_v97, hk3_v97, hk4_v97, hk5_v97, hk8_v97, hk9_v97, hk10_v97, hk14_v97, hk15_v97, hk17_v97, hk18_v97, hk24_v97, hk25_v97, hk35_v97, hk36_v97, hk38_v97, hk39_v97, pv101, kq102, kq103, kq104⟩ := hw
                have hP : va_P (dC, dI) vwCl (YW cy y0 r v97 f98 w99 g100) H := hP
                have hD : va_D A (YW cy y0 r v97 f98 w99 g100) := hD
                have b13_v97 : 0 ≤ (v97 13).toInt ∧ (v97 13).toInt ≤ 31 := YIb.b hIv97.1 13 (by decide)
                have pv101 : (v97 13).toInt = (v1 13).toInt + 1 := pv101
                have hs2_f98 : f98 2 = (f 2) := kq102.trans hs2_f1
                have hs3_f98 : f98 3 = (f 3) := kq103.trans hs3_f1
                have hs6_f98 : f98 6 = (f1 6) := kq104
                have hUv97 : (v97 35).toInt + (v97 36).toInt ≤ 40 := hIv97.2
                have hq0_v97 : v97 0 = (v 0) := hk0_v97.trans hq0_v1
                have hq1_v97 : v97 1 = (v1 1) := hk1_v97
                have zq1_v97 := congrArg Int32.toInt hq1_v97
                have hq3_v97 : v97 3 = (v1 3) := hk3_v97
                have zq3_v97 := congrArg Int32.toInt hq3_v97
                have hq4_v97 : v97 4 = (v 4) := hk4_v97.trans hq4_v1
                have hq5_v97 : v97 5 = (v1 5) := hk5_v97
                have zq5_v97 := congrArg Int32.toInt hq5_v97
                have hq8_v97 : v97 8 = (v 8) := hk8_v97.trans hq8_v1
                have zq8_v97 := congrArg Int32.toInt hq8_v97
                have hq9_v97 : v97 9 = (v 9) := hk9_v97.trans hq9_v1
                have hq10_v97 : v97 10 = (v1 10) := hk10_v97
                have zq10_v97 := congrArg Int32.toInt hq10_v97
                have hq14_v97 : v97 14 = (v1 14) := hk14_v97
                have zq14_v97 := congrArg Int32.toInt hq14_v97
                have hq15_v97 : v97 15 = (v 15) := hk15_v97.trans hq15_v1
                have hq17_v97 : v97 17 = (v 17) := hk17_v97.trans hq17_v1
                have hq18_v97 : v97 18 = (v 18) := hk18_v97.trans hq18_v1
                have hq24_v97 : v97 24 = (v 24) := hk24_v97.trans hq24_v1
                have hq25_v97 : v97 25 = (v 25) := hk25_v97.trans hq25_v1
                have hq35_v97 : v97 35 = (v 35) := hk35_v97.trans hq35_v1
                have hq36_v97 : v97 36 = (v 36) := hk36_v97.trans hq36_v1
                have hq38_v97 : v97 38 = (v 38) := hk38_v97.trans hq38_v1
                have hq39_v97 : v97 39 = (v 39) := hk39_v97.trans hq39_v1
                refine lv_aload_n hx hb dX11_unit_150 rfl (lv_at hl 2 rfl) ?_
                refine lv_iload_n hx hb dX11_unit_151 rfl (lv_at hl 0 rfl) ?_
                refine lv_if_ge (tgt := 159) hx hb dX11_unit_152 (by decide) (fun c105 => ?_) (fun c105 => ?_)
                · skip
                  have zc105 : 0 ≤ r3.toInt := by rw [fa_le, show (0 : Int32).toInt = 0 from by decide] at c105; exact c105
                  refine lv_iconst (v := 1) hx hb dX11_unit_159 (by decide) ?_
                  refine lv_iload_n hx hb dX11_unit_160 rfl (lv_at hl 0 rfl) ?_
                  refine lv_if_ge (tgt := 171) hx hb dX11_unit_161 (by decide) (fun c106 => ?_) (fun c106 => ?_)
                  · skip
                    have zc106 : 0 ≤ r3.toInt := by rw [fa_le, show (0 : Int32).toInt = 0 from by decide] at c106; exact c106
                    refine lv_iload_n hx hb dX11_unit_171 rfl (lv_at hl 0 rfl) ?_
                    refine cbVv (n := 2) (rest := []) hx hb hml hown hts hE hP hD hS hA (sY_X11_add_1 l dC dI cy y0 r 1 r3 v97 f98 w99 g100 hIv97 hCf98 hRf98 (by have q1 : (1 : Int32).toInt = 1 := (by decide); show (v97 8).toInt ≤ 319; omega)) k_1696 k_1698 k_63 k_114 k_1699 (by decide +kernel) ⟨Nat.le_of_ble_eq_true rfl, Nat.le_of_ble_eq_true rfl⟩ 0 11 rfl rfl (rfl) hl.1 rfl (Nat.le_of_ble_eq_true rfl) dX11_unit_172 (fun u H locs hw hP hD hS => ?_)
                    obtain ⟨v107, f108, w109, g110⟩ := u
                    obtain ⟨hIv107, hCf108, hRf108, hk0_v107, hk1_v107, hk3_v107, hk4_v107, hk5_v107, hk9_v107, hk10_v107, hk13_v107, hk14_v107, hk15_v107, hk17_v107, hk18_v107, hk24_v107, hk25_v107, hk35_v107, hk36_v107, hk38_v107, hk39_v107, pv111, pg112, pg113, kq114⟩ := hw
                    have hP : va_P (dC, dI) vwCl (YW cy y0 r v107 f108 w109 g110) H := hP
                    have hD : va_D A (YW cy y0 r v107 f108 w109 g110) := hD
                    have b8_v107 : 0 ≤ (v107 8).toInt ∧ (v107 8).toInt ≤ 320 := YIb.b hIv107.1 8 (by decide)
                    have pv111 : (v107 8).toInt = (v97 8).toInt + 1 := pv111
                    have pg112 : (f108 2) = upd (f98 2) ((v97 8).toInt).toNat 1 := pg112
                    rw [hs2_f98] at pg112
                    have pg113 : (f108 3) = upd (f98 3) ((v97 8).toInt).toNat r3 := pg113
                    rw [hs3_f98] at pg113
                    have hs6_f108 : f108 6 = (f1 6) := kq114.trans hs6_f98
                    have hUv107 : (v107 35).toInt + (v107 36).toInt ≤ 40 := hIv107.2
                    have hq0_v107 : v107 0 = (v 0) := hk0_v107.trans hq0_v97
                    have hq1_v107 : v107 1 = (v1 1) := hk1_v107.trans hq1_v97
                    have zq1_v107 := congrArg Int32.toInt hq1_v107
                    have hq3_v107 : v107 3 = (v1 3) := hk3_v107.trans hq3_v97
                    have zq3_v107 := congrArg Int32.toInt hq3_v107
                    have hq4_v107 : v107 4 = (v 4) := hk4_v107.trans hq4_v97
                    have hq5_v107 : v107 5 = (v1 5) := hk5_v107.trans hq5_v97
                    have zq5_v107 := congrArg Int32.toInt hq5_v107
                    have hq9_v107 : v107 9 = (v 9) := hk9_v107.trans hq9_v97
                    have hq10_v107 : v107 10 = (v1 10) := hk10_v107.trans hq10_v97
                    have zq10_v107 := congrArg Int32.toInt hq10_v107
                    have hq13_v107 : v107 13 = (v97 13) := hk13_v107
                    have zq13_v107 := congrArg Int32.toInt hq13_v107
                    have hq14_v107 : v107 14 = (v1 14) := hk14_v107.trans hq14_v97
                    have zq14_v107 := congrArg Int32.toInt hq14_v107
                    have hq15_v107 : v107 15 = (v 15) := hk15_v107.trans hq15_v97
                    have hq17_v107 : v107 17 = (v 17) := hk17_v107.trans hq17_v97
                    have hq18_v107 : v107 18 = (v 18) := hk18_v107.trans hq18_v97
                    have hq24_v107 : v107 24 = (v 24) := hk24_v107.trans hq24_v97
                    have hq25_v107 : v107 25 = (v 25) := hk25_v107.trans hq25_v97
                    have hq35_v107 : v107 35 = (v 35) := hk35_v107.trans hq35_v97
                    have hq36_v107 : v107 36 = (v 36) := hk36_v107.trans hq36_v97
                    have hq38_v107 : v107 38 = (v 38) := hk38_v107.trans hq38_v97
                    have hq39_v107 : v107 39 = (v 39) := hk39_v107.trans hq39_v97
                    have hFU : FI 1 (v107 10).toInt (v107 14).toInt (v107 8).toInt (f1 6) (f108 2) (f108 3) := FI.unit (hFJ (by omega)) pg112 pg113 (by omega) (Or.inr ⟨rfl, by omega, by omega⟩) (by omega) (by first | rfl | assumption | omega) (by first | rfl | assumption | omega) (by first | rfl | assumption | omega)
                    refine lv_aload_n hx hb dX11_unit_175 rfl (lv_at hl 2 rfl) ?_
                    refine cbVv (n := 0) (rest := []) hx hb hml hown hts hE hP hD hS hA (sY_X11_token_1 l dC dI cy y0 r  v107 f108 w109 g110 hIv107 hCf108 hRf108 ) k_1579 k_1581 k_42 k_114 k_1582 (by decide +kernel) ⟨Nat.le_of_ble_eq_true rfl, Nat.le_of_ble_eq_true rfl⟩ 0 11 rfl rfl (rfl) hl.1 rfl (Nat.le_of_ble_eq_true rfl) dX11_unit_176 (fun u H locs hw hP hD hS => ?_)
                    obtain ⟨v115, f116, w117, g118⟩ := u
                    obtain ⟨hIv115, hCf116, hRf116, hk0_v115, hk1_v115, hk4_v115, hk8_v115, hk9_v115, hk10_v115, hk13_v115, hk14_v115, hk15_v115, hk17_v115, hk18_v115, hk24_v115, hk25_v115, hk35_v115, hk36_v115, hk38_v115, hk39_v115, pv119, pv120, kq121, kq122, kq123⟩ := hw
                    have hP : va_P (dC, dI) vwCl (YW cy y0 r v115 f116 w117 g118) H := hP
                    have hD : va_D A (YW cy y0 r v115 f116 w117 g118) := hD
                    have b3_v115 : 0 ≤ (v115 3).toInt ∧ (v115 3).toInt ≤ 1600 := YIb.b hIv115.1 3 (by decide)
                    have pv119 : (v107 3).toInt ≤ (v115 3).toInt := pv119
                    have pv120 : (v115 5).toInt = (v107 5).toInt ∨ (v107 3).toInt < (v115 3).toInt ∨ ¬ (v115 5).toInt = 59 := pv120
                    have hs2_f116 : f116 2 = (f108 2) := kq121
                    have hs3_f116 : f116 3 = (f108 3) := kq122
                    have hs6_f116 : f116 6 = (f1 6) := kq123.trans hs6_f108
                    have hUv115 : (v115 35).toInt + (v115 36).toInt ≤ 40 := hIv115.2
                    have hq0_v115 : v115 0 = (v 0) := hk0_v115.trans hq0_v107
                    have hq1_v115 : v115 1 = (v1 1) := hk1_v115.trans hq1_v107
                    have zq1_v115 := congrArg Int32.toInt hq1_v115
                    have hq4_v115 : v115 4 = (v 4) := hk4_v115.trans hq4_v107
                    have hq8_v115 : v115 8 = (v107 8) := hk8_v115
                    have zq8_v115 := congrArg Int32.toInt hq8_v115
                    have hq9_v115 : v115 9 = (v 9) := hk9_v115.trans hq9_v107
                    have hq10_v115 : v115 10 = (v1 10) := hk10_v115.trans hq10_v107
                    have zq10_v115 := congrArg Int32.toInt hq10_v115
                    have hq13_v115 : v115 13 = (v97 13) := hk13_v115.trans hq13_v107
                    have zq13_v115 := congrArg Int32.toInt hq13_v115
                    have hq14_v115 : v115 14 = (v1 14) := hk14_v115.trans hq14_v107
                    have zq14_v115 := congrArg Int32.toInt hq14_v115
                    have hq15_v115 : v115 15 = (v 15) := hk15_v115.trans hq15_v107
                    have hq17_v115 : v115 17 = (v 17) := hk17_v115.trans hq17_v107
                    have hq18_v115 : v115 18 = (v 18) := hk18_v115.trans hq18_v107
                    have hq24_v115 : v115 24 = (v 24) := hk24_v115.trans hq24_v107
                    have hq25_v115 : v115 25 = (v 25) := hk25_v115.trans hq25_v107
                    have hq35_v115 : v115 35 = (v 35) := hk35_v115.trans hq35_v107
                    have hq36_v115 : v115 36 = (v 36) := hk36_v115.trans hq36_v107
                    have hq38_v115 : v115 38 = (v 38) := hk38_v115.trans hq38_v107
                    have hq39_v115 : v115 39 = (v 39) := hk39_v115.trans hq39_v107
                    have hGR : GR (v 3).toInt (v 5).toInt (v115 3).toInt (v115 5).toInt := GR.tr hGR (show GR (v107 3).toInt (v107 5).toInt (v115 3).toInt (v115 5).toInt from ⟨pv119, pv120⟩) (by first | rfl | assumption | omega) (by first | rfl | assumption | omega)
                    clear pv120
                    exact ret (v115, f116, w117, g118) _ _ _ _ _ _ ⟨hIv115, hCf116, hRf116, (hk0_v115.trans (hk0_v107.trans (hk0_v97.trans (show v1 0 = v 0 from hq0_v1)))), (hk4_v115.trans (hk4_v107.trans (hk4_v97.trans (show v1 4 = v 4 from hq4_v1)))), (hk9_v115.trans (hk9_v107.trans (hk9_v97.trans (show v1 9 = v 9 from hq9_v1)))), (hk15_v115.trans (hk15_v107.trans (hk15_v97.trans (show v1 15 = v 15 from hq15_v1)))), (hk17_v115.trans (hk17_v107.trans (hk17_v97.trans (show v1 17 = v 17 from hq17_v1)))), (hk18_v115.trans (hk18_v107.trans (hk18_v97.trans (show v1 18 = v 18 from hq18_v1)))), (hk24_v115.trans (hk24_v107.trans (hk24_v97.trans (show v1 24 = v 24 from hq24_v1)))), (hk25_v115.trans (hk25_v107.trans (hk25_v97.trans (show v1 25 = v 25 from hq25_v1)))), (hk35_v115.trans (hk35_v107.trans (hk35_v97.trans (show v1 35 = v 35 from hq35_v1)))), (hk36_v115.trans (hk36_v107.trans (hk36_v97.trans (show v1 36 = v 36 from hq36_v1)))), (hk38_v115.trans (hk38_v107.trans (hk38_v97.trans (show v1 38 = v 38 from hq38_v1)))), (hk39_v115.trans (hk39_v107.trans (hk39_v97.trans (show v1 39 = v 39 from hq39_v1)))), (by show GR (v 3).toInt (v 5).toInt (v115 3).toInt (v115 5).toInt; exact GR.cast hGR (by first | rfl | assumption | omega) (by first | rfl | assumption | omega)), (by show (v115 1).toInt = 0 → FI 1 (v115 10).toInt (v115 14).toInt (v115 8).toInt (f116 6) (f116 2) (f116 3); rw [hs6_f116, hs2_f116, hs3_f116]; intro hz9; exact FI.cast hFU (by first | rfl | assumption | omega) (by first | rfl | assumption | omega) (by first | rfl | assumption | omega)), (by show NB (v115 1).toInt (v115 8).toInt (v115 10).toInt (v115 13).toInt (v115 14).toInt; exact NB.mk (by omega) (by omega) (by omega) (by omega)), (by show UG (v115 1).toInt (v 13).toInt (v115 13).toInt; exact UG.mk (by omega))⟩ hP hD hS dX11_unit_179 (Nat.le_refl _) (Nat.le_refl _)
                  · skip
                    have zc106 : ¬ (0 ≤ r3.toInt) := by rw [fa_le, show (0 : Int32).toInt = 0 from by decide] at c106; exact c106
                    refine lv_aload_n hx hb dX11_unit_164 rfl (lv_at hl 2 rfl) ?_
                    refine va_get (D := (dC, dI)) (ci := 11) (v := .int (v97 7)) (C := RX11) (T := TX11) (N := 79) hx hb hts inB_11 hown hE.1 hP 0 rfl rfl 8 (by decide) (hts _ k_1328) (fun _ h9 => h9) rfl dX11_unit_165 ?_
                    refine lv_goto (tgt := 172) hx hb dX11_unit_168 (by decide) ?_
                    refine cbVv (n := 2) (rest := []) hx hb hml hown hts hE hP hD hS hA (sY_X11_add_1 l dC dI cy y0 r 1 (v97 7) v97 f98 w99 g100 hIv97 hCf98 hRf98 (by have q1 : (1 : Int32).toInt = 1 := (by decide); show (v97 8).toInt ≤ 319; omega)) k_1696 k_1698 k_63 k_114 k_1699 (by decide +kernel) ⟨Nat.le_of_ble_eq_true rfl, Nat.le_of_ble_eq_true rfl⟩ 0 11 rfl rfl (rfl) hl.1 rfl (Nat.le_of_ble_eq_true rfl) dX11_unit_172 (fun u H locs hw hP hD hS => ?_)
                    obtain ⟨v124, f125, w126, g127⟩ := u
                    obtain ⟨hIv124, hCf125, hRf125, hk0_v124, hk1_v124, hk3_v124, hk4_v124, hk5_v124, hk9_v124, hk10_v124, hk13_v124, hk14_v124, hk15_v124, hk17_v124, hk18_v124, hk24_v124, hk25_v124, hk35_v124, hk36_v124, hk38_v124, hk39_v124, pv128, pg129, pg130, kq131⟩ := hw
                    have hP : va_P (dC, dI) vwCl (YW cy y0 r v124 f125 w126 g127) H := hP
                    have hD : va_D A (YW cy y0 r v124 f125 w126 g127) := hD
                    have b8_v124 : 0 ≤ (v124 8).toInt ∧ (v124 8).toInt ≤ 320 := YIb.b hIv124.1 8 (by decide)
                    have pv128 : (v124 8).toInt = (v97 8).toInt + 1 := pv128
                    have pg129 : (f125 2) = upd (f98 2) ((v97 8).toInt).toNat 1 := pg129
                    rw [hs2_f98] at pg129
                    have pg130 : (f125 3) = upd (f98 3) ((v97 8).toInt).toNat (v97 7) := pg130
                    rw [hs3_f98] at pg130
                    have hs6_f125 : f125 6 = (f1 6) := kq131.trans hs6_f98
                    have hUv124 : (v124 35).toInt + (v124 36).toInt ≤ 40 := hIv124.2
                    have hq0_v124 : v124 0 = (v 0) := hk0_v124.trans hq0_v97
                    have hq1_v124 : v124 1 = (v1 1) := hk1_v124.trans hq1_v97
                    have zq1_v124 := congrArg Int32.toInt hq1_v124
                    have hq3_v124 : v124 3 = (v1 3) := hk3_v124.trans hq3_v97
                    have zq3_v124 := congrArg Int32.toInt hq3_v124
                    have hq4_v124 : v124 4 = (v 4) := hk4_v124.trans hq4_v97
                    have hq5_v124 : v124 5 = (v1 5) := hk5_v124.trans hq5_v97
                    have zq5_v124 := congrArg Int32.toInt hq5_v124
                    have hq9_v124 : v124 9 = (v 9) := hk9_v124.trans hq9_v97
                    have hq10_v124 : v124 10 = (v1 10) := hk10_v124.trans hq10_v97
                    have zq10_v124 := congrArg Int32.toInt hq10_v124
                    have hq13_v124 : v124 13 = (v97 13) := hk13_v124
                    have zq13_v124 := congrArg Int32.toInt hq13_v124
                    have hq14_v124 : v124 14 = (v1 14) := hk14_v124.trans hq14_v97
                    have zq14_v124 := congrArg Int32.toInt hq14_v124
                    have hq15_v124 : v124 15 = (v 15) := hk15_v124.trans hq15_v97
                    have hq17_v124 : v124 17 = (v 17) := hk17_v124.trans hq17_v97
                    have hq18_v124 : v124 18 = (v 18) := hk18_v124.trans hq18_v97
                    have hq24_v124 : v124 24 = (v 24) := hk24_v124.trans hq24_v97
                    have hq25_v124 : v124 25 = (v 25) := hk25_v124.trans hq25_v97
                    have hq35_v124 : v124 35 = (v 35) := hk35_v124.trans hq35_v97
                    have hq36_v124 : v124 36 = (v 36) := hk36_v124.trans hq36_v97
                    have hq38_v124 : v124 38 = (v 38) := hk38_v124.trans hq38_v97
                    have hq39_v124 : v124 39 = (v 39) := hk39_v124.trans hq39_v97
                    have hFU : FI 1 (v124 10).toInt (v124 14).toInt (v124 8).toInt (f1 6) (f125 2) (f125 3) := FI.unit (hFJ (by omega)) pg129 pg130 (by omega) (Or.inr ⟨rfl, by omega, by omega⟩) (by omega) (by first | rfl | assumption | omega) (by first | rfl | assumption | omega) (by first | rfl | assumption | omega)
                    refine lv_aload_n hx hb dX11_unit_175 rfl (lv_at hl 2 rfl) ?_
                    refine cbVv (n := 0) (rest := []) hx hb hml hown hts hE hP hD hS hA (sY_X11_token_1 l dC dI cy y0 r  v124 f125 w126 g127 hIv124 hCf125 hRf125 ) k_1579 k_1581 k_42 k_114 k_1582 (by decide +kernel) ⟨Nat.le_of_ble_eq_true rfl, Nat.le_of_ble_eq_true rfl⟩ 0 11 rfl rfl (rfl) hl.1 rfl (Nat.le_of_ble_eq_true rfl) dX11_unit_176 (fun u H locs hw hP hD hS => ?_)
                    obtain ⟨v132, f133, w134, g135⟩ := u
                    obtain ⟨hIv132, hCf133, hRf133, hk0_v132, hk1_v132, hk4_v132, hk8_v132, hk9_v132, hk10_v132, hk13_v132, hk14_v132, hk15_v132, hk17_v132, hk18_v132, hk24_v132, hk25_v132, hk35_v132, hk36_v132, hk38_v132, hk39_v132, pv136, pv137, kq138, kq139, kq140⟩ := hw
                    have hP : va_P (dC, dI) vwCl (YW cy y0 r v132 f133 w134 g135) H := hP
                    have hD : va_D A (YW cy y0 r v132 f133 w134 g135) := hD
                    have b3_v132 : 0 ≤ (v132 3).toInt ∧ (v132 3).toInt ≤ 1600 := YIb.b hIv132.1 3 (by decide)
                    have pv136 : (v124 3).toInt ≤ (v132 3).toInt := pv136
                    have pv137 : (v132 5).toInt = (v124 5).toInt ∨ (v124 3).toInt < (v132 3).toInt ∨ ¬ (v132 5).toInt = 59 := pv137
                    have hs2_f133 : f133 2 = (f125 2) := kq138
                    have hs3_f133 : f133 3 = (f125 3) := kq139
                    have hs6_f133 : f133 6 = (f1 6) := kq140.trans hs6_f125
                    have hUv132 : (v132 35).toInt + (v132 36).toInt ≤ 40 := hIv132.2
                    have hq0_v132 : v132 0 = (v 0) := hk0_v132.trans hq0_v124
                    have hq1_v132 : v132 1 = (v1 1) := hk1_v132.trans hq1_v124
                    have zq1_v132 := congrArg Int32.toInt hq1_v132
                    have hq4_v132 : v132 4 = (v 4) := hk4_v132.trans hq4_v124
                    have hq8_v132 : v132 8 = (v124 8) := hk8_v132
                    have zq8_v132 := congrArg Int32.toInt hq8_v132
                    have hq9_v132 : v132 9 = (v 9) := hk9_v132.trans hq9_v124
                    have hq10_v132 : v132 10 = (v1 10) := hk10_v132.trans hq10_v124
                    have zq10_v132 := congrArg Int32.toInt hq10_v132
                    have hq13_v132 : v132 13 = (v97 13) := hk13_v132.trans hq13_v124
                    have zq13_v132 := congrArg Int32.toInt hq13_v132
                    have hq14_v132 : v132 14 = (v1 14) := hk14_v132.trans hq14_v124
                    have zq14_v132 := congrArg Int32.toInt hq14_v132
                    have hq15_v132 : v132 15 = (v 15) := hk15_v132.trans hq15_v124
                    have hq17_v132 : v132 17 = (v 17) := hk17_v132.trans hq17_v124
                    have hq18_v132 : v132 18 = (v 18) := hk18_v132.trans hq18_v124
                    have hq24_v132 : v132 24 = (v 24) := hk24_v132.trans hq24_v124
                    have hq25_v132 : v132 25 = (v 25) := hk25_v132.trans hq25_v124
                    have hq35_v132 : v132 35 = (v 35) := hk35_v132.trans hq35_v124
                    have hq36_v132 : v132 36 = (v 36) := hk36_v132.trans hq36_v124
                    have hq38_v132 : v132 38 = (v 38) := hk38_v132.trans hq38_v124
                    have hq39_v132 : v132 39 = (v 39) := hk39_v132.trans hq39_v124
                    have hGR : GR (v 3).toInt (v 5).toInt (v132 3).toInt (v132 5).toInt := GR.tr hGR (show GR (v124 3).toInt (v124 5).toInt (v132 3).toInt (v132 5).toInt from ⟨pv136, pv137⟩) (by first | rfl | assumption | omega) (by first | rfl | assumption | omega)
                    clear pv137
                    exact ret (v132, f133, w134, g135) _ _ _ _ _ _ ⟨hIv132, hCf133, hRf133, (hk0_v132.trans (hk0_v124.trans (hk0_v97.trans (show v1 0 = v 0 from hq0_v1)))), (hk4_v132.trans (hk4_v124.trans (hk4_v97.trans (show v1 4 = v 4 from hq4_v1)))), (hk9_v132.trans (hk9_v124.trans (hk9_v97.trans (show v1 9 = v 9 from hq9_v1)))), (hk15_v132.trans (hk15_v124.trans (hk15_v97.trans (show v1 15 = v 15 from hq15_v1)))), (hk17_v132.trans (hk17_v124.trans (hk17_v97.trans (show v1 17 = v 17 from hq17_v1)))), (hk18_v132.trans (hk18_v124.trans (hk18_v97.trans (show v1 18 = v 18 from hq18_v1)))), (hk24_v132.trans (hk24_v124.trans (hk24_v97.trans (show v1 24 = v 24 from hq24_v1)))), (hk25_v132.trans (hk25_v124.trans (hk25_v97.trans (show v1 25 = v 25 from hq25_v1)))), (hk35_v132.trans (hk35_v124.trans (hk35_v97.trans (show v1 35 = v 35 from hq35_v1)))), (hk36_v132.trans (hk36_v124.trans (hk36_v97.trans (show v1 36 = v 36 from hq36_v1)))), (hk38_v132.trans (hk38_v124.trans (hk38_v97.trans (show v1 38 = v 38 from hq38_v1)))), (hk39_v132.trans (hk39_v124.trans (hk39_v97.trans (show v1 39 = v 39 from hq39_v1)))), (by show GR (v 3).toInt (v 5).toInt (v132 3).toInt (v132 5).toInt; exact GR.cast hGR (by first | rfl | assumption | omega) (by first | rfl | assumption | omega)), (by show (v132 1).toInt = 0 → FI 1 (v132 10).toInt (v132 14).toInt (v132 8).toInt (f133 6) (f133 2) (f133 3); rw [hs6_f133, hs2_f133, hs3_f133]; intro hz9; exact FI.cast hFU (by first | rfl | assumption | omega) (by first | rfl | assumption | omega) (by first | rfl | assumption | omega)), (by show NB (v132 1).toInt (v132 8).toInt (v132 10).toInt (v132 13).toInt (v132 14).toInt; exact NB.mk (by omega) (by omega) (by omega) (by omega)), (by show UG (v132 1).toInt (v 13).toInt (v132 13).toInt; exact UG.mk (by omega))⟩ hP hD hS dX11_unit_179 (Nat.le_refl _) (Nat.le_refl _)
                · skip
                  have zc105 : ¬ (0 ≤ r3.toInt) := by rw [fa_le, show (0 : Int32).toInt = 0 from by decide] at c105; exact c105
                  refine lv_iconst (v := 0) hx hb dX11_unit_155 (by decide) ?_
                  refine lv_goto (tgt := 160) hx hb dX11_unit_156 (by decide) ?_
                  refine lv_iload_n hx hb dX11_unit_160 rfl (lv_at hl 0 rfl) ?_
                  refine lv_if_ge (tgt := 171) hx hb dX11_unit_161 (by decide) (fun c141 => ?_) (fun c141 => ?_)
                  · skip
                    have zc141 : 0 ≤ r3.toInt := by rw [fa_le, show (0 : Int32).toInt = 0 from by decide] at c141; exact c141
                    refine lv_iload_n hx hb dX11_unit_171 rfl (lv_at hl 0 rfl) ?_
                    refine cbVv (n := 2) (rest := []) hx hb hml hown hts hE hP hD hS hA (sY_X11_add_1 l dC dI cy y0 r 0 r3 v97 f98 w99 g100 hIv97 hCf98 hRf98 (by have q1 : (0 : Int32).toInt = 0 := (by decide); show (v97 8).toInt ≤ 319; omega)) k_1696 k_1698 k_63 k_114 k_1699 (by decide +kernel) ⟨Nat.le_of_ble_eq_true rfl, Nat.le_of_ble_eq_true rfl⟩ 0 11 rfl rfl (rfl) hl.1 rfl (Nat.le_of_ble_eq_true rfl) dX11_unit_172 (fun u H locs hw hP hD hS => ?_)
                    obtain ⟨v142, f143, w144, g145⟩ := u
                    obtain ⟨hIv142, hCf143, hRf143, hk0_v142, hk1_v142, hk3_v142, hk4_v142, hk5_v142, hk9_v142, hk10_v142, hk13_v142, hk14_v142, hk15_v142, hk17_v142, hk18_v142, hk24_v142, hk25_v142, hk35_v142, hk36_v142, hk38_v142, hk39_v142, pv146, pg147, pg148, kq149⟩ := hw
                    have hP : va_P (dC, dI) vwCl (YW cy y0 r v142 f143 w144 g145) H := hP
                    have hD : va_D A (YW cy y0 r v142 f143 w144 g145) := hD
                    have b8_v142 : 0 ≤ (v142 8).toInt ∧ (v142 8).toInt ≤ 320 := YIb.b hIv142.1 8 (by decide)
                    have pv146 : (v142 8).toInt = (v97 8).toInt + 1 := pv146
                    have pg147 : (f143 2) = upd (f98 2) ((v97 8).toInt).toNat 0 := pg147
                    rw [hs2_f98] at pg147
                    have pg148 : (f143 3) = upd (f98 3) ((v97 8).toInt).toNat r3 := pg148
                    rw [hs3_f98] at pg148
                    have hs6_f143 : f143 6 = (f1 6) := kq149.trans hs6_f98
                    have hUv142 : (v142 35).toInt + (v142 36).toInt ≤ 40 := hIv142.2
                    have hq0_v142 : v142 0 = (v 0) := hk0_v142.trans hq0_v97
                    have hq1_v142 : v142 1 = (v1 1) := hk1_v142.trans hq1_v97
                    have zq1_v142 := congrArg Int32.toInt hq1_v142
                    have hq3_v142 : v142 3 = (v1 3) := hk3_v142.trans hq3_v97
                    have zq3_v142 := congrArg Int32.toInt hq3_v142
                    have hq4_v142 : v142 4 = (v 4) := hk4_v142.trans hq4_v97
                    have hq5_v142 : v142 5 = (v1 5) := hk5_v142.trans hq5_v97
                    have zq5_v142 := congrArg Int32.toInt hq5_v142
                    have hq9_v142 : v142 9 = (v 9) := hk9_v142.trans hq9_v97
                    have hq10_v142 : v142 10 = (v1 10) := hk10_v142.trans hq10_v97
                    have zq10_v142 := congrArg Int32.toInt hq10_v142
                    have hq13_v142 : v142 13 = (v97 13) := hk13_v142
                    have zq13_v142 := congrArg Int32.toInt hq13_v142
                    have hq14_v142 : v142 14 = (v1 14) := hk14_v142.trans hq14_v97
                    have zq14_v142 := congrArg Int32.toInt hq14_v142
                    have hq15_v142 : v142 15 = (v 15) := hk15_v142.trans hq15_v97
                    have hq17_v142 : v142 17 = (v 17) := hk17_v142.trans hq17_v97
                    have hq18_v142 : v142 18 = (v 18) := hk18_v142.trans hq18_v97
                    have hq24_v142 : v142 24 = (v 24) := hk24_v142.trans hq24_v97
                    have hq25_v142 : v142 25 = (v 25) := hk25_v142.trans hq25_v97
                    have hq35_v142 : v142 35 = (v 35) := hk35_v142.trans hq35_v97
                    have hq36_v142 : v142 36 = (v 36) := hk36_v142.trans hq36_v97
                    have hq38_v142 : v142 38 = (v 38) := hk38_v142.trans hq38_v97
                    have hq39_v142 : v142 39 = (v 39) := hk39_v142.trans hq39_v97
                    have hFU : FI 1 (v142 10).toInt (v142 14).toInt (v142 8).toInt (f1 6) (f143 2) (f143 3) := FI.unit (hFJ (by omega)) pg147 pg148 (by omega) (Or.inl rfl) (by omega) (by first | rfl | assumption | omega) (by first | rfl | assumption | omega) (by first | rfl | assumption | omega)
                    refine lv_aload_n hx hb dX11_unit_175 rfl (lv_at hl 2 rfl) ?_
                    refine cbVv (n := 0) (rest := []) hx hb hml hown hts hE hP hD hS hA (sY_X11_token_1 l dC dI cy y0 r  v142 f143 w144 g145 hIv142 hCf143 hRf143 ) k_1579 k_1581 k_42 k_114 k_1582 (by decide +kernel) ⟨Nat.le_of_ble_eq_true rfl, Nat.le_of_ble_eq_true rfl⟩ 0 11 rfl rfl (rfl) hl.1 rfl (Nat.le_of_ble_eq_true rfl) dX11_unit_176 (fun u H locs hw hP hD hS => ?_)
                    obtain ⟨v150, f151, w152, g153⟩ := u
                    obtain ⟨hIv150, hCf151, hRf151, hk0_v150, hk1_v150, hk4_v150, hk8_v150, hk9_v150, hk10_v150, hk13_v150, hk14_v150, hk15_v150, hk17_v150, hk18_v150, hk24_v150, hk25_v150, hk35_v150, hk36_v150, hk38_v150, hk39_v150, pv154, pv155, kq156, kq157, kq158⟩ := hw
                    have hP : va_P (dC, dI) vwCl (YW cy y0 r v150 f151 w152 g153) H := hP
                    have hD : va_D A (YW cy y0 r v150 f151 w152 g153) := hD
                    have b3_v150 : 0 ≤ (v150 3).toInt ∧ (v150 3).toInt ≤ 1600 := YIb.b hIv150.1 3 (by decide)
                    have pv154 : (v142 3).toInt ≤ (v150 3).toInt := pv154
                    have pv155 : (v150 5).toInt = (v142 5).toInt ∨ (v142 3).toInt < (v150 3).toInt ∨ ¬ (v150 5).toInt = 59 := pv155
                    have hs2_f151 : f151 2 = (f143 2) := kq156
                    have hs3_f151 : f151 3 = (f143 3) := kq157
                    have hs6_f151 : f151 6 = (f1 6) := kq158.trans hs6_f143
                    have hUv150 : (v150 35).toInt + (v150 36).toInt ≤ 40 := hIv150.2
                    have hq0_v150 : v150 0 = (v 0) := hk0_v150.trans hq0_v142
                    have hq1_v150 : v150 1 = (v1 1) := hk1_v150.trans hq1_v142
                    have zq1_v150 := congrArg Int32.toInt hq1_v150
                    have hq4_v150 : v150 4 = (v 4) := hk4_v150.trans hq4_v142
                    have hq8_v150 : v150 8 = (v142 8) := hk8_v150
                    have zq8_v150 := congrArg Int32.toInt hq8_v150
                    have hq9_v150 : v150 9 = (v 9) := hk9_v150.trans hq9_v142
                    have hq10_v150 : v150 10 = (v1 10) := hk10_v150.trans hq10_v142
                    have zq10_v150 := congrArg Int32.toInt hq10_v150
                    have hq13_v150 : v150 13 = (v97 13) := hk13_v150.trans hq13_v142
                    have zq13_v150 := congrArg Int32.toInt hq13_v150
                    have hq14_v150 : v150 14 = (v1 14) := hk14_v150.trans hq14_v142
                    have zq14_v150 := congrArg Int32.toInt hq14_v150
                    have hq15_v150 : v150 15 = (v 15) := hk15_v150.trans hq15_v142
                    have hq17_v150 : v150 17 = (v 17) := hk17_v150.trans hq17_v142
                    have hq18_v150 : v150 18 = (v 18) := hk18_v150.trans hq18_v142
                    have hq24_v150 : v150 24 = (v 24) := hk24_v150.trans hq24_v142
                    have hq25_v150 : v150 25 = (v 25) := hk25_v150.trans hq25_v142
                    have hq35_v150 : v150 35 = (v 35) := hk35_v150.trans hq35_v142
                    have hq36_v150 : v150 36 = (v 36) := hk36_v150.trans hq36_v142
                    have hq38_v150 : v150 38 = (v 38) := hk38_v150.trans hq38_v142
                    have hq39_v150 : v150 39 = (v 39) := hk39_v150.trans hq39_v142
                    have hGR : GR (v 3).toInt (v 5).toInt (v150 3).toInt (v150 5).toInt := GR.tr hGR (show GR (v142 3).toInt (v142 5).toInt (v150 3).toInt (v150 5).toInt from ⟨pv154, pv155⟩) (by first | rfl | assumption | omega) (by first | rfl | assumption | omega)
                    clear pv155
                    exact ret (v150, f151, w152, g153) _ _ _ _ _ _ ⟨hIv150, hCf151, hRf151, (hk0_v150.trans (hk0_v142.trans (hk0_v97.trans (show v1 0 = v 0 from hq0_v1)))), (hk4_v150.trans (hk4_v142.trans (hk4_v97.trans (show v1 4 = v 4 from hq4_v1)))), (hk9_v150.trans (hk9_v142.trans (hk9_v97.trans (show v1 9 = v 9 from hq9_v1)))), (hk15_v150.trans (hk15_v142.trans (hk15_v97.trans (show v1 15 = v 15 from hq15_v1)))), (hk17_v150.trans (hk17_v142.trans (hk17_v97.trans (show v1 17 = v 17 from hq17_v1)))), (hk18_v150.trans (hk18_v142.trans (hk18_v97.trans (show v1 18 = v 18 from hq18_v1)))), (hk24_v150.trans (hk24_v142.trans (hk24_v97.trans (show v1 24 = v 24 from hq24_v1)))), (hk25_v150.trans (hk25_v142.trans (hk25_v97.trans (show v1 25 = v 25 from hq25_v1)))), (hk35_v150.trans (hk35_v142.trans (hk35_v97.trans (show v1 35 = v 35 from hq35_v1)))), (hk36_v150.trans (hk36_v142.trans (hk36_v97.trans (show v1 36 = v 36 from hq36_v1)))), (hk38_v150.trans (hk38_v142.trans (hk38_v97.trans (show v1 38 = v 38 from hq38_v1)))), (hk39_v150.trans (hk39_v142.trans (hk39_v97.trans (show v1 39 = v 39 from hq39_v1)))), (by show GR (v 3).toInt (v 5).toInt (v150 3).toInt (v150 5).toInt; exact GR.cast hGR (by first | rfl | assumption | omega) (by first | rfl | assumption | omega)), (by show (v150 1).toInt = 0 → FI 1 (v150 10).toInt (v150 14).toInt (v150 8).toInt (f151 6) (f151 2) (f151 3); rw [hs6_f151, hs2_f151, hs3_f151]; intro hz9; exact FI.cast hFU (by first | rfl | assumption | omega) (by first | rfl | assumption | omega) (by first | rfl | assumption | omega)), (by show NB (v150 1).toInt (v150 8).toInt (v150 10).toInt (v150 13).toInt (v150 14).toInt; exact NB.mk (by omega) (by omega) (by omega) (by omega)), (by show UG (v150 1).toInt (v 13).toInt (v150 13).toInt; exact UG.mk (by omega))⟩ hP hD hS dX11_unit_179 (Nat.le_refl _) (Nat.le_refl _)
                  · skip
                    have zc141 : ¬ (0 ≤ r3.toInt) := by rw [fa_le, show (0 : Int32).toInt = 0 from by decide] at c141; exact c141
                    refine lv_aload_n hx hb dX11_unit_164 rfl (lv_at hl 2 rfl) ?_
                    refine va_get (D := (dC, dI)) (ci := 11) (v := .int (v97 7)) (C := RX11) (T := TX11) (N := 79) hx hb hts inB_11 hown hE.1 hP 0 rfl rfl 8 (by decide) (hts _ k_1328) (fun _ h9 => h9) rfl dX11_unit_165 ?_
                    refine lv_goto (tgt := 172) hx hb dX11_unit_168 (by decide) ?_
                    refine cbVv (n := 2) (rest := []) hx hb hml hown hts hE hP hD hS hA (sY_X11_add_1 l dC dI cy y0 r 0 (v97 7) v97 f98 w99 g100 hIv97 hCf98 hRf98 (by have q1 : (0 : Int32).toInt = 0 := (by decide); show (v97 8).toInt ≤ 319; omega)) k_1696 k_1698 k_63 k_114 k_1699 (by decide +kernel) ⟨Nat.le_of_ble_eq_true rfl, Nat.le_of_ble_eq_true rfl⟩ 0 11 rfl rfl (rfl) hl.1 rfl (Nat.le_of_ble_eq_true rfl) dX11_unit_172 (fun u H locs hw hP hD hS => ?_)
                    obtain ⟨v159, f160, w161, g162⟩ := u
                    obtain ⟨hIv159, hCf160, hRf160, hk0_v159, hk1_v159, hk3_v159, hk4_v159, hk5_v159, hk9_v159, hk10_v159, hk13_v159, hk14_v159, hk15_v159, hk17_v159, hk18_v159, hk24_v159, hk25_v159, hk35_v159, hk36_v159, hk38_v159, hk39_v159, pv163, pg164, pg165, kq166⟩ := hw
                    have hP : va_P (dC, dI) vwCl (YW cy y0 r v159 f160 w161 g162) H := hP
                    have hD : va_D A (YW cy y0 r v159 f160 w161 g162) := hD
                    have b8_v159 : 0 ≤ (v159 8).toInt ∧ (v159 8).toInt ≤ 320 := YIb.b hIv159.1 8 (by decide)
                    have pv163 : (v159 8).toInt = (v97 8).toInt + 1 := pv163
                    have pg164 : (f160 2) = upd (f98 2) ((v97 8).toInt).toNat 0 := pg164
                    rw [hs2_f98] at pg164
                    have pg165 : (f160 3) = upd (f98 3) ((v97 8).toInt).toNat (v97 7) := pg165
                    rw [hs3_f98] at pg165
                    have hs6_f160 : f160 6 = (f1 6) := kq166.trans hs6_f98
                    have hUv159 : (v159 35).toInt + (v159 36).toInt ≤ 40 := hIv159.2
                    have hq0_v159 : v159 0 = (v 0) := hk0_v159.trans hq0_v97
                    have hq1_v159 : v159 1 = (v1 1) := hk1_v159.trans hq1_v97
                    have zq1_v159 := congrArg Int32.toInt hq1_v159
                    have hq3_v159 : v159 3 = (v1 3) := hk3_v159.trans hq3_v97
                    have zq3_v159 := congrArg Int32.toInt hq3_v159
                    have hq4_v159 : v159 4 = (v 4) := hk4_v159.trans hq4_v97
                    have hq5_v159 : v159 5 = (v1 5) := hk5_v159.trans hq5_v97
                    have zq5_v159 := congrArg Int32.toInt hq5_v159
                    have hq9_v159 : v159 9 = (v 9) := hk9_v159.trans hq9_v97
                    have hq10_v159 : v159 10 = (v1 10) := hk10_v159.trans hq10_v97
                    have zq10_v159 := congrArg Int32.toInt hq10_v159
                    have hq13_v159 : v159 13 = (v97 13) := hk13_v159
                    have zq13_v159 := congrArg Int32.toInt hq13_v159
                    have hq14_v159 : v159 14 = (v1 14) := hk14_v159.trans hq14_v97
                    have zq14_v159 := congrArg Int32.toInt hq14_v159
                    have hq15_v159 : v159 15 = (v 15) := hk15_v159.trans hq15_v97
                    have hq17_v159 : v159 17 = (v 17) := hk17_v159.trans hq17_v97
                    have hq18_v159 : v159 18 = (v 18) := hk18_v159.trans hq18_v97
                    have hq24_v159 : v159 24 = (v 24) := hk24_v159.trans hq24_v97
                    have hq25_v159 : v159 25 = (v 25) := hk25_v159.trans hq25_v97
                    have hq35_v159 : v159 35 = (v 35) := hk35_v159.trans hq35_v97
                    have hq36_v159 : v159 36 = (v 36) := hk36_v159.trans hq36_v97
                    have hq38_v159 : v159 38 = (v 38) := hk38_v159.trans hq38_v97
                    have hq39_v159 : v159 39 = (v 39) := hk39_v159.trans hq39_v97
                    have hFU : FI 1 (v159 10).toInt (v159 14).toInt (v159 8).toInt (f1 6) (f160 2) (f160 3) := FI.unit (hFJ (by omega)) pg164 pg165 (by omega) (Or.inl rfl) (by omega) (by first | rfl | assumption | omega) (by first | rfl | assumption | omega) (by first | rfl | assumption | omega)
                    refine lv_aload_n hx hb dX11_unit_175 rfl (lv_at hl 2 rfl) ?_
                    refine cbVv (n := 0) (rest := []) hx hb hml hown hts hE hP hD hS hA (sY_X11_token_1 l dC dI cy y0 r  v159 f160 w161 g162 hIv159 hCf160 hRf160 ) k_1579 k_1581 k_42 k_114 k_1582 (by decide +kernel) ⟨Nat.le_of_ble_eq_true rfl, Nat.le_of_ble_eq_true rfl⟩ 0 11 rfl rfl (rfl) hl.1 rfl (Nat.le_of_ble_eq_true rfl) dX11_unit_176 (fun u H locs hw hP hD hS => ?_)
                    obtain ⟨v167, f168, w169, g170⟩ := u
                    obtain ⟨hIv167, hCf168, hRf168, hk0_v167, hk1_v167, hk4_v167, hk8_v167, hk9_v167, hk10_v167, hk13_v167, hk14_v167, hk15_v167, hk17_v167, hk18_v167, hk24_v167, hk25_v167, hk35_v167, hk36_v167, hk38_v167, hk39_v167, pv171, pv172, kq173, kq174, kq175⟩ := hw
                    have hP : va_P (dC, dI) vwCl (YW cy y0 r v167 f168 w169 g170) H := hP
                    have hD : va_D A (YW cy y0 r v167 f168 w169 g170) := hD
                    have b3_v167 : 0 ≤ (v167 3).toInt ∧ (v167 3).toInt ≤ 1600 := YIb.b hIv167.1 3 (by decide)
                    have pv171 : (v159 3).toInt ≤ (v167 3).toInt := pv171
                    have pv172 : (v167 5).toInt = (v159 5).toInt ∨ (v159 3).toInt < (v167 3).toInt ∨ ¬ (v167 5).toInt = 59 := pv172
                    have hs2_f168 : f168 2 = (f160 2) := kq173
                    have hs3_f168 : f168 3 = (f160 3) := kq174
                    have hs6_f168 : f168 6 = (f1 6) := kq175.trans hs6_f160
                    have hUv167 : (v167 35).toInt + (v167 36).toInt ≤ 40 := hIv167.2
                    have hq0_v167 : v167 0 = (v 0) := hk0_v167.trans hq0_v159
                    have hq1_v167 : v167 1 = (v1 1) := hk1_v167.trans hq1_v159
                    have zq1_v167 := congrArg Int32.toInt hq1_v167
                    have hq4_v167 : v167 4 = (v 4) := hk4_v167.trans hq4_v159
                    have hq8_v167 : v167 8 = (v159 8) := hk8_v167
                    have zq8_v167 := congrArg Int32.toInt hq8_v167
                    have hq9_v167 : v167 9 = (v 9) := hk9_v167.trans hq9_v159
                    have hq10_v167 : v167 10 = (v1 10) := hk10_v167.trans hq10_v159
                    have zq10_v167 := congrArg Int32.toInt hq10_v167
                    have hq13_v167 : v167 13 = (v97 13) := hk13_v167.trans hq13_v159
                    have zq13_v167 := congrArg Int32.toInt hq13_v167
                    have hq14_v167 : v167 14 = (v1 14) := hk14_v167.trans hq14_v159
                    have zq14_v167 := congrArg Int32.toInt hq14_v167
                    have hq15_v167 : v167 15 = (v 15) := hk15_v167.trans hq15_v159
                    have hq17_v167 : v167 17 = (v 17) := hk17_v167.trans hq17_v159
                    have hq18_v167 : v167 18 = (v 18) := hk18_v167.trans hq18_v159
                    have hq24_v167 : v167 24 = (v 24) := hk24_v167.trans hq24_v159
                    have hq25_v167 : v167 25 = (v 25) := hk25_v167.trans hq25_v159
                    have hq35_v167 : v167 35 = (v 35) := hk35_v167.trans hq35_v159
                    have hq36_v167 : v167 36 = (v 36) := hk36_v167.trans hq36_v159
                    have hq38_v167 : v167 38 = (v 38) := hk38_v167.trans hq38_v159
                    have hq39_v167 : v167 39 = (v 39) := hk39_v167.trans hq39_v159
                    have hGR : GR (v 3).toInt (v 5).toInt (v167 3).toInt (v167 5).toInt := GR.tr hGR (show GR (v159 3).toInt (v159 5).toInt (v167 3).toInt (v167 5).toInt from ⟨pv171, pv172⟩) (by first | rfl | assumption | omega) (by first | rfl | assumption | omega)
                    clear pv172
                    exact ret (v167, f168, w169, g170) _ _ _ _ _ _ ⟨hIv167, hCf168, hRf168, (hk0_v167.trans (hk0_v159.trans (hk0_v97.trans (show v1 0 = v 0 from hq0_v1)))), (hk4_v167.trans (hk4_v159.trans (hk4_v97.trans (show v1 4 = v 4 from hq4_v1)))), (hk9_v167.trans (hk9_v159.trans (hk9_v97.trans (show v1 9 = v 9 from hq9_v1)))), (hk15_v167.trans (hk15_v159.trans (hk15_v97.trans (show v1 15 = v 15 from hq15_v1)))), (hk17_v167.trans (hk17_v159.trans (hk17_v97.trans (show v1 17 = v 17 from hq17_v1)))), (hk18_v167.trans (hk18_v159.trans (hk18_v97.trans (show v1 18 = v 18 from hq18_v1)))), (hk24_v167.trans (hk24_v159.trans (hk24_v97.trans (show v1 24 = v 24 from hq24_v1)))), (hk25_v167.trans (hk25_v159.trans (hk25_v97.trans (show v1 25 = v 25 from hq25_v1)))), (hk35_v167.trans (hk35_v159.trans (hk35_v97.trans (show v1 35 = v 35 from hq35_v1)))), (hk36_v167.trans (hk36_v159.trans (hk36_v97.trans (show v1 36 = v 36 from hq36_v1)))), (hk38_v167.trans (hk38_v159.trans (hk38_v97.trans (show v1 38 = v 38 from hq38_v1)))), (hk39_v167.trans (hk39_v159.trans (hk39_v97.trans (show v1 39 = v 39 from hq39_v1)))), (by show GR (v 3).toInt (v 5).toInt (v167 3).toInt (v167 5).toInt; exact GR.cast hGR (by first | rfl | assumption | omega) (by first | rfl | assumption | omega)), (by show (v167 1).toInt = 0 → FI 1 (v167 10).toInt (v167 14).toInt (v167 8).toInt (f168 6) (f168 2) (f168 3); rw [hs6_f168, hs2_f168, hs3_f168]; intro hz9; exact FI.cast hFU (by first | rfl | assumption | omega) (by first | rfl | assumption | omega) (by first | rfl | assumption | omega)), (by show NB (v167 1).toInt (v167 8).toInt (v167 10).toInt (v167 13).toInt (v167 14).toInt; exact NB.mk (by omega) (by omega) (by omega) (by omega)), (by show UG (v167 1).toInt (v 13).toInt (v167 13).toInt; exact UG.mk (by omega))⟩ hP hD hS dX11_unit_179 (Nat.le_refl _) (Nat.le_refl _)
              · skip
                have zc96 : ¬ ((v1 1).toInt ≤ 0) := by rw [fa_le, show (0 : Int32).toInt = 0 from by decide] at c96; exact c96
                exact ret (v1, f1, w1, g1) _ _ _ _ _ _ ⟨hIv1, hCf1, hRf1, (show v1 0 = v 0 from hq0_v1), (show v1 4 = v 4 from hq4_v1), (show v1 9 = v 9 from hq9_v1), (show v1 15 = v 15 from hq15_v1), (show v1 17 = v 17 from hq17_v1), (show v1 18 = v 18 from hq18_v1), (show v1 24 = v 24 from hq24_v1), (show v1 25 = v 25 from hq25_v1), (show v1 35 = v 35 from hq35_v1), (show v1 36 = v 36 from hq36_v1), (show v1 38 = v 38 from hq38_v1), (show v1 39 = v 39 from hq39_v1), (by show GR (v 3).toInt (v 5).toInt (v1 3).toInt (v1 5).toInt; exact GR.cast hGR (by first | rfl | assumption | omega) (by first | rfl | assumption | omega)), (by show (v1 1).toInt = 0 → FI 1 (v1 10).toInt (v1 14).toInt (v1 8).toInt (f1 6) (f1 2) (f1 3); rw [hs2_f1, hs3_f1]; intro hz9; exfalso; omega), (by show NB (v1 1).toInt (v1 8).toInt (v1 10).toInt (v1 13).toInt (v1 14).toInt; exact NB.ab (by omega)), (by show UG (v1 1).toInt (v 13).toInt (v1 13).toInt; exact UG.ab (by omega))⟩ hP hD hS dX11_unit_145 (Nat.le_refl _) (Nat.le_refl _)
          refine lv_aload_n hx hb dX11_unit_114 rfl (lv_at hl 2 rfl) ?_
          refine va_get (D := (dC, dI)) (ci := 11) (v := .int (v1 5)) (C := RX11) (T := TX11) (N := 79) hx hb hts inB_11 hown hE.1 hP 0 rfl rfl 6 (by decide) (hts _ k_1326) (fun _ h9 => h9) rfl dX11_unit_115 ?_
          refine lv_iconst (v := 2) hx hb dX11_unit_118 (by decide) ?_
          refine lv_icmp_eq (tgt := 126) hx hb dX11_unit_119 (by decide) (fun c176 => ?_) (fun c176 => ?_)
          · skip
            have zc176 : (v1 5).toInt = 2 := by rw [fa_eq, show (2 : Int32).toInt = 2 from by decide] at c176; exact c176
            exact jp126 _ _ _ hP hD hS hl
          · skip
            have zc176 : ¬ ((v1 5).toInt = 2) := by rw [fa_eq, show (2 : Int32).toInt = 2 from by decide] at c176; exact c176
            refine lv_iload_n hx hb dX11_unit_122 rfl (lv_at hl 0 rfl) ?_
            refine lv_if_lt (tgt := 133) hx hb dX11_unit_123 (by decide) (fun c177 => ?_) (fun c177 => ?_)
            · skip
              have zc177 : r3.toInt < 0 := by rw [fa_lt, show (0 : Int32).toInt = 0 from by decide] at c177; exact c177
              exact jp133 _ _ _ hP hD hS hl
            · skip
              have zc177 : ¬ (r3.toInt < 0) := by rw [fa_lt, show (0 : Int32).toInt = 0 from by decide] at c177; exact c177
              exact jp126 _ _ _ hP hD hS hl
        · skip
          have zc2 : ¬ ((v1 1).toInt ≤ 0) := by rw [fa_le, show (0 : Int32).toInt = 0 from by decide] at c2; exact c2
          exact ret (v1, f1, w1, g1) _ _ _ _ _ _ ⟨hIv1, hCf1, hRf1, (show v1 0 = v 0 from hq0_v1), (show v1 4 = v 4 from hq4_v1), (show v1 9 = v 9 from hq9_v1), (show v1 15 = v 15 from hq15_v1), (show v1 17 = v 17 from hq17_v1), (show v1 18 = v 18 from hq18_v1), (show v1 24 = v 24 from hq24_v1), (show v1 25 = v 25 from hq25_v1), (show v1 35 = v 35 from hq35_v1), (show v1 36 = v 36 from hq36_v1), (show v1 38 = v 38 from hq38_v1), (show v1 39 = v 39 from hq39_v1), (by show GR (v 3).toInt (v 5).toInt (v1 3).toInt (v1 5).toInt; exact GR.cast hGR (by first | rfl | assumption | omega) (by first | rfl | assumption | omega)), (by show (v1 1).toInt = 0 → FI 1 (v1 10).toInt (v1 14).toInt (v1 8).toInt (f1 6) (f1 2) (f1 3); rw [hs2_f1, hs3_f1]; intro hz9; exfalso; omega), (by show NB (v1 1).toInt (v1 8).toInt (v1 10).toInt (v1 13).toInt (v1 14).toInt; exact NB.ab (by omega)), (by show UG (v1 1).toInt (v 13).toInt (v1 13).toInt; exact UG.ab (by omega))⟩ hP hD hS dX11_unit_108 (Nat.le_refl _) (Nat.le_refl _)
      refine lv_if_eq (tgt := 101) hx hb dX11_unit_3 (by decide) (fun c178 => ?_) (fun c178 => ?_)
      · skip
        have zc178 : l1_1.toInt = 0 := by rw [fa_eq, show (0 : Int32).toInt = 0 from by decide] at c178; exact c178
        exact jp101 _ _ _ hP hD hS hl
      · skip
        have zc178 : ¬ (l1_1.toInt = 0) := by rw [fa_eq, show (0 : Int32).toInt = 0 from by decide] at c178; exact c178
        refine lv_aload_n hx hb dX11_unit_6 rfl (lv_at hl 1 rfl) ?_
        refine va_get (D := (dC, dI)) (ci := 11) (v := .int (v1 1)) (C := RX11) (T := TX11) (N := 79) hx hb hts inB_11 hown hE.1 hP 0 rfl rfl 2 (by decide) (hts _ k_1322) (fun _ h9 => h9) rfl dX11_unit_7 ?_
        refine lv_if_ne (tgt := 101) hx hb dX11_unit_10 (by decide) (fun c179 => ?_) (fun c179 => ?_)
        · skip
          have zc179 : ¬ ((v1 1).toInt = 0) := by rw [fa_eq, show (0 : Int32).toInt = 0 from by decide] at c179; exact c179
          exact jp101 _ _ _ hP hD hS hl
        · skip
          have zc179 : (v1 1).toInt = 0 := by rw [fa_eq, show (0 : Int32).toInt = 0 from by decide] at c179; exact c179
          obtain ⟨hn1, hn2, hn3, hn4⟩ := hNU (by omega)
          have jp53 : ∀ (H : Heap) (locs : List Loc) (ls : Array Slot), va_P (dC, dI) vwCl (YW cy y0 r v1 f1 w1 g1) H → va_D A (YW cy y0 r v1 f1 w1 g1) → va_S A s.heap H locs → lv_has ls 3 [(1, .int l1_1), (0, .ref y0)] → W p l e { frames := 4, cells := 0, slots := 0, locals := 124 } s m ([.ref y0] : List Value).toArray below meth c H locs 0 0 Q (F0 m 53 ls []) := by
            intro H locs ls hP hD hS hl
            refine lv_aload_n hx hb dX11_unit_53 rfl (lv_at hl 1 rfl) ?_
            refine va_get (D := (dC, dI)) (ci := 11) (v := .int (v1 5)) (C := RX11) (T := TX11) (N := 79) hx hb hts inB_11 hown hE.1 hP 0 rfl rfl 6 (by decide) (hts _ k_1326) (fun _ h9 => h9) rfl dX11_unit_54 ?_
            refine lv_bipush (v := 40) hx hb dX11_unit_57 (by decide) ?_
            refine lv_icmp_ne (tgt := 96) hx hb dX11_unit_59 (by decide) (fun c180 => ?_) (fun c180 => ?_)
            · skip
              have zc180 : ¬ ((v1 5).toInt = 40) := by rw [fa_eq, show (40 : Int32).toInt = 40 from by decide] at c180; exact c180
              refine lv_iconst (v := 0) hx hb dX11_unit_96 (by decide) ?_
              refine lv_istore_n (lv' := [(1, .int 0), (0, .ref y0)]) hx hb dX11_unit_97 rfl hl (by decide) rfl (fun ls hl => ?_)
              refine lv_goto (tgt := 2) hx hb dX11_unit_98 (by decide) ?_
              exact ih1 0 v1 f1 w1 g1 hIv1 hCf1 hRf1 hq0_v1 hq4_v1 hq8_v1 hq9_v1 hq15_v1 hq17_v1 hq18_v1 hq24_v1 hq25_v1 hq35_v1 hq36_v1 hq38_v1 hq39_v1 ⟨by decide, by decide⟩ (by show (v1 1).toInt = 0 → FI 0 (v1 10).toInt (v1 14).toInt (v1 8).toInt (f1 6) (f1 2) (f1 3); rw [hs2_f1, hs3_f1]; intro hz9; exact FI.cast (hFJ (by omega)) (by first | rfl | assumption | omega) (by first | rfl | assumption | omega) (by first | rfl | assumption | omega)) (by show NU (v1 1).toInt (v1 8).toInt (v1 10).toInt (v1 13).toInt (v1 14).toInt; exact NU.mk (by omega) (by omega) (by omega) (by omega)) (by show GR (v 3).toInt (v 5).toInt (v1 3).toInt (v1 5).toInt; exact GR.cast hGR (by first | rfl | assumption | omega) (by first | rfl | assumption | omega)) (by show (v 13).toInt ≤ (v1 13).toInt; omega) hs2_f1 hs3_f1 (by have q1 : (0 : Int32).toInt = 0 := (by decide); show (2 * (9 - (v1 14).toInt) + (0 : Int32).toInt).toNat < n1; omega) _ _ _ hP hD hS (lv_sub hl [0, 1] rfl)
            · skip
              have zc180 : (v1 5).toInt = 40 := by rw [fa_eq, show (40 : Int32).toInt = 40 from by decide] at c180; exact c180
              refine lv_aload_n hx hb dX11_unit_62 rfl (lv_at hl 1 rfl) ?_
              refine cbVi (n := 0) (rest := []) hx hb hml hown hts hE hP hD hS hA (sY_X11_isFull_1 l dC dI cy y0 r  v1 f1 w1 g1 hIv1 hCf1 hRf1 ) k_1684 k_1686 k_60 k_114 k_1687 (by decide +kernel) ⟨Nat.le_of_ble_eq_true rfl, Nat.le_of_ble_eq_true rfl⟩ 0 11 rfl rfl (rfl) hl.1 rfl (Nat.le_of_ble_eq_true rfl) dX11_unit_63 (fun r181 u H locs hw hP hD hS => ?_)
              rcases hw with ⟨g182⟩ | ⟨g182, g182_0⟩
              · skip
                subst g182
                refine lv_if_ne (tgt := 78) hx hb dX11_unit_66 (by decide) (fun _ => ?_) (fun c0 => absurd c0 (by decide))
                refine lv_aload_n hx hb dX11_unit_78 rfl (lv_at hl 1 rfl) ?_
                refine lv_iconst (v := 2) hx hb dX11_unit_79 (by decide) ?_
                refine cbVv (n := 1) (rest := []) hx hb hml hown hts hE hP hD hS hA (sY_X11_wrong_1 l dC dI cy y0 r 2 v1 f1 w1 g1 hIv1 hCf1 hRf1 ⟨by decide, by decide⟩) k_1641 k_1643 k_50 k_114 k_1644 (by decide +kernel) ⟨Nat.le_of_ble_eq_true rfl, Nat.le_of_ble_eq_true rfl⟩ 0 11 rfl rfl (rfl) hl.1 rfl (Nat.le_of_ble_eq_true rfl) dX11_unit_80 (fun u H locs hw hP hD hS => ?_)
                obtain ⟨v183, f184, w185, g186⟩ := u
                obtain ⟨hIv183, hCf184, hRf184, hk0_v183, hk3_v183, hk4_v183, hk5_v183, hk8_v183, hk9_v183, hk10_v183, hk13_v183, hk14_v183, hk15_v183, hk17_v183, hk18_v183, hk24_v183, hk25_v183, hk35_v183, hk36_v183, hk38_v183, hk39_v183, pv187, pv188, pv189, kq190, kq191, kq192⟩ := hw
                have hP : va_P (dC, dI) vwCl (YW cy y0 r v183 f184 w185 g186) H := hP
                have hD : va_D A (YW cy y0 r v183 f184 w185 g186) := hD
                have b3_v183 : 0 ≤ (v183 3).toInt ∧ (v183 3).toInt ≤ 1600 := YIb.b hIv183.1 3 (by decide)
                have b1_v183 : 0 ≤ (v183 1).toInt ∧ (v183 1).toInt ≤ 4 := YIb.b hIv183.1 1 (by decide)
                have pv187 : (v1 3).toInt ≤ (v183 3).toInt := pv187
                have pv188 : (v183 5).toInt = (v1 5).toInt ∨ (v1 3).toInt < (v183 3).toInt ∨ ¬ (v183 5).toInt = 59 := pv188
                have pv189 : 0 < (v183 1).toInt := pv189
                have hs2_f184 : f184 2 = (f 2) := kq190.trans hs2_f1
                have hs3_f184 : f184 3 = (f 3) := kq191.trans hs3_f1
                have hs6_f184 : f184 6 = (f1 6) := kq192
                have hUv183 : (v183 35).toInt + (v183 36).toInt ≤ 40 := hIv183.2
                have hq0_v183 : v183 0 = (v 0) := hk0_v183.trans hq0_v1
                have hq3_v183 : v183 3 = (v1 3) := hk3_v183
                have zq3_v183 := congrArg Int32.toInt hq3_v183
                have hq4_v183 : v183 4 = (v 4) := hk4_v183.trans hq4_v1
                have hq5_v183 : v183 5 = (v1 5) := hk5_v183
                have zq5_v183 := congrArg Int32.toInt hq5_v183
                have hq8_v183 : v183 8 = (v 8) := hk8_v183.trans hq8_v1
                have zq8_v183 := congrArg Int32.toInt hq8_v183
                have hq9_v183 : v183 9 = (v 9) := hk9_v183.trans hq9_v1
                have hq10_v183 : v183 10 = (v1 10) := hk10_v183
                have zq10_v183 := congrArg Int32.toInt hq10_v183
                have hq13_v183 : v183 13 = (v1 13) := hk13_v183
                have zq13_v183 := congrArg Int32.toInt hq13_v183
                have hq14_v183 : v183 14 = (v1 14) := hk14_v183
                have zq14_v183 := congrArg Int32.toInt hq14_v183
                have hq15_v183 : v183 15 = (v 15) := hk15_v183.trans hq15_v1
                have hq17_v183 : v183 17 = (v 17) := hk17_v183.trans hq17_v1
                have hq18_v183 : v183 18 = (v 18) := hk18_v183.trans hq18_v1
                have hq24_v183 : v183 24 = (v 24) := hk24_v183.trans hq24_v1
                have hq25_v183 : v183 25 = (v 25) := hk25_v183.trans hq25_v1
                have hq35_v183 : v183 35 = (v 35) := hk35_v183.trans hq35_v1
                have hq36_v183 : v183 36 = (v 36) := hk36_v183.trans hq36_v1
                have hq38_v183 : v183 38 = (v 38) := hk38_v183.trans hq38_v1
                have hq39_v183 : v183 39 = (v 39) := hk39_v183.trans hq39_v1
                have hGR : GR (v 3).toInt (v 5).toInt (v183 3).toInt (v183 5).toInt := GR.tr hGR (show GR (v1 3).toInt (v1 5).toInt (v183 3).toInt (v183 5).toInt from ⟨pv187, pv188⟩) (by first | rfl | assumption | omega) (by first | rfl | assumption | omega)
                clear pv188
                refine lv_aload_n hx hb dX11_unit_83 rfl (lv_at hl 1 rfl) ?_
                refine cbVv (n := 0) (rest := []) hx hb hml hown hts hE hP hD hS hA (sY_X11_countUnit_1 l dC dI cy y0 r  v183 f184 w185 g186 hIv183 hCf184 hRf184 (by show (v183 13).toInt ≤ 30; omega)) k_1688 k_1690 k_61 k_114 k_1691 (by decide +kernel) ⟨Nat.le_of_ble_eq_true rfl, Nat.le_of_ble_eq_true rfl⟩ 0 11 rfl rfl (rfl) hl.1 rfl (Nat.le_of_ble_eq_true rfl) dX11_unit_84 (fun u H locs hw hP hD hS => ?_)
                obtain ⟨v193, f194, w195, g196⟩ := u
                obtain ⟨hIv193, hCf194, hRf194, hk0_v193, hk1_v193, hk3_v193, hk4_v193, hk5_v193, hk8_v193, hk9_v193, hk10_v193, hk14_v193, hk15_v193, hk17_v193, hk18_v193, hk24_v193, hk25_v193, hk35_v193, hk36_v193, hk38_v193, hk39_v193, pv197, kq198, kq199, kq200⟩ := hw
                have hP : va_P (dC, dI) vwCl (YW cy y0 r v193 f194 w195 g196) H := hP
                have hD : va_D A (YW cy y0 r v193 f194 w195 g196) := hD
                have b13_v193 : 0 ≤ (v193 13).toInt ∧ (v193 13).toInt ≤ 31 := YIb.b hIv193.1 13 (by decide)
                have pv197 : (v193 13).toInt = (v183 13).toInt + 1 := pv197
                have hs2_f194 : f194 2 = (f 2) := kq198.trans hs2_f184
                have hs3_f194 : f194 3 = (f 3) := kq199.trans hs3_f184
                have hs6_f194 : f194 6 = (f1 6) := kq200.trans hs6_f184
                have hUv193 : (v193 35).toInt + (v193 36).toInt ≤ 40 := hIv193.2
                have hq0_v193 : v193 0 = (v 0) := hk0_v193.trans hq0_v183
                have hq1_v193 : v193 1 = (v183 1) := hk1_v193
                have zq1_v193 := congrArg Int32.toInt hq1_v193
                have hq3_v193 : v193 3 = (v1 3) := hk3_v193.trans hq3_v183
                have zq3_v193 := congrArg Int32.toInt hq3_v193
                have hq4_v193 : v193 4 = (v 4) := hk4_v193.trans hq4_v183
                have hq5_v193 : v193 5 = (v1 5) := hk5_v193.trans hq5_v183
                have zq5_v193 := congrArg Int32.toInt hq5_v193
                have hq8_v193 : v193 8 = (v 8) := hk8_v193.trans hq8_v183
                have zq8_v193 := congrArg Int32.toInt hq8_v193
                have hq9_v193 : v193 9 = (v 9) := hk9_v193.trans hq9_v183
                have hq10_v193 : v193 10 = (v1 10) := hk10_v193.trans hq10_v183
                have zq10_v193 := congrArg Int32.toInt hq10_v193
                have hq14_v193 : v193 14 = (v1 14) := hk14_v193.trans hq14_v183
                have zq14_v193 := congrArg Int32.toInt hq14_v193
                have hq15_v193 : v193 15 = (v 15) := hk15_v193.trans hq15_v183
                have hq17_v193 : v193 17 = (v 17) := hk17_v193.trans hq17_v183
                have hq18_v193 : v193 18 = (v 18) := hk18_v193.trans hq18_v183
                have hq24_v193 : v193 24 = (v 24) := hk24_v193.trans hq24_v183
                have hq25_v193 : v193 25 = (v 25) := hk25_v193.trans hq25_v183
                have hq35_v193 : v193 35 = (v 35) := hk35_v193.trans hq35_v183
                have hq36_v193 : v193 36 = (v 36) := hk36_v193.trans hq36_v183
                have hq38_v193 : v193 38 = (v 38) := hk38_v193.trans hq38_v183
                have hq39_v193 : v193 39 = (v 39) := hk39_v193.trans hq39_v183
                refine lv_aload_n hx hb dX11_unit_87 rfl (lv_at hl 1 rfl) ?_
                refine lv_bipush (v := 20) hx hb dX11_unit_88 (by decide) ?_
                refine cbVv (n := 1) (rest := []) hx hb hml hown hts hE hP hD hS hA (sY_X11_openUp_1 l dC dI cy y0 r 20 v193 f194 w195 g196 hIv193 hCf194 hRf194 (by have q1 : (20 : Int32).toInt = 20 := (by decide); show (v193 10).toInt ≤ 159; omega) (by have q1 : (20 : Int32).toInt = 20 := (by decide); show (v193 14).toInt ≤ 7; omega)) k_1680 k_1682 k_59 k_114 k_1683 (by decide +kernel) ⟨Nat.le_of_ble_eq_true rfl, Nat.le_of_ble_eq_true rfl⟩ 0 11 rfl rfl (rfl) hl.1 rfl (Nat.le_of_ble_eq_true rfl) dX11_unit_90 (fun u H locs hw hP hD hS => ?_)
                obtain ⟨v201, f202, w203, g204⟩ := u
                obtain ⟨hIv201, hCf202, hRf202, hk0_v201, hk1_v201, hk4_v201, hk8_v201, hk9_v201, hk13_v201, hk15_v201, hk17_v201, hk18_v201, hk24_v201, hk25_v201, hk35_v201, hk36_v201, hk38_v201, hk39_v201, pv205, pv206, pg207, pg208, kq209, kq210⟩ := hw
                have hP : va_P (dC, dI) vwCl (YW cy y0 r v201 f202 w203 g204) H := hP
                have hD : va_D A (YW cy y0 r v201 f202 w203 g204) := hD
                have b10_v201 : 0 ≤ (v201 10).toInt ∧ (v201 10).toInt ≤ 160 := YIb.b hIv201.1 10 (by decide)
                have b14_v201 : 0 ≤ (v201 14).toInt ∧ (v201 14).toInt ≤ 8 := YIb.b hIv201.1 14 (by decide)
                have b3_v201 : 0 ≤ (v201 3).toInt ∧ (v201 3).toInt ≤ 1600 := YIb.b hIv201.1 3 (by decide)
                have pv205 : (v201 10).toInt = (v193 10).toInt + 1 := pv205
                have pv206 : (v201 14).toInt = (v193 14).toInt + 1 := pv206
                have pg207 : GR (v193 3).toInt (v193 5).toInt (v201 3).toInt (v201 5).toInt := pg207
                have pg208 : (f202 6) = upd (f194 6) ((v193 10).toInt).toNat 20 := pg208
                rw [hs6_f194] at pg208
                have hs2_f202 : f202 2 = (f 2) := kq209.trans hs2_f194
                have hs3_f202 : f202 3 = (f 3) := kq210.trans hs3_f194
                have hUv201 : (v201 35).toInt + (v201 36).toInt ≤ 40 := hIv201.2
                have hq0_v201 : v201 0 = (v 0) := hk0_v201.trans hq0_v193
                have hq1_v201 : v201 1 = (v183 1) := hk1_v201.trans hq1_v193
                have zq1_v201 := congrArg Int32.toInt hq1_v201
                have hq4_v201 : v201 4 = (v 4) := hk4_v201.trans hq4_v193
                have hq8_v201 : v201 8 = (v 8) := hk8_v201.trans hq8_v193
                have zq8_v201 := congrArg Int32.toInt hq8_v201
                have hq9_v201 : v201 9 = (v 9) := hk9_v201.trans hq9_v193
                have hq13_v201 : v201 13 = (v193 13) := hk13_v201
                have zq13_v201 := congrArg Int32.toInt hq13_v201
                have hq15_v201 : v201 15 = (v 15) := hk15_v201.trans hq15_v193
                have hq17_v201 : v201 17 = (v 17) := hk17_v201.trans hq17_v193
                have hq18_v201 : v201 18 = (v 18) := hk18_v201.trans hq18_v193
                have hq24_v201 : v201 24 = (v 24) := hk24_v201.trans hq24_v193
                have hq25_v201 : v201 25 = (v 25) := hk25_v201.trans hq25_v193
                have hq35_v201 : v201 35 = (v 35) := hk35_v201.trans hq35_v193
                have hq36_v201 : v201 36 = (v 36) := hk36_v201.trans hq36_v193
                have hq38_v201 : v201 38 = (v 38) := hk38_v201.trans hq38_v193
                have hq39_v201 : v201 39 = (v 39) := hk39_v201.trans hq39_v193
                have hGR : GR (v 3).toInt (v 5).toInt (v201 3).toInt (v201 5).toInt := GR.tr hGR (show GR (v193 3).toInt (v193 5).toInt (v201 3).toInt (v201 5).toInt from pg207) (by first | rfl | assumption | omega) (by first | rfl | assumption | omega)
                have hFK : FI 0 (v201 10).toInt (v201 14).toInt (v201 8).toInt (f202 6) (f 2) (f 3) := FI.push (hFJ (by omega)) pg208 (by omega) (by decide) (by first | rfl | assumption | omega) (by first | rfl | assumption | omega) (by first | rfl | assumption | omega)
                refine lv_goto (tgt := 2) hx hb dX11_unit_93 (by decide) ?_
                have rg211 := fb_rng l1_1
                exact ih1 l1_1 v201 f202 w203 g204 hIv201 hCf202 hRf202 hq0_v201 hq4_v201 hq8_v201 hq9_v201 hq15_v201 hq17_v201 hq18_v201 hq24_v201 hq25_v201 hq35_v201 hq36_v201 hq38_v201 hq39_v201 ⟨show (0 : Int) ≤ l1_1.toInt by omega, show l1_1.toInt ≤ (1 : Int) by omega⟩ (by show (v201 1).toInt = 0 → FI 0 (v201 10).toInt (v201 14).toInt (v201 8).toInt (f202 6) (f202 2) (f202 3); rw [hs2_f202, hs3_f202]; intro hz9; exact FI.cast hFK (by first | rfl | assumption | omega) (by first | rfl | assumption | omega) (by first | rfl | assumption | omega)) (by show NU (v201 1).toInt (v201 8).toInt (v201 10).toInt (v201 13).toInt (v201 14).toInt; exact NU.ab (by omega)) (by show GR (v 3).toInt (v 5).toInt (v201 3).toInt (v201 5).toInt; exact GR.cast hGR (by first | rfl | assumption | omega) (by first | rfl | assumption | omega)) (by show (v 13).toInt ≤ (v201 13).toInt; omega) hs2_f202 hs3_f202 (by show (2 * (9 - (v201 14).toInt) + l1_1.toInt).toNat < n1; omega) _ _ _ hP hD hS (lv_sub hl [0, 1] rfl)
              · skip
                subst g182
                refine lv_if_ne (tgt := 78) hx hb dX11_unit_66 (by decide) (fun c0 => absurd (by decide) c0) (fun _ => ?_)
                refine lv_aload_n hx hb dX11_unit_69 rfl (lv_at hl 1 rfl) ?_
                refine va_get (D := (dC, dI)) (ci := 11) (v := .int (v1 14)) (C := RX11) (T := TX11) (N := 79) hx hb hts inB_11 hown hE.1 hP 0 rfl rfl 23 (by decide) (hts _ k_1343) (fun _ h9 => h9) rfl dX11_unit_70 ?_
                refine lv_bipush (v := 6) hx hb dX11_unit_73 (by decide) ?_
                refine lv_icmp_le (tgt := 83) hx hb dX11_unit_75 (by decide) (fun c212 => ?_) (fun c212 => ?_)
                · skip
                  have zc212 : (v1 14).toInt ≤ 6 := by rw [fa_le, show (6 : Int32).toInt = 6 from by decide] at c212; exact c212
                  refine lv_aload_n hx hb dX11_unit_83 rfl (lv_at hl 1 rfl) ?_
                  refine cbVv (n := 0) (rest := []) hx hb hml hown hts hE hP hD hS hA (sY_X11_countUnit_1 l dC dI cy y0 r  v1 f1 w1 g1 hIv1 hCf1 hRf1 (by show (v1 13).toInt ≤ 30; omega)) k_1688 k_1690 k_61 k_114 k_1691 (by decide +kernel) ⟨Nat.le_of_ble_eq_true rfl, Nat.le_of_ble_eq_true rfl⟩ 0 11 rfl rfl (rfl) hl.1 rfl (Nat.le_of_ble_eq_true rfl) dX11_unit_84 (fun u H locs hw hP hD hS => ?_)
                  obtain ⟨v213, f214, w215, g216⟩ := u
                  obtain ⟨hIv213, hCf214, hRf214, hk0_v213, hk1_v213, hk3_v213, hk4_v213, hk5_v213, hk8_v213, hk9_v213, hk10_v213, hk14_v213, hk15_v213, hk17_v213, hk18_v213, hk24_v213, hk25_v213, hk35_v213, hk36_v213, hk38_v213, hk39_v213, pv217, kq218, kq219, kq220⟩ := hw
                  have hP : va_P (dC, dI) vwCl (YW cy y0 r v213 f214 w215 g216) H := hP
                  have hD : va_D A (YW cy y0 r v213 f214 w215 g216) := hD
                  have b13_v213 : 0 ≤ (v213 13).toInt ∧ (v213 13).toInt ≤ 31 := YIb.b hIv213.1 13 (by decide)
                  have pv217 : (v213 13).toInt = (v1 13).toInt + 1 := pv217
                  have hs2_f214 : f214 2 = (f 2) := kq218.trans hs2_f1
                  have hs3_f214 : f214 3 = (f 3) := kq219.trans hs3_f1
                  have hs6_f214 : f214 6 = (f1 6) := kq220
                  have hUv213 : (v213 35).toInt + (v213 36).toInt ≤ 40 := hIv213.2
                  have hq0_v213 : v213 0 = (v 0) := hk0_v213.trans hq0_v1
                  have hq1_v213 : v213 1 = (v1 1) := hk1_v213
                  have zq1_v213 := congrArg Int32.toInt hq1_v213
                  have hq3_v213 : v213 3 = (v1 3) := hk3_v213
                  have zq3_v213 := congrArg Int32.toInt hq3_v213
                  have hq4_v213 : v213 4 = (v 4) := hk4_v213.trans hq4_v1
                  have hq5_v213 : v213 5 = (v1 5) := hk5_v213
                  have zq5_v213 := congrArg Int32.toInt hq5_v213
                  have hq8_v213 : v213 8 = (v 8) := hk8_v213.trans hq8_v1
                  have zq8_v213 := congrArg Int32.toInt hq8_v213
                  have hq9_v213 : v213 9 = (v 9) := hk9_v213.trans hq9_v1
                  have hq10_v213 : v213 10 = (v1 10) := hk10_v213
                  have zq10_v213 := congrArg Int32.toInt hq10_v213
                  have hq14_v213 : v213 14 = (v1 14) := hk14_v213
                  have zq14_v213 := congrArg Int32.toInt hq14_v213
                  have hq15_v213 : v213 15 = (v 15) := hk15_v213.trans hq15_v1
                  have hq17_v213 : v213 17 = (v 17) := hk17_v213.trans hq17_v1
                  have hq18_v213 : v213 18 = (v 18) := hk18_v213.trans hq18_v1
                  have hq24_v213 : v213 24 = (v 24) := hk24_v213.trans hq24_v1
                  have hq25_v213 : v213 25 = (v 25) := hk25_v213.trans hq25_v1
                  have hq35_v213 : v213 35 = (v 35) := hk35_v213.trans hq35_v1
                  have hq36_v213 : v213 36 = (v 36) := hk36_v213.trans hq36_v1
                  have hq38_v213 : v213 38 = (v 38) := hk38_v213.trans hq38_v1
                  have hq39_v213 : v213 39 = (v 39) := hk39_v213.trans hq39_v1
                  refine lv_aload_n hx hb dX11_unit_87 rfl (lv_at hl 1 rfl) ?_
                  refine lv_bipush (v := 20) hx hb dX11_unit_88 (by decide) ?_
                  refine cbVv (n := 1) (rest := []) hx hb hml hown hts hE hP hD hS hA (sY_X11_openUp_1 l dC dI cy y0 r 20 v213 f214 w215 g216 hIv213 hCf214 hRf214 (by have q1 : (20 : Int32).toInt = 20 := (by decide); show (v213 10).toInt ≤ 159; omega) (by have q1 : (20 : Int32).toInt = 20 := (by decide); show (v213 14).toInt ≤ 7; omega)) k_1680 k_1682 k_59 k_114 k_1683 (by decide +kernel) ⟨Nat.le_of_ble_eq_true rfl, Nat.le_of_ble_eq_true rfl⟩ 0 11 rfl rfl (rfl) hl.1 rfl (Nat.le_of_ble_eq_true rfl) dX11_unit_90 (fun u H locs hw hP hD hS => ?_)
                  obtain ⟨v221, f222, w223, g224⟩ := u
                  obtain ⟨hIv221, hCf222, hRf222, hk0_v221, hk1_v221, hk4_v221, hk8_v221, hk9_v221, hk13_v221, hk15_v221, hk17_v221, hk18_v221, hk24_v221, hk25_v221, hk35_v221, hk36_v221, hk38_v221, hk39_v221, pv225, pv226, pg227, pg228, kq229, kq230⟩ := hw
                  have hP : va_P (dC, dI) vwCl (YW cy y0 r v221 f222 w223 g224) H := hP
                  have hD : va_D A (YW cy y0 r v221 f222 w223 g224) := hD
                  have b10_v221 : 0 ≤ (v221 10).toInt ∧ (v221 10).toInt ≤ 160 := YIb.b hIv221.1 10 (by decide)
                  have b14_v221 : 0 ≤ (v221 14).toInt ∧ (v221 14).toInt ≤ 8 := YIb.b hIv221.1 14 (by decide)
                  have b3_v221 : 0 ≤ (v221 3).toInt ∧ (v221 3).toInt ≤ 1600 := YIb.b hIv221.1 3 (by decide)
                  have pv225 : (v221 10).toInt = (v213 10).toInt + 1 := pv225
                  have pv226 : (v221 14).toInt = (v213 14).toInt + 1 := pv226
                  have pg227 : GR (v213 3).toInt (v213 5).toInt (v221 3).toInt (v221 5).toInt := pg227
                  have pg228 : (f222 6) = upd (f214 6) ((v213 10).toInt).toNat 20 := pg228
                  rw [hs6_f214] at pg228
                  have hs2_f222 : f222 2 = (f 2) := kq229.trans hs2_f214
                  have hs3_f222 : f222 3 = (f 3) := kq230.trans hs3_f214
                  have hUv221 : (v221 35).toInt + (v221 36).toInt ≤ 40 := hIv221.2
                  have hq0_v221 : v221 0 = (v 0) := hk0_v221.trans hq0_v213
                  have hq1_v221 : v221 1 = (v1 1) := hk1_v221.trans hq1_v213
                  have zq1_v221 := congrArg Int32.toInt hq1_v221
                  have hq4_v221 : v221 4 = (v 4) := hk4_v221.trans hq4_v213
                  have hq8_v221 : v221 8 = (v 8) := hk8_v221.trans hq8_v213
                  have zq8_v221 := congrArg Int32.toInt hq8_v221
                  have hq9_v221 : v221 9 = (v 9) := hk9_v221.trans hq9_v213
                  have hq13_v221 : v221 13 = (v213 13) := hk13_v221
                  have zq13_v221 := congrArg Int32.toInt hq13_v221
                  have hq15_v221 : v221 15 = (v 15) := hk15_v221.trans hq15_v213
                  have hq17_v221 : v221 17 = (v 17) := hk17_v221.trans hq17_v213
                  have hq18_v221 : v221 18 = (v 18) := hk18_v221.trans hq18_v213
                  have hq24_v221 : v221 24 = (v 24) := hk24_v221.trans hq24_v213
                  have hq25_v221 : v221 25 = (v 25) := hk25_v221.trans hq25_v213
                  have hq35_v221 : v221 35 = (v 35) := hk35_v221.trans hq35_v213
                  have hq36_v221 : v221 36 = (v 36) := hk36_v221.trans hq36_v213
                  have hq38_v221 : v221 38 = (v 38) := hk38_v221.trans hq38_v213
                  have hq39_v221 : v221 39 = (v 39) := hk39_v221.trans hq39_v213
                  have hGR : GR (v 3).toInt (v 5).toInt (v221 3).toInt (v221 5).toInt := GR.tr hGR (show GR (v213 3).toInt (v213 5).toInt (v221 3).toInt (v221 5).toInt from pg227) (by first | rfl | assumption | omega) (by first | rfl | assumption | omega)
                  have hFK : FI 0 (v221 10).toInt (v221 14).toInt (v221 8).toInt (f222 6) (f 2) (f 3) := FI.push (hFJ (by omega)) pg228 (by omega) (by decide) (by first | rfl | assumption | omega) (by first | rfl | assumption | omega) (by first | rfl | assumption | omega)
                  refine lv_goto (tgt := 2) hx hb dX11_unit_93 (by decide) ?_
                  have rg231 := fb_rng l1_1
                  exact ih1 l1_1 v221 f222 w223 g224 hIv221 hCf222 hRf222 hq0_v221 hq4_v221 hq8_v221 hq9_v221 hq15_v221 hq17_v221 hq18_v221 hq24_v221 hq25_v221 hq35_v221 hq36_v221 hq38_v221 hq39_v221 ⟨show (0 : Int) ≤ l1_1.toInt by omega, show l1_1.toInt ≤ (1 : Int) by omega⟩ (by show (v221 1).toInt = 0 → FI 0 (v221 10).toInt (v221 14).toInt (v221 8).toInt (f222 6) (f222 2) (f222 3); rw [hs2_f222, hs3_f222]; intro hz9; exact FI.cast hFK (by first | rfl | assumption | omega) (by first | rfl | assumption | omega) (by first | rfl | assumption | omega)) (by show NU (v221 1).toInt (v221 8).toInt (v221 10).toInt (v221 13).toInt (v221 14).toInt; exact NU.mk (by omega) (by omega) (by omega) (by omega)) (by show GR (v 3).toInt (v 5).toInt (v221 3).toInt (v221 5).toInt; exact GR.cast hGR (by first | rfl | assumption | omega) (by first | rfl | assumption | omega)) (by show (v 13).toInt ≤ (v221 13).toInt; omega) hs2_f222 hs3_f222 (by show (2 * (9 - (v221 14).toInt) + l1_1.toInt).toNat < n1; omega) _ _ _ hP hD hS (lv_sub hl [0, 1] rfl)
                · skip
                  have zc212 : ¬ ((v1 14).toInt ≤ 6) := by rw [fa_le, show (6 : Int32).toInt = 6 from by decide] at c212; exact c212
                  refine lv_aload_n hx hb dX11_unit_78 rfl (lv_at hl 1 rfl) ?_
                  refine lv_iconst (v := 2) hx hb dX11_unit_79 (by decide) ?_
                  refine cbVv (n := 1) (rest := []) hx hb hml hown hts hE hP hD hS hA (sY_X11_wrong_1 l dC dI cy y0 r 2 v1 f1 w1 g1 hIv1 hCf1 hRf1 ⟨by decide, by decide⟩) k_1641 k_1643 k_50 k_114 k_1644 (by decide +kernel) ⟨Nat.le_of_ble_eq_true rfl, Nat.le_of_ble_eq_true rfl⟩ 0 11 rfl rfl (rfl) hl.1 rfl (Nat.le_of_ble_eq_true rfl) dX11_unit_80 (fun u H locs hw hP hD hS => ?_)
                  obtain ⟨v232, f233, w234, g235⟩ := u
                  obtain ⟨hIv232, hCf233, hRf233, hk0_v232, hk3_v232, hk4_v232, hk5_v232, hk8_v232, hk9_v232, hk10_v232, hk13_v232, hk14_v232, hk15_v232, hk17_v232, hk18_v232, hk24_v232, hk25_v232, hk35_v232, hk36_v232, hk38_v232, hk39_v232, pv236, pv237, pv238, kq239, kq240, kq241⟩ := hw
                  have hP : va_P (dC, dI) vwCl (YW cy y0 r v232 f233 w234 g235) H := hP
                  have hD : va_D A (YW cy y0 r v232 f233 w234 g235) := hD
                  have b3_v232 : 0 ≤ (v232 3).toInt ∧ (v232 3).toInt ≤ 1600 := YIb.b hIv232.1 3 (by decide)
                  have b1_v232 : 0 ≤ (v232 1).toInt ∧ (v232 1).toInt ≤ 4 := YIb.b hIv232.1 1 (by decide)
                  have pv236 : (v1 3).toInt ≤ (v232 3).toInt := pv236
                  have pv237 : (v232 5).toInt = (v1 5).toInt ∨ (v1 3).toInt < (v232 3).toInt ∨ ¬ (v232 5).toInt = 59 := pv237
                  have pv238 : 0 < (v232 1).toInt := pv238
                  have hs2_f233 : f233 2 = (f 2) := kq239.trans hs2_f1
                  have hs3_f233 : f233 3 = (f 3) := kq240.trans hs3_f1
                  have hs6_f233 : f233 6 = (f1 6) := kq241
                  have hUv232 : (v232 35).toInt + (v232 36).toInt ≤ 40 := hIv232.2
                  have hq0_v232 : v232 0 = (v 0) := hk0_v232.trans hq0_v1
                  have hq3_v232 : v232 3 = (v1 3) := hk3_v232
                  have zq3_v232 := congrArg Int32.toInt hq3_v232
                  have hq4_v232 : v232 4 = (v 4) := hk4_v232.trans hq4_v1
                  have hq5_v232 : v232 5 = (v1 5) := hk5_v232
                  have zq5_v232 := congrArg Int32.toInt hq5_v232
                  have hq8_v232 : v232 8 = (v 8) := hk8_v232.trans hq8_v1
                  have zq8_v232 := congrArg Int32.toInt hq8_v232
                  have hq9_v232 : v232 9 = (v 9) := hk9_v232.trans hq9_v1
                  have hq10_v232 : v232 10 = (v1 10) := hk10_v232
                  have zq10_v232 := congrArg Int32.toInt hq10_v232
                  have hq13_v232 : v232 13 = (v1 13) := hk13_v232
                  have zq13_v232 := congrArg Int32.toInt hq13_v232
                  have hq14_v232 : v232 14 = (v1 14) := hk14_v232
                  have zq14_v232 := congrArg Int32.toInt hq14_v232
                  have hq15_v232 : v232 15 = (v 15) := hk15_v232.trans hq15_v1
                  have hq17_v232 : v232 17 = (v 17) := hk17_v232.trans hq17_v1
                  have hq18_v232 : v232 18 = (v 18) := hk18_v232.trans hq18_v1
                  have hq24_v232 : v232 24 = (v 24) := hk24_v232.trans hq24_v1
                  have hq25_v232 : v232 25 = (v 25) := hk25_v232.trans hq25_v1
                  have hq35_v232 : v232 35 = (v 35) := hk35_v232.trans hq35_v1
                  have hq36_v232 : v232 36 = (v 36) := hk36_v232.trans hq36_v1
                  have hq38_v232 : v232 38 = (v 38) := hk38_v232.trans hq38_v1
                  have hq39_v232 : v232 39 = (v 39) := hk39_v232.trans hq39_v1
                  have hGR : GR (v 3).toInt (v 5).toInt (v232 3).toInt (v232 5).toInt := GR.tr hGR (show GR (v1 3).toInt (v1 5).toInt (v232 3).toInt (v232 5).toInt from ⟨pv236, pv237⟩) (by first | rfl | assumption | omega) (by first | rfl | assumption | omega)
                  clear pv237
                  refine lv_aload_n hx hb dX11_unit_83 rfl (lv_at hl 1 rfl) ?_
                  refine cbVv (n := 0) (rest := []) hx hb hml hown hts hE hP hD hS hA (sY_X11_countUnit_1 l dC dI cy y0 r  v232 f233 w234 g235 hIv232 hCf233 hRf233 (by show (v232 13).toInt ≤ 30; omega)) k_1688 k_1690 k_61 k_114 k_1691 (by decide +kernel) ⟨Nat.le_of_ble_eq_true rfl, Nat.le_of_ble_eq_true rfl⟩ 0 11 rfl rfl (rfl) hl.1 rfl (Nat.le_of_ble_eq_true rfl) dX11_unit_84 (fun u H locs hw hP hD hS => ?_)
                  obtain ⟨v242, f243, w244, g245⟩ := u
                  obtain ⟨hIv242, hCf243, hRf243, hk0_v242, hk1_v242, hk3_v242, hk4_v242, hk5_v242, hk8_v242, hk9_v242, hk10_v242, hk14_v242, hk15_v242, hk17_v242, hk18_v242, hk24_v242, hk25_v242, hk35_v242, hk36_v242, hk38_v242, hk39_v242, pv246, kq247, kq248, kq249⟩ := hw
                  have hP : va_P (dC, dI) vwCl (YW cy y0 r v242 f243 w244 g245) H := hP
                  have hD : va_D A (YW cy y0 r v242 f243 w244 g245) := hD
                  have b13_v242 : 0 ≤ (v242 13).toInt ∧ (v242 13).toInt ≤ 31 := YIb.b hIv242.1 13 (by decide)
                  have pv246 : (v242 13).toInt = (v232 13).toInt + 1 := pv246
                  have hs2_f243 : f243 2 = (f 2) := kq247.trans hs2_f233
                  have hs3_f243 : f243 3 = (f 3) := kq248.trans hs3_f233
                  have hs6_f243 : f243 6 = (f1 6) := kq249.trans hs6_f233
                  have hUv242 : (v242 35).toInt + (v242 36).toInt ≤ 40 := hIv242.2
                  have hq0_v242 : v242 0 = (v 0) := hk0_v242.trans hq0_v232
                  have hq1_v242 : v242 1 = (v232 1) := hk1_v242
                  have zq1_v242 := congrArg Int32.toInt hq1_v242
                  have hq3_v242 : v242 3 = (v1 3) := hk3_v242.trans hq3_v232
                  have zq3_v242 := congrArg Int32.toInt hq3_v242
                  have hq4_v242 : v242 4 = (v 4) := hk4_v242.trans hq4_v232
                  have hq5_v242 : v242 5 = (v1 5) := hk5_v242.trans hq5_v232
                  have zq5_v242 := congrArg Int32.toInt hq5_v242
                  have hq8_v242 : v242 8 = (v 8) := hk8_v242.trans hq8_v232
                  have zq8_v242 := congrArg Int32.toInt hq8_v242
                  have hq9_v242 : v242 9 = (v 9) := hk9_v242.trans hq9_v232
                  have hq10_v242 : v242 10 = (v1 10) := hk10_v242.trans hq10_v232
                  have zq10_v242 := congrArg Int32.toInt hq10_v242
                  have hq14_v242 : v242 14 = (v1 14) := hk14_v242.trans hq14_v232
                  have zq14_v242 := congrArg Int32.toInt hq14_v242
                  have hq15_v242 : v242 15 = (v 15) := hk15_v242.trans hq15_v232
                  have hq17_v242 : v242 17 = (v 17) := hk17_v242.trans hq17_v232
                  have hq18_v242 : v242 18 = (v 18) := hk18_v242.trans hq18_v232
                  have hq24_v242 : v242 24 = (v 24) := hk24_v242.trans hq24_v232
                  have hq25_v242 : v242 25 = (v 25) := hk25_v242.trans hq25_v232
                  have hq35_v242 : v242 35 = (v 35) := hk35_v242.trans hq35_v232
                  have hq36_v242 : v242 36 = (v 36) := hk36_v242.trans hq36_v232
                  have hq38_v242 : v242 38 = (v 38) := hk38_v242.trans hq38_v232
                  have hq39_v242 : v242 39 = (v 39) := hk39_v242.trans hq39_v232
                  refine lv_aload_n hx hb dX11_unit_87 rfl (lv_at hl 1 rfl) ?_
                  refine lv_bipush (v := 20) hx hb dX11_unit_88 (by decide) ?_
                  refine cbVv (n := 1) (rest := []) hx hb hml hown hts hE hP hD hS hA (sY_X11_openUp_1 l dC dI cy y0 r 20 v242 f243 w244 g245 hIv242 hCf243 hRf243 (by have q1 : (20 : Int32).toInt = 20 := (by decide); show (v242 10).toInt ≤ 159; omega) (by have q1 : (20 : Int32).toInt = 20 := (by decide); show (v242 14).toInt ≤ 7; omega)) k_1680 k_1682 k_59 k_114 k_1683 (by decide +kernel) ⟨Nat.le_of_ble_eq_true rfl, Nat.le_of_ble_eq_true rfl⟩ 0 11 rfl rfl (rfl) hl.1 rfl (Nat.le_of_ble_eq_true rfl) dX11_unit_90 (fun u H locs hw hP hD hS => ?_)
                  obtain ⟨v250, f251, w252, g253⟩ := u
                  obtain ⟨hIv250, hCf251, hRf251, hk0_v250, hk1_v250, hk4_v250, hk8_v250, hk9_v250, hk13_v250, hk15_v250, hk17_v250, hk18_v250, hk24_v250, hk25_v250, hk35_v250, hk36_v250, hk38_v250, hk39_v250, pv254, pv255, pg256, pg257, kq258, kq259⟩ := hw
                  have hP : va_P (dC, dI) vwCl (YW cy y0 r v250 f251 w252 g253) H := hP
                  have hD : va_D A (YW cy y0 r v250 f251 w252 g253) := hD
                  have b10_v250 : 0 ≤ (v250 10).toInt ∧ (v250 10).toInt ≤ 160 := YIb.b hIv250.1 10 (by decide)
                  have b14_v250 : 0 ≤ (v250 14).toInt ∧ (v250 14).toInt ≤ 8 := YIb.b hIv250.1 14 (by decide)
                  have b3_v250 : 0 ≤ (v250 3).toInt ∧ (v250 3).toInt ≤ 1600 := YIb.b hIv250.1 3 (by decide)
                  have pv254 : (v250 10).toInt = (v242 10).toInt + 1 := pv254
                  have pv255 : (v250 14).toInt = (v242 14).toInt + 1 := pv255
                  have pg256 : GR (v242 3).toInt (v242 5).toInt (v250 3).toInt (v250 5).toInt := pg256
                  have pg257 : (f251 6) = upd (f243 6) ((v242 10).toInt).toNat 20 := pg257
                  rw [hs6_f243] at pg257
                  have hs2_f251 : f251 2 = (f 2) := kq258.trans hs2_f243
                  have hs3_f251 : f251 3 = (f 3) := kq259.trans hs3_f243
                  have hUv250 : (v250 35).toInt + (v250 36).toInt ≤ 40 := hIv250.2
                  have hq0_v250 : v250 0 = (v 0) := hk0_v250.trans hq0_v242
                  have hq1_v250 : v250 1 = (v232 1) := hk1_v250.trans hq1_v242
                  have zq1_v250 := congrArg Int32.toInt hq1_v250
                  have hq4_v250 : v250 4 = (v 4) := hk4_v250.trans hq4_v242
                  have hq8_v250 : v250 8 = (v 8) := hk8_v250.trans hq8_v242
                  have zq8_v250 := congrArg Int32.toInt hq8_v250
                  have hq9_v250 : v250 9 = (v 9) := hk9_v250.trans hq9_v242
                  have hq13_v250 : v250 13 = (v242 13) := hk13_v250
                  have zq13_v250 := congrArg Int32.toInt hq13_v250
                  have hq15_v250 : v250 15 = (v 15) := hk15_v250.trans hq15_v242
                  have hq17_v250 : v250 17 = (v 17) := hk17_v250.trans hq17_v242
                  have hq18_v250 : v250 18 = (v 18) := hk18_v250.trans hq18_v242
                  have hq24_v250 : v250 24 = (v 24) := hk24_v250.trans hq24_v242
                  have hq25_v250 : v250 25 = (v 25) := hk25_v250.trans hq25_v242
                  have hq35_v250 : v250 35 = (v 35) := hk35_v250.trans hq35_v242
                  have hq36_v250 : v250 36 = (v 36) := hk36_v250.trans hq36_v242
                  have hq38_v250 : v250 38 = (v 38) := hk38_v250.trans hq38_v242
                  have hq39_v250 : v250 39 = (v 39) := hk39_v250.trans hq39_v242
                  have hGR : GR (v 3).toInt (v 5).toInt (v250 3).toInt (v250 5).toInt := GR.tr hGR (show GR (v242 3).toInt (v242 5).toInt (v250 3).toInt (v250 5).toInt from pg256) (by first | rfl | assumption | omega) (by first | rfl | assumption | omega)
                  have hFK : FI 0 (v250 10).toInt (v250 14).toInt (v250 8).toInt (f251 6) (f 2) (f 3) := FI.push (hFJ (by omega)) pg257 (by omega) (by decide) (by first | rfl | assumption | omega) (by first | rfl | assumption | omega) (by first | rfl | assumption | omega)
                  refine lv_goto (tgt := 2) hx hb dX11_unit_93 (by decide) ?_
                  have rg260 := fb_rng l1_1
                  exact ih1 l1_1 v250 f251 w252 g253 hIv250 hCf251 hRf251 hq0_v250 hq4_v250 hq8_v250 hq9_v250 hq15_v250 hq17_v250 hq18_v250 hq24_v250 hq25_v250 hq35_v250 hq36_v250 hq38_v250 hq39_v250 ⟨show (0 : Int) ≤ l1_1.toInt by omega, show l1_1.toInt ≤ (1 : Int) by omega⟩ (by show (v250 1).toInt = 0 → FI 0 (v250 10).toInt (v250 14).toInt (v250 8).toInt (f251 6) (f251 2) (f251 3); rw [hs2_f251, hs3_f251]; intro hz9; exact FI.cast hFK (by first | rfl | assumption | omega) (by first | rfl | assumption | omega) (by first | rfl | assumption | omega)) (by show NU (v250 1).toInt (v250 8).toInt (v250 10).toInt (v250 13).toInt (v250 14).toInt; exact NU.ab (by omega)) (by show GR (v 3).toInt (v 5).toInt (v250 3).toInt (v250 5).toInt; exact GR.cast hGR (by first | rfl | assumption | omega) (by first | rfl | assumption | omega)) (by show (v 13).toInt ≤ (v250 13).toInt; omega) hs2_f251 hs3_f251 (by show (2 * (9 - (v250 14).toInt) + l1_1.toInt).toNat < n1; omega) _ _ _ hP hD hS (lv_sub hl [0, 1] rfl)
          refine lv_aload_n hx hb dX11_unit_13 rfl (lv_at hl 1 rfl) ?_
          refine lv_ldc2 (v := 7237492) hx hb hown (hts _ k_1640) dX11_unit_14 ?_
          refine cbVi (n := 1) (rest := []) hx hb hml hown hts hE hP hD hS hA (sY_X11_isWord_1 l dC dI cy y0 r 7237492 v1 f1 w1 g1 hIv1 hCf1 hRf1 ) k_1601 k_1603 k_45 k_114 k_1604 (by decide +kernel) ⟨Nat.le_of_ble_eq_true rfl, Nat.le_of_ble_eq_true rfl⟩ 0 11 rfl rfl (rfl) hl.1 rfl (Nat.le_of_ble_eq_true rfl) dX11_unit_17 (fun r261 u H locs hw hP hD hS => ?_)
          rcases hw with ⟨g262, g262_0⟩ | ⟨g262⟩
          · skip
            subst g262
            refine lv_if_eq (tgt := 53) hx hb dX11_unit_20 (by decide) (fun c0 => absurd c0 (by decide)) (fun _ => ?_)
            refine lv_aload_n hx hb dX11_unit_23 rfl (lv_at hl 1 rfl) ?_
            refine cbVi (n := 0) (rest := []) hx hb hml hown hts hE hP hD hS hA (sY_X11_mayNot_1 l dC dI cy y0 r  v1 f1 w1 g1 hIv1 hCf1 hRf1 ) k_1673 k_1675 k_58 k_114 k_1676 (by decide +kernel) ⟨Nat.le_of_ble_eq_true rfl, Nat.le_of_ble_eq_true rfl⟩ 0 11 rfl rfl (rfl) hl.1 rfl (Nat.le_of_ble_eq_true rfl) dX11_unit_24 (fun r263 u H locs hw hP hD hS => ?_)
            rcases hw with ⟨g264⟩ | ⟨g264⟩
            · skip
              subst g264
              refine lv_if_eq (tgt := 53) hx hb dX11_unit_27 (by decide) (fun c0 => absurd c0 (by decide)) (fun _ => ?_)
              refine lv_aload_n hx hb dX11_unit_30 rfl (lv_at hl 1 rfl) ?_
              refine va_get (D := (dC, dI)) (ci := 11) (v := .int (v1 14)) (C := RX11) (T := TX11) (N := 79) hx hb hts inB_11 hown hE.1 hP 0 rfl rfl 23 (by decide) (hts _ k_1343) (fun _ h9 => h9) rfl dX11_unit_31 ?_
              refine lv_bipush (v := 6) hx hb dX11_unit_34 (by decide) ?_
              refine lv_icmp_le (tgt := 44) hx hb dX11_unit_36 (by decide) (fun c265 => ?_) (fun c265 => ?_)
              · skip
                have zc265 : (v1 14).toInt ≤ 6 := by rw [fa_le, show (6 : Int32).toInt = 6 from by decide] at c265; exact c265
                refine lv_aload_n hx hb dX11_unit_44 rfl (lv_at hl 1 rfl) ?_
                refine lv_bipush (v := 21) hx hb dX11_unit_45 (by decide) ?_
                refine cbVv (n := 1) (rest := []) hx hb hml hown hts hE hP hD hS hA (sY_X11_openUp_1 l dC dI cy y0 r 21 v1 f1 w1 g1 hIv1 hCf1 hRf1 (by have q1 : (21 : Int32).toInt = 21 := (by decide); show (v1 10).toInt ≤ 159; omega) (by have q1 : (21 : Int32).toInt = 21 := (by decide); show (v1 14).toInt ≤ 7; omega)) k_1680 k_1682 k_59 k_114 k_1683 (by decide +kernel) ⟨Nat.le_of_ble_eq_true rfl, Nat.le_of_ble_eq_true rfl⟩ 0 11 rfl rfl (rfl) hl.1 rfl (Nat.le_of_ble_eq_true rfl) dX11_unit_47 (fun u H locs hw hP hD hS => ?_)
                obtain ⟨v266, f267, w268, g269⟩ := u
                obtain ⟨hIv266, hCf267, hRf267, hk0_v266, hk1_v266, hk4_v266, hk8_v266, hk9_v266, hk13_v266, hk15_v266, hk17_v266, hk18_v266, hk24_v266, hk25_v266, hk35_v266, hk36_v266, hk38_v266, hk39_v266, pv270, pv271, pg272, pg273, kq274, kq275⟩ := hw
                have hP : va_P (dC, dI) vwCl (YW cy y0 r v266 f267 w268 g269) H := hP
                have hD : va_D A (YW cy y0 r v266 f267 w268 g269) := hD
                have b10_v266 : 0 ≤ (v266 10).toInt ∧ (v266 10).toInt ≤ 160 := YIb.b hIv266.1 10 (by decide)
                have b14_v266 : 0 ≤ (v266 14).toInt ∧ (v266 14).toInt ≤ 8 := YIb.b hIv266.1 14 (by decide)
                have b3_v266 : 0 ≤ (v266 3).toInt ∧ (v266 3).toInt ≤ 1600 := YIb.b hIv266.1 3 (by decide)
                have pv270 : (v266 10).toInt = (v1 10).toInt + 1 := pv270
                have pv271 : (v266 14).toInt = (v1 14).toInt + 1 := pv271
                have pg272 : GR (v1 3).toInt (v1 5).toInt (v266 3).toInt (v266 5).toInt := pg272
                have pg273 : (f267 6) = upd (f1 6) ((v1 10).toInt).toNat 21 := pg273
                have hs2_f267 : f267 2 = (f 2) := kq274.trans hs2_f1
                have hs3_f267 : f267 3 = (f 3) := kq275.trans hs3_f1
                have hUv266 : (v266 35).toInt + (v266 36).toInt ≤ 40 := hIv266.2
                have hq0_v266 : v266 0 = (v 0) := hk0_v266.trans hq0_v1
                have hq1_v266 : v266 1 = (v1 1) := hk1_v266
                have zq1_v266 := congrArg Int32.toInt hq1_v266
                have hq4_v266 : v266 4 = (v 4) := hk4_v266.trans hq4_v1
                have hq8_v266 : v266 8 = (v 8) := hk8_v266.trans hq8_v1
                have zq8_v266 := congrArg Int32.toInt hq8_v266
                have hq9_v266 : v266 9 = (v 9) := hk9_v266.trans hq9_v1
                have hq13_v266 : v266 13 = (v1 13) := hk13_v266
                have zq13_v266 := congrArg Int32.toInt hq13_v266
                have hq15_v266 : v266 15 = (v 15) := hk15_v266.trans hq15_v1
                have hq17_v266 : v266 17 = (v 17) := hk17_v266.trans hq17_v1
                have hq18_v266 : v266 18 = (v 18) := hk18_v266.trans hq18_v1
                have hq24_v266 : v266 24 = (v 24) := hk24_v266.trans hq24_v1
                have hq25_v266 : v266 25 = (v 25) := hk25_v266.trans hq25_v1
                have hq35_v266 : v266 35 = (v 35) := hk35_v266.trans hq35_v1
                have hq36_v266 : v266 36 = (v 36) := hk36_v266.trans hq36_v1
                have hq38_v266 : v266 38 = (v 38) := hk38_v266.trans hq38_v1
                have hq39_v266 : v266 39 = (v 39) := hk39_v266.trans hq39_v1
                have hGR : GR (v 3).toInt (v 5).toInt (v266 3).toInt (v266 5).toInt := GR.tr hGR (show GR (v1 3).toInt (v1 5).toInt (v266 3).toInt (v266 5).toInt from pg272) (by first | rfl | assumption | omega) (by first | rfl | assumption | omega)
                have hFK : FI 0 (v266 10).toInt (v266 14).toInt (v266 8).toInt (f267 6) (f 2) (f 3) := FI.push (hFJ (by omega)) pg273 (by omega) (by decide) (by first | rfl | assumption | omega) (by first | rfl | assumption | omega) (by first | rfl | assumption | omega)
                refine lv_goto (tgt := 2) hx hb dX11_unit_50 (by decide) ?_
                have rg276 := fb_rng l1_1
                exact ih1 l1_1 v266 f267 w268 g269 hIv266 hCf267 hRf267 hq0_v266 hq4_v266 hq8_v266 hq9_v266 hq15_v266 hq17_v266 hq18_v266 hq24_v266 hq25_v266 hq35_v266 hq36_v266 hq38_v266 hq39_v266 ⟨show (0 : Int) ≤ l1_1.toInt by omega, show l1_1.toInt ≤ (1 : Int) by omega⟩ (by show (v266 1).toInt = 0 → FI 0 (v266 10).toInt (v266 14).toInt (v266 8).toInt (f267 6) (f267 2) (f267 3); rw [hs2_f267, hs3_f267]; intro hz9; exact FI.cast hFK (by first | rfl | assumption | omega) (by first | rfl | assumption | omega) (by first | rfl | assumption | omega)) (by show NU (v266 1).toInt (v266 8).toInt (v266 10).toInt (v266 13).toInt (v266 14).toInt; exact NU.mk (by omega) (by omega) (by omega) (by omega)) (by show GR (v 3).toInt (v 5).toInt (v266 3).toInt (v266 5).toInt; exact GR.cast hGR (by first | rfl | assumption | omega) (by first | rfl | assumption | omega)) (by show (v 13).toInt ≤ (v266 13).toInt; omega) hs2_f267 hs3_f267 (by show (2 * (9 - (v266 14).toInt) + l1_1.toInt).toNat < n1; omega) _ _ _ hP hD hS (lv_sub hl [0, 1] rfl)
              · skip
                have zc265 : ¬ ((v1 14).toInt ≤ 6) := by rw [fa_le, show (6 : Int32).toInt = 6 from by decide] at c265; exact c265
                refine lv_aload_n hx hb dX11_unit_39 rfl (lv_at hl 1 rfl) ?_
                refine lv_iconst (v := 2) hx hb dX11_unit_40 (by decide) ?_
                refine cbVv (n := 1) (rest := []) hx hb hml hown hts hE hP hD hS hA (sY_X11_wrong_1 l dC dI cy y0 r 2 v1 f1 w1 g1 hIv1 hCf1 hRf1 ⟨by decide, by decide⟩) k_1641 k_1643 k_50 k_114 k_1644 (by decide +kernel) ⟨Nat.le_of_ble_eq_true rfl, Nat.le_of_ble_eq_true rfl⟩ 0 11 rfl rfl (rfl) hl.1 rfl (Nat.le_of_ble_eq_true rfl) dX11_unit_41 (fun u H locs hw hP hD hS => ?_)
                obtain ⟨v277, f278, w279, g280⟩ := u
                obtain ⟨hIv277, hCf278, hRf278, hk0_v277, hk3_v277, hk4_v277, hk5_v277, hk8_v277, hk9_v277, hk10_v277, hk13_v277, hk14_v277, hk15_v277, hk17_v277, hk18_v277, hk24_v277, hk25_v277, hk35_v277, hk36_v277, hk38_v277, hk39_v277, pv281, pv282, pv283, kq284, kq285, kq286⟩ := hw
                have hP : va_P (dC, dI) vwCl (YW cy y0 r v277 f278 w279 g280) H := hP
                have hD : va_D A (YW cy y0 r v277 f278 w279 g280) := hD
                have b3_v277 : 0 ≤ (v277 3).toInt ∧ (v277 3).toInt ≤ 1600 := YIb.b hIv277.1 3 (by decide)
                have b1_v277 : 0 ≤ (v277 1).toInt ∧ (v277 1).toInt ≤ 4 := YIb.b hIv277.1 1 (by decide)
                have pv281 : (v1 3).toInt ≤ (v277 3).toInt := pv281
                have pv282 : (v277 5).toInt = (v1 5).toInt ∨ (v1 3).toInt < (v277 3).toInt ∨ ¬ (v277 5).toInt = 59 := pv282
                have pv283 : 0 < (v277 1).toInt := pv283
                have hs2_f278 : f278 2 = (f 2) := kq284.trans hs2_f1
                have hs3_f278 : f278 3 = (f 3) := kq285.trans hs3_f1
                have hs6_f278 : f278 6 = (f1 6) := kq286
                have hUv277 : (v277 35).toInt + (v277 36).toInt ≤ 40 := hIv277.2
                have hq0_v277 : v277 0 = (v 0) := hk0_v277.trans hq0_v1
                have hq3_v277 : v277 3 = (v1 3) := hk3_v277
                have zq3_v277 := congrArg Int32.toInt hq3_v277
                have hq4_v277 : v277 4 = (v 4) := hk4_v277.trans hq4_v1
                have hq5_v277 : v277 5 = (v1 5) := hk5_v277
                have zq5_v277 := congrArg Int32.toInt hq5_v277
                have hq8_v277 : v277 8 = (v 8) := hk8_v277.trans hq8_v1
                have zq8_v277 := congrArg Int32.toInt hq8_v277
                have hq9_v277 : v277 9 = (v 9) := hk9_v277.trans hq9_v1
                have hq10_v277 : v277 10 = (v1 10) := hk10_v277
                have zq10_v277 := congrArg Int32.toInt hq10_v277
                have hq13_v277 : v277 13 = (v1 13) := hk13_v277
                have zq13_v277 := congrArg Int32.toInt hq13_v277
                have hq14_v277 : v277 14 = (v1 14) := hk14_v277
                have zq14_v277 := congrArg Int32.toInt hq14_v277
                have hq15_v277 : v277 15 = (v 15) := hk15_v277.trans hq15_v1
                have hq17_v277 : v277 17 = (v 17) := hk17_v277.trans hq17_v1
                have hq18_v277 : v277 18 = (v 18) := hk18_v277.trans hq18_v1
                have hq24_v277 : v277 24 = (v 24) := hk24_v277.trans hq24_v1
                have hq25_v277 : v277 25 = (v 25) := hk25_v277.trans hq25_v1
                have hq35_v277 : v277 35 = (v 35) := hk35_v277.trans hq35_v1
                have hq36_v277 : v277 36 = (v 36) := hk36_v277.trans hq36_v1
                have hq38_v277 : v277 38 = (v 38) := hk38_v277.trans hq38_v1
                have hq39_v277 : v277 39 = (v 39) := hk39_v277.trans hq39_v1
                have hGR : GR (v 3).toInt (v 5).toInt (v277 3).toInt (v277 5).toInt := GR.tr hGR (show GR (v1 3).toInt (v1 5).toInt (v277 3).toInt (v277 5).toInt from ⟨pv281, pv282⟩) (by first | rfl | assumption | omega) (by first | rfl | assumption | omega)
                clear pv282
                refine lv_aload_n hx hb dX11_unit_44 rfl (lv_at hl 1 rfl) ?_
                refine lv_bipush (v := 21) hx hb dX11_unit_45 (by decide) ?_
                refine cbVv (n := 1) (rest := []) hx hb hml hown hts hE hP hD hS hA (sY_X11_openUp_1 l dC dI cy y0 r 21 v277 f278 w279 g280 hIv277 hCf278 hRf278 (by have q1 : (21 : Int32).toInt = 21 := (by decide); show (v277 10).toInt ≤ 159; omega) (by have q1 : (21 : Int32).toInt = 21 := (by decide); show (v277 14).toInt ≤ 7; omega)) k_1680 k_1682 k_59 k_114 k_1683 (by decide +kernel) ⟨Nat.le_of_ble_eq_true rfl, Nat.le_of_ble_eq_true rfl⟩ 0 11 rfl rfl (rfl) hl.1 rfl (Nat.le_of_ble_eq_true rfl) dX11_unit_47 (fun u H locs hw hP hD hS => ?_)
                obtain ⟨v287, f288, w289, g290⟩ := u
                obtain ⟨hIv287, hCf288, hRf288, hk0_v287, hk1_v287, hk4_v287, hk8_v287, hk9_v287, hk13_v287, hk15_v287, hk17_v287, hk18_v287, hk24_v287, hk25_v287, hk35_v287, hk36_v287, hk38_v287, hk39_v287, pv291, pv292, pg293, pg294, kq295, kq296⟩ := hw
                have hP : va_P (dC, dI) vwCl (YW cy y0 r v287 f288 w289 g290) H := hP
                have hD : va_D A (YW cy y0 r v287 f288 w289 g290) := hD
                have b10_v287 : 0 ≤ (v287 10).toInt ∧ (v287 10).toInt ≤ 160 := YIb.b hIv287.1 10 (by decide)
                have b14_v287 : 0 ≤ (v287 14).toInt ∧ (v287 14).toInt ≤ 8 := YIb.b hIv287.1 14 (by decide)
                have b3_v287 : 0 ≤ (v287 3).toInt ∧ (v287 3).toInt ≤ 1600 := YIb.b hIv287.1 3 (by decide)
                have pv291 : (v287 10).toInt = (v277 10).toInt + 1 := pv291
                have pv292 : (v287 14).toInt = (v277 14).toInt + 1 := pv292
                have pg293 : GR (v277 3).toInt (v277 5).toInt (v287 3).toInt (v287 5).toInt := pg293
                have pg294 : (f288 6) = upd (f278 6) ((v277 10).toInt).toNat 21 := pg294
                rw [hs6_f278] at pg294
                have hs2_f288 : f288 2 = (f 2) := kq295.trans hs2_f278
                have hs3_f288 : f288 3 = (f 3) := kq296.trans hs3_f278
                have hUv287 : (v287 35).toInt + (v287 36).toInt ≤ 40 := hIv287.2
                have hq0_v287 : v287 0 = (v 0) := hk0_v287.trans hq0_v277
                have hq1_v287 : v287 1 = (v277 1) := hk1_v287
                have zq1_v287 := congrArg Int32.toInt hq1_v287
                have hq4_v287 : v287 4 = (v 4) := hk4_v287.trans hq4_v277
                have hq8_v287 : v287 8 = (v 8) := hk8_v287.trans hq8_v277
                have zq8_v287 := congrArg Int32.toInt hq8_v287
                have hq9_v287 : v287 9 = (v 9) := hk9_v287.trans hq9_v277
                have hq13_v287 : v287 13 = (v1 13) := hk13_v287.trans hq13_v277
                have zq13_v287 := congrArg Int32.toInt hq13_v287
                have hq15_v287 : v287 15 = (v 15) := hk15_v287.trans hq15_v277
                have hq17_v287 : v287 17 = (v 17) := hk17_v287.trans hq17_v277
                have hq18_v287 : v287 18 = (v 18) := hk18_v287.trans hq18_v277
                have hq24_v287 : v287 24 = (v 24) := hk24_v287.trans hq24_v277
                have hq25_v287 : v287 25 = (v 25) := hk25_v287.trans hq25_v277
                have hq35_v287 : v287 35 = (v 35) := hk35_v287.trans hq35_v277
                have hq36_v287 : v287 36 = (v 36) := hk36_v287.trans hq36_v277
                have hq38_v287 : v287 38 = (v 38) := hk38_v287.trans hq38_v277
                have hq39_v287 : v287 39 = (v 39) := hk39_v287.trans hq39_v277
                have hGR : GR (v 3).toInt (v 5).toInt (v287 3).toInt (v287 5).toInt := GR.tr hGR (show GR (v277 3).toInt (v277 5).toInt (v287 3).toInt (v287 5).toInt from pg293) (by first | rfl | assumption | omega) (by first | rfl | assumption | omega)
                have hFK : FI 0 (v287 10).toInt (v287 14).toInt (v287 8).toInt (f288 6) (f 2) (f 3) := FI.push (hFJ (by omega)) pg294 (by omega) (by decide) (by first | rfl | assumption | omega) (by first | rfl | assumption | omega) (by first | rfl | assumption | omega)
                refine lv_goto (tgt := 2) hx hb dX11_unit_50 (by decide) ?_
                have rg297 := fb_rng l1_1
                exact ih1 l1_1 v287 f288 w289 g290 hIv287 hCf288 hRf288 hq0_v287 hq4_v287 hq8_v287 hq9_v287 hq15_v287 hq17_v287 hq18_v287 hq24_v287 hq25_v287 hq35_v287 hq36_v287 hq38_v287 hq39_v287 ⟨show (0 : Int) ≤ l1_1.toInt by omega, show l1_1.toInt ≤ (1 : Int) by omega⟩ (by show (v287 1).toInt = 0 → FI 0 (v287 10).toInt (v287 14).toInt (v287 8).toInt (f288 6) (f288 2) (f288 3); rw [hs2_f288, hs3_f288]; intro hz9; exact FI.cast hFK (by first | rfl | assumption | omega) (by first | rfl | assumption | omega) (by first | rfl | assumption | omega)) (by show NU (v287 1).toInt (v287 8).toInt (v287 10).toInt (v287 13).toInt (v287 14).toInt; exact NU.ab (by omega)) (by show GR (v 3).toInt (v 5).toInt (v287 3).toInt (v287 5).toInt; exact GR.cast hGR (by first | rfl | assumption | omega) (by first | rfl | assumption | omega)) (by show (v 13).toInt ≤ (v287 13).toInt; omega) hs2_f288 hs3_f288 (by show (2 * (9 - (v287 14).toInt) + l1_1.toInt).toNat < n1; omega) _ _ _ hP hD hS (lv_sub hl [0, 1] rfl)
            · skip
              subst g264
              refine lv_if_eq (tgt := 53) hx hb dX11_unit_27 (by decide) (fun _ => ?_) (fun c0 => absurd (by decide) c0)
              exact jp53 _ _ _ hP hD hS hl
          · skip
            subst g262
            refine lv_if_eq (tgt := 53) hx hb dX11_unit_20 (by decide) (fun _ => ?_) (fun c0 => absurd (by decide) c0)
            exact jp53 _ _ _ hP hD hS hl
  exact lp1 _ 1 v f w g hIv hCf hRf rfl rfl rfl rfl rfl rfl rfl rfl rfl rfl rfl rfl rfl ⟨by decide, by decide⟩ (by show (v 1).toInt = 0 → FI 0 (v 10).toInt (v 14).toInt (v 8).toInt (f 6) (f 2) (f 3); exact fun _ => hFI) (by show NU (v 1).toInt (v 8).toInt (v 10).toInt (v 13).toInt (v 14).toInt; exact NU.mk (by omega) (by omega) (by omega) (by omega)) (by show GR (v 3).toInt (v 5).toInt (v 3).toInt (v 5).toInt; exact GR.cast hGR (by first | rfl | assumption | omega) (by first | rfl | assumption | omega)) (by show (v 13).toInt ≤ (v 13).toInt; omega) rfl rfl (Nat.lt_succ_self _) _ _ _ hP hD hS (lv_sub hl [0, 1] rfl)
