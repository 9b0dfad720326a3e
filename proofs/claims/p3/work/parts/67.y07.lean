set_option maxHeartbeats 4000000 in
set_option maxRecDepth 100000 in
theorem sY_X11_readLine_1 (l : Launch) (dC : Nat → ClassId) (dI : Nat → Nat → Nat) (cy : Nat → ClassId) (y0 : Nat) (r : Nat → Nat)  (v : Nat → Int32) (f : Nat → Nat → Int32) (w : Int64) (g : Nat → Int64) (hIv : YI v) (hCf : YC f) (hRf : progOK (f 4) (f 5) (v 9).toInt.toNat)  (hf0 : (v 1).toInt = 0) (hg0 : ¬ (v 15).toInt = 0 → progOK (f 2) (f 3) ((v 8).toInt).toNat) : ctV l (dC, dI) cy yX11_readLine cX11_readLine 1 7 192 0 0 ((Nat → Int32) × (Nat → Nat → Int32) × (Int64) × (Nat → Int64)) [.ref y0] (YW cy y0 r v f w g) (fun u => YI u.1 ∧ YC u.2.1 ∧ progOK (u.2.1 4) (u.2.1 5) (u.1 9).toInt.toNat ∧ u.1 0 = v 0 ∧ u.1 4 = v 4 ∧ u.1 9 = v 9 ∧ u.1 24 = v 24 ∧ u.1 25 = v 25 ∧ u.1 35 = v 35 ∧ u.1 36 = v 36 ∧ u.1 38 = v 38 ∧ u.1 39 = v 39 ∧ (GA (u.1 1).toInt (v 3).toInt (u.1 3).toInt) ∧ ((u.1 1).toInt = 0 → ¬ (u.1 15).toInt = 0 → progOK (u.2.1 2) (u.2.1 3) ((u.1 8).toInt).toNat)) (fun u => YW cy y0 r u.1 u.2.1 u.2.2.1 u.2.2.2) := by
  refine ctV_of (by decide) (Nat.le_of_ble_eq_true rfl) (fun p e s m below meth c A ls Q hx hb hml hts hown hnm hE hP hD hA hl ret => ?_)
  have hUv : (v 35).toInt + (v 36).toInt ≤ 40 := hIv.2
  have hPR := hg0
  have b0_v : (0 : Int) ≤ (v 0).toInt ∧ (v 0).toInt ≤ 1600 := YIb.b hIv.1 0 (by decide)
  have b1_v : (0 : Int) ≤ (v 1).toInt ∧ (v 1).toInt ≤ 4 := YIb.b hIv.1 1 (by decide)
  have b8_v : (0 : Int) ≤ (v 8).toInt ∧ (v 8).toInt ≤ 320 := YIb.b hIv.1 8 (by decide)
  have b10_v : (0 : Int) ≤ (v 10).toInt ∧ (v 10).toInt ≤ 160 := YIb.b hIv.1 10 (by decide)
  have b13_v : (0 : Int) ≤ (v 13).toInt ∧ (v 13).toInt ≤ 31 := YIb.b hIv.1 13 (by decide)
  have b14_v : (0 : Int) ≤ (v 14).toInt ∧ (v 14).toInt ≤ 8 := YIb.b hIv.1 14 (by decide)
  have b15_v : (0 : Int) ≤ (v 15).toInt ∧ (v 15).toInt ≤ 1 := YIb.b hIv.1 15 (by decide)
  have b17_v : (0 : Int) ≤ (v 17).toInt ∧ (v 17).toInt ≤ 6 := YIb.b hIv.1 17 (by decide)
  have b18_v : (0 : Int) ≤ (v 18).toInt ∧ (v 18).toInt ≤ 6 := YIb.b hIv.1 18 (by decide)
  have hGR : GR (v 3).toInt (v 5).toInt (v 3).toInt (v 5).toInt := GR.refl _ _
  have hown : s.vm.findClass RX11 = some m.cls := hown
  have hS : va_S A s.heap s.heap [] := va_S.rf
  have hl : lv_has ls 1 [(0, .ref y0)] := hl
  have jp26 : ∀ (H : Heap) (locs : List Loc) (ls : Array Slot), va_P (dC, dI) vwCl (YW cy y0 r v f w g) H → va_D A (YW cy y0 r v f w g) → va_S A s.heap H locs → lv_has ls 1 [(0, .ref y0)] → W p l e { frames := 7, cells := 0, slots := 0, locals := 192 } s m ([.ref y0] : List Value).toArray below meth c H locs 0 0 Q (F0 m 26 ls []) := by
    intro H locs ls hP hD hS hl
    have jp52 : ∀ (H : Heap) (locs : List Loc) (ls : Array Slot), va_P (dC, dI) vwCl (YW cy y0 r v f w g) H → va_D A (YW cy y0 r v f w g) → va_S A s.heap H locs → lv_has ls 1 [(0, .ref y0)] → W p l e { frames := 7, cells := 0, slots := 0, locals := 192 } s m ([.ref y0] : List Value).toArray below meth c H locs 0 0 Q (F0 m 52 ls []) := by
      intro H locs ls hP hD hS hl
      have jp76 : ∀ (H : Heap) (locs : List Loc) (ls : Array Slot), va_P (dC, dI) vwCl (YW cy y0 r v f w g) H → va_D A (YW cy y0 r v f w g) → va_S A s.heap H locs → lv_has ls 1 [(0, .ref y0)] → W p l e { frames := 7, cells := 0, slots := 0, locals := 192 } s m ([.ref y0] : List Value).toArray below meth c H locs 0 0 Q (F0 m 76 ls []) := by
        intro H locs ls hP hD hS hl
        have jp115 : ∀ (H : Heap) (locs : List Loc) (ls : Array Slot), va_P (dC, dI) vwCl (YW cy y0 r v f w g) H → va_D A (YW cy y0 r v f w g) → va_S A s.heap H locs → lv_has ls 1 [(0, .ref y0)] → W p l e { frames := 7, cells := 0, slots := 0, locals := 192 } s m ([.ref y0] : List Value).toArray below meth c H locs 0 0 Q (F0 m 115 ls []) := by
          intro H locs ls hP hD hS hl
          have jp154 : ∀ (H : Heap) (locs : List Loc) (ls : Array Slot), va_P (dC, dI) vwCl (YW cy y0 r v f w g) H → va_D A (YW cy y0 r v f w g) → va_S A s.heap H locs → lv_has ls 1 [(0, .ref y0)] → W p l e { frames := 7, cells := 0, slots := 0, locals := 192 } s m ([.ref y0] : List Value).toArray below meth c H locs 0 0 Q (F0 m 154 ls []) := by
            intro H locs ls hP hD hS hl
            have jp192 : ∀ (H : Heap) (locs : List Loc) (ls : Array Slot), va_P (dC, dI) vwCl (YW cy y0 r v f w g) H → va_D A (YW cy y0 r v f w g) → va_S A s.heap H locs → lv_has ls 1 [(0, .ref y0)] → W p l e { frames := 7, cells := 0, slots := 0, locals := 192 } s m ([.ref y0] : List Value).toArray below meth c H locs 0 0 Q (F0 m 192 ls []) := by
              intro H locs ls hP hD hS hl
              have jp230 : ∀ (H : Heap) (locs : List Loc) (ls : Array Slot), va_P (dC, dI) vwCl (YW cy y0 r v f w g) H → va_D A (YW cy y0 r v f w g) → va_S A s.heap H locs → lv_has ls 1 [(0, .ref y0)] → W p l e { frames := 7, cells := 0, slots := 0, locals := 192 } s m ([.ref y0] : List Value).toArray below meth c H locs 0 0 Q (F0 m 230 ls []) := by
                intro H locs ls hP hD hS hl
                have jp269 : ∀ (H : Heap) (locs : List Loc) (ls : Array Slot), va_P (dC, dI) vwCl (YW cy y0 r v f w g) H → va_D A (YW cy y0 r v f w g) → va_S A s.heap H locs → lv_has ls 1 [(0, .ref y0)] → W p l e { frames := 7, cells := 0, slots := 0, locals := 192 } s m ([.ref y0] : List Value).toArray below meth c H locs 0 0 Q (F0 m 269 ls []) := by
                  intro H locs ls hP hD hS hl
                  refine lv_aload_n hx hb dX11_readLine_269 rfl (lv_at hl 0 rfl) ?_
                  refine lv_iconst (v := 2) hx hb dX11_readLine_270 (by decide) ?_
                  refine cbVv (n := 1) (rest := []) hx hb hml hown hts hE hP hD hS hA (sY_X11_wrong_1 l dC dI cy y0 r 2 v f w g hIv hCf hRf ⟨by decide, by decide⟩) k_1641 k_1643 k_50 k_114 k_1644 (by decide +kernel) ⟨Nat.le_of_ble_eq_true rfl, Nat.le_of_ble_eq_true rfl⟩ 0 11 rfl rfl (rfl) hl.1 rfl (Nat.le_of_ble_eq_true rfl) dX11_readLine_271 (fun u H locs hw hP hD hS => ?_)
                  obtain ⟨v1, f2, w3, g4⟩ := u
                  obtain ⟨hIv1, hCf2, hRf2, hk0_v1, hk3_v1, hk4_v1, hk5_v1, hk8_v1, hk9_v1, hk10_v1, hk13_v1, hk14_v1, hk15_v1, hk17_v1, hk18_v1, hk24_v1, hk25_v1, hk35_v1, hk36_v1, hk38_v1, hk39_v1, pv5, pv6, pv7, kq8, kq9, kq10⟩ := hw
                  have hP : va_P (dC, dI) vwCl (YW cy y0 r v1 f2 w3 g4) H := hP
                  have hD : va_D A (YW cy y0 r v1 f2 w3 g4) := hD
                  have b3_v1 : 0 ≤ (v1 3).toInt ∧ (v1 3).toInt ≤ 1600 := YIb.b hIv1.1 3 (by decide)
                  have b1_v1 : 0 ≤ (v1 1).toInt ∧ (v1 1).toInt ≤ 4 := YIb.b hIv1.1 1 (by decide)
                  have pv5 : (v 3).toInt ≤ (v1 3).toInt := pv5
                  have pv6 : (v1 5).toInt = (v 5).toInt ∨ (v 3).toInt < (v1 3).toInt ∨ ¬ (v1 5).toInt = 59 := pv6
                  have pv7 : 0 < (v1 1).toInt := pv7
                  have hs2_f2 : f2 2 = (f 2) := kq8
                  have hs3_f2 : f2 3 = (f 3) := kq9
                  have hs6_f2 : f2 6 = (f 6) := kq10
                  have hUv1 : (v1 35).toInt + (v1 36).toInt ≤ 40 := hIv1.2
                  have hq0_v1 : v1 0 = (v 0) := hk0_v1
                  have zq0_v1 := congrArg Int32.toInt hq0_v1
                  have hq3_v1 : v1 3 = (v 3) := hk3_v1
                  have zq3_v1 := congrArg Int32.toInt hq3_v1
                  have hq4_v1 : v1 4 = (v 4) := hk4_v1
                  have zq4_v1 := congrArg Int32.toInt hq4_v1
                  have hq5_v1 : v1 5 = (v 5) := hk5_v1
                  have zq5_v1 := congrArg Int32.toInt hq5_v1
                  have hq8_v1 : v1 8 = (v 8) := hk8_v1
                  have zq8_v1 := congrArg Int32.toInt hq8_v1
                  have hq9_v1 : v1 9 = (v 9) := hk9_v1
                  have zq9_v1 := congrArg Int32.toInt hq9_v1
                  have hq10_v1 : v1 10 = (v 10) := hk10_v1
                  have zq10_v1 := congrArg Int32.toInt hq10_v1
                  have hq13_v1 : v1 13 = (v 13) := hk13_v1
                  have zq13_v1 := congrArg Int32.toInt hq13_v1
                  have hq14_v1 : v1 14 = (v 14) := hk14_v1
                  have zq14_v1 := congrArg Int32.toInt hq14_v1
                  have hq15_v1 : v1 15 = (v 15) := hk15_v1
                  have zq15_v1 := congrArg Int32.toInt hq15_v1
                  have hq17_v1 : v1 17 = (v 17) := hk17_v1
                  have zq17_v1 := congrArg Int32.toInt hq17_v1
                  have hq18_v1 : v1 18 = (v 18) := hk18_v1
                  have zq18_v1 := congrArg Int32.toInt hq18_v1
                  have hq24_v1 : v1 24 = (v 24) := hk24_v1
                  have hq25_v1 : v1 25 = (v 25) := hk25_v1
                  have hq35_v1 : v1 35 = (v 35) := hk35_v1
                  have zq35_v1 := congrArg Int32.toInt hq35_v1
                  have hq36_v1 : v1 36 = (v 36) := hk36_v1
                  have zq36_v1 := congrArg Int32.toInt hq36_v1
                  have hq38_v1 : v1 38 = (v 38) := hk38_v1
                  have hq39_v1 : v1 39 = (v 39) := hk39_v1
                  have hGR : GR (v 3).toInt (v 5).toInt (v1 3).toInt (v1 5).toInt := GR.tr hGR (show GR (v 3).toInt (v 5).toInt (v1 3).toInt (v1 5).toInt from ⟨pv5, pv6⟩) (by first | rfl | assumption | omega) (by first | rfl | assumption | omega)
                  clear pv6
                  refine lv_aload_n hx hb dX11_readLine_274 rfl (lv_at hl 0 rfl) ?_
                  refine va_get (D := (dC, dI)) (ci := 11) (v := .int (v1 1)) (C := RX11) (T := TX11) (N := 79) hx hb hts inB_11 hown hE.1 hP 0 rfl rfl 2 (by decide) (hts _ k_1322) (fun _ h9 => h9) rfl dX11_readLine_275 ?_
                  have b1_v1 : 0 ≤ (v1 1).toInt ∧ (v1 1).toInt ≤ 4 := YIb.b hIv1.1 1 (by decide)
                  refine lv_if_ne (tgt := 295) hx hb dX11_readLine_278 (by decide) (fun c11 => ?_) (fun c11 => ?_)
                  · skip
                    have zc11 : ¬ ((v1 1).toInt = 0) := by rw [fa_eq, show (0 : Int32).toInt = 0 from by decide] at c11; exact c11
                    refine lv_aload_n hx hb dX11_readLine_295 rfl (lv_at hl 0 rfl) ?_
                    refine va_get (D := (dC, dI)) (ci := 11) (v := .int (v1 1)) (C := RX11) (T := TX11) (N := 79) hx hb hts inB_11 hown hE.1 hP 0 rfl rfl 2 (by decide) (hts _ k_1322) (fun _ h9 => h9) rfl dX11_readLine_296 ?_
                    refine lv_if_ne (tgt := 306) hx hb dX11_readLine_299 (by decide) (fun c12 => ?_) (fun c12 => ?_)
                    · skip
                      have zc12 : ¬ ((v1 1).toInt = 0) := by rw [fa_eq, show (0 : Int32).toInt = 0 from by decide] at c12; exact c12
                      exact ret (v1, f2, w3, g4) _ _ _ _ _ _ ⟨hIv1, hCf2, hRf2, hk0_v1, hk4_v1, hk9_v1, hk24_v1, hk25_v1, hk35_v1, hk36_v1, hk38_v1, hk39_v1, (by show GA (v1 1).toInt (v 3).toInt (v1 3).toInt; exact GA.ab hGR (by omega) (by omega)), (by show (v1 1).toInt = 0 → ¬ (v1 15).toInt = 0 → progOK (f2 2) (f2 3) ((v1 8).toInt).toNat; rw [hs2_f2, hs3_f2]; intro hz8 hz9; exact prog_n (hPR (by omega)) (by omega))⟩ hP hD hS dX11_readLine_306 (Nat.le_refl _) (Nat.le_refl _)
                    · skip
                      have zc12 : (v1 1).toInt = 0 := by rw [fa_eq, show (0 : Int32).toInt = 0 from by decide] at c12; exact c12
                      refine lv_aload_n hx hb dX11_readLine_302 rfl (lv_at hl 0 rfl) ?_
                      refine cbVv (n := 0) (rest := []) hx hb hml hown hts hE hP hD hS hA (sY_X11_token_1 l dC dI cy y0 r  v1 f2 w3 g4 hIv1 hCf2 hRf2 ) k_1579 k_1581 k_42 k_114 k_1582 (by decide +kernel) ⟨Nat.le_of_ble_eq_true rfl, Nat.le_of_ble_eq_true rfl⟩ 0 11 rfl rfl (rfl) hl.1 rfl (Nat.le_of_ble_eq_true rfl) dX11_readLine_303 (fun u H locs hw hP hD hS => ?_)
                      obtain ⟨v13, f14, w15, g16⟩ := u
                      obtain ⟨hIv13, hCf14, hRf14, hk0_v13, hk1_v13, hk4_v13, hk8_v13, hk9_v13, hk10_v13, hk13_v13, hk14_v13, hk15_v13, hk17_v13, hk18_v13, hk24_v13, hk25_v13, hk35_v13, hk36_v13, hk38_v13, hk39_v13, pv17, pv18, kq19, kq20, kq21⟩ := hw
                      have hP : va_P (dC, dI) vwCl (YW cy y0 r v13 f14 w15 g16) H := hP
                      have hD : va_D A (YW cy y0 r v13 f14 w15 g16) := hD
                      have b3_v13 : 0 ≤ (v13 3).toInt ∧ (v13 3).toInt ≤ 1600 := YIb.b hIv13.1 3 (by decide)
                      have pv17 : (v1 3).toInt ≤ (v13 3).toInt := pv17
                      have pv18 : (v13 5).toInt = (v1 5).toInt ∨ (v1 3).toInt < (v13 3).toInt ∨ ¬ (v13 5).toInt = 59 := pv18
                      have hs2_f14 : f14 2 = (f 2) := kq19.trans hs2_f2
                      have hs3_f14 : f14 3 = (f 3) := kq20.trans hs3_f2
                      have hs6_f14 : f14 6 = (f 6) := kq21.trans hs6_f2
                      have hUv13 : (v13 35).toInt + (v13 36).toInt ≤ 40 := hIv13.2
                      have hq0_v13 : v13 0 = (v 0) := hk0_v13.trans hq0_v1
                      have zq0_v13 := congrArg Int32.toInt hq0_v13
                      have hq1_v13 : v13 1 = (v1 1) := hk1_v13
                      have zq1_v13 := congrArg Int32.toInt hq1_v13
                      have hq4_v13 : v13 4 = (v 4) := hk4_v13.trans hq4_v1
                      have zq4_v13 := congrArg Int32.toInt hq4_v13
                      have hq8_v13 : v13 8 = (v 8) := hk8_v13.trans hq8_v1
                      have zq8_v13 := congrArg Int32.toInt hq8_v13
                      have hq9_v13 : v13 9 = (v 9) := hk9_v13.trans hq9_v1
                      have zq9_v13 := congrArg Int32.toInt hq9_v13
                      have hq10_v13 : v13 10 = (v 10) := hk10_v13.trans hq10_v1
                      have zq10_v13 := congrArg Int32.toInt hq10_v13
                      have hq13_v13 : v13 13 = (v 13) := hk13_v13.trans hq13_v1
                      have zq13_v13 := congrArg Int32.toInt hq13_v13
                      have hq14_v13 : v13 14 = (v 14) := hk14_v13.trans hq14_v1
                      have zq14_v13 := congrArg Int32.toInt hq14_v13
                      have hq15_v13 : v13 15 = (v 15) := hk15_v13.trans hq15_v1
                      have zq15_v13 := congrArg Int32.toInt hq15_v13
                      have hq17_v13 : v13 17 = (v 17) := hk17_v13.trans hq17_v1
                      have zq17_v13 := congrArg Int32.toInt hq17_v13
                      have hq18_v13 : v13 18 = (v 18) := hk18_v13.trans hq18_v1
                      have zq18_v13 := congrArg Int32.toInt hq18_v13
                      have hq24_v13 : v13 24 = (v 24) := hk24_v13.trans hq24_v1
                      have hq25_v13 : v13 25 = (v 25) := hk25_v13.trans hq25_v1
                      have hq35_v13 : v13 35 = (v 35) := hk35_v13.trans hq35_v1
                      have zq35_v13 := congrArg Int32.toInt hq35_v13
                      have hq36_v13 : v13 36 = (v 36) := hk36_v13.trans hq36_v1
                      have zq36_v13 := congrArg Int32.toInt hq36_v13
                      have hq38_v13 : v13 38 = (v 38) := hk38_v13.trans hq38_v1
                      have hq39_v13 : v13 39 = (v 39) := hk39_v13.trans hq39_v1
                      have hGR : GR (v 3).toInt (v 5).toInt (v13 3).toInt (v13 5).toInt := GR.tr hGR (show GR (v1 3).toInt (v1 5).toInt (v13 3).toInt (v13 5).toInt from ⟨pv17, pv18⟩) (by first | rfl | assumption | omega) (by first | rfl | assumption | omega)
                      clear pv18
                      exact ret (v13, f14, w15, g16) _ _ _ _ _ _ ⟨hIv13, hCf14, hRf14, (hk0_v13.trans hk0_v1), (hk4_v13.trans hk4_v1), (hk9_v13.trans hk9_v1), (hk24_v13.trans hk24_v1), (hk25_v13.trans hk25_v1), (hk35_v13.trans hk35_v1), (hk36_v13.trans hk36_v1), (hk38_v13.trans hk38_v1), (hk39_v13.trans hk39_v1), (by show GA (v13 1).toInt (v 3).toInt (v13 3).toInt; exact GA.ab hGR (by omega) (by omega)), (by show (v13 1).toInt = 0 → ¬ (v13 15).toInt = 0 → progOK (f14 2) (f14 3) ((v13 8).toInt).toNat; rw [hs2_f14, hs3_f14]; intro hz8 hz9; exact prog_n (hPR (by omega)) (by omega))⟩ hP hD hS dX11_readLine_306 (Nat.le_refl _) (Nat.le_refl _)
                  · skip
                    have zc11 : (v1 1).toInt = 0 := by rw [fa_eq, show (0 : Int32).toInt = 0 from by decide] at c11; exact c11
                    refine lv_aload_n hx hb dX11_readLine_281 rfl (lv_at hl 0 rfl) ?_
                    refine va_get (D := (dC, dI)) (ci := 11) (v := .int (v1 5)) (C := RX11) (T := TX11) (N := 79) hx hb hts inB_11 hown hE.1 hP 0 rfl rfl 6 (by decide) (hts _ k_1326) (fun _ h9 => h9) rfl dX11_readLine_282 ?_
                    refine tI (y := (v 5)) hq5_v1 ?_
                    refine lv_bipush (v := 59) hx hb dX11_readLine_285 (by decide) ?_
                    refine lv_icmp_eq (tgt := 295) hx hb dX11_readLine_287 (by decide) (fun c22 => ?_) (fun c22 => ?_)
                    · skip
                      have zc22 : (v 5).toInt = 59 := by rw [fa_eq, show (59 : Int32).toInt = 59 from by decide] at c22; exact c22
                      refine lv_aload_n hx hb dX11_readLine_295 rfl (lv_at hl 0 rfl) ?_
                      refine va_get (D := (dC, dI)) (ci := 11) (v := .int (v1 1)) (C := RX11) (T := TX11) (N := 79) hx hb hts inB_11 hown hE.1 hP 0 rfl rfl 2 (by decide) (hts _ k_1322) (fun _ h9 => h9) rfl dX11_readLine_296 ?_
                      refine lv_if_ne (tgt := 306) hx hb dX11_readLine_299 (by decide) (fun c23 => ?_) (fun c23 => ?_)
                      · skip
                        have zc23 : ¬ ((v1 1).toInt = 0) := by rw [fa_eq, show (0 : Int32).toInt = 0 from by decide] at c23; exact c23
                        exact ret (v1, f2, w3, g4) _ _ _ _ _ _ ⟨hIv1, hCf2, hRf2, hk0_v1, hk4_v1, hk9_v1, hk24_v1, hk25_v1, hk35_v1, hk36_v1, hk38_v1, hk39_v1, (by show GA (v1 1).toInt (v 3).toInt (v1 3).toInt; exact GA.ab hGR (by omega) (by omega)), (by show (v1 1).toInt = 0 → ¬ (v1 15).toInt = 0 → progOK (f2 2) (f2 3) ((v1 8).toInt).toNat; rw [hs2_f2, hs3_f2]; intro hz8 hz9; exact prog_n (hPR (by omega)) (by omega))⟩ hP hD hS dX11_readLine_306 (Nat.le_refl _) (Nat.le_refl _)
                      · skip
                        have zc23 : (v1 1).toInt = 0 := by rw [fa_eq, show (0 : Int32).toInt = 0 from by decide] at c23; exact c23
                        refine lv_aload_n hx hb dX11_readLine_302 rfl (lv_at hl 0 rfl) ?_
                        refine cbVv (n := 0) (rest := []) hx hb hml hown hts hE hP hD hS hA (sY_X11_token_1 l dC dI cy y0 r  v1 f2 w3 g4 hIv1 hCf2 hRf2 ) k_1579 k_1581 k_42 k_114 k_1582 (by decide +kernel) ⟨Nat.le_of_ble_eq_true rfl, Nat.le_of_ble_eq_true rfl⟩ 0 11 rfl rfl (rfl) hl.1 rfl (Nat.le_of_ble_eq_true rfl) dX11_readLine_303 (fun u H locs hw hP hD hS => ?_)
                        obtain ⟨v24, f25, w26, g27⟩ := u
                        obtain ⟨hIv24, hCf25, hRf25, hk0_v24, hk1_v24, hk4_v24, hk8_v24, hk9_v24, hk10_v24, hk13_v24, hk14_v24, hk15_v24, hk17_v24, hk18_v24, hk24_v24, hk25_v24, hk35_v24, hk36_v24, hk38_v24, hk39_v24, pv28, pv29, kq30, kq31, kq32⟩ := hw
                        have hP : va_P (dC, dI) vwCl (YW cy y0 r v24 f25 w26 g27) H := hP
                        have hD : va_D A (YW cy y0 r v24 f25 w26 g27) := hD
                        have b3_v24 : 0 ≤ (v24 3).toInt ∧ (v24 3).toInt ≤ 1600 := YIb.b hIv24.1 3 (by decide)
                        have pv28 : (v1 3).toInt ≤ (v24 3).toInt := pv28
                        have pv29 : (v24 5).toInt = (v1 5).toInt ∨ (v1 3).toInt < (v24 3).toInt ∨ ¬ (v24 5).toInt = 59 := pv29
                        have hs2_f25 : f25 2 = (f 2) := kq30.trans hs2_f2
                        have hs3_f25 : f25 3 = (f 3) := kq31.trans hs3_f2
                        have hs6_f25 : f25 6 = (f 6) := kq32.trans hs6_f2
                        have hUv24 : (v24 35).toInt + (v24 36).toInt ≤ 40 := hIv24.2
                        have hq0_v24 : v24 0 = (v 0) := hk0_v24.trans hq0_v1
                        have zq0_v24 := congrArg Int32.toInt hq0_v24
                        have hq1_v24 : v24 1 = (v1 1) := hk1_v24
                        have zq1_v24 := congrArg Int32.toInt hq1_v24
                        have hq4_v24 : v24 4 = (v 4) := hk4_v24.trans hq4_v1
                        have zq4_v24 := congrArg Int32.toInt hq4_v24
                        have hq8_v24 : v24 8 = (v 8) := hk8_v24.trans hq8_v1
                        have zq8_v24 := congrArg Int32.toInt hq8_v24
                        have hq9_v24 : v24 9 = (v 9) := hk9_v24.trans hq9_v1
                        have zq9_v24 := congrArg Int32.toInt hq9_v24
                        have hq10_v24 : v24 10 = (v 10) := hk10_v24.trans hq10_v1
                        have zq10_v24 := congrArg Int32.toInt hq10_v24
                        have hq13_v24 : v24 13 = (v 13) := hk13_v24.trans hq13_v1
                        have zq13_v24 := congrArg Int32.toInt hq13_v24
                        have hq14_v24 : v24 14 = (v 14) := hk14_v24.trans hq14_v1
                        have zq14_v24 := congrArg Int32.toInt hq14_v24
                        have hq15_v24 : v24 15 = (v 15) := hk15_v24.trans hq15_v1
                        have zq15_v24 := congrArg Int32.toInt hq15_v24
                        have hq17_v24 : v24 17 = (v 17) := hk17_v24.trans hq17_v1
                        have zq17_v24 := congrArg Int32.toInt hq17_v24
                        have hq18_v24 : v24 18 = (v 18) := hk18_v24.trans hq18_v1
                        have zq18_v24 := congrArg Int32.toInt hq18_v24
                        have hq24_v24 : v24 24 = (v 24) := hk24_v24.trans hq24_v1
                        have hq25_v24 : v24 25 = (v 25) := hk25_v24.trans hq25_v1
                        have hq35_v24 : v24 35 = (v 35) := hk35_v24.trans hq35_v1
                        have zq35_v24 := congrArg Int32.toInt hq35_v24
                        have hq36_v24 : v24 36 = (v 36) := hk36_v24.trans hq36_v1
                        have zq36_v24 := congrArg Int32.toInt hq36_v24
                        have hq38_v24 : v24 38 = (v 38) := hk38_v24.trans hq38_v1
                        have hq39_v24 : v24 39 = (v 39) := hk39_v24.trans hq39_v1
                        have hGR : GR (v 3).toInt (v 5).toInt (v24 3).toInt (v24 5).toInt := GR.tr hGR (show GR (v1 3).toInt (v1 5).toInt (v24 3).toInt (v24 5).toInt from ⟨pv28, pv29⟩) (by first | rfl | assumption | omega) (by first | rfl | assumption | omega)
                        clear pv29
                        exact ret (v24, f25, w26, g27) _ _ _ _ _ _ ⟨hIv24, hCf25, hRf25, (hk0_v24.trans hk0_v1), (hk4_v24.trans hk4_v1), (hk9_v24.trans hk9_v1), (hk24_v24.trans hk24_v1), (hk25_v24.trans hk25_v1), (hk35_v24.trans hk35_v1), (hk36_v24.trans hk36_v1), (hk38_v24.trans hk38_v1), (hk39_v24.trans hk39_v1), (by show GA (v24 1).toInt (v 3).toInt (v24 3).toInt; exact GA.ab hGR (by omega) (by omega)), (by show (v24 1).toInt = 0 → ¬ (v24 15).toInt = 0 → progOK (f25 2) (f25 3) ((v24 8).toInt).toNat; rw [hs2_f25, hs3_f25]; intro hz8 hz9; exact prog_n (hPR (by omega)) (by omega))⟩ hP hD hS dX11_readLine_306 (Nat.le_refl _) (Nat.le_refl _)
                    · skip
                      have zc22 : ¬ ((v 5).toInt = 59) := by rw [fa_eq, show (59 : Int32).toInt = 59 from by decide] at c22; exact c22
                      refine lv_aload_n hx hb dX11_readLine_290 rfl (lv_at hl 0 rfl) ?_
                      refine lv_iconst (v := 2) hx hb dX11_readLine_291 (by decide) ?_
                      refine cbVv (n := 1) (rest := []) hx hb hml hown hts hE hP hD hS hA (sY_X11_wrong_1 l dC dI cy y0 r 2 v1 f2 w3 g4 hIv1 hCf2 hRf2 ⟨by decide, by decide⟩) k_1641 k_1643 k_50 k_114 k_1644 (by decide +kernel) ⟨Nat.le_of_ble_eq_true rfl, Nat.le_of_ble_eq_true rfl⟩ 0 11 rfl rfl (rfl) hl.1 rfl (Nat.le_of_ble_eq_true rfl) dX11_readLine_292 (fun u H locs hw hP hD hS => ?_)
                      obtain ⟨v33, f34, w35, g36⟩ := u
                      obtain ⟨hIv33, hCf34, hRf34, hk0_v33, hk3_v33, hk4_v33, hk5_v33, hk8_v33, hk9_v33, hk10_v33, hk13_v33, hk14_v33, hk15_v33, hk17_v33, hk18_v33, hk24_v33, hk25_v33, hk35_v33, hk36_v33, hk38_v33, hk39_v33, pv37, pv38, pv39, kq40, kq41, kq42⟩ := hw
                      have hP : va_P (dC, dI) vwCl (YW cy y0 r v33 f34 w35 g36) H := hP
                      have hD : va_D A (YW cy y0 r v33 f34 w35 g36) := hD
                      have b3_v33 : 0 ≤ (v33 3).toInt ∧ (v33 3).toInt ≤ 1600 := YIb.b hIv33.1 3 (by decide)
                      have b1_v33 : 0 ≤ (v33 1).toInt ∧ (v33 1).toInt ≤ 4 := YIb.b hIv33.1 1 (by decide)
                      have pv37 : (v1 3).toInt ≤ (v33 3).toInt := pv37
                      have pv38 : (v33 5).toInt = (v1 5).toInt ∨ (v1 3).toInt < (v33 3).toInt ∨ ¬ (v33 5).toInt = 59 := pv38
                      have pv39 : 0 < (v33 1).toInt := pv39
                      have hs2_f34 : f34 2 = (f 2) := kq40.trans hs2_f2
                      have hs3_f34 : f34 3 = (f 3) := kq41.trans hs3_f2
                      have hs6_f34 : f34 6 = (f 6) := kq42.trans hs6_f2
                      have hUv33 : (v33 35).toInt + (v33 36).toInt ≤ 40 := hIv33.2
                      have hq0_v33 : v33 0 = (v 0) := hk0_v33.trans hq0_v1
                      have zq0_v33 := congrArg Int32.toInt hq0_v33
                      have hq3_v33 : v33 3 = (v 3) := hk3_v33.trans hq3_v1
                      have zq3_v33 := congrArg Int32.toInt hq3_v33
                      have hq4_v33 : v33 4 = (v 4) := hk4_v33.trans hq4_v1
                      have zq4_v33 := congrArg Int32.toInt hq4_v33
                      have hq5_v33 : v33 5 = (v 5) := hk5_v33.trans hq5_v1
                      have zq5_v33 := congrArg Int32.toInt hq5_v33
                      have hq8_v33 : v33 8 = (v 8) := hk8_v33.trans hq8_v1
                      have zq8_v33 := congrArg Int32.toInt hq8_v33
                      have hq9_v33 : v33 9 = (v 9) := hk9_v33.trans hq9_v1
                      have zq9_v33 := congrArg Int32.toInt hq9_v33
                      have hq10_v33 : v33 10 = (v 10) := hk10_v33.trans hq10_v1
                      have zq10_v33 := congrArg Int32.toInt hq10_v33
                      have hq13_v33 : v33 13 = (v 13) := hk13_v33.trans hq13_v1
                      have zq13_v33 := congrArg Int32.toInt hq13_v33
                      have hq14_v33 : v33 14 = (v 14) := hk14_v33.trans hq14_v1
                      have zq14_v33 := congrArg Int32.toInt hq14_v33
                      have hq15_v33 : v33 15 = (v 15) := hk15_v33.trans hq15_v1
                      have zq15_v33 := congrArg Int32.toInt hq15_v33
                      have hq17_v33 : v33 17 = (v 17) := hk17_v33.trans hq17_v1
                      have zq17_v33 := congrArg Int32.toInt hq17_v33
                      have hq18_v33 : v33 18 = (v 18) := hk18_v33.trans hq18_v1
                      have zq18_v33 := congrArg Int32.toInt hq18_v33
                      have hq24_v33 : v33 24 = (v 24) := hk24_v33.trans hq24_v1
                      have hq25_v33 : v33 25 = (v 25) := hk25_v33.trans hq25_v1
                      have hq35_v33 : v33 35 = (v 35) := hk35_v33.trans hq35_v1
                      have zq35_v33 := congrArg Int32.toInt hq35_v33
                      have hq36_v33 : v33 36 = (v 36) := hk36_v33.trans hq36_v1
                      have zq36_v33 := congrArg Int32.toInt hq36_v33
                      have hq38_v33 : v33 38 = (v 38) := hk38_v33.trans hq38_v1
                      have hq39_v33 : v33 39 = (v 39) := hk39_v33.trans hq39_v1
                      have hGR : GR (v 3).toInt (v 5).toInt (v33 3).toInt (v33 5).toInt := GR.tr hGR (show GR (v1 3).toInt (v1 5).toInt (v33 3).toInt (v33 5).toInt from ⟨pv37, pv38⟩) (by first | rfl | assumption | omega) (by first | rfl | assumption | omega)
                      clear pv38
                      refine lv_aload_n hx hb dX11_readLine_295 rfl (lv_at hl 0 rfl) ?_
                      refine va_get (D := (dC, dI)) (ci := 11) (v := .int (v33 1)) (C := RX11) (T := TX11) (N := 79) hx hb hts inB_11 hown hE.1 hP 0 rfl rfl 2 (by decide) (hts _ k_1322) (fun _ h9 => h9) rfl dX11_readLine_296 ?_
                      have b1_v33 : 0 ≤ (v33 1).toInt ∧ (v33 1).toInt ≤ 4 := YIb.b hIv33.1 1 (by decide)
                      refine lv_if_ne (tgt := 306) hx hb dX11_readLine_299 (by decide) (fun c43 => ?_) (fun c43 => ?_)
                      · skip
                        have zc43 : ¬ ((v33 1).toInt = 0) := by rw [fa_eq, show (0 : Int32).toInt = 0 from by decide] at c43; exact c43
                        exact ret (v33, f34, w35, g36) _ _ _ _ _ _ ⟨hIv33, hCf34, hRf34, (hk0_v33.trans hk0_v1), (hk4_v33.trans hk4_v1), (hk9_v33.trans hk9_v1), (hk24_v33.trans hk24_v1), (hk25_v33.trans hk25_v1), (hk35_v33.trans hk35_v1), (hk36_v33.trans hk36_v1), (hk38_v33.trans hk38_v1), (hk39_v33.trans hk39_v1), (by show GA (v33 1).toInt (v 3).toInt (v33 3).toInt; exact GA.ab hGR (by omega) (by omega)), (by show (v33 1).toInt = 0 → ¬ (v33 15).toInt = 0 → progOK (f34 2) (f34 3) ((v33 8).toInt).toNat; rw [hs2_f34, hs3_f34]; intro hz8 hz9; exact prog_n (hPR (by omega)) (by omega))⟩ hP hD hS dX11_readLine_306 (Nat.le_refl _) (Nat.le_refl _)
                      · skip
                        have zc43 : (v33 1).toInt = 0 := by rw [fa_eq, show (0 : Int32).toInt = 0 from by decide] at c43; exact c43
                        refine lv_aload_n hx hb dX11_readLine_302 rfl (lv_at hl 0 rfl) ?_
                        refine cbVv (n := 0) (rest := []) hx hb hml hown hts hE hP hD hS hA (sY_X11_token_1 l dC dI cy y0 r  v33 f34 w35 g36 hIv33 hCf34 hRf34 ) k_1579 k_1581 k_42 k_114 k_1582 (by decide +kernel) ⟨Nat.le_of_ble_eq_true rfl, Nat.le_of_ble_eq_true rfl⟩ 0 11 rfl rfl (rfl) hl.1 rfl (Nat.le_of_ble_eq_true rfl) dX11_readLine_303 (fun u H locs hw hP hD hS => ?_)
                        obtain ⟨v44, f45, w46, g47⟩ := u
                        obtain ⟨hIv44, hCf45, hRf45, hk0_v44, hk1_v44, hk4_v44, hk8_v44, hk9_v44, hk10_v44, hk13_v44, hk14_v44, hk15_v44, hk17_v44, hk18_v44, hk24_v44, hk25_v44, hk35_v44, hk36_v44, hk38_v44, hk39_v44, pv48, pv49, kq50, kq51, kq52⟩ := hw
                        have hP : va_P (dC, dI) vwCl (YW cy y0 r v44 f45 w46 g47) H := hP
                        have hD : va_D A (YW cy y0 r v44 f45 w46 g47) := hD
                        have b3_v44 : 0 ≤ (v44 3).toInt ∧ (v44 3).toInt ≤ 1600 := YIb.b hIv44.1 3 (by decide)
                        have pv48 : (v33 3).toInt ≤ (v44 3).toInt := pv48
                        have pv49 : (v44 5).toInt = (v33 5).toInt ∨ (v33 3).toInt < (v44 3).toInt ∨ ¬ (v44 5).toInt = 59 := pv49
                        have hs2_f45 : f45 2 = (f 2) := kq50.trans hs2_f34
                        have hs3_f45 : f45 3 = (f 3) := kq51.trans hs3_f34
                        have hs6_f45 : f45 6 = (f 6) := kq52.trans hs6_f34
                        have hUv44 : (v44 35).toInt + (v44 36).toInt ≤ 40 := hIv44.2
                        have hq0_v44 : v44 0 = (v 0) := hk0_v44.trans hq0_v33
                        have zq0_v44 := congrArg Int32.toInt hq0_v44
                        have hq1_v44 : v44 1 = (v33 1) := hk1_v44
                        have zq1_v44 := congrArg Int32.toInt hq1_v44
                        have hq4_v44 : v44 4 = (v 4) := hk4_v44.trans hq4_v33
                        have zq4_v44 := congrArg Int32.toInt hq4_v44
                        have hq8_v44 : v44 8 = (v 8) := hk8_v44.trans hq8_v33
                        have zq8_v44 := congrArg Int32.toInt hq8_v44
                        have hq9_v44 : v44 9 = (v 9) := hk9_v44.trans hq9_v33
                        have zq9_v44 := congrArg Int32.toInt hq9_v44
                        have hq10_v44 : v44 10 = (v 10) := hk10_v44.trans hq10_v33
                        have zq10_v44 := congrArg Int32.toInt hq10_v44
                        have hq13_v44 : v44 13 = (v 13) := hk13_v44.trans hq13_v33
                        have zq13_v44 := congrArg Int32.toInt hq13_v44
                        have hq14_v44 : v44 14 = (v 14) := hk14_v44.trans hq14_v33
                        have zq14_v44 := congrArg Int32.toInt hq14_v44
                        have hq15_v44 : v44 15 = (v 15) := hk15_v44.trans hq15_v33
                        have zq15_v44 := congrArg Int32.toInt hq15_v44
                        have hq17_v44 : v44 17 = (v 17) := hk17_v44.trans hq17_v33
                        have zq17_v44 := congrArg Int32.toInt hq17_v44
                        have hq18_v44 : v44 18 = (v 18) := hk18_v44.trans hq18_v33
                        have zq18_v44 := congrArg Int32.toInt hq18_v44
                        have hq24_v44 : v44 24 = (v 24) := hk24_v44.trans hq24_v33
                        have hq25_v44 : v44 25 = (v 25) := hk25_v44.trans hq25_v33
                        have hq35_v44 : v44 35 = (v 35) := hk35_v44.trans hq35_v33
                        have zq35_v44 := congrArg Int32.toInt hq35_v44
                        have hq36_v44 : v44 36 = (v 36) := hk36_v44.trans hq36_v33
                        have zq36_v44 := congrArg Int32.toInt hq36_v44
                        have hq38_v44 : v44 38 = (v 38) := hk38_v44.trans hq38_v33
                        have hq39_v44 : v44 39 = (v 39) := hk39_v44.trans hq39_v33
                        have hGR : GR (v 3).toInt (v 5).toInt (v44 3).toInt (v44 5).toInt := GR.tr hGR (show GR (v33 3).toInt (v33 5).toInt (v44 3).toInt (v44 5).toInt from ⟨pv48, pv49⟩) (by first | rfl | assumption | omega) (by first | rfl | assumption | omega)
                        clear pv49
                        exact ret (v44, f45, w46, g47) _ _ _ _ _ _ ⟨hIv44, hCf45, hRf45, (hk0_v44.trans (hk0_v33.trans hk0_v1)), (hk4_v44.trans (hk4_v33.trans hk4_v1)), (hk9_v44.trans (hk9_v33.trans hk9_v1)), (hk24_v44.trans (hk24_v33.trans hk24_v1)), (hk25_v44.trans (hk25_v33.trans hk25_v1)), (hk35_v44.trans (hk35_v33.trans hk35_v1)), (hk36_v44.trans (hk36_v33.trans hk36_v1)), (hk38_v44.trans (hk38_v33.trans hk38_v1)), (hk39_v44.trans (hk39_v33.trans hk39_v1)), (by show GA (v44 1).toInt (v 3).toInt (v44 3).toInt; exact GA.ab hGR (by omega) (by omega)), (by show (v44 1).toInt = 0 → ¬ (v44 15).toInt = 0 → progOK (f45 2) (f45 3) ((v44 8).toInt).toNat; rw [hs2_f45, hs3_f45]; intro hz8 hz9; exact prog_n (hPR (by omega)) (by omega))⟩ hP hD hS dX11_readLine_306 (Nat.le_refl _) (Nat.le_refl _)
                refine lv_aload_n hx hb dX11_readLine_230 rfl (lv_at hl 0 rfl) ?_
                refine lv_ldc2 (v := 1685217655) hx hb hown (hts _ k_1632) dX11_readLine_231 ?_
                refine cbVi (n := 1) (rest := []) hx hb hml hown hts hE hP hD hS hA (sY_X11_isWord_1 l dC dI cy y0 r 1685217655 v f w g hIv hCf hRf ) k_1601 k_1603 k_45 k_114 k_1604 (by decide +kernel) ⟨Nat.le_of_ble_eq_true rfl, Nat.le_of_ble_eq_true rfl⟩ 0 11 rfl rfl (rfl) hl.1 rfl (Nat.le_of_ble_eq_true rfl) dX11_readLine_234 (fun r53 u H locs hw hP hD hS => ?_)
                rcases hw with ⟨g54, g54_0⟩ | ⟨g54⟩
                · skip
                  subst g54
                  refine lv_if_eq (tgt := 269) hx hb dX11_readLine_237 (by decide) (fun c0 => absurd c0 (by decide)) (fun _ => ?_)
                  refine lv_aload_n hx hb dX11_readLine_240 rfl (lv_at hl 0 rfl) ?_
                  refine va_get (D := (dC, dI)) (ci := 11) (v := .int (v 34)) (C := RX11) (T := TX11) (N := 79) hx hb hts inB_11 hown hE.1 hP 0 rfl rfl 58 (by decide) (hts _ k_1378) (fun _ h9 => h9) rfl dX11_readLine_241 ?_
                  refine lv_if_ne (tgt := 269) hx hb dX11_readLine_244 (by decide) (fun c55 => ?_) (fun c55 => ?_)
                  · skip
                    have zc55 : ¬ ((v 34).toInt = 0) := by rw [fa_eq, show (0 : Int32).toInt = 0 from by decide] at c55; exact c55
                    exact jp269 _ _ _ hP hD hS hl
                  · skip
                    have zc55 : (v 34).toInt = 0 := by rw [fa_eq, show (0 : Int32).toInt = 0 from by decide] at c55; exact c55
                    refine lv_aload_n hx hb dX11_readLine_247 rfl (lv_at hl 0 rfl) ?_
                    refine lv_iconst (v := 1) hx hb dX11_readLine_248 (by decide) ?_
                    refine va_put (D := (dC, dI)) (ci := 11) (v := .int 1) (ty := tyX11 58) (C := RX11) (T := TX11) (N := 79) hx hb hts inB_11 tyX11 tyX11_ok nmX11 hown hE.1 hP hD hS 0 rfl rfl 58 (by decide) (hts _ k_1378) (fun _ h9 => h9) rfl (tyX11_ok 58 (by decide)) rfl rfl (Nat.le_of_ble_eq_true rfl) dX11_readLine_249 (fun H locs hP hD hS => ?_)
                    have hP : va_P (dC, dI) vwCl (YW cy y0 r (upd v 34 1) f w g) H := hP
                    have hD : va_D A (YW cy y0 r (upd v 34 1) f w g) := hD
                    refine lv_aload_n hx hb dX11_readLine_252 rfl (lv_at hl 0 rfl) ?_
                    refine lv_aload_n hx hb dX11_readLine_253 rfl (lv_at hl 0 rfl) ?_
                    refine lv_ldc2 (v := 1685217655) hx hb hown (hts _ k_1632) dX11_readLine_254 ?_
                    refine lv_sipush (v := 999) hx hb dX11_readLine_257 (by decide) ?_
                    refine cbVi (n := 2) (rest := [.ref y0]) hx hb hml hown hts hE hP hD hS hA (sY_X11_told_1 l dC dI cy y0 r 1685217655 999 (upd v 34 1) f w g ⟨(YIb.upd (j := 34) (x := 1) hIv.1 (rlo _) (rhi _)), hIv.2⟩ hCf hRf ) k_1645 k_1647 k_51 k_114 k_1648 (by decide +kernel) ⟨Nat.le_of_ble_eq_true rfl, Nat.le_of_ble_eq_true rfl⟩ 0 11 rfl rfl (rfl) hl.1 rfl (Nat.le_of_ble_eq_true rfl) dX11_readLine_260 (fun r56 u H locs hw hP hD hS => ?_)
                    obtain ⟨v57, f58, w59, g60⟩ := u
                    obtain ⟨hIv57, hCf58, hRf58, hk0_v57, hk4_v57, hk8_v57, hk9_v57, hk10_v57, hk13_v57, hk14_v57, hk15_v57, hk17_v57, hk18_v57, hk24_v57, hk25_v57, hk35_v57, hk36_v57, hk38_v57, hk39_v57, pv61, pv62, kq63, kq64, kq65⟩ := hw
                    have hP : va_P (dC, dI) vwCl (YW cy y0 r v57 f58 w59 g60) H := hP
                    have hD : va_D A (YW cy y0 r v57 f58 w59 g60) := hD
                    have b3_v57 : 0 ≤ (v57 3).toInt ∧ (v57 3).toInt ≤ 1600 := YIb.b hIv57.1 3 (by decide)
                    have pv61 : (v 3).toInt ≤ (v57 3).toInt := pv61
                    have pv62 : (v57 5).toInt = (v 5).toInt ∨ (v 3).toInt < (v57 3).toInt ∨ ¬ (v57 5).toInt = 59 := pv62
                    have hs2_f58 : f58 2 = (f 2) := kq63
                    have hs3_f58 : f58 3 = (f 3) := kq64
                    have hs6_f58 : f58 6 = (f 6) := kq65
                    have hUv57 : (v57 35).toInt + (v57 36).toInt ≤ 40 := hIv57.2
                    have hq0_v57 : v57 0 = (v 0) := hk0_v57
                    have zq0_v57 := congrArg Int32.toInt hq0_v57
                    have hq4_v57 : v57 4 = (v 4) := hk4_v57
                    have zq4_v57 := congrArg Int32.toInt hq4_v57
                    have hq8_v57 : v57 8 = (v 8) := hk8_v57
                    have zq8_v57 := congrArg Int32.toInt hq8_v57
                    have hq9_v57 : v57 9 = (v 9) := hk9_v57
                    have zq9_v57 := congrArg Int32.toInt hq9_v57
                    have hq10_v57 : v57 10 = (v 10) := hk10_v57
                    have zq10_v57 := congrArg Int32.toInt hq10_v57
                    have hq13_v57 : v57 13 = (v 13) := hk13_v57
                    have zq13_v57 := congrArg Int32.toInt hq13_v57
                    have hq14_v57 : v57 14 = (v 14) := hk14_v57
                    have zq14_v57 := congrArg Int32.toInt hq14_v57
                    have hq15_v57 : v57 15 = (v 15) := hk15_v57
                    have zq15_v57 := congrArg Int32.toInt hq15_v57
                    have hq17_v57 : v57 17 = (v 17) := hk17_v57
                    have zq17_v57 := congrArg Int32.toInt hq17_v57
                    have hq18_v57 : v57 18 = (v 18) := hk18_v57
                    have zq18_v57 := congrArg Int32.toInt hq18_v57
                    have hq24_v57 : v57 24 = (v 24) := hk24_v57
                    have hq25_v57 : v57 25 = (v 25) := hk25_v57
                    have hq35_v57 : v57 35 = (v 35) := hk35_v57
                    have zq35_v57 := congrArg Int32.toInt hq35_v57
                    have hq36_v57 : v57 36 = (v 36) := hk36_v57
                    have zq36_v57 := congrArg Int32.toInt hq36_v57
                    have hq38_v57 : v57 38 = (v 38) := hk38_v57
                    have hq39_v57 : v57 39 = (v 39) := hk39_v57
                    have hGR : GR (v 3).toInt (v 5).toInt (v57 3).toInt (v57 5).toInt := GR.tr hGR (show GR (v 3).toInt (v 5).toInt (v57 3).toInt (v57 5).toInt from ⟨pv61, pv62⟩) (by first | rfl | assumption | omega) (by first | rfl | assumption | omega)
                    clear pv62
                    refine va_put (D := (dC, dI)) (ci := 11) (v := .int r56) (ty := tyX11 47) (C := RX11) (T := TX11) (N := 79) hx hb hts inB_11 tyX11 tyX11_ok nmX11 hown hE.1 hP hD hS 0 rfl rfl 47 (by decide) (hts _ k_1367) (fun _ h9 => h9) rfl (tyX11_ok 47 (by decide)) rfl rfl (Nat.le_of_ble_eq_true rfl) dX11_readLine_263 (fun H locs hP hD hS => ?_)
                    have hP : va_P (dC, dI) vwCl (YW cy y0 r (upd v57 23 r56) f58 w59 g60) H := hP
                    have hD : va_D A (YW cy y0 r (upd v57 23 r56) f58 w59 g60) := hD
                    refine lv_goto (tgt := 274) hx hb dX11_readLine_266 (by decide) ?_
                    refine lv_aload_n hx hb dX11_readLine_274 rfl (lv_at hl 0 rfl) ?_
                    refine va_get (D := (dC, dI)) (ci := 11) (v := .int (v57 1)) (C := RX11) (T := TX11) (N := 79) hx hb hts inB_11 hown hE.1 hP 0 rfl rfl 2 (by decide) (hts _ k_1322) (fun _ h9 => h9) rfl dX11_readLine_275 ?_
                    have b1_v57 : 0 ≤ (v57 1).toInt ∧ (v57 1).toInt ≤ 4 := YIb.b hIv57.1 1 (by decide)
                    refine lv_if_ne (tgt := 295) hx hb dX11_readLine_278 (by decide) (fun c66 => ?_) (fun c66 => ?_)
                    · skip
                      have zc66 : ¬ ((v57 1).toInt = 0) := by rw [fa_eq, show (0 : Int32).toInt = 0 from by decide] at c66; exact c66
                      refine lv_aload_n hx hb dX11_readLine_295 rfl (lv_at hl 0 rfl) ?_
                      refine va_get (D := (dC, dI)) (ci := 11) (v := .int (v57 1)) (C := RX11) (T := TX11) (N := 79) hx hb hts inB_11 hown hE.1 hP 0 rfl rfl 2 (by decide) (hts _ k_1322) (fun _ h9 => h9) rfl dX11_readLine_296 ?_
                      refine lv_if_ne (tgt := 306) hx hb dX11_readLine_299 (by decide) (fun c67 => ?_) (fun c67 => ?_)
                      · skip
                        have zc67 : ¬ ((v57 1).toInt = 0) := by rw [fa_eq, show (0 : Int32).toInt = 0 from by decide] at c67; exact c67
                        exact ret ((upd v57 23 r56), f58, w59, g60) _ _ _ _ _ _ ⟨⟨(YIb.upd (j := 23) (x := r56) hIv57.1 (rlo _) (rhi _)), hIv57.2⟩, hCf58, hRf58, hk0_v57, hk4_v57, hk9_v57, hk24_v57, hk25_v57, hk35_v57, hk36_v57, hk38_v57, hk39_v57, (by show GA (v57 1).toInt (v 3).toInt (v57 3).toInt; exact GA.ab hGR (by omega) (by omega)), (by show (v57 1).toInt = 0 → ¬ (v57 15).toInt = 0 → progOK (f58 2) (f58 3) ((v57 8).toInt).toNat; rw [hs2_f58, hs3_f58]; intro hz8 hz9; exact prog_n (hPR (by omega)) (by omega))⟩ hP hD hS dX11_readLine_306 (Nat.le_refl _) (Nat.le_refl _)
                      · skip
                        have zc67 : (v57 1).toInt = 0 := by rw [fa_eq, show (0 : Int32).toInt = 0 from by decide] at c67; exact c67
                        have hgrew := GR.grew hGR (by omega) (by omega)
                        refine lv_aload_n hx hb dX11_readLine_302 rfl (lv_at hl 0 rfl) ?_
                        refine cbVv (n := 0) (rest := []) hx hb hml hown hts hE hP hD hS hA (sY_X11_token_1 l dC dI cy y0 r  (upd v57 23 r56) f58 w59 g60 ⟨(YIb.upd (j := 23) (x := r56) hIv57.1 (rlo _) (rhi _)), hIv57.2⟩ hCf58 hRf58 ) k_1579 k_1581 k_42 k_114 k_1582 (by decide +kernel) ⟨Nat.le_of_ble_eq_true rfl, Nat.le_of_ble_eq_true rfl⟩ 0 11 rfl rfl (rfl) hl.1 rfl (Nat.le_of_ble_eq_true rfl) dX11_readLine_303 (fun u H locs hw hP hD hS => ?_)
                        obtain ⟨v68, f69, w70, g71⟩ := u
                        obtain ⟨hIv68, hCf69, hRf69, hk0_v68, hk1_v68, hk4_v68, hk8_v68, hk9_v68, hk10_v68, hk13_v68, hk14_v68, hk15_v68, hk17_v68, hk18_v68, hk24_v68, hk25_v68, hk35_v68, hk36_v68, hk38_v68, hk39_v68, pv72, pv73, kq74, kq75, kq76⟩ := hw
                        have hP : va_P (dC, dI) vwCl (YW cy y0 r v68 f69 w70 g71) H := hP
                        have hD : va_D A (YW cy y0 r v68 f69 w70 g71) := hD
                        have b3_v68 : 0 ≤ (v68 3).toInt ∧ (v68 3).toInt ≤ 1600 := YIb.b hIv68.1 3 (by decide)
                        have pv72 : (v57 3).toInt ≤ (v68 3).toInt := pv72
                        have pv73 : (v68 5).toInt = (v57 5).toInt ∨ (v57 3).toInt < (v68 3).toInt ∨ ¬ (v68 5).toInt = 59 := pv73
                        have hs2_f69 : f69 2 = (f 2) := kq74.trans hs2_f58
                        have hs3_f69 : f69 3 = (f 3) := kq75.trans hs3_f58
                        have hs6_f69 : f69 6 = (f 6) := kq76.trans hs6_f58
                        have hUv68 : (v68 35).toInt + (v68 36).toInt ≤ 40 := hIv68.2
                        have hq0_v68 : v68 0 = (v 0) := hk0_v68.trans hq0_v57
                        have zq0_v68 := congrArg Int32.toInt hq0_v68
                        have hq1_v68 : v68 1 = (v57 1) := hk1_v68
                        have zq1_v68 := congrArg Int32.toInt hq1_v68
                        have hq4_v68 : v68 4 = (v 4) := hk4_v68.trans hq4_v57
                        have zq4_v68 := congrArg Int32.toInt hq4_v68
                        have hq8_v68 : v68 8 = (v 8) := hk8_v68.trans hq8_v57
                        have zq8_v68 := congrArg Int32.toInt hq8_v68
                        have hq9_v68 : v68 9 = (v 9) := hk9_v68.trans hq9_v57
                        have zq9_v68 := congrArg Int32.toInt hq9_v68
                        have hq10_v68 : v68 10 = (v 10) := hk10_v68.trans hq10_v57
                        have zq10_v68 := congrArg Int32.toInt hq10_v68
                        have hq13_v68 : v68 13 = (v 13) := hk13_v68.trans hq13_v57
                        have zq13_v68 := congrArg Int32.toInt hq13_v68
                        have hq14_v68 : v68 14 = (v 14) := hk14_v68.trans hq14_v57
                        have zq14_v68 := congrArg Int32.toInt hq14_v68
                        have hq15_v68 : v68 15 = (v 15) := hk15_v68.trans hq15_v57
                        have zq15_v68 := congrArg Int32.toInt hq15_v68
                        have hq17_v68 : v68 17 = (v 17) := hk17_v68.trans hq17_v57
                        have zq17_v68 := congrArg Int32.toInt hq17_v68
                        have hq18_v68 : v68 18 = (v 18) := hk18_v68.trans hq18_v57
                        have zq18_v68 := congrArg Int32.toInt hq18_v68
                        have hq24_v68 : v68 24 = (v 24) := hk24_v68.trans hq24_v57
                        have hq25_v68 : v68 25 = (v 25) := hk25_v68.trans hq25_v57
                        have hq35_v68 : v68 35 = (v 35) := hk35_v68.trans hq35_v57
                        have zq35_v68 := congrArg Int32.toInt hq35_v68
                        have hq36_v68 : v68 36 = (v 36) := hk36_v68.trans hq36_v57
                        have zq36_v68 := congrArg Int32.toInt hq36_v68
                        have hq38_v68 : v68 38 = (v 38) := hk38_v68.trans hq38_v57
                        have hq39_v68 : v68 39 = (v 39) := hk39_v68.trans hq39_v57
                        have hGR : GR (v 3).toInt (v 5).toInt (v68 3).toInt (v68 5).toInt := GR.tr hGR (show GR (v57 3).toInt (v57 5).toInt (v68 3).toInt (v68 5).toInt from ⟨pv72, pv73⟩) (by first | rfl | assumption | omega) (by first | rfl | assumption | omega)
                        clear pv73
                        exact ret (v68, f69, w70, g71) _ _ _ _ _ _ ⟨hIv68, hCf69, hRf69, (hk0_v68.trans hk0_v57), (hk4_v68.trans hk4_v57), (hk9_v68.trans hk9_v57), (hk24_v68.trans hk24_v57), (hk25_v68.trans hk25_v57), (hk35_v68.trans hk35_v57), (hk36_v68.trans hk36_v57), (hk38_v68.trans hk38_v57), (hk39_v68.trans hk39_v57), (by show GA (v68 1).toInt (v 3).toInt (v68 3).toInt; exact GA.mk hgrew hGR (by omega)), (by show (v68 1).toInt = 0 → ¬ (v68 15).toInt = 0 → progOK (f69 2) (f69 3) ((v68 8).toInt).toNat; rw [hs2_f69, hs3_f69]; intro hz8 hz9; exact prog_n (hPR (by omega)) (by omega))⟩ hP hD hS dX11_readLine_306 (Nat.le_refl _) (Nat.le_refl _)
                    · skip
                      have zc66 : (v57 1).toInt = 0 := by rw [fa_eq, show (0 : Int32).toInt = 0 from by decide] at c66; exact c66
                      refine lv_aload_n hx hb dX11_readLine_281 rfl (lv_at hl 0 rfl) ?_
                      refine va_get (D := (dC, dI)) (ci := 11) (v := .int (v57 5)) (C := RX11) (T := TX11) (N := 79) hx hb hts inB_11 hown hE.1 hP 0 rfl rfl 6 (by decide) (hts _ k_1326) (fun _ h9 => h9) rfl dX11_readLine_282 ?_
                      refine lv_bipush (v := 59) hx hb dX11_readLine_285 (by decide) ?_
                      refine lv_icmp_eq (tgt := 295) hx hb dX11_readLine_287 (by decide) (fun c77 => ?_) (fun c77 => ?_)
                      · skip
                        have zc77 : (v57 5).toInt = 59 := by rw [fa_eq, show (59 : Int32).toInt = 59 from by decide] at c77; exact c77
                        refine lv_aload_n hx hb dX11_readLine_295 rfl (lv_at hl 0 rfl) ?_
                        refine va_get (D := (dC, dI)) (ci := 11) (v := .int (v57 1)) (C := RX11) (T := TX11) (N := 79) hx hb hts inB_11 hown hE.1 hP 0 rfl rfl 2 (by decide) (hts _ k_1322) (fun _ h9 => h9) rfl dX11_readLine_296 ?_
                        refine lv_if_ne (tgt := 306) hx hb dX11_readLine_299 (by decide) (fun c78 => ?_) (fun c78 => ?_)
                        · skip
                          have zc78 : ¬ ((v57 1).toInt = 0) := by rw [fa_eq, show (0 : Int32).toInt = 0 from by decide] at c78; exact c78
                          exact ret ((upd v57 23 r56), f58, w59, g60) _ _ _ _ _ _ ⟨⟨(YIb.upd (j := 23) (x := r56) hIv57.1 (rlo _) (rhi _)), hIv57.2⟩, hCf58, hRf58, hk0_v57, hk4_v57, hk9_v57, hk24_v57, hk25_v57, hk35_v57, hk36_v57, hk38_v57, hk39_v57, (by show GA (v57 1).toInt (v 3).toInt (v57 3).toInt; exact GA.ab hGR (by omega) (by omega)), (by show (v57 1).toInt = 0 → ¬ (v57 15).toInt = 0 → progOK (f58 2) (f58 3) ((v57 8).toInt).toNat; rw [hs2_f58, hs3_f58]; intro hz8 hz9; exact prog_n (hPR (by omega)) (by omega))⟩ hP hD hS dX11_readLine_306 (Nat.le_refl _) (Nat.le_refl _)
                        · skip
                          have zc78 : (v57 1).toInt = 0 := by rw [fa_eq, show (0 : Int32).toInt = 0 from by decide] at c78; exact c78
                          have hgrew := GR.grew hGR (by omega) (by omega)
                          refine lv_aload_n hx hb dX11_readLine_302 rfl (lv_at hl 0 rfl) ?_
                          refine cbVv (n := 0) (rest := []) hx hb hml hown hts hE hP hD hS hA (sY_X11_token_1 l dC dI cy y0 r  (upd v57 23 r56) f58 w59 g60 ⟨(YIb.upd (j := 23) (x := r56) hIv57.1 (rlo _) (rhi _)), hIv57.2⟩ hCf58 hRf58 ) k_1579 k_1581 k_42 k_114 k_1582 (by decide +kernel) ⟨Nat.le_of_ble_eq_true rfl, Nat.le_of_ble_eq_true rfl⟩ 0 11 rfl rfl (rfl) hl.1 rfl (Nat.le_of_ble_eq_true rfl) dX11_readLine_303 (fun u H locs hw hP hD hS => ?_)
                          obtain ⟨v79, f80, w81, g82⟩ := u
                          obtain ⟨hIv79, hCf80, hRf80, hk0_v79, hk1_v79, hk4_v79, hk8_v79, hk9_v79, hk10_v79, hk13_v79, hk14_v79, hk15_v79, hk17_v79, hk18_v79, hk24_v79, hk25_v79, hk35_v79, hk36_v79, hk38_v79, hk39_v79, pv83, pv84, kq85, kq86, kq87⟩ := hw
                          have hP : va_P (dC, dI) vwCl (YW cy y0 r v79 f80 w81 g82) H := hP
                          have hD : va_D A (YW cy y0 r v79 f80 w81 g82) := hD
                          have b3_v79 : 0 ≤ (v79 3).toInt ∧ (v79 3).toInt ≤ 1600 := YIb.b hIv79.1 3 (by decide)
                          have pv83 : (v57 3).toInt ≤ (v79 3).toInt := pv83
                          have pv84 : (v79 5).toInt = (v57 5).toInt ∨ (v57 3).toInt < (v79 3).toInt ∨ ¬ (v79 5).toInt = 59 := pv84
                          have hs2_f80 : f80 2 = (f 2) := kq85.trans hs2_f58
                          have hs3_f80 : f80 3 = (f 3) := kq86.trans hs3_f58
                          have hs6_f80 : f80 6 = (f 6) := kq87.trans hs6_f58
                          have hUv79 : (v79 35).toInt + (v79 36).toInt ≤ 40 := hIv79.2
                          have hq0_v79 : v79 0 = (v 0) := hk0_v79.trans hq0_v57
                          have zq0_v79 := congrArg Int32.toInt hq0_v79
                          have hq1_v79 : v79 1 = (v57 1) := hk1_v79
                          have zq1_v79 := congrArg Int32.toInt hq1_v79
                          have hq4_v79 : v79 4 = (v 4) := hk4_v79.trans hq4_v57
                          have zq4_v79 := congrArg Int32.toInt hq4_v79
                          have hq8_v79 : v79 8 = (v 8) := hk8_v79.trans hq8_v57
                          have zq8_v79 := congrArg Int32.toInt hq8_v79
                          have hq9_v79 : v79 9 = (v 9) := hk9_v79.trans hq9_v57
                          have zq9_v79 := congrArg Int32.toInt hq9_v79
                          have hq10_v79 : v79 10 = (v 10) := hk10_v79.trans hq10_v57
                          have zq10_v79 := congrArg Int32.toInt hq10_v79
                          have hq13_v79 : v79 13 = (v 13) := hk13_v79.trans hq13_v57
                          have zq13_v79 := congrArg Int32.toInt hq13_v79
                          have hq14_v79 : v79 14 = (v 14) := hk14_v79.trans hq14_v57
                          have zq14_v79 := congrArg Int32.toInt hq14_v79
                          have hq15_v79 : v79 15 = (v 15) := hk15_v79.trans hq15_v57
                          have zq15_v79 := congrArg Int32.toInt hq15_v79
                          have hq17_v79 : v79 17 = (v 17) := hk17_v79.trans hq17_v57
                          have zq17_v79 := congrArg Int32.toInt hq17_v79
                          have hq18_v79 : v79 18 = (v 18) := hk18_v79.trans hq18_v57
                          have zq18_v79 := congrArg Int32.toInt hq18_v79
                          have hq24_v79 : v79 24 = (v 24) := hk24_v79.trans hq24_v57
                          have hq25_v79 : v79 25 = (v 25) := hk25_v79.trans hq25_v57
                          have hq35_v79 : v79 35 = (v 35) := hk35_v79.trans hq35_v57
                          have zq35_v79 := congrArg Int32.toInt hq35_v79
                          have hq36_v79 : v79 36 = (v 36) := hk36_v79.trans hq36_v57
                          have zq36_v79 := congrArg Int32.toInt hq36_v79
                          have hq38_v79 : v79 38 = (v 38) := hk38_v79.trans hq38_v57
                          have hq39_v79 : v79 39 = (v 39) := hk39_v79.trans hq39_v57
                          have hGR : GR (v 3).toInt (v 5).toInt (v79 3).toInt (v79 5).toInt := GR.tr hGR (show GR (v57 3).toInt (v57 5).toInt (v79 3).toInt (v79 5).toInt from ⟨pv83, pv84⟩) (by first | rfl | assumption | omega) (by first | rfl | assumption | omega)
                          clear pv84
                          exact ret (v79, f80, w81, g82) _ _ _ _ _ _ ⟨hIv79, hCf80, hRf80, (hk0_v79.trans hk0_v57), (hk4_v79.trans hk4_v57), (hk9_v79.trans hk9_v57), (hk24_v79.trans hk24_v57), (hk25_v79.trans hk25_v57), (hk35_v79.trans hk35_v57), (hk36_v79.trans hk36_v57), (hk38_v79.trans hk38_v57), (hk39_v79.trans hk39_v57), (by show GA (v79 1).toInt (v 3).toInt (v79 3).toInt; exact GA.mk hgrew hGR (by omega)), (by show (v79 1).toInt = 0 → ¬ (v79 15).toInt = 0 → progOK (f80 2) (f80 3) ((v79 8).toInt).toNat; rw [hs2_f80, hs3_f80]; intro hz8 hz9; exact prog_n (hPR (by omega)) (by omega))⟩ hP hD hS dX11_readLine_306 (Nat.le_refl _) (Nat.le_refl _)
                      · skip
                        have zc77 : ¬ ((v57 5).toInt = 59) := by rw [fa_eq, show (59 : Int32).toInt = 59 from by decide] at c77; exact c77
                        refine lv_aload_n hx hb dX11_readLine_290 rfl (lv_at hl 0 rfl) ?_
                        refine lv_iconst (v := 2) hx hb dX11_readLine_291 (by decide) ?_
                        refine cbVv (n := 1) (rest := []) hx hb hml hown hts hE hP hD hS hA (sY_X11_wrong_1 l dC dI cy y0 r 2 (upd v57 23 r56) f58 w59 g60 ⟨(YIb.upd (j := 23) (x := r56) hIv57.1 (rlo _) (rhi _)), hIv57.2⟩ hCf58 hRf58 ⟨by decide, by decide⟩) k_1641 k_1643 k_50 k_114 k_1644 (by decide +kernel) ⟨Nat.le_of_ble_eq_true rfl, Nat.le_of_ble_eq_true rfl⟩ 0 11 rfl rfl (rfl) hl.1 rfl (Nat.le_of_ble_eq_true rfl) dX11_readLine_292 (fun u H locs hw hP hD hS => ?_)
                        obtain ⟨v88, f89, w90, g91⟩ := u
                        obtain ⟨hIv88, hCf89, hRf89, hk0_v88, hk3_v88, hk4_v88, hk5_v88, hk8_v88, hk9_v88, hk10_v88, hk13_v88, hk14_v88, hk15_v88, hk17_v88, hk18_v88, hk24_v88, hk25_v88, hk35_v88, hk36_v88, hk38_v88, hk39_v88, pv92, pv93, pv94, kq95, kq96, kq97⟩ := hw
                        have hP : va_P (dC, dI) vwCl (YW cy y0 r v88 f89 w90 g91) H := hP
                        have hD : va_D A (YW cy y0 r v88 f89 w90 g91) := hD
                        have b3_v88 : 0 ≤ (v88 3).toInt ∧ (v88 3).toInt ≤ 1600 := YIb.b hIv88.1 3 (by decide)
                        have b1_v88 : 0 ≤ (v88 1).toInt ∧ (v88 1).toInt ≤ 4 := YIb.b hIv88.1 1 (by decide)
                        have pv92 : (v57 3).toInt ≤ (v88 3).toInt := pv92
                        have pv93 : (v88 5).toInt = (v57 5).toInt ∨ (v57 3).toInt < (v88 3).toInt ∨ ¬ (v88 5).toInt = 59 := pv93
                        have pv94 : 0 < (v88 1).toInt := pv94
                        have hs2_f89 : f89 2 = (f 2) := kq95.trans hs2_f58
                        have hs3_f89 : f89 3 = (f 3) := kq96.trans hs3_f58
                        have hs6_f89 : f89 6 = (f 6) := kq97.trans hs6_f58
                        have hUv88 : (v88 35).toInt + (v88 36).toInt ≤ 40 := hIv88.2
                        have hq0_v88 : v88 0 = (v 0) := hk0_v88.trans hq0_v57
                        have zq0_v88 := congrArg Int32.toInt hq0_v88
                        have hq3_v88 : v88 3 = (v57 3) := hk3_v88
                        have zq3_v88 := congrArg Int32.toInt hq3_v88
                        have hq4_v88 : v88 4 = (v 4) := hk4_v88.trans hq4_v57
                        have zq4_v88 := congrArg Int32.toInt hq4_v88
                        have hq5_v88 : v88 5 = (v57 5) := hk5_v88
                        have zq5_v88 := congrArg Int32.toInt hq5_v88
                        have hq8_v88 : v88 8 = (v 8) := hk8_v88.trans hq8_v57
                        have zq8_v88 := congrArg Int32.toInt hq8_v88
                        have hq9_v88 : v88 9 = (v 9) := hk9_v88.trans hq9_v57
                        have zq9_v88 := congrArg Int32.toInt hq9_v88
                        have hq10_v88 : v88 10 = (v 10) := hk10_v88.trans hq10_v57
                        have zq10_v88 := congrArg Int32.toInt hq10_v88
                        have hq13_v88 : v88 13 = (v 13) := hk13_v88.trans hq13_v57
                        have zq13_v88 := congrArg Int32.toInt hq13_v88
                        have hq14_v88 : v88 14 = (v 14) := hk14_v88.trans hq14_v57
                        have zq14_v88 := congrArg Int32.toInt hq14_v88
                        have hq15_v88 : v88 15 = (v 15) := hk15_v88.trans hq15_v57
                        have zq15_v88 := congrArg Int32.toInt hq15_v88
                        have hq17_v88 : v88 17 = (v 17) := hk17_v88.trans hq17_v57
                        have zq17_v88 := congrArg Int32.toInt hq17_v88
                        have hq18_v88 : v88 18 = (v 18) := hk18_v88.trans hq18_v57
                        have zq18_v88 := congrArg Int32.toInt hq18_v88
                        have hq24_v88 : v88 24 = (v 24) := hk24_v88.trans hq24_v57
                        have hq25_v88 : v88 25 = (v 25) := hk25_v88.trans hq25_v57
                        have hq35_v88 : v88 35 = (v 35) := hk35_v88.trans hq35_v57
                        have zq35_v88 := congrArg Int32.toInt hq35_v88
                        have hq36_v88 : v88 36 = (v 36) := hk36_v88.trans hq36_v57
                        have zq36_v88 := congrArg Int32.toInt hq36_v88
                        have hq38_v88 : v88 38 = (v 38) := hk38_v88.trans hq38_v57
                        have hq39_v88 : v88 39 = (v 39) := hk39_v88.trans hq39_v57
                        have hGR : GR (v 3).toInt (v 5).toInt (v88 3).toInt (v88 5).toInt := GR.tr hGR (show GR (v57 3).toInt (v57 5).toInt (v88 3).toInt (v88 5).toInt from ⟨pv92, pv93⟩) (by first | rfl | assumption | omega) (by first | rfl | assumption | omega)
                        clear pv93
                        refine lv_aload_n hx hb dX11_readLine_295 rfl (lv_at hl 0 rfl) ?_
                        refine va_get (D := (dC, dI)) (ci := 11) (v := .int (v88 1)) (C := RX11) (T := TX11) (N := 79) hx hb hts inB_11 hown hE.1 hP 0 rfl rfl 2 (by decide) (hts _ k_1322) (fun _ h9 => h9) rfl dX11_readLine_296 ?_
                        have b1_v88 : 0 ≤ (v88 1).toInt ∧ (v88 1).toInt ≤ 4 := YIb.b hIv88.1 1 (by decide)
                        refine lv_if_ne (tgt := 306) hx hb dX11_readLine_299 (by decide) (fun c98 => ?_) (fun c98 => ?_)
                        · skip
                          have zc98 : ¬ ((v88 1).toInt = 0) := by rw [fa_eq, show (0 : Int32).toInt = 0 from by decide] at c98; exact c98
                          exact ret (v88, f89, w90, g91) _ _ _ _ _ _ ⟨hIv88, hCf89, hRf89, (hk0_v88.trans hk0_v57), (hk4_v88.trans hk4_v57), (hk9_v88.trans hk9_v57), (hk24_v88.trans hk24_v57), (hk25_v88.trans hk25_v57), (hk35_v88.trans hk35_v57), (hk36_v88.trans hk36_v57), (hk38_v88.trans hk38_v57), (hk39_v88.trans hk39_v57), (by show GA (v88 1).toInt (v 3).toInt (v88 3).toInt; exact GA.ab hGR (by omega) (by omega)), (by show (v88 1).toInt = 0 → ¬ (v88 15).toInt = 0 → progOK (f89 2) (f89 3) ((v88 8).toInt).toNat; rw [hs2_f89, hs3_f89]; intro hz8 hz9; exact prog_n (hPR (by omega)) (by omega))⟩ hP hD hS dX11_readLine_306 (Nat.le_refl _) (Nat.le_refl _)
                        · skip
                          have zc98 : (v88 1).toInt = 0 := by rw [fa_eq, show (0 : Int32).toInt = 0 from by decide] at c98; exact c98
                          refine lv_aload_n hx hb dX11_readLine_302 rfl (lv_at hl 0 rfl) ?_
                          refine cbVv (n := 0) (rest := []) hx hb hml hown hts hE hP hD hS hA (sY_X11_token_1 l dC dI cy y0 r  v88 f89 w90 g91 hIv88 hCf89 hRf89 ) k_1579 k_1581 k_42 k_114 k_1582 (by decide +kernel) ⟨Nat.le_of_ble_eq_true rfl, Nat.le_of_ble_eq_true rfl⟩ 0 11 rfl rfl (rfl) hl.1 rfl (Nat.le_of_ble_eq_true rfl) dX11_readLine_303 (fun u H locs hw hP hD hS => ?_)
                          obtain ⟨v99, f100, w101, g102⟩ := u
                          obtain ⟨hIv99, hCf100, hRf100, hk0_v99, hk1_v99, hk4_v99, hk8_v99, hk9_v99, hk10_v99, hk13_v99, hk14_v99, hk15_v99, hk17_v99, hk18_v99, hk24_v99, hk25_v99, hk35_v99, hk36_v99, hk38_v99, hk39_v99, pv103, pv104, kq105, kq106, kq107⟩ := hw
                          have hP : va_P (dC, dI) vwCl (YW cy y0 r v99 f100 w101 g102) H := hP
                          have hD : va_D A (YW cy y0 r v99 f100 w101 g102) := hD
                          have b3_v99 : 0 ≤ (v99 3).toInt ∧ (v99 3).toInt ≤ 1600 := YIb.b hIv99.1 3 (by decide)
                          have pv103 : (v88 3).toInt ≤ (v99 3).toInt := pv103
                          have pv104 : (v99 5).toInt = (v88 5).toInt ∨ (v88 3).toInt < (v99 3).toInt ∨ ¬ (v99 5).toInt = 59 := pv104
                          have hs2_f100 : f100 2 = (f 2) := kq105.trans hs2_f89
                          have hs3_f100 : f100 3 = (f 3) := kq106.trans hs3_f89
                          have hs6_f100 : f100 6 = (f 6) := kq107.trans hs6_f89
                          have hUv99 : (v99 35).toInt + (v99 36).toInt ≤ 40 := hIv99.2
                          have hq0_v99 : v99 0 = (v 0) := hk0_v99.trans hq0_v88
                          have zq0_v99 := congrArg Int32.toInt hq0_v99
                          have hq1_v99 : v99 1 = (v88 1) := hk1_v99
                          have zq1_v99 := congrArg Int32.toInt hq1_v99
                          have hq4_v99 : v99 4 = (v 4) := hk4_v99.trans hq4_v88
                          have zq4_v99 := congrArg Int32.toInt hq4_v99
                          have hq8_v99 : v99 8 = (v 8) := hk8_v99.trans hq8_v88
                          have zq8_v99 := congrArg Int32.toInt hq8_v99
                          have hq9_v99 : v99 9 = (v 9) := hk9_v99.trans hq9_v88
                          have zq9_v99 := congrArg Int32.toInt hq9_v99
                          have hq10_v99 : v99 10 = (v 10) := hk10_v99.trans hq10_v88
                          have zq10_v99 := congrArg Int32.toInt hq10_v99
                          have hq13_v99 : v99 13 = (v 13) := hk13_v99.trans hq13_v88
                          have zq13_v99 := congrArg Int32.toInt hq13_v99
                          have hq14_v99 : v99 14 = (v 14) := hk14_v99.trans hq14_v88
                          have zq14_v99 := congrArg Int32.toInt hq14_v99
                          have hq15_v99 : v99 15 = (v 15) := hk15_v99.trans hq15_v88
                          have zq15_v99 := congrArg Int32.toInt hq15_v99
                          have hq17_v99 : v99 17 = (v 17) := hk17_v99.trans hq17_v88
                          have zq17_v99 := congrArg Int32.toInt hq17_v99
                          have hq18_v99 : v99 18 = (v 18) := hk18_v99.trans hq18_v88
                          have zq18_v99 := congrArg Int32.toInt hq18_v99
                          have hq24_v99 : v99 24 = (v 24) := hk24_v99.trans hq24_v88
                          have hq25_v99 : v99 25 = (v 25) := hk25_v99.trans hq25_v88
                          have hq35_v99 : v99 35 = (v 35) := hk35_v99.trans hq35_v88
                          have zq35_v99 := congrArg Int32.toInt hq35_v99
                          have hq36_v99 : v99 36 = (v 36) := hk36_v99.trans hq36_v88
                          have zq36_v99 := congrArg Int32.toInt hq36_v99
                          have hq38_v99 : v99 38 = (v 38) := hk38_v99.trans hq38_v88
                          have hq39_v99 : v99 39 = (v 39) := hk39_v99.trans hq39_v88
                          have hGR : GR (v 3).toInt (v 5).toInt (v99 3).toInt (v99 5).toInt := GR.tr hGR (show GR (v88 3).toInt (v88 5).toInt (v99 3).toInt (v99 5).toInt from ⟨pv103, pv104⟩) (by first | rfl | assumption | omega) (by first | rfl | assumption | omega)
                          clear pv104
                          exact ret (v99, f100, w101, g102) _ _ _ _ _ _ ⟨hIv99, hCf100, hRf100, (hk0_v99.trans (hk0_v88.trans hk0_v57)), (hk4_v99.trans (hk4_v88.trans hk4_v57)), (hk9_v99.trans (hk9_v88.trans hk9_v57)), (hk24_v99.trans (hk24_v88.trans hk24_v57)), (hk25_v99.trans (hk25_v88.trans hk25_v57)), (hk35_v99.trans (hk35_v88.trans hk35_v57)), (hk36_v99.trans (hk36_v88.trans hk36_v57)), (hk38_v99.trans (hk38_v88.trans hk38_v57)), (hk39_v99.trans (hk39_v88.trans hk39_v57)), (by show GA (v99 1).toInt (v 3).toInt (v99 3).toInt; exact GA.ab hGR (by omega) (by omega)), (by show (v99 1).toInt = 0 → ¬ (v99 15).toInt = 0 → progOK (f100 2) (f100 3) ((v99 8).toInt).toNat; rw [hs2_f100, hs3_f100]; intro hz8 hz9; exact prog_n (hPR (by omega)) (by omega))⟩ hP hD hS dX11_readLine_306 (Nat.le_refl _) (Nat.le_refl _)
                · skip
                  subst g54
                  refine lv_if_eq (tgt := 269) hx hb dX11_readLine_237 (by decide) (fun _ => ?_) (fun c0 => absurd (by decide) c0)
                  exact jp269 _ _ _ hP hD hS hl
              refine lv_aload_n hx hb dX11_readLine_192 rfl (lv_at hl 0 rfl) ?_
              refine lv_ldc2 (v := 1918986606) hx hb hown (hts _ k_1631) dX11_readLine_193 ?_
              refine cbVi (n := 1) (rest := []) hx hb hml hown hts hE hP hD hS hA (sY_X11_isWord_1 l dC dI cy y0 r 1918986606 v f w g hIv hCf hRf ) k_1601 k_1603 k_45 k_114 k_1604 (by decide +kernel) ⟨Nat.le_of_ble_eq_true rfl, Nat.le_of_ble_eq_true rfl⟩ 0 11 rfl rfl (rfl) hl.1 rfl (Nat.le_of_ble_eq_true rfl) dX11_readLine_196 (fun r108 u H locs hw hP hD hS => ?_)
              rcases hw with ⟨g109, g109_0⟩ | ⟨g109⟩
              · skip
                subst g109
                refine lv_if_eq (tgt := 230) hx hb dX11_readLine_199 (by decide) (fun c0 => absurd c0 (by decide)) (fun _ => ?_)
                refine lv_aload_n hx hb dX11_readLine_202 rfl (lv_at hl 0 rfl) ?_
                refine va_get (D := (dC, dI)) (ci := 11) (v := .int (v 33)) (C := RX11) (T := TX11) (N := 79) hx hb hts inB_11 hown hE.1 hP 0 rfl rfl 57 (by decide) (hts _ k_1377) (fun _ h9 => h9) rfl dX11_readLine_203 ?_
                refine lv_if_ne (tgt := 230) hx hb dX11_readLine_206 (by decide) (fun c110 => ?_) (fun c110 => ?_)
                · skip
                  have zc110 : ¬ ((v 33).toInt = 0) := by rw [fa_eq, show (0 : Int32).toInt = 0 from by decide] at c110; exact c110
                  exact jp230 _ _ _ hP hD hS hl
                · skip
                  have zc110 : (v 33).toInt = 0 := by rw [fa_eq, show (0 : Int32).toInt = 0 from by decide] at c110; exact c110
                  refine lv_aload_n hx hb dX11_readLine_209 rfl (lv_at hl 0 rfl) ?_
                  refine lv_iconst (v := 1) hx hb dX11_readLine_210 (by decide) ?_
                  refine va_put (D := (dC, dI)) (ci := 11) (v := .int 1) (ty := tyX11 57) (C := RX11) (T := TX11) (N := 79) hx hb hts inB_11 tyX11 tyX11_ok nmX11 hown hE.1 hP hD hS 0 rfl rfl 57 (by decide) (hts _ k_1377) (fun _ h9 => h9) rfl (tyX11_ok 57 (by decide)) rfl rfl (Nat.le_of_ble_eq_true rfl) dX11_readLine_211 (fun H locs hP hD hS => ?_)
                  have hP : va_P (dC, dI) vwCl (YW cy y0 r (upd v 33 1) f w g) H := hP
                  have hD : va_D A (YW cy y0 r (upd v 33 1) f w g) := hD
                  refine lv_aload_n hx hb dX11_readLine_214 rfl (lv_at hl 0 rfl) ?_
                  refine lv_aload_n hx hb dX11_readLine_215 rfl (lv_at hl 0 rfl) ?_
                  refine lv_ldc2 (v := 1918986606) hx hb hown (hts _ k_1631) dX11_readLine_216 ?_
                  refine lv_bipush (v := 100) hx hb dX11_readLine_219 (by decide) ?_
                  refine cbVi (n := 2) (rest := [.ref y0]) hx hb hml hown hts hE hP hD hS hA (sY_X11_told_1 l dC dI cy y0 r 1918986606 100 (upd v 33 1) f w g ⟨(YIb.upd (j := 33) (x := 1) hIv.1 (rlo _) (rhi _)), hIv.2⟩ hCf hRf ) k_1645 k_1647 k_51 k_114 k_1648 (by decide +kernel) ⟨Nat.le_of_ble_eq_true rfl, Nat.le_of_ble_eq_true rfl⟩ 0 11 rfl rfl (rfl) hl.1 rfl (Nat.le_of_ble_eq_true rfl) dX11_readLine_221 (fun r111 u H locs hw hP hD hS => ?_)
                  obtain ⟨v112, f113, w114, g115⟩ := u
                  obtain ⟨hIv112, hCf113, hRf113, hk0_v112, hk4_v112, hk8_v112, hk9_v112, hk10_v112, hk13_v112, hk14_v112, hk15_v112, hk17_v112, hk18_v112, hk24_v112, hk25_v112, hk35_v112, hk36_v112, hk38_v112, hk39_v112, pv116, pv117, kq118, kq119, kq120⟩ := hw
                  have hP : va_P (dC, dI) vwCl (YW cy y0 r v112 f113 w114 g115) H := hP
                  have hD : va_D A (YW cy y0 r v112 f113 w114 g115) := hD
                  have b3_v112 : 0 ≤ (v112 3).toInt ∧ (v112 3).toInt ≤ 1600 := YIb.b hIv112.1 3 (by decide)
                  have pv116 : (v 3).toInt ≤ (v112 3).toInt := pv116
                  have pv117 : (v112 5).toInt = (v 5).toInt ∨ (v 3).toInt < (v112 3).toInt ∨ ¬ (v112 5).toInt = 59 := pv117
                  have hs2_f113 : f113 2 = (f 2) := kq118
                  have hs3_f113 : f113 3 = (f 3) := kq119
                  have hs6_f113 : f113 6 = (f 6) := kq120
                  have hUv112 : (v112 35).toInt + (v112 36).toInt ≤ 40 := hIv112.2
                  have hq0_v112 : v112 0 = (v 0) := hk0_v112
                  have zq0_v112 := congrArg Int32.toInt hq0_v112
                  have hq4_v112 : v112 4 = (v 4) := hk4_v112
                  have zq4_v112 := congrArg Int32.toInt hq4_v112
                  have hq8_v112 : v112 8 = (v 8) := hk8_v112
                  have zq8_v112 := congrArg Int32.toInt hq8_v112
                  have hq9_v112 : v112 9 = (v 9) := hk9_v112
                  have zq9_v112 := congrArg Int32.toInt hq9_v112
                  have hq10_v112 : v112 10 = (v 10) := hk10_v112
                  have zq10_v112 := congrArg Int32.toInt hq10_v112
                  have hq13_v112 : v112 13 = (v 13) := hk13_v112
                  have zq13_v112 := congrArg Int32.toInt hq13_v112
                  have hq14_v112 : v112 14 = (v 14) := hk14_v112
                  have zq14_v112 := congrArg Int32.toInt hq14_v112
                  have hq15_v112 : v112 15 = (v 15) := hk15_v112
                  have zq15_v112 := congrArg Int32.toInt hq15_v112
                  have hq17_v112 : v112 17 = (v 17) := hk17_v112
                  have zq17_v112 := congrArg Int32.toInt hq17_v112
                  have hq18_v112 : v112 18 = (v 18) := hk18_v112
                  have zq18_v112 := congrArg Int32.toInt hq18_v112
                  have hq24_v112 : v112 24 = (v 24) := hk24_v112
                  have hq25_v112 : v112 25 = (v 25) := hk25_v112
                  have hq35_v112 : v112 35 = (v 35) := hk35_v112
                  have zq35_v112 := congrArg Int32.toInt hq35_v112
                  have hq36_v112 : v112 36 = (v 36) := hk36_v112
                  have zq36_v112 := congrArg Int32.toInt hq36_v112
                  have hq38_v112 : v112 38 = (v 38) := hk38_v112
                  have hq39_v112 : v112 39 = (v 39) := hk39_v112
                  have hGR : GR (v 3).toInt (v 5).toInt (v112 3).toInt (v112 5).toInt := GR.tr hGR (show GR (v 3).toInt (v 5).toInt (v112 3).toInt (v112 5).toInt from ⟨pv116, pv117⟩) (by first | rfl | assumption | omega) (by first | rfl | assumption | omega)
                  clear pv117
                  refine va_put (D := (dC, dI)) (ci := 11) (v := .int r111) (ty := tyX11 46) (C := RX11) (T := TX11) (N := 79) hx hb hts inB_11 tyX11 tyX11_ok nmX11 hown hE.1 hP hD hS 0 rfl rfl 46 (by decide) (hts _ k_1366) (fun _ h9 => h9) rfl (tyX11_ok 46 (by decide)) rfl rfl (Nat.le_of_ble_eq_true rfl) dX11_readLine_224 (fun H locs hP hD hS => ?_)
                  have hP : va_P (dC, dI) vwCl (YW cy y0 r (upd v112 22 r111) f113 w114 g115) H := hP
                  have hD : va_D A (YW cy y0 r (upd v112 22 r111) f113 w114 g115) := hD
                  refine lv_goto (tgt := 274) hx hb dX11_readLine_227 (by decide) ?_
                  refine lv_aload_n hx hb dX11_readLine_274 rfl (lv_at hl 0 rfl) ?_
                  refine va_get (D := (dC, dI)) (ci := 11) (v := .int (v112 1)) (C := RX11) (T := TX11) (N := 79) hx hb hts inB_11 hown hE.1 hP 0 rfl rfl 2 (by decide) (hts _ k_1322) (fun _ h9 => h9) rfl dX11_readLine_275 ?_
                  have b1_v112 : 0 ≤ (v112 1).toInt ∧ (v112 1).toInt ≤ 4 := YIb.b hIv112.1 1 (by decide)
                  refine lv_if_ne (tgt := 295) hx hb dX11_readLine_278 (by decide) (fun c121 => ?_) (fun c121 => ?_)
                  · skip
                    have zc121 : ¬ ((v112 1).toInt = 0) := by rw [fa_eq, show (0 : Int32).toInt = 0 from by decide] at c121; exact c121
                    refine lv_aload_n hx hb dX11_readLine_295 rfl (lv_at hl 0 rfl) ?_
                    refine va_get (D := (dC, dI)) (ci := 11) (v := .int (v112 1)) (C := RX11) (T := TX11) (N := 79) hx hb hts inB_11 hown hE.1 hP 0 rfl rfl 2 (by decide) (hts _ k_1322) (fun _ h9 => h9) rfl dX11_readLine_296 ?_
                    refine lv_if_ne (tgt := 306) hx hb dX11_readLine_299 (by decide) (fun c122 => ?_) (fun c122 => ?_)
                    · skip
                      have zc122 : ¬ ((v112 1).toInt = 0) := by rw [fa_eq, show (0 : Int32).toInt = 0 from by decide] at c122; exact c122
                      exact ret ((upd v112 22 r111), f113, w114, g115) _ _ _ _ _ _ ⟨⟨(YIb.upd (j := 22) (x := r111) hIv112.1 (rlo _) (rhi _)), hIv112.2⟩, hCf113, hRf113, hk0_v112, hk4_v112, hk9_v112, hk24_v112, hk25_v112, hk35_v112, hk36_v112, hk38_v112, hk39_v112, (by show GA (v112 1).toInt (v 3).toInt (v112 3).toInt; exact GA.ab hGR (by omega) (by omega)), (by show (v112 1).toInt = 0 → ¬ (v112 15).toInt = 0 → progOK (f113 2) (f113 3) ((v112 8).toInt).toNat; rw [hs2_f113, hs3_f113]; intro hz8 hz9; exact prog_n (hPR (by omega)) (by omega))⟩ hP hD hS dX11_readLine_306 (Nat.le_refl _) (Nat.le_refl _)
                    · skip
                      have zc122 : (v112 1).toInt = 0 := by rw [fa_eq, show (0 : Int32).toInt = 0 from by decide] at c122; exact c122
                      have hgrew := GR.grew hGR (by omega) (by omega)
                      refine lv_aload_n hx hb dX11_readLine_302 rfl (lv_at hl 0 rfl) ?_
                      refine cbVv (n := 0) (rest := []) hx hb hml hown hts hE hP hD hS hA (sY_X11_token_1 l dC dI cy y0 r  (upd v112 22 r111) f113 w114 g115 ⟨(YIb.upd (j := 22) (x := r111) hIv112.1 (rlo _) (rhi _)), hIv112.2⟩ hCf113 hRf113 ) k_1579 k_1581 k_42 k_114 k_1582 (by decide +kernel) ⟨Nat.le_of_ble_eq_true rfl, Nat.le_of_ble_eq_true rfl⟩ 0 11 rfl rfl (rfl) hl.1 rfl (Nat.le_of_ble_eq_true rfl) dX11_readLine_303 (fun u H locs hw hP hD hS => ?_)
                      obtain ⟨v123, f124, w125, g126⟩ := u
                      obtain ⟨hIv123, hCf124, hRf124, hk0_v123, hk1_v123, hk4_v123, hk8_v123, hk9_v123, hk10_v123, hk13_v123, hk14_v123, hk15_v123, hk17_v123, hk18_v123, hk24_v123, hk25_v123, hk35_v123, hk36_v123, hk38_v123, hk39_v123, pv127, pv128, kq129, kq130, kq131⟩ := hw
                      have hP : va_P (dC, dI) vwCl (YW cy y0 r v123 f124 w125 g126) H := hP
                      have hD : va_D A (YW cy y0 r v123 f124 w125 g126) := hD
                      have b3_v123 : 0 ≤ (v123 3).toInt ∧ (v123 3).toInt ≤ 1600 := YIb.b hIv123.1 3 (by decide)
                      have pv127 : (v112 3).toInt ≤ (v123 3).toInt := pv127
                      have pv128 : (v123 5).toInt = (v112 5).toInt ∨ (v112 3).toInt < (v123 3).toInt ∨ ¬ (v123 5).toInt = 59 := pv128
                      have hs2_f124 : f124 2 = (f 2) := kq129.trans hs2_f113
                      have hs3_f124 : f124 3 = (f 3) := kq130.trans hs3_f113
                      have hs6_f124 : f124 6 = (f 6) := kq131.trans hs6_f113
                      have hUv123 : (v123 35).toInt + (v123 36).toInt ≤ 40 := hIv123.2
                      have hq0_v123 : v123 0 = (v 0) := hk0_v123.trans hq0_v112
                      have zq0_v123 := congrArg Int32.toInt hq0_v123
                      have hq1_v123 : v123 1 = (v112 1) := hk1_v123
                      have zq1_v123 := congrArg Int32.toInt hq1_v123
                      have hq4_v123 : v123 4 = (v 4) := hk4_v123.trans hq4_v112
                      have zq4_v123 := congrArg Int32.toInt hq4_v123
                      have hq8_v123 : v123 8 = (v 8) := hk8_v123.trans hq8_v112
                      have zq8_v123 := congrArg Int32.toInt hq8_v123
                      have hq9_v123 : v123 9 = (v 9) := hk9_v123.trans hq9_v112
                      have zq9_v123 := congrArg Int32.toInt hq9_v123
                      have hq10_v123 : v123 10 = (v 10) := hk10_v123.trans hq10_v112
                      have zq10_v123 := congrArg Int32.toInt hq10_v123
                      have hq13_v123 : v123 13 = (v 13) := hk13_v123.trans hq13_v112
                      have zq13_v123 := congrArg Int32.toInt hq13_v123
                      have hq14_v123 : v123 14 = (v 14) := hk14_v123.trans hq14_v112
                      have zq14_v123 := congrArg Int32.toInt hq14_v123
                      have hq15_v123 : v123 15 = (v 15) := hk15_v123.trans hq15_v112
                      have zq15_v123 := congrArg Int32.toInt hq15_v123
                      have hq17_v123 : v123 17 = (v 17) := hk17_v123.trans hq17_v112
                      have zq17_v123 := congrArg Int32.toInt hq17_v123
                      have hq18_v123 : v123 18 = (v 18) := hk18_v123.trans hq18_v112
                      have zq18_v123 := congrArg Int32.toInt hq18_v123
                      have hq24_v123 : v123 24 = (v 24) := hk24_v123.trans hq24_v112
                      have hq25_v123 : v123 25 = (v 25) := hk25_v123.trans hq25_v112
                      have hq35_v123 : v123 35 = (v 35) := hk35_v123.trans hq35_v112
                      have zq35_v123 := congrArg Int32.toInt hq35_v123
                      have hq36_v123 : v123 36 = (v 36) := hk36_v123.trans hq36_v112
                      have zq36_v123 := congrArg Int32.toInt hq36_v123
                      have hq38_v123 : v123 38 = (v 38) := hk38_v123.trans hq38_v112
                      have hq39_v123 : v123 39 = (v 39) := hk39_v123.trans hq39_v112
                      have hGR : GR (v 3).toInt (v 5).toInt (v123 3).toInt (v123 5).toInt := GR.tr hGR (show GR (v112 3).toInt (v112 5).toInt (v123 3).toInt (v123 5).toInt from ⟨pv127, pv128⟩) (by first | rfl | assumption | omega) (by first | rfl | assumption | omega)
                      clear pv128
                      exact ret (v123, f124, w125, g126) _ _ _ _ _ _ ⟨hIv123, hCf124, hRf124, (hk0_v123.trans hk0_v112), (hk4_v123.trans hk4_v112), (hk9_v123.trans hk9_v112), (hk24_v123.trans hk24_v112), (hk25_v123.trans hk25_v112), (hk35_v123.trans hk35_v112), (hk36_v123.trans hk36_v112), (hk38_v123.trans hk38_v112), (hk39_v123.trans hk39_v112), (by show GA (v123 1).toInt (v 3).toInt (v123 3).toInt; exact GA.mk hgrew hGR (by omega)), (by show (v123 1).toInt = 0 → ¬ (v123 15).toInt = 0 → progOK (f124 2) (f124 3) ((v123 8).toInt).toNat; rw [hs2_f124, hs3_f124]; intro hz8 hz9; exact prog_n (hPR (by omega)) (by omega))⟩ hP hD hS dX11_readLine_306 (Nat.le_refl _) (Nat.le_refl _)
                  · skip
                    have zc121 : (v112 1).toInt = 0 := by rw [fa_eq, show (0 : Int32).toInt = 0 from by decide] at c121; exact c121
                    refine lv_aload_n hx hb dX11_readLine_281 rfl (lv_at hl 0 rfl) ?_
                    refine va_get (D := (dC, dI)) (ci := 11) (v := .int (v112 5)) (C := RX11) (T := TX11) (N := 79) hx hb hts inB_11 hown hE.1 hP 0 rfl rfl 6 (by decide) (hts _ k_1326) (fun _ h9 => h9) rfl dX11_readLine_282 ?_
                    refine lv_bipush (v := 59) hx hb dX11_readLine_285 (by decide) ?_
                    refine lv_icmp_eq (tgt := 295) hx hb dX11_readLine_287 (by decide) (fun c132 => ?_) (fun c132 => ?_)
                    · skip
                      have zc132 : (v112 5).toInt = 59 := by rw [fa_eq, show (59 : Int32).toInt = 59 from by decide] at c132; exact c132
                      refine lv_aload_n hx hb dX11_readLine_295 rfl (lv_at hl 0 rfl) ?_
                      refine va_get (D := (dC, dI)) (ci := 11) (v := .int (v112 1)) (C := RX11) (T := TX11) (N := 79) hx hb hts inB_11 hown hE.1 hP 0 rfl rfl 2 (by decide) (hts _ k_1322) (fun _ h9 => h9) rfl dX11_readLine_296 ?_
                      refine lv_if_ne (tgt := 306) hx hb dX11_readLine_299 (by decide) (fun c133 => ?_) (fun c133 => ?_)
                      · skip
                        have zc133 : ¬ ((v112 1).toInt = 0) := by rw [fa_eq, show (0 : Int32).toInt = 0 from by decide] at c133; exact c133
                        exact ret ((upd v112 22 r111), f113, w114, g115) _ _ _ _ _ _ ⟨⟨(YIb.upd (j := 22) (x := r111) hIv112.1 (rlo _) (rhi _)), hIv112.2⟩, hCf113, hRf113, hk0_v112, hk4_v112, hk9_v112, hk24_v112, hk25_v112, hk35_v112, hk36_v112, hk38_v112, hk39_v112, (by show GA (v112 1).toInt (v 3).toInt (v112 3).toInt; exact GA.ab hGR (by omega) (by omega)), (by show (v112 1).toInt = 0 → ¬ (v112 15).toInt = 0 → progOK (f113 2) (f113 3) ((v112 8).toInt).toNat; rw [hs2_f113, hs3_f113]; intro hz8 hz9; exact prog_n (hPR (by omega)) (by omega))⟩ hP hD hS dX11_readLine_306 (Nat.le_refl _) (Nat.le_refl _)
                      · skip
                        have zc133 : (v112 1).toInt = 0 := by rw [fa_eq, show (0 : Int32).toInt = 0 from by decide] at c133; exact c133
                        have hgrew := GR.grew hGR (by omega) (by omega)
                        refine lv_aload_n hx hb dX11_readLine_302 rfl (lv_at hl 0 rfl) ?_
                        refine cbVv (n := 0) (rest := []) hx hb hml hown hts hE hP hD hS hA (sY_X11_token_1 l dC dI cy y0 r  (upd v112 22 r111) f113 w114 g115 ⟨(YIb.upd (j := 22) (x := r111) hIv112.1 (rlo _) (rhi _)), hIv112.2⟩ hCf113 hRf113 ) k_1579 k_1581 k_42 k_114 k_1582 (by decide +kernel) ⟨Nat.le_of_ble_eq_true rfl, Nat.le_of_ble_eq_true rfl⟩ 0 11 rfl rfl (rfl) hl.1 rfl (Nat.le_of_ble_eq_true rfl) dX11_readLine_303 (fun u H locs hw hP hD hS => ?_)
                        obtain ⟨v134, f135, w136, g137⟩ := u
                        obtain ⟨hIv134, hCf135, hRf135, hk0_v134, hk1_v134, hk4_v134, hk8_v134, hk9_v134, hk10_v134, hk13_v134, hk14_v134, hk15_v134, hk17_v134, hk18_v134, hk24_v134, hk25_v134, hk35_v134, hk36_v134, hk38_v134, hk39_v134, pv138, pv139, kq140, kq141, kq142⟩ := hw
                        have hP : va_P (dC, dI) vwCl (YW cy y0 r v134 f135 w136 g137) H := hP
                        have hD : va_D A (YW cy y0 r v134 f135 w136 g137) := hD
                        have b3_v134 : 0 ≤ (v134 3).toInt ∧ (v134 3).toInt ≤ 1600 := YIb.b hIv134.1 3 (by decide)
                        have pv138 : (v112 3).toInt ≤ (v134 3).toInt := pv138
                        have pv139 : (v134 5).toInt = (v112 5).toInt ∨ (v112 3).toInt < (v134 3).toInt ∨ ¬ (v134 5).toInt = 59 := pv139
                        have hs2_f135 : f135 2 = (f 2) := kq140.trans hs2_f113
                        have hs3_f135 : f135 3 = (f 3) := kq141.trans hs3_f113
                        have hs6_f135 : f135 6 = (f 6) := kq142.trans hs6_f113
                        have hUv134 : (v134 35).toInt + (v134 36).toInt ≤ 40 := hIv134.2
                        have hq0_v134 : v134 0 = (v 0) := hk0_v134.trans hq0_v112
                        have zq0_v134 := congrArg Int32.toInt hq0_v134
                        have hq1_v134 : v134 1 = (v112 1) := hk1_v134
                        have zq1_v134 := congrArg Int32.toInt hq1_v134
                        have hq4_v134 : v134 4 = (v 4) := hk4_v134.trans hq4_v112
                        have zq4_v134 := congrArg Int32.toInt hq4_v134
                        have hq8_v134 : v134 8 = (v 8) := hk8_v134.trans hq8_v112
                        have zq8_v134 := congrArg Int32.toInt hq8_v134
                        have hq9_v134 : v134 9 = (v 9) := hk9_v134.trans hq9_v112
                        have zq9_v134 := congrArg Int32.toInt hq9_v134
                        have hq10_v134 : v134 10 = (v 10) := hk10_v134.trans hq10_v112
                        have zq10_v134 := congrArg Int32.toInt hq10_v134
                        have hq13_v134 : v134 13 = (v 13) := hk13_v134.trans hq13_v112
                        have zq13_v134 := congrArg Int32.toInt hq13_v134
                        have hq14_v134 : v134 14 = (v 14) := hk14_v134.trans hq14_v112
                        have zq14_v134 := congrArg Int32.toInt hq14_v134
                        have hq15_v134 : v134 15 = (v 15) := hk15_v134.trans hq15_v112
                        have zq15_v134 := congrArg Int32.toInt hq15_v134
                        have hq17_v134 : v134 17 = (v 17) := hk17_v134.trans hq17_v112
                        have zq17_v134 := congrArg Int32.toInt hq17_v134
                        have hq18_v134 : v134 18 = (v 18) := hk18_v134.trans hq18_v112
                        have zq18_v134 := congrArg Int32.toInt hq18_v134
                        have hq24_v134 : v134 24 = (v 24) := hk24_v134.trans hq24_v112
                        have hq25_v134 : v134 25 = (v 25) := hk25_v134.trans hq25_v112
                        have hq35_v134 : v134 35 = (v 35) := hk35_v134.trans hq35_v112
                        have zq35_v134 := congrArg Int32.toInt hq35_v134
                        have hq36_v134 : v134 36 = (v 36) := hk36_v134.trans hq36_v112
                        have zq36_v134 := congrArg Int32.toInt hq36_v134
                        have hq38_v134 : v134 38 = (v 38) := hk38_v134.trans hq38_v112
                        have hq39_v134 : v134 39 = (v 39) := hk39_v134.trans hq39_v112
                        have hGR : GR (v 3).toInt (v 5).toInt (v134 3).toInt (v134 5).toInt := GR.tr hGR (show GR (v112 3).toInt (v112 5).toInt (v134 3).toInt (v134 5).toInt from ⟨pv138, pv139⟩) (by first | rfl | assumption | omega) (by first | rfl | assumption | omega)
                        clear pv139
                        exact ret (v134, f135, w136, g137) _ _ _ _ _ _ ⟨hIv134, hCf135, hRf135, (hk0_v134.trans hk0_v112), (hk4_v134.trans hk4_v112), (hk9_v134.trans hk9_v112), (hk24_v134.trans hk24_v112), (hk25_v134.trans hk25_v112), (hk35_v134.trans hk35_v112), (hk36_v134.trans hk36_v112), (hk38_v134.trans hk38_v112), (hk39_v134.trans hk39_v112), (by show GA (v134 1).toInt (v 3).toInt (v134 3).toInt; exact GA.mk hgrew hGR (by omega)), (by show (v134 1).toInt = 0 → ¬ (v134 15).toInt = 0 → progOK (f135 2) (f135 3) ((v134 8).toInt).toNat; rw [hs2_f135, hs3_f135]; intro hz8 hz9; exact prog_n (hPR (by omega)) (by omega))⟩ hP hD hS dX11_readLine_306 (Nat.le_refl _) (Nat.le_refl _)
                    · skip
                      have zc132 : ¬ ((v112 5).toInt = 59) := by rw [fa_eq, show (59 : Int32).toInt = 59 from by decide] at c132; exact c132
                      refine lv_aload_n hx hb dX11_readLine_290 rfl (lv_at hl 0 rfl) ?_
                      refine lv_iconst (v := 2) hx hb dX11_readLine_291 (by decide) ?_
                      refine cbVv (n := 1) (rest := []) hx hb hml hown hts hE hP hD hS hA (sY_X11_wrong_1 l dC dI cy y0 r 2 (upd v112 22 r111) f113 w114 g115 ⟨(YIb.upd (j := 22) (x := r111) hIv112.1 (rlo _) (rhi _)), hIv112.2⟩ hCf113 hRf113 ⟨by decide, by decide⟩) k_1641 k_1643 k_50 k_114 k_1644 (by decide +kernel) ⟨Nat.le_of_ble_eq_true rfl, Nat.le_of_ble_eq_true rfl⟩ 0 11 rfl rfl (rfl) hl.1 rfl (Nat.le_of_ble_eq_true rfl) dX11_readLine_292 (fun u H locs hw hP hD hS => ?_)
                      obtain ⟨v143, f144, w145, g146⟩ := u
                      obtain ⟨hIv143, hCf144, hRf144, hk0_v143, hk3_v143, hk4_v143, hk5_v143, hk8_v143, hk9_v143, hk10_v143, hk13_v143, hk14_v143, hk15_v143, hk17_v143, hk18_v143, hk24_v143, hk25_v143, hk35_v143, hk36_v143, hk38_v143, hk39_v143, pv147, pv148, pv149, kq150, kq151, kq152⟩ := hw
                      have hP : va_P (dC, dI) vwCl (YW cy y0 r v143 f144 w145 g146) H := hP
                      have hD : va_D A (YW cy y0 r v143 f144 w145 g146) := hD
                      have b3_v143 : 0 ≤ (v143 3).toInt ∧ (v143 3).toInt ≤ 1600 := YIb.b hIv143.1 3 (by decide)
                      have b1_v143 : 0 ≤ (v143 1).toInt ∧ (v143 1).toInt ≤ 4 := YIb.b hIv143.1 1 (by decide)
                      have pv147 : (v112 3).toInt ≤ (v143 3).toInt := pv147
                      have pv148 : (v143 5).toInt = (v112 5).toInt ∨ (v112 3).toInt < (v143 3).toInt ∨ ¬ (v143 5).toInt = 59 := pv148
                      have pv149 : 0 < (v143 1).toInt := pv149
                      have hs2_f144 : f144 2 = (f 2) := kq150.trans hs2_f113
                      have hs3_f144 : f144 3 = (f 3) := kq151.trans hs3_f113
                      have hs6_f144 : f144 6 = (f 6) := kq152.trans hs6_f113
                      have hUv143 : (v143 35).toInt + (v143 36).toInt ≤ 40 := hIv143.2
                      have hq0_v143 : v143 0 = (v 0) := hk0_v143.trans hq0_v112
                      have zq0_v143 := congrArg Int32.toInt hq0_v143
                      have hq3_v143 : v143 3 = (v112 3) := hk3_v143
                      have zq3_v143 := congrArg Int32.toInt hq3_v143
                      have hq4_v143 : v143 4 = (v 4) := hk4_v143.trans hq4_v112
                      have zq4_v143 := congrArg Int32.toInt hq4_v143
                      have hq5_v143 : v143 5 = (v112 5) := hk5_v143
                      have zq5_v143 := congrArg Int32.toInt hq5_v143
                      have hq8_v143 : v143 8 = (v 8) := hk8_v143.trans hq8_v112
                      have zq8_v143 := congrArg Int32.toInt hq8_v143
                      have hq9_v143 : v143 9 = (v 9) := hk9_v143.trans hq9_v112
                      have zq9_v143 := congrArg Int32.toInt hq9_v143
                      have hq10_v143 : v143 10 = (v 10) := hk10_v143.trans hq10_v112
                      have zq10_v143 := congrArg Int32.toInt hq10_v143
                      have hq13_v143 : v143 13 = (v 13) := hk13_v143.trans hq13_v112
                      have zq13_v143 := congrArg Int32.toInt hq13_v143
                      have hq14_v143 : v143 14 = (v 14) := hk14_v143.trans hq14_v112
                      have zq14_v143 := congrArg Int32.toInt hq14_v143
                      have hq15_v143 : v143 15 = (v 15) := hk15_v143.trans hq15_v112
                      have zq15_v143 := congrArg Int32.toInt hq15_v143
                      have hq17_v143 : v143 17 = (v 17) := hk17_v143.trans hq17_v112
                      have zq17_v143 := congrArg Int32.toInt hq17_v143
                      have hq18_v143 : v143 18 = (v 18) := hk18_v143.trans hq18_v112
                      have zq18_v143 := congrArg Int32.toInt hq18_v143
                      have hq24_v143 : v143 24 = (v 24) := hk24_v143.trans hq24_v112
                      have hq25_v143 : v143 25 = (v 25) := hk25_v143.trans hq25_v112
                      have hq35_v143 : v143 35 = (v 35) := hk35_v143.trans hq35_v112
                      have zq35_v143 := congrArg Int32.toInt hq35_v143
                      have hq36_v143 : v143 36 = (v 36) := hk36_v143.trans hq36_v112
                      have zq36_v143 := congrArg Int32.toInt hq36_v143
                      have hq38_v143 : v143 38 = (v 38) := hk38_v143.trans hq38_v112
                      have hq39_v143 : v143 39 = (v 39) := hk39_v143.trans hq39_v112
                      have hGR : GR (v 3).toInt (v 5).toInt (v143 3).toInt (v143 5).toInt := GR.tr hGR (show GR (v112 3).toInt (v112 5).toInt (v143 3).toInt (v143 5).toInt from ⟨pv147, pv148⟩) (by first | rfl | assumption | omega) (by first | rfl | assumption | omega)
                      clear pv148
                      refine lv_aload_n hx hb dX11_readLine_295 rfl (lv_at hl 0 rfl) ?_
                      refine va_get (D := (dC, dI)) (ci := 11) (v := .int (v143 1)) (C := RX11) (T := TX11) (N := 79) hx hb hts inB_11 hown hE.1 hP 0 rfl rfl 2 (by decide) (hts _ k_1322) (fun _ h9 => h9) rfl dX11_readLine_296 ?_
                      have b1_v143 : 0 ≤ (v143 1).toInt ∧ (v143 1).toInt ≤ 4 := YIb.b hIv143.1 1 (by decide)
                      refine lv_if_ne (tgt := 306) hx hb dX11_readLine_299 (by decide) (fun c153 => ?_) (fun c153 => ?_)
                      · skip
                        have zc153 : ¬ ((v143 1).toInt = 0) := by rw [fa_eq, show (0 : Int32).toInt = 0 from by decide] at c153; exact c153
                        exact ret (v143, f144, w145, g146) _ _ _ _ _ _ ⟨hIv143, hCf144, hRf144, (hk0_v143.trans hk0_v112), (hk4_v143.trans hk4_v112), (hk9_v143.trans hk9_v112), (hk24_v143.trans hk24_v112), (hk25_v143.trans hk25_v112), (hk35_v143.trans hk35_v112), (hk36_v143.trans hk36_v112), (hk38_v143.trans hk38_v112), (hk39_v143.trans hk39_v112), (by show GA (v143 1).toInt (v 3).toInt (v143 3).toInt; exact GA.ab hGR (by omega) (by omega)), (by show (v143 1).toInt = 0 → ¬ (v143 15).toInt = 0 → progOK (f144 2) (f144 3) ((v143 8).toInt).toNat; rw [hs2_f144, hs3_f144]; intro hz8 hz9; exact prog_n (hPR (by omega)) (by omega))⟩ hP hD hS dX11_readLine_306 (Nat.le_refl _) (Nat.le_refl _)
                      · skip
                        have zc153 : (v143 1).toInt = 0 := by rw [fa_eq, show (0 : Int32).toInt = 0 from by decide] at c153; exact c153
                        refine lv_aload_n hx hb dX11_readLine_302 rfl (lv_at hl 0 rfl) ?_
                        refine cbVv (n := 0) (rest := []) hx hb hml hown hts hE hP hD hS hA (sY_X11_token_1 l dC dI cy y0 r  v143 f144 w145 g146 hIv143 hCf144 hRf144 ) k_1579 k_1581 k_42 k_114 k_1582 (by decide +kernel) ⟨Nat.le_of_ble_eq_true rfl, Nat.le_of_ble_eq_true rfl⟩ 0 11 rfl rfl (rfl) hl.1 rfl (Nat.le_of_ble_eq_true rfl) dX11_readLine_303 (fun u H locs hw hP hD hS => ?_)
                        obtain ⟨v154, f155, w156, g157⟩ := u
                        obtain ⟨hIv154, hCf155, hRf155, hk0_v154, hk1_v154, hk4_v154, hk8_v154, hk9_v154, hk10_v154, hk13_v154, hk14_v154, hk15_v154, hk17_v154, hk18_v154, hk24_v154, hk25_v154, hk35_v154, hk36_v154, hk38_v154, hk39_v154, pv158, pv159, kq160, kq161, kq162⟩ := hw
                        have hP : va_P (dC, dI) vwCl (YW cy y0 r v154 f155 w156 g157) H := hP
                        have hD : va_D A (YW cy y0 r v154 f155 w156 g157) := hD
                        have b3_v154 : 0 ≤ (v154 3).toInt ∧ (v154 3).toInt ≤ 1600 := YIb.b hIv154.1 3 (by decide)
                        have pv158 : (v143 3).toInt ≤ (v154 3).toInt := pv158
                        have pv159 : (v154 5).toInt = (v143 5).toInt ∨ (v143 3).toInt < (v154 3).toInt ∨ ¬ (v154 5).toInt = 59 := pv159
                        have hs2_f155 : f155 2 = (f 2) := kq160.trans hs2_f144
                        have hs3_f155 : f155 3 = (f 3) := kq161.trans hs3_f144
                        have hs6_f155 : f155 6 = (f 6) := kq162.trans hs6_f144
                        have hUv154 : (v154 35).toInt + (v154 36).toInt ≤ 40 := hIv154.2
                        have hq0_v154 : v154 0 = (v 0) := hk0_v154.trans hq0_v143
                        have zq0_v154 := congrArg Int32.toInt hq0_v154
                        have hq1_v154 : v154 1 = (v143 1) := hk1_v154
                        have zq1_v154 := congrArg Int32.toInt hq1_v154
                        have hq4_v154 : v154 4 = (v 4) := hk4_v154.trans hq4_v143
                        have zq4_v154 := congrArg Int32.toInt hq4_v154
                        have hq8_v154 : v154 8 = (v 8) := hk8_v154.trans hq8_v143
                        have zq8_v154 := congrArg Int32.toInt hq8_v154
                        have hq9_v154 : v154 9 = (v 9) := hk9_v154.trans hq9_v143
                        have zq9_v154 := congrArg Int32.toInt hq9_v154
                        have hq10_v154 : v154 10 = (v 10) := hk10_v154.trans hq10_v143
                        have zq10_v154 := congrArg Int32.toInt hq10_v154
                        have hq13_v154 : v154 13 = (v 13) := hk13_v154.trans hq13_v143
                        have zq13_v154 := congrArg Int32.toInt hq13_v154
                        have hq14_v154 : v154 14 = (v 14) := hk14_v154.trans hq14_v143
                        have zq14_v154 := congrArg Int32.toInt hq14_v154
                        have hq15_v154 : v154 15 = (v 15) := hk15_v154.trans hq15_v143
                        have zq15_v154 := congrArg Int32.toInt hq15_v154
                        have hq17_v154 : v154 17 = (v 17) := hk17_v154.trans hq17_v143
                        have zq17_v154 := congrArg Int32.toInt hq17_v154
                        have hq18_v154 : v154 18 = (v 18) := hk18_v154.trans hq18_v143
                        have zq18_v154 := congrArg Int32.toInt hq18_v154
                        have hq24_v154 : v154 24 = (v 24) := hk24_v154.trans hq24_v143
                        have hq25_v154 : v154 25 = (v 25) := hk25_v154.trans hq25_v143
                        have hq35_v154 : v154 35 = (v 35) := hk35_v154.trans hq35_v143
                        have zq35_v154 := congrArg Int32.toInt hq35_v154
                        have hq36_v154 : v154 36 = (v 36) := hk36_v154.trans hq36_v143
                        have zq36_v154 := congrArg Int32.toInt hq36_v154
                        have hq38_v154 : v154 38 = (v 38) := hk38_v154.trans hq38_v143
                        have hq39_v154 : v154 39 = (v 39) := hk39_v154.trans hq39_v143
                        have hGR : GR (v 3).toInt (v 5).toInt (v154 3).toInt (v154 5).toInt := GR.tr hGR (show GR (v143 3).toInt (v143 5).toInt (v154 3).toInt (v154 5).toInt from ⟨pv158, pv159⟩) (by first | rfl | assumption | omega) (by first | rfl | assumption | omega)
                        clear pv159
                        exact ret (v154, f155, w156, g157) _ _ _ _ _ _ ⟨hIv154, hCf155, hRf155, (hk0_v154.trans (hk0_v143.trans hk0_v112)), (hk4_v154.trans (hk4_v143.trans hk4_v112)), (hk9_v154.trans (hk9_v143.trans hk9_v112)), (hk24_v154.trans (hk24_v143.trans hk24_v112)), (hk25_v154.trans (hk25_v143.trans hk25_v112)), (hk35_v154.trans (hk35_v143.trans hk35_v112)), (hk36_v154.trans (hk36_v143.trans hk36_v112)), (hk38_v154.trans (hk38_v143.trans hk38_v112)), (hk39_v154.trans (hk39_v143.trans hk39_v112)), (by show GA (v154 1).toInt (v 3).toInt (v154 3).toInt; exact GA.ab hGR (by omega) (by omega)), (by show (v154 1).toInt = 0 → ¬ (v154 15).toInt = 0 → progOK (f155 2) (f155 3) ((v154 8).toInt).toNat; rw [hs2_f155, hs3_f155]; intro hz8 hz9; exact prog_n (hPR (by omega)) (by omega))⟩ hP hD hS dX11_readLine_306 (Nat.le_refl _) (Nat.le_refl _)
              · skip
                subst g109
                refine lv_if_eq (tgt := 230) hx hb dX11_readLine_199 (by decide) (fun _ => ?_) (fun c0 => absurd (by decide) c0)
                exact jp230 _ _ _ hP hD hS hl
            refine lv_aload_n hx hb dX11_readLine_154 rfl (lv_at hl 0 rfl) ?_
            refine lv_ldc2 (v := 1818848101) hx hb hown (hts _ k_1630) dX11_readLine_155 ?_
            refine cbVi (n := 1) (rest := []) hx hb hml hown hts hE hP hD hS hA (sY_X11_isWord_1 l dC dI cy y0 r 1818848101 v f w g hIv hCf hRf ) k_1601 k_1603 k_45 k_114 k_1604 (by decide +kernel) ⟨Nat.le_of_ble_eq_true rfl, Nat.le_of_ble_eq_true rfl⟩ 0 11 rfl rfl (rfl) hl.1 rfl (Nat.le_of_ble_eq_true rfl) dX11_readLine_158 (fun r163 u H locs hw hP hD hS => ?_)
            rcases hw with ⟨g164, g164_0⟩ | ⟨g164⟩
            · skip
              subst g164
              refine lv_if_eq (tgt := 192) hx hb dX11_readLine_161 (by decide) (fun c0 => absurd c0 (by decide)) (fun _ => ?_)
              refine lv_aload_n hx hb dX11_readLine_164 rfl (lv_at hl 0 rfl) ?_
              refine va_get (D := (dC, dI)) (ci := 11) (v := .int (v 32)) (C := RX11) (T := TX11) (N := 79) hx hb hts inB_11 hown hE.1 hP 0 rfl rfl 56 (by decide) (hts _ k_1376) (fun _ h9 => h9) rfl dX11_readLine_165 ?_
              refine lv_if_ne (tgt := 192) hx hb dX11_readLine_168 (by decide) (fun c165 => ?_) (fun c165 => ?_)
              · skip
                have zc165 : ¬ ((v 32).toInt = 0) := by rw [fa_eq, show (0 : Int32).toInt = 0 from by decide] at c165; exact c165
                exact jp192 _ _ _ hP hD hS hl
              · skip
                have zc165 : (v 32).toInt = 0 := by rw [fa_eq, show (0 : Int32).toInt = 0 from by decide] at c165; exact c165
                refine lv_aload_n hx hb dX11_readLine_171 rfl (lv_at hl 0 rfl) ?_
                refine lv_iconst (v := 1) hx hb dX11_readLine_172 (by decide) ?_
                refine va_put (D := (dC, dI)) (ci := 11) (v := .int 1) (ty := tyX11 56) (C := RX11) (T := TX11) (N := 79) hx hb hts inB_11 tyX11 tyX11_ok nmX11 hown hE.1 hP hD hS 0 rfl rfl 56 (by decide) (hts _ k_1376) (fun _ h9 => h9) rfl (tyX11_ok 56 (by decide)) rfl rfl (Nat.le_of_ble_eq_true rfl) dX11_readLine_173 (fun H locs hP hD hS => ?_)
                have hP : va_P (dC, dI) vwCl (YW cy y0 r (upd v 32 1) f w g) H := hP
                have hD : va_D A (YW cy y0 r (upd v 32 1) f w g) := hD
                refine lv_aload_n hx hb dX11_readLine_176 rfl (lv_at hl 0 rfl) ?_
                refine lv_aload_n hx hb dX11_readLine_177 rfl (lv_at hl 0 rfl) ?_
                refine lv_ldc2 (v := 1818848101) hx hb hown (hts _ k_1630) dX11_readLine_178 ?_
                refine lv_bipush (v := 99) hx hb dX11_readLine_181 (by decide) ?_
                refine cbVi (n := 2) (rest := [.ref y0]) hx hb hml hown hts hE hP hD hS hA (sY_X11_told_1 l dC dI cy y0 r 1818848101 99 (upd v 32 1) f w g ⟨(YIb.upd (j := 32) (x := 1) hIv.1 (rlo _) (rhi _)), hIv.2⟩ hCf hRf ) k_1645 k_1647 k_51 k_114 k_1648 (by decide +kernel) ⟨Nat.le_of_ble_eq_true rfl, Nat.le_of_ble_eq_true rfl⟩ 0 11 rfl rfl (rfl) hl.1 rfl (Nat.le_of_ble_eq_true rfl) dX11_readLine_183 (fun r166 u H locs hw hP hD hS => ?_)
                obtain ⟨v167, f168, w169, g170⟩ := u
                obtain ⟨hIv167, hCf168, hRf168, hk0_v167, hk4_v167, hk8_v167, hk9_v167, hk10_v167, hk13_v167, hk14_v167, hk15_v167, hk17_v167, hk18_v167, hk24_v167, hk25_v167, hk35_v167, hk36_v167, hk38_v167, hk39_v167, pv171, pv172, kq173, kq174, kq175⟩ := hw
                have hP : va_P (dC, dI) vwCl (YW cy y0 r v167 f168 w169 g170) H := hP
                have hD : va_D A (YW cy y0 r v167 f168 w169 g170) := hD
                have b3_v167 : 0 ≤ (v167 3).toInt ∧ (v167 3).toInt ≤ 1600 := YIb.b hIv167.1 3 (by decide)
                have pv171 : (v 3).toInt ≤ (v167 3).toInt := pv171
                have pv172 : (v167 5).toInt = (v 5).toInt ∨ (v 3).toInt < (v167 3).toInt ∨ ¬ (v167 5).toInt = 59 := pv172
                have hs2_f168 : f168 2 = (f 2) := kq173
                have hs3_f168 : f168 3 = (f 3) := kq174
                have hs6_f168 : f168 6 = (f 6) := kq175
                have hUv167 : (v167 35).toInt + (v167 36).toInt ≤ 40 := hIv167.2
                have hq0_v167 : v167 0 = (v 0) := hk0_v167
                have zq0_v167 := congrArg Int32.toInt hq0_v167
                have hq4_v167 : v167 4 = (v 4) := hk4_v167
                have zq4_v167 := congrArg Int32.toInt hq4_v167
                have hq8_v167 : v167 8 = (v 8) := hk8_v167
                have zq8_v167 := congrArg Int32.toInt hq8_v167
                have hq9_v167 : v167 9 = (v 9) := hk9_v167
                have zq9_v167 := congrArg Int32.toInt hq9_v167
                have hq10_v167 : v167 10 = (v 10) := hk10_v167
                have zq10_v167 := congrArg Int32.toInt hq10_v167
                have hq13_v167 : v167 13 = (v 13) := hk13_v167
                have zq13_v167 := congrArg Int32.toInt hq13_v167
                have hq14_v167 : v167 14 = (v 14) := hk14_v167
                have zq14_v167 := congrArg Int32.toInt hq14_v167
                have hq15_v167 : v167 15 = (v 15) := hk15_v167
                have zq15_v167 := congrArg Int32.toInt hq15_v167
                have hq17_v167 : v167 17 = (v 17) := hk17_v167
                have zq17_v167 := congrArg Int32.toInt hq17_v167
                have hq18_v167 : v167 18 = (v 18) := hk18_v167
                have zq18_v167 := congrArg Int32.toInt hq18_v167
                have hq24_v167 : v167 24 = (v 24) := hk24_v167
                have hq25_v167 : v167 25 = (v 25) := hk25_v167
                have hq35_v167 : v167 35 = (v 35) := hk35_v167
                have zq35_v167 := congrArg Int32.toInt hq35_v167
                have hq36_v167 : v167 36 = (v 36) := hk36_v167
                have zq36_v167 := congrArg Int32.toInt hq36_v167
                have hq38_v167 : v167 38 = (v 38) := hk38_v167
                have hq39_v167 : v167 39 = (v 39) := hk39_v167
                have hGR : GR (v 3).toInt (v 5).toInt (v167 3).toInt (v167 5).toInt := GR.tr hGR (show GR (v 3).toInt (v 5).toInt (v167 3).toInt (v167 5).toInt from ⟨pv171, pv172⟩) (by first | rfl | assumption | omega) (by first | rfl | assumption | omega)
                clear pv172
                refine va_put (D := (dC, dI)) (ci := 11) (v := .int r166) (ty := tyX11 45) (C := RX11) (T := TX11) (N := 79) hx hb hts inB_11 tyX11 tyX11_ok nmX11 hown hE.1 hP hD hS 0 rfl rfl 45 (by decide) (hts _ k_1365) (fun _ h9 => h9) rfl (tyX11_ok 45 (by decide)) rfl rfl (Nat.le_of_ble_eq_true rfl) dX11_readLine_186 (fun H locs hP hD hS => ?_)
                have hP : va_P (dC, dI) vwCl (YW cy y0 r (upd v167 21 r166) f168 w169 g170) H := hP
                have hD : va_D A (YW cy y0 r (upd v167 21 r166) f168 w169 g170) := hD
                refine lv_goto (tgt := 274) hx hb dX11_readLine_189 (by decide) ?_
                refine lv_aload_n hx hb dX11_readLine_274 rfl (lv_at hl 0 rfl) ?_
                refine va_get (D := (dC, dI)) (ci := 11) (v := .int (v167 1)) (C := RX11) (T := TX11) (N := 79) hx hb hts inB_11 hown hE.1 hP 0 rfl rfl 2 (by decide) (hts _ k_1322) (fun _ h9 => h9) rfl dX11_readLine_275 ?_
                have b1_v167 : 0 ≤ (v167 1).toInt ∧ (v167 1).toInt ≤ 4 := YIb.b hIv167.1 1 (by decide)
                refine lv_if_ne (tgt := 295) hx hb dX11_readLine_278 (by decide) (fun c176 => ?_) (fun c176 => ?_)
                · skip
                  have zc176 : ¬ ((v167 1).toInt = 0) := by rw [fa_eq, show (0 : Int32).toInt = 0 from by decide] at c176; exact c176
                  refine lv_aload_n hx hb dX11_readLine_295 rfl (lv_at hl 0 rfl) ?_
                  refine va_get (D := (dC, dI)) (ci := 11) (v := .int (v167 1)) (C := RX11) (T := TX11) (N := 79) hx hb hts inB_11 hown hE.1 hP 0 rfl rfl 2 (by decide) (hts _ k_1322) (fun _ h9 => h9) rfl dX11_readLine_296 ?_
                  refine lv_if_ne (tgt := 306) hx hb dX11_readLine_299 (by decide) (fun c177 => ?_) (fun c177 => ?_)
                  · skip
                    have zc177 : ¬ ((v167 1).toInt = 0) := by rw [fa_eq, show (0 : Int32).toInt = 0 from by decide] at c177; exact c177
                    exact ret ((upd v167 21 r166), f168, w169, g170) _ _ _ _ _ _ ⟨⟨(YIb.upd (j := 21) (x := r166) hIv167.1 (rlo _) (rhi _)), hIv167.2⟩, hCf168, hRf168, hk0_v167, hk4_v167, hk9_v167, hk24_v167, hk25_v167, hk35_v167, hk36_v167, hk38_v167, hk39_v167, (by show GA (v167 1).toInt (v 3).toInt (v167 3).toInt; exact GA.ab hGR (by omega) (by omega)), (by show (v167 1).toInt = 0 → ¬ (v167 15).toInt = 0 → progOK (f168 2) (f168 3) ((v167 8).toInt).toNat; rw [hs2_f168, hs3_f168]; intro hz8 hz9; exact prog_n (hPR (by omega)) (by omega))⟩ hP hD hS dX11_readLine_306 (Nat.le_refl _) (Nat.le_refl _)
                  · skip
                    have zc177 : (v167 1).toInt = 0 := by rw [fa_eq, show (0 : Int32).toInt = 0 from by decide] at c177; exact c177
                    have hgrew := GR.grew hGR (by omega) (by omega)
                    refine lv_aload_n hx hb dX11_readLine_302 rfl (lv_at hl 0 rfl) ?_
                    refine cbVv (n := 0) (rest := []) hx hb hml hown hts hE hP hD hS hA (sY_X11_token_1 l dC dI cy y0 r  (upd v167 21 r166) f168 w169 g170 ⟨(YIb.upd (j := 21) (x := r166) hIv167.1 (rlo _) (rhi _)), hIv167.2⟩ hCf168 hRf168 ) k_1579 k_1581 k_42 k_114 k_1582 (by decide +kernel) ⟨Nat.le_of_ble_eq_true rfl, Nat.le_of_ble_eq_true rfl⟩ 0 11 rfl rfl (rfl) hl.1 rfl (Nat.le_of_ble_eq_true rfl) dX11_readLine_303 (fun u H locs hw hP hD hS => ?_)
                    obtain ⟨v178, f179, w180, g181⟩ := u
                    obtain ⟨hIv178, hCf179, hRf179, hk0_v178, hk1_v178, hk4_v178, hk8_v178, hk9_v178, hk10_v178, hk13_v178, hk14_v178, hk15_v178, hk17_v178, hk18_v178, hk24_v178, hk25_v178, hk35_v178, hk36_v178, hk38_v178, hk39_v178, pv182, pv183, kq184, kq185, kq186⟩ := hw
                    have hP : va_P (dC, dI) vwCl (YW cy y0 r v178 f179 w180 g181) H := hP
                    have hD : va_D A (YW cy y0 r v178 f179 w180 g181) := hD
                    have b3_v178 : 0 ≤ (v178 3).toInt ∧ (v178 3).toInt ≤ 1600 := YIb.b hIv178.1 3 (by decide)
                    have pv182 : (v167 3).toInt ≤ (v178 3).toInt := pv182
                    have pv183 : (v178 5).toInt = (v167 5).toInt ∨ (v167 3).toInt < (v178 3).toInt ∨ ¬ (v178 5).toInt = 59 := pv183
                    have hs2_f179 : f179 2 = (f 2) := kq184.trans hs2_f168
                    have hs3_f179 : f179 3 = (f 3) := kq185.trans hs3_f168
                    have hs6_f179 : f179 6 = (f 6) := kq186.trans hs6_f168
                    have hUv178 : (v178 35).toInt + (v178 36).toInt ≤ 40 := hIv178.2
                    have hq0_v178 : v178 0 = (v 0) := hk0_v178.trans hq0_v167
                    have zq0_v178 := congrArg Int32.toInt hq0_v178
                    have hq1_v178 : v178 1 = (v167 1) := hk1_v178
                    have zq1_v178 := congrArg Int32.toInt hq1_v178
                    have hq4_v178 : v178 4 = (v 4) := hk4_v178.trans hq4_v167
                    have zq4_v178 := congrArg Int32.toInt hq4_v178
                    have hq8_v178 : v178 8 = (v 8) := hk8_v178.trans hq8_v167
                    have zq8_v178 := congrArg Int32.toInt hq8_v178
                    have hq9_v178 : v178 9 = (v 9) := hk9_v178.trans hq9_v167
                    have zq9_v178 := congrArg Int32.toInt hq9_v178
                    have hq10_v178 : v178 10 = (v 10) := hk10_v178.trans hq10_v167
                    have zq10_v178 := congrArg Int32.toInt hq10_v178
                    have hq13_v178 : v178 13 = (v 13) := hk13_v178.trans hq13_v167
                    have zq13_v178 := congrArg Int32.toInt hq13_v178
                    have hq14_v178 : v178 14 = (v 14) := hk14_v178.trans hq14_v167
                    have zq14_v178 := congrArg Int32.toInt hq14_v178
                    have hq15_v178 : v178 15 = (v 15) := hk15_v178.trans hq15_v167
                    have zq15_v178 := congrArg Int32.toInt hq15_v178
                    have hq17_v178 : v178 17 = (v 17) := hk17_v178.trans hq17_v167
                    have zq17_v178 := congrArg Int32.toInt hq17_v178
                    have hq18_v178 : v178 18 = (v 18) := hk18_v178.trans hq18_v167
                    have zq18_v178 := congrArg Int32.toInt hq18_v178
                    have hq24_v178 : v178 24 = (v 24) := hk24_v178.trans hq24_v167
                    have hq25_v178 : v178 25 = (v 25) := hk25_v178.trans hq25_v167
                    have hq35_v178 : v178 35 = (v 35) := hk35_v178.trans hq35_v167
                    have zq35_v178 := congrArg Int32.toInt hq35_v178
                    have hq36_v178 : v178 36 = (v 36) := hk36_v178.trans hq36_v167
                    have zq36_v178 := congrArg Int32.toInt hq36_v178
                    have hq38_v178 : v178 38 = (v 38) := hk38_v178.trans hq38_v167
                    have hq39_v178 : v178 39 = (v 39) := hk39_v178.trans hq39_v167
                    have hGR : GR (v 3).toInt (v 5).toInt (v178 3).toInt (v178 5).toInt := GR.tr hGR (show GR (v167 3).toInt (v167 5).toInt (v178 3).toInt (v178 5).toInt from ⟨pv182, pv183⟩) (by first | rfl | assumption | omega) (by first | rfl | assumption | omega)
                    clear pv183
                    exact ret (v178, f179, w180, g181) _ _ _ _ _ _ ⟨hIv178, hCf179, hRf179, (hk0_v178.trans hk0_v167), (hk4_v178.trans hk4_v167), (hk9_v178.trans hk9_v167), (hk24_v178.trans hk24_v167), (hk25_v178.trans hk25_v167), (hk35_v178.trans hk35_v167), (hk36_v178.trans hk36_v167), (hk38_v178.trans hk38_v167), (hk39_v178.trans hk39_v167), (by show GA (v178 1).toInt (v 3).toInt (v178 3).toInt; exact GA.mk hgrew hGR (by omega)), (by show (v178 1).toInt = 0 → ¬ (v178 15).toInt = 0 → progOK (f179 2) (f179 3) ((v178 8).toInt).toNat; rw [hs2_f179, hs3_f179]; intro hz8 hz9; exact prog_n (hPR (by omega)) (by omega))⟩ hP hD hS dX11_readLine_306 (Nat.le_refl _) (Nat.le_refl _)
                · skip
                  have zc176 : (v167 1).toInt = 0 := by rw [fa_eq, show (0 : Int32).toInt = 0 from by decide] at c176; exact c176
                  refine lv_aload_n hx hb dX11_readLine_281 rfl (lv_at hl 0 rfl) ?_
                  refine va_get (D := (dC, dI)) (ci := 11) (v := .int (v167 5)) (C := RX11) (T := TX11) (N := 79) hx hb hts inB_11 hown hE.1 hP 0 rfl rfl 6 (by decide) (hts _ k_1326) (fun _ h9 => h9) rfl dX11_readLine_282 ?_
                  refine lv_bipush (v := 59) hx hb dX11_readLine_285 (by decide) ?_
                  refine lv_icmp_eq (tgt := 295) hx hb dX11_readLine_287 (by decide) (fun c187 => ?_) (fun c187 => ?_)
                  · skip
                    have zc187 : (v167 5).toInt = 59 := by rw [fa_eq, show (59 : Int32).toInt = 59 from by decide] at c187; exact c187
                    refine lv_aload_n hx hb dX11_readLine_295 rfl (lv_at hl 0 rfl) ?_
                    refine va_get (D := (dC, dI)) (ci := 11) (v := .int (v167 1)) (C := RX11) (T := TX11) (N := 79) hx hb hts inB_11 hown hE.1 hP 0 rfl rfl 2 (by decide) (hts _ k_1322) (fun _ h9 => h9) rfl dX11_readLine_296 ?_
                    refine lv_if_ne (tgt := 306) hx hb dX11_readLine_299 (by decide) (fun c188 => ?_) (fun c188 => ?_)
                    · skip
                      have zc188 : ¬ ((v167 1).toInt = 0) := by rw [fa_eq, show (0 : Int32).toInt = 0 from by decide] at c188; exact c188
                      exact ret ((upd v167 21 r166), f168, w169, g170) _ _ _ _ _ _ ⟨⟨(YIb.upd (j := 21) (x := r166) hIv167.1 (rlo _) (rhi _)), hIv167.2⟩, hCf168, hRf168, hk0_v167, hk4_v167, hk9_v167, hk24_v167, hk25_v167, hk35_v167, hk36_v167, hk38_v167, hk39_v167, (by show GA (v167 1).toInt (v 3).toInt (v167 3).toInt; exact GA.ab hGR (by omega) (by omega)), (by show (v167 1).toInt = 0 → ¬ (v167 15).toInt = 0 → progOK (f168 2) (f168 3) ((v167 8).toInt).toNat; rw [hs2_f168, hs3_f168]; intro hz8 hz9; exact prog_n (hPR (by omega)) (by omega))⟩ hP hD hS dX11_readLine_306 (Nat.le_refl _) (Nat.le_refl _)
                    · skip
                      have zc188 : (v167 1).toInt = 0 := by rw [fa_eq, show (0 : Int32).toInt = 0 from by decide] at c188; exact c188
                      have hgrew := GR.grew hGR (by omega) (by omega)
                      refine lv_aload_n hx hb dX11_readLine_302 rfl (lv_at hl 0 rfl) ?_
                      refine cbVv (n := 0) (rest := []) hx hb hml hown hts hE hP hD hS hA (sY_X11_token_1 l dC dI cy y0 r  (upd v167 21 r166) f168 w169 g170 ⟨(YIb.upd (j := 21) (x := r166) hIv167.1 (rlo _) (rhi _)), hIv167.2⟩ hCf168 hRf168 ) k_1579 k_1581 k_42 k_114 k_1582 (by decide +kernel) ⟨Nat.le_of_ble_eq_true rfl, Nat.le_of_ble_eq_true rfl⟩ 0 11 rfl rfl (rfl) hl.1 rfl (Nat.le_of_ble_eq_true rfl) dX11_readLine_303 (fun u H locs hw hP hD hS => ?_)
                      obtain ⟨v189, f190, w191, g192⟩ := u
                      obtain ⟨hIv189, hCf190, hRf190, hk0_v189, hk1_v189, hk4_v189, hk8_v189, hk9_v189, hk10_v189, hk13_v189, hk14_v189, hk15_v189, hk17_v189, hk18_v189, hk24_v189, hk25_v189, hk35_v189, hk36_v189, hk38_v189, hk39_v189, pv193, pv194, kq195, kq196, kq197⟩ := hw
                      have hP : va_P (dC, dI) vwCl (YW cy y0 r v189 f190 w191 g192) H := hP
                      have hD : va_D A (YW cy y0 r v189 f190 w191 g192) := hD
                      have b3_v189 : 0 ≤ (v189 3).toInt ∧ (v189 3).toInt ≤ 1600 := YIb.b hIv189.1 3 (by decide)
                      have pv193 : (v167 3).toInt ≤ (v189 3).toInt := pv193
                      have pv194 : (v189 5).toInt = (v167 5).toInt ∨ (v167 3).toInt < (v189 3).toInt ∨ ¬ (v189 5).toInt = 59 := pv194
                      have hs2_f190 : f190 2 = (f 2) := kq195.trans hs2_f168
                      have hs3_f190 : f190 3 = (f 3) := kq196.trans hs3_f168
                      have hs6_f190 : f190 6 = (f 6) := kq197.trans hs6_f168
                      have hUv189 : (v189 35).toInt + (v189 36).toInt ≤ 40 := hIv189.2
                      have hq0_v189 : v189 0 = (v 0) := hk0_v189.trans hq0_v167
                      have zq0_v189 := congrArg Int32.toInt hq0_v189
                      have hq1_v189 : v189 1 = (v167 1) := hk1_v189
                      have zq1_v189 := congrArg Int32.toInt hq1_v189
                      have hq4_v189 : v189 4 = (v 4) := hk4_v189.trans hq4_v167
                      have zq4_v189 := congrArg Int32.toInt hq4_v189
                      have hq8_v189 : v189 8 = (v 8) := hk8_v189.trans hq8_v167
                      have zq8_v189 := congrArg Int32.toInt hq8_v189
                      have hq9_v189 : v189 9 = (v 9) := hk9_v189.trans hq9_v167
                      have zq9_v189 := congrArg Int32.toInt hq9_v189
                      have hq10_v189 : v189 10 = (v 10) := hk10_v189.trans hq10_v167
                      have zq10_v189 := congrArg Int32.toInt hq10_v189
                      have hq13_v189 : v189 13 = (v 13) := hk13_v189.trans hq13_v167
                      have zq13_v189 := congrArg Int32.toInt hq13_v189
                      have hq14_v189 : v189 14 = (v 14) := hk14_v189.trans hq14_v167
                      have zq14_v189 := congrArg Int32.toInt hq14_v189
                      have hq15_v189 : v189 15 = (v 15) := hk15_v189.trans hq15_v167
                      have zq15_v189 := congrArg Int32.toInt hq15_v189
                      have hq17_v189 : v189 17 = (v 17) := hk17_v189.trans hq17_v167
                      have zq17_v189 := congrArg Int32.toInt hq17_v189
                      have hq18_v189 : v189 18 = (v 18) := hk18_v189.trans hq18_v167
                      have zq18_v189 := congrArg Int32.toInt hq18_v189
                      have hq24_v189 : v189 24 = (v 24) := hk24_v189.trans hq24_v167
                      have hq25_v189 : v189 25 = (v 25) := hk25_v189.trans hq25_v167
                      have hq35_v189 : v189 35 = (v 35) := hk35_v189.trans hq35_v167
                      have zq35_v189 := congrArg Int32.toInt hq35_v189
                      have hq36_v189 : v189 36 = (v 36) := hk36_v189.trans hq36_v167
                      have zq36_v189 := congrArg Int32.toInt hq36_v189
                      have hq38_v189 : v189 38 = (v 38) := hk38_v189.trans hq38_v167
                      have hq39_v189 : v189 39 = (v 39) := hk39_v189.trans hq39_v167
                      have hGR : GR (v 3).toInt (v 5).toInt (v189 3).toInt (v189 5).toInt := GR.tr hGR (show GR (v167 3).toInt (v167 5).toInt (v189 3).toInt (v189 5).toInt from ⟨pv193, pv194⟩) (by first | rfl | assumption | omega) (by first | rfl | assumption | omega)
                      clear pv194
                      exact ret (v189, f190, w191, g192) _ _ _ _ _ _ ⟨hIv189, hCf190, hRf190, (hk0_v189.trans hk0_v167), (hk4_v189.trans hk4_v167), (hk9_v189.trans hk9_v167), (hk24_v189.trans hk24_v167), (hk25_v189.trans hk25_v167), (hk35_v189.trans hk35_v167), (hk36_v189.trans hk36_v167), (hk38_v189.trans hk38_v167), (hk39_v189.trans hk39_v167), (by show GA (v189 1).toInt (v 3).toInt (v189 3).toInt; exact GA.mk hgrew hGR (by omega)), (by show (v189 1).toInt = 0 → ¬ (v189 15).toInt = 0 → progOK (f190 2) (f190 3) ((v189 8).toInt).toNat; rw [hs2_f190, hs3_f190]; intro hz8 hz9; exact prog_n (hPR (by omega)) (by omega))⟩ hP hD hS dX11_readLine_306 (Nat.le_refl _) (Nat.le_refl _)
                  · skip
                    have zc187 : ¬ ((v167 5).toInt = 59) := by rw [fa_eq, show (59 : Int32).toInt = 59 from by decide] at c187; exact c187
                    refine lv_aload_n hx hb dX11_readLine_290 rfl (lv_at hl 0 rfl) ?_
                    refine lv_iconst (v := 2) hx hb dX11_readLine_291 (by decide) ?_
                    refine cbVv (n := 1) (rest := []) hx hb hml hown hts hE hP hD hS hA (sY_X11_wrong_1 l dC dI cy y0 r 2 (upd v167 21 r166) f168 w169 g170 ⟨(YIb.upd (j := 21) (x := r166) hIv167.1 (rlo _) (rhi _)), hIv167.2⟩ hCf168 hRf168 ⟨by decide, by decide⟩) k_1641 k_1643 k_50 k_114 k_1644 (by decide +kernel) ⟨Nat.le_of_ble_eq_true rfl, Nat.le_of_ble_eq_true rfl⟩ 0 11 rfl rfl (rfl) hl.1 rfl (Nat.le_of_ble_eq_true rfl) dX11_readLine_292 (fun u H locs hw hP hD hS => ?_)
                    obtain ⟨v198, f199, w200, g201⟩ := u
                    obtain ⟨hIv198, hCf199, hRf199, hk0_v198, hk3_v198, hk4_v198, hk5_v198, hk8_v198, hk9_v198, hk10_v198, hk13_v198, hk14_v198, hk15_v198, hk17_v198, hk18_v198, hk24_v198, hk25_v198, hk35_v198, hk36_v198, hk38_v198, hk39_v198, pv202, pv203, pv204, kq205, kq206, kq207⟩ := hw
                    have hP : va_P (dC, dI) vwCl (YW cy y0 r v198 f199 w200 g201) H := hP
                    have hD : va_D A (YW cy y0 r v198 f199 w200 g201) := hD
                    have b3_v198 : 0 ≤ (v198 3).toInt ∧ (v198 3).toInt ≤ 1600 := YIb.b hIv198.1 3 (by decide)
                    have b1_v198 : 0 ≤ (v198 1).toInt ∧ (v198 1).toInt ≤ 4 := YIb.b hIv198.1 1 (by decide)
                    have pv202 : (v167 3).toInt ≤ (v198 3).toInt := pv202
                    have pv203 : (v198 5).toInt = (v167 5).toInt ∨ (v167 3).toInt < (v198 3).toInt ∨ ¬ (v198 5).toInt = 59 := pv203
                    have pv204 : 0 < (v198 1).toInt := pv204
                    have hs2_f199 : f199 2 = (f 2) := kq205.trans hs2_f168
                    have hs3_f199 : f199 3 = (f 3) := kq206.trans hs3_f168
                    have hs6_f199 : f199 6 = (f 6) := kq207.trans hs6_f168
                    have hUv198 : (v198 35).toInt + (v198 36).toInt ≤ 40 := hIv198.2
                    have hq0_v198 : v198 0 = (v 0) := hk0_v198.trans hq0_v167
                    have zq0_v198 := congrArg Int32.toInt hq0_v198
                    have hq3_v198 : v198 3 = (v167 3) := hk3_v198
                    have zq3_v198 := congrArg Int32.toInt hq3_v198
                    have hq4_v198 : v198 4 = (v 4) := hk4_v198.trans hq4_v167
                    have zq4_v198 := congrArg Int32.toInt hq4_v198
                    have hq5_v198 : v198 5 = (v167 5) := hk5_v198
                    have zq5_v198 := congrArg Int32.toInt hq5_v198
                    have hq8_v198 : v198 8 = (v 8) := hk8_v198.trans hq8_v167
                    have zq8_v198 := congrArg Int32.toInt hq8_v198
                    have hq9_v198 : v198 9 = (v 9) := hk9_v198.trans hq9_v167
                    have zq9_v198 := congrArg Int32.toInt hq9_v198
                    have hq10_v198 : v198 10 = (v 10) := hk10_v198.trans hq10_v167
                    have zq10_v198 := congrArg Int32.toInt hq10_v198
                    have hq13_v198 : v198 13 = (v 13) := hk13_v198.trans hq13_v167
                    have zq13_v198 := congrArg Int32.toInt hq13_v198
                    have hq14_v198 : v198 14 = (v 14) := hk14_v198.trans hq14_v167
                    have zq14_v198 := congrArg Int32.toInt hq14_v198
                    have hq15_v198 : v198 15 = (v 15) := hk15_v198.trans hq15_v167
                    have zq15_v198 := congrArg Int32.toInt hq15_v198
                    have hq17_v198 : v198 17 = (v 17) := hk17_v198.trans hq17_v167
                    have zq17_v198 := congrArg Int32.toInt hq17_v198
                    have hq18_v198 : v198 18 = (v 18) := hk18_v198.trans hq18_v167
                    have zq18_v198 := congrArg Int32.toInt hq18_v198
                    have hq24_v198 : v198 24 = (v 24) := hk24_v198.trans hq24_v167
                    have hq25_v198 : v198 25 = (v 25) := hk25_v198.trans hq25_v167
                    have hq35_v198 : v198 35 = (v 35) := hk35_v198.trans hq35_v167
                    have zq35_v198 := congrArg Int32.toInt hq35_v198
                    have hq36_v198 : v198 36 = (v 36) := hk36_v198.trans hq36_v167
                    have zq36_v198 := congrArg Int32.toInt hq36_v198
                    have hq38_v198 : v198 38 = (v 38) := hk38_v198.trans hq38_v167
                    have hq39_v198 : v198 39 = (v 39) := hk39_v198.trans hq39_v167
                    have hGR : GR (v 3).toInt (v 5).toInt (v198 3).toInt (v198 5).toInt := GR.tr hGR (show GR (v167 3).toInt (v167 5).toInt (v198 3).toInt (v198 5).toInt from ⟨pv202, pv203⟩) (by first | rfl | assumption | omega) (by first | rfl | assumption | omega)
                    clear pv203
                    refine lv_aload_n hx hb dX11_readLine_295 rfl (lv_at hl 0 rfl) ?_
                    refine va_get (D := (dC, dI)) (ci := 11) (v := .int (v198 1)) (C := RX11) (T := TX11) (N := 79) hx hb hts inB_11 hown hE.1 hP 0 rfl rfl 2 (by decide) (hts _ k_1322) (fun _ h9 => h9) rfl dX11_readLine_296 ?_
                    have b1_v198 : 0 ≤ (v198 1).toInt ∧ (v198 1).toInt ≤ 4 := YIb.b hIv198.1 1 (by decide)
                    refine lv_if_ne (tgt := 306) hx hb dX11_readLine_299 (by decide) (fun c208 => ?_) (fun c208 => ?_)
                    · skip
                      have zc208 : ¬ ((v198 1).toInt = 0) := by rw [fa_eq, show (0 : Int32).toInt = 0 from by decide] at c208; exact c208
                      exact ret (v198, f199, w200, g201) _ _ _ _ _ _ ⟨hIv198, hCf199, hRf199, (hk0_v198.trans hk0_v167), (hk4_v198.trans hk4_v167), (hk9_v198.trans hk9_v167), (hk24_v198.trans hk24_v167), (hk25_v198.trans hk25_v167), (hk35_v198.trans hk35_v167), (hk36_v198.trans hk36_v167), (hk38_v198.trans hk38_v167), (hk39_v198.trans hk39_v167), (by show GA (v198 1).toInt (v 3).toInt (v198 3).toInt; exact GA.ab hGR (by omega) (by omega)), (by show (v198 1).toInt = 0 → ¬ (v198 15).toInt = 0 → progOK (f199 2) (f199 3) ((v198 8).toInt).toNat; rw [hs2_f199, hs3_f199]; intro hz8 hz9; exact prog_n (hPR (by omega)) (by omega))⟩ hP hD hS dX11_readLine_306 (Nat.le_refl _) (Nat.le_refl _)
                    · skip
                      have zc208 : (v198 1).toInt = 0 := by rw [fa_eq, show (0 : Int32).toInt = 0 from by decide] at c208; exact c208
                      refine lv_aload_n hx hb dX11_readLine_302 rfl (lv_at hl 0 rfl) ?_
                      refine cbVv (n := 0) (rest := []) hx hb hml hown hts hE hP hD hS hA (sY_X11_token_1 l dC dI cy y0 r  v198 f199 w200 g201 hIv198 hCf199 hRf199 ) k_1579 k_1581 k_42 k_114 k_1582 (by decide +kernel) ⟨Nat.le_of_ble_eq_true rfl, Nat.le_of_ble_eq_true rfl⟩ 0 11 rfl rfl (rfl) hl.1 rfl (Nat.le_of_ble_eq_true rfl) dX11_readLine_303 (fun u H locs hw hP hD hS => ?_)
                      obtain ⟨v209, f210, w211, g212⟩ := u
                      obtain ⟨hIv209, hCf210, hRf210, hk0_v209, hk1_v209, hk4_v209, hk8_v209, hk9_v209, hk10_v209, hk13_v209, hk14_v209, hk15_v209, hk17_v209, hk18_v209, hk24_v209, hk25_v209, hk35_v209, hk36_v209, hk38_v209, hk39_v209, pv213, pv214, kq215, kq216, kq217⟩ := hw
                      have hP : va_P (dC, dI) vwCl (YW cy y0 r v209 f210 w211 g212) H := hP
                      have hD : va_D A (YW cy y0 r v209 f210 w211 g212) := hD
                      have b3_v209 : 0 ≤ (v209 3).toInt ∧ (v209 3).toInt ≤ 1600 := YIb.b hIv209.1 3 (by decide)
                      have pv213 : (v198 3).toInt ≤ (v209 3).toInt := pv213
                      have pv214 : (v209 5).toInt = (v198 5).toInt ∨ (v198 3).toInt < (v209 3).toInt ∨ ¬ (v209 5).toInt = 59 := pv214
                      have hs2_f210 : f210 2 = (f 2) := kq215.trans hs2_f199
                      have hs3_f210 : f210 3 = (f 3) := kq216.trans hs3_f199
                      have hs6_f210 : f210 6 = (f 6) := kq217.trans hs6_f199
                      have hUv209 : (v209 35).toInt + (v209 36).toInt ≤ 40 := hIv209.2
                      have hq0_v209 : v209 0 = (v 0) := hk0_v209.trans hq0_v198
                      have zq0_v209 := congrArg Int32.toInt hq0_v209
                      have hq1_v209 : v209 1 = (v198 1) := hk1_v209
                      have zq1_v209 := congrArg Int32.toInt hq1_v209
                      have hq4_v209 : v209 4 = (v 4) := hk4_v209.trans hq4_v198
                      have zq4_v209 := congrArg Int32.toInt hq4_v209
                      have hq8_v209 : v209 8 = (v 8) := hk8_v209.trans hq8_v198
                      have zq8_v209 := congrArg Int32.toInt hq8_v209
                      have hq9_v209 : v209 9 = (v 9) := hk9_v209.trans hq9_v198
                      have zq9_v209 := congrArg Int32.toInt hq9_v209
                      have hq10_v209 : v209 10 = (v 10) := hk10_v209.trans hq10_v198
                      have zq10_v209 := congrArg Int32.toInt hq10_v209
                      have hq13_v209 : v209 13 = (v 13) := hk13_v209.trans hq13_v198
                      have zq13_v209 := congrArg Int32.toInt hq13_v209
                      have hq14_v209 : v209 14 = (v 14) := hk14_v209.trans hq14_v198
                      have zq14_v209 := congrArg Int32.toInt hq14_v209
                      have hq15_v209 : v209 15 = (v 15) := hk15_v209.trans hq15_v198
                      have zq15_v209 := congrArg Int32.toInt hq15_v209
                      have hq17_v209 : v209 17 = (v 17) := hk17_v209.trans hq17_v198
                      have zq17_v209 := congrArg Int32.toInt hq17_v209
                      have hq18_v209 : v209 18 = (v 18) := hk18_v209.trans hq18_v198
                      have zq18_v209 := congrArg Int32.toInt hq18_v209
                      have hq24_v209 : v209 24 = (v 24) := hk24_v209.trans hq24_v198
                      have hq25_v209 : v209 25 = (v 25) := hk25_v209.trans hq25_v198
                      have hq35_v209 : v209 35 = (v 35) := hk35_v209.trans hq35_v198
                      have zq35_v209 := congrArg Int32.toInt hq35_v209
                      have hq36_v209 : v209 36 = (v 36) := hk36_v209.trans hq36_v198
                      have zq36_v209 := congrArg Int32.toInt hq36_v209
                      have hq38_v209 : v209 38 = (v 38) := hk38_v209.trans hq38_v198
                      have hq39_v209 : v209 39 = (v 39) := hk39_v209.trans hq39_v198
                      have hGR : GR (v 3).toInt (v 5).toInt (v209 3).toInt (v209 5).toInt := GR.tr hGR (show GR (v198 3).toInt (v198 5).toInt (v209 3).toInt (v209 5).toInt from ⟨pv213, pv214⟩) (by first | rfl | assumption | omega) (by first | rfl | assumption | omega)
                      clear pv214
                      exact ret (v209, f210, w211, g212) _ _ _ _ _ _ ⟨hIv209, hCf210, hRf210, (hk0_v209.trans (hk0_v198.trans hk0_v167)), (hk4_v209.trans (hk4_v198.trans hk4_v167)), (hk9_v209.trans (hk9_v198.trans hk9_v167)), (hk24_v209.trans (hk24_v198.trans hk24_v167)), (hk25_v209.trans (hk25_v198.trans hk25_v167)), (hk35_v209.trans (hk35_v198.trans hk35_v167)), (hk36_v209.trans (hk36_v198.trans hk36_v167)), (hk38_v209.trans (hk38_v198.trans hk38_v167)), (hk39_v209.trans (hk39_v198.trans hk39_v167)), (by show GA (v209 1).toInt (v 3).toInt (v209 3).toInt; exact GA.ab hGR (by omega) (by omega)), (by show (v209 1).toInt = 0 → ¬ (v209 15).toInt = 0 → progOK (f210 2) (f210 3) ((v209 8).toInt).toNat; rw [hs2_f210, hs3_f210]; intro hz8 hz9; exact prog_n (hPR (by omega)) (by omega))⟩ hP hD hS dX11_readLine_306 (Nat.le_refl _) (Nat.le_refl _)
            · skip
              subst g164
              refine lv_if_eq (tgt := 192) hx hb dX11_readLine_161 (by decide) (fun _ => ?_) (fun c0 => absurd (by decide) c0)
              exact jp192 _ _ _ hP hD hS hl
          refine lv_aload_n hx hb dX11_readLine_115 rfl (lv_at hl 0 rfl) ?_
          refine lv_ldc2 (v := 1651469428) hx hb hown (hts _ k_1629) dX11_readLine_116 ?_
          refine cbVi (n := 1) (rest := []) hx hb hml hown hts hE hP hD hS hA (sY_X11_isWord_1 l dC dI cy y0 r 1651469428 v f w g hIv hCf hRf ) k_1601 k_1603 k_45 k_114 k_1604 (by decide +kernel) ⟨Nat.le_of_ble_eq_true rfl, Nat.le_of_ble_eq_true rfl⟩ 0 11 rfl rfl (rfl) hl.1 rfl (Nat.le_of_ble_eq_true rfl) dX11_readLine_119 (fun r218 u H locs hw hP hD hS => ?_)
          rcases hw with ⟨g219, g219_0⟩ | ⟨g219⟩
          · skip
            subst g219
            refine lv_if_eq (tgt := 154) hx hb dX11_readLine_122 (by decide) (fun c0 => absurd c0 (by decide)) (fun _ => ?_)
            refine lv_aload_n hx hb dX11_readLine_125 rfl (lv_at hl 0 rfl) ?_
            refine va_get (D := (dC, dI)) (ci := 11) (v := .int (v 31)) (C := RX11) (T := TX11) (N := 79) hx hb hts inB_11 hown hE.1 hP 0 rfl rfl 55 (by decide) (hts _ k_1375) (fun _ h9 => h9) rfl dX11_readLine_126 ?_
            refine lv_if_ne (tgt := 154) hx hb dX11_readLine_129 (by decide) (fun c220 => ?_) (fun c220 => ?_)
            · skip
              have zc220 : ¬ ((v 31).toInt = 0) := by rw [fa_eq, show (0 : Int32).toInt = 0 from by decide] at c220; exact c220
              exact jp154 _ _ _ hP hD hS hl
            · skip
              have zc220 : (v 31).toInt = 0 := by rw [fa_eq, show (0 : Int32).toInt = 0 from by decide] at c220; exact c220
              refine lv_aload_n hx hb dX11_readLine_132 rfl (lv_at hl 0 rfl) ?_
              refine lv_iconst (v := 1) hx hb dX11_readLine_133 (by decide) ?_
              refine va_put (D := (dC, dI)) (ci := 11) (v := .int 1) (ty := tyX11 55) (C := RX11) (T := TX11) (N := 79) hx hb hts inB_11 tyX11 tyX11_ok nmX11 hown hE.1 hP hD hS 0 rfl rfl 55 (by decide) (hts _ k_1375) (fun _ h9 => h9) rfl (tyX11_ok 55 (by decide)) rfl rfl (Nat.le_of_ble_eq_true rfl) dX11_readLine_134 (fun H locs hP hD hS => ?_)
              have hP : va_P (dC, dI) vwCl (YW cy y0 r (upd v 31 1) f w g) H := hP
              have hD : va_D A (YW cy y0 r (upd v 31 1) f w g) := hD
              refine lv_aload_n hx hb dX11_readLine_137 rfl (lv_at hl 0 rfl) ?_
              refine lv_aload_n hx hb dX11_readLine_138 rfl (lv_at hl 0 rfl) ?_
              refine lv_ldc2 (v := 1651469428) hx hb hown (hts _ k_1629) dX11_readLine_139 ?_
              refine lv_sipush (v := 999) hx hb dX11_readLine_142 (by decide) ?_
              refine cbVi (n := 2) (rest := [.ref y0]) hx hb hml hown hts hE hP hD hS hA (sY_X11_told_1 l dC dI cy y0 r 1651469428 999 (upd v 31 1) f w g ⟨(YIb.upd (j := 31) (x := 1) hIv.1 (rlo _) (rhi _)), hIv.2⟩ hCf hRf ) k_1645 k_1647 k_51 k_114 k_1648 (by decide +kernel) ⟨Nat.le_of_ble_eq_true rfl, Nat.le_of_ble_eq_true rfl⟩ 0 11 rfl rfl (rfl) hl.1 rfl (Nat.le_of_ble_eq_true rfl) dX11_readLine_145 (fun r221 u H locs hw hP hD hS => ?_)
              obtain ⟨v222, f223, w224, g225⟩ := u
              obtain ⟨hIv222, hCf223, hRf223, hk0_v222, hk4_v222, hk8_v222, hk9_v222, hk10_v222, hk13_v222, hk14_v222, hk15_v222, hk17_v222, hk18_v222, hk24_v222, hk25_v222, hk35_v222, hk36_v222, hk38_v222, hk39_v222, pv226, pv227, kq228, kq229, kq230⟩ := hw
              have hP : va_P (dC, dI) vwCl (YW cy y0 r v222 f223 w224 g225) H := hP
              have hD : va_D A (YW cy y0 r v222 f223 w224 g225) := hD
              have b3_v222 : 0 ≤ (v222 3).toInt ∧ (v222 3).toInt ≤ 1600 := YIb.b hIv222.1 3 (by decide)
              have pv226 : (v 3).toInt ≤ (v222 3).toInt := pv226
              have pv227 : (v222 5).toInt = (v 5).toInt ∨ (v 3).toInt < (v222 3).toInt ∨ ¬ (v222 5).toInt = 59 := pv227
              have hs2_f223 : f223 2 = (f 2) := kq228
              have hs3_f223 : f223 3 = (f 3) := kq229
              have hs6_f223 : f223 6 = (f 6) := kq230
              have hUv222 : (v222 35).toInt + (v222 36).toInt ≤ 40 := hIv222.2
              have hq0_v222 : v222 0 = (v 0) := hk0_v222
              have zq0_v222 := congrArg Int32.toInt hq0_v222
              have hq4_v222 : v222 4 = (v 4) := hk4_v222
              have zq4_v222 := congrArg Int32.toInt hq4_v222
              have hq8_v222 : v222 8 = (v 8) := hk8_v222
              have zq8_v222 := congrArg Int32.toInt hq8_v222
              have hq9_v222 : v222 9 = (v 9) := hk9_v222
              have zq9_v222 := congrArg Int32.toInt hq9_v222
              have hq10_v222 : v222 10 = (v 10) := hk10_v222
              have zq10_v222 := congrArg Int32.toInt hq10_v222
              have hq13_v222 : v222 13 = (v 13) := hk13_v222
              have zq13_v222 := congrArg Int32.toInt hq13_v222
              have hq14_v222 : v222 14 = (v 14) := hk14_v222
              have zq14_v222 := congrArg Int32.toInt hq14_v222
              have hq15_v222 : v222 15 = (v 15) := hk15_v222
              have zq15_v222 := congrArg Int32.toInt hq15_v222
              have hq17_v222 : v222 17 = (v 17) := hk17_v222
              have zq17_v222 := congrArg Int32.toInt hq17_v222
              have hq18_v222 : v222 18 = (v 18) := hk18_v222
              have zq18_v222 := congrArg Int32.toInt hq18_v222
              have hq24_v222 : v222 24 = (v 24) := hk24_v222
              have hq25_v222 : v222 25 = (v 25) := hk25_v222
              have hq35_v222 : v222 35 = (v 35) := hk35_v222
              have zq35_v222 := congrArg Int32.toInt hq35_v222
              have hq36_v222 : v222 36 = (v 36) := hk36_v222
              have zq36_v222 := congrArg Int32.toInt hq36_v222
              have hq38_v222 : v222 38 = (v 38) := hk38_v222
              have hq39_v222 : v222 39 = (v 39) := hk39_v222
              have hGR : GR (v 3).toInt (v 5).toInt (v222 3).toInt (v222 5).toInt := GR.tr hGR (show GR (v 3).toInt (v 5).toInt (v222 3).toInt (v222 5).toInt from ⟨pv226, pv227⟩) (by first | rfl | assumption | omega) (by first | rfl | assumption | omega)
              clear pv227
              refine va_put (D := (dC, dI)) (ci := 11) (v := .int r221) (ty := tyX11 44) (C := RX11) (T := TX11) (N := 79) hx hb hts inB_11 tyX11 tyX11_ok nmX11 hown hE.1 hP hD hS 0 rfl rfl 44 (by decide) (hts _ k_1364) (fun _ h9 => h9) rfl (tyX11_ok 44 (by decide)) rfl rfl (Nat.le_of_ble_eq_true rfl) dX11_readLine_148 (fun H locs hP hD hS => ?_)
              have hP : va_P (dC, dI) vwCl (YW cy y0 r (upd v222 20 r221) f223 w224 g225) H := hP
              have hD : va_D A (YW cy y0 r (upd v222 20 r221) f223 w224 g225) := hD
              refine lv_goto (tgt := 274) hx hb dX11_readLine_151 (by decide) ?_
              refine lv_aload_n hx hb dX11_readLine_274 rfl (lv_at hl 0 rfl) ?_
              refine va_get (D := (dC, dI)) (ci := 11) (v := .int (v222 1)) (C := RX11) (T := TX11) (N := 79) hx hb hts inB_11 hown hE.1 hP 0 rfl rfl 2 (by decide) (hts _ k_1322) (fun _ h9 => h9) rfl dX11_readLine_275 ?_
              have b1_v222 : 0 ≤ (v222 1).toInt ∧ (v222 1).toInt ≤ 4 := YIb.b hIv222.1 1 (by decide)
              refine lv_if_ne (tgt := 295) hx hb dX11_readLine_278 (by decide) (fun c231 => ?_) (fun c231 => ?_)
              · skip
                have zc231 : ¬ ((v222 1).toInt = 0) := by rw [fa_eq, show (0 : Int32).toInt = 0 from by decide] at c231; exact c231
                refine lv_aload_n hx hb dX11_readLine_295 rfl (lv_at hl 0 rfl) ?_
                refine va_get (D := (dC, dI)) (ci := 11) (v := .int (v222 1)) (C := RX11) (T := TX11) (N := 79) hx hb hts inB_11 hown hE.1 hP 0 rfl rfl 2 (by decide) (hts _ k_1322) (fun _ h9 => h9) rfl dX11_readLine_296 ?_
                refine lv_if_ne (tgt := 306) hx hb dX11_readLine_299 (by decide) (fun c232 => ?_) (fun c232 => ?_)
                · skip
                  have zc232 : ¬ ((v222 1).toInt = 0) := by rw [fa_eq, show (0 : Int32).toInt = 0 from by decide] at c232; exact c232
                  exact ret ((upd v222 20 r221), f223, w224, g225) _ _ _ _ _ _ ⟨⟨(YIb.upd (j := 20) (x := r221) hIv222.1 (rlo _) (rhi _)), hIv222.2⟩, hCf223, hRf223, hk0_v222, hk4_v222, hk9_v222, hk24_v222, hk25_v222, hk35_v222, hk36_v222, hk38_v222, hk39_v222, (by show GA (v222 1).toInt (v 3).toInt (v222 3).toInt; exact GA.ab hGR (by omega) (by omega)), (by show (v222 1).toInt = 0 → ¬ (v222 15).toInt = 0 → progOK (f223 2) (f223 3) ((v222 8).toInt).toNat; rw [hs2_f223, hs3_f223]; intro hz8 hz9; exact prog_n (hPR (by omega)) (by omega))⟩ hP hD hS dX11_readLine_306 (Nat.le_refl _) (Nat.le_refl _)
                · skip
                  have zc232 : (v222 1).toInt = 0 := by rw [fa_eq, show (0 : Int32).toInt = 0 from by decide] at c232; exact c232
                  have hgrew := GR.grew hGR (by omega) (by omega)
                  refine lv_aload_n hx hb dX11_readLine_302 rfl (lv_at hl 0 rfl) ?_
                  refine cbVv (n := 0) (rest := []) hx hb hml hown hts hE hP hD hS hA (sY_X11_token_1 l dC dI cy y0 r  (upd v222 20 r221) f223 w224 g225 ⟨(YIb.upd (j := 20) (x := r221) hIv222.1 (rlo _) (rhi _)), hIv222.2⟩ hCf223 hRf223 ) k_1579 k_1581 k_42 k_114 k_1582 (by decide +kernel) ⟨Nat.le_of_ble_eq_true rfl, Nat.le_of_ble_eq_true rfl⟩ 0 11 rfl rfl (rfl) hl.1 rfl (Nat.le_of_ble_eq_true rfl) dX11_readLine_303 (fun u H locs hw hP hD hS => ?_)
                  obtain ⟨v233, f234, w235, g236⟩ := u
                  obtain ⟨hIv233, hCf234, hRf234, hk0_v233, hk1_v233, hk4_v233, hk8_v233, hk9_v233, hk10_v233, hk13_v233, hk14_v233, hk15_v233, hk17_v233, hk18_v233, hk24_v233, hk25_v233, hk35_v233, hk36_v233, hk38_v233, hk39_v233, pv237, pv238, kq239, kq240, kq241⟩ := hw
                  have hP : va_P (dC, dI) vwCl (YW cy y0 r v233 f234 w235 g236) H := hP
                  have hD : va_D A (YW cy y0 r v233 f234 w235 g236) := hD
                  have b3_v233 : 0 ≤ (v233 3).toInt ∧ (v233 3).toInt ≤ 1600 := YIb.b hIv233.1 3 (by decide)
                  have pv237 : (v222 3).toInt ≤ (v233 3).toInt := pv237
                  have pv238 : (v233 5).toInt = (v222 5).toInt ∨ (v222 3).toInt < (v233 3).toInt ∨ ¬ (v233 5).toInt = 59 := pv238
                  have hs2_f234 : f234 2 = (f 2) := kq239.trans hs2_f223
                  have hs3_f234 : f234 3 = (f 3) := kq240.trans hs3_f223
                  have hs6_f234 : f234 6 = (f 6) := kq241.trans hs6_f223
                  have hUv233 : (v233 35).toInt + (v233 36).toInt ≤ 40 := hIv233.2
                  have hq0_v233 : v233 0 = (v 0) := hk0_v233.trans hq0_v222
                  have zq0_v233 := congrArg Int32.toInt hq0_v233
                  have hq1_v233 : v233 1 = (v222 1) := hk1_v233
                  have zq1_v233 := congrArg Int32.toInt hq1_v233
                  have hq4_v233 : v233 4 = (v 4) := hk4_v233.trans hq4_v222
                  have zq4_v233 := congrArg Int32.toInt hq4_v233
                  have hq8_v233 : v233 8 = (v 8) := hk8_v233.trans hq8_v222
                  have zq8_v233 := congrArg Int32.toInt hq8_v233
                  have hq9_v233 : v233 9 = (v 9) := hk9_v233.trans hq9_v222
                  have zq9_v233 := congrArg Int32.toInt hq9_v233
                  have hq10_v233 : v233 10 = (v 10) := hk10_v233.trans hq10_v222
                  have zq10_v233 := congrArg Int32.toInt hq10_v233
                  have hq13_v233 : v233 13 = (v 13) := hk13_v233.trans hq13_v222
                  have zq13_v233 := congrArg Int32.toInt hq13_v233
                  have hq14_v233 : v233 14 = (v 14) := hk14_v233.trans hq14_v222
                  have zq14_v233 := congrArg Int32.toInt hq14_v233
                  have hq15_v233 : v233 15 = (v 15) := hk15_v233.trans hq15_v222
                  have zq15_v233 := congrArg Int32.toInt hq15_v233
                  have hq17_v233 : v233 17 = (v 17) := hk17_v233.trans hq17_v222
                  have zq17_v233 := congrArg Int32.toInt hq17_v233
                  have hq18_v233 : v233 18 = (v 18) := hk18_v233.trans hq18_v222
                  have zq18_v233 := congrArg Int32.toInt hq18_v233
                  have hq24_v233 : v233 24 = (v 24) := hk24_v233.trans hq24_v222
                  have hq25_v233 : v233 25 = (v 25) := hk25_v233.trans hq25_v222
                  have hq35_v233 : v233 35 = (v 35) := hk35_v233.trans hq35_v222
                  have zq35_v233 := congrArg Int32.toInt hq35_v233
                  have hq36_v233 : v233 36 = (v 36) := hk36_v233.trans hq36_v222
                  have zq36_v233 := congrArg Int32.toInt hq36_v233
                  have hq38_v233 : v233 38 = (v 38) := hk38_v233.trans hq38_v222
                  have hq39_v233 : v233 39 = (v 39) := hk39_v233.trans hq39_v222
                  have hGR : GR (v 3).toInt (v 5).toInt (v233 3).toInt (v233 5).toInt := GR.tr hGR (show GR (v222 3).toInt (v222 5).toInt (v233 3).toInt (v233 5).toInt from ⟨pv237, pv238⟩) (by first | rfl | assumption | omega) (by first | rfl | assumption | omega)
                  clear pv238
                  exact ret (v233, f234, w235, g236) _ _ _ _ _ _ ⟨hIv233, hCf234, hRf234, (hk0_v233.trans hk0_v222), (hk4_v233.trans hk4_v222), (hk9_v233.trans hk9_v222), (hk24_v233.trans hk24_v222), (hk25_v233.trans hk25_v222), (hk35_v233.trans hk35_v222), (hk36_v233.trans hk36_v222), (hk38_v233.trans hk38_v222), (hk39_v233.trans hk39_v222), (by show GA (v233 1).toInt (v 3).toInt (v233 3).toInt; exact GA.mk hgrew hGR (by omega)), (by show (v233 1).toInt = 0 → ¬ (v233 15).toInt = 0 → progOK (f234 2) (f234 3) ((v233 8).toInt).toNat; rw [hs2_f234, hs3_f234]; intro hz8 hz9; exact prog_n (hPR (by omega)) (by omega))⟩ hP hD hS dX11_readLine_306 (Nat.le_refl _) (Nat.le_refl _)
              · skip
                have zc231 : (v222 1).toInt = 0 := by rw [fa_eq, show (0 : Int32).toInt = 0 from by decide] at c231; exact c231
                refine lv_aload_n hx hb dX11_readLine_281 rfl (lv_at hl 0 rfl) ?_
                refine va_get (D := (dC, dI)) (ci := 11) (v := .int (v222 5)) (C := RX11) (T := TX11) (N := 79) hx hb hts inB_11 hown hE.1 hP 0 rfl rfl 6 (by decide) (hts _ k_1326) (fun _ h9 => h9) rfl dX11_readLine_282 ?_
                refine lv_bipush (v := 59) hx hb dX11_readLine_285 (by decide) ?_
                refine lv_icmp_eq (tgt := 295) hx hb dX11_readLine_287 (by decide) (fun c242 => ?_) (fun c242 => ?_)
                · skip
                  have zc242 : (v222 5).toInt = 59 := by rw [fa_eq, show (59 : Int32).toInt = 59 from by decide] at c242; exact c242
                  refine lv_aload_n hx hb dX11_readLine_295 rfl (lv_at hl 0 rfl) ?_
                  refine va_get (D := (dC, dI)) (ci := 11) (v := .int (v222 1)) (C := RX11) (T := TX11) (N := 79) hx hb hts inB_11 hown hE.1 hP 0 rfl rfl 2 (by decide) (hts _ k_1322) (fun _ h9 => h9) rfl dX11_readLine_296 ?_
                  refine lv_if_ne (tgt := 306) hx hb dX11_readLine_299 (by decide) (fun c243 => ?_) (fun c243 => ?_)
                  · skip
                    have zc243 : ¬ ((v222 1).toInt = 0) := by rw [fa_eq, show (0 : Int32).toInt = 0 from by decide] at c243; exact c243
                    exact ret ((upd v222 20 r221), f223, w224, g225) _ _ _ _ _ _ ⟨⟨(YIb.upd (j := 20) (x := r221) hIv222.1 (rlo _) (rhi _)), hIv222.2⟩, hCf223, hRf223, hk0_v222, hk4_v222, hk9_v222, hk24_v222, hk25_v222, hk35_v222, hk36_v222, hk38_v222, hk39_v222, (by show GA (v222 1).toInt (v 3).toInt (v222 3).toInt; exact GA.ab hGR (by omega) (by omega)), (by show (v222 1).toInt = 0 → ¬ (v222 15).toInt = 0 → progOK (f223 2) (f223 3) ((v222 8).toInt).toNat; rw [hs2_f223, hs3_f223]; intro hz8 hz9; exact prog_n (hPR (by omega)) (by omega))⟩ hP hD hS dX11_readLine_306 (Nat.le_refl _) (Nat.le_refl _)
                  · skip
                    have zc243 : (v222 1).toInt = 0 := by rw [fa_eq, show (0 : Int32).toInt = 0 from by decide] at c243; exact c243
                    have hgrew := GR.grew hGR (by omega) (by omega)
                    refine lv_aload_n hx hb dX11_readLine_302 rfl (lv_at hl 0 rfl) ?_
                    refine cbVv (n := 0) (rest := []) hx hb hml hown hts hE hP hD hS hA (sY_X11_token_1 l dC dI cy y0 r  (upd v222 20 r221) f223 w224 g225 ⟨(YIb.upd (j := 20) (x := r221) hIv222.1 (rlo _) (rhi _)), hIv222.2⟩ hCf223 hRf223 ) k_1579 k_1581 k_42 k_114 k_1582 (by decide +kernel) ⟨Nat.le_of_ble_eq_true rfl, Nat.le_of_ble_eq_true rfl⟩ 0 11 rfl rfl (rfl) hl.1 rfl (Nat.le_of_ble_eq_true rfl) dX11_readLine_303 (fun u H locs hw hP hD hS => ?_)
                    obtain ⟨v244, f245, w246, g247⟩ := u
                    obtain ⟨hIv244, hCf245, hRf245, hk0_v244, hk1_v244, hk4_v244, hk8_v244, hk9_v244, hk10_v244, hk13_v244, hk14_v244, hk15_v244, hk17_v244, hk18_v244, hk24_v244, hk25_v244, hk35_v244, hk36_v244, hk38_v244, hk39_v244, pv248, pv249, kq250, kq251, kq252⟩ := hw
                    have hP : va_P (dC, dI) vwCl (YW cy y0 r v244 f245 w246 g247) H := hP
                    have hD : va_D A (YW cy y0 r v244 f245 w246 g247) := hD
                    have b3_v244 : 0 ≤ (v244 3).toInt ∧ (v244 3).toInt ≤ 1600 := YIb.b hIv244.1 3 (by decide)
                    have pv248 : (v222 3).toInt ≤ (v244 3).toInt := pv248
                    have pv249 : (v244 5).toInt = (v222 5).toInt ∨ (v222 3).toInt < (v244 3).toInt ∨ ¬ (v244 5).toInt = 59 := pv249
                    have hs2_f245 : f245 2 = (f 2) := kq250.trans hs2_f223
                    have hs3_f245 : f245 3 = (f 3) := kq251.trans hs3_f223
                    have hs6_f245 : f245 6 = (f 6) := kq252.trans hs6_f223
                    have hUv244 : (v244 35).toInt + (v244 36).toInt ≤ 40 := hIv244.2
                    have hq0_v244 : v244 0 = (v 0) := hk0_v244.trans hq0_v222
                    have zq0_v244 := congrArg Int32.toInt hq0_v244
                    have hq1_v244 : v244 1 = (v222 1) := hk1_v244
                    have zq1_v244 := congrArg Int32.toInt hq1_v244
                    have hq4_v244 : v244 4 = (v 4) := hk4_v244.trans hq4_v222
                    have zq4_v244 := congrArg Int32.toInt hq4_v244
                    have hq8_v244 : v244 8 = (v 8) := hk8_v244.trans hq8_v222
                    have zq8_v244 := congrArg Int32.toInt hq8_v244
                    have hq9_v244 : v244 9 = (v 9) := hk9_v244.trans hq9_v222
                    have zq9_v244 := congrArg Int32.toInt hq9_v244
                    have hq10_v244 : v244 10 = (v 10) := hk10_v244.trans hq10_v222
                    have zq10_v244 := congrArg Int32.toInt hq10_v244
                    have hq13_v244 : v244 13 = (v 13) := hk13_v244.trans hq13_v222
                    have zq13_v244 := congrArg Int32.toInt hq13_v244
                    have hq14_v244 : v244 14 = (v 14) := hk14_v244.trans hq14_v222
                    have zq14_v244 := congrArg Int32.toInt hq14_v244
                    have hq15_v244 : v244 15 = (v 15) := hk15_v244.trans hq15_v222
                    have zq15_v244 := congrArg Int32.toInt hq15_v244
                    have hq17_v244 : v244 17 = (v 17) := hk17_v244.trans hq17_v222
                    have zq17_v244 := congrArg Int32.toInt hq17_v244
                    have hq18_v244 : v244 18 = (v 18) := hk18_v244.trans hq18_v222
                    have zq18_v244 := congrArg Int32.toInt hq18_v244
                    have hq24_v244 : v244 24 = (v 24) := hk24_v244.trans hq24_v222
                    have hq25_v244 : v244 25 = (v 25) := hk25_v244.trans hq25_v222
                    have hq35_v244 : v244 35 = (v 35) := hk35_v244.trans hq35_v222
                    have zq35_v244 := congrArg Int32.toInt hq35_v244
                    have hq36_v244 : v244 36 = (v 36) := hk36_v244.trans hq36_v222
                    have zq36_v244 := congrArg Int32.toInt hq36_v244
                    have hq38_v244 : v244 38 = (v 38) := hk38_v244.trans hq38_v222
                    have hq39_v244 : v244 39 = (v 39) := hk39_v244.trans hq39_v222
                    have hGR : GR (v 3).toInt (v 5).toInt (v244 3).toInt (v244 5).toInt := GR.tr hGR (show GR (v222 3).toInt (v222 5).toInt (v244 3).toInt (v244 5).toInt from ⟨pv248, pv249⟩) (by first | rfl | assumption | omega) (by first | rfl | assumption | omega)
                    clear pv249
                    exact ret (v244, f245, w246, g247) _ _ _ _ _ _ ⟨hIv244, hCf245, hRf245, (hk0_v244.trans hk0_v222), (hk4_v244.trans hk4_v222), (hk9_v244.trans hk9_v222), (hk24_v244.trans hk24_v222), (hk25_v244.trans hk25_v222), (hk35_v244.trans hk35_v222), (hk36_v244.trans hk36_v222), (hk38_v244.trans hk38_v222), (hk39_v244.trans hk39_v222), (by show GA (v244 1).toInt (v 3).toInt (v244 3).toInt; exact GA.mk hgrew hGR (by omega)), (by show (v244 1).toInt = 0 → ¬ (v244 15).toInt = 0 → progOK (f245 2) (f245 3) ((v244 8).toInt).toNat; rw [hs2_f245, hs3_f245]; intro hz8 hz9; exact prog_n (hPR (by omega)) (by omega))⟩ hP hD hS dX11_readLine_306 (Nat.le_refl _) (Nat.le_refl _)
                · skip
                  have zc242 : ¬ ((v222 5).toInt = 59) := by rw [fa_eq, show (59 : Int32).toInt = 59 from by decide] at c242; exact c242
                  refine lv_aload_n hx hb dX11_readLine_290 rfl (lv_at hl 0 rfl) ?_
                  refine lv_iconst (v := 2) hx hb dX11_readLine_291 (by decide) ?_
                  refine cbVv (n := 1) (rest := []) hx hb hml hown hts hE hP hD hS hA (sY_X11_wrong_1 l dC dI cy y0 r 2 (upd v222 20 r221) f223 w224 g225 ⟨(YIb.upd (j := 20) (x := r221) hIv222.1 (rlo _) (rhi _)), hIv222.2⟩ hCf223 hRf223 ⟨by decide, by decide⟩) k_1641 k_1643 k_50 k_114 k_1644 (by decide +kernel) ⟨Nat.le_of_ble_eq_true rfl, Nat.le_of_ble_eq_true rfl⟩ 0 11 rfl rfl (rfl) hl.1 rfl (Nat.le_of_ble_eq_true rfl) dX11_readLine_292 (fun u H locs hw hP hD hS => ?_)
                  obtain ⟨v253, f254, w255, g256⟩ := u
                  obtain ⟨hIv253, hCf254, hRf254, hk0_v253, hk3_v253, hk4_v253, hk5_v253, hk8_v253, hk9_v253, hk10_v253, hk13_v253, hk14_v253, hk15_v253, hk17_v253, hk18_v253, hk24_v253, hk25_v253, hk35_v253, hk36_v253, hk38_v253, hk39_v253, pv257, pv258, pv259, kq260, kq261, kq262⟩ := hw
                  have hP : va_P (dC, dI) vwCl (YW cy y0 r v253 f254 w255 g256) H := hP
                  have hD : va_D A (YW cy y0 r v253 f254 w255 g256) := hD
                  have b3_v253 : 0 ≤ (v253 3).toInt ∧ (v253 3).toInt ≤ 1600 := YIb.b hIv253.1 3 (by decide)
                  have b1_v253 : 0 ≤ (v253 1).toInt ∧ (v253 1).toInt ≤ 4 := YIb.b hIv253.1 1 (by decide)
                  have pv257 : (v222 3).toInt ≤ (v253 3).toInt := pv257
                  have pv258 : (v253 5).toInt = (v222 5).toInt ∨ (v222 3).toInt < (v253 3).toInt ∨ ¬ (v253 5).toInt = 59 := pv258
                  have pv259 : 0 < (v253 1).toInt := pv259
                  have hs2_f254 : f254 2 = (f 2) := kq260.trans hs2_f223
                  have hs3_f254 : f254 3 = (f 3) := kq261.trans hs3_f223
                  have hs6_f254 : f254 6 = (f 6) := kq262.trans hs6_f223
                  have hUv253 : (v253 35).toInt + (v253 36).toInt ≤ 40 := hIv253.2
                  have hq0_v253 : v253 0 = (v 0) := hk0_v253.trans hq0_v222
                  have zq0_v253 := congrArg Int32.toInt hq0_v253
                  have hq3_v253 : v253 3 = (v222 3) := hk3_v253
                  have zq3_v253 := congrArg Int32.toInt hq3_v253
                  have hq4_v253 : v253 4 = (v 4) := hk4_v253.trans hq4_v222
                  have zq4_v253 := congrArg Int32.toInt hq4_v253
                  have hq5_v253 : v253 5 = (v222 5) := hk5_v253
                  have zq5_v253 := congrArg Int32.toInt hq5_v253
                  have hq8_v253 : v253 8 = (v 8) := hk8_v253.trans hq8_v222
                  have zq8_v253 := congrArg Int32.toInt hq8_v253
                  have hq9_v253 : v253 9 = (v 9) := hk9_v253.trans hq9_v222
                  have zq9_v253 := congrArg Int32.toInt hq9_v253
                  have hq10_v253 : v253 10 = (v 10) := hk10_v253.trans hq10_v222
                  have zq10_v253 := congrArg Int32.toInt hq10_v253
                  have hq13_v253 : v253 13 = (v 13) := hk13_v253.trans hq13_v222
                  have zq13_v253 := congrArg Int32.toInt hq13_v253
                  have hq14_v253 : v253 14 = (v 14) := hk14_v253.trans hq14_v222
                  have zq14_v253 := congrArg Int32.toInt hq14_v253
                  have hq15_v253 : v253 15 = (v 15) := hk15_v253.trans hq15_v222
                  have zq15_v253 := congrArg Int32.toInt hq15_v253
                  have hq17_v253 : v253 17 = (v 17) := hk17_v253.trans hq17_v222
                  have zq17_v253 := congrArg Int32.toInt hq17_v253
                  have hq18_v253 : v253 18 = (v 18) := hk18_v253.trans hq18_v222
                  have zq18_v253 := congrArg Int32.toInt hq18_v253
                  have hq24_v253 : v253 24 = (v 24) := hk24_v253.trans hq24_v222
                  have hq25_v253 : v253 25 = (v 25) := hk25_v253.trans hq25_v222
                  have hq35_v253 : v253 35 = (v 35) := hk35_v253.trans hq35_v222
                  have zq35_v253 := congrArg Int32.toInt hq35_v253
                  have hq36_v253 : v253 36 = (v 36) := hk36_v253.trans hq36_v222
                  have zq36_v253 := congrArg Int32.toInt hq36_v253
                  have hq38_v253 : v253 38 = (v 38) := hk38_v253.trans hq38_v222
                  have hq39_v253 : v253 39 = (v 39) := hk39_v253.trans hq39_v222
                  have hGR : GR (v 3).toInt (v 5).toInt (v253 3).toInt (v253 5).toInt := GR.tr hGR (show GR (v222 3).toInt (v222 5).toInt (v253 3).toInt (v253 5).toInt from ⟨pv257, pv258⟩) (by first | rfl | assumption | omega) (by first | rfl | assumption | omega)
                  clear pv258
                  refine lv_aload_n hx hb dX11_readLine_295 rfl (lv_at hl 0 rfl) ?_
                  refine va_get (D := (dC, dI)) (ci := 11) (v := .int (v253 1)) (C := RX11) (T := TX11) (N := 79) hx hb hts inB_11 hown hE.1 hP 0 rfl rfl 2 (by decide) (hts _ k_1322) (fun _ h9 => h9) rfl dX11_readLine_296 ?_
                  have b1_v253 : 0 ≤ (v253 1).toInt ∧ (v253 1).toInt ≤ 4 := YIb.b hIv253.1 1 (by decide)
                  refine lv_if_ne (tgt := 306) hx hb dX11_readLine_299 (by decide) (fun c263 => ?_) (fun c263 => ?_)
                  · skip
                    have zc263 : ¬ ((v253 1).toInt = 0) := by rw [fa_eq, show (0 : Int32).toInt = 0 from by decide] at c263; exact c263
                    exact ret (v253, f254, w255, g256) _ _ _ _ _ _ ⟨hIv253, hCf254, hRf254, (hk0_v253.trans hk0_v222), (hk4_v253.trans hk4_v222), (hk9_v253.trans hk9_v222), (hk24_v253.trans hk24_v222), (hk25_v253.trans hk25_v222), (hk35_v253.trans hk35_v222), (hk36_v253.trans hk36_v222), (hk38_v253.trans hk38_v222), (hk39_v253.trans hk39_v222), (by show GA (v253 1).toInt (v 3).toInt (v253 3).toInt; exact GA.ab hGR (by omega) (by omega)), (by show (v253 1).toInt = 0 → ¬ (v253 15).toInt = 0 → progOK (f254 2) (f254 3) ((v253 8).toInt).toNat; rw [hs2_f254, hs3_f254]; intro hz8 hz9; exact prog_n (hPR (by omega)) (by omega))⟩ hP hD hS dX11_readLine_306 (Nat.le_refl _) (Nat.le_refl _)
                  · skip
                    have zc263 : (v253 1).toInt = 0 := by rw [fa_eq, show (0 : Int32).toInt = 0 from by decide] at c263; exact c263
                    refine lv_aload_n hx hb dX11_readLine_302 rfl (lv_at hl 0 rfl) ?_
                    refine cbVv (n := 0) (rest := []) hx hb hml hown hts hE hP hD hS hA (sY_X11_token_1 l dC dI cy y0 r  v253 f254 w255 g256 hIv253 hCf254 hRf254 ) k_1579 k_1581 k_42 k_114 k_1582 (by decide +kernel) ⟨Nat.le_of_ble_eq_true rfl, Nat.le_of_ble_eq_true rfl⟩ 0 11 rfl rfl (rfl) hl.1 rfl (Nat.le_of_ble_eq_true rfl) dX11_readLine_303 (fun u H locs hw hP hD hS => ?_)
                    obtain ⟨v264, f265, w266, g267⟩ := u
                    obtain ⟨hIv264, hCf265, hRf265, hk0_v264, hk1_v264, hk4_v264, hk8_v264, hk9_v264, hk10_v264, hk13_v264, hk14_v264, hk15_v264, hk17_v264, hk18_v264, hk24_v264, hk25_v264, hk35_v264, hk36_v264, hk38_v264, hk39_v264, pv268, pv269, kq270, kq271, kq272⟩ := hw
                    have hP : va_P (dC, dI) vwCl (YW cy y0 r v264 f265 w266 g267) H := hP
                    have hD : va_D A (YW cy y0 r v264 f265 w266 g267) := hD
                    have b3_v264 : 0 ≤ (v264 3).toInt ∧ (v264 3).toInt ≤ 1600 := YIb.b hIv264.1 3 (by decide)
                    have pv268 : (v253 3).toInt ≤ (v264 3).toInt := pv268
                    have pv269 : (v264 5).toInt = (v253 5).toInt ∨ (v253 3).toInt < (v264 3).toInt ∨ ¬ (v264 5).toInt = 59 := pv269
                    have hs2_f265 : f265 2 = (f 2) := kq270.trans hs2_f254
                    have hs3_f265 : f265 3 = (f 3) := kq271.trans hs3_f254
                    have hs6_f265 : f265 6 = (f 6) := kq272.trans hs6_f254
                    have hUv264 : (v264 35).toInt + (v264 36).toInt ≤ 40 := hIv264.2
                    have hq0_v264 : v264 0 = (v 0) := hk0_v264.trans hq0_v253
                    have zq0_v264 := congrArg Int32.toInt hq0_v264
                    have hq1_v264 : v264 1 = (v253 1) := hk1_v264
                    have zq1_v264 := congrArg Int32.toInt hq1_v264
                    have hq4_v264 : v264 4 = (v 4) := hk4_v264.trans hq4_v253
                    have zq4_v264 := congrArg Int32.toInt hq4_v264
                    have hq8_v264 : v264 8 = (v 8) := hk8_v264.trans hq8_v253
                    have zq8_v264 := congrArg Int32.toInt hq8_v264
                    have hq9_v264 : v264 9 = (v 9) := hk9_v264.trans hq9_v253
                    have zq9_v264 := congrArg Int32.toInt hq9_v264
                    have hq10_v264 : v264 10 = (v 10) := hk10_v264.trans hq10_v253
                    have zq10_v264 := congrArg Int32.toInt hq10_v264
                    have hq13_v264 : v264 13 = (v 13) := hk13_v264.trans hq13_v253
                    have zq13_v264 := congrArg Int32.toInt hq13_v264
                    have hq14_v264 : v264 14 = (v 14) := hk14_v264.trans hq14_v253
                    have zq14_v264 := congrArg Int32.toInt hq14_v264
                    have hq15_v264 : v264 15 = (v 15) := hk15_v264.trans hq15_v253
                    have zq15_v264 := congrArg Int32.toInt hq15_v264
                    have hq17_v264 : v264 17 = (v 17) := hk17_v264.trans hq17_v253
                    have zq17_v264 := congrArg Int32.toInt hq17_v264
                    have hq18_v264 : v264 18 = (v 18) := hk18_v264.trans hq18_v253
                    have zq18_v264 := congrArg Int32.toInt hq18_v264
                    have hq24_v264 : v264 24 = (v 24) := hk24_v264.trans hq24_v253
                    have hq25_v264 : v264 25 = (v 25) := hk25_v264.trans hq25_v253
                    have hq35_v264 : v264 35 = (v 35) := hk35_v264.trans hq35_v253
                    have zq35_v264 := congrArg Int32.toInt hq35_v264
                    have hq36_v264 : v264 36 = (v 36) := hk36_v264.trans hq36_v253
                    have zq36_v264 := congrArg Int32.toInt hq36_v264
                    have hq38_v264 : v264 38 = (v 38) := hk38_v264.trans hq38_v253
                    have hq39_v264 : v264 39 = (v 39) := hk39_v264.trans hq39_v253
                    have hGR : GR (v 3).toInt (v 5).toInt (v264 3).toInt (v264 5).toInt := GR.tr hGR (show GR (v253 3).toInt (v253 5).toInt (v264 3).toInt (v264 5).toInt from ⟨pv268, pv269⟩) (by first | rfl | assumption | omega) (by first | rfl | assumption | omega)
                    clear pv269
                    exact ret (v264, f265, w266, g267) _ _ _ _ _ _ ⟨hIv264, hCf265, hRf265, (hk0_v264.trans (hk0_v253.trans hk0_v222)), (hk4_v264.trans (hk4_v253.trans hk4_v222)), (hk9_v264.trans (hk9_v253.trans hk9_v222)), (hk24_v264.trans (hk24_v253.trans hk24_v222)), (hk25_v264.trans (hk25_v253.trans hk25_v222)), (hk35_v264.trans (hk35_v253.trans hk35_v222)), (hk36_v264.trans (hk36_v253.trans hk36_v222)), (hk38_v264.trans (hk38_v253.trans hk38_v222)), (hk39_v264.trans (hk39_v253.trans hk39_v222)), (by show GA (v264 1).toInt (v 3).toInt (v264 3).toInt; exact GA.ab hGR (by omega) (by omega)), (by show (v264 1).toInt = 0 → ¬ (v264 15).toInt = 0 → progOK (f265 2) (f265 3) ((v264 8).toInt).toNat; rw [hs2_f265, hs3_f265]; intro hz8 hz9; exact prog_n (hPR (by omega)) (by omega))⟩ hP hD hS dX11_readLine_306 (Nat.le_refl _) (Nat.le_refl _)
          · skip
            subst g219
            refine lv_if_eq (tgt := 154) hx hb dX11_readLine_122 (by decide) (fun _ => ?_) (fun c0 => absurd (by decide) c0)
            exact jp154 _ _ _ hP hD hS hl
        refine lv_aload_n hx hb dX11_readLine_76 rfl (lv_at hl 0 rfl) ?_
        refine lv_ldc2 (v := 1700885369) hx hb hown (hts _ k_1628) dX11_readLine_77 ?_
        refine cbVi (n := 1) (rest := []) hx hb hml hown hts hE hP hD hS hA (sY_X11_isWord_1 l dC dI cy y0 r 1700885369 v f w g hIv hCf hRf ) k_1601 k_1603 k_45 k_114 k_1604 (by decide +kernel) ⟨Nat.le_of_ble_eq_true rfl, Nat.le_of_ble_eq_true rfl⟩ 0 11 rfl rfl (rfl) hl.1 rfl (Nat.le_of_ble_eq_true rfl) dX11_readLine_80 (fun r273 u H locs hw hP hD hS => ?_)
        rcases hw with ⟨g274, g274_0⟩ | ⟨g274⟩
        · skip
          subst g274
          refine lv_if_eq (tgt := 115) hx hb dX11_readLine_83 (by decide) (fun c0 => absurd c0 (by decide)) (fun _ => ?_)
          refine lv_aload_n hx hb dX11_readLine_86 rfl (lv_at hl 0 rfl) ?_
          refine va_get (D := (dC, dI)) (ci := 11) (v := .int (v 30)) (C := RX11) (T := TX11) (N := 79) hx hb hts inB_11 hown hE.1 hP 0 rfl rfl 54 (by decide) (hts _ k_1374) (fun _ h9 => h9) rfl dX11_readLine_87 ?_
          refine lv_if_ne (tgt := 115) hx hb dX11_readLine_90 (by decide) (fun c275 => ?_) (fun c275 => ?_)
          · skip
            have zc275 : ¬ ((v 30).toInt = 0) := by rw [fa_eq, show (0 : Int32).toInt = 0 from by decide] at c275; exact c275
            exact jp115 _ _ _ hP hD hS hl
          · skip
            have zc275 : (v 30).toInt = 0 := by rw [fa_eq, show (0 : Int32).toInt = 0 from by decide] at c275; exact c275
            refine lv_aload_n hx hb dX11_readLine_93 rfl (lv_at hl 0 rfl) ?_
            refine lv_iconst (v := 1) hx hb dX11_readLine_94 (by decide) ?_
            refine va_put (D := (dC, dI)) (ci := 11) (v := .int 1) (ty := tyX11 54) (C := RX11) (T := TX11) (N := 79) hx hb hts inB_11 tyX11 tyX11_ok nmX11 hown hE.1 hP hD hS 0 rfl rfl 54 (by decide) (hts _ k_1374) (fun _ h9 => h9) rfl (tyX11_ok 54 (by decide)) rfl rfl (Nat.le_of_ble_eq_true rfl) dX11_readLine_95 (fun H locs hP hD hS => ?_)
            have hP : va_P (dC, dI) vwCl (YW cy y0 r (upd v 30 1) f w g) H := hP
            have hD : va_D A (YW cy y0 r (upd v 30 1) f w g) := hD
            refine lv_aload_n hx hb dX11_readLine_98 rfl (lv_at hl 0 rfl) ?_
            refine lv_aload_n hx hb dX11_readLine_99 rfl (lv_at hl 0 rfl) ?_
            refine lv_ldc2 (v := 1700885369) hx hb hown (hts _ k_1628) dX11_readLine_100 ?_
            refine lv_sipush (v := 999) hx hb dX11_readLine_103 (by decide) ?_
            refine cbVi (n := 2) (rest := [.ref y0]) hx hb hml hown hts hE hP hD hS hA (sY_X11_told_1 l dC dI cy y0 r 1700885369 999 (upd v 30 1) f w g ⟨(YIb.upd (j := 30) (x := 1) hIv.1 (rlo _) (rhi _)), hIv.2⟩ hCf hRf ) k_1645 k_1647 k_51 k_114 k_1648 (by decide +kernel) ⟨Nat.le_of_ble_eq_true rfl, Nat.le_of_ble_eq_true rfl⟩ 0 11 rfl rfl (rfl) hl.1 rfl (Nat.le_of_ble_eq_true rfl) dX11_readLine_106 (fun r276 u H locs hw hP hD hS => ?_)
            obtain ⟨v277, f278, w279, g280⟩ := u
            obtain ⟨hIv277, hCf278, hRf278, hk0_v277, hk4_v277, hk8_v277, hk9_v277, hk10_v277, hk13_v277, hk14_v277, hk15_v277, hk17_v277, hk18_v277, hk24_v277, hk25_v277, hk35_v277, hk36_v277, hk38_v277, hk39_v277, pv281, pv282, kq283, kq284, kq285⟩ := hw
            have hP : va_P (dC, dI) vwCl (YW cy y0 r v277 f278 w279 g280) H := hP
            have hD : va_D A (YW cy y0 r v277 f278 w279 g280) := hD
            have b3_v277 : 0 ≤ (v277 3).toInt ∧ (v277 3).toInt ≤ 1600 := YIb.b hIv277.1 3 (by decide)
            have pv281 : (v 3).toInt ≤ (v277 3).toInt := pv281
            have pv282 : (v277 5).toInt = (v 5).toInt ∨ (v 3).toInt < (v277 3).toInt ∨ ¬ (v277 5).toInt = 59 := pv282
            have hs2_f278 : f278 2 = (f 2) := kq283
            have hs3_f278 : f278 3 = (f 3) := kq284
            have hs6_f278 : f278 6 = (f 6) := kq285
            have hUv277 : (v277 35).toInt + (v277 36).toInt ≤ 40 := hIv277.2
            have hq0_v277 : v277 0 = (v 0) := hk0_v277
            have zq0_v277 := congrArg Int32.toInt hq0_v277
            have hq4_v277 : v277 4 = (v 4) := hk4_v277
            have zq4_v277 := congrArg Int32.toInt hq4_v277
            have hq8_v277 : v277 8 = (v 8) := hk8_v277
            have zq8_v277 := congrArg Int32.toInt hq8_v277
            have hq9_v277 : v277 9 = (v 9) := hk9_v277
            have zq9_v277 := congrArg Int32.toInt hq9_v277
            have hq10_v277 : v277 10 = (v 10) := hk10_v277
            have zq10_v277 := congrArg Int32.toInt hq10_v277
            have hq13_v277 : v277 13 = (v 13) := hk13_v277
            have zq13_v277 := congrArg Int32.toInt hq13_v277
            have hq14_v277 : v277 14 = (v 14) := hk14_v277
            have zq14_v277 := congrArg Int32.toInt hq14_v277
            have hq15_v277 : v277 15 = (v 15) := hk15_v277
            have zq15_v277 := congrArg Int32.toInt hq15_v277
            have hq17_v277 : v277 17 = (v 17) := hk17_v277
            have zq17_v277 := congrArg Int32.toInt hq17_v277
            have hq18_v277 : v277 18 = (v 18) := hk18_v277
            have zq18_v277 := congrArg Int32.toInt hq18_v277
            have hq24_v277 : v277 24 = (v 24) := hk24_v277
            have hq25_v277 : v277 25 = (v 25) := hk25_v277
            have hq35_v277 : v277 35 = (v 35) := hk35_v277
            have zq35_v277 := congrArg Int32.toInt hq35_v277
            have hq36_v277 : v277 36 = (v 36) := hk36_v277
            have zq36_v277 := congrArg Int32.toInt hq36_v277
            have hq38_v277 : v277 38 = (v 38) := hk38_v277
            have hq39_v277 : v277 39 = (v 39) := hk39_v277
            have hGR : GR (v 3).toInt (v 5).toInt (v277 3).toInt (v277 5).toInt := GR.tr hGR (show GR (v 3).toInt (v 5).toInt (v277 3).toInt (v277 5).toInt from ⟨pv281, pv282⟩) (by first | rfl | assumption | omega) (by first | rfl | assumption | omega)
            clear pv282
            refine va_put (D := (dC, dI)) (ci := 11) (v := .int r276) (ty := tyX11 43) (C := RX11) (T := TX11) (N := 79) hx hb hts inB_11 tyX11 tyX11_ok nmX11 hown hE.1 hP hD hS 0 rfl rfl 43 (by decide) (hts _ k_1363) (fun _ h9 => h9) rfl (tyX11_ok 43 (by decide)) rfl rfl (Nat.le_of_ble_eq_true rfl) dX11_readLine_109 (fun H locs hP hD hS => ?_)
            have hP : va_P (dC, dI) vwCl (YW cy y0 r (upd v277 19 r276) f278 w279 g280) H := hP
            have hD : va_D A (YW cy y0 r (upd v277 19 r276) f278 w279 g280) := hD
            refine lv_goto (tgt := 274) hx hb dX11_readLine_112 (by decide) ?_
            refine lv_aload_n hx hb dX11_readLine_274 rfl (lv_at hl 0 rfl) ?_
            refine va_get (D := (dC, dI)) (ci := 11) (v := .int (v277 1)) (C := RX11) (T := TX11) (N := 79) hx hb hts inB_11 hown hE.1 hP 0 rfl rfl 2 (by decide) (hts _ k_1322) (fun _ h9 => h9) rfl dX11_readLine_275 ?_
            have b1_v277 : 0 ≤ (v277 1).toInt ∧ (v277 1).toInt ≤ 4 := YIb.b hIv277.1 1 (by decide)
            refine lv_if_ne (tgt := 295) hx hb dX11_readLine_278 (by decide) (fun c286 => ?_) (fun c286 => ?_)
            · skip
              have zc286 : ¬ ((v277 1).toInt = 0) := by rw [fa_eq, show (0 : Int32).toInt = 0 from by decide] at c286; exact c286
              refine lv_aload_n hx hb dX11_readLine_295 rfl (lv_at hl 0 rfl) ?_
              refine va_get (D := (dC, dI)) (ci := 11) (v := .int (v277 1)) (C := RX11) (T := TX11) (N := 79) hx hb hts inB_11 hown hE.1 hP 0 rfl rfl 2 (by decide) (hts _ k_1322) (fun _ h9 => h9) rfl dX11_readLine_296 ?_
              refine lv_if_ne (tgt := 306) hx hb dX11_readLine_299 (by decide) (fun c287 => ?_) (fun c287 => ?_)
              · skip
                have zc287 : ¬ ((v277 1).toInt = 0) := by rw [fa_eq, show (0 : Int32).toInt = 0 from by decide] at c287; exact c287
                exact ret ((upd v277 19 r276), f278, w279, g280) _ _ _ _ _ _ ⟨⟨(YIb.upd (j := 19) (x := r276) hIv277.1 (rlo _) (rhi _)), hIv277.2⟩, hCf278, hRf278, hk0_v277, hk4_v277, hk9_v277, hk24_v277, hk25_v277, hk35_v277, hk36_v277, hk38_v277, hk39_v277, (by show GA (v277 1).toInt (v 3).toInt (v277 3).toInt; exact GA.ab hGR (by omega) (by omega)), (by show (v277 1).toInt = 0 → ¬ (v277 15).toInt = 0 → progOK (f278 2) (f278 3) ((v277 8).toInt).toNat; rw [hs2_f278, hs3_f278]; intro hz8 hz9; exact prog_n (hPR (by omega)) (by omega))⟩ hP hD hS dX11_readLine_306 (Nat.le_refl _) (Nat.le_refl _)
              · skip
                have zc287 : (v277 1).toInt = 0 := by rw [fa_eq, show (0 : Int32).toInt = 0 from by decide] at c287; exact c287
                have hgrew := GR.grew hGR (by omega) (by omega)
                refine lv_aload_n hx hb dX11_readLine_302 rfl (lv_at hl 0 rfl) ?_
                refine cbVv (n := 0) (rest := []) hx hb hml hown hts hE hP hD hS hA (sY_X11_token_1 l dC dI cy y0 r  (upd v277 19 r276) f278 w279 g280 ⟨(YIb.upd (j := 19) (x := r276) hIv277.1 (rlo _) (rhi _)), hIv277.2⟩ hCf278 hRf278 ) k_1579 k_1581 k_42 k_114 k_1582 (by decide +kernel) ⟨Nat.le_of_ble_eq_true rfl, Nat.le_of_ble_eq_true rfl⟩ 0 11 rfl rfl (rfl) hl.1 rfl (Nat.le_of_ble_eq_true rfl) dX11_readLine_303 (fun u H locs hw hP hD hS => ?_)
                obtain ⟨v288, f289, w290, g291⟩ := u
                obtain ⟨hIv288, hCf289, hRf289, hk0_v288, hk1_v288, hk4_v288, hk8_v288, hk9_v288, hk10_v288, hk13_v288, hk14_v288, hk15_v288, hk17_v288, hk18_v288, hk24_v288, hk25_v288, hk35_v288, hk36_v288, hk38_v288, hk39_v288, pv292, pv293, kq294, kq295, kq296⟩ := hw
                have hP : va_P (dC, dI) vwCl (YW cy y0 r v288 f289 w290 g291) H := hP
                have hD : va_D A (YW cy y0 r v288 f289 w290 g291) := hD
                have b3_v288 : 0 ≤ (v288 3).toInt ∧ (v288 3).toInt ≤ 1600 := YIb.b hIv288.1 3 (by decide)
                have pv292 : (v277 3).toInt ≤ (v288 3).toInt := pv292
                have pv293 : (v288 5).toInt = (v277 5).toInt ∨ (v277 3).toInt < (v288 3).toInt ∨ ¬ (v288 5).toInt = 59 := pv293
                have hs2_f289 : f289 2 = (f 2) := kq294.trans hs2_f278
                have hs3_f289 : f289 3 = (f 3) := kq295.trans hs3_f278
                have hs6_f289 : f289 6 = (f 6) := kq296.trans hs6_f278
                have hUv288 : (v288 35).toInt + (v288 36).toInt ≤ 40 := hIv288.2
                have hq0_v288 : v288 0 = (v 0) := hk0_v288.trans hq0_v277
                have zq0_v288 := congrArg Int32.toInt hq0_v288
                have hq1_v288 : v288 1 = (v277 1) := hk1_v288
                have zq1_v288 := congrArg Int32.toInt hq1_v288
                have hq4_v288 : v288 4 = (v 4) := hk4_v288.trans hq4_v277
                have zq4_v288 := congrArg Int32.toInt hq4_v288
                have hq8_v288 : v288 8 = (v 8) := hk8_v288.trans hq8_v277
                have zq8_v288 := congrArg Int32.toInt hq8_v288
                have hq9_v288 : v288 9 = (v 9) := hk9_v288.trans hq9_v277
                have zq9_v288 := congrArg Int32.toInt hq9_v288
                have hq10_v288 : v288 10 = (v 10) := hk10_v288.trans hq10_v277
                have zq10_v288 := congrArg Int32.toInt hq10_v288
                have hq13_v288 : v288 13 = (v 13) := hk13_v288.trans hq13_v277
                have zq13_v288 := congrArg Int32.toInt hq13_v288
                have hq14_v288 : v288 14 = (v 14) := hk14_v288.trans hq14_v277
                have zq14_v288 := congrArg Int32.toInt hq14_v288
                have hq15_v288 : v288 15 = (v 15) := hk15_v288.trans hq15_v277
                have zq15_v288 := congrArg Int32.toInt hq15_v288
                have hq17_v288 : v288 17 = (v 17) := hk17_v288.trans hq17_v277
                have zq17_v288 := congrArg Int32.toInt hq17_v288
                have hq18_v288 : v288 18 = (v 18) := hk18_v288.trans hq18_v277
                have zq18_v288 := congrArg Int32.toInt hq18_v288
                have hq24_v288 : v288 24 = (v 24) := hk24_v288.trans hq24_v277
                have hq25_v288 : v288 25 = (v 25) := hk25_v288.trans hq25_v277
                have hq35_v288 : v288 35 = (v 35) := hk35_v288.trans hq35_v277
                have zq35_v288 := congrArg Int32.toInt hq35_v288
                have hq36_v288 : v288 36 = (v 36) := hk36_v288.trans hq36_v277
                have zq36_v288 := congrArg Int32.toInt hq36_v288
                have hq38_v288 : v288 38 = (v 38) := hk38_v288.trans hq38_v277
                have hq39_v288 : v288 39 = (v 39) := hk39_v288.trans hq39_v277
                have hGR : GR (v 3).toInt (v 5).toInt (v288 3).toInt (v288 5).toInt := GR.tr hGR (show GR (v277 3).toInt (v277 5).toInt (v288 3).toInt (v288 5).toInt from ⟨pv292, pv293⟩) (by first | rfl | assumption | omega) (by first | rfl | assumption | omega)
                clear pv293
                exact ret (v288, f289, w290, g291) _ _ _ _ _ _ ⟨hIv288, hCf289, hRf289, (hk0_v288.trans hk0_v277), (hk4_v288.trans hk4_v277), (hk9_v288.trans hk9_v277), (hk24_v288.trans hk24_v277), (hk25_v288.trans hk25_v277), (hk35_v288.trans hk35_v277), (hk36_v288.trans hk36_v277), (hk38_v288.trans hk38_v277), (hk39_v288.trans hk39_v277), (by show GA (v288 1).toInt (v 3).toInt (v288 3).toInt; exact GA.mk hgrew hGR (by omega)), (by show (v288 1).toInt = 0 → ¬ (v288 15).toInt = 0 → progOK (f289 2) (f289 3) ((v288 8).toInt).toNat; rw [hs2_f289, hs3_f289]; intro hz8 hz9; exact prog_n (hPR (by omega)) (by omega))⟩ hP hD hS dX11_readLine_306 (Nat.le_refl _) (Nat.le_refl _)
            · skip
              have zc286 : (v277 1).toInt = 0 := by rw [fa_eq, show (0 : Int32).toInt = 0 from by decide] at c286; exact c286
              refine lv_aload_n hx hb dX11_readLine_281 rfl (lv_at hl 0 rfl) ?_
              refine va_get (D := (dC, dI)) (ci := 11) (v := .int (v277 5)) (C := RX11) (T := TX11) (N := 79) hx hb hts inB_11 hown hE.1 hP 0 rfl rfl 6 (by decide) (hts _ k_1326) (fun _ h9 => h9) rfl dX11_readLine_282 ?_
              refine lv_bipush (v := 59) hx hb dX11_readLine_285 (by decide) ?_
              refine lv_icmp_eq (tgt := 295) hx hb dX11_readLine_287 (by decide) (fun c297 => ?_) (fun c297 => ?_)
              · skip
                have zc297 : (v277 5).toInt = 59 := by rw [fa_eq, show (59 : Int32).toInt = 59 from by decide] at c297; exact c297
                refine lv_aload_n hx hb dX11_readLine_295 rfl (lv_at hl 0 rfl) ?_
                refine va_get (D := (dC, dI)) (ci := 11) (v := .int (v277 1)) (C := RX11) (T := TX11) (N := 79) hx hb hts inB_11 hown hE.1 hP 0 rfl rfl 2 (by decide) (hts _ k_1322) (fun _ h9 => h9) rfl dX11_readLine_296 ?_
                refine lv_if_ne (tgt := 306) hx hb dX11_readLine_299 (by decide) (fun c298 => ?_) (fun c298 => ?_)
                · skip
                  have zc298 : ¬ ((v277 1).toInt = 0) := by rw [fa_eq, show (0 : Int32).toInt = 0 from by decide] at c298; exact c298
                  exact ret ((upd v277 19 r276), f278, w279, g280) _ _ _ _ _ _ ⟨⟨(YIb.upd (j := 19) (x := r276) hIv277.1 (rlo _) (rhi _)), hIv277.2⟩, hCf278, hRf278, hk0_v277, hk4_v277, hk9_v277, hk24_v277, hk25_v277, hk35_v277, hk36_v277, hk38_v277, hk39_v277, (by show GA (v277 1).toInt (v 3).toInt (v277 3).toInt; exact GA.ab hGR (by omega) (by omega)), (by show (v277 1).toInt = 0 → ¬ (v277 15).toInt = 0 → progOK (f278 2) (f278 3) ((v277 8).toInt).toNat; rw [hs2_f278, hs3_f278]; intro hz8 hz9; exact prog_n (hPR (by omega)) (by omega))⟩ hP hD hS dX11_readLine_306 (Nat.le_refl _) (Nat.le_refl _)
                · skip
                  have zc298 : (v277 1).toInt = 0 := by rw [fa_eq, show (0 : Int32).toInt = 0 from by decide] at c298; exact c298
                  have hgrew := GR.grew hGR (by omega) (by omega)
                  refine lv_aload_n hx hb dX11_readLine_302 rfl (lv_at hl 0 rfl) ?_
                  refine cbVv (n := 0) (rest := []) hx hb hml hown hts hE hP hD hS hA (sY_X11_token_1 l dC dI cy y0 r  (upd v277 19 r276) f278 w279 g280 ⟨(YIb.upd (j := 19) (x := r276) hIv277.1 (rlo _) (rhi _)), hIv277.2⟩ hCf278 hRf278 ) k_1579 k_1581 k_42 k_114 k_1582 (by decide +kernel) ⟨Nat.le_of_ble_eq_true rfl, Nat.le_of_ble_eq_true rfl⟩ 0 11 rfl rfl (rfl) hl.1 rfl (Nat.le_of_ble_eq_true rfl) dX11_readLine_303 (fun u H locs hw hP hD hS => ?_)
                  obtain ⟨v299, f300, w301, g302⟩ := u
                  obtain ⟨hIv299, hCf300, hRf300, hk0_v299, hk1_v299, hk4_v299, hk8_v299, hk9_v299, hk10_v299, hk13_v299, hk14_v299, hk15_v299, hk17_v299, hk18_v299, hk24_v299, hk25_v299, hk35_v299, hk36_v299, hk38_v299, hk39_v299, pv303, pv304, kq305, kq306, kq307⟩ := hw
                  have hP : va_P (dC, dI) vwCl (YW cy y0 r v299 f300 w301 g302) H := hP
                  have hD : va_D A (YW cy y0 r v299 f300 w301 g302) := hD
                  have b3_v299 : 0 ≤ (v299 3).toInt ∧ (v299 3).toInt ≤ 1600 := YIb.b hIv299.1 3 (by decide)
                  have pv303 : (v277 3).toInt ≤ (v299 3).toInt := pv303
                  have pv304 : (v299 5).toInt = (v277 5).toInt ∨ (v277 3).toInt < (v299 3).toInt ∨ ¬ (v299 5).toInt = 59 := pv304
                  have hs2_f300 : f300 2 = (f 2) := kq305.trans hs2_f278
                  have hs3_f300 : f300 3 = (f 3) := kq306.trans hs3_f278
                  have hs6_f300 : f300 6 = (f 6) := kq307.trans hs6_f278
                  have hUv299 : (v299 35).toInt + (v299 36).toInt ≤ 40 := hIv299.2
                  have hq0_v299 : v299 0 = (v 0) := hk0_v299.trans hq0_v277
                  have zq0_v299 := congrArg Int32.toInt hq0_v299
                  have hq1_v299 : v299 1 = (v277 1) := hk1_v299
                  have zq1_v299 := congrArg Int32.toInt hq1_v299
                  have hq4_v299 : v299 4 = (v 4) := hk4_v299.trans hq4_v277
                  have zq4_v299 := congrArg Int32.toInt hq4_v299
                  have hq8_v299 : v299 8 = (v 8) := hk8_v299.trans hq8_v277
                  have zq8_v299 := congrArg Int32.toInt hq8_v299
                  have hq9_v299 : v299 9 = (v 9) := hk9_v299.trans hq9_v277
                  have zq9_v299 := congrArg Int32.toInt hq9_v299
                  have hq10_v299 : v299 10 = (v 10) := hk10_v299.trans hq10_v277
                  have zq10_v299 := congrArg Int32.toInt hq10_v299
                  have hq13_v299 : v299 13 = (v 13) := hk13_v299.trans hq13_v277
                  have zq13_v299 := congrArg Int32.toInt hq13_v299
                  have hq14_v299 : v299 14 = (v 14) := hk14_v299.trans hq14_v277
                  have zq14_v299 := congrArg Int32.toInt hq14_v299
                  have hq15_v299 : v299 15 = (v 15) := hk15_v299.trans hq15_v277
                  have zq15_v299 := congrArg Int32.toInt hq15_v299
                  have hq17_v299 : v299 17 = (v 17) := hk17_v299.trans hq17_v277
                  have zq17_v299 := congrArg Int32.toInt hq17_v299
                  have hq18_v299 : v299 18 = (v 18) := hk18_v299.trans hq18_v277
                  have zq18_v299 := congrArg Int32.toInt hq18_v299
                  have hq24_v299 : v299 24 = (v 24) := hk24_v299.trans hq24_v277
                  have hq25_v299 : v299 25 = (v 25) := hk25_v299.trans hq25_v277
                  have hq35_v299 : v299 35 = (v 35) := hk35_v299.trans hq35_v277
                  have zq35_v299 := congrArg Int32.toInt hq35_v299
                  have hq36_v299 : v299 36 = (v 36) := hk36_v299.trans hq36_v277
                  have zq36_v299 := congrArg Int32.toInt hq36_v299
                  have hq38_v299 : v299 38 = (v 38) := hk38_v299.trans hq38_v277
                  have hq39_v299 : v299 39 = (v 39) := hk39_v299.trans hq39_v277
                  have hGR : GR (v 3).toInt (v 5).toInt (v299 3).toInt (v299 5).toInt := GR.tr hGR (show GR (v277 3).toInt (v277 5).toInt (v299 3).toInt (v299 5).toInt from ⟨pv303, pv304⟩) (by first | rfl | assumption | omega) (by first | rfl | assumption | omega)
                  clear pv304
                  exact ret (v299, f300, w301, g302) _ _ _ _ _ _ ⟨hIv299, hCf300, hRf300, (hk0_v299.trans hk0_v277), (hk4_v299.trans hk4_v277), (hk9_v299.trans hk9_v277), (hk24_v299.trans hk24_v277), (hk25_v299.trans hk25_v277), (hk35_v299.trans hk35_v277), (hk36_v299.trans hk36_v277), (hk38_v299.trans hk38_v277), (hk39_v299.trans hk39_v277), (by show GA (v299 1).toInt (v 3).toInt (v299 3).toInt; exact GA.mk hgrew hGR (by omega)), (by show (v299 1).toInt = 0 → ¬ (v299 15).toInt = 0 → progOK (f300 2) (f300 3) ((v299 8).toInt).toNat; rw [hs2_f300, hs3_f300]; intro hz8 hz9; exact prog_n (hPR (by omega)) (by omega))⟩ hP hD hS dX11_readLine_306 (Nat.le_refl _) (Nat.le_refl _)
              · skip
                have zc297 : ¬ ((v277 5).toInt = 59) := by rw [fa_eq, show (59 : Int32).toInt = 59 from by decide] at c297; exact c297
                refine lv_aload_n hx hb dX11_readLine_290 rfl (lv_at hl 0 rfl) ?_
                refine lv_iconst (v := 2) hx hb dX11_readLine_291 (by decide) ?_
                refine cbVv (n := 1) (rest := []) hx hb hml hown hts hE hP hD hS hA (sY_X11_wrong_1 l dC dI cy y0 r 2 (upd v277 19 r276) f278 w279 g280 ⟨(YIb.upd (j := 19) (x := r276) hIv277.1 (rlo _) (rhi _)), hIv277.2⟩ hCf278 hRf278 ⟨by decide, by decide⟩) k_1641 k_1643 k_50 k_114 k_1644 (by decide +kernel) ⟨Nat.le_of_ble_eq_true rfl, Nat.le_of_ble_eq_true rfl⟩ 0 11 rfl rfl (rfl) hl.1 rfl (Nat.le_of_ble_eq_true rfl) dX11_readLine_292 (fun u H locs hw hP hD hS => ?_)
                obtain ⟨v308, f309, w310, g311⟩ := u
                obtain ⟨hIv308, hCf309, hRf309, hk0_v308, hk3_v308, hk4_v308, hk5_v308, hk8_v308, hk9_v308, hk10_v308, hk13_v308, hk14_v308, hk15_v308, hk17_v308, hk18_v308, hk24_v308, hk25_v308, hk35_v308, hk36_v308, hk38_v308, hk39_v308, pv312, pv313, pv314, kq315, kq316, kq317⟩ := hw
                have hP : va_P (dC, dI) vwCl (YW cy y0 r v308 f309 w310 g311) H := hP
                have hD : va_D A (YW cy y0 r v308 f309 w310 g311) := hD
                have b3_v308 : 0 ≤ (v308 3).toInt ∧ (v308 3).toInt ≤ 1600 := YIb.b hIv308.1 3 (by decide)
                have b1_v308 : 0 ≤ (v308 1).toInt ∧ (v308 1).toInt ≤ 4 := YIb.b hIv308.1 1 (by decide)
                have pv312 : (v277 3).toInt ≤ (v308 3).toInt := pv312
                have pv313 : (v308 5).toInt = (v277 5).toInt ∨ (v277 3).toInt < (v308 3).toInt ∨ ¬ (v308 5).toInt = 59 := pv313
                have pv314 : 0 < (v308 1).toInt := pv314
                have hs2_f309 : f309 2 = (f 2) := kq315.trans hs2_f278
                have hs3_f309 : f309 3 = (f 3) := kq316.trans hs3_f278
                have hs6_f309 : f309 6 = (f 6) := kq317.trans hs6_f278
                have hUv308 : (v308 35).toInt + (v308 36).toInt ≤ 40 := hIv308.2
                have hq0_v308 : v308 0 = (v 0) := hk0_v308.trans hq0_v277
                have zq0_v308 := congrArg Int32.toInt hq0_v308
                have hq3_v308 : v308 3 = (v277 3) := hk3_v308
                have zq3_v308 := congrArg Int32.toInt hq3_v308
                have hq4_v308 : v308 4 = (v 4) := hk4_v308.trans hq4_v277
                have zq4_v308 := congrArg Int32.toInt hq4_v308
                have hq5_v308 : v308 5 = (v277 5) := hk5_v308
                have zq5_v308 := congrArg Int32.toInt hq5_v308
                have hq8_v308 : v308 8 = (v 8) := hk8_v308.trans hq8_v277
                have zq8_v308 := congrArg Int32.toInt hq8_v308
                have hq9_v308 : v308 9 = (v 9) := hk9_v308.trans hq9_v277
                have zq9_v308 := congrArg Int32.toInt hq9_v308
                have hq10_v308 : v308 10 = (v 10) := hk10_v308.trans hq10_v277
                have zq10_v308 := congrArg Int32.toInt hq10_v308
                have hq13_v308 : v308 13 = (v 13) := hk13_v308.trans hq13_v277
                have zq13_v308 := congrArg Int32.toInt hq13_v308
                have hq14_v308 : v308 14 = (v 14) := hk14_v308.trans hq14_v277
                have zq14_v308 := congrArg Int32.toInt hq14_v308
                have hq15_v308 : v308 15 = (v 15) := hk15_v308.trans hq15_v277
                have zq15_v308 := congrArg Int32.toInt hq15_v308
                have hq17_v308 : v308 17 = (v 17) := hk17_v308.trans hq17_v277
                have zq17_v308 := congrArg Int32.toInt hq17_v308
                have hq18_v308 : v308 18 = (v 18) := hk18_v308.trans hq18_v277
                have zq18_v308 := congrArg Int32.toInt hq18_v308
                have hq24_v308 : v308 24 = (v 24) := hk24_v308.trans hq24_v277
                have hq25_v308 : v308 25 = (v 25) := hk25_v308.trans hq25_v277
                have hq35_v308 : v308 35 = (v 35) := hk35_v308.trans hq35_v277
                have zq35_v308 := congrArg Int32.toInt hq35_v308
                have hq36_v308 : v308 36 = (v 36) := hk36_v308.trans hq36_v277
                have zq36_v308 := congrArg Int32.toInt hq36_v308
                have hq38_v308 : v308 38 = (v 38) := hk38_v308.trans hq38_v277
                have hq39_v308 : v308 39 = (v 39) := hk39_v308.trans hq39_v277
                have hGR : GR (v 3).toInt (v 5).toInt (v308 3).toInt (v308 5).toInt := GR.tr hGR (show GR (v277 3).toInt (v277 5).toInt (v308 3).toInt (v308 5).toInt from ⟨pv312, pv313⟩) (by first | rfl | assumption | omega) (by first | rfl | assumption | omega)
                clear pv313
                refine lv_aload_n hx hb dX11_readLine_295 rfl (lv_at hl 0 rfl) ?_
                refine va_get (D := (dC, dI)) (ci := 11) (v := .int (v308 1)) (C := RX11) (T := TX11) (N := 79) hx hb hts inB_11 hown hE.1 hP 0 rfl rfl 2 (by decide) (hts _ k_1322) (fun _ h9 => h9) rfl dX11_readLine_296 ?_
                have b1_v308 : 0 ≤ (v308 1).toInt ∧ (v308 1).toInt ≤ 4 := YIb.b hIv308.1 1 (by decide)
                refine lv_if_ne (tgt := 306) hx hb dX11_readLine_299 (by decide) (fun c318 => ?_) (fun c318 => ?_)
                · skip
                  have zc318 : ¬ ((v308 1).toInt = 0) := by rw [fa_eq, show (0 : Int32).toInt = 0 from by decide] at c318; exact c318
                  exact ret (v308, f309, w310, g311) _ _ _ _ _ _ ⟨hIv308, hCf309, hRf309, (hk0_v308.trans hk0_v277), (hk4_v308.trans hk4_v277), (hk9_v308.trans hk9_v277), (hk24_v308.trans hk24_v277), (hk25_v308.trans hk25_v277), (hk35_v308.trans hk35_v277), (hk36_v308.trans hk36_v277), (hk38_v308.trans hk38_v277), (hk39_v308.trans hk39_v277), (by show GA (v308 1).toInt (v 3).toInt (v308 3).toInt; exact GA.ab hGR (by omega) (by omega)), (by show (v308 1).toInt = 0 → ¬ (v308 15).toInt = 0 → progOK (f309 2) (f309 3) ((v308 8).toInt).toNat; rw [hs2_f309, hs3_f309]; intro hz8 hz9; exact prog_n (hPR (by omega)) (by omega))⟩ hP hD hS dX11_readLine_306 (Nat.le_refl _) (Nat.le_refl _)
                · skip
                  have zc318 : (v308 1).toInt = 0 := by rw [fa_eq, show (0 : Int32).toInt = 0 from by decide] at c318; exact c318
                  refine lv_aload_n hx hb dX11_readLine_302 rfl (lv_at hl 0 rfl) ?_
                  refine cbVv (n := 0) (rest := []) hx hb hml hown hts hE hP hD hS hA (sY_X11_token_1 l dC dI cy y0 r  v308 f309 w310 g311 hIv308 hCf309 hRf309 ) k_1579 k_1581 k_42 k_114 k_1582 (by decide +kernel) ⟨Nat.le_of_ble_eq_true rfl, Nat.le_of_ble_eq_true rfl⟩ 0 11 rfl rfl (rfl) hl.1 rfl (Nat.le_of_ble_eq_true rfl) dX11_readLine_303 (fun u H locs hw hP hD hS => ?_)
                  obtain ⟨v319, f320, w321, g322⟩ := u
                  obtain ⟨hIv319, hCf320, hRf320, hk0_v319, hk1_v319, hk4_v319, hk8_v319, hk9_v319, hk10_v319, hk13_v319, hk14_v319, hk15_v319, hk17_v319, hk18_v319, hk24_v319, hk25_v319, hk35_v319, hk36_v319, hk38_v319, hk39_v319, pv323, pv324, kq325, kq326, kq327⟩ := hw
                  have hP : va_P (dC, dI) vwCl (YW cy y0 r v319 f320 w321 g322) H := hP
                  have hD : va_D A (YW cy y0 r v319 f320 w321 g322) := hD
                  have b3_v319 : 0 ≤ (v319 3).toInt ∧ (v319 3).toInt ≤ 1600 := YIb.b hIv319.1 3 (by decide)
                  have pv323 : (v308 3).toInt ≤ (v319 3).toInt := pv323
                  have pv324 : (v319 5).toInt = (v308 5).toInt ∨ (v308 3).toInt < (v319 3).toInt ∨ ¬ (v319 5).toInt = 59 := pv324
                  have hs2_f320 : f320 2 = (f 2) := kq325.trans hs2_f309
                  have hs3_f320 : f320 3 = (f 3) := kq326.trans hs3_f309
                  have hs6_f320 : f320 6 = (f 6) := kq327.trans hs6_f309
                  have hUv319 : (v319 35).toInt + (v319 36).toInt ≤ 40 := hIv319.2
                  have hq0_v319 : v319 0 = (v 0) := hk0_v319.trans hq0_v308
                  have zq0_v319 := congrArg Int32.toInt hq0_v319
                  have hq1_v319 : v319 1 = (v308 1) := hk1_v319
                  have zq1_v319 := congrArg Int32.toInt hq1_v319
                  have hq4_v319 : v319 4 = (v 4) := hk4_v319.trans hq4_v308
                  have zq4_v319 := congrArg Int32.toInt hq4_v319
                  have hq8_v319 : v319 8 = (v 8) := hk8_v319.trans hq8_v308
                  have zq8_v319 := congrArg Int32.toInt hq8_v319
                  have hq9_v319 : v319 9 = (v 9) := hk9_v319.trans hq9_v308
                  have zq9_v319 := congrArg Int32.toInt hq9_v319
                  have hq10_v319 : v319 10 = (v 10) := hk10_v319.trans hq10_v308
                  have zq10_v319 := congrArg Int32.toInt hq10_v319
                  have hq13_v319 : v319 13 = (v 13) := hk13_v319.trans hq13_v308
                  have zq13_v319 := congrArg Int32.toInt hq13_v319
                  have hq14_v319 : v319 14 = (v 14) := hk14_v319.trans hq14_v308
                  have zq14_v319 := congrArg Int32.toInt hq14_v319
                  have hq15_v319 : v319 15 = (v 15) := hk15_v319.trans hq15_v308
                  have zq15_v319 := congrArg Int32.toInt hq15_v319
                  have hq17_v319 : v319 17 = (v 17) := hk17_v319.trans hq17_v308
                  have zq17_v319 := congrArg Int32.toInt hq17_v319
                  have hq18_v319 : v319 18 = (v 18) := hk18_v319.trans hq18_v308
                  have zq18_v319 := congrArg Int32.toInt hq18_v319
                  have hq24_v319 : v319 24 = (v 24) := hk24_v319.trans hq24_v308
                  have hq25_v319 : v319 25 = (v 25) := hk25_v319.trans hq25_v308
                  have hq35_v319 : v319 35 = (v 35) := hk35_v319.trans hq35_v308
                  have zq35_v319 := congrArg Int32.toInt hq35_v319
                  have hq36_v319 : v319 36 = (v 36) := hk36_v319.trans hq36_v308
                  have zq36_v319 := congrArg Int32.toInt hq36_v319
                  have hq38_v319 : v319 38 = (v 38) := hk38_v319.trans hq38_v308
                  have hq39_v319 : v319 39 = (v 39) := hk39_v319.trans hq39_v308
                  have hGR : GR (v 3).toInt (v 5).toInt (v319 3).toInt (v319 5).toInt := GR.tr hGR (show GR (v308 3).toInt (v308 5).toInt (v319 3).toInt (v319 5).toInt from ⟨pv323, pv324⟩) (by first | rfl | assumption | omega) (by first | rfl | assumption | omega)
                  clear pv324
                  exact ret (v319, f320, w321, g322) _ _ _ _ _ _ ⟨hIv319, hCf320, hRf320, (hk0_v319.trans (hk0_v308.trans hk0_v277)), (hk4_v319.trans (hk4_v308.trans hk4_v277)), (hk9_v319.trans (hk9_v308.trans hk9_v277)), (hk24_v319.trans (hk24_v308.trans hk24_v277)), (hk25_v319.trans (hk25_v308.trans hk25_v277)), (hk35_v319.trans (hk35_v308.trans hk35_v277)), (hk36_v319.trans (hk36_v308.trans hk36_v277)), (hk38_v319.trans (hk38_v308.trans hk38_v277)), (hk39_v319.trans (hk39_v308.trans hk39_v277)), (by show GA (v319 1).toInt (v 3).toInt (v319 3).toInt; exact GA.ab hGR (by omega) (by omega)), (by show (v319 1).toInt = 0 → ¬ (v319 15).toInt = 0 → progOK (f320 2) (f320 3) ((v319 8).toInt).toNat; rw [hs2_f320, hs3_f320]; intro hz8 hz9; exact prog_n (hPR (by omega)) (by omega))⟩ hP hD hS dX11_readLine_306 (Nat.le_refl _) (Nat.le_refl _)
        · skip
          subst g274
          refine lv_if_eq (tgt := 115) hx hb dX11_readLine_83 (by decide) (fun _ => ?_) (fun c0 => absurd (by decide) c0)
          exact jp115 _ _ _ hP hD hS hl
      refine lv_aload_n hx hb dX11_readLine_52 rfl (lv_at hl 0 rfl) ?_
      refine lv_ldc2 (v := 6909036) hx hb hown (hts _ k_1627) dX11_readLine_53 ?_
      refine cbVi (n := 1) (rest := []) hx hb hml hown hts hE hP hD hS hA (sY_X11_isWord_1 l dC dI cy y0 r 6909036 v f w g hIv hCf hRf ) k_1601 k_1603 k_45 k_114 k_1604 (by decide +kernel) ⟨Nat.le_of_ble_eq_true rfl, Nat.le_of_ble_eq_true rfl⟩ 0 11 rfl rfl (rfl) hl.1 rfl (Nat.le_of_ble_eq_true rfl) dX11_readLine_56 (fun r328 u H locs hw hP hD hS => ?_)
      rcases hw with ⟨g329, g329_0⟩ | ⟨g329⟩
      · skip
        subst g329
        refine lv_if_eq (tgt := 76) hx hb dX11_readLine_59 (by decide) (fun c0 => absurd c0 (by decide)) (fun _ => ?_)
        refine lv_aload_n hx hb dX11_readLine_62 rfl (lv_at hl 0 rfl) ?_
        refine va_get (D := (dC, dI)) (ci := 11) (v := .int (v 15)) (C := RX11) (T := TX11) (N := 79) hx hb hts inB_11 hown hE.1 hP 0 rfl rfl 24 (by decide) (hts _ k_1344) (fun _ h9 => h9) rfl dX11_readLine_63 ?_
        have b15_v : 0 ≤ (v 15).toInt ∧ (v 15).toInt ≤ 1 := YIb.b hIv.1 15 (by decide)
        refine lv_if_ne (tgt := 76) hx hb dX11_readLine_66 (by decide) (fun c330 => ?_) (fun c330 => ?_)
        · skip
          have zc330 : ¬ ((v 15).toInt = 0) := by rw [fa_eq, show (0 : Int32).toInt = 0 from by decide] at c330; exact c330
          exact jp76 _ _ _ hP hD hS hl
        · skip
          have zc330 : (v 15).toInt = 0 := by rw [fa_eq, show (0 : Int32).toInt = 0 from by decide] at c330; exact c330
          refine lv_aload_n hx hb dX11_readLine_69 rfl (lv_at hl 0 rfl) ?_
          refine cbVv (n := 0) (rest := []) hx hb hml hown hts hE hP hD hS hA (sY_X11_formula_1 l dC dI cy y0 r  v f w g hIv hCf hRf ) k_1665 k_1667 k_56 k_114 k_1668 (by decide +kernel) ⟨Nat.le_of_ble_eq_true rfl, Nat.le_of_ble_eq_true rfl⟩ 0 11 rfl rfl (rfl) hl.1 rfl (Nat.le_of_ble_eq_true rfl) dX11_readLine_70 (fun u H locs hw hP hD hS => ?_)
          obtain ⟨v331, f332, w333, g334⟩ := u
          obtain ⟨hIv331, hCf332, hRf332, hk0_v331, hk4_v331, hk9_v331, hk17_v331, hk18_v331, hk24_v331, hk25_v331, hk35_v331, hk36_v331, hk38_v331, hk39_v331, pg335, pg336⟩ := hw
          have hP : va_P (dC, dI) vwCl (YW cy y0 r v331 f332 w333 g334) H := hP
          have hD : va_D A (YW cy y0 r v331 f332 w333 g334) := hD
          have b3_v331 : 0 ≤ (v331 3).toInt ∧ (v331 3).toInt ≤ 1600 := YIb.b hIv331.1 3 (by decide)
          have b1_v331 : 0 ≤ (v331 1).toInt ∧ (v331 1).toInt ≤ 4 := YIb.b hIv331.1 1 (by decide)
          have b8_v331 : 0 ≤ (v331 8).toInt ∧ (v331 8).toInt ≤ 320 := YIb.b hIv331.1 8 (by decide)
          have pg335 : GR (v 3).toInt (v 5).toInt (v331 3).toInt (v331 5).toInt := pg335
          have pg336 : (v331 1).toInt = 0 → progOK (f332 2) (f332 3) ((v331 8).toInt).toNat := pg336
          have hUv331 : (v331 35).toInt + (v331 36).toInt ≤ 40 := hIv331.2
          have hq0_v331 : v331 0 = (v 0) := hk0_v331
          have zq0_v331 := congrArg Int32.toInt hq0_v331
          have hq4_v331 : v331 4 = (v 4) := hk4_v331
          have zq4_v331 := congrArg Int32.toInt hq4_v331
          have hq9_v331 : v331 9 = (v 9) := hk9_v331
          have zq9_v331 := congrArg Int32.toInt hq9_v331
          have hq17_v331 : v331 17 = (v 17) := hk17_v331
          have zq17_v331 := congrArg Int32.toInt hq17_v331
          have hq18_v331 : v331 18 = (v 18) := hk18_v331
          have zq18_v331 := congrArg Int32.toInt hq18_v331
          have hq24_v331 : v331 24 = (v 24) := hk24_v331
          have hq25_v331 : v331 25 = (v 25) := hk25_v331
          have hq35_v331 : v331 35 = (v 35) := hk35_v331
          have zq35_v331 := congrArg Int32.toInt hq35_v331
          have hq36_v331 : v331 36 = (v 36) := hk36_v331
          have zq36_v331 := congrArg Int32.toInt hq36_v331
          have hq38_v331 : v331 38 = (v 38) := hk38_v331
          have hq39_v331 : v331 39 = (v 39) := hk39_v331
          have hGR : GR (v 3).toInt (v 5).toInt (v331 3).toInt (v331 5).toInt := GR.tr hGR (show GR (v 3).toInt (v 5).toInt (v331 3).toInt (v331 5).toInt from pg335) (by first | rfl | assumption | omega) (by first | rfl | assumption | omega)
          have hPF := pg336
          refine lv_goto (tgt := 274) hx hb dX11_readLine_73 (by decide) ?_
          refine lv_aload_n hx hb dX11_readLine_274 rfl (lv_at hl 0 rfl) ?_
          refine va_get (D := (dC, dI)) (ci := 11) (v := .int (v331 1)) (C := RX11) (T := TX11) (N := 79) hx hb hts inB_11 hown hE.1 hP 0 rfl rfl 2 (by decide) (hts _ k_1322) (fun _ h9 => h9) rfl dX11_readLine_275 ?_
          have b1_v331 : 0 ≤ (v331 1).toInt ∧ (v331 1).toInt ≤ 4 := YIb.b hIv331.1 1 (by decide)
          refine lv_if_ne (tgt := 295) hx hb dX11_readLine_278 (by decide) (fun c337 => ?_) (fun c337 => ?_)
          · skip
            have zc337 : ¬ ((v331 1).toInt = 0) := by rw [fa_eq, show (0 : Int32).toInt = 0 from by decide] at c337; exact c337
            refine lv_aload_n hx hb dX11_readLine_295 rfl (lv_at hl 0 rfl) ?_
            refine va_get (D := (dC, dI)) (ci := 11) (v := .int (v331 1)) (C := RX11) (T := TX11) (N := 79) hx hb hts inB_11 hown hE.1 hP 0 rfl rfl 2 (by decide) (hts _ k_1322) (fun _ h9 => h9) rfl dX11_readLine_296 ?_
            refine lv_if_ne (tgt := 306) hx hb dX11_readLine_299 (by decide) (fun c338 => ?_) (fun c338 => ?_)
            · skip
              have zc338 : ¬ ((v331 1).toInt = 0) := by rw [fa_eq, show (0 : Int32).toInt = 0 from by decide] at c338; exact c338
              exact ret (v331, f332, w333, g334) _ _ _ _ _ _ ⟨hIv331, hCf332, hRf332, hk0_v331, hk4_v331, hk9_v331, hk24_v331, hk25_v331, hk35_v331, hk36_v331, hk38_v331, hk39_v331, (by show GA (v331 1).toInt (v 3).toInt (v331 3).toInt; exact GA.ab hGR (by omega) (by omega)), (by show (v331 1).toInt = 0 → ¬ (v331 15).toInt = 0 → progOK (f332 2) (f332 3) ((v331 8).toInt).toNat; intro hz8 hz9; exact prog_n (hPF (by omega)) (by omega))⟩ hP hD hS dX11_readLine_306 (Nat.le_refl _) (Nat.le_refl _)
            · skip
              have zc338 : (v331 1).toInt = 0 := by rw [fa_eq, show (0 : Int32).toInt = 0 from by decide] at c338; exact c338
              have hgrew := GR.grew hGR (by omega) (by omega)
              refine lv_aload_n hx hb dX11_readLine_302 rfl (lv_at hl 0 rfl) ?_
              refine cbVv (n := 0) (rest := []) hx hb hml hown hts hE hP hD hS hA (sY_X11_token_1 l dC dI cy y0 r  v331 f332 w333 g334 hIv331 hCf332 hRf332 ) k_1579 k_1581 k_42 k_114 k_1582 (by decide +kernel) ⟨Nat.le_of_ble_eq_true rfl, Nat.le_of_ble_eq_true rfl⟩ 0 11 rfl rfl (rfl) hl.1 rfl (Nat.le_of_ble_eq_true rfl) dX11_readLine_303 (fun u H locs hw hP hD hS => ?_)
              obtain ⟨v339, f340, w341, g342⟩ := u
              obtain ⟨hIv339, hCf340, hRf340, hk0_v339, hk1_v339, hk4_v339, hk8_v339, hk9_v339, hk10_v339, hk13_v339, hk14_v339, hk15_v339, hk17_v339, hk18_v339, hk24_v339, hk25_v339, hk35_v339, hk36_v339, hk38_v339, hk39_v339, pv343, pv344, kq345, kq346, kq347⟩ := hw
              have hP : va_P (dC, dI) vwCl (YW cy y0 r v339 f340 w341 g342) H := hP
              have hD : va_D A (YW cy y0 r v339 f340 w341 g342) := hD
              have b3_v339 : 0 ≤ (v339 3).toInt ∧ (v339 3).toInt ≤ 1600 := YIb.b hIv339.1 3 (by decide)
              have pv343 : (v331 3).toInt ≤ (v339 3).toInt := pv343
              have pv344 : (v339 5).toInt = (v331 5).toInt ∨ (v331 3).toInt < (v339 3).toInt ∨ ¬ (v339 5).toInt = 59 := pv344
              have hs2_f340 : f340 2 = (f332 2) := kq345
              have hs3_f340 : f340 3 = (f332 3) := kq346
              have hs6_f340 : f340 6 = (f332 6) := kq347
              have hUv339 : (v339 35).toInt + (v339 36).toInt ≤ 40 := hIv339.2
              have hq0_v339 : v339 0 = (v 0) := hk0_v339.trans hq0_v331
              have zq0_v339 := congrArg Int32.toInt hq0_v339
              have hq1_v339 : v339 1 = (v331 1) := hk1_v339
              have zq1_v339 := congrArg Int32.toInt hq1_v339
              have hq4_v339 : v339 4 = (v 4) := hk4_v339.trans hq4_v331
              have zq4_v339 := congrArg Int32.toInt hq4_v339
              have hq8_v339 : v339 8 = (v331 8) := hk8_v339
              have zq8_v339 := congrArg Int32.toInt hq8_v339
              have hq9_v339 : v339 9 = (v 9) := hk9_v339.trans hq9_v331
              have zq9_v339 := congrArg Int32.toInt hq9_v339
              have hq10_v339 : v339 10 = (v331 10) := hk10_v339
              have zq10_v339 := congrArg Int32.toInt hq10_v339
              have hq13_v339 : v339 13 = (v331 13) := hk13_v339
              have zq13_v339 := congrArg Int32.toInt hq13_v339
              have hq14_v339 : v339 14 = (v331 14) := hk14_v339
              have zq14_v339 := congrArg Int32.toInt hq14_v339
              have hq15_v339 : v339 15 = (v331 15) := hk15_v339
              have zq15_v339 := congrArg Int32.toInt hq15_v339
              have hq17_v339 : v339 17 = (v 17) := hk17_v339.trans hq17_v331
              have zq17_v339 := congrArg Int32.toInt hq17_v339
              have hq18_v339 : v339 18 = (v 18) := hk18_v339.trans hq18_v331
              have zq18_v339 := congrArg Int32.toInt hq18_v339
              have hq24_v339 : v339 24 = (v 24) := hk24_v339.trans hq24_v331
              have hq25_v339 : v339 25 = (v 25) := hk25_v339.trans hq25_v331
              have hq35_v339 : v339 35 = (v 35) := hk35_v339.trans hq35_v331
              have zq35_v339 := congrArg Int32.toInt hq35_v339
              have hq36_v339 : v339 36 = (v 36) := hk36_v339.trans hq36_v331
              have zq36_v339 := congrArg Int32.toInt hq36_v339
              have hq38_v339 : v339 38 = (v 38) := hk38_v339.trans hq38_v331
              have hq39_v339 : v339 39 = (v 39) := hk39_v339.trans hq39_v331
              have hGR : GR (v 3).toInt (v 5).toInt (v339 3).toInt (v339 5).toInt := GR.tr hGR (show GR (v331 3).toInt (v331 5).toInt (v339 3).toInt (v339 5).toInt from ⟨pv343, pv344⟩) (by first | rfl | assumption | omega) (by first | rfl | assumption | omega)
              clear pv344
              exact ret (v339, f340, w341, g342) _ _ _ _ _ _ ⟨hIv339, hCf340, hRf340, (hk0_v339.trans hk0_v331), (hk4_v339.trans hk4_v331), (hk9_v339.trans hk9_v331), (hk24_v339.trans hk24_v331), (hk25_v339.trans hk25_v331), (hk35_v339.trans hk35_v331), (hk36_v339.trans hk36_v331), (hk38_v339.trans hk38_v331), (hk39_v339.trans hk39_v331), (by show GA (v339 1).toInt (v 3).toInt (v339 3).toInt; exact GA.mk hgrew hGR (by omega)), (by show (v339 1).toInt = 0 → ¬ (v339 15).toInt = 0 → progOK (f340 2) (f340 3) ((v339 8).toInt).toNat; rw [hs2_f340, hs3_f340]; intro hz8 hz9; exact prog_n (hPF (by omega)) (by omega))⟩ hP hD hS dX11_readLine_306 (Nat.le_refl _) (Nat.le_refl _)
          · skip
            have zc337 : (v331 1).toInt = 0 := by rw [fa_eq, show (0 : Int32).toInt = 0 from by decide] at c337; exact c337
            refine lv_aload_n hx hb dX11_readLine_281 rfl (lv_at hl 0 rfl) ?_
            refine va_get (D := (dC, dI)) (ci := 11) (v := .int (v331 5)) (C := RX11) (T := TX11) (N := 79) hx hb hts inB_11 hown hE.1 hP 0 rfl rfl 6 (by decide) (hts _ k_1326) (fun _ h9 => h9) rfl dX11_readLine_282 ?_
            refine lv_bipush (v := 59) hx hb dX11_readLine_285 (by decide) ?_
            refine lv_icmp_eq (tgt := 295) hx hb dX11_readLine_287 (by decide) (fun c348 => ?_) (fun c348 => ?_)
            · skip
              have zc348 : (v331 5).toInt = 59 := by rw [fa_eq, show (59 : Int32).toInt = 59 from by decide] at c348; exact c348
              refine lv_aload_n hx hb dX11_readLine_295 rfl (lv_at hl 0 rfl) ?_
              refine va_get (D := (dC, dI)) (ci := 11) (v := .int (v331 1)) (C := RX11) (T := TX11) (N := 79) hx hb hts inB_11 hown hE.1 hP 0 rfl rfl 2 (by decide) (hts _ k_1322) (fun _ h9 => h9) rfl dX11_readLine_296 ?_
              refine lv_if_ne (tgt := 306) hx hb dX11_readLine_299 (by decide) (fun c349 => ?_) (fun c349 => ?_)
              · skip
                have zc349 : ¬ ((v331 1).toInt = 0) := by rw [fa_eq, show (0 : Int32).toInt = 0 from by decide] at c349; exact c349
                exact ret (v331, f332, w333, g334) _ _ _ _ _ _ ⟨hIv331, hCf332, hRf332, hk0_v331, hk4_v331, hk9_v331, hk24_v331, hk25_v331, hk35_v331, hk36_v331, hk38_v331, hk39_v331, (by show GA (v331 1).toInt (v 3).toInt (v331 3).toInt; exact GA.ab hGR (by omega) (by omega)), (by show (v331 1).toInt = 0 → ¬ (v331 15).toInt = 0 → progOK (f332 2) (f332 3) ((v331 8).toInt).toNat; intro hz8 hz9; exact prog_n (hPF (by omega)) (by omega))⟩ hP hD hS dX11_readLine_306 (Nat.le_refl _) (Nat.le_refl _)
              · skip
                have zc349 : (v331 1).toInt = 0 := by rw [fa_eq, show (0 : Int32).toInt = 0 from by decide] at c349; exact c349
                have hgrew := GR.grew hGR (by omega) (by omega)
                refine lv_aload_n hx hb dX11_readLine_302 rfl (lv_at hl 0 rfl) ?_
                refine cbVv (n := 0) (rest := []) hx hb hml hown hts hE hP hD hS hA (sY_X11_token_1 l dC dI cy y0 r  v331 f332 w333 g334 hIv331 hCf332 hRf332 ) k_1579 k_1581 k_42 k_114 k_1582 (by decide +kernel) ⟨Nat.le_of_ble_eq_true rfl, Nat.le_of_ble_eq_true rfl⟩ 0 11 rfl rfl (rfl) hl.1 rfl (Nat.le_of_ble_eq_true rfl) dX11_readLine_303 (fun u H locs hw hP hD hS => ?_)
                obtain ⟨v350, f351, w352, g353⟩ := u
                obtain ⟨hIv350, hCf351, hRf351, hk0_v350, hk1_v350, hk4_v350, hk8_v350, hk9_v350, hk10_v350, hk13_v350, hk14_v350, hk15_v350, hk17_v350, hk18_v350, hk24_v350, hk25_v350, hk35_v350, hk36_v350, hk38_v350, hk39_v350, pv354, pv355, kq356, kq357, kq358⟩ := hw
                have hP : va_P (dC, dI) vwCl (YW cy y0 r v350 f351 w352 g353) H := hP
                have hD : va_D A (YW cy y0 r v350 f351 w352 g353) := hD
                have b3_v350 : 0 ≤ (v350 3).toInt ∧ (v350 3).toInt ≤ 1600 := YIb.b hIv350.1 3 (by decide)
                have pv354 : (v331 3).toInt ≤ (v350 3).toInt := pv354
                have pv355 : (v350 5).toInt = (v331 5).toInt ∨ (v331 3).toInt < (v350 3).toInt ∨ ¬ (v350 5).toInt = 59 := pv355
                have hs2_f351 : f351 2 = (f332 2) := kq356
                have hs3_f351 : f351 3 = (f332 3) := kq357
                have hs6_f351 : f351 6 = (f332 6) := kq358
                have hUv350 : (v350 35).toInt + (v350 36).toInt ≤ 40 := hIv350.2
                have hq0_v350 : v350 0 = (v 0) := hk0_v350.trans hq0_v331
                have zq0_v350 := congrArg Int32.toInt hq0_v350
                have hq1_v350 : v350 1 = (v331 1) := hk1_v350
                have zq1_v350 := congrArg Int32.toInt hq1_v350
                have hq4_v350 : v350 4 = (v 4) := hk4_v350.trans hq4_v331
                have zq4_v350 := congrArg Int32.toInt hq4_v350
                have hq8_v350 : v350 8 = (v331 8) := hk8_v350
                have zq8_v350 := congrArg Int32.toInt hq8_v350
                have hq9_v350 : v350 9 = (v 9) := hk9_v350.trans hq9_v331
                have zq9_v350 := congrArg Int32.toInt hq9_v350
                have hq10_v350 : v350 10 = (v331 10) := hk10_v350
                have zq10_v350 := congrArg Int32.toInt hq10_v350
                have hq13_v350 : v350 13 = (v331 13) := hk13_v350
                have zq13_v350 := congrArg Int32.toInt hq13_v350
                have hq14_v350 : v350 14 = (v331 14) := hk14_v350
                have zq14_v350 := congrArg Int32.toInt hq14_v350
                have hq15_v350 : v350 15 = (v331 15) := hk15_v350
                have zq15_v350 := congrArg Int32.toInt hq15_v350
                have hq17_v350 : v350 17 = (v 17) := hk17_v350.trans hq17_v331
                have zq17_v350 := congrArg Int32.toInt hq17_v350
                have hq18_v350 : v350 18 = (v 18) := hk18_v350.trans hq18_v331
                have zq18_v350 := congrArg Int32.toInt hq18_v350
                have hq24_v350 : v350 24 = (v 24) := hk24_v350.trans hq24_v331
                have hq25_v350 : v350 25 = (v 25) := hk25_v350.trans hq25_v331
                have hq35_v350 : v350 35 = (v 35) := hk35_v350.trans hq35_v331
                have zq35_v350 := congrArg Int32.toInt hq35_v350
                have hq36_v350 : v350 36 = (v 36) := hk36_v350.trans hq36_v331
                have zq36_v350 := congrArg Int32.toInt hq36_v350
                have hq38_v350 : v350 38 = (v 38) := hk38_v350.trans hq38_v331
                have hq39_v350 : v350 39 = (v 39) := hk39_v350.trans hq39_v331
                have hGR : GR (v 3).toInt (v 5).toInt (v350 3).toInt (v350 5).toInt := GR.tr hGR (show GR (v331 3).toInt (v331 5).toInt (v350 3).toInt (v350 5).toInt from ⟨pv354, pv355⟩) (by first | rfl | assumption | omega) (by first | rfl | assumption | omega)
                clear pv355
                exact ret (v350, f351, w352, g353) _ _ _ _ _ _ ⟨hIv350, hCf351, hRf351, (hk0_v350.trans hk0_v331), (hk4_v350.trans hk4_v331), (hk9_v350.trans hk9_v331), (hk24_v350.trans hk24_v331), (hk25_v350.trans hk25_v331), (hk35_v350.trans hk35_v331), (hk36_v350.trans hk36_v331), (hk38_v350.trans hk38_v331), (hk39_v350.trans hk39_v331), (by show GA (v350 1).toInt (v 3).toInt (v350 3).toInt; exact GA.mk hgrew hGR (by omega)), (by show (v350 1).toInt = 0 → ¬ (v350 15).toInt = 0 → progOK (f351 2) (f351 3) ((v350 8).toInt).toNat; rw [hs2_f351, hs3_f351]; intro hz8 hz9; exact prog_n (hPF (by omega)) (by omega))⟩ hP hD hS dX11_readLine_306 (Nat.le_refl _) (Nat.le_refl _)
            · skip
              have zc348 : ¬ ((v331 5).toInt = 59) := by rw [fa_eq, show (59 : Int32).toInt = 59 from by decide] at c348; exact c348
              refine lv_aload_n hx hb dX11_readLine_290 rfl (lv_at hl 0 rfl) ?_
              refine lv_iconst (v := 2) hx hb dX11_readLine_291 (by decide) ?_
              refine cbVv (n := 1) (rest := []) hx hb hml hown hts hE hP hD hS hA (sY_X11_wrong_1 l dC dI cy y0 r 2 v331 f332 w333 g334 hIv331 hCf332 hRf332 ⟨by decide, by decide⟩) k_1641 k_1643 k_50 k_114 k_1644 (by decide +kernel) ⟨Nat.le_of_ble_eq_true rfl, Nat.le_of_ble_eq_true rfl⟩ 0 11 rfl rfl (rfl) hl.1 rfl (Nat.le_of_ble_eq_true rfl) dX11_readLine_292 (fun u H locs hw hP hD hS => ?_)
              obtain ⟨v359, f360, w361, g362⟩ := u
              obtain ⟨hIv359, hCf360, hRf360, hk0_v359, hk3_v359, hk4_v359, hk5_v359, hk8_v359, hk9_v359, hk10_v359, hk13_v359, hk14_v359, hk15_v359, hk17_v359, hk18_v359, hk24_v359, hk25_v359, hk35_v359, hk36_v359, hk38_v359, hk39_v359, pv363, pv364, pv365, kq366, kq367, kq368⟩ := hw
              have hP : va_P (dC, dI) vwCl (YW cy y0 r v359 f360 w361 g362) H := hP
              have hD : va_D A (YW cy y0 r v359 f360 w361 g362) := hD
              have b3_v359 : 0 ≤ (v359 3).toInt ∧ (v359 3).toInt ≤ 1600 := YIb.b hIv359.1 3 (by decide)
              have b1_v359 : 0 ≤ (v359 1).toInt ∧ (v359 1).toInt ≤ 4 := YIb.b hIv359.1 1 (by decide)
              have pv363 : (v331 3).toInt ≤ (v359 3).toInt := pv363
              have pv364 : (v359 5).toInt = (v331 5).toInt ∨ (v331 3).toInt < (v359 3).toInt ∨ ¬ (v359 5).toInt = 59 := pv364
              have pv365 : 0 < (v359 1).toInt := pv365
              have hs2_f360 : f360 2 = (f332 2) := kq366
              have hs3_f360 : f360 3 = (f332 3) := kq367
              have hs6_f360 : f360 6 = (f332 6) := kq368
              have hUv359 : (v359 35).toInt + (v359 36).toInt ≤ 40 := hIv359.2
              have hq0_v359 : v359 0 = (v 0) := hk0_v359.trans hq0_v331
              have zq0_v359 := congrArg Int32.toInt hq0_v359
              have hq3_v359 : v359 3 = (v331 3) := hk3_v359
              have zq3_v359 := congrArg Int32.toInt hq3_v359
              have hq4_v359 : v359 4 = (v 4) := hk4_v359.trans hq4_v331
              have zq4_v359 := congrArg Int32.toInt hq4_v359
              have hq5_v359 : v359 5 = (v331 5) := hk5_v359
              have zq5_v359 := congrArg Int32.toInt hq5_v359
              have hq8_v359 : v359 8 = (v331 8) := hk8_v359
              have zq8_v359 := congrArg Int32.toInt hq8_v359
              have hq9_v359 : v359 9 = (v 9) := hk9_v359.trans hq9_v331
              have zq9_v359 := congrArg Int32.toInt hq9_v359
              have hq10_v359 : v359 10 = (v331 10) := hk10_v359
              have zq10_v359 := congrArg Int32.toInt hq10_v359
              have hq13_v359 : v359 13 = (v331 13) := hk13_v359
              have zq13_v359 := congrArg Int32.toInt hq13_v359
              have hq14_v359 : v359 14 = (v331 14) := hk14_v359
              have zq14_v359 := congrArg Int32.toInt hq14_v359
              have hq15_v359 : v359 15 = (v331 15) := hk15_v359
              have zq15_v359 := congrArg Int32.toInt hq15_v359
              have hq17_v359 : v359 17 = (v 17) := hk17_v359.trans hq17_v331
              have zq17_v359 := congrArg Int32.toInt hq17_v359
              have hq18_v359 : v359 18 = (v 18) := hk18_v359.trans hq18_v331
              have zq18_v359 := congrArg Int32.toInt hq18_v359
              have hq24_v359 : v359 24 = (v 24) := hk24_v359.trans hq24_v331
              have hq25_v359 : v359 25 = (v 25) := hk25_v359.trans hq25_v331
              have hq35_v359 : v359 35 = (v 35) := hk35_v359.trans hq35_v331
              have zq35_v359 := congrArg Int32.toInt hq35_v359
              have hq36_v359 : v359 36 = (v 36) := hk36_v359.trans hq36_v331
              have zq36_v359 := congrArg Int32.toInt hq36_v359
              have hq38_v359 : v359 38 = (v 38) := hk38_v359.trans hq38_v331
              have hq39_v359 : v359 39 = (v 39) := hk39_v359.trans hq39_v331
              have hGR : GR (v 3).toInt (v 5).toInt (v359 3).toInt (v359 5).toInt := GR.tr hGR (show GR (v331 3).toInt (v331 5).toInt (v359 3).toInt (v359 5).toInt from ⟨pv363, pv364⟩) (by first | rfl | assumption | omega) (by first | rfl | assumption | omega)
              clear pv364
              refine lv_aload_n hx hb dX11_readLine_295 rfl (lv_at hl 0 rfl) ?_
              refine va_get (D := (dC, dI)) (ci := 11) (v := .int (v359 1)) (C := RX11) (T := TX11) (N := 79) hx hb hts inB_11 hown hE.1 hP 0 rfl rfl 2 (by decide) (hts _ k_1322) (fun _ h9 => h9) rfl dX11_readLine_296 ?_
              have b1_v359 : 0 ≤ (v359 1).toInt ∧ (v359 1).toInt ≤ 4 := YIb.b hIv359.1 1 (by decide)
              refine lv_if_ne (tgt := 306) hx hb dX11_readLine_299 (by decide) (fun c369 => ?_) (fun c369 => ?_)
              · skip
                have zc369 : ¬ ((v359 1).toInt = 0) := by rw [fa_eq, show (0 : Int32).toInt = 0 from by decide] at c369; exact c369
                exact ret (v359, f360, w361, g362) _ _ _ _ _ _ ⟨hIv359, hCf360, hRf360, (hk0_v359.trans hk0_v331), (hk4_v359.trans hk4_v331), (hk9_v359.trans hk9_v331), (hk24_v359.trans hk24_v331), (hk25_v359.trans hk25_v331), (hk35_v359.trans hk35_v331), (hk36_v359.trans hk36_v331), (hk38_v359.trans hk38_v331), (hk39_v359.trans hk39_v331), (by show GA (v359 1).toInt (v 3).toInt (v359 3).toInt; exact GA.ab hGR (by omega) (by omega)), (by show (v359 1).toInt = 0 → ¬ (v359 15).toInt = 0 → progOK (f360 2) (f360 3) ((v359 8).toInt).toNat; rw [hs2_f360, hs3_f360]; intro hz8 hz9; exact prog_n (hPF (by omega)) (by omega))⟩ hP hD hS dX11_readLine_306 (Nat.le_refl _) (Nat.le_refl _)
              · skip
                have zc369 : (v359 1).toInt = 0 := by rw [fa_eq, show (0 : Int32).toInt = 0 from by decide] at c369; exact c369
                refine lv_aload_n hx hb dX11_readLine_302 rfl (lv_at hl 0 rfl) ?_
                refine cbVv (n := 0) (rest := []) hx hb hml hown hts hE hP hD hS hA (sY_X11_token_1 l dC dI cy y0 r  v359 f360 w361 g362 hIv359 hCf360 hRf360 ) k_1579 k_1581 k_42 k_114 k_1582 (by decide +kernel) ⟨Nat.le_of_ble_eq_true rfl, Nat.le_of_ble_eq_true rfl⟩ 0 11 rfl rfl (rfl) hl.1 rfl (Nat.le_of_ble_eq_true rfl) dX11_readLine_303 (fun u H locs hw hP hD hS => ?_)
                obtain ⟨v370, f371, w372, g373⟩ := u
                obtain ⟨hIv370, hCf371, hRf371, hk0_v370, hk1_v370, hk4_v370, hk8_v370, hk9_v370, hk10_v370, hk13_v370, hk14_v370, hk15_v370, hk17_v370, hk18_v370, hk24_v370, hk25_v370, hk35_v370, hk36_v370, hk38_v370, hk39_v370, pv374, pv375, kq376, kq377, kq378⟩ := hw
                have hP : va_P (dC, dI) vwCl (YW cy y0 r v370 f371 w372 g373) H := hP
                have hD : va_D A (YW cy y0 r v370 f371 w372 g373) := hD
                have b3_v370 : 0 ≤ (v370 3).toInt ∧ (v370 3).toInt ≤ 1600 := YIb.b hIv370.1 3 (by decide)
                have pv374 : (v359 3).toInt ≤ (v370 3).toInt := pv374
                have pv375 : (v370 5).toInt = (v359 5).toInt ∨ (v359 3).toInt < (v370 3).toInt ∨ ¬ (v370 5).toInt = 59 := pv375
                have hs2_f371 : f371 2 = (f332 2) := kq376.trans hs2_f360
                have hs3_f371 : f371 3 = (f332 3) := kq377.trans hs3_f360
                have hs6_f371 : f371 6 = (f332 6) := kq378.trans hs6_f360
                have hUv370 : (v370 35).toInt + (v370 36).toInt ≤ 40 := hIv370.2
                have hq0_v370 : v370 0 = (v 0) := hk0_v370.trans hq0_v359
                have zq0_v370 := congrArg Int32.toInt hq0_v370
                have hq1_v370 : v370 1 = (v359 1) := hk1_v370
                have zq1_v370 := congrArg Int32.toInt hq1_v370
                have hq4_v370 : v370 4 = (v 4) := hk4_v370.trans hq4_v359
                have zq4_v370 := congrArg Int32.toInt hq4_v370
                have hq8_v370 : v370 8 = (v331 8) := hk8_v370.trans hq8_v359
                have zq8_v370 := congrArg Int32.toInt hq8_v370
                have hq9_v370 : v370 9 = (v 9) := hk9_v370.trans hq9_v359
                have zq9_v370 := congrArg Int32.toInt hq9_v370
                have hq10_v370 : v370 10 = (v331 10) := hk10_v370.trans hq10_v359
                have zq10_v370 := congrArg Int32.toInt hq10_v370
                have hq13_v370 : v370 13 = (v331 13) := hk13_v370.trans hq13_v359
                have zq13_v370 := congrArg Int32.toInt hq13_v370
                have hq14_v370 : v370 14 = (v331 14) := hk14_v370.trans hq14_v359
                have zq14_v370 := congrArg Int32.toInt hq14_v370
                have hq15_v370 : v370 15 = (v331 15) := hk15_v370.trans hq15_v359
                have zq15_v370 := congrArg Int32.toInt hq15_v370
                have hq17_v370 : v370 17 = (v 17) := hk17_v370.trans hq17_v359
                have zq17_v370 := congrArg Int32.toInt hq17_v370
                have hq18_v370 : v370 18 = (v 18) := hk18_v370.trans hq18_v359
                have zq18_v370 := congrArg Int32.toInt hq18_v370
                have hq24_v370 : v370 24 = (v 24) := hk24_v370.trans hq24_v359
                have hq25_v370 : v370 25 = (v 25) := hk25_v370.trans hq25_v359
                have hq35_v370 : v370 35 = (v 35) := hk35_v370.trans hq35_v359
                have zq35_v370 := congrArg Int32.toInt hq35_v370
                have hq36_v370 : v370 36 = (v 36) := hk36_v370.trans hq36_v359
                have zq36_v370 := congrArg Int32.toInt hq36_v370
                have hq38_v370 : v370 38 = (v 38) := hk38_v370.trans hq38_v359
                have hq39_v370 : v370 39 = (v 39) := hk39_v370.trans hq39_v359
                have hGR : GR (v 3).toInt (v 5).toInt (v370 3).toInt (v370 5).toInt := GR.tr hGR (show GR (v359 3).toInt (v359 5).toInt (v370 3).toInt (v370 5).toInt from ⟨pv374, pv375⟩) (by first | rfl | assumption | omega) (by first | rfl | assumption | omega)
                clear pv375
                exact ret (v370, f371, w372, g373) _ _ _ _ _ _ ⟨hIv370, hCf371, hRf371, (hk0_v370.trans (hk0_v359.trans hk0_v331)), (hk4_v370.trans (hk4_v359.trans hk4_v331)), (hk9_v370.trans (hk9_v359.trans hk9_v331)), (hk24_v370.trans (hk24_v359.trans hk24_v331)), (hk25_v370.trans (hk25_v359.trans hk25_v331)), (hk35_v370.trans (hk35_v359.trans hk35_v331)), (hk36_v370.trans (hk36_v359.trans hk36_v331)), (hk38_v370.trans (hk38_v359.trans hk38_v331)), (hk39_v370.trans (hk39_v359.trans hk39_v331)), (by show GA (v370 1).toInt (v 3).toInt (v370 3).toInt; exact GA.ab hGR (by omega) (by omega)), (by show (v370 1).toInt = 0 → ¬ (v370 15).toInt = 0 → progOK (f371 2) (f371 3) ((v370 8).toInt).toNat; rw [hs2_f371, hs3_f371]; intro hz8 hz9; exact prog_n (hPF (by omega)) (by omega))⟩ hP hD hS dX11_readLine_306 (Nat.le_refl _) (Nat.le_refl _)
      · skip
        subst g329
        refine lv_if_eq (tgt := 76) hx hb dX11_readLine_59 (by decide) (fun _ => ?_) (fun c0 => absurd (by decide) c0)
        exact jp76 _ _ _ hP hD hS hl
    refine lv_aload_n hx hb dX11_readLine_26 rfl (lv_at hl 0 rfl) ?_
    refine lv_ldc2 (v := 1668243828) hx hb hown (hts _ k_1624) dX11_readLine_27 ?_
    refine cbVi (n := 1) (rest := []) hx hb hml hown hts hE hP hD hS hA (sY_X11_isWord_1 l dC dI cy y0 r 1668243828 v f w g hIv hCf hRf ) k_1601 k_1603 k_45 k_114 k_1604 (by decide +kernel) ⟨Nat.le_of_ble_eq_true rfl, Nat.le_of_ble_eq_true rfl⟩ 0 11 rfl rfl (rfl) hl.1 rfl (Nat.le_of_ble_eq_true rfl) dX11_readLine_30 (fun r379 u H locs hw hP hD hS => ?_)
    rcases hw with ⟨g380, g380_0⟩ | ⟨g380⟩
    · skip
      subst g380
      refine lv_if_eq (tgt := 52) hx hb dX11_readLine_33 (by decide) (fun c0 => absurd c0 (by decide)) (fun _ => ?_)
      refine lv_aload_n hx hb dX11_readLine_36 rfl (lv_at hl 0 rfl) ?_
      refine va_get (D := (dC, dI)) (ci := 11) (v := .int (v 18)) (C := RX11) (T := TX11) (N := 79) hx hb hts inB_11 hown hE.1 hP 0 rfl rfl 42 (by decide) (hts _ k_1362) (fun _ h9 => h9) rfl dX11_readLine_37 ?_
      have b18_v : 0 ≤ (v 18).toInt ∧ (v 18).toInt ≤ 6 := YIb.b hIv.1 18 (by decide)
      refine lv_bipush (v := 6) hx hb dX11_readLine_40 (by decide) ?_
      refine lv_icmp_ge (tgt := 52) hx hb dX11_readLine_42 (by decide) (fun c381 => ?_) (fun c381 => ?_)
      · skip
        have zc381 : 6 ≤ (v 18).toInt := by rw [fa_le, show (6 : Int32).toInt = 6 from by decide] at c381; exact c381
        exact jp52 _ _ _ hP hD hS hl
      · skip
        have zc381 : ¬ (6 ≤ (v 18).toInt) := by rw [fa_le, show (6 : Int32).toInt = 6 from by decide] at c381; exact c381
        refine lv_aload_n hx hb dX11_readLine_45 rfl (lv_at hl 0 rfl) ?_
        refine cbVv (n := 0) (rest := []) hx hb hml hown hts hE hP hD hS hA (sY_X11_readCoat_1 l dC dI cy y0 r  v f w g hIv hCf hRf (by show (v 18).toInt ≤ 5; omega)) k_1661 k_1663 k_55 k_114 k_1664 (by decide +kernel) ⟨Nat.le_of_ble_eq_true rfl, Nat.le_of_ble_eq_true rfl⟩ 0 11 rfl rfl (rfl) hl.1 rfl (Nat.le_of_ble_eq_true rfl) dX11_readLine_46 (fun u H locs hw hP hD hS => ?_)
        obtain ⟨v382, f383, w384, g385⟩ := u
        obtain ⟨hIv382, hCf383, hRf383, hk0_v382, hk4_v382, hk8_v382, hk9_v382, hk10_v382, hk13_v382, hk14_v382, hk15_v382, hk17_v382, hk24_v382, hk25_v382, hk35_v382, hk36_v382, hk38_v382, hk39_v382, pv386, pv387, kq388, kq389, kq390⟩ := hw
        have hP : va_P (dC, dI) vwCl (YW cy y0 r v382 f383 w384 g385) H := hP
        have hD : va_D A (YW cy y0 r v382 f383 w384 g385) := hD
        have b3_v382 : 0 ≤ (v382 3).toInt ∧ (v382 3).toInt ≤ 1600 := YIb.b hIv382.1 3 (by decide)
        have pv386 : (v 3).toInt ≤ (v382 3).toInt := pv386
        have pv387 : (v382 5).toInt = (v 5).toInt ∨ (v 3).toInt < (v382 3).toInt ∨ ¬ (v382 5).toInt = 59 := pv387
        have hs2_f383 : f383 2 = (f 2) := kq388
        have hs3_f383 : f383 3 = (f 3) := kq389
        have hs6_f383 : f383 6 = (f 6) := kq390
        have hUv382 : (v382 35).toInt + (v382 36).toInt ≤ 40 := hIv382.2
        have hq0_v382 : v382 0 = (v 0) := hk0_v382
        have zq0_v382 := congrArg Int32.toInt hq0_v382
        have hq4_v382 : v382 4 = (v 4) := hk4_v382
        have zq4_v382 := congrArg Int32.toInt hq4_v382
        have hq8_v382 : v382 8 = (v 8) := hk8_v382
        have zq8_v382 := congrArg Int32.toInt hq8_v382
        have hq9_v382 : v382 9 = (v 9) := hk9_v382
        have zq9_v382 := congrArg Int32.toInt hq9_v382
        have hq10_v382 : v382 10 = (v 10) := hk10_v382
        have zq10_v382 := congrArg Int32.toInt hq10_v382
        have hq13_v382 : v382 13 = (v 13) := hk13_v382
        have zq13_v382 := congrArg Int32.toInt hq13_v382
        have hq14_v382 : v382 14 = (v 14) := hk14_v382
        have zq14_v382 := congrArg Int32.toInt hq14_v382
        have hq15_v382 : v382 15 = (v 15) := hk15_v382
        have zq15_v382 := congrArg Int32.toInt hq15_v382
        have hq17_v382 : v382 17 = (v 17) := hk17_v382
        have zq17_v382 := congrArg Int32.toInt hq17_v382
        have hq24_v382 : v382 24 = (v 24) := hk24_v382
        have hq25_v382 : v382 25 = (v 25) := hk25_v382
        have hq35_v382 : v382 35 = (v 35) := hk35_v382
        have zq35_v382 := congrArg Int32.toInt hq35_v382
        have hq36_v382 : v382 36 = (v 36) := hk36_v382
        have zq36_v382 := congrArg Int32.toInt hq36_v382
        have hq38_v382 : v382 38 = (v 38) := hk38_v382
        have hq39_v382 : v382 39 = (v 39) := hk39_v382
        have hGR : GR (v 3).toInt (v 5).toInt (v382 3).toInt (v382 5).toInt := GR.tr hGR (show GR (v 3).toInt (v 5).toInt (v382 3).toInt (v382 5).toInt from ⟨pv386, pv387⟩) (by first | rfl | assumption | omega) (by first | rfl | assumption | omega)
        clear pv387
        refine lv_goto (tgt := 274) hx hb dX11_readLine_49 (by decide) ?_
        refine lv_aload_n hx hb dX11_readLine_274 rfl (lv_at hl 0 rfl) ?_
        refine va_get (D := (dC, dI)) (ci := 11) (v := .int (v382 1)) (C := RX11) (T := TX11) (N := 79) hx hb hts inB_11 hown hE.1 hP 0 rfl rfl 2 (by decide) (hts _ k_1322) (fun _ h9 => h9) rfl dX11_readLine_275 ?_
        have b1_v382 : 0 ≤ (v382 1).toInt ∧ (v382 1).toInt ≤ 4 := YIb.b hIv382.1 1 (by decide)
        refine lv_if_ne (tgt := 295) hx hb dX11_readLine_278 (by decide) (fun c391 => ?_) (fun c391 => ?_)
        · skip
          have zc391 : ¬ ((v382 1).toInt = 0) := by rw [fa_eq, show (0 : Int32).toInt = 0 from by decide] at c391; exact c391
          refine lv_aload_n hx hb dX11_readLine_295 rfl (lv_at hl 0 rfl) ?_
          refine va_get (D := (dC, dI)) (ci := 11) (v := .int (v382 1)) (C := RX11) (T := TX11) (N := 79) hx hb hts inB_11 hown hE.1 hP 0 rfl rfl 2 (by decide) (hts _ k_1322) (fun _ h9 => h9) rfl dX11_readLine_296 ?_
          refine lv_if_ne (tgt := 306) hx hb dX11_readLine_299 (by decide) (fun c392 => ?_) (fun c392 => ?_)
          · skip
            have zc392 : ¬ ((v382 1).toInt = 0) := by rw [fa_eq, show (0 : Int32).toInt = 0 from by decide] at c392; exact c392
            exact ret (v382, f383, w384, g385) _ _ _ _ _ _ ⟨hIv382, hCf383, hRf383, hk0_v382, hk4_v382, hk9_v382, hk24_v382, hk25_v382, hk35_v382, hk36_v382, hk38_v382, hk39_v382, (by show GA (v382 1).toInt (v 3).toInt (v382 3).toInt; exact GA.ab hGR (by omega) (by omega)), (by show (v382 1).toInt = 0 → ¬ (v382 15).toInt = 0 → progOK (f383 2) (f383 3) ((v382 8).toInt).toNat; rw [hs2_f383, hs3_f383]; intro hz8 hz9; exact prog_n (hPR (by omega)) (by omega))⟩ hP hD hS dX11_readLine_306 (Nat.le_refl _) (Nat.le_refl _)
          · skip
            have zc392 : (v382 1).toInt = 0 := by rw [fa_eq, show (0 : Int32).toInt = 0 from by decide] at c392; exact c392
            have hgrew := GR.grew hGR (by omega) (by omega)
            refine lv_aload_n hx hb dX11_readLine_302 rfl (lv_at hl 0 rfl) ?_
            refine cbVv (n := 0) (rest := []) hx hb hml hown hts hE hP hD hS hA (sY_X11_token_1 l dC dI cy y0 r  v382 f383 w384 g385 hIv382 hCf383 hRf383 ) k_1579 k_1581 k_42 k_114 k_1582 (by decide +kernel) ⟨Nat.le_of_ble_eq_true rfl, Nat.le_of_ble_eq_true rfl⟩ 0 11 rfl rfl (rfl) hl.1 rfl (Nat.le_of_ble_eq_true rfl) dX11_readLine_303 (fun u H locs hw hP hD hS => ?_)
            obtain ⟨v393, f394, w395, g396⟩ := u
            obtain ⟨hIv393, hCf394, hRf394, hk0_v393, hk1_v393, hk4_v393, hk8_v393, hk9_v393, hk10_v393, hk13_v393, hk14_v393, hk15_v393, hk17_v393, hk18_v393, hk24_v393, hk25_v393, hk35_v393, hk36_v393, hk38_v393, hk39_v393, pv397, pv398, kq399, kq400, kq401⟩ := hw
            have hP : va_P (dC, dI) vwCl (YW cy y0 r v393 f394 w395 g396) H := hP
            have hD : va_D A (YW cy y0 r v393 f394 w395 g396) := hD
            have b3_v393 : 0 ≤ (v393 3).toInt ∧ (v393 3).toInt ≤ 1600 := YIb.b hIv393.1 3 (by decide)
            have pv397 : (v382 3).toInt ≤ (v393 3).toInt := pv397
            have pv398 : (v393 5).toInt = (v382 5).toInt ∨ (v382 3).toInt < (v393 3).toInt ∨ ¬ (v393 5).toInt = 59 := pv398
            have hs2_f394 : f394 2 = (f 2) := kq399.trans hs2_f383
            have hs3_f394 : f394 3 = (f 3) := kq400.trans hs3_f383
            have hs6_f394 : f394 6 = (f 6) := kq401.trans hs6_f383
            have hUv393 : (v393 35).toInt + (v393 36).toInt ≤ 40 := hIv393.2
            have hq0_v393 : v393 0 = (v 0) := hk0_v393.trans hq0_v382
            have zq0_v393 := congrArg Int32.toInt hq0_v393
            have hq1_v393 : v393 1 = (v382 1) := hk1_v393
            have zq1_v393 := congrArg Int32.toInt hq1_v393
            have hq4_v393 : v393 4 = (v 4) := hk4_v393.trans hq4_v382
            have zq4_v393 := congrArg Int32.toInt hq4_v393
            have hq8_v393 : v393 8 = (v 8) := hk8_v393.trans hq8_v382
            have zq8_v393 := congrArg Int32.toInt hq8_v393
            have hq9_v393 : v393 9 = (v 9) := hk9_v393.trans hq9_v382
            have zq9_v393 := congrArg Int32.toInt hq9_v393
            have hq10_v393 : v393 10 = (v 10) := hk10_v393.trans hq10_v382
            have zq10_v393 := congrArg Int32.toInt hq10_v393
            have hq13_v393 : v393 13 = (v 13) := hk13_v393.trans hq13_v382
            have zq13_v393 := congrArg Int32.toInt hq13_v393
            have hq14_v393 : v393 14 = (v 14) := hk14_v393.trans hq14_v382
            have zq14_v393 := congrArg Int32.toInt hq14_v393
            have hq15_v393 : v393 15 = (v 15) := hk15_v393.trans hq15_v382
            have zq15_v393 := congrArg Int32.toInt hq15_v393
            have hq17_v393 : v393 17 = (v 17) := hk17_v393.trans hq17_v382
            have zq17_v393 := congrArg Int32.toInt hq17_v393
            have hq18_v393 : v393 18 = (v382 18) := hk18_v393
            have zq18_v393 := congrArg Int32.toInt hq18_v393
            have hq24_v393 : v393 24 = (v 24) := hk24_v393.trans hq24_v382
            have hq25_v393 : v393 25 = (v 25) := hk25_v393.trans hq25_v382
            have hq35_v393 : v393 35 = (v 35) := hk35_v393.trans hq35_v382
            have zq35_v393 := congrArg Int32.toInt hq35_v393
            have hq36_v393 : v393 36 = (v 36) := hk36_v393.trans hq36_v382
            have zq36_v393 := congrArg Int32.toInt hq36_v393
            have hq38_v393 : v393 38 = (v 38) := hk38_v393.trans hq38_v382
            have hq39_v393 : v393 39 = (v 39) := hk39_v393.trans hq39_v382
            have hGR : GR (v 3).toInt (v 5).toInt (v393 3).toInt (v393 5).toInt := GR.tr hGR (show GR (v382 3).toInt (v382 5).toInt (v393 3).toInt (v393 5).toInt from ⟨pv397, pv398⟩) (by first | rfl | assumption | omega) (by first | rfl | assumption | omega)
            clear pv398
            exact ret (v393, f394, w395, g396) _ _ _ _ _ _ ⟨hIv393, hCf394, hRf394, (hk0_v393.trans hk0_v382), (hk4_v393.trans hk4_v382), (hk9_v393.trans hk9_v382), (hk24_v393.trans hk24_v382), (hk25_v393.trans hk25_v382), (hk35_v393.trans hk35_v382), (hk36_v393.trans hk36_v382), (hk38_v393.trans hk38_v382), (hk39_v393.trans hk39_v382), (by show GA (v393 1).toInt (v 3).toInt (v393 3).toInt; exact GA.mk hgrew hGR (by omega)), (by show (v393 1).toInt = 0 → ¬ (v393 15).toInt = 0 → progOK (f394 2) (f394 3) ((v393 8).toInt).toNat; rw [hs2_f394, hs3_f394]; intro hz8 hz9; exact prog_n (hPR (by omega)) (by omega))⟩ hP hD hS dX11_readLine_306 (Nat.le_refl _) (Nat.le_refl _)
        · skip
          have zc391 : (v382 1).toInt = 0 := by rw [fa_eq, show (0 : Int32).toInt = 0 from by decide] at c391; exact c391
          refine lv_aload_n hx hb dX11_readLine_281 rfl (lv_at hl 0 rfl) ?_
          refine va_get (D := (dC, dI)) (ci := 11) (v := .int (v382 5)) (C := RX11) (T := TX11) (N := 79) hx hb hts inB_11 hown hE.1 hP 0 rfl rfl 6 (by decide) (hts _ k_1326) (fun _ h9 => h9) rfl dX11_readLine_282 ?_
          refine lv_bipush (v := 59) hx hb dX11_readLine_285 (by decide) ?_
          refine lv_icmp_eq (tgt := 295) hx hb dX11_readLine_287 (by decide) (fun c402 => ?_) (fun c402 => ?_)
          · skip
            have zc402 : (v382 5).toInt = 59 := by rw [fa_eq, show (59 : Int32).toInt = 59 from by decide] at c402; exact c402
            refine lv_aload_n hx hb dX11_readLine_295 rfl (lv_at hl 0 rfl) ?_
            refine va_get (D := (dC, dI)) (ci := 11) (v := .int (v382 1)) (C := RX11) (T := TX11) (N := 79) hx hb hts inB_11 hown hE.1 hP 0 rfl rfl 2 (by decide) (hts _ k_1322) (fun _ h9 => h9) rfl dX11_readLine_296 ?_
            refine lv_if_ne (tgt := 306) hx hb dX11_readLine_299 (by decide) (fun c403 => ?_) (fun c403 => ?_)
            · skip
              have zc403 : ¬ ((v382 1).toInt = 0) := by rw [fa_eq, show (0 : Int32).toInt = 0 from by decide] at c403; exact c403
              exact ret (v382, f383, w384, g385) _ _ _ _ _ _ ⟨hIv382, hCf383, hRf383, hk0_v382, hk4_v382, hk9_v382, hk24_v382, hk25_v382, hk35_v382, hk36_v382, hk38_v382, hk39_v382, (by show GA (v382 1).toInt (v 3).toInt (v382 3).toInt; exact GA.ab hGR (by omega) (by omega)), (by show (v382 1).toInt = 0 → ¬ (v382 15).toInt = 0 → progOK (f383 2) (f383 3) ((v382 8).toInt).toNat; rw [hs2_f383, hs3_f383]; intro hz8 hz9; exact prog_n (hPR (by omega)) (by omega))⟩ hP hD hS dX11_readLine_306 (Nat.le_refl _) (Nat.le_refl _)
            · skip
              have zc403 : (v382 1).toInt = 0 := by rw [fa_eq, show (0 : Int32).toInt = 0 from by decide] at c403; exact c403
              have hgrew := GR.grew hGR (by omega) (by omega)
              refine lv_aload_n hx hb dX11_readLine_302 rfl (lv_at hl 0 rfl) ?_
              refine cbVv (n := 0) (rest := []) hx hb hml hown hts hE hP hD hS hA (sY_X11_token_1 l dC dI cy y0 r  v382 f383 w384 g385 hIv382 hCf383 hRf383 ) k_1579 k_1581 k_42 k_114 k_1582 (by decide +kernel) ⟨Nat.le_of_ble_eq_true rfl, Nat.le_of_ble_eq_true rfl⟩ 0 11 rfl rfl (rfl) hl.1 rfl (Nat.le_of_ble_eq_true rfl) dX11_readLine_303 (fun u H locs hw hP hD hS => ?_)
              obtain ⟨v404, f405, w406, g407⟩ := u
              obtain ⟨hIv404, hCf405, hRf405, hk0_v404, hk1_v404, hk4_v404, hk8_v404, hk9_v404, hk10_v404, hk13_v404, hk14_v404, hk15_v404, hk17_v404, hk18_v404, hk24_v404, hk25_v404, hk35_v404, hk36_v404, hk38_v404, hk39_v404, pv408, pv409, kq410, kq411, kq412⟩ := hw
              have hP : va_P (dC, dI) vwCl (YW cy y0 r v404 f405 w406 g407) H := hP
              have hD : va_D A (YW cy y0 r v404 f405 w406 g407) := hD
              have b3_v404 : 0 ≤ (v404 3).toInt ∧ (v404 3).toInt ≤ 1600 := YIb.b hIv404.1 3 (by decide)
              have pv408 : (v382 3).toInt ≤ (v404 3).toInt := pv408
              have pv409 : (v404 5).toInt = (v382 5).toInt ∨ (v382 3).toInt < (v404 3).toInt ∨ ¬ (v404 5).toInt = 59 := pv409
              have hs2_f405 : f405 2 = (f 2) := kq410.trans hs2_f383
              have hs3_f405 : f405 3 = (f 3) := kq411.trans hs3_f383
              have hs6_f405 : f405 6 = (f 6) := kq412.trans hs6_f383
              have hUv404 : (v404 35).toInt + (v404 36).toInt ≤ 40 := hIv404.2
              have hq0_v404 : v404 0 = (v 0) := hk0_v404.trans hq0_v382
              have zq0_v404 := congrArg Int32.toInt hq0_v404
              have hq1_v404 : v404 1 = (v382 1) := hk1_v404
              have zq1_v404 := congrArg Int32.toInt hq1_v404
              have hq4_v404 : v404 4 = (v 4) := hk4_v404.trans hq4_v382
              have zq4_v404 := congrArg Int32.toInt hq4_v404
              have hq8_v404 : v404 8 = (v 8) := hk8_v404.trans hq8_v382
              have zq8_v404 := congrArg Int32.toInt hq8_v404
              have hq9_v404 : v404 9 = (v 9) := hk9_v404.trans hq9_v382
              have zq9_v404 := congrArg Int32.toInt hq9_v404
              have hq10_v404 : v404 10 = (v 10) := hk10_v404.trans hq10_v382
              have zq10_v404 := congrArg Int32.toInt hq10_v404
              have hq13_v404 : v404 13 = (v 13) := hk13_v404.trans hq13_v382
              have zq13_v404 := congrArg Int32.toInt hq13_v404
              have hq14_v404 : v404 14 = (v 14) := hk14_v404.trans hq14_v382
              have zq14_v404 := congrArg Int32.toInt hq14_v404
              have hq15_v404 : v404 15 = (v 15) := hk15_v404.trans hq15_v382
              have zq15_v404 := congrArg Int32.toInt hq15_v404
              have hq17_v404 : v404 17 = (v 17) := hk17_v404.trans hq17_v382
              have zq17_v404 := congrArg Int32.toInt hq17_v404
              have hq18_v404 : v404 18 = (v382 18) := hk18_v404
              have zq18_v404 := congrArg Int32.toInt hq18_v404
              have hq24_v404 : v404 24 = (v 24) := hk24_v404.trans hq24_v382
              have hq25_v404 : v404 25 = (v 25) := hk25_v404.trans hq25_v382
              have hq35_v404 : v404 35 = (v 35) := hk35_v404.trans hq35_v382
              have zq35_v404 := congrArg Int32.toInt hq35_v404
              have hq36_v404 : v404 36 = (v 36) := hk36_v404.trans hq36_v382
              have zq36_v404 := congrArg Int32.toInt hq36_v404
              have hq38_v404 : v404 38 = (v 38) := hk38_v404.trans hq38_v382
              have hq39_v404 : v404 39 = (v 39) := hk39_v404.trans hq39_v382
              have hGR : GR (v 3).toInt (v 5).toInt (v404 3).toInt (v404 5).toInt := GR.tr hGR (show GR (v382 3).toInt (v382 5).toInt (v404 3).toInt (v404 5).toInt from ⟨pv408, pv409⟩) (by first | rfl | assumption | omega) (by first | rfl | assumption | omega)
              clear pv409
              exact ret (v404, f405, w406, g407) _ _ _ _ _ _ ⟨hIv404, hCf405, hRf405, (hk0_v404.trans hk0_v382), (hk4_v404.trans hk4_v382), (hk9_v404.trans hk9_v382), (hk24_v404.trans hk24_v382), (hk25_v404.trans hk25_v382), (hk35_v404.trans hk35_v382), (hk36_v404.trans hk36_v382), (hk38_v404.trans hk38_v382), (hk39_v404.trans hk39_v382), (by show GA (v404 1).toInt (v 3).toInt (v404 3).toInt; exact GA.mk hgrew hGR (by omega)), (by show (v404 1).toInt = 0 → ¬ (v404 15).toInt = 0 → progOK (f405 2) (f405 3) ((v404 8).toInt).toNat; rw [hs2_f405, hs3_f405]; intro hz8 hz9; exact prog_n (hPR (by omega)) (by omega))⟩ hP hD hS dX11_readLine_306 (Nat.le_refl _) (Nat.le_refl _)
          · skip
            have zc402 : ¬ ((v382 5).toInt = 59) := by rw [fa_eq, show (59 : Int32).toInt = 59 from by decide] at c402; exact c402
            refine lv_aload_n hx hb dX11_readLine_290 rfl (lv_at hl 0 rfl) ?_
            refine lv_iconst (v := 2) hx hb dX11_readLine_291 (by decide) ?_
            refine cbVv (n := 1) (rest := []) hx hb hml hown hts hE hP hD hS hA (sY_X11_wrong_1 l dC dI cy y0 r 2 v382 f383 w384 g385 hIv382 hCf383 hRf383 ⟨by decide, by decide⟩) k_1641 k_1643 k_50 k_114 k_1644 (by decide +kernel) ⟨Nat.le_of_ble_eq_true rfl, Nat.le_of_ble_eq_true rfl⟩ 0 11 rfl rfl (rfl) hl.1 rfl (Nat.le_of_ble_eq_true rfl) dX11_readLine_292 (fun u H locs hw hP hD hS => ?_)
            obtain ⟨v413, f414, w415, g416⟩ := u
            obtain ⟨hIv413, hCf414, hRf414, hk0_v413, hk3_v413, hk4_v413, hk5_v413, hk8_v413, hk9_v413, hk10_v413, hk13_v413, hk14_v413, hk15_v413, hk17_v413, hk18_v413, hk24_v413, hk25_v413, hk35_v413, hk36_v413, hk38_v413, hk39_v413, pv417, pv418, pv419, kq420, kq421, kq422⟩ := hw
            have hP : va_P (dC, dI) vwCl (YW cy y0 r v413 f414 w415 g416) H := hP
            have hD : va_D A (YW cy y0 r v413 f414 w415 g416) := hD
            have b3_v413 : 0 ≤ (v413 3).toInt ∧ (v413 3).toInt ≤ 1600 := YIb.b hIv413.1 3 (by decide)
            have b1_v413 : 0 ≤ (v413 1).toInt ∧ (v413 1).toInt ≤ 4 := YIb.b hIv413.1 1 (by decide)
            have pv417 : (v382 3).toInt ≤ (v413 3).toInt := pv417
            have pv418 : (v413 5).toInt = (v382 5).toInt ∨ (v382 3).toInt < (v413 3).toInt ∨ ¬ (v413 5).toInt = 59 := pv418
            have pv419 : 0 < (v413 1).toInt := pv419
            have hs2_f414 : f414 2 = (f 2) := kq420.trans hs2_f383
            have hs3_f414 : f414 3 = (f 3) := kq421.trans hs3_f383
            have hs6_f414 : f414 6 = (f 6) := kq422.trans hs6_f383
            have hUv413 : (v413 35).toInt + (v413 36).toInt ≤ 40 := hIv413.2
            have hq0_v413 : v413 0 = (v 0) := hk0_v413.trans hq0_v382
            have zq0_v413 := congrArg Int32.toInt hq0_v413
            have hq3_v413 : v413 3 = (v382 3) := hk3_v413
            have zq3_v413 := congrArg Int32.toInt hq3_v413
            have hq4_v413 : v413 4 = (v 4) := hk4_v413.trans hq4_v382
            have zq4_v413 := congrArg Int32.toInt hq4_v413
            have hq5_v413 : v413 5 = (v382 5) := hk5_v413
            have zq5_v413 := congrArg Int32.toInt hq5_v413
            have hq8_v413 : v413 8 = (v 8) := hk8_v413.trans hq8_v382
            have zq8_v413 := congrArg Int32.toInt hq8_v413
            have hq9_v413 : v413 9 = (v 9) := hk9_v413.trans hq9_v382
            have zq9_v413 := congrArg Int32.toInt hq9_v413
            have hq10_v413 : v413 10 = (v 10) := hk10_v413.trans hq10_v382
            have zq10_v413 := congrArg Int32.toInt hq10_v413
            have hq13_v413 : v413 13 = (v 13) := hk13_v413.trans hq13_v382
            have zq13_v413 := congrArg Int32.toInt hq13_v413
            have hq14_v413 : v413 14 = (v 14) := hk14_v413.trans hq14_v382
            have zq14_v413 := congrArg Int32.toInt hq14_v413
            have hq15_v413 : v413 15 = (v 15) := hk15_v413.trans hq15_v382
            have zq15_v413 := congrArg Int32.toInt hq15_v413
            have hq17_v413 : v413 17 = (v 17) := hk17_v413.trans hq17_v382
            have zq17_v413 := congrArg Int32.toInt hq17_v413
            have hq18_v413 : v413 18 = (v382 18) := hk18_v413
            have zq18_v413 := congrArg Int32.toInt hq18_v413
            have hq24_v413 : v413 24 = (v 24) := hk24_v413.trans hq24_v382
            have hq25_v413 : v413 25 = (v 25) := hk25_v413.trans hq25_v382
            have hq35_v413 : v413 35 = (v 35) := hk35_v413.trans hq35_v382
            have zq35_v413 := congrArg Int32.toInt hq35_v413
            have hq36_v413 : v413 36 = (v 36) := hk36_v413.trans hq36_v382
            have zq36_v413 := congrArg Int32.toInt hq36_v413
            have hq38_v413 : v413 38 = (v 38) := hk38_v413.trans hq38_v382
            have hq39_v413 : v413 39 = (v 39) := hk39_v413.trans hq39_v382
            have hGR : GR (v 3).toInt (v 5).toInt (v413 3).toInt (v413 5).toInt := GR.tr hGR (show GR (v382 3).toInt (v382 5).toInt (v413 3).toInt (v413 5).toInt from ⟨pv417, pv418⟩) (by first | rfl | assumption | omega) (by first | rfl | assumption | omega)
            clear pv418
            refine lv_aload_n hx hb dX11_readLine_295 rfl (lv_at hl 0 rfl) ?_
            refine va_get (D := (dC, dI)) (ci := 11) (v := .int (v413 1)) (C := RX11) (T := TX11) (N := 79) hx hb hts inB_11 hown hE.1 hP 0 rfl rfl 2 (by decide) (hts _ k_1322) (fun _ h9 => h9) rfl dX11_readLine_296 ?_
            have b1_v413 : 0 ≤ (v413 1).toInt ∧ (v413 1).toInt ≤ 4 := YIb.b hIv413.1 1 (by decide)
            refine lv_if_ne (tgt := 306) hx hb dX11_readLine_299 (by decide) (fun c423 => ?_) (fun c423 => ?_)
            · skip
              have zc423 : ¬ ((v413 1).toInt = 0) := by rw [fa_eq, show (0 : Int32).toInt = 0 from by decide] at c423; exact c423
              exact ret (v413, f414, w415, g416) _ _ _ _ _ _ ⟨hIv413, hCf414, hRf414, (hk0_v413.trans hk0_v382), (hk4_v413.trans hk4_v382), (hk9_v413.trans hk9_v382), (hk24_v413.trans hk24_v382), (hk25_v413.trans hk25_v382), (hk35_v413.trans hk35_v382), (hk36_v413.trans hk36_v382), (hk38_v413.trans hk38_v382), (hk39_v413.trans hk39_v382), (by show GA (v413 1).toInt (v 3).toInt (v413 3).toInt; exact GA.ab hGR (by omega) (by omega)), (by show (v413 1).toInt = 0 → ¬ (v413 15).toInt = 0 → progOK (f414 2) (f414 3) ((v413 8).toInt).toNat; rw [hs2_f414, hs3_f414]; intro hz8 hz9; exact prog_n (hPR (by omega)) (by omega))⟩ hP hD hS dX11_readLine_306 (Nat.le_refl _) (Nat.le_refl _)
            · skip
              have zc423 : (v413 1).toInt = 0 := by rw [fa_eq, show (0 : Int32).toInt = 0 from by decide] at c423; exact c423
              refine lv_aload_n hx hb dX11_readLine_302 rfl (lv_at hl 0 rfl) ?_
              refine cbVv (n := 0) (rest := []) hx hb hml hown hts hE hP hD hS hA (sY_X11_token_1 l dC dI cy y0 r  v413 f414 w415 g416 hIv413 hCf414 hRf414 ) k_1579 k_1581 k_42 k_114 k_1582 (by decide +kernel) ⟨Nat.le_of_ble_eq_true rfl, Nat.le_of_ble_eq_true rfl⟩ 0 11 rfl rfl (rfl) hl.1 rfl (Nat.le_of_ble_eq_true rfl) dX11_readLine_303 (fun u H locs hw hP hD hS => ?_)
              obtain ⟨v424, f425, w426, g427⟩ := u
              obtain ⟨hIv424, hCf425, hRf425, hk0_v424, hk1_v424, hk4_v424, hk8_v424, hk9_v424, hk10_v424, hk13_v424, hk14_v424, hk15_v424, hk17_v424, hk18_v424, hk24_v424, hk25_v424, hk35_v424, hk36_v424, hk38_v424, hk39_v424, pv428, pv429, kq430, kq431, kq432⟩ := hw
              have hP : va_P (dC, dI) vwCl (YW cy y0 r v424 f425 w426 g427) H := hP
              have hD : va_D A (YW cy y0 r v424 f425 w426 g427) := hD
              have b3_v424 : 0 ≤ (v424 3).toInt ∧ (v424 3).toInt ≤ 1600 := YIb.b hIv424.1 3 (by decide)
              have pv428 : (v413 3).toInt ≤ (v424 3).toInt := pv428
              have pv429 : (v424 5).toInt = (v413 5).toInt ∨ (v413 3).toInt < (v424 3).toInt ∨ ¬ (v424 5).toInt = 59 := pv429
              have hs2_f425 : f425 2 = (f 2) := kq430.trans hs2_f414
              have hs3_f425 : f425 3 = (f 3) := kq431.trans hs3_f414
              have hs6_f425 : f425 6 = (f 6) := kq432.trans hs6_f414
              have hUv424 : (v424 35).toInt + (v424 36).toInt ≤ 40 := hIv424.2
              have hq0_v424 : v424 0 = (v 0) := hk0_v424.trans hq0_v413
              have zq0_v424 := congrArg Int32.toInt hq0_v424
              have hq1_v424 : v424 1 = (v413 1) := hk1_v424
              have zq1_v424 := congrArg Int32.toInt hq1_v424
              have hq4_v424 : v424 4 = (v 4) := hk4_v424.trans hq4_v413
              have zq4_v424 := congrArg Int32.toInt hq4_v424
              have hq8_v424 : v424 8 = (v 8) := hk8_v424.trans hq8_v413
              have zq8_v424 := congrArg Int32.toInt hq8_v424
              have hq9_v424 : v424 9 = (v 9) := hk9_v424.trans hq9_v413
              have zq9_v424 := congrArg Int32.toInt hq9_v424
              have hq10_v424 : v424 10 = (v 10) := hk10_v424.trans hq10_v413
              have zq10_v424 := congrArg Int32.toInt hq10_v424
              have hq13_v424 : v424 13 = (v 13) := hk13_v424.trans hq13_v413
              have zq13_v424 := congrArg Int32.toInt hq13_v424
              have hq14_v424 : v424 14 = (v 14) := hk14_v424.trans hq14_v413
              have zq14_v424 := congrArg Int32.toInt hq14_v424
              have hq15_v424 : v424 15 = (v 15) := hk15_v424.trans hq15_v413
              have zq15_v424 := congrArg Int32.toInt hq15_v424
              have hq17_v424 : v424 17 = (v 17) := hk17_v424.trans hq17_v413
              have zq17_v424 := congrArg Int32.toInt hq17_v424
              have hq18_v424 : v424 18 = (v382 18) := hk18_v424.trans hq18_v413
              have zq18_v424 := congrArg Int32.toInt hq18_v424
              have hq24_v424 : v424 24 = (v 24) := hk24_v424.trans hq24_v413
              have hq25_v424 : v424 25 = (v 25) := hk25_v424.trans hq25_v413
              have hq35_v424 : v424 35 = (v 35) := hk35_v424.trans hq35_v413
              have zq35_v424 := congrArg Int32.toInt hq35_v424
              have hq36_v424 : v424 36 = (v 36) := hk36_v424.trans hq36_v413
              have zq36_v424 := congrArg Int32.toInt hq36_v424
              have hq38_v424 : v424 38 = (v 38) := hk38_v424.trans hq38_v413
              have hq39_v424 : v424 39 = (v 39) := hk39_v424.trans hq39_v413
              have hGR : GR (v 3).toInt (v 5).toInt (v424 3).toInt (v424 5).toInt := GR.tr hGR (show GR (v413 3).toInt (v413 5).toInt (v424 3).toInt (v424 5).toInt from ⟨pv428, pv429⟩) (by first | rfl | assumption | omega) (by first | rfl | assumption | omega)
              clear pv429
              exact ret (v424, f425, w426, g427) _ _ _ _ _ _ ⟨hIv424, hCf425, hRf425, (hk0_v424.trans (hk0_v413.trans hk0_v382)), (hk4_v424.trans (hk4_v413.trans hk4_v382)), (hk9_v424.trans (hk9_v413.trans hk9_v382)), (hk24_v424.trans (hk24_v413.trans hk24_v382)), (hk25_v424.trans (hk25_v413.trans hk25_v382)), (hk35_v424.trans (hk35_v413.trans hk35_v382)), (hk36_v424.trans (hk36_v413.trans hk36_v382)), (hk38_v424.trans (hk38_v413.trans hk38_v382)), (hk39_v424.trans (hk39_v413.trans hk39_v382)), (by show GA (v424 1).toInt (v 3).toInt (v424 3).toInt; exact GA.ab hGR (by omega) (by omega)), (by show (v424 1).toInt = 0 → ¬ (v424 15).toInt = 0 → progOK (f425 2) (f425 3) ((v424 8).toInt).toNat; rw [hs2_f425, hs3_f425]; intro hz8 hz9; exact prog_n (hPR (by omega)) (by omega))⟩ hP hD hS dX11_readLine_306 (Nat.le_refl _) (Nat.le_refl _)
    · skip
      subst g380
      refine lv_if_eq (tgt := 52) hx hb dX11_readLine_33 (by decide) (fun _ => ?_) (fun c0 => absurd (by decide) c0)
      exact jp52 _ _ _ hP hD hS hl
  refine lv_aload_n hx hb dX11_readLine_0 rfl (lv_at hl 0 rfl) ?_
  refine lv_ldc2 (v := 7168366) hx hb hown (hts _ k_1600) dX11_readLine_1 ?_
  refine cbVi (n := 1) (rest := []) hx hb hml hown hts hE hP hD hS hA (sY_X11_isWord_1 l dC dI cy y0 r 7168366 v f w g hIv hCf hRf ) k_1601 k_1603 k_45 k_114 k_1604 (by decide +kernel) ⟨Nat.le_of_ble_eq_true rfl, Nat.le_of_ble_eq_true rfl⟩ 0 11 rfl rfl (rfl) hl.1 rfl (Nat.le_of_ble_eq_true rfl) dX11_readLine_4 (fun r433 u H locs hw hP hD hS => ?_)
  rcases hw with ⟨g434, g434_0⟩ | ⟨g434⟩
  · skip
    subst g434
    refine lv_if_eq (tgt := 26) hx hb dX11_readLine_7 (by decide) (fun c0 => absurd c0 (by decide)) (fun _ => ?_)
    refine lv_aload_n hx hb dX11_readLine_10 rfl (lv_at hl 0 rfl) ?_
    refine va_get (D := (dC, dI)) (ci := 11) (v := .int (v 17)) (C := RX11) (T := TX11) (N := 79) hx hb hts inB_11 hown hE.1 hP 0 rfl rfl 41 (by decide) (hts _ k_1361) (fun _ h9 => h9) rfl dX11_readLine_11 ?_
    have b17_v : 0 ≤ (v 17).toInt ∧ (v 17).toInt ≤ 6 := YIb.b hIv.1 17 (by decide)
    refine lv_bipush (v := 6) hx hb dX11_readLine_14 (by decide) ?_
    refine lv_icmp_ge (tgt := 26) hx hb dX11_readLine_16 (by decide) (fun c435 => ?_) (fun c435 => ?_)
    · skip
      have zc435 : 6 ≤ (v 17).toInt := by rw [fa_le, show (6 : Int32).toInt = 6 from by decide] at c435; exact c435
      exact jp26 _ _ _ hP hD hS hl
    · skip
      have zc435 : ¬ (6 ≤ (v 17).toInt) := by rw [fa_le, show (6 : Int32).toInt = 6 from by decide] at c435; exact c435
      refine lv_aload_n hx hb dX11_readLine_19 rfl (lv_at hl 0 rfl) ?_
      refine cbVv (n := 0) (rest := []) hx hb hml hown hts hE hP hD hS hA (sY_X11_readMan_1 l dC dI cy y0 r  v f w g hIv hCf hRf (by show (v 17).toInt ≤ 5; omega)) k_1605 k_1607 k_46 k_114 k_1608 (by decide +kernel) ⟨Nat.le_of_ble_eq_true rfl, Nat.le_of_ble_eq_true rfl⟩ 0 11 rfl rfl (rfl) hl.1 rfl (Nat.le_of_ble_eq_true rfl) dX11_readLine_20 (fun u H locs hw hP hD hS => ?_)
      obtain ⟨v436, f437, w438, g439⟩ := u
      obtain ⟨hIv436, hCf437, hRf437, hk0_v436, hk4_v436, hk8_v436, hk9_v436, hk10_v436, hk13_v436, hk14_v436, hk15_v436, hk18_v436, hk24_v436, hk25_v436, hk35_v436, hk36_v436, hk38_v436, hk39_v436, pv440, pv441, kq442, kq443, kq444⟩ := hw
      have hP : va_P (dC, dI) vwCl (YW cy y0 r v436 f437 w438 g439) H := hP
      have hD : va_D A (YW cy y0 r v436 f437 w438 g439) := hD
      have b3_v436 : 0 ≤ (v436 3).toInt ∧ (v436 3).toInt ≤ 1600 := YIb.b hIv436.1 3 (by decide)
      have pv440 : (v 3).toInt ≤ (v436 3).toInt := pv440
      have pv441 : (v436 5).toInt = (v 5).toInt ∨ (v 3).toInt < (v436 3).toInt ∨ ¬ (v436 5).toInt = 59 := pv441
      have hs2_f437 : f437 2 = (f 2) := kq442
      have hs3_f437 : f437 3 = (f 3) := kq443
      have hs6_f437 : f437 6 = (f 6) := kq444
      have hUv436 : (v436 35).toInt + (v436 36).toInt ≤ 40 := hIv436.2
      have hq0_v436 : v436 0 = (v 0) := hk0_v436
      have zq0_v436 := congrArg Int32.toInt hq0_v436
      have hq4_v436 : v436 4 = (v 4) := hk4_v436
      have zq4_v436 := congrArg Int32.toInt hq4_v436
      have hq8_v436 : v436 8 = (v 8) := hk8_v436
      have zq8_v436 := congrArg Int32.toInt hq8_v436
      have hq9_v436 : v436 9 = (v 9) := hk9_v436
      have zq9_v436 := congrArg Int32.toInt hq9_v436
      have hq10_v436 : v436 10 = (v 10) := hk10_v436
      have zq10_v436 := congrArg Int32.toInt hq10_v436
      have hq13_v436 : v436 13 = (v 13) := hk13_v436
      have zq13_v436 := congrArg Int32.toInt hq13_v436
      have hq14_v436 : v436 14 = (v 14) := hk14_v436
      have zq14_v436 := congrArg Int32.toInt hq14_v436
      have hq15_v436 : v436 15 = (v 15) := hk15_v436
      have zq15_v436 := congrArg Int32.toInt hq15_v436
      have hq18_v436 : v436 18 = (v 18) := hk18_v436
      have zq18_v436 := congrArg Int32.toInt hq18_v436
      have hq24_v436 : v436 24 = (v 24) := hk24_v436
      have hq25_v436 : v436 25 = (v 25) := hk25_v436
      have hq35_v436 : v436 35 = (v 35) := hk35_v436
      have zq35_v436 := congrArg Int32.toInt hq35_v436
      have hq36_v436 : v436 36 = (v 36) := hk36_v436
      have zq36_v436 := congrArg Int32.toInt hq36_v436
      have hq38_v436 : v436 38 = (v 38) := hk38_v436
      have hq39_v436 : v436 39 = (v 39) := hk39_v436
      have hGR : GR (v 3).toInt (v 5).toInt (v436 3).toInt (v436 5).toInt := GR.tr hGR (show GR (v 3).toInt (v 5).toInt (v436 3).toInt (v436 5).toInt from ⟨pv440, pv441⟩) (by first | rfl | assumption | omega) (by first | rfl | assumption | omega)
      clear pv441
      refine lv_goto (tgt := 274) hx hb dX11_readLine_23 (by decide) ?_
      refine lv_aload_n hx hb dX11_readLine_274 rfl (lv_at hl 0 rfl) ?_
      refine va_get (D := (dC, dI)) (ci := 11) (v := .int (v436 1)) (C := RX11) (T := TX11) (N := 79) hx hb hts inB_11 hown hE.1 hP 0 rfl rfl 2 (by decide) (hts _ k_1322) (fun _ h9 => h9) rfl dX11_readLine_275 ?_
      have b1_v436 : 0 ≤ (v436 1).toInt ∧ (v436 1).toInt ≤ 4 := YIb.b hIv436.1 1 (by decide)
      refine lv_if_ne (tgt := 295) hx hb dX11_readLine_278 (by decide) (fun c445 => ?_) (fun c445 => ?_)
      · skip
        have zc445 : ¬ ((v436 1).toInt = 0) := by rw [fa_eq, show (0 : Int32).toInt = 0 from by decide] at c445; exact c445
        refine lv_aload_n hx hb dX11_readLine_295 rfl (lv_at hl 0 rfl) ?_
        refine va_get (D := (dC, dI)) (ci := 11) (v := .int (v436 1)) (C := RX11) (T := TX11) (N := 79) hx hb hts inB_11 hown hE.1 hP 0 rfl rfl 2 (by decide) (hts _ k_1322) (fun _ h9 => h9) rfl dX11_readLine_296 ?_
        refine lv_if_ne (tgt := 306) hx hb dX11_readLine_299 (by decide) (fun c446 => ?_) (fun c446 => ?_)
        · skip
          have zc446 : ¬ ((v436 1).toInt = 0) := by rw [fa_eq, show (0 : Int32).toInt = 0 from by decide] at c446; exact c446
          exact ret (v436, f437, w438, g439) _ _ _ _ _ _ ⟨hIv436, hCf437, hRf437, hk0_v436, hk4_v436, hk9_v436, hk24_v436, hk25_v436, hk35_v436, hk36_v436, hk38_v436, hk39_v436, (by show GA (v436 1).toInt (v 3).toInt (v436 3).toInt; exact GA.ab hGR (by omega) (by omega)), (by show (v436 1).toInt = 0 → ¬ (v436 15).toInt = 0 → progOK (f437 2) (f437 3) ((v436 8).toInt).toNat; rw [hs2_f437, hs3_f437]; intro hz8 hz9; exact prog_n (hPR (by omega)) (by omega))⟩ hP hD hS dX11_readLine_306 (Nat.le_refl _) (Nat.le_refl _)
        · skip
          have zc446 : (v436 1).toInt = 0 := by rw [fa_eq, show (0 : Int32).toInt = 0 from by decide] at c446; exact c446
          have hgrew := GR.grew hGR (by omega) (by omega)
          refine lv_aload_n hx hb dX11_readLine_302 rfl (lv_at hl 0 rfl) ?_
          refine cbVv (n := 0) (rest := []) hx hb hml hown hts hE hP hD hS hA (sY_X11_token_1 l dC dI cy y0 r  v436 f437 w438 g439 hIv436 hCf437 hRf437 ) k_1579 k_1581 k_42 k_114 k_1582 (by decide +kernel) ⟨Nat.le_of_ble_eq_true rfl, Nat.le_of_ble_eq_true rfl⟩ 0 11 rfl rfl (rfl) hl.1 rfl (Nat.le_of_ble_eq_true rfl) dX11_readLine_303 (fun u H locs hw hP hD hS => ?_)
          obtain ⟨v447, f448, w449, g450⟩ := u
          obtain ⟨hIv447, hCf448, hRf448, hk0_v447, hk1_v447, hk4_v447, hk8_v447, hk9_v447, hk10_v447, hk13_v447, hk14_v447, hk15_v447, hk17_v447, hk18_v447, hk24_v447, hk25_v447, hk35_v447, hk36_v447, hk38_v447, hk39_v447, pv451, pv452, kq453, kq454, kq455⟩ := hw
          have hP : va_P (dC, dI) vwCl (YW cy y0 r v447 f448 w449 g450) H := hP
          have hD : va_D A (YW cy y0 r v447 f448 w449 g450) := hD
          have b3_v447 : 0 ≤ (v447 3).toInt ∧ (v447 3).toInt ≤ 1600 := YIb.b hIv447.1 3 (by decide)
          have pv451 : (v436 3).toInt ≤ (v447 3).toInt := pv451
          have pv452 : (v447 5).toInt = (v436 5).toInt ∨ (v436 3).toInt < (v447 3).toInt ∨ ¬ (v447 5).toInt = 59 := pv452
          have hs2_f448 : f448 2 = (f 2) := kq453.trans hs2_f437
          have hs3_f448 : f448 3 = (f 3) := kq454.trans hs3_f437
          have hs6_f448 : f448 6 = (f 6) := kq455.trans hs6_f437
          have hUv447 : (v447 35).toInt + (v447 36).toInt ≤ 40 := hIv447.2
          have hq0_v447 : v447 0 = (v 0) := hk0_v447.trans hq0_v436
          have zq0_v447 := congrArg Int32.toInt hq0_v447
          have hq1_v447 : v447 1 = (v436 1) := hk1_v447
          have zq1_v447 := congrArg Int32.toInt hq1_v447
          have hq4_v447 : v447 4 = (v 4) := hk4_v447.trans hq4_v436
          have zq4_v447 := congrArg Int32.toInt hq4_v447
          have hq8_v447 : v447 8 = (v 8) := hk8_v447.trans hq8_v436
          have zq8_v447 := congrArg Int32.toInt hq8_v447
          have hq9_v447 : v447 9 = (v 9) := hk9_v447.trans hq9_v436
          have zq9_v447 := congrArg Int32.toInt hq9_v447
          have hq10_v447 : v447 10 = (v 10) := hk10_v447.trans hq10_v436
          have zq10_v447 := congrArg Int32.toInt hq10_v447
          have hq13_v447 : v447 13 = (v 13) := hk13_v447.trans hq13_v436
          have zq13_v447 := congrArg Int32.toInt hq13_v447
          have hq14_v447 : v447 14 = (v 14) := hk14_v447.trans hq14_v436
          have zq14_v447 := congrArg Int32.toInt hq14_v447
          have hq15_v447 : v447 15 = (v 15) := hk15_v447.trans hq15_v436
          have zq15_v447 := congrArg Int32.toInt hq15_v447
          have hq17_v447 : v447 17 = (v436 17) := hk17_v447
          have zq17_v447 := congrArg Int32.toInt hq17_v447
          have hq18_v447 : v447 18 = (v 18) := hk18_v447.trans hq18_v436
          have zq18_v447 := congrArg Int32.toInt hq18_v447
          have hq24_v447 : v447 24 = (v 24) := hk24_v447.trans hq24_v436
          have hq25_v447 : v447 25 = (v 25) := hk25_v447.trans hq25_v436
          have hq35_v447 : v447 35 = (v 35) := hk35_v447.trans hq35_v436
          have zq35_v447 := congrArg Int32.toInt hq35_v447
          have hq36_v447 : v447 36 = (v 36) := hk36_v447.trans hq36_v436
          have zq36_v447 := congrArg Int32.toInt hq36_v447
          have hq38_v447 : v447 38 = (v 38) := hk38_v447.trans hq38_v436
          have hq39_v447 : v447 39 = (v 39) := hk39_v447.trans hq39_v436
          have hGR : GR (v 3).toInt (v 5).toInt (v447 3).toInt (v447 5).toInt := GR.tr hGR (show GR (v436 3).toInt (v436 5).toInt (v447 3).toInt (v447 5).toInt from ⟨pv451, pv452⟩) (by first | rfl | assumption | omega) (by first | rfl | assumption | omega)
          clear pv452
          exact ret (v447, f448, w449, g450) _ _ _ _ _ _ ⟨hIv447, hCf448, hRf448, (hk0_v447.trans hk0_v436), (hk4_v447.trans hk4_v436), (hk9_v447.trans hk9_v436), (hk24_v447.trans hk24_v436), (hk25_v447.trans hk25_v436), (hk35_v447.trans hk35_v436), (hk36_v447.trans hk36_v436), (hk38_v447.trans hk38_v436), (hk39_v447.trans hk39_v436), (by show GA (v447 1).toInt (v 3).toInt (v447 3).toInt; exact GA.mk hgrew hGR (by omega)), (by show (v447 1).toInt = 0 → ¬ (v447 15).toInt = 0 → progOK (f448 2) (f448 3) ((v447 8).toInt).toNat; rw [hs2_f448, hs3_f448]; intro hz8 hz9; exact prog_n (hPR (by omega)) (by omega))⟩ hP hD hS dX11_readLine_306 (Nat.le_refl _) (Nat.le_refl _)
      · skip
        have zc445 : (v436 1).toInt = 0 := by rw [fa_eq, show (0 : Int32).toInt = 0 from by decide] at c445; exact c445
        refine lv_aload_n hx hb dX11_readLine_281 rfl (lv_at hl 0 rfl) ?_
        refine va_get (D := (dC, dI)) (ci := 11) (v := .int (v436 5)) (C := RX11) (T := TX11) (N := 79) hx hb hts inB_11 hown hE.1 hP 0 rfl rfl 6 (by decide) (hts _ k_1326) (fun _ h9 => h9) rfl dX11_readLine_282 ?_
        refine lv_bipush (v := 59) hx hb dX11_readLine_285 (by decide) ?_
        refine lv_icmp_eq (tgt := 295) hx hb dX11_readLine_287 (by decide) (fun c456 => ?_) (fun c456 => ?_)
        · skip
          have zc456 : (v436 5).toInt = 59 := by rw [fa_eq, show (59 : Int32).toInt = 59 from by decide] at c456; exact c456
          refine lv_aload_n hx hb dX11_readLine_295 rfl (lv_at hl 0 rfl) ?_
          refine va_get (D := (dC, dI)) (ci := 11) (v := .int (v436 1)) (C := RX11) (T := TX11) (N := 79) hx hb hts inB_11 hown hE.1 hP 0 rfl rfl 2 (by decide) (hts _ k_1322) (fun _ h9 => h9) rfl dX11_readLine_296 ?_
          refine lv_if_ne (tgt := 306) hx hb dX11_readLine_299 (by decide) (fun c457 => ?_) (fun c457 => ?_)
          · skip
            have zc457 : ¬ ((v436 1).toInt = 0) := by rw [fa_eq, show (0 : Int32).toInt = 0 from by decide] at c457; exact c457
            exact ret (v436, f437, w438, g439) _ _ _ _ _ _ ⟨hIv436, hCf437, hRf437, hk0_v436, hk4_v436, hk9_v436, hk24_v436, hk25_v436, hk35_v436, hk36_v436, hk38_v436, hk39_v436, (by show GA (v436 1).toInt (v 3).toInt (v436 3).toInt; exact GA.ab hGR (by omega) (by omega)), (by show (v436 1).toInt = 0 → ¬ (v436 15).toInt = 0 → progOK (f437 2) (f437 3) ((v436 8).toInt).toNat; rw [hs2_f437, hs3_f437]; intro hz8 hz9; exact prog_n (hPR (by omega)) (by omega))⟩ hP hD hS dX11_readLine_306 (Nat.le_refl _) (Nat.le_refl _)
          · skip
            have zc457 : (v436 1).toInt = 0 := by rw [fa_eq, show (0 : Int32).toInt = 0 from by decide] at c457; exact c457
            have hgrew := GR.grew hGR (by omega) (by omega)
            refine lv_aload_n hx hb dX11_readLine_302 rfl (lv_at hl 0 rfl) ?_
            refine cbVv (n := 0) (rest := []) hx hb hml hown hts hE hP hD hS hA (sY_X11_token_1 l dC dI cy y0 r  v436 f437 w438 g439 hIv436 hCf437 hRf437 ) k_1579 k_1581 k_42 k_114 k_1582 (by decide +kernel) ⟨Nat.le_of_ble_eq_true rfl, Nat.le_of_ble_eq_true rfl⟩ 0 11 rfl rfl (rfl) hl.1 rfl (Nat.le_of_ble_eq_true rfl) dX11_readLine_303 (fun u H locs hw hP hD hS => ?_)
            obtain ⟨v458, f459, w460, g461⟩ := u
            obtain ⟨hIv458, hCf459, hRf459, hk0_v458, hk1_v458, hk4_v458, hk8_v458, hk9_v458, hk10_v458, hk13_v458, hk14_v458, hk15_v458, hk17_v458, hk18_v458, hk24_v458, hk25_v458, hk35_v458, hk36_v458, hk38_v458, hk39_v458, pv462, pv463, kq464, kq465, kq466⟩ := hw
            have hP : va_P (dC, dI) vwCl (YW cy y0 r v458 f459 w460 g461) H := hP
            have hD : va_D A (YW cy y0 r v458 f459 w460 g461) := hD
            have b3_v458 : 0 ≤ (v458 3).toInt ∧ (v458 3).toInt ≤ 1600 := YIb.b hIv458.1 3 (by decide)
            have pv462 : (v436 3).toInt ≤ (v458 3).toInt := pv462
            have pv463 : (v458 5).toInt = (v436 5).toInt ∨ (v436 3).toInt < (v458 3).toInt ∨ ¬ (v458 5).toInt = 59 := pv463
            have hs2_f459 : f459 2 = (f 2) := kq464.trans hs2_f437
            have hs3_f459 : f459 3 = (f 3) := kq465.trans hs3_f437
            have hs6_f459 : f459 6 = (f 6) := kq466.trans hs6_f437
            have hUv458 : (v458 35).toInt + (v458 36).toInt ≤ 40 := hIv458.2
            have hq0_v458 : v458 0 = (v 0) := hk0_v458.trans hq0_v436
            have zq0_v458 := congrArg Int32.toInt hq0_v458
            have hq1_v458 : v458 1 = (v436 1) := hk1_v458
            have zq1_v458 := congrArg Int32.toInt hq1_v458
            have hq4_v458 : v458 4 = (v 4) := hk4_v458.trans hq4_v436
            have zq4_v458 := congrArg Int32.toInt hq4_v458
            have hq8_v458 : v458 8 = (v 8) := hk8_v458.trans hq8_v436
            have zq8_v458 := congrArg Int32.toInt hq8_v458
            have hq9_v458 : v458 9 = (v 9) := hk9_v458.trans hq9_v436
            have zq9_v458 := congrArg Int32.toInt hq9_v458
            have hq10_v458 : v458 10 = (v 10) := hk10_v458.trans hq10_v436
            have zq10_v458 := congrArg Int32.toInt hq10_v458
            have hq13_v458 : v458 13 = (v 13) := hk13_v458.trans hq13_v436
            have zq13_v458 := congrArg Int32.toInt hq13_v458
            have hq14_v458 : v458 14 = (v 14) := hk14_v458.trans hq14_v436
            have zq14_v458 := congrArg Int32.toInt hq14_v458
            have hq15_v458 : v458 15 = (v 15) := hk15_v458.trans hq15_v436
            have zq15_v458 := congrArg Int32.toInt hq15_v458
            have hq17_v458 : v458 17 = (v436 17) := hk17_v458
            have zq17_v458 := congrArg Int32.toInt hq17_v458
            have hq18_v458 : v458 18 = (v 18) := hk18_v458.trans hq18_v436
            have zq18_v458 := congrArg Int32.toInt hq18_v458
            have hq24_v458 : v458 24 = (v 24) := hk24_v458.trans hq24_v436
            have hq25_v458 : v458 25 = (v 25) := hk25_v458.trans hq25_v436
            have hq35_v458 : v458 35 = (v 35) := hk35_v458.trans hq35_v436
            have zq35_v458 := congrArg Int32.toInt hq35_v458
            have hq36_v458 : v458 36 = (v 36) := hk36_v458.trans hq36_v436
            have zq36_v458 := congrArg Int32.toInt hq36_v458
            have hq38_v458 : v458 38 = (v 38) := hk38_v458.trans hq38_v436
            have hq39_v458 : v458 39 = (v 39) := hk39_v458.trans hq39_v436
            have hGR : GR (v 3).toInt (v 5).toInt (v458 3).toInt (v458 5).toInt := GR.tr hGR (show GR (v436 3).toInt (v436 5).toInt (v458 3).toInt (v458 5).toInt from ⟨pv462, pv463⟩) (by first | rfl | assumption | omega) (by first | rfl | assumption | omega)
            clear pv463
            exact ret (v458, f459, w460, g461) _ _ _ _ _ _ ⟨hIv458, hCf459, hRf459, (hk0_v458.trans hk0_v436), (hk4_v458.trans hk4_v436), (hk9_v458.trans hk9_v436), (hk24_v458.trans hk24_v436), (hk25_v458.trans hk25_v436), (hk35_v458.trans hk35_v436), (hk36_v458.trans hk36_v436), (hk38_v458.trans hk38_v436), (hk39_v458.trans hk39_v436), (by show GA (v458 1).toInt (v 3).toInt (v458 3).toInt; exact GA.mk hgrew hGR (by omega)), (by show (v458 1).toInt = 0 → ¬ (v458 15).toInt = 0 → progOK (f459 2) (f459 3) ((v458 8).toInt).toNat; rw [hs2_f459, hs3_f459]; intro hz8 hz9; exact prog_n (hPR (by omega)) (by omega))⟩ hP hD hS dX11_readLine_306 (Nat.le_refl _) (Nat.le_refl _)
        · skip
          have zc456 : ¬ ((v436 5).toInt = 59) := by rw [fa_eq, show (59 : Int32).toInt = 59 from by decide] at c456; exact c456
          refine lv_aload_n hx hb dX11_readLine_290 rfl (lv_at hl 0 rfl) ?_
          refine lv_iconst (v := 2) hx hb dX11_readLine_291 (by decide) ?_
          refine cbVv (n := 1) (rest := []) hx hb hml hown hts hE hP hD hS hA (sY_X11_wrong_1 l dC dI cy y0 r 2 v436 f437 w438 g439 hIv436 hCf437 hRf437 ⟨by decide, by decide⟩) k_1641 k_1643 k_50 k_114 k_1644 (by decide +kernel) ⟨Nat.le_of_ble_eq_true rfl, Nat.le_of_ble_eq_true rfl⟩ 0 11 rfl rfl (rfl) hl.1 rfl (Nat.le_of_ble_eq_true rfl) dX11_readLine_292 (fun u H locs hw hP hD hS => ?_)
          obtain ⟨v467, f468, w469, g470⟩ := u
          obtain ⟨hIv467, hCf468, hRf468, hk0_v467, hk3_v467, hk4_v467, hk5_v467, hk8_v467, hk9_v467, hk10_v467, hk13_v467, hk14_v467, hk15_v467, hk17_v467, hk18_v467, hk24_v467, hk25_v467, hk35_v467, hk36_v467, hk38_v467, hk39_v467, pv471, pv472, pv473, kq474, kq475, kq476⟩ := hw
          have hP : va_P (dC, dI) vwCl (YW cy y0 r v467 f468 w469 g470) H := hP
          have hD : va_D A (YW cy y0 r v467 f468 w469 g470) := hD
          have b3_v467 : 0 ≤ (v467 3).toInt ∧ (v467 3).toInt ≤ 1600 := YIb.b hIv467.1 3 (by decide)
          have b1_v467 : 0 ≤ (v467 1).toInt ∧ (v467 1).toInt ≤ 4 := YIb.b hIv467.1 1 (by decide)
          have pv471 : (v436 3).toInt ≤ (v467 3).toInt := pv471
          have pv472 : (v467 5).toInt = (v436 5).toInt ∨ (v436 3).toInt < (v467 3).toInt ∨ ¬ (v467 5).toInt = 59 := pv472
          have pv473 : 0 < (v467 1).toInt := pv473
          have hs2_f468 : f468 2 = (f 2) := kq474.trans hs2_f437
          have hs3_f468 : f468 3 = (f 3) := kq475.trans hs3_f437
          have hs6_f468 : f468 6 = (f 6) := kq476.trans hs6_f437
          have hUv467 : (v467 35).toInt + (v467 36).toInt ≤ 40 := hIv467.2
          have hq0_v467 : v467 0 = (v 0) := hk0_v467.trans hq0_v436
          have zq0_v467 := congrArg Int32.toInt hq0_v467
          have hq3_v467 : v467 3 = (v436 3) := hk3_v467
          have zq3_v467 := congrArg Int32.toInt hq3_v467
          have hq4_v467 : v467 4 = (v 4) := hk4_v467.trans hq4_v436
          have zq4_v467 := congrArg Int32.toInt hq4_v467
          have hq5_v467 : v467 5 = (v436 5) := hk5_v467
          have zq5_v467 := congrArg Int32.toInt hq5_v467
          have hq8_v467 : v467 8 = (v 8) := hk8_v467.trans hq8_v436
          have zq8_v467 := congrArg Int32.toInt hq8_v467
          have hq9_v467 : v467 9 = (v 9) := hk9_v467.trans hq9_v436
          have zq9_v467 := congrArg Int32.toInt hq9_v467
          have hq10_v467 : v467 10 = (v 10) := hk10_v467.trans hq10_v436
          have zq10_v467 := congrArg Int32.toInt hq10_v467
          have hq13_v467 : v467 13 = (v 13) := hk13_v467.trans hq13_v436
          have zq13_v467 := congrArg Int32.toInt hq13_v467
          have hq14_v467 : v467 14 = (v 14) := hk14_v467.trans hq14_v436
          have zq14_v467 := congrArg Int32.toInt hq14_v467
          have hq15_v467 : v467 15 = (v 15) := hk15_v467.trans hq15_v436
          have zq15_v467 := congrArg Int32.toInt hq15_v467
          have hq17_v467 : v467 17 = (v436 17) := hk17_v467
          have zq17_v467 := congrArg Int32.toInt hq17_v467
          have hq18_v467 : v467 18 = (v 18) := hk18_v467.trans hq18_v436
          have zq18_v467 := congrArg Int32.toInt hq18_v467
          have hq24_v467 : v467 24 = (v 24) := hk24_v467.trans hq24_v436
          have hq25_v467 : v467 25 = (v 25) := hk25_v467.trans hq25_v436
          have hq35_v467 : v467 35 = (v 35) := hk35_v467.trans hq35_v436
          have zq35_v467 := congrArg Int32.toInt hq35_v467
          have hq36_v467 : v467 36 = (v 36) := hk36_v467.trans hq36_v436
          have zq36_v467 := congrArg Int32.toInt hq36_v467
          have hq38_v467 : v467 38 = (v 38) := hk38_v467.trans hq38_v436
          have hq39_v467 : v467 39 = (v 39) := hk39_v467.trans hq39_v436
          have hGR : GR (v 3).toInt (v 5).toInt (v467 3).toInt (v467 5).toInt := GR.tr hGR (show GR (v436 3).toInt (v436 5).toInt (v467 3).toInt (v467 5).toInt from ⟨pv471, pv472⟩) (by first | rfl | assumption | omega) (by first | rfl | assumption | omega)
          clear pv472
          refine lv_aload_n hx hb dX11_readLine_295 rfl (lv_at hl 0 rfl) ?_
          refine va_get (D := (dC, dI)) (ci := 11) (v := .int (v467 1)) (C := RX11) (T := TX11) (N := 79) hx hb hts inB_11 hown hE.1 hP 0 rfl rfl 2 (by decide) (hts _ k_1322) (fun _ h9 => h9) rfl dX11_readLine_296 ?_
          have b1_v467 : 0 ≤ (v467 1).toInt ∧ (v467 1).toInt ≤ 4 := YIb.b hIv467.1 1 (by decide)
          refine lv_if_ne (tgt := 306) hx hb dX11_readLine_299 (by decide) (fun c477 => ?_) (fun c477 => ?_)
          · skip
            have zc477 : ¬ ((v467 1).toInt = 0) := by rw [fa_eq, show (0 : Int32).toInt = 0 from by decide] at c477; exact c477
            exact ret (v467, f468, w469, g470) _ _ _ _ _ _ ⟨hIv467, hCf468, hRf468, (hk0_v467.trans hk0_v436), (hk4_v467.trans hk4_v436), (hk9_v467.trans hk9_v436), (hk24_v467.trans hk24_v436), (hk25_v467.trans hk25_v436), (hk35_v467.trans hk35_v436), (hk36_v467.trans hk36_v436), (hk38_v467.trans hk38_v436), (hk39_v467.trans hk39_v436), (by show GA (v467 1).toInt (v 3).toInt (v467 3).toInt; exact GA.ab hGR (by omega) (by omega)), (by show (v467 1).toInt = 0 → ¬ (v467 15).toInt = 0 → progOK (f468 2) (f468 3) ((v467 8).toInt).toNat; rw [hs2_f468, hs3_f468]; intro hz8 hz9; exact prog_n (hPR (by omega)) (by omega))⟩ hP hD hS dX11_readLine_306 (Nat.le_refl _) (Nat.le_refl _)
          · skip
            have zc477 : (v467 1).toInt = 0 := by rw [fa_eq, show (0 : Int32).toInt = 0 from by decide] at c477; exact c477
            refine lv_aload_n hx hb dX11_readLine_302 rfl (lv_at hl 0 rfl) ?_
            refine cbVv (n := 0) (rest := []) hx hb hml hown hts hE hP hD hS hA (sY_X11_token_1 l dC dI cy y0 r  v467 f468 w469 g470 hIv467 hCf468 hRf468 ) k_1579 k_1581 k_42 k_114 k_1582 (by decide +kernel) ⟨Nat.le_of_ble_eq_true rfl, Nat.le_of_ble_eq_true rfl⟩ 0 11 rfl rfl (rfl) hl.1 rfl (Nat.le_of_ble_eq_true rfl) dX11_readLine_303 (fun u H locs hw hP hD hS => ?_)
            obtain ⟨v478, f479, w480, g481⟩ := u
            obtain ⟨hIv478, hCf479, hRf479, hk0_v478, hk1_v478, hk4_v478, hk8_v478, hk9_v478, hk10_v478, hk13_v478, hk14_v478, hk15_v478, hk17_v478, hk18_v478, hk24_v478, hk25_v478, hk35_v478, hk36_v478, hk38_v478, hk39_v478, pv482, pv483, kq484, kq485, kq486⟩ := hw
            have hP : va_P (dC, dI) vwCl (YW cy y0 r v478 f479 w480 g481) H := hP
            have hD : va_D A (YW cy y0 r v478 f479 w480 g481) := hD
            have b3_v478 : 0 ≤ (v478 3).toInt ∧ (v478 3).toInt ≤ 1600 := YIb.b hIv478.1 3 (by decide)
            have pv482 : (v467 3).toInt ≤ (v478 3).toInt := pv482
            have pv483 : (v478 5).toInt = (v467 5).toInt ∨ (v467 3).toInt < (v478 3).toInt ∨ ¬ (v478 5).toInt = 59 := pv483
            have hs2_f479 : f479 2 = (f 2) := kq484.trans hs2_f468
            have hs3_f479 : f479 3 = (f 3) := kq485.trans hs3_f468
            have hs6_f479 : f479 6 = (f 6) := kq486.trans hs6_f468
            have hUv478 : (v478 35).toInt + (v478 36).toInt ≤ 40 := hIv478.2
            have hq0_v478 : v478 0 = (v 0) := hk0_v478.trans hq0_v467
            have zq0_v478 := congrArg Int32.toInt hq0_v478
            have hq1_v478 : v478 1 = (v467 1) := hk1_v478
            have zq1_v478 := congrArg Int32.toInt hq1_v478
            have hq4_v478 : v478 4 = (v 4) := hk4_v478.trans hq4_v467
            have zq4_v478 := congrArg Int32.toInt hq4_v478
            have hq8_v478 : v478 8 = (v 8) := hk8_v478.trans hq8_v467
            have zq8_v478 := congrArg Int32.toInt hq8_v478
            have hq9_v478 : v478 9 = (v 9) := hk9_v478.trans hq9_v467
            have zq9_v478 := congrArg Int32.toInt hq9_v478
            have hq10_v478 : v478 10 = (v 10) := hk10_v478.trans hq10_v467
            have zq10_v478 := congrArg Int32.toInt hq10_v478
            have hq13_v478 : v478 13 = (v 13) := hk13_v478.trans hq13_v467
            have zq13_v478 := congrArg Int32.toInt hq13_v478
            have hq14_v478 : v478 14 = (v 14) := hk14_v478.trans hq14_v467
            have zq14_v478 := congrArg Int32.toInt hq14_v478
            have hq15_v478 : v478 15 = (v 15) := hk15_v478.trans hq15_v467
            have zq15_v478 := congrArg Int32.toInt hq15_v478
            have hq17_v478 : v478 17 = (v436 17) := hk17_v478.trans hq17_v467
            have zq17_v478 := congrArg Int32.toInt hq17_v478
            have hq18_v478 : v478 18 = (v 18) := hk18_v478.trans hq18_v467
            have zq18_v478 := congrArg Int32.toInt hq18_v478
            have hq24_v478 : v478 24 = (v 24) := hk24_v478.trans hq24_v467
            have hq25_v478 : v478 25 = (v 25) := hk25_v478.trans hq25_v467
            have hq35_v478 : v478 35 = (v 35) := hk35_v478.trans hq35_v467
            have zq35_v478 := congrArg Int32.toInt hq35_v478
            have hq36_v478 : v478 36 = (v 36) := hk36_v478.trans hq36_v467
            have zq36_v478 := congrArg Int32.toInt hq36_v478
            have hq38_v478 : v478 38 = (v 38) := hk38_v478.trans hq38_v467
            have hq39_v478 : v478 39 = (v 39) := hk39_v478.trans hq39_v467
            have hGR : GR (v 3).toInt (v 5).toInt (v478 3).toInt (v478 5).toInt := GR.tr hGR (show GR (v467 3).toInt (v467 5).toInt (v478 3).toInt (v478 5).toInt from ⟨pv482, pv483⟩) (by first | rfl | assumption | omega) (by first | rfl | assumption | omega)
            clear pv483
            exact ret (v478, f479, w480, g481) _ _ _ _ _ _ ⟨hIv478, hCf479, hRf479, (hk0_v478.trans (hk0_v467.trans hk0_v436)), (hk4_v478.trans (hk4_v467.trans hk4_v436)), (hk9_v478.trans (hk9_v467.trans hk9_v436)), (hk24_v478.trans (hk24_v467.trans hk24_v436)), (hk25_v478.trans (hk25_v467.trans hk25_v436)), (hk35_v478.trans (hk35_v467.trans hk35_v436)), (hk36_v478.trans (hk36_v467.trans hk36_v436)), (hk38_v478.trans (hk38_v467.trans hk38_v436)), (hk39_v478.trans (hk39_v467.trans hk39_v436)), (by show GA (v478 1).toInt (v 3).toInt (v478 3).toInt; exact GA.ab hGR (by omega) (by omega)), (by show (v478 1).toInt = 0 → ¬ (v478 15).toInt = 0 → progOK (f479 2) (f479 3) ((v478 8).toInt).toNat; rw [hs2_f479, hs3_f479]; intro hz8 hz9; exact prog_n (hPR (by omega)) (by omega))⟩ hP hD hS dX11_readLine_306 (Nat.le_refl _) (Nat.le_refl _)
  · skip
    subst g434
    refine lv_if_eq (tgt := 26) hx hb dX11_readLine_7 (by decide) (fun _ => ?_) (fun c0 => absurd (by decide) c0)
    exact jp26 _ _ _ hP hD hS hl
