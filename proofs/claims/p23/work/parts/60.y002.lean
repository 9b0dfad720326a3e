set_option maxHeartbeats 4000000 in
set_option maxRecDepth 100000 in
theorem sY_X11_readLine_1_jp269 (NF : Nat) (l : Launch) (dC : Nat → ClassId) (dI : Nat → Nat → Nat) (cy : Nat → ClassId) (y0 : Nat) (r : Nat → Nat)  (v : Nat → Int32) (f : Nat → Nat → Int32) (w : Int64) (g : Nat → Int64) (hIv : YI v) (hCf : YC f) (hRf : progOK (f 4) (f 5) (v 9).toInt.toNat)  (hf0 : (v 1).toInt = 0) (hg0 : IMn (v 15).toInt (progOK (f 2) (f 3) ((v 8).toInt).toNat)) {p : Program} {e : Env} {s : State} {m : MethodId} {below : List Frame} {meth : Method} {c : Code} {A : Nat → Prop} {Q : State → Prop} (hx : p.tables.exec = Jvm.exec) (hb : c.code = cX11_readLine) (hml : c.maxLocals = 1) (hts : ∀ w ∈ BIG, w.before ([.ref y0] : List Value).toArray s = true) (hown : s.vm.findClass RX11 = some m.cls) (hE : ENV (dC, dI) cy s) (hA : ∀ q, s.heap.size ≤ q → A q) (ret : ∀ (u : ((Nat → Int32) × (Nat → Nat → Int32) × (Int64) × (Nat → Int64))) (H : Heap) (locs : List Loc) (pc cells slots : Nat) (ls : Array Slot), (gsY_X11_readLine_1 NF v f w g = u ∧ KV [1, 2, 3, 5, 6, 7, 8, 10, 11, 13, 14, 15, 17, 18, 19, 20, 21, 22, 23, 30, 31, 32, 33, 34] u.1 v ∧ KF [2, 3, 6, 9, 10, 11, 12, 13, 14, 15] u.2.1 f ∧ YI u.1 ∧ YC u.2.1 ∧ progOK (u.2.1 4) (u.2.1 5) (u.1 9).toInt.toNat ∧ u.1 0 = v 0 ∧ u.1 4 = v 4 ∧ u.1 9 = v 9 ∧ u.1 24 = v 24 ∧ u.1 25 = v 25 ∧ u.1 35 = v 35 ∧ u.1 36 = v 36 ∧ u.1 38 = v 38 ∧ u.1 39 = v 39 ∧ (GA (u.1 1).toInt (v 3).toInt (u.1 3).toInt) ∧ (IM0 (u.1 1).toInt (IMn (u.1 15).toInt (progOK (u.2.1 2) (u.2.1 3) ((u.1 8).toInt).toNat)))) → va_P (dC, dI) vwCl (YW cy y0 r u.1 u.2.1 u.2.2.1 u.2.2.2) H → va_D A (YW cy y0 r u.1 u.2.1 u.2.2.1 u.2.2.2) → va_S A s.heap H locs → decode cX11_readLine pc = .ok (.return_, 1) → cells ≤ 0 → slots ≤ 0 → W p l e { frames := 7, cells := 0, slots := 0, locals := 192 } s m ([.ref y0] : List Value).toArray below meth c H locs cells slots Q (F0 m pc ls [])) : ∀ (H : Heap) (locs : List Loc) (ls : Array Slot), gsY_X11_readLine_1_J8 NF v f w g = (gsY_X11_readLine_1 NF v f w g) → va_P (dC, dI) vwCl (YW cy y0 r v f w g) H → va_D A (YW cy y0 r v f w g) → va_S A s.heap H locs → lv_has ls 1 [(0, .ref y0)] → W p l e { frames := 7, cells := 0, slots := 0, locals := 192 } s m ([.ref y0] : List Value).toArray below meth c H locs 0 0 Q (F0 m 269 ls []) := by
  have hUv : (v 35).toInt + (v 36).toInt ≤ 40 := hIv.2
  have hM_v : KV [1, 2, 3, 5, 6, 7, 8, 10, 11, 13, 14, 15, 17, 18, 19, 20, 21, 22, 23, 30, 31, 32, 33, 34] v v := fun _ _ => rfl
  have hA_f : KF [2, 3, 6, 9, 10, 11, 12, 13, 14, 15] f f := fun _ _ => rfl
  have hPR := hg0
  have b0_v : (0 : Int) ≤ (v 0).toInt ∧ (v 0).toInt ≤ 1600 := Yb_0 hIv.1
  have b1_v : (0 : Int) ≤ (v 1).toInt ∧ (v 1).toInt ≤ 4 := Yb_1 hIv.1
  have b8_v : (0 : Int) ≤ (v 8).toInt ∧ (v 8).toInt ≤ 320 := Yb_8 hIv.1
  have b10_v : (0 : Int) ≤ (v 10).toInt ∧ (v 10).toInt ≤ 160 := Yb_10 hIv.1
  have b13_v : (0 : Int) ≤ (v 13).toInt ∧ (v 13).toInt ≤ 31 := Yb_13 hIv.1
  have b14_v : (0 : Int) ≤ (v 14).toInt ∧ (v 14).toInt ≤ 8 := Yb_14 hIv.1
  have b15_v : (0 : Int) ≤ (v 15).toInt ∧ (v 15).toInt ≤ 1 := Yb_15 hIv.1
  have b17_v : (0 : Int) ≤ (v 17).toInt ∧ (v 17).toInt ≤ 6 := Yb_17 hIv.1
  have b18_v : (0 : Int) ≤ (v 18).toInt ∧ (v 18).toInt ≤ 6 := Yb_18 hIv.1
  have hGR : GR (v 3).toInt (v 5).toInt (v 3).toInt (v 5).toInt := GR.refl _ _
  intro H locs ls hT8 hP hD hS hl
  refine lv_aload_n hx hb dX11_readLine_269 rfl (lv_at hl 0 rfl) ?_
  refine lv_iconst (v := 2) hx hb dX11_readLine_270 rfl ?_
  refine cbVv (n := 1) (rest := []) hx hb hml hown hts hE hP hD hS hA (sY_X11_wrong_1 NF l dC dI cy y0 r 2 v f w g hIv hCf hRf ⟨by decide, by decide⟩) k_1641 k_1643 k_50 k_114 k_1644 hd_yX11_wrong ⟨Nat.le_of_ble_eq_true rfl, Nat.le_of_ble_eq_true rfl⟩ 0 11 rfl rfl (rfl) hl.1 rfl (Nat.le_of_ble_eq_true rfl) dX11_readLine_271 (fun u H locs hw hP hD hS => ?_)
  obtain ⟨hG9, hw⟩ := hw
  obtain ⟨v10, f11, w12, g13⟩ := u
  obtain ⟨kV_v10, kF_f11, hIv10, hCf11, hRf11, hk0_v10, hk3_v10, hk4_v10, hk5_v10, hk8_v10, hk9_v10, hk10_v10, hk13_v10, hk14_v10, hk15_v10, hk17_v10, hk18_v10, hk24_v10, hk25_v10, hk35_v10, hk36_v10, hk38_v10, hk39_v10, pv14, pv15, pv16, kq17, kq18, kq19⟩ := hw
  have hM_v10 : KV [1, 2, 3, 5, 6, 7, 8, 10, 11, 13, 14, 15, 17, 18, 19, 20, 21, 22, 23, 30, 31, 32, 33, 34] v10 v := KV.tr kV_v10 hM_v (by decide +kernel)
  have hA_f11 : KF [2, 3, 6, 9, 10, 11, 12, 13, 14, 15] f11 f := KF.tr kF_f11 hA_f rfl
  have hP : va_P (dC, dI) vwCl (YW cy y0 r v10 f11 w12 g13) H := hP
  have hD : va_D A (YW cy y0 r v10 f11 w12 g13) := hD
  have b3_v10 : 0 ≤ (v10 3).toInt ∧ (v10 3).toInt ≤ 1600 := Yb_3 hIv10.1
  have b1_v10 : 0 ≤ (v10 1).toInt ∧ (v10 1).toInt ≤ 4 := Yb_1 hIv10.1
  have pv14 : (v 3).toInt ≤ (v10 3).toInt := pv14
  have pv15 : (v10 5).toInt = (v 5).toInt ∨ (v 3).toInt < (v10 3).toInt ∨ ¬ (v10 5).toInt = 59 := pv15
  have pv16 : 0 < (v10 1).toInt := pv16
  have hs2_f11 : f11 2 = (f 2) := kq17
  have hs3_f11 : f11 3 = (f 3) := kq18
  have hUv10 : (v10 35).toInt + (v10 36).toInt ≤ 40 := hIv10.2
  have hq0_v10 : v10 0 = (v 0) := hk0_v10
  have zq0_v10 := congrArg Int32.toInt hq0_v10
  have hq3_v10 : v10 3 = (v 3) := hk3_v10
  have zq3_v10 := congrArg Int32.toInt hq3_v10
  have hq5_v10 : v10 5 = (v 5) := hk5_v10
  have zq5_v10 := congrArg Int32.toInt hq5_v10
  have hq8_v10 : v10 8 = (v 8) := hk8_v10
  have zq8_v10 := congrArg Int32.toInt hq8_v10
  have hq9_v10 : v10 9 = (v 9) := hk9_v10
  have zq9_v10 := congrArg Int32.toInt hq9_v10
  have hq10_v10 : v10 10 = (v 10) := hk10_v10
  have zq10_v10 := congrArg Int32.toInt hq10_v10
  have hq13_v10 : v10 13 = (v 13) := hk13_v10
  have zq13_v10 := congrArg Int32.toInt hq13_v10
  have hq14_v10 : v10 14 = (v 14) := hk14_v10
  have zq14_v10 := congrArg Int32.toInt hq14_v10
  have hq15_v10 : v10 15 = (v 15) := hk15_v10
  have zq15_v10 := congrArg Int32.toInt hq15_v10
  have hq17_v10 : v10 17 = (v 17) := hk17_v10
  have zq17_v10 := congrArg Int32.toInt hq17_v10
  have hq18_v10 : v10 18 = (v 18) := hk18_v10
  have zq18_v10 := congrArg Int32.toInt hq18_v10
  have hGR : GR (v 3).toInt (v 5).toInt (v10 3).toInt (v10 5).toInt := GR.tr hGR (show GR (v 3).toInt (v 5).toInt (v10 3).toInt (v10 5).toInt from ⟨pv14, pv15⟩) (by first | with_reducible rfl | with_reducible assumption | rfl | omega) (by first | with_reducible rfl | with_reducible assumption | rfl | omega)
  clear pv15
  refine lv_aload_n hx hb dX11_readLine_274 rfl (lv_at hl 0 rfl) ?_
  refine va_get (D := (dC, dI)) (ci := 11) (v := .int (v10 1)) (C := RX11) (T := TX11) (N := 79) hx hb hts inB_11 hown hE.1 hP 0 rfl rfl 2 (Nat.le_of_ble_eq_true rfl) (hts _ k_1322) (fun _ h9 => h9) rfl dX11_readLine_275 ?_
  have b1_v10 : 0 ≤ (v10 1).toInt ∧ (v10 1).toInt ≤ 4 := Yb_1 hIv10.1
  refine lv_if_ne (tgt := 295) hx hb dX11_readLine_278 rfl (fun c20 => ?_) (fun c20 => ?_)
  · skip
    have zc20 : ¬ ((v10 1).toInt = 0) := zEn rfl tc_0 c20
    refine lv_aload_n hx hb dX11_readLine_295 rfl (lv_at hl 0 rfl) ?_
    refine va_get (D := (dC, dI)) (ci := 11) (v := .int (v10 1)) (C := RX11) (T := TX11) (N := 79) hx hb hts inB_11 hown hE.1 hP 0 rfl rfl 2 (Nat.le_of_ble_eq_true rfl) (hts _ k_1322) (fun _ h9 => h9) rfl dX11_readLine_296 ?_
    refine lv_if_ne (tgt := 306) hx hb dX11_readLine_299 rfl (fun c21 => ?_) (fun c21 => ?_)
    · skip
      have zc21 : ¬ ((v10 1).toInt = 0) := zEn rfl tc_0 c21
      exact ret (v10, f11, w12, g13) _ _ _ _ _ _ ⟨(hT8.symm.trans (gsY_X11_readLine_1_q0 hG9 c20 c21)), hM_v10, hA_f11, hIv10, hCf11, hRf11, hk0_v10, hk4_v10, hk9_v10, hk24_v10, hk25_v10, hk35_v10, hk36_v10, hk38_v10, hk39_v10, (by show GA (v10 1).toInt (v 3).toInt (v10 3).toInt; exact GA.ab hGR (by omega) (by omega)), (by show IM0 (v10 1).toInt (IMn (v10 15).toInt (progOK (f11 2) (f11 3) ((v10 8).toInt).toNat)); rw [hs2_f11, hs3_f11]; intro hz8 hz9; exact prog_n (hPR (by omega)) (by omega))⟩ hP hD hS dX11_readLine_306 (Nat.le_refl _) (Nat.le_refl _)
    · skip
      have zc21 : (v10 1).toInt = 0 := zEp rfl tc_0 c21
      refine lv_aload_n hx hb dX11_readLine_302 rfl (lv_at hl 0 rfl) ?_
      refine cbVv (n := 0) (rest := []) hx hb hml hown hts hE hP hD hS hA (sY_X11_token_1 NF l dC dI cy y0 r  v10 f11 w12 g13 hIv10 hCf11 hRf11 ) k_1579 k_1581 k_42 k_114 k_1582 hd_yX11_token ⟨Nat.le_of_ble_eq_true rfl, Nat.le_of_ble_eq_true rfl⟩ 0 11 rfl rfl (rfl) hl.1 rfl (Nat.le_of_ble_eq_true rfl) dX11_readLine_303 (fun u H locs hw hP hD hS => ?_)
      obtain ⟨hG22, hw⟩ := hw
      obtain ⟨v23, f24, w25, g26⟩ := u
      obtain ⟨kV_v23, kF_f24, hIv23, hCf24, hRf24, hk0_v23, hk1_v23, hk2_v23, hk4_v23, hk8_v23, hk9_v23, hk10_v23, hk13_v23, hk14_v23, hk15_v23, hk17_v23, hk18_v23, hk24_v23, hk25_v23, hk35_v23, hk36_v23, hk38_v23, hk39_v23, pv27, pv28, kq29, kq30, kq31⟩ := hw
      have hM_v23 : KV [1, 2, 3, 5, 6, 7, 8, 10, 11, 13, 14, 15, 17, 18, 19, 20, 21, 22, 23, 30, 31, 32, 33, 34] v23 v := KV.tr kV_v23 hM_v10 (by decide +kernel)
      have hA_f24 : KF [2, 3, 6, 9, 10, 11, 12, 13, 14, 15] f24 f := KF.tr kF_f24 hA_f11 rfl
      have hP : va_P (dC, dI) vwCl (YW cy y0 r v23 f24 w25 g26) H := hP
      have hD : va_D A (YW cy y0 r v23 f24 w25 g26) := hD
      have b3_v23 : 0 ≤ (v23 3).toInt ∧ (v23 3).toInt ≤ 1600 := Yb_3 hIv23.1
      have pv27 : (v10 3).toInt ≤ (v23 3).toInt := pv27
      have pv28 : (v23 5).toInt = (v10 5).toInt ∨ (v10 3).toInt < (v23 3).toInt ∨ ¬ (v23 5).toInt = 59 := pv28
      have hs2_f24 : f24 2 = (f 2) := kq29.trans hs2_f11
      have hs3_f24 : f24 3 = (f 3) := kq30.trans hs3_f11
      have hUv23 : (v23 35).toInt + (v23 36).toInt ≤ 40 := hIv23.2
      have hq0_v23 : v23 0 = (v 0) := hk0_v23.trans hq0_v10
      have zq0_v23 := congrArg Int32.toInt hq0_v23
      try clear zq0_v10
      have hq1_v23 : v23 1 = (v10 1) := hk1_v23
      have zq1_v23 := congrArg Int32.toInt hq1_v23
      have hq8_v23 : v23 8 = (v 8) := hk8_v23.trans hq8_v10
      have zq8_v23 := congrArg Int32.toInt hq8_v23
      try clear zq8_v10
      have hq9_v23 : v23 9 = (v 9) := hk9_v23.trans hq9_v10
      have zq9_v23 := congrArg Int32.toInt hq9_v23
      try clear zq9_v10
      have hq10_v23 : v23 10 = (v 10) := hk10_v23.trans hq10_v10
      have zq10_v23 := congrArg Int32.toInt hq10_v23
      try clear zq10_v10
      have hq13_v23 : v23 13 = (v 13) := hk13_v23.trans hq13_v10
      have zq13_v23 := congrArg Int32.toInt hq13_v23
      try clear zq13_v10
      have hq14_v23 : v23 14 = (v 14) := hk14_v23.trans hq14_v10
      have zq14_v23 := congrArg Int32.toInt hq14_v23
      try clear zq14_v10
      have hq15_v23 : v23 15 = (v 15) := hk15_v23.trans hq15_v10
      have zq15_v23 := congrArg Int32.toInt hq15_v23
      try clear zq15_v10
      have hq17_v23 : v23 17 = (v 17) := hk17_v23.trans hq17_v10
      have zq17_v23 := congrArg Int32.toInt hq17_v23
      try clear zq17_v10
      have hq18_v23 : v23 18 = (v 18) := hk18_v23.trans hq18_v10
      have zq18_v23 := congrArg Int32.toInt hq18_v23
      try clear zq18_v10
      have hGR : GR (v 3).toInt (v 5).toInt (v23 3).toInt (v23 5).toInt := GR.tr hGR (show GR (v10 3).toInt (v10 5).toInt (v23 3).toInt (v23 5).toInt from ⟨pv27, pv28⟩) (by first | with_reducible rfl | with_reducible assumption | rfl | omega) (by first | with_reducible rfl | with_reducible assumption | rfl | omega)
      clear pv28
      exact ret (v23, f24, w25, g26) _ _ _ _ _ _ ⟨(hT8.symm.trans (gsY_X11_readLine_1_q1 hG9 c20 c21 hG22)), hM_v23, hA_f24, hIv23, hCf24, hRf24, (hk0_v23.trans hk0_v10), (hk4_v23.trans hk4_v10), (hk9_v23.trans hk9_v10), (hk24_v23.trans hk24_v10), (hk25_v23.trans hk25_v10), (hk35_v23.trans hk35_v10), (hk36_v23.trans hk36_v10), (hk38_v23.trans hk38_v10), (hk39_v23.trans hk39_v10), (by show GA (v23 1).toInt (v 3).toInt (v23 3).toInt; exact GA.ab hGR (by omega) (by omega)), (by show IM0 (v23 1).toInt (IMn (v23 15).toInt (progOK (f24 2) (f24 3) ((v23 8).toInt).toNat)); rw [hs2_f24, hs3_f24]; intro hz8 hz9; exact prog_n (hPR (by omega)) (by omega))⟩ hP hD hS dX11_readLine_306 (Nat.le_refl _) (Nat.le_refl _)
  · skip
    have zc20 : (v10 1).toInt = 0 := zEp rfl tc_0 c20
    refine lv_aload_n hx hb dX11_readLine_281 rfl (lv_at hl 0 rfl) ?_
    refine va_get (D := (dC, dI)) (ci := 11) (v := .int (v10 5)) (C := RX11) (T := TX11) (N := 79) hx hb hts inB_11 hown hE.1 hP 0 rfl rfl 6 (Nat.le_of_ble_eq_true rfl) (hts _ k_1326) (fun _ h9 => h9) rfl dX11_readLine_282 ?_
    refine tI (y := (v 5)) hq5_v10 ?_
    refine lv_bipush (v := 59) hx hb dX11_readLine_285 rfl ?_
    refine lv_icmp_eq (tgt := 295) hx hb dX11_readLine_287 rfl (fun c32 => ?_) (fun c32 => ?_)
    · skip
      have zc32 : (v 5).toInt = 59 := zEp rfl tc_59 c32
      refine lv_aload_n hx hb dX11_readLine_295 rfl (lv_at hl 0 rfl) ?_
      refine va_get (D := (dC, dI)) (ci := 11) (v := .int (v10 1)) (C := RX11) (T := TX11) (N := 79) hx hb hts inB_11 hown hE.1 hP 0 rfl rfl 2 (Nat.le_of_ble_eq_true rfl) (hts _ k_1322) (fun _ h9 => h9) rfl dX11_readLine_296 ?_
      refine lv_if_ne (tgt := 306) hx hb dX11_readLine_299 rfl (fun c33 => ?_) (fun c33 => ?_)
      · skip
        have zc33 : ¬ ((v10 1).toInt = 0) := zEn rfl tc_0 c33
        exact ret (v10, f11, w12, g13) _ _ _ _ _ _ ⟨(hT8.symm.trans (gsY_X11_readLine_1_q2 hG9 c20 c32 c33)), hM_v10, hA_f11, hIv10, hCf11, hRf11, hk0_v10, hk4_v10, hk9_v10, hk24_v10, hk25_v10, hk35_v10, hk36_v10, hk38_v10, hk39_v10, (by show GA (v10 1).toInt (v 3).toInt (v10 3).toInt; exact GA.ab hGR (by omega) (by omega)), (by show IM0 (v10 1).toInt (IMn (v10 15).toInt (progOK (f11 2) (f11 3) ((v10 8).toInt).toNat)); rw [hs2_f11, hs3_f11]; intro hz8 hz9; exact prog_n (hPR (by omega)) (by omega))⟩ hP hD hS dX11_readLine_306 (Nat.le_refl _) (Nat.le_refl _)
      · skip
        have zc33 : (v10 1).toInt = 0 := zEp rfl tc_0 c33
        refine lv_aload_n hx hb dX11_readLine_302 rfl (lv_at hl 0 rfl) ?_
        refine cbVv (n := 0) (rest := []) hx hb hml hown hts hE hP hD hS hA (sY_X11_token_1 NF l dC dI cy y0 r  v10 f11 w12 g13 hIv10 hCf11 hRf11 ) k_1579 k_1581 k_42 k_114 k_1582 hd_yX11_token ⟨Nat.le_of_ble_eq_true rfl, Nat.le_of_ble_eq_true rfl⟩ 0 11 rfl rfl (rfl) hl.1 rfl (Nat.le_of_ble_eq_true rfl) dX11_readLine_303 (fun u H locs hw hP hD hS => ?_)
        obtain ⟨hG34, hw⟩ := hw
        obtain ⟨v35, f36, w37, g38⟩ := u
        obtain ⟨kV_v35, kF_f36, hIv35, hCf36, hRf36, hk0_v35, hk1_v35, hk2_v35, hk4_v35, hk8_v35, hk9_v35, hk10_v35, hk13_v35, hk14_v35, hk15_v35, hk17_v35, hk18_v35, hk24_v35, hk25_v35, hk35_v35, hk36_v35, hk38_v35, hk39_v35, pv39, pv40, kq41, kq42, kq43⟩ := hw
        have hM_v35 : KV [1, 2, 3, 5, 6, 7, 8, 10, 11, 13, 14, 15, 17, 18, 19, 20, 21, 22, 23, 30, 31, 32, 33, 34] v35 v := KV.tr kV_v35 hM_v10 (by decide +kernel)
        have hA_f36 : KF [2, 3, 6, 9, 10, 11, 12, 13, 14, 15] f36 f := KF.tr kF_f36 hA_f11 rfl
        have hP : va_P (dC, dI) vwCl (YW cy y0 r v35 f36 w37 g38) H := hP
        have hD : va_D A (YW cy y0 r v35 f36 w37 g38) := hD
        have b3_v35 : 0 ≤ (v35 3).toInt ∧ (v35 3).toInt ≤ 1600 := Yb_3 hIv35.1
        have pv39 : (v10 3).toInt ≤ (v35 3).toInt := pv39
        have pv40 : (v35 5).toInt = (v10 5).toInt ∨ (v10 3).toInt < (v35 3).toInt ∨ ¬ (v35 5).toInt = 59 := pv40
        have hs2_f36 : f36 2 = (f 2) := kq41.trans hs2_f11
        have hs3_f36 : f36 3 = (f 3) := kq42.trans hs3_f11
        have hUv35 : (v35 35).toInt + (v35 36).toInt ≤ 40 := hIv35.2
        have hq0_v35 : v35 0 = (v 0) := hk0_v35.trans hq0_v10
        have zq0_v35 := congrArg Int32.toInt hq0_v35
        try clear zq0_v10
        have hq1_v35 : v35 1 = (v10 1) := hk1_v35
        have zq1_v35 := congrArg Int32.toInt hq1_v35
        have hq8_v35 : v35 8 = (v 8) := hk8_v35.trans hq8_v10
        have zq8_v35 := congrArg Int32.toInt hq8_v35
        try clear zq8_v10
        have hq9_v35 : v35 9 = (v 9) := hk9_v35.trans hq9_v10
        have zq9_v35 := congrArg Int32.toInt hq9_v35
        try clear zq9_v10
        have hq10_v35 : v35 10 = (v 10) := hk10_v35.trans hq10_v10
        have zq10_v35 := congrArg Int32.toInt hq10_v35
        try clear zq10_v10
        have hq13_v35 : v35 13 = (v 13) := hk13_v35.trans hq13_v10
        have zq13_v35 := congrArg Int32.toInt hq13_v35
        try clear zq13_v10
        have hq14_v35 : v35 14 = (v 14) := hk14_v35.trans hq14_v10
        have zq14_v35 := congrArg Int32.toInt hq14_v35
        try clear zq14_v10
        have hq15_v35 : v35 15 = (v 15) := hk15_v35.trans hq15_v10
        have zq15_v35 := congrArg Int32.toInt hq15_v35
        try clear zq15_v10
        have hq17_v35 : v35 17 = (v 17) := hk17_v35.trans hq17_v10
        have zq17_v35 := congrArg Int32.toInt hq17_v35
        try clear zq17_v10
        have hq18_v35 : v35 18 = (v 18) := hk18_v35.trans hq18_v10
        have zq18_v35 := congrArg Int32.toInt hq18_v35
        try clear zq18_v10
        have hGR : GR (v 3).toInt (v 5).toInt (v35 3).toInt (v35 5).toInt := GR.tr hGR (show GR (v10 3).toInt (v10 5).toInt (v35 3).toInt (v35 5).toInt from ⟨pv39, pv40⟩) (by first | with_reducible rfl | with_reducible assumption | rfl | omega) (by first | with_reducible rfl | with_reducible assumption | rfl | omega)
        clear pv40
        exact ret (v35, f36, w37, g38) _ _ _ _ _ _ ⟨(hT8.symm.trans (gsY_X11_readLine_1_q3 hG9 c20 c32 c33 hG34)), hM_v35, hA_f36, hIv35, hCf36, hRf36, (hk0_v35.trans hk0_v10), (hk4_v35.trans hk4_v10), (hk9_v35.trans hk9_v10), (hk24_v35.trans hk24_v10), (hk25_v35.trans hk25_v10), (hk35_v35.trans hk35_v10), (hk36_v35.trans hk36_v10), (hk38_v35.trans hk38_v10), (hk39_v35.trans hk39_v10), (by show GA (v35 1).toInt (v 3).toInt (v35 3).toInt; exact GA.ab hGR (by omega) (by omega)), (by show IM0 (v35 1).toInt (IMn (v35 15).toInt (progOK (f36 2) (f36 3) ((v35 8).toInt).toNat)); rw [hs2_f36, hs3_f36]; intro hz8 hz9; exact prog_n (hPR (by omega)) (by omega))⟩ hP hD hS dX11_readLine_306 (Nat.le_refl _) (Nat.le_refl _)
    · skip
      have zc32 : ¬ ((v 5).toInt = 59) := zEn rfl tc_59 c32
      refine lv_aload_n hx hb dX11_readLine_290 rfl (lv_at hl 0 rfl) ?_
      refine lv_iconst (v := 2) hx hb dX11_readLine_291 rfl ?_
      refine cbVv (n := 1) (rest := []) hx hb hml hown hts hE hP hD hS hA (sY_X11_wrong_1 NF l dC dI cy y0 r 2 v10 f11 w12 g13 hIv10 hCf11 hRf11 ⟨by decide, by decide⟩) k_1641 k_1643 k_50 k_114 k_1644 hd_yX11_wrong ⟨Nat.le_of_ble_eq_true rfl, Nat.le_of_ble_eq_true rfl⟩ 0 11 rfl rfl (rfl) hl.1 rfl (Nat.le_of_ble_eq_true rfl) dX11_readLine_292 (fun u H locs hw hP hD hS => ?_)
      obtain ⟨hG44, hw⟩ := hw
      obtain ⟨v45, f46, w47, g48⟩ := u
      obtain ⟨kV_v45, kF_f46, hIv45, hCf46, hRf46, hk0_v45, hk3_v45, hk4_v45, hk5_v45, hk8_v45, hk9_v45, hk10_v45, hk13_v45, hk14_v45, hk15_v45, hk17_v45, hk18_v45, hk24_v45, hk25_v45, hk35_v45, hk36_v45, hk38_v45, hk39_v45, pv49, pv50, pv51, kq52, kq53, kq54⟩ := hw
      have hM_v45 : KV [1, 2, 3, 5, 6, 7, 8, 10, 11, 13, 14, 15, 17, 18, 19, 20, 21, 22, 23, 30, 31, 32, 33, 34] v45 v := KV.tr kV_v45 hM_v10 (by decide +kernel)
      have hA_f46 : KF [2, 3, 6, 9, 10, 11, 12, 13, 14, 15] f46 f := KF.tr kF_f46 hA_f11 rfl
      have hP : va_P (dC, dI) vwCl (YW cy y0 r v45 f46 w47 g48) H := hP
      have hD : va_D A (YW cy y0 r v45 f46 w47 g48) := hD
      have b3_v45 : 0 ≤ (v45 3).toInt ∧ (v45 3).toInt ≤ 1600 := Yb_3 hIv45.1
      have b1_v45 : 0 ≤ (v45 1).toInt ∧ (v45 1).toInt ≤ 4 := Yb_1 hIv45.1
      have pv49 : (v10 3).toInt ≤ (v45 3).toInt := pv49
      have pv50 : (v45 5).toInt = (v10 5).toInt ∨ (v10 3).toInt < (v45 3).toInt ∨ ¬ (v45 5).toInt = 59 := pv50
      have pv51 : 0 < (v45 1).toInt := pv51
      have hs2_f46 : f46 2 = (f 2) := kq52.trans hs2_f11
      have hs3_f46 : f46 3 = (f 3) := kq53.trans hs3_f11
      have hUv45 : (v45 35).toInt + (v45 36).toInt ≤ 40 := hIv45.2
      have hq0_v45 : v45 0 = (v 0) := hk0_v45.trans hq0_v10
      have zq0_v45 := congrArg Int32.toInt hq0_v45
      try clear zq0_v10
      have hq3_v45 : v45 3 = (v 3) := hk3_v45.trans hq3_v10
      have zq3_v45 := congrArg Int32.toInt hq3_v45
      try clear zq3_v10
      have hq5_v45 : v45 5 = (v 5) := hk5_v45.trans hq5_v10
      have zq5_v45 := congrArg Int32.toInt hq5_v45
      try clear zq5_v10
      have hq8_v45 : v45 8 = (v 8) := hk8_v45.trans hq8_v10
      have zq8_v45 := congrArg Int32.toInt hq8_v45
      try clear zq8_v10
      have hq9_v45 : v45 9 = (v 9) := hk9_v45.trans hq9_v10
      have zq9_v45 := congrArg Int32.toInt hq9_v45
      try clear zq9_v10
      have hq10_v45 : v45 10 = (v 10) := hk10_v45.trans hq10_v10
      have zq10_v45 := congrArg Int32.toInt hq10_v45
      try clear zq10_v10
      have hq13_v45 : v45 13 = (v 13) := hk13_v45.trans hq13_v10
      have zq13_v45 := congrArg Int32.toInt hq13_v45
      try clear zq13_v10
      have hq14_v45 : v45 14 = (v 14) := hk14_v45.trans hq14_v10
      have zq14_v45 := congrArg Int32.toInt hq14_v45
      try clear zq14_v10
      have hq15_v45 : v45 15 = (v 15) := hk15_v45.trans hq15_v10
      have zq15_v45 := congrArg Int32.toInt hq15_v45
      try clear zq15_v10
      have hq17_v45 : v45 17 = (v 17) := hk17_v45.trans hq17_v10
      have zq17_v45 := congrArg Int32.toInt hq17_v45
      try clear zq17_v10
      have hq18_v45 : v45 18 = (v 18) := hk18_v45.trans hq18_v10
      have zq18_v45 := congrArg Int32.toInt hq18_v45
      try clear zq18_v10
      have hGR : GR (v 3).toInt (v 5).toInt (v45 3).toInt (v45 5).toInt := GR.tr hGR (show GR (v10 3).toInt (v10 5).toInt (v45 3).toInt (v45 5).toInt from ⟨pv49, pv50⟩) (by first | with_reducible rfl | with_reducible assumption | rfl | omega) (by first | with_reducible rfl | with_reducible assumption | rfl | omega)
      clear pv50
      refine lv_aload_n hx hb dX11_readLine_295 rfl (lv_at hl 0 rfl) ?_
      refine va_get (D := (dC, dI)) (ci := 11) (v := .int (v45 1)) (C := RX11) (T := TX11) (N := 79) hx hb hts inB_11 hown hE.1 hP 0 rfl rfl 2 (Nat.le_of_ble_eq_true rfl) (hts _ k_1322) (fun _ h9 => h9) rfl dX11_readLine_296 ?_
      have b1_v45 : 0 ≤ (v45 1).toInt ∧ (v45 1).toInt ≤ 4 := Yb_1 hIv45.1
      refine lv_if_ne (tgt := 306) hx hb dX11_readLine_299 rfl (fun c55 => ?_) (fun c55 => ?_)
      · skip
        have zc55 : ¬ ((v45 1).toInt = 0) := zEn rfl tc_0 c55
        exact ret (v45, f46, w47, g48) _ _ _ _ _ _ ⟨(hT8.symm.trans (gsY_X11_readLine_1_q4 hG9 c20 c32 hG44 c55)), hM_v45, hA_f46, hIv45, hCf46, hRf46, (hk0_v45.trans hk0_v10), (hk4_v45.trans hk4_v10), (hk9_v45.trans hk9_v10), (hk24_v45.trans hk24_v10), (hk25_v45.trans hk25_v10), (hk35_v45.trans hk35_v10), (hk36_v45.trans hk36_v10), (hk38_v45.trans hk38_v10), (hk39_v45.trans hk39_v10), (by show GA (v45 1).toInt (v 3).toInt (v45 3).toInt; exact GA.ab hGR (by omega) (by omega)), (by show IM0 (v45 1).toInt (IMn (v45 15).toInt (progOK (f46 2) (f46 3) ((v45 8).toInt).toNat)); rw [hs2_f46, hs3_f46]; intro hz8 hz9; exact prog_n (hPR (by omega)) (by omega))⟩ hP hD hS dX11_readLine_306 (Nat.le_refl _) (Nat.le_refl _)
      · skip
        have zc55 : (v45 1).toInt = 0 := zEp rfl tc_0 c55
        refine lv_aload_n hx hb dX11_readLine_302 rfl (lv_at hl 0 rfl) ?_
        refine cbVv (n := 0) (rest := []) hx hb hml hown hts hE hP hD hS hA (sY_X11_token_1 NF l dC dI cy y0 r  v45 f46 w47 g48 hIv45 hCf46 hRf46 ) k_1579 k_1581 k_42 k_114 k_1582 hd_yX11_token ⟨Nat.le_of_ble_eq_true rfl, Nat.le_of_ble_eq_true rfl⟩ 0 11 rfl rfl (rfl) hl.1 rfl (Nat.le_of_ble_eq_true rfl) dX11_readLine_303 (fun u H locs hw hP hD hS => ?_)
        obtain ⟨hG56, hw⟩ := hw
        obtain ⟨v57, f58, w59, g60⟩ := u
        obtain ⟨kV_v57, kF_f58, hIv57, hCf58, hRf58, hk0_v57, hk1_v57, hk2_v57, hk4_v57, hk8_v57, hk9_v57, hk10_v57, hk13_v57, hk14_v57, hk15_v57, hk17_v57, hk18_v57, hk24_v57, hk25_v57, hk35_v57, hk36_v57, hk38_v57, hk39_v57, pv61, pv62, kq63, kq64, kq65⟩ := hw
        have hM_v57 : KV [1, 2, 3, 5, 6, 7, 8, 10, 11, 13, 14, 15, 17, 18, 19, 20, 21, 22, 23, 30, 31, 32, 33, 34] v57 v := KV.tr kV_v57 hM_v45 (by decide +kernel)
        have hA_f58 : KF [2, 3, 6, 9, 10, 11, 12, 13, 14, 15] f58 f := KF.tr kF_f58 hA_f46 rfl
        have hP : va_P (dC, dI) vwCl (YW cy y0 r v57 f58 w59 g60) H := hP
        have hD : va_D A (YW cy y0 r v57 f58 w59 g60) := hD
        have b3_v57 : 0 ≤ (v57 3).toInt ∧ (v57 3).toInt ≤ 1600 := Yb_3 hIv57.1
        have pv61 : (v45 3).toInt ≤ (v57 3).toInt := pv61
        have pv62 : (v57 5).toInt = (v45 5).toInt ∨ (v45 3).toInt < (v57 3).toInt ∨ ¬ (v57 5).toInt = 59 := pv62
        have hs2_f58 : f58 2 = (f 2) := kq63.trans hs2_f46
        have hs3_f58 : f58 3 = (f 3) := kq64.trans hs3_f46
        have hUv57 : (v57 35).toInt + (v57 36).toInt ≤ 40 := hIv57.2
        have hq0_v57 : v57 0 = (v 0) := hk0_v57.trans hq0_v45
        have zq0_v57 := congrArg Int32.toInt hq0_v57
        try clear zq0_v45
        have hq1_v57 : v57 1 = (v45 1) := hk1_v57
        have zq1_v57 := congrArg Int32.toInt hq1_v57
        have hq8_v57 : v57 8 = (v 8) := hk8_v57.trans hq8_v45
        have zq8_v57 := congrArg Int32.toInt hq8_v57
        try clear zq8_v45
        have hq9_v57 : v57 9 = (v 9) := hk9_v57.trans hq9_v45
        have zq9_v57 := congrArg Int32.toInt hq9_v57
        try clear zq9_v45
        have hq10_v57 : v57 10 = (v 10) := hk10_v57.trans hq10_v45
        have zq10_v57 := congrArg Int32.toInt hq10_v57
        try clear zq10_v45
        have hq13_v57 : v57 13 = (v 13) := hk13_v57.trans hq13_v45
        have zq13_v57 := congrArg Int32.toInt hq13_v57
        try clear zq13_v45
        have hq14_v57 : v57 14 = (v 14) := hk14_v57.trans hq14_v45
        have zq14_v57 := congrArg Int32.toInt hq14_v57
        try clear zq14_v45
        have hq15_v57 : v57 15 = (v 15) := hk15_v57.trans hq15_v45
        have zq15_v57 := congrArg Int32.toInt hq15_v57
        try clear zq15_v45
        have hq17_v57 : v57 17 = (v 17) := hk17_v57.trans hq17_v45
        have zq17_v57 := congrArg Int32.toInt hq17_v57
        try clear zq17_v45
        have hq18_v57 : v57 18 = (v 18) := hk18_v57.trans hq18_v45
        have zq18_v57 := congrArg Int32.toInt hq18_v57
        try clear zq18_v45
        have hGR : GR (v 3).toInt (v 5).toInt (v57 3).toInt (v57 5).toInt := GR.tr hGR (show GR (v45 3).toInt (v45 5).toInt (v57 3).toInt (v57 5).toInt from ⟨pv61, pv62⟩) (by first | with_reducible rfl | with_reducible assumption | rfl | omega) (by first | with_reducible rfl | with_reducible assumption | rfl | omega)
        clear pv62
        exact ret (v57, f58, w59, g60) _ _ _ _ _ _ ⟨(hT8.symm.trans (gsY_X11_readLine_1_q5 hG9 c20 c32 hG44 c55 hG56)), hM_v57, hA_f58, hIv57, hCf58, hRf58, (hk0_v57.trans (hk0_v45.trans hk0_v10)), (hk4_v57.trans (hk4_v45.trans hk4_v10)), (hk9_v57.trans (hk9_v45.trans hk9_v10)), (hk24_v57.trans (hk24_v45.trans hk24_v10)), (hk25_v57.trans (hk25_v45.trans hk25_v10)), (hk35_v57.trans (hk35_v45.trans hk35_v10)), (hk36_v57.trans (hk36_v45.trans hk36_v10)), (hk38_v57.trans (hk38_v45.trans hk38_v10)), (hk39_v57.trans (hk39_v45.trans hk39_v10)), (by show GA (v57 1).toInt (v 3).toInt (v57 3).toInt; exact GA.ab hGR (by omega) (by omega)), (by show IM0 (v57 1).toInt (IMn (v57 15).toInt (progOK (f58 2) (f58 3) ((v57 8).toInt).toNat)); rw [hs2_f58, hs3_f58]; intro hz8 hz9; exact prog_n (hPR (by omega)) (by omega))⟩ hP hD hS dX11_readLine_306 (Nat.le_refl _) (Nat.le_refl _)
set_option maxHeartbeats 4000000 in
set_option maxRecDepth 100000 in
theorem sY_X11_readLine_1_jp230 (NF : Nat) (l : Launch) (dC : Nat → ClassId) (dI : Nat → Nat → Nat) (cy : Nat → ClassId) (y0 : Nat) (r : Nat → Nat)  (v : Nat → Int32) (f : Nat → Nat → Int32) (w : Int64) (g : Nat → Int64) (hIv : YI v) (hCf : YC f) (hRf : progOK (f 4) (f 5) (v 9).toInt.toNat)  (hf0 : (v 1).toInt = 0) (hg0 : IMn (v 15).toInt (progOK (f 2) (f 3) ((v 8).toInt).toNat)) {p : Program} {e : Env} {s : State} {m : MethodId} {below : List Frame} {meth : Method} {c : Code} {A : Nat → Prop} {Q : State → Prop} (hx : p.tables.exec = Jvm.exec) (hb : c.code = cX11_readLine) (hml : c.maxLocals = 1) (hts : ∀ w ∈ BIG, w.before ([.ref y0] : List Value).toArray s = true) (hown : s.vm.findClass RX11 = some m.cls) (hE : ENV (dC, dI) cy s) (hA : ∀ q, s.heap.size ≤ q → A q) (ret : ∀ (u : ((Nat → Int32) × (Nat → Nat → Int32) × (Int64) × (Nat → Int64))) (H : Heap) (locs : List Loc) (pc cells slots : Nat) (ls : Array Slot), (gsY_X11_readLine_1 NF v f w g = u ∧ KV [1, 2, 3, 5, 6, 7, 8, 10, 11, 13, 14, 15, 17, 18, 19, 20, 21, 22, 23, 30, 31, 32, 33, 34] u.1 v ∧ KF [2, 3, 6, 9, 10, 11, 12, 13, 14, 15] u.2.1 f ∧ YI u.1 ∧ YC u.2.1 ∧ progOK (u.2.1 4) (u.2.1 5) (u.1 9).toInt.toNat ∧ u.1 0 = v 0 ∧ u.1 4 = v 4 ∧ u.1 9 = v 9 ∧ u.1 24 = v 24 ∧ u.1 25 = v 25 ∧ u.1 35 = v 35 ∧ u.1 36 = v 36 ∧ u.1 38 = v 38 ∧ u.1 39 = v 39 ∧ (GA (u.1 1).toInt (v 3).toInt (u.1 3).toInt) ∧ (IM0 (u.1 1).toInt (IMn (u.1 15).toInt (progOK (u.2.1 2) (u.2.1 3) ((u.1 8).toInt).toNat)))) → va_P (dC, dI) vwCl (YW cy y0 r u.1 u.2.1 u.2.2.1 u.2.2.2) H → va_D A (YW cy y0 r u.1 u.2.1 u.2.2.1 u.2.2.2) → va_S A s.heap H locs → decode cX11_readLine pc = .ok (.return_, 1) → cells ≤ 0 → slots ≤ 0 → W p l e { frames := 7, cells := 0, slots := 0, locals := 192 } s m ([.ref y0] : List Value).toArray below meth c H locs cells slots Q (F0 m pc ls [])) (jp269 : ∀ (H : Heap) (locs : List Loc) (ls : Array Slot), gsY_X11_readLine_1_J8 NF v f w g = (gsY_X11_readLine_1 NF v f w g) → va_P (dC, dI) vwCl (YW cy y0 r v f w g) H → va_D A (YW cy y0 r v f w g) → va_S A s.heap H locs → lv_has ls 1 [(0, .ref y0)] → W p l e { frames := 7, cells := 0, slots := 0, locals := 192 } s m ([.ref y0] : List Value).toArray below meth c H locs 0 0 Q (F0 m 269 ls [])) : ∀ (H : Heap) (locs : List Loc) (ls : Array Slot), gsY_X11_readLine_1_J7 NF v f w g = (gsY_X11_readLine_1 NF v f w g) → va_P (dC, dI) vwCl (YW cy y0 r v f w g) H → va_D A (YW cy y0 r v f w g) → va_S A s.heap H locs → lv_has ls 1 [(0, .ref y0)] → W p l e { frames := 7, cells := 0, slots := 0, locals := 192 } s m ([.ref y0] : List Value).toArray below meth c H locs 0 0 Q (F0 m 230 ls []) := by
  have hUv : (v 35).toInt + (v 36).toInt ≤ 40 := hIv.2
  have hM_v : KV [1, 2, 3, 5, 6, 7, 8, 10, 11, 13, 14, 15, 17, 18, 19, 20, 21, 22, 23, 30, 31, 32, 33, 34] v v := fun _ _ => rfl
  have hA_f : KF [2, 3, 6, 9, 10, 11, 12, 13, 14, 15] f f := fun _ _ => rfl
  have hPR := hg0
  have b0_v : (0 : Int) ≤ (v 0).toInt ∧ (v 0).toInt ≤ 1600 := Yb_0 hIv.1
  have b1_v : (0 : Int) ≤ (v 1).toInt ∧ (v 1).toInt ≤ 4 := Yb_1 hIv.1
  have b8_v : (0 : Int) ≤ (v 8).toInt ∧ (v 8).toInt ≤ 320 := Yb_8 hIv.1
  have b10_v : (0 : Int) ≤ (v 10).toInt ∧ (v 10).toInt ≤ 160 := Yb_10 hIv.1
  have b13_v : (0 : Int) ≤ (v 13).toInt ∧ (v 13).toInt ≤ 31 := Yb_13 hIv.1
  have b14_v : (0 : Int) ≤ (v 14).toInt ∧ (v 14).toInt ≤ 8 := Yb_14 hIv.1
  have b15_v : (0 : Int) ≤ (v 15).toInt ∧ (v 15).toInt ≤ 1 := Yb_15 hIv.1
  have b17_v : (0 : Int) ≤ (v 17).toInt ∧ (v 17).toInt ≤ 6 := Yb_17 hIv.1
  have b18_v : (0 : Int) ≤ (v 18).toInt ∧ (v 18).toInt ≤ 6 := Yb_18 hIv.1
  have hGR : GR (v 3).toInt (v 5).toInt (v 3).toInt (v 5).toInt := GR.refl _ _
  intro H locs ls hT7 hP hD hS hl
  revert jp269
  intro jp269
  refine lv_aload_n hx hb dX11_readLine_230 rfl (lv_at hl 0 rfl) ?_
  refine lv_ldc2 (v := 1685217655) hx hb hown (hts _ k_1632) dX11_readLine_231 ?_
  refine cbVi (n := 1) (rest := []) hx hb hml hown hts hE hP hD hS hA (sY_X11_isWord_1 NF l dC dI cy y0 r 1685217655 v f w g hIv hCf hRf ) k_1601 k_1603 k_45 k_114 k_1604 hd_yX11_isWord ⟨Nat.le_of_ble_eq_true rfl, Nat.le_of_ble_eq_true rfl⟩ 0 11 rfl rfl (rfl) hl.1 rfl (Nat.le_of_ble_eq_true rfl) dX11_readLine_234 (fun r66 u H locs hw hP hD hS => ?_)
  obtain ⟨hG67, hw⟩ := hw
  rcases hw with ⟨g68, g68_0⟩ | ⟨g68⟩
  · skip
    subst g68
    refine lv_if_eq (tgt := 269) hx hb dX11_readLine_237 rfl (fun c0 => absurd c0 (by decide)) (fun _ => ?_)
    refine lv_aload_n hx hb dX11_readLine_240 rfl (lv_at hl 0 rfl) ?_
    refine va_get (D := (dC, dI)) (ci := 11) (v := .int (v 34)) (C := RX11) (T := TX11) (N := 79) hx hb hts inB_11 hown hE.1 hP 0 rfl rfl 58 (Nat.le_of_ble_eq_true rfl) (hts _ k_1378) (fun _ h9 => h9) rfl dX11_readLine_241 ?_
    refine lv_if_ne (tgt := 269) hx hb dX11_readLine_244 rfl (fun c69 => ?_) (fun c69 => ?_)
    · skip
      exact jp269 _ _ _ ((gsY_X11_readLine_1_q6 hG67 c69).symm.trans hT7) hP hD hS hl
    · skip
      have zc69 : (v 34).toInt = 0 := zEp rfl tc_0 c69
      refine lv_aload_n hx hb dX11_readLine_247 rfl (lv_at hl 0 rfl) ?_
      refine lv_iconst (v := 1) hx hb dX11_readLine_248 rfl ?_
      refine va_put (D := (dC, dI)) (ci := 11) (v := .int 1) (ty := tyX11 58) (C := RX11) (T := TX11) (N := 79) hx hb hts inB_11 tyX11 tyX11_ok nmX11 hown hE.1 hP hD hS 0 rfl rfl 58 (Nat.le_of_ble_eq_true rfl) (hts _ k_1378) (fun _ h9 => h9) rfl (tyX11_ok 58 (Nat.le_of_ble_eq_true rfl)) rfl rfl (Nat.le_of_ble_eq_true rfl) dX11_readLine_249 (fun H locs hP hD hS => ?_)
      have hP : va_P (dC, dI) vwCl (YW cy y0 r (upd v 34 1) f w g) H := hP
      have hD : va_D A (YW cy y0 r (upd v 34 1) f w g) := hD
      refine lv_aload_n hx hb dX11_readLine_252 rfl (lv_at hl 0 rfl) ?_
      refine lv_aload_n hx hb dX11_readLine_253 rfl (lv_at hl 0 rfl) ?_
      refine lv_ldc2 (v := 1685217655) hx hb hown (hts _ k_1632) dX11_readLine_254 ?_
      refine lv_sipush (v := 999) hx hb dX11_readLine_257 rfl ?_
      refine cbVi (n := 2) (rest := [.ref y0]) hx hb hml hown hts hE hP hD hS hA (sY_X11_told_1 NF l dC dI cy y0 r 1685217655 999 (upd v 34 1) f w g ⟨(Yu_34 (x := 1) hIv.1 (rlo _) (rhi _)), hIv.2⟩ hCf hRf ) k_1645 k_1647 k_51 k_114 k_1648 hd_yX11_told ⟨Nat.le_of_ble_eq_true rfl, Nat.le_of_ble_eq_true rfl⟩ 0 11 rfl rfl (rfl) hl.1 rfl (Nat.le_of_ble_eq_true rfl) dX11_readLine_260 (fun r70 u H locs hw hP hD hS => ?_)
      obtain ⟨hG71, hw⟩ := hw
      obtain ⟨v72, f73, w74, g75⟩ := u
      obtain ⟨kV_v72, kF_f73, hIv72, hCf73, hRf73, hk0_v72, hk4_v72, hk8_v72, hk9_v72, hk10_v72, hk13_v72, hk14_v72, hk15_v72, hk17_v72, hk18_v72, hk24_v72, hk25_v72, hk35_v72, hk36_v72, hk38_v72, hk39_v72, pv76, pv77, kq78, kq79, kq80⟩ := hw
      have hM_v72 : KV [1, 2, 3, 5, 6, 7, 8, 10, 11, 13, 14, 15, 17, 18, 19, 20, 21, 22, 23, 30, 31, 32, 33, 34] v72 v := KV.tr kV_v72 (KV.up (j := 34) (x := 1) hM_v (by decide +kernel)) (by decide +kernel)
      have hA_f73 : KF [2, 3, 6, 9, 10, 11, 12, 13, 14, 15] f73 f := KF.tr kF_f73 hA_f rfl
      have hP : va_P (dC, dI) vwCl (YW cy y0 r v72 f73 w74 g75) H := hP
      have hD : va_D A (YW cy y0 r v72 f73 w74 g75) := hD
      have b3_v72 : 0 ≤ (v72 3).toInt ∧ (v72 3).toInt ≤ 1600 := Yb_3 hIv72.1
      have pv76 : (v 3).toInt ≤ (v72 3).toInt := pv76
      have pv77 : (v72 5).toInt = (v 5).toInt ∨ (v 3).toInt < (v72 3).toInt ∨ ¬ (v72 5).toInt = 59 := pv77
      have hs2_f73 : f73 2 = (f 2) := kq78
      have hs3_f73 : f73 3 = (f 3) := kq79
      have hUv72 : (v72 35).toInt + (v72 36).toInt ≤ 40 := hIv72.2
      have hq0_v72 : v72 0 = (v 0) := hk0_v72
      have zq0_v72 := congrArg Int32.toInt hq0_v72
      have hq8_v72 : v72 8 = (v 8) := hk8_v72
      have zq8_v72 := congrArg Int32.toInt hq8_v72
      have hq9_v72 : v72 9 = (v 9) := hk9_v72
      have zq9_v72 := congrArg Int32.toInt hq9_v72
      have hq10_v72 : v72 10 = (v 10) := hk10_v72
      have zq10_v72 := congrArg Int32.toInt hq10_v72
      have hq13_v72 : v72 13 = (v 13) := hk13_v72
      have zq13_v72 := congrArg Int32.toInt hq13_v72
      have hq14_v72 : v72 14 = (v 14) := hk14_v72
      have zq14_v72 := congrArg Int32.toInt hq14_v72
      have hq15_v72 : v72 15 = (v 15) := hk15_v72
      have zq15_v72 := congrArg Int32.toInt hq15_v72
      have hq17_v72 : v72 17 = (v 17) := hk17_v72
      have zq17_v72 := congrArg Int32.toInt hq17_v72
      have hq18_v72 : v72 18 = (v 18) := hk18_v72
      have zq18_v72 := congrArg Int32.toInt hq18_v72
      have hGR : GR (v 3).toInt (v 5).toInt (v72 3).toInt (v72 5).toInt := GR.tr hGR (show GR (v 3).toInt (v 5).toInt (v72 3).toInt (v72 5).toInt from ⟨pv76, pv77⟩) (by first | with_reducible rfl | with_reducible assumption | rfl | omega) (by first | with_reducible rfl | with_reducible assumption | rfl | omega)
      clear pv77
      refine va_put (D := (dC, dI)) (ci := 11) (v := .int r70) (ty := tyX11 47) (C := RX11) (T := TX11) (N := 79) hx hb hts inB_11 tyX11 tyX11_ok nmX11 hown hE.1 hP hD hS 0 rfl rfl 47 (Nat.le_of_ble_eq_true rfl) (hts _ k_1367) (fun _ h9 => h9) rfl (tyX11_ok 47 (Nat.le_of_ble_eq_true rfl)) rfl rfl (Nat.le_of_ble_eq_true rfl) dX11_readLine_263 (fun H locs hP hD hS => ?_)
      have hP : va_P (dC, dI) vwCl (YW cy y0 r (upd v72 23 r70) f73 w74 g75) H := hP
      have hD : va_D A (YW cy y0 r (upd v72 23 r70) f73 w74 g75) := hD
      refine lv_goto (tgt := 274) hx hb dX11_readLine_266 rfl ?_
      refine lv_aload_n hx hb dX11_readLine_274 rfl (lv_at hl 0 rfl) ?_
      refine va_get (D := (dC, dI)) (ci := 11) (v := .int (v72 1)) (C := RX11) (T := TX11) (N := 79) hx hb hts inB_11 hown hE.1 hP 0 rfl rfl 2 (Nat.le_of_ble_eq_true rfl) (hts _ k_1322) (fun _ h9 => h9) rfl dX11_readLine_275 ?_
      have b1_v72 : 0 ≤ (v72 1).toInt ∧ (v72 1).toInt ≤ 4 := Yb_1 hIv72.1
      refine lv_if_ne (tgt := 295) hx hb dX11_readLine_278 rfl (fun c81 => ?_) (fun c81 => ?_)
      · skip
        have zc81 : ¬ ((v72 1).toInt = 0) := zEn rfl tc_0 c81
        refine lv_aload_n hx hb dX11_readLine_295 rfl (lv_at hl 0 rfl) ?_
        refine va_get (D := (dC, dI)) (ci := 11) (v := .int (v72 1)) (C := RX11) (T := TX11) (N := 79) hx hb hts inB_11 hown hE.1 hP 0 rfl rfl 2 (Nat.le_of_ble_eq_true rfl) (hts _ k_1322) (fun _ h9 => h9) rfl dX11_readLine_296 ?_
        refine lv_if_ne (tgt := 306) hx hb dX11_readLine_299 rfl (fun c82 => ?_) (fun c82 => ?_)
        · skip
          have zc82 : ¬ ((v72 1).toInt = 0) := zEn rfl tc_0 c82
          exact ret ((upd v72 23 r70), f73, w74, g75) _ _ _ _ _ _ ⟨(hT7.symm.trans (gsY_X11_readLine_1_q7 hG67 c69 hG71 c81 c82)), (KV.up (j := 23) (x := r70) hM_v72 (by decide +kernel)), hA_f73, ⟨(Yu_23 (x := r70) hIv72.1 (rlo _) (rhi _)), hIv72.2⟩, hCf73, hRf73, hk0_v72, hk4_v72, hk9_v72, hk24_v72, hk25_v72, hk35_v72, hk36_v72, hk38_v72, hk39_v72, (by show GA (v72 1).toInt (v 3).toInt (v72 3).toInt; exact GA.ab hGR (by omega) (by omega)), (by show IM0 (v72 1).toInt (IMn (v72 15).toInt (progOK (f73 2) (f73 3) ((v72 8).toInt).toNat)); rw [hs2_f73, hs3_f73]; intro hz8 hz9; exact prog_n (hPR (by omega)) (by omega))⟩ hP hD hS dX11_readLine_306 (Nat.le_refl _) (Nat.le_refl _)
        · skip
          have zc82 : (v72 1).toInt = 0 := zEp rfl tc_0 c82
          have hgrew := GR.grew hGR (by omega) (by omega)
          refine lv_aload_n hx hb dX11_readLine_302 rfl (lv_at hl 0 rfl) ?_
          refine cbVv (n := 0) (rest := []) hx hb hml hown hts hE hP hD hS hA (sY_X11_token_1 NF l dC dI cy y0 r  (upd v72 23 r70) f73 w74 g75 ⟨(Yu_23 (x := r70) hIv72.1 (rlo _) (rhi _)), hIv72.2⟩ hCf73 hRf73 ) k_1579 k_1581 k_42 k_114 k_1582 hd_yX11_token ⟨Nat.le_of_ble_eq_true rfl, Nat.le_of_ble_eq_true rfl⟩ 0 11 rfl rfl (rfl) hl.1 rfl (Nat.le_of_ble_eq_true rfl) dX11_readLine_303 (fun u H locs hw hP hD hS => ?_)
          obtain ⟨hG83, hw⟩ := hw
          obtain ⟨v84, f85, w86, g87⟩ := u
          obtain ⟨kV_v84, kF_f85, hIv84, hCf85, hRf85, hk0_v84, hk1_v84, hk2_v84, hk4_v84, hk8_v84, hk9_v84, hk10_v84, hk13_v84, hk14_v84, hk15_v84, hk17_v84, hk18_v84, hk24_v84, hk25_v84, hk35_v84, hk36_v84, hk38_v84, hk39_v84, pv88, pv89, kq90, kq91, kq92⟩ := hw
          have hM_v84 : KV [1, 2, 3, 5, 6, 7, 8, 10, 11, 13, 14, 15, 17, 18, 19, 20, 21, 22, 23, 30, 31, 32, 33, 34] v84 v := KV.tr kV_v84 (KV.up (j := 23) (x := r70) hM_v72 (by decide +kernel)) (by decide +kernel)
          have hA_f85 : KF [2, 3, 6, 9, 10, 11, 12, 13, 14, 15] f85 f := KF.tr kF_f85 hA_f73 rfl
          have hP : va_P (dC, dI) vwCl (YW cy y0 r v84 f85 w86 g87) H := hP
          have hD : va_D A (YW cy y0 r v84 f85 w86 g87) := hD
          have b3_v84 : 0 ≤ (v84 3).toInt ∧ (v84 3).toInt ≤ 1600 := Yb_3 hIv84.1
          have pv88 : (v72 3).toInt ≤ (v84 3).toInt := pv88
          have pv89 : (v84 5).toInt = (v72 5).toInt ∨ (v72 3).toInt < (v84 3).toInt ∨ ¬ (v84 5).toInt = 59 := pv89
          have hs2_f85 : f85 2 = (f 2) := kq90.trans hs2_f73
          have hs3_f85 : f85 3 = (f 3) := kq91.trans hs3_f73
          have hUv84 : (v84 35).toInt + (v84 36).toInt ≤ 40 := hIv84.2
          have hq0_v84 : v84 0 = (v 0) := hk0_v84.trans hq0_v72
          have zq0_v84 := congrArg Int32.toInt hq0_v84
          try clear zq0_v72
          have hq1_v84 : v84 1 = (v72 1) := hk1_v84
          have zq1_v84 := congrArg Int32.toInt hq1_v84
          have hq8_v84 : v84 8 = (v 8) := hk8_v84.trans hq8_v72
          have zq8_v84 := congrArg Int32.toInt hq8_v84
          try clear zq8_v72
          have hq9_v84 : v84 9 = (v 9) := hk9_v84.trans hq9_v72
          have zq9_v84 := congrArg Int32.toInt hq9_v84
          try clear zq9_v72
          have hq10_v84 : v84 10 = (v 10) := hk10_v84.trans hq10_v72
          have zq10_v84 := congrArg Int32.toInt hq10_v84
          try clear zq10_v72
          have hq13_v84 : v84 13 = (v 13) := hk13_v84.trans hq13_v72
          have zq13_v84 := congrArg Int32.toInt hq13_v84
          try clear zq13_v72
          have hq14_v84 : v84 14 = (v 14) := hk14_v84.trans hq14_v72
          have zq14_v84 := congrArg Int32.toInt hq14_v84
          try clear zq14_v72
          have hq15_v84 : v84 15 = (v 15) := hk15_v84.trans hq15_v72
          have zq15_v84 := congrArg Int32.toInt hq15_v84
          try clear zq15_v72
          have hq17_v84 : v84 17 = (v 17) := hk17_v84.trans hq17_v72
          have zq17_v84 := congrArg Int32.toInt hq17_v84
          try clear zq17_v72
          have hq18_v84 : v84 18 = (v 18) := hk18_v84.trans hq18_v72
          have zq18_v84 := congrArg Int32.toInt hq18_v84
          try clear zq18_v72
          have hGR : GR (v 3).toInt (v 5).toInt (v84 3).toInt (v84 5).toInt := GR.tr hGR (show GR (v72 3).toInt (v72 5).toInt (v84 3).toInt (v84 5).toInt from ⟨pv88, pv89⟩) (by first | with_reducible rfl | with_reducible assumption | rfl | omega) (by first | with_reducible rfl | with_reducible assumption | rfl | omega)
          clear pv89
          exact ret (v84, f85, w86, g87) _ _ _ _ _ _ ⟨(hT7.symm.trans (gsY_X11_readLine_1_q8 hG67 c69 hG71 c81 c82 hG83)), hM_v84, hA_f85, hIv84, hCf85, hRf85, (hk0_v84.trans hk0_v72), (hk4_v84.trans hk4_v72), (hk9_v84.trans hk9_v72), (hk24_v84.trans hk24_v72), (hk25_v84.trans hk25_v72), (hk35_v84.trans hk35_v72), (hk36_v84.trans hk36_v72), (hk38_v84.trans hk38_v72), (hk39_v84.trans hk39_v72), (by show GA (v84 1).toInt (v 3).toInt (v84 3).toInt; exact GA.mk hgrew hGR (by omega)), (by show IM0 (v84 1).toInt (IMn (v84 15).toInt (progOK (f85 2) (f85 3) ((v84 8).toInt).toNat)); rw [hs2_f85, hs3_f85]; intro hz8 hz9; exact prog_n (hPR (by omega)) (by omega))⟩ hP hD hS dX11_readLine_306 (Nat.le_refl _) (Nat.le_refl _)
      · skip
        have zc81 : (v72 1).toInt = 0 := zEp rfl tc_0 c81
        refine lv_aload_n hx hb dX11_readLine_281 rfl (lv_at hl 0 rfl) ?_
        refine va_get (D := (dC, dI)) (ci := 11) (v := .int (v72 5)) (C := RX11) (T := TX11) (N := 79) hx hb hts inB_11 hown hE.1 hP 0 rfl rfl 6 (Nat.le_of_ble_eq_true rfl) (hts _ k_1326) (fun _ h9 => h9) rfl dX11_readLine_282 ?_
        refine lv_bipush (v := 59) hx hb dX11_readLine_285 rfl ?_
        refine lv_icmp_eq (tgt := 295) hx hb dX11_readLine_287 rfl (fun c93 => ?_) (fun c93 => ?_)
        · skip
          have zc93 : (v72 5).toInt = 59 := zEp rfl tc_59 c93
          refine lv_aload_n hx hb dX11_readLine_295 rfl (lv_at hl 0 rfl) ?_
          refine va_get (D := (dC, dI)) (ci := 11) (v := .int (v72 1)) (C := RX11) (T := TX11) (N := 79) hx hb hts inB_11 hown hE.1 hP 0 rfl rfl 2 (Nat.le_of_ble_eq_true rfl) (hts _ k_1322) (fun _ h9 => h9) rfl dX11_readLine_296 ?_
          refine lv_if_ne (tgt := 306) hx hb dX11_readLine_299 rfl (fun c94 => ?_) (fun c94 => ?_)
          · skip
            have zc94 : ¬ ((v72 1).toInt = 0) := zEn rfl tc_0 c94
            exact ret ((upd v72 23 r70), f73, w74, g75) _ _ _ _ _ _ ⟨(hT7.symm.trans (gsY_X11_readLine_1_q9 hG67 c69 hG71 c81 c93 c94)), (KV.up (j := 23) (x := r70) hM_v72 (by decide +kernel)), hA_f73, ⟨(Yu_23 (x := r70) hIv72.1 (rlo _) (rhi _)), hIv72.2⟩, hCf73, hRf73, hk0_v72, hk4_v72, hk9_v72, hk24_v72, hk25_v72, hk35_v72, hk36_v72, hk38_v72, hk39_v72, (by show GA (v72 1).toInt (v 3).toInt (v72 3).toInt; exact GA.ab hGR (by omega) (by omega)), (by show IM0 (v72 1).toInt (IMn (v72 15).toInt (progOK (f73 2) (f73 3) ((v72 8).toInt).toNat)); rw [hs2_f73, hs3_f73]; intro hz8 hz9; exact prog_n (hPR (by omega)) (by omega))⟩ hP hD hS dX11_readLine_306 (Nat.le_refl _) (Nat.le_refl _)
          · skip
            have zc94 : (v72 1).toInt = 0 := zEp rfl tc_0 c94
            have hgrew := GR.grew hGR (by omega) (by omega)
            refine lv_aload_n hx hb dX11_readLine_302 rfl (lv_at hl 0 rfl) ?_
            refine cbVv (n := 0) (rest := []) hx hb hml hown hts hE hP hD hS hA (sY_X11_token_1 NF l dC dI cy y0 r  (upd v72 23 r70) f73 w74 g75 ⟨(Yu_23 (x := r70) hIv72.1 (rlo _) (rhi _)), hIv72.2⟩ hCf73 hRf73 ) k_1579 k_1581 k_42 k_114 k_1582 hd_yX11_token ⟨Nat.le_of_ble_eq_true rfl, Nat.le_of_ble_eq_true rfl⟩ 0 11 rfl rfl (rfl) hl.1 rfl (Nat.le_of_ble_eq_true rfl) dX11_readLine_303 (fun u H locs hw hP hD hS => ?_)
            obtain ⟨hG95, hw⟩ := hw
            obtain ⟨v96, f97, w98, g99⟩ := u
            obtain ⟨kV_v96, kF_f97, hIv96, hCf97, hRf97, hk0_v96, hk1_v96, hk2_v96, hk4_v96, hk8_v96, hk9_v96, hk10_v96, hk13_v96, hk14_v96, hk15_v96, hk17_v96, hk18_v96, hk24_v96, hk25_v96, hk35_v96, hk36_v96, hk38_v96, hk39_v96, pv100, pv101, kq102, kq103, kq104⟩ := hw
            have hM_v96 : KV [1, 2, 3, 5, 6, 7, 8, 10, 11, 13, 14, 15, 17, 18, 19, 20, 21, 22, 23, 30, 31, 32, 33, 34] v96 v := KV.tr kV_v96 (KV.up (j := 23) (x := r70) hM_v72 (by decide +kernel)) (by decide +kernel)
            have hA_f97 : KF [2, 3, 6, 9, 10, 11, 12, 13, 14, 15] f97 f := KF.tr kF_f97 hA_f73 rfl
            have hP : va_P (dC, dI) vwCl (YW cy y0 r v96 f97 w98 g99) H := hP
            have hD : va_D A (YW cy y0 r v96 f97 w98 g99) := hD
            have b3_v96 : 0 ≤ (v96 3).toInt ∧ (v96 3).toInt ≤ 1600 := Yb_3 hIv96.1
            have pv100 : (v72 3).toInt ≤ (v96 3).toInt := pv100
            have pv101 : (v96 5).toInt = (v72 5).toInt ∨ (v72 3).toInt < (v96 3).toInt ∨ ¬ (v96 5).toInt = 59 := pv101
            have hs2_f97 : f97 2 = (f 2) := kq102.trans hs2_f73
            have hs3_f97 : f97 3 = (f 3) := kq103.trans hs3_f73
            have hUv96 : (v96 35).toInt + (v96 36).toInt ≤ 40 := hIv96.2
            have hq0_v96 : v96 0 = (v 0) := hk0_v96.trans hq0_v72
            have zq0_v96 := congrArg Int32.toInt hq0_v96
            try clear zq0_v72
            have hq1_v96 : v96 1 = (v72 1) := hk1_v96
            have zq1_v96 := congrArg Int32.toInt hq1_v96
            have hq8_v96 : v96 8 = (v 8) := hk8_v96.trans hq8_v72
            have zq8_v96 := congrArg Int32.toInt hq8_v96
            try clear zq8_v72
            have hq9_v96 : v96 9 = (v 9) := hk9_v96.trans hq9_v72
            have zq9_v96 := congrArg Int32.toInt hq9_v96
            try clear zq9_v72
            have hq10_v96 : v96 10 = (v 10) := hk10_v96.trans hq10_v72
            have zq10_v96 := congrArg Int32.toInt hq10_v96
            try clear zq10_v72
            have hq13_v96 : v96 13 = (v 13) := hk13_v96.trans hq13_v72
            have zq13_v96 := congrArg Int32.toInt hq13_v96
            try clear zq13_v72
            have hq14_v96 : v96 14 = (v 14) := hk14_v96.trans hq14_v72
            have zq14_v96 := congrArg Int32.toInt hq14_v96
            try clear zq14_v72
            have hq15_v96 : v96 15 = (v 15) := hk15_v96.trans hq15_v72
            have zq15_v96 := congrArg Int32.toInt hq15_v96
            try clear zq15_v72
            have hq17_v96 : v96 17 = (v 17) := hk17_v96.trans hq17_v72
            have zq17_v96 := congrArg Int32.toInt hq17_v96
            try clear zq17_v72
            have hq18_v96 : v96 18 = (v 18) := hk18_v96.trans hq18_v72
            have zq18_v96 := congrArg Int32.toInt hq18_v96
            try clear zq18_v72
            have hGR : GR (v 3).toInt (v 5).toInt (v96 3).toInt (v96 5).toInt := GR.tr hGR (show GR (v72 3).toInt (v72 5).toInt (v96 3).toInt (v96 5).toInt from ⟨pv100, pv101⟩) (by first | with_reducible rfl | with_reducible assumption | rfl | omega) (by first | with_reducible rfl | with_reducible assumption | rfl | omega)
            clear pv101
            exact ret (v96, f97, w98, g99) _ _ _ _ _ _ ⟨(hT7.symm.trans (gsY_X11_readLine_1_q10 hG67 c69 hG71 c81 c93 c94 hG95)), hM_v96, hA_f97, hIv96, hCf97, hRf97, (hk0_v96.trans hk0_v72), (hk4_v96.trans hk4_v72), (hk9_v96.trans hk9_v72), (hk24_v96.trans hk24_v72), (hk25_v96.trans hk25_v72), (hk35_v96.trans hk35_v72), (hk36_v96.trans hk36_v72), (hk38_v96.trans hk38_v72), (hk39_v96.trans hk39_v72), (by show GA (v96 1).toInt (v 3).toInt (v96 3).toInt; exact GA.mk hgrew hGR (by omega)), (by show IM0 (v96 1).toInt (IMn (v96 15).toInt (progOK (f97 2) (f97 3) ((v96 8).toInt).toNat)); rw [hs2_f97, hs3_f97]; intro hz8 hz9; exact prog_n (hPR (by omega)) (by omega))⟩ hP hD hS dX11_readLine_306 (Nat.le_refl _) (Nat.le_refl _)
        · skip
          have zc93 : ¬ ((v72 5).toInt = 59) := zEn rfl tc_59 c93
          refine lv_aload_n hx hb dX11_readLine_290 rfl (lv_at hl 0 rfl) ?_
          refine lv_iconst (v := 2) hx hb dX11_readLine_291 rfl ?_
          refine cbVv (n := 1) (rest := []) hx hb hml hown hts hE hP hD hS hA (sY_X11_wrong_1 NF l dC dI cy y0 r 2 (upd v72 23 r70) f73 w74 g75 ⟨(Yu_23 (x := r70) hIv72.1 (rlo _) (rhi _)), hIv72.2⟩ hCf73 hRf73 ⟨by decide, by decide⟩) k_1641 k_1643 k_50 k_114 k_1644 hd_yX11_wrong ⟨Nat.le_of_ble_eq_true rfl, Nat.le_of_ble_eq_true rfl⟩ 0 11 rfl rfl (rfl) hl.1 rfl (Nat.le_of_ble_eq_true rfl) dX11_readLine_292 (fun u H locs hw hP hD hS => ?_)
          obtain ⟨hG105, hw⟩ := hw
          obtain ⟨v106, f107, w108, g109⟩ := u
          obtain ⟨kV_v106, kF_f107, hIv106, hCf107, hRf107, hk0_v106, hk3_v106, hk4_v106, hk5_v106, hk8_v106, hk9_v106, hk10_v106, hk13_v106, hk14_v106, hk15_v106, hk17_v106, hk18_v106, hk24_v106, hk25_v106, hk35_v106, hk36_v106, hk38_v106, hk39_v106, pv110, pv111, pv112, kq113, kq114, kq115⟩ := hw
          have hM_v106 : KV [1, 2, 3, 5, 6, 7, 8, 10, 11, 13, 14, 15, 17, 18, 19, 20, 21, 22, 23, 30, 31, 32, 33, 34] v106 v := KV.tr kV_v106 (KV.up (j := 23) (x := r70) hM_v72 (by decide +kernel)) (by decide +kernel)
          have hA_f107 : KF [2, 3, 6, 9, 10, 11, 12, 13, 14, 15] f107 f := KF.tr kF_f107 hA_f73 rfl
          have hP : va_P (dC, dI) vwCl (YW cy y0 r v106 f107 w108 g109) H := hP
          have hD : va_D A (YW cy y0 r v106 f107 w108 g109) := hD
          have b3_v106 : 0 ≤ (v106 3).toInt ∧ (v106 3).toInt ≤ 1600 := Yb_3 hIv106.1
          have b1_v106 : 0 ≤ (v106 1).toInt ∧ (v106 1).toInt ≤ 4 := Yb_1 hIv106.1
          have pv110 : (v72 3).toInt ≤ (v106 3).toInt := pv110
          have pv111 : (v106 5).toInt = (v72 5).toInt ∨ (v72 3).toInt < (v106 3).toInt ∨ ¬ (v106 5).toInt = 59 := pv111
          have pv112 : 0 < (v106 1).toInt := pv112
          have hs2_f107 : f107 2 = (f 2) := kq113.trans hs2_f73
          have hs3_f107 : f107 3 = (f 3) := kq114.trans hs3_f73
          have hUv106 : (v106 35).toInt + (v106 36).toInt ≤ 40 := hIv106.2
          have hq0_v106 : v106 0 = (v 0) := hk0_v106.trans hq0_v72
          have zq0_v106 := congrArg Int32.toInt hq0_v106
          try clear zq0_v72
          have hq3_v106 : v106 3 = (v72 3) := hk3_v106
          have zq3_v106 := congrArg Int32.toInt hq3_v106
          have hq5_v106 : v106 5 = (v72 5) := hk5_v106
          have zq5_v106 := congrArg Int32.toInt hq5_v106
          have hq8_v106 : v106 8 = (v 8) := hk8_v106.trans hq8_v72
          have zq8_v106 := congrArg Int32.toInt hq8_v106
          try clear zq8_v72
          have hq9_v106 : v106 9 = (v 9) := hk9_v106.trans hq9_v72
          have zq9_v106 := congrArg Int32.toInt hq9_v106
          try clear zq9_v72
          have hq10_v106 : v106 10 = (v 10) := hk10_v106.trans hq10_v72
          have zq10_v106 := congrArg Int32.toInt hq10_v106
          try clear zq10_v72
          have hq13_v106 : v106 13 = (v 13) := hk13_v106.trans hq13_v72
          have zq13_v106 := congrArg Int32.toInt hq13_v106
          try clear zq13_v72
          have hq14_v106 : v106 14 = (v 14) := hk14_v106.trans hq14_v72
          have zq14_v106 := congrArg Int32.toInt hq14_v106
          try clear zq14_v72
          have hq15_v106 : v106 15 = (v 15) := hk15_v106.trans hq15_v72
          have zq15_v106 := congrArg Int32.toInt hq15_v106
          try clear zq15_v72
          have hq17_v106 : v106 17 = (v 17) := hk17_v106.trans hq17_v72
          have zq17_v106 := congrArg Int32.toInt hq17_v106
          try clear zq17_v72
          have hq18_v106 : v106 18 = (v 18) := hk18_v106.trans hq18_v72
          have zq18_v106 := congrArg Int32.toInt hq18_v106
          try clear zq18_v72
          have hGR : GR (v 3).toInt (v 5).toInt (v106 3).toInt (v106 5).toInt := GR.tr hGR (show GR (v72 3).toInt (v72 5).toInt (v106 3).toInt (v106 5).toInt from ⟨pv110, pv111⟩) (by first | with_reducible rfl | with_reducible assumption | rfl | omega) (by first | with_reducible rfl | with_reducible assumption | rfl | omega)
          clear pv111
          refine lv_aload_n hx hb dX11_readLine_295 rfl (lv_at hl 0 rfl) ?_
          refine va_get (D := (dC, dI)) (ci := 11) (v := .int (v106 1)) (C := RX11) (T := TX11) (N := 79) hx hb hts inB_11 hown hE.1 hP 0 rfl rfl 2 (Nat.le_of_ble_eq_true rfl) (hts _ k_1322) (fun _ h9 => h9) rfl dX11_readLine_296 ?_
          have b1_v106 : 0 ≤ (v106 1).toInt ∧ (v106 1).toInt ≤ 4 := Yb_1 hIv106.1
          refine lv_if_ne (tgt := 306) hx hb dX11_readLine_299 rfl (fun c116 => ?_) (fun c116 => ?_)
          · skip
            have zc116 : ¬ ((v106 1).toInt = 0) := zEn rfl tc_0 c116
            exact ret (v106, f107, w108, g109) _ _ _ _ _ _ ⟨(hT7.symm.trans (gsY_X11_readLine_1_q11 hG67 c69 hG71 c81 c93 hG105 c116)), hM_v106, hA_f107, hIv106, hCf107, hRf107, (hk0_v106.trans hk0_v72), (hk4_v106.trans hk4_v72), (hk9_v106.trans hk9_v72), (hk24_v106.trans hk24_v72), (hk25_v106.trans hk25_v72), (hk35_v106.trans hk35_v72), (hk36_v106.trans hk36_v72), (hk38_v106.trans hk38_v72), (hk39_v106.trans hk39_v72), (by show GA (v106 1).toInt (v 3).toInt (v106 3).toInt; exact GA.ab hGR (by omega) (by omega)), (by show IM0 (v106 1).toInt (IMn (v106 15).toInt (progOK (f107 2) (f107 3) ((v106 8).toInt).toNat)); rw [hs2_f107, hs3_f107]; intro hz8 hz9; exact prog_n (hPR (by omega)) (by omega))⟩ hP hD hS dX11_readLine_306 (Nat.le_refl _) (Nat.le_refl _)
          · skip
            have zc116 : (v106 1).toInt = 0 := zEp rfl tc_0 c116
            refine lv_aload_n hx hb dX11_readLine_302 rfl (lv_at hl 0 rfl) ?_
            refine cbVv (n := 0) (rest := []) hx hb hml hown hts hE hP hD hS hA (sY_X11_token_1 NF l dC dI cy y0 r  v106 f107 w108 g109 hIv106 hCf107 hRf107 ) k_1579 k_1581 k_42 k_114 k_1582 hd_yX11_token ⟨Nat.le_of_ble_eq_true rfl, Nat.le_of_ble_eq_true rfl⟩ 0 11 rfl rfl (rfl) hl.1 rfl (Nat.le_of_ble_eq_true rfl) dX11_readLine_303 (fun u H locs hw hP hD hS => ?_)
            obtain ⟨hG117, hw⟩ := hw
            obtain ⟨v118, f119, w120, g121⟩ := u
            obtain ⟨kV_v118, kF_f119, hIv118, hCf119, hRf119, hk0_v118, hk1_v118, hk2_v118, hk4_v118, hk8_v118, hk9_v118, hk10_v118, hk13_v118, hk14_v118, hk15_v118, hk17_v118, hk18_v118, hk24_v118, hk25_v118, hk35_v118, hk36_v118, hk38_v118, hk39_v118, pv122, pv123, kq124, kq125, kq126⟩ := hw
            have hM_v118 : KV [1, 2, 3, 5, 6, 7, 8, 10, 11, 13, 14, 15, 17, 18, 19, 20, 21, 22, 23, 30, 31, 32, 33, 34] v118 v := KV.tr kV_v118 hM_v106 (by decide +kernel)
            have hA_f119 : KF [2, 3, 6, 9, 10, 11, 12, 13, 14, 15] f119 f := KF.tr kF_f119 hA_f107 rfl
            have hP : va_P (dC, dI) vwCl (YW cy y0 r v118 f119 w120 g121) H := hP
            have hD : va_D A (YW cy y0 r v118 f119 w120 g121) := hD
            have b3_v118 : 0 ≤ (v118 3).toInt ∧ (v118 3).toInt ≤ 1600 := Yb_3 hIv118.1
            have pv122 : (v106 3).toInt ≤ (v118 3).toInt := pv122
            have pv123 : (v118 5).toInt = (v106 5).toInt ∨ (v106 3).toInt < (v118 3).toInt ∨ ¬ (v118 5).toInt = 59 := pv123
            have hs2_f119 : f119 2 = (f 2) := kq124.trans hs2_f107
            have hs3_f119 : f119 3 = (f 3) := kq125.trans hs3_f107
            have hUv118 : (v118 35).toInt + (v118 36).toInt ≤ 40 := hIv118.2
            have hq0_v118 : v118 0 = (v 0) := hk0_v118.trans hq0_v106
            have zq0_v118 := congrArg Int32.toInt hq0_v118
            try clear zq0_v106
            have hq1_v118 : v118 1 = (v106 1) := hk1_v118
            have zq1_v118 := congrArg Int32.toInt hq1_v118
            have hq8_v118 : v118 8 = (v 8) := hk8_v118.trans hq8_v106
            have zq8_v118 := congrArg Int32.toInt hq8_v118
            try clear zq8_v106
            have hq9_v118 : v118 9 = (v 9) := hk9_v118.trans hq9_v106
            have zq9_v118 := congrArg Int32.toInt hq9_v118
            try clear zq9_v106
            have hq10_v118 : v118 10 = (v 10) := hk10_v118.trans hq10_v106
            have zq10_v118 := congrArg Int32.toInt hq10_v118
            try clear zq10_v106
            have hq13_v118 : v118 13 = (v 13) := hk13_v118.trans hq13_v106
            have zq13_v118 := congrArg Int32.toInt hq13_v118
            try clear zq13_v106
            have hq14_v118 : v118 14 = (v 14) := hk14_v118.trans hq14_v106
            have zq14_v118 := congrArg Int32.toInt hq14_v118
            try clear zq14_v106
            have hq15_v118 : v118 15 = (v 15) := hk15_v118.trans hq15_v106
            have zq15_v118 := congrArg Int32.toInt hq15_v118
            try clear zq15_v106
            have hq17_v118 : v118 17 = (v 17) := hk17_v118.trans hq17_v106
            have zq17_v118 := congrArg Int32.toInt hq17_v118
            try clear zq17_v106
            have hq18_v118 : v118 18 = (v 18) := hk18_v118.trans hq18_v106
            have zq18_v118 := congrArg Int32.toInt hq18_v118
            try clear zq18_v106
            have hGR : GR (v 3).toInt (v 5).toInt (v118 3).toInt (v118 5).toInt := GR.tr hGR (show GR (v106 3).toInt (v106 5).toInt (v118 3).toInt (v118 5).toInt from ⟨pv122, pv123⟩) (by first | with_reducible rfl | with_reducible assumption | rfl | omega) (by first | with_reducible rfl | with_reducible assumption | rfl | omega)
            clear pv123
            exact ret (v118, f119, w120, g121) _ _ _ _ _ _ ⟨(hT7.symm.trans (gsY_X11_readLine_1_q12 hG67 c69 hG71 c81 c93 hG105 c116 hG117)), hM_v118, hA_f119, hIv118, hCf119, hRf119, (hk0_v118.trans (hk0_v106.trans hk0_v72)), (hk4_v118.trans (hk4_v106.trans hk4_v72)), (hk9_v118.trans (hk9_v106.trans hk9_v72)), (hk24_v118.trans (hk24_v106.trans hk24_v72)), (hk25_v118.trans (hk25_v106.trans hk25_v72)), (hk35_v118.trans (hk35_v106.trans hk35_v72)), (hk36_v118.trans (hk36_v106.trans hk36_v72)), (hk38_v118.trans (hk38_v106.trans hk38_v72)), (hk39_v118.trans (hk39_v106.trans hk39_v72)), (by show GA (v118 1).toInt (v 3).toInt (v118 3).toInt; exact GA.ab hGR (by omega) (by omega)), (by show IM0 (v118 1).toInt (IMn (v118 15).toInt (progOK (f119 2) (f119 3) ((v118 8).toInt).toNat)); rw [hs2_f119, hs3_f119]; intro hz8 hz9; exact prog_n (hPR (by omega)) (by omega))⟩ hP hD hS dX11_readLine_306 (Nat.le_refl _) (Nat.le_refl _)
  · skip
    subst g68
    refine lv_if_eq (tgt := 269) hx hb dX11_readLine_237 rfl (fun _ => ?_) (fun c0 => absurd (by decide) c0)
    exact jp269 _ _ _ ((gsY_X11_readLine_1_q13 hG67).symm.trans hT7) hP hD hS hl
set_option maxHeartbeats 4000000 in
set_option maxRecDepth 100000 in
theorem sY_X11_readLine_1_jp192 (NF : Nat) (l : Launch) (dC : Nat → ClassId) (dI : Nat → Nat → Nat) (cy : Nat → ClassId) (y0 : Nat) (r : Nat → Nat)  (v : Nat → Int32) (f : Nat → Nat → Int32) (w : Int64) (g : Nat → Int64) (hIv : YI v) (hCf : YC f) (hRf : progOK (f 4) (f 5) (v 9).toInt.toNat)  (hf0 : (v 1).toInt = 0) (hg0 : IMn (v 15).toInt (progOK (f 2) (f 3) ((v 8).toInt).toNat)) {p : Program} {e : Env} {s : State} {m : MethodId} {below : List Frame} {meth : Method} {c : Code} {A : Nat → Prop} {Q : State → Prop} (hx : p.tables.exec = Jvm.exec) (hb : c.code = cX11_readLine) (hml : c.maxLocals = 1) (hts : ∀ w ∈ BIG, w.before ([.ref y0] : List Value).toArray s = true) (hown : s.vm.findClass RX11 = some m.cls) (hE : ENV (dC, dI) cy s) (hA : ∀ q, s.heap.size ≤ q → A q) (ret : ∀ (u : ((Nat → Int32) × (Nat → Nat → Int32) × (Int64) × (Nat → Int64))) (H : Heap) (locs : List Loc) (pc cells slots : Nat) (ls : Array Slot), (gsY_X11_readLine_1 NF v f w g = u ∧ KV [1, 2, 3, 5, 6, 7, 8, 10, 11, 13, 14, 15, 17, 18, 19, 20, 21, 22, 23, 30, 31, 32, 33, 34] u.1 v ∧ KF [2, 3, 6, 9, 10, 11, 12, 13, 14, 15] u.2.1 f ∧ YI u.1 ∧ YC u.2.1 ∧ progOK (u.2.1 4) (u.2.1 5) (u.1 9).toInt.toNat ∧ u.1 0 = v 0 ∧ u.1 4 = v 4 ∧ u.1 9 = v 9 ∧ u.1 24 = v 24 ∧ u.1 25 = v 25 ∧ u.1 35 = v 35 ∧ u.1 36 = v 36 ∧ u.1 38 = v 38 ∧ u.1 39 = v 39 ∧ (GA (u.1 1).toInt (v 3).toInt (u.1 3).toInt) ∧ (IM0 (u.1 1).toInt (IMn (u.1 15).toInt (progOK (u.2.1 2) (u.2.1 3) ((u.1 8).toInt).toNat)))) → va_P (dC, dI) vwCl (YW cy y0 r u.1 u.2.1 u.2.2.1 u.2.2.2) H → va_D A (YW cy y0 r u.1 u.2.1 u.2.2.1 u.2.2.2) → va_S A s.heap H locs → decode cX11_readLine pc = .ok (.return_, 1) → cells ≤ 0 → slots ≤ 0 → W p l e { frames := 7, cells := 0, slots := 0, locals := 192 } s m ([.ref y0] : List Value).toArray below meth c H locs cells slots Q (F0 m pc ls [])) (jp230 : ∀ (H : Heap) (locs : List Loc) (ls : Array Slot), gsY_X11_readLine_1_J7 NF v f w g = (gsY_X11_readLine_1 NF v f w g) → va_P (dC, dI) vwCl (YW cy y0 r v f w g) H → va_D A (YW cy y0 r v f w g) → va_S A s.heap H locs → lv_has ls 1 [(0, .ref y0)] → W p l e { frames := 7, cells := 0, slots := 0, locals := 192 } s m ([.ref y0] : List Value).toArray below meth c H locs 0 0 Q (F0 m 230 ls [])) : ∀ (H : Heap) (locs : List Loc) (ls : Array Slot), gsY_X11_readLine_1_J6 NF v f w g = (gsY_X11_readLine_1 NF v f w g) → va_P (dC, dI) vwCl (YW cy y0 r v f w g) H → va_D A (YW cy y0 r v f w g) → va_S A s.heap H locs → lv_has ls 1 [(0, .ref y0)] → W p l e { frames := 7, cells := 0, slots := 0, locals := 192 } s m ([.ref y0] : List Value).toArray below meth c H locs 0 0 Q (F0 m 192 ls []) := by
  have hUv : (v 35).toInt + (v 36).toInt ≤ 40 := hIv.2
  have hM_v : KV [1, 2, 3, 5, 6, 7, 8, 10, 11, 13, 14, 15, 17, 18, 19, 20, 21, 22, 23, 30, 31, 32, 33, 34] v v := fun _ _ => rfl
  have hA_f : KF [2, 3, 6, 9, 10, 11, 12, 13, 14, 15] f f := fun _ _ => rfl
  have hPR := hg0
  have b0_v : (0 : Int) ≤ (v 0).toInt ∧ (v 0).toInt ≤ 1600 := Yb_0 hIv.1
  have b1_v : (0 : Int) ≤ (v 1).toInt ∧ (v 1).toInt ≤ 4 := Yb_1 hIv.1
  have b8_v : (0 : Int) ≤ (v 8).toInt ∧ (v 8).toInt ≤ 320 := Yb_8 hIv.1
  have b10_v : (0 : Int) ≤ (v 10).toInt ∧ (v 10).toInt ≤ 160 := Yb_10 hIv.1
  have b13_v : (0 : Int) ≤ (v 13).toInt ∧ (v 13).toInt ≤ 31 := Yb_13 hIv.1
  have b14_v : (0 : Int) ≤ (v 14).toInt ∧ (v 14).toInt ≤ 8 := Yb_14 hIv.1
  have b15_v : (0 : Int) ≤ (v 15).toInt ∧ (v 15).toInt ≤ 1 := Yb_15 hIv.1
  have b17_v : (0 : Int) ≤ (v 17).toInt ∧ (v 17).toInt ≤ 6 := Yb_17 hIv.1
  have b18_v : (0 : Int) ≤ (v 18).toInt ∧ (v 18).toInt ≤ 6 := Yb_18 hIv.1
  have hGR : GR (v 3).toInt (v 5).toInt (v 3).toInt (v 5).toInt := GR.refl _ _
  intro H locs ls hT6 hP hD hS hl
  revert jp230
  intro jp230
  refine lv_aload_n hx hb dX11_readLine_192 rfl (lv_at hl 0 rfl) ?_
  refine lv_ldc2 (v := 1918986606) hx hb hown (hts _ k_1631) dX11_readLine_193 ?_
  refine cbVi (n := 1) (rest := []) hx hb hml hown hts hE hP hD hS hA (sY_X11_isWord_1 NF l dC dI cy y0 r 1918986606 v f w g hIv hCf hRf ) k_1601 k_1603 k_45 k_114 k_1604 hd_yX11_isWord ⟨Nat.le_of_ble_eq_true rfl, Nat.le_of_ble_eq_true rfl⟩ 0 11 rfl rfl (rfl) hl.1 rfl (Nat.le_of_ble_eq_true rfl) dX11_readLine_196 (fun r127 u H locs hw hP hD hS => ?_)
  obtain ⟨hG128, hw⟩ := hw
  rcases hw with ⟨g129, g129_0⟩ | ⟨g129⟩
  · skip
    subst g129
    refine lv_if_eq (tgt := 230) hx hb dX11_readLine_199 rfl (fun c0 => absurd c0 (by decide)) (fun _ => ?_)
    refine lv_aload_n hx hb dX11_readLine_202 rfl (lv_at hl 0 rfl) ?_
    refine va_get (D := (dC, dI)) (ci := 11) (v := .int (v 33)) (C := RX11) (T := TX11) (N := 79) hx hb hts inB_11 hown hE.1 hP 0 rfl rfl 57 (Nat.le_of_ble_eq_true rfl) (hts _ k_1377) (fun _ h9 => h9) rfl dX11_readLine_203 ?_
    refine lv_if_ne (tgt := 230) hx hb dX11_readLine_206 rfl (fun c130 => ?_) (fun c130 => ?_)
    · skip
      exact jp230 _ _ _ ((gsY_X11_readLine_1_q14 hG128 c130).symm.trans hT6) hP hD hS hl
    · skip
      have zc130 : (v 33).toInt = 0 := zEp rfl tc_0 c130
      refine lv_aload_n hx hb dX11_readLine_209 rfl (lv_at hl 0 rfl) ?_
      refine lv_iconst (v := 1) hx hb dX11_readLine_210 rfl ?_
      refine va_put (D := (dC, dI)) (ci := 11) (v := .int 1) (ty := tyX11 57) (C := RX11) (T := TX11) (N := 79) hx hb hts inB_11 tyX11 tyX11_ok nmX11 hown hE.1 hP hD hS 0 rfl rfl 57 (Nat.le_of_ble_eq_true rfl) (hts _ k_1377) (fun _ h9 => h9) rfl (tyX11_ok 57 (Nat.le_of_ble_eq_true rfl)) rfl rfl (Nat.le_of_ble_eq_true rfl) dX11_readLine_211 (fun H locs hP hD hS => ?_)
      have hP : va_P (dC, dI) vwCl (YW cy y0 r (upd v 33 1) f w g) H := hP
      have hD : va_D A (YW cy y0 r (upd v 33 1) f w g) := hD
      refine lv_aload_n hx hb dX11_readLine_214 rfl (lv_at hl 0 rfl) ?_
      refine lv_aload_n hx hb dX11_readLine_215 rfl (lv_at hl 0 rfl) ?_
      refine lv_ldc2 (v := 1918986606) hx hb hown (hts _ k_1631) dX11_readLine_216 ?_
      refine lv_bipush (v := 100) hx hb dX11_readLine_219 rfl ?_
      refine cbVi (n := 2) (rest := [.ref y0]) hx hb hml hown hts hE hP hD hS hA (sY_X11_told_1 NF l dC dI cy y0 r 1918986606 100 (upd v 33 1) f w g ⟨(Yu_33 (x := 1) hIv.1 (rlo _) (rhi _)), hIv.2⟩ hCf hRf ) k_1645 k_1647 k_51 k_114 k_1648 hd_yX11_told ⟨Nat.le_of_ble_eq_true rfl, Nat.le_of_ble_eq_true rfl⟩ 0 11 rfl rfl (rfl) hl.1 rfl (Nat.le_of_ble_eq_true rfl) dX11_readLine_221 (fun r131 u H locs hw hP hD hS => ?_)
      obtain ⟨hG132, hw⟩ := hw
      obtain ⟨v133, f134, w135, g136⟩ := u
      obtain ⟨kV_v133, kF_f134, hIv133, hCf134, hRf134, hk0_v133, hk4_v133, hk8_v133, hk9_v133, hk10_v133, hk13_v133, hk14_v133, hk15_v133, hk17_v133, hk18_v133, hk24_v133, hk25_v133, hk35_v133, hk36_v133, hk38_v133, hk39_v133, pv137, pv138, kq139, kq140, kq141⟩ := hw
      have hM_v133 : KV [1, 2, 3, 5, 6, 7, 8, 10, 11, 13, 14, 15, 17, 18, 19, 20, 21, 22, 23, 30, 31, 32, 33, 34] v133 v := KV.tr kV_v133 (KV.up (j := 33) (x := 1) hM_v (by decide +kernel)) (by decide +kernel)
      have hA_f134 : KF [2, 3, 6, 9, 10, 11, 12, 13, 14, 15] f134 f := KF.tr kF_f134 hA_f rfl
      have hP : va_P (dC, dI) vwCl (YW cy y0 r v133 f134 w135 g136) H := hP
      have hD : va_D A (YW cy y0 r v133 f134 w135 g136) := hD
      have b3_v133 : 0 ≤ (v133 3).toInt ∧ (v133 3).toInt ≤ 1600 := Yb_3 hIv133.1
      have pv137 : (v 3).toInt ≤ (v133 3).toInt := pv137
      have pv138 : (v133 5).toInt = (v 5).toInt ∨ (v 3).toInt < (v133 3).toInt ∨ ¬ (v133 5).toInt = 59 := pv138
      have hs2_f134 : f134 2 = (f 2) := kq139
      have hs3_f134 : f134 3 = (f 3) := kq140
      have hUv133 : (v133 35).toInt + (v133 36).toInt ≤ 40 := hIv133.2
      have hq0_v133 : v133 0 = (v 0) := hk0_v133
      have zq0_v133 := congrArg Int32.toInt hq0_v133
      have hq8_v133 : v133 8 = (v 8) := hk8_v133
      have zq8_v133 := congrArg Int32.toInt hq8_v133
      have hq9_v133 : v133 9 = (v 9) := hk9_v133
      have zq9_v133 := congrArg Int32.toInt hq9_v133
      have hq10_v133 : v133 10 = (v 10) := hk10_v133
      have zq10_v133 := congrArg Int32.toInt hq10_v133
      have hq13_v133 : v133 13 = (v 13) := hk13_v133
      have zq13_v133 := congrArg Int32.toInt hq13_v133
      have hq14_v133 : v133 14 = (v 14) := hk14_v133
      have zq14_v133 := congrArg Int32.toInt hq14_v133
      have hq15_v133 : v133 15 = (v 15) := hk15_v133
      have zq15_v133 := congrArg Int32.toInt hq15_v133
      have hq17_v133 : v133 17 = (v 17) := hk17_v133
      have zq17_v133 := congrArg Int32.toInt hq17_v133
      have hq18_v133 : v133 18 = (v 18) := hk18_v133
      have zq18_v133 := congrArg Int32.toInt hq18_v133
      have hGR : GR (v 3).toInt (v 5).toInt (v133 3).toInt (v133 5).toInt := GR.tr hGR (show GR (v 3).toInt (v 5).toInt (v133 3).toInt (v133 5).toInt from ⟨pv137, pv138⟩) (by first | with_reducible rfl | with_reducible assumption | rfl | omega) (by first | with_reducible rfl | with_reducible assumption | rfl | omega)
      clear pv138
      refine va_put (D := (dC, dI)) (ci := 11) (v := .int r131) (ty := tyX11 46) (C := RX11) (T := TX11) (N := 79) hx hb hts inB_11 tyX11 tyX11_ok nmX11 hown hE.1 hP hD hS 0 rfl rfl 46 (Nat.le_of_ble_eq_true rfl) (hts _ k_1366) (fun _ h9 => h9) rfl (tyX11_ok 46 (Nat.le_of_ble_eq_true rfl)) rfl rfl (Nat.le_of_ble_eq_true rfl) dX11_readLine_224 (fun H locs hP hD hS => ?_)
      have hP : va_P (dC, dI) vwCl (YW cy y0 r (upd v133 22 r131) f134 w135 g136) H := hP
      have hD : va_D A (YW cy y0 r (upd v133 22 r131) f134 w135 g136) := hD
      refine lv_goto (tgt := 274) hx hb dX11_readLine_227 rfl ?_
      refine lv_aload_n hx hb dX11_readLine_274 rfl (lv_at hl 0 rfl) ?_
      refine va_get (D := (dC, dI)) (ci := 11) (v := .int (v133 1)) (C := RX11) (T := TX11) (N := 79) hx hb hts inB_11 hown hE.1 hP 0 rfl rfl 2 (Nat.le_of_ble_eq_true rfl) (hts _ k_1322) (fun _ h9 => h9) rfl dX11_readLine_275 ?_
      have b1_v133 : 0 ≤ (v133 1).toInt ∧ (v133 1).toInt ≤ 4 := Yb_1 hIv133.1
      refine lv_if_ne (tgt := 295) hx hb dX11_readLine_278 rfl (fun c142 => ?_) (fun c142 => ?_)
      · skip
        have zc142 : ¬ ((v133 1).toInt = 0) := zEn rfl tc_0 c142
        refine lv_aload_n hx hb dX11_readLine_295 rfl (lv_at hl 0 rfl) ?_
        refine va_get (D := (dC, dI)) (ci := 11) (v := .int (v133 1)) (C := RX11) (T := TX11) (N := 79) hx hb hts inB_11 hown hE.1 hP 0 rfl rfl 2 (Nat.le_of_ble_eq_true rfl) (hts _ k_1322) (fun _ h9 => h9) rfl dX11_readLine_296 ?_
        refine lv_if_ne (tgt := 306) hx hb dX11_readLine_299 rfl (fun c143 => ?_) (fun c143 => ?_)
        · skip
          have zc143 : ¬ ((v133 1).toInt = 0) := zEn rfl tc_0 c143
          exact ret ((upd v133 22 r131), f134, w135, g136) _ _ _ _ _ _ ⟨(hT6.symm.trans (gsY_X11_readLine_1_q15 hG128 c130 hG132 c142 c143)), (KV.up (j := 22) (x := r131) hM_v133 (by decide +kernel)), hA_f134, ⟨(Yu_22 (x := r131) hIv133.1 (rlo _) (rhi _)), hIv133.2⟩, hCf134, hRf134, hk0_v133, hk4_v133, hk9_v133, hk24_v133, hk25_v133, hk35_v133, hk36_v133, hk38_v133, hk39_v133, (by show GA (v133 1).toInt (v 3).toInt (v133 3).toInt; exact GA.ab hGR (by omega) (by omega)), (by show IM0 (v133 1).toInt (IMn (v133 15).toInt (progOK (f134 2) (f134 3) ((v133 8).toInt).toNat)); rw [hs2_f134, hs3_f134]; intro hz8 hz9; exact prog_n (hPR (by omega)) (by omega))⟩ hP hD hS dX11_readLine_306 (Nat.le_refl _) (Nat.le_refl _)
        · skip
          have zc143 : (v133 1).toInt = 0 := zEp rfl tc_0 c143
          have hgrew := GR.grew hGR (by omega) (by omega)
          refine lv_aload_n hx hb dX11_readLine_302 rfl (lv_at hl 0 rfl) ?_
          refine cbVv (n := 0) (rest := []) hx hb hml hown hts hE hP hD hS hA (sY_X11_token_1 NF l dC dI cy y0 r  (upd v133 22 r131) f134 w135 g136 ⟨(Yu_22 (x := r131) hIv133.1 (rlo _) (rhi _)), hIv133.2⟩ hCf134 hRf134 ) k_1579 k_1581 k_42 k_114 k_1582 hd_yX11_token ⟨Nat.le_of_ble_eq_true rfl, Nat.le_of_ble_eq_true rfl⟩ 0 11 rfl rfl (rfl) hl.1 rfl (Nat.le_of_ble_eq_true rfl) dX11_readLine_303 (fun u H locs hw hP hD hS => ?_)
          obtain ⟨hG144, hw⟩ := hw
          obtain ⟨v145, f146, w147, g148⟩ := u
          obtain ⟨kV_v145, kF_f146, hIv145, hCf146, hRf146, hk0_v145, hk1_v145, hk2_v145, hk4_v145, hk8_v145, hk9_v145, hk10_v145, hk13_v145, hk14_v145, hk15_v145, hk17_v145, hk18_v145, hk24_v145, hk25_v145, hk35_v145, hk36_v145, hk38_v145, hk39_v145, pv149, pv150, kq151, kq152, kq153⟩ := hw
          have hM_v145 : KV [1, 2, 3, 5, 6, 7, 8, 10, 11, 13, 14, 15, 17, 18, 19, 20, 21, 22, 23, 30, 31, 32, 33, 34] v145 v := KV.tr kV_v145 (KV.up (j := 22) (x := r131) hM_v133 (by decide +kernel)) (by decide +kernel)
          have hA_f146 : KF [2, 3, 6, 9, 10, 11, 12, 13, 14, 15] f146 f := KF.tr kF_f146 hA_f134 rfl
          have hP : va_P (dC, dI) vwCl (YW cy y0 r v145 f146 w147 g148) H := hP
          have hD : va_D A (YW cy y0 r v145 f146 w147 g148) := hD
          have b3_v145 : 0 ≤ (v145 3).toInt ∧ (v145 3).toInt ≤ 1600 := Yb_3 hIv145.1
          have pv149 : (v133 3).toInt ≤ (v145 3).toInt := pv149
          have pv150 : (v145 5).toInt = (v133 5).toInt ∨ (v133 3).toInt < (v145 3).toInt ∨ ¬ (v145 5).toInt = 59 := pv150
          have hs2_f146 : f146 2 = (f 2) := kq151.trans hs2_f134
          have hs3_f146 : f146 3 = (f 3) := kq152.trans hs3_f134
          have hUv145 : (v145 35).toInt + (v145 36).toInt ≤ 40 := hIv145.2
          have hq0_v145 : v145 0 = (v 0) := hk0_v145.trans hq0_v133
          have zq0_v145 := congrArg Int32.toInt hq0_v145
          try clear zq0_v133
          have hq1_v145 : v145 1 = (v133 1) := hk1_v145
          have zq1_v145 := congrArg Int32.toInt hq1_v145
          have hq8_v145 : v145 8 = (v 8) := hk8_v145.trans hq8_v133
          have zq8_v145 := congrArg Int32.toInt hq8_v145
          try clear zq8_v133
          have hq9_v145 : v145 9 = (v 9) := hk9_v145.trans hq9_v133
          have zq9_v145 := congrArg Int32.toInt hq9_v145
          try clear zq9_v133
          have hq10_v145 : v145 10 = (v 10) := hk10_v145.trans hq10_v133
          have zq10_v145 := congrArg Int32.toInt hq10_v145
          try clear zq10_v133
          have hq13_v145 : v145 13 = (v 13) := hk13_v145.trans hq13_v133
          have zq13_v145 := congrArg Int32.toInt hq13_v145
          try clear zq13_v133
          have hq14_v145 : v145 14 = (v 14) := hk14_v145.trans hq14_v133
          have zq14_v145 := congrArg Int32.toInt hq14_v145
          try clear zq14_v133
          have hq15_v145 : v145 15 = (v 15) := hk15_v145.trans hq15_v133
          have zq15_v145 := congrArg Int32.toInt hq15_v145
          try clear zq15_v133
          have hq17_v145 : v145 17 = (v 17) := hk17_v145.trans hq17_v133
          have zq17_v145 := congrArg Int32.toInt hq17_v145
          try clear zq17_v133
          have hq18_v145 : v145 18 = (v 18) := hk18_v145.trans hq18_v133
          have zq18_v145 := congrArg Int32.toInt hq18_v145
          try clear zq18_v133
          have hGR : GR (v 3).toInt (v 5).toInt (v145 3).toInt (v145 5).toInt := GR.tr hGR (show GR (v133 3).toInt (v133 5).toInt (v145 3).toInt (v145 5).toInt from ⟨pv149, pv150⟩) (by first | with_reducible rfl | with_reducible assumption | rfl | omega) (by first | with_reducible rfl | with_reducible assumption | rfl | omega)
          clear pv150
          exact ret (v145, f146, w147, g148) _ _ _ _ _ _ ⟨(hT6.symm.trans (gsY_X11_readLine_1_q16 hG128 c130 hG132 c142 c143 hG144)), hM_v145, hA_f146, hIv145, hCf146, hRf146, (hk0_v145.trans hk0_v133), (hk4_v145.trans hk4_v133), (hk9_v145.trans hk9_v133), (hk24_v145.trans hk24_v133), (hk25_v145.trans hk25_v133), (hk35_v145.trans hk35_v133), (hk36_v145.trans hk36_v133), (hk38_v145.trans hk38_v133), (hk39_v145.trans hk39_v133), (by show GA (v145 1).toInt (v 3).toInt (v145 3).toInt; exact GA.mk hgrew hGR (by omega)), (by show IM0 (v145 1).toInt (IMn (v145 15).toInt (progOK (f146 2) (f146 3) ((v145 8).toInt).toNat)); rw [hs2_f146, hs3_f146]; intro hz8 hz9; exact prog_n (hPR (by omega)) (by omega))⟩ hP hD hS dX11_readLine_306 (Nat.le_refl _) (Nat.le_refl _)
      · skip
        have zc142 : (v133 1).toInt = 0 := zEp rfl tc_0 c142
        refine lv_aload_n hx hb dX11_readLine_281 rfl (lv_at hl 0 rfl) ?_
        refine va_get (D := (dC, dI)) (ci := 11) (v := .int (v133 5)) (C := RX11) (T := TX11) (N := 79) hx hb hts inB_11 hown hE.1 hP 0 rfl rfl 6 (Nat.le_of_ble_eq_true rfl) (hts _ k_1326) (fun _ h9 => h9) rfl dX11_readLine_282 ?_
        refine lv_bipush (v := 59) hx hb dX11_readLine_285 rfl ?_
        refine lv_icmp_eq (tgt := 295) hx hb dX11_readLine_287 rfl (fun c154 => ?_) (fun c154 => ?_)
        · skip
          have zc154 : (v133 5).toInt = 59 := zEp rfl tc_59 c154
          refine lv_aload_n hx hb dX11_readLine_295 rfl (lv_at hl 0 rfl) ?_
          refine va_get (D := (dC, dI)) (ci := 11) (v := .int (v133 1)) (C := RX11) (T := TX11) (N := 79) hx hb hts inB_11 hown hE.1 hP 0 rfl rfl 2 (Nat.le_of_ble_eq_true rfl) (hts _ k_1322) (fun _ h9 => h9) rfl dX11_readLine_296 ?_
          refine lv_if_ne (tgt := 306) hx hb dX11_readLine_299 rfl (fun c155 => ?_) (fun c155 => ?_)
          · skip
            have zc155 : ¬ ((v133 1).toInt = 0) := zEn rfl tc_0 c155
            exact ret ((upd v133 22 r131), f134, w135, g136) _ _ _ _ _ _ ⟨(hT6.symm.trans (gsY_X11_readLine_1_q17 hG128 c130 hG132 c142 c154 c155)), (KV.up (j := 22) (x := r131) hM_v133 (by decide +kernel)), hA_f134, ⟨(Yu_22 (x := r131) hIv133.1 (rlo _) (rhi _)), hIv133.2⟩, hCf134, hRf134, hk0_v133, hk4_v133, hk9_v133, hk24_v133, hk25_v133, hk35_v133, hk36_v133, hk38_v133, hk39_v133, (by show GA (v133 1).toInt (v 3).toInt (v133 3).toInt; exact GA.ab hGR (by omega) (by omega)), (by show IM0 (v133 1).toInt (IMn (v133 15).toInt (progOK (f134 2) (f134 3) ((v133 8).toInt).toNat)); rw [hs2_f134, hs3_f134]; intro hz8 hz9; exact prog_n (hPR (by omega)) (by omega))⟩ hP hD hS dX11_readLine_306 (Nat.le_refl _) (Nat.le_refl _)
          · skip
            have zc155 : (v133 1).toInt = 0 := zEp rfl tc_0 c155
            have hgrew := GR.grew hGR (by omega) (by omega)
            refine lv_aload_n hx hb dX11_readLine_302 rfl (lv_at hl 0 rfl) ?_
            refine cbVv (n := 0) (rest := []) hx hb hml hown hts hE hP hD hS hA (sY_X11_token_1 NF l dC dI cy y0 r  (upd v133 22 r131) f134 w135 g136 ⟨(Yu_22 (x := r131) hIv133.1 (rlo _) (rhi _)), hIv133.2⟩ hCf134 hRf134 ) k_1579 k_1581 k_42 k_114 k_1582 hd_yX11_token ⟨Nat.le_of_ble_eq_true rfl, Nat.le_of_ble_eq_true rfl⟩ 0 11 rfl rfl (rfl) hl.1 rfl (Nat.le_of_ble_eq_true rfl) dX11_readLine_303 (fun u H locs hw hP hD hS => ?_)
            obtain ⟨hG156, hw⟩ := hw
            obtain ⟨v157, f158, w159, g160⟩ := u
            obtain ⟨kV_v157, kF_f158, hIv157, hCf158, hRf158, hk0_v157, hk1_v157, hk2_v157, hk4_v157, hk8_v157, hk9_v157, hk10_v157, hk13_v157, hk14_v157, hk15_v157, hk17_v157, hk18_v157, hk24_v157, hk25_v157, hk35_v157, hk36_v157, hk38_v157, hk39_v157, pv161, pv162, kq163, kq164, kq165⟩ := hw
            have hM_v157 : KV [1, 2, 3, 5, 6, 7, 8, 10, 11, 13, 14, 15, 17, 18, 19, 20, 21, 22, 23, 30, 31, 32, 33, 34] v157 v := KV.tr kV_v157 (KV.up (j := 22) (x := r131) hM_v133 (by decide +kernel)) (by decide +kernel)
            have hA_f158 : KF [2, 3, 6, 9, 10, 11, 12, 13, 14, 15] f158 f := KF.tr kF_f158 hA_f134 rfl
            have hP : va_P (dC, dI) vwCl (YW cy y0 r v157 f158 w159 g160) H := hP
            have hD : va_D A (YW cy y0 r v157 f158 w159 g160) := hD
            have b3_v157 : 0 ≤ (v157 3).toInt ∧ (v157 3).toInt ≤ 1600 := Yb_3 hIv157.1
            have pv161 : (v133 3).toInt ≤ (v157 3).toInt := pv161
            have pv162 : (v157 5).toInt = (v133 5).toInt ∨ (v133 3).toInt < (v157 3).toInt ∨ ¬ (v157 5).toInt = 59 := pv162
            have hs2_f158 : f158 2 = (f 2) := kq163.trans hs2_f134
            have hs3_f158 : f158 3 = (f 3) := kq164.trans hs3_f134
            have hUv157 : (v157 35).toInt + (v157 36).toInt ≤ 40 := hIv157.2
            have hq0_v157 : v157 0 = (v 0) := hk0_v157.trans hq0_v133
            have zq0_v157 := congrArg Int32.toInt hq0_v157
            try clear zq0_v133
            have hq1_v157 : v157 1 = (v133 1) := hk1_v157
            have zq1_v157 := congrArg Int32.toInt hq1_v157
            have hq8_v157 : v157 8 = (v 8) := hk8_v157.trans hq8_v133
            have zq8_v157 := congrArg Int32.toInt hq8_v157
            try clear zq8_v133
            have hq9_v157 : v157 9 = (v 9) := hk9_v157.trans hq9_v133
            have zq9_v157 := congrArg Int32.toInt hq9_v157
            try clear zq9_v133
            have hq10_v157 : v157 10 = (v 10) := hk10_v157.trans hq10_v133
            have zq10_v157 := congrArg Int32.toInt hq10_v157
            try clear zq10_v133
            have hq13_v157 : v157 13 = (v 13) := hk13_v157.trans hq13_v133
            have zq13_v157 := congrArg Int32.toInt hq13_v157
            try clear zq13_v133
            have hq14_v157 : v157 14 = (v 14) := hk14_v157.trans hq14_v133
            have zq14_v157 := congrArg Int32.toInt hq14_v157
            try clear zq14_v133
            have hq15_v157 : v157 15 = (v 15) := hk15_v157.trans hq15_v133
            have zq15_v157 := congrArg Int32.toInt hq15_v157
            try clear zq15_v133
            have hq17_v157 : v157 17 = (v 17) := hk17_v157.trans hq17_v133
            have zq17_v157 := congrArg Int32.toInt hq17_v157
            try clear zq17_v133
            have hq18_v157 : v157 18 = (v 18) := hk18_v157.trans hq18_v133
            have zq18_v157 := congrArg Int32.toInt hq18_v157
            try clear zq18_v133
            have hGR : GR (v 3).toInt (v 5).toInt (v157 3).toInt (v157 5).toInt := GR.tr hGR (show GR (v133 3).toInt (v133 5).toInt (v157 3).toInt (v157 5).toInt from ⟨pv161, pv162⟩) (by first | with_reducible rfl | with_reducible assumption | rfl | omega) (by first | with_reducible rfl | with_reducible assumption | rfl | omega)
            clear pv162
            exact ret (v157, f158, w159, g160) _ _ _ _ _ _ ⟨(hT6.symm.trans (gsY_X11_readLine_1_q18 hG128 c130 hG132 c142 c154 c155 hG156)), hM_v157, hA_f158, hIv157, hCf158, hRf158, (hk0_v157.trans hk0_v133), (hk4_v157.trans hk4_v133), (hk9_v157.trans hk9_v133), (hk24_v157.trans hk24_v133), (hk25_v157.trans hk25_v133), (hk35_v157.trans hk35_v133), (hk36_v157.trans hk36_v133), (hk38_v157.trans hk38_v133), (hk39_v157.trans hk39_v133), (by show GA (v157 1).toInt (v 3).toInt (v157 3).toInt; exact GA.mk hgrew hGR (by omega)), (by show IM0 (v157 1).toInt (IMn (v157 15).toInt (progOK (f158 2) (f158 3) ((v157 8).toInt).toNat)); rw [hs2_f158, hs3_f158]; intro hz8 hz9; exact prog_n (hPR (by omega)) (by omega))⟩ hP hD hS dX11_readLine_306 (Nat.le_refl _) (Nat.le_refl _)
        · skip
          have zc154 : ¬ ((v133 5).toInt = 59) := zEn rfl tc_59 c154
          refine lv_aload_n hx hb dX11_readLine_290 rfl (lv_at hl 0 rfl) ?_
          refine lv_iconst (v := 2) hx hb dX11_readLine_291 rfl ?_
          refine cbVv (n := 1) (rest := []) hx hb hml hown hts hE hP hD hS hA (sY_X11_wrong_1 NF l dC dI cy y0 r 2 (upd v133 22 r131) f134 w135 g136 ⟨(Yu_22 (x := r131) hIv133.1 (rlo _) (rhi _)), hIv133.2⟩ hCf134 hRf134 ⟨by decide, by decide⟩) k_1641 k_1643 k_50 k_114 k_1644 hd_yX11_wrong ⟨Nat.le_of_ble_eq_true rfl, Nat.le_of_ble_eq_true rfl⟩ 0 11 rfl rfl (rfl) hl.1 rfl (Nat.le_of_ble_eq_true rfl) dX11_readLine_292 (fun u H locs hw hP hD hS => ?_)
          obtain ⟨hG166, hw⟩ := hw
          obtain ⟨v167, f168, w169, g170⟩ := u
          obtain ⟨kV_v167, kF_f168, hIv167, hCf168, hRf168, hk0_v167, hk3_v167, hk4_v167, hk5_v167, hk8_v167, hk9_v167, hk10_v167, hk13_v167, hk14_v167, hk15_v167, hk17_v167, hk18_v167, hk24_v167, hk25_v167, hk35_v167, hk36_v167, hk38_v167, hk39_v167, pv171, pv172, pv173, kq174, kq175, kq176⟩ := hw
          have hM_v167 : KV [1, 2, 3, 5, 6, 7, 8, 10, 11, 13, 14, 15, 17, 18, 19, 20, 21, 22, 23, 30, 31, 32, 33, 34] v167 v := KV.tr kV_v167 (KV.up (j := 22) (x := r131) hM_v133 (by decide +kernel)) (by decide +kernel)
          have hA_f168 : KF [2, 3, 6, 9, 10, 11, 12, 13, 14, 15] f168 f := KF.tr kF_f168 hA_f134 rfl
          have hP : va_P (dC, dI) vwCl (YW cy y0 r v167 f168 w169 g170) H := hP
          have hD : va_D A (YW cy y0 r v167 f168 w169 g170) := hD
          have b3_v167 : 0 ≤ (v167 3).toInt ∧ (v167 3).toInt ≤ 1600 := Yb_3 hIv167.1
          have b1_v167 : 0 ≤ (v167 1).toInt ∧ (v167 1).toInt ≤ 4 := Yb_1 hIv167.1
          have pv171 : (v133 3).toInt ≤ (v167 3).toInt := pv171
          have pv172 : (v167 5).toInt = (v133 5).toInt ∨ (v133 3).toInt < (v167 3).toInt ∨ ¬ (v167 5).toInt = 59 := pv172
          have pv173 : 0 < (v167 1).toInt := pv173
          have hs2_f168 : f168 2 = (f 2) := kq174.trans hs2_f134
          have hs3_f168 : f168 3 = (f 3) := kq175.trans hs3_f134
          have hUv167 : (v167 35).toInt + (v167 36).toInt ≤ 40 := hIv167.2
          have hq0_v167 : v167 0 = (v 0) := hk0_v167.trans hq0_v133
          have zq0_v167 := congrArg Int32.toInt hq0_v167
          try clear zq0_v133
          have hq3_v167 : v167 3 = (v133 3) := hk3_v167
          have zq3_v167 := congrArg Int32.toInt hq3_v167
          have hq5_v167 : v167 5 = (v133 5) := hk5_v167
          have zq5_v167 := congrArg Int32.toInt hq5_v167
          have hq8_v167 : v167 8 = (v 8) := hk8_v167.trans hq8_v133
          have zq8_v167 := congrArg Int32.toInt hq8_v167
          try clear zq8_v133
          have hq9_v167 : v167 9 = (v 9) := hk9_v167.trans hq9_v133
          have zq9_v167 := congrArg Int32.toInt hq9_v167
          try clear zq9_v133
          have hq10_v167 : v167 10 = (v 10) := hk10_v167.trans hq10_v133
          have zq10_v167 := congrArg Int32.toInt hq10_v167
          try clear zq10_v133
          have hq13_v167 : v167 13 = (v 13) := hk13_v167.trans hq13_v133
          have zq13_v167 := congrArg Int32.toInt hq13_v167
          try clear zq13_v133
          have hq14_v167 : v167 14 = (v 14) := hk14_v167.trans hq14_v133
          have zq14_v167 := congrArg Int32.toInt hq14_v167
          try clear zq14_v133
          have hq15_v167 : v167 15 = (v 15) := hk15_v167.trans hq15_v133
          have zq15_v167 := congrArg Int32.toInt hq15_v167
          try clear zq15_v133
          have hq17_v167 : v167 17 = (v 17) := hk17_v167.trans hq17_v133
          have zq17_v167 := congrArg Int32.toInt hq17_v167
          try clear zq17_v133
          have hq18_v167 : v167 18 = (v 18) := hk18_v167.trans hq18_v133
          have zq18_v167 := congrArg Int32.toInt hq18_v167
          try clear zq18_v133
          have hGR : GR (v 3).toInt (v 5).toInt (v167 3).toInt (v167 5).toInt := GR.tr hGR (show GR (v133 3).toInt (v133 5).toInt (v167 3).toInt (v167 5).toInt from ⟨pv171, pv172⟩) (by first | with_reducible rfl | with_reducible assumption | rfl | omega) (by first | with_reducible rfl | with_reducible assumption | rfl | omega)
          clear pv172
          refine lv_aload_n hx hb dX11_readLine_295 rfl (lv_at hl 0 rfl) ?_
          refine va_get (D := (dC, dI)) (ci := 11) (v := .int (v167 1)) (C := RX11) (T := TX11) (N := 79) hx hb hts inB_11 hown hE.1 hP 0 rfl rfl 2 (Nat.le_of_ble_eq_true rfl) (hts _ k_1322) (fun _ h9 => h9) rfl dX11_readLine_296 ?_
          have b1_v167 : 0 ≤ (v167 1).toInt ∧ (v167 1).toInt ≤ 4 := Yb_1 hIv167.1
          refine lv_if_ne (tgt := 306) hx hb dX11_readLine_299 rfl (fun c177 => ?_) (fun c177 => ?_)
          · skip
            have zc177 : ¬ ((v167 1).toInt = 0) := zEn rfl tc_0 c177
            exact ret (v167, f168, w169, g170) _ _ _ _ _ _ ⟨(hT6.symm.trans (gsY_X11_readLine_1_q19 hG128 c130 hG132 c142 c154 hG166 c177)), hM_v167, hA_f168, hIv167, hCf168, hRf168, (hk0_v167.trans hk0_v133), (hk4_v167.trans hk4_v133), (hk9_v167.trans hk9_v133), (hk24_v167.trans hk24_v133), (hk25_v167.trans hk25_v133), (hk35_v167.trans hk35_v133), (hk36_v167.trans hk36_v133), (hk38_v167.trans hk38_v133), (hk39_v167.trans hk39_v133), (by show GA (v167 1).toInt (v 3).toInt (v167 3).toInt; exact GA.ab hGR (by omega) (by omega)), (by show IM0 (v167 1).toInt (IMn (v167 15).toInt (progOK (f168 2) (f168 3) ((v167 8).toInt).toNat)); rw [hs2_f168, hs3_f168]; intro hz8 hz9; exact prog_n (hPR (by omega)) (by omega))⟩ hP hD hS dX11_readLine_306 (Nat.le_refl _) (Nat.le_refl _)
          · skip
            have zc177 : (v167 1).toInt = 0 := zEp rfl tc_0 c177
            refine lv_aload_n hx hb dX11_readLine_302 rfl (lv_at hl 0 rfl) ?_
            refine cbVv (n := 0) (rest := []) hx hb hml hown hts hE hP hD hS hA (sY_X11_token_1 NF l dC dI cy y0 r  v167 f168 w169 g170 hIv167 hCf168 hRf168 ) k_1579 k_1581 k_42 k_114 k_1582 hd_yX11_token ⟨Nat.le_of_ble_eq_true rfl, Nat.le_of_ble_eq_true rfl⟩ 0 11 rfl rfl (rfl) hl.1 rfl (Nat.le_of_ble_eq_true rfl) dX11_readLine_303 (fun u H locs hw hP hD hS => ?_)
            obtain ⟨hG178, hw⟩ := hw
            obtain ⟨v179, f180, w181, g182⟩ := u
            obtain ⟨kV_v179, kF_f180, hIv179, hCf180, hRf180, hk0_v179, hk1_v179, hk2_v179, hk4_v179, hk8_v179, hk9_v179, hk10_v179, hk13_v179, hk14_v179, hk15_v179, hk17_v179, hk18_v179, hk24_v179, hk25_v179, hk35_v179, hk36_v179, hk38_v179, hk39_v179, pv183, pv184, kq185, kq186, kq187⟩ := hw
            have hM_v179 : KV [1, 2, 3, 5, 6, 7, 8, 10, 11, 13, 14, 15, 17, 18, 19, 20, 21, 22, 23, 30, 31, 32, 33, 34] v179 v := KV.tr kV_v179 hM_v167 (by decide +kernel)
            have hA_f180 : KF [2, 3, 6, 9, 10, 11, 12, 13, 14, 15] f180 f := KF.tr kF_f180 hA_f168 rfl
            have hP : va_P (dC, dI) vwCl (YW cy y0 r v179 f180 w181 g182) H := hP
            have hD : va_D A (YW cy y0 r v179 f180 w181 g182) := hD
            have b3_v179 : 0 ≤ (v179 3).toInt ∧ (v179 3).toInt ≤ 1600 := Yb_3 hIv179.1
            have pv183 : (v167 3).toInt ≤ (v179 3).toInt := pv183
            have pv184 : (v179 5).toInt = (v167 5).toInt ∨ (v167 3).toInt < (v179 3).toInt ∨ ¬ (v179 5).toInt = 59 := pv184
            have hs2_f180 : f180 2 = (f 2) := kq185.trans hs2_f168
            have hs3_f180 : f180 3 = (f 3) := kq186.trans hs3_f168
            have hUv179 : (v179 35).toInt + (v179 36).toInt ≤ 40 := hIv179.2
            have hq0_v179 : v179 0 = (v 0) := hk0_v179.trans hq0_v167
            have zq0_v179 := congrArg Int32.toInt hq0_v179
            try clear zq0_v167
            have hq1_v179 : v179 1 = (v167 1) := hk1_v179
            have zq1_v179 := congrArg Int32.toInt hq1_v179
            have hq8_v179 : v179 8 = (v 8) := hk8_v179.trans hq8_v167
            have zq8_v179 := congrArg Int32.toInt hq8_v179
            try clear zq8_v167
            have hq9_v179 : v179 9 = (v 9) := hk9_v179.trans hq9_v167
            have zq9_v179 := congrArg Int32.toInt hq9_v179
            try clear zq9_v167
            have hq10_v179 : v179 10 = (v 10) := hk10_v179.trans hq10_v167
            have zq10_v179 := congrArg Int32.toInt hq10_v179
            try clear zq10_v167
            have hq13_v179 : v179 13 = (v 13) := hk13_v179.trans hq13_v167
            have zq13_v179 := congrArg Int32.toInt hq13_v179
            try clear zq13_v167
            have hq14_v179 : v179 14 = (v 14) := hk14_v179.trans hq14_v167
            have zq14_v179 := congrArg Int32.toInt hq14_v179
            try clear zq14_v167
            have hq15_v179 : v179 15 = (v 15) := hk15_v179.trans hq15_v167
            have zq15_v179 := congrArg Int32.toInt hq15_v179
            try clear zq15_v167
            have hq17_v179 : v179 17 = (v 17) := hk17_v179.trans hq17_v167
            have zq17_v179 := congrArg Int32.toInt hq17_v179
            try clear zq17_v167
            have hq18_v179 : v179 18 = (v 18) := hk18_v179.trans hq18_v167
            have zq18_v179 := congrArg Int32.toInt hq18_v179
            try clear zq18_v167
            have hGR : GR (v 3).toInt (v 5).toInt (v179 3).toInt (v179 5).toInt := GR.tr hGR (show GR (v167 3).toInt (v167 5).toInt (v179 3).toInt (v179 5).toInt from ⟨pv183, pv184⟩) (by first | with_reducible rfl | with_reducible assumption | rfl | omega) (by first | with_reducible rfl | with_reducible assumption | rfl | omega)
            clear pv184
            exact ret (v179, f180, w181, g182) _ _ _ _ _ _ ⟨(hT6.symm.trans (gsY_X11_readLine_1_q20 hG128 c130 hG132 c142 c154 hG166 c177 hG178)), hM_v179, hA_f180, hIv179, hCf180, hRf180, (hk0_v179.trans (hk0_v167.trans hk0_v133)), (hk4_v179.trans (hk4_v167.trans hk4_v133)), (hk9_v179.trans (hk9_v167.trans hk9_v133)), (hk24_v179.trans (hk24_v167.trans hk24_v133)), (hk25_v179.trans (hk25_v167.trans hk25_v133)), (hk35_v179.trans (hk35_v167.trans hk35_v133)), (hk36_v179.trans (hk36_v167.trans hk36_v133)), (hk38_v179.trans (hk38_v167.trans hk38_v133)), (hk39_v179.trans (hk39_v167.trans hk39_v133)), (by show GA (v179 1).toInt (v 3).toInt (v179 3).toInt; exact GA.ab hGR (by omega) (by omega)), (by show IM0 (v179 1).toInt (IMn (v179 15).toInt (progOK (f180 2) (f180 3) ((v179 8).toInt).toNat)); rw [hs2_f180, hs3_f180]; intro hz8 hz9; exact prog_n (hPR (by omega)) (by omega))⟩ hP hD hS dX11_readLine_306 (Nat.le_refl _) (Nat.le_refl _)
  · skip
    subst g129
    refine lv_if_eq (tgt := 230) hx hb dX11_readLine_199 rfl (fun _ => ?_) (fun c0 => absurd (by decide) c0)
    exact jp230 _ _ _ ((gsY_X11_readLine_1_q21 hG128).symm.trans hT6) hP hD hS hl
set_option maxHeartbeats 4000000 in
set_option maxRecDepth 100000 in
theorem sY_X11_readLine_1_jp154 (NF : Nat) (l : Launch) (dC : Nat → ClassId) (dI : Nat → Nat → Nat) (cy : Nat → ClassId) (y0 : Nat) (r : Nat → Nat)  (v : Nat → Int32) (f : Nat → Nat → Int32) (w : Int64) (g : Nat → Int64) (hIv : YI v) (hCf : YC f) (hRf : progOK (f 4) (f 5) (v 9).toInt.toNat)  (hf0 : (v 1).toInt = 0) (hg0 : IMn (v 15).toInt (progOK (f 2) (f 3) ((v 8).toInt).toNat)) {p : Program} {e : Env} {s : State} {m : MethodId} {below : List Frame} {meth : Method} {c : Code} {A : Nat → Prop} {Q : State → Prop} (hx : p.tables.exec = Jvm.exec) (hb : c.code = cX11_readLine) (hml : c.maxLocals = 1) (hts : ∀ w ∈ BIG, w.before ([.ref y0] : List Value).toArray s = true) (hown : s.vm.findClass RX11 = some m.cls) (hE : ENV (dC, dI) cy s) (hA : ∀ q, s.heap.size ≤ q → A q) (ret : ∀ (u : ((Nat → Int32) × (Nat → Nat → Int32) × (Int64) × (Nat → Int64))) (H : Heap) (locs : List Loc) (pc cells slots : Nat) (ls : Array Slot), (gsY_X11_readLine_1 NF v f w g = u ∧ KV [1, 2, 3, 5, 6, 7, 8, 10, 11, 13, 14, 15, 17, 18, 19, 20, 21, 22, 23, 30, 31, 32, 33, 34] u.1 v ∧ KF [2, 3, 6, 9, 10, 11, 12, 13, 14, 15] u.2.1 f ∧ YI u.1 ∧ YC u.2.1 ∧ progOK (u.2.1 4) (u.2.1 5) (u.1 9).toInt.toNat ∧ u.1 0 = v 0 ∧ u.1 4 = v 4 ∧ u.1 9 = v 9 ∧ u.1 24 = v 24 ∧ u.1 25 = v 25 ∧ u.1 35 = v 35 ∧ u.1 36 = v 36 ∧ u.1 38 = v 38 ∧ u.1 39 = v 39 ∧ (GA (u.1 1).toInt (v 3).toInt (u.1 3).toInt) ∧ (IM0 (u.1 1).toInt (IMn (u.1 15).toInt (progOK (u.2.1 2) (u.2.1 3) ((u.1 8).toInt).toNat)))) → va_P (dC, dI) vwCl (YW cy y0 r u.1 u.2.1 u.2.2.1 u.2.2.2) H → va_D A (YW cy y0 r u.1 u.2.1 u.2.2.1 u.2.2.2) → va_S A s.heap H locs → decode cX11_readLine pc = .ok (.return_, 1) → cells ≤ 0 → slots ≤ 0 → W p l e { frames := 7, cells := 0, slots := 0, locals := 192 } s m ([.ref y0] : List Value).toArray below meth c H locs cells slots Q (F0 m pc ls [])) (jp192 : ∀ (H : Heap) (locs : List Loc) (ls : Array Slot), gsY_X11_readLine_1_J6 NF v f w g = (gsY_X11_readLine_1 NF v f w g) → va_P (dC, dI) vwCl (YW cy y0 r v f w g) H → va_D A (YW cy y0 r v f w g) → va_S A s.heap H locs → lv_has ls 1 [(0, .ref y0)] → W p l e { frames := 7, cells := 0, slots := 0, locals := 192 } s m ([.ref y0] : List Value).toArray below meth c H locs 0 0 Q (F0 m 192 ls [])) : ∀ (H : Heap) (locs : List Loc) (ls : Array Slot), gsY_X11_readLine_1_J5 NF v f w g = (gsY_X11_readLine_1 NF v f w g) → va_P (dC, dI) vwCl (YW cy y0 r v f w g) H → va_D A (YW cy y0 r v f w g) → va_S A s.heap H locs → lv_has ls 1 [(0, .ref y0)] → W p l e { frames := 7, cells := 0, slots := 0, locals := 192 } s m ([.ref y0] : List Value).toArray below meth c H locs 0 0 Q (F0 m 154 ls []) := by
  have hUv : (v 35).toInt + (v 36).toInt ≤ 40 := hIv.2
  have hM_v : KV [1, 2, 3, 5, 6, 7, 8, 10, 11, 13, 14, 15, 17, 18, 19, 20, 21, 22, 23, 30, 31, 32, 33, 34] v v := fun _ _ => rfl
  have hA_f : KF [2, 3, 6, 9, 10, 11, 12, 13, 14, 15] f f := fun _ _ => rfl
  have hPR := hg0
  have b0_v : (0 : Int) ≤ (v 0).toInt ∧ (v 0).toInt ≤ 1600 := Yb_0 hIv.1
  have b1_v : (0 : Int) ≤ (v 1).toInt ∧ (v 1).toInt ≤ 4 := Yb_1 hIv.1
  have b8_v : (0 : Int) ≤ (v 8).toInt ∧ (v 8).toInt ≤ 320 := Yb_8 hIv.1
  have b10_v : (0 : Int) ≤ (v 10).toInt ∧ (v 10).toInt ≤ 160 := Yb_10 hIv.1
  have b13_v : (0 : Int) ≤ (v 13).toInt ∧ (v 13).toInt ≤ 31 := Yb_13 hIv.1
  have b14_v : (0 : Int) ≤ (v 14).toInt ∧ (v 14).toInt ≤ 8 := Yb_14 hIv.1
  have b15_v : (0 : Int) ≤ (v 15).toInt ∧ (v 15).toInt ≤ 1 := Yb_15 hIv.1
  have b17_v : (0 : Int) ≤ (v 17).toInt ∧ (v 17).toInt ≤ 6 := Yb_17 hIv.1
  have b18_v : (0 : Int) ≤ (v 18).toInt ∧ (v 18).toInt ≤ 6 := Yb_18 hIv.1
  have hGR : GR (v 3).toInt (v 5).toInt (v 3).toInt (v 5).toInt := GR.refl _ _
  intro H locs ls hT5 hP hD hS hl
  revert jp192
  intro jp192
  refine lv_aload_n hx hb dX11_readLine_154 rfl (lv_at hl 0 rfl) ?_
  refine lv_ldc2 (v := 1818848101) hx hb hown (hts _ k_1630) dX11_readLine_155 ?_
  refine cbVi (n := 1) (rest := []) hx hb hml hown hts hE hP hD hS hA (sY_X11_isWord_1 NF l dC dI cy y0 r 1818848101 v f w g hIv hCf hRf ) k_1601 k_1603 k_45 k_114 k_1604 hd_yX11_isWord ⟨Nat.le_of_ble_eq_true rfl, Nat.le_of_ble_eq_true rfl⟩ 0 11 rfl rfl (rfl) hl.1 rfl (Nat.le_of_ble_eq_true rfl) dX11_readLine_158 (fun r188 u H locs hw hP hD hS => ?_)
  obtain ⟨hG189, hw⟩ := hw
  rcases hw with ⟨g190, g190_0⟩ | ⟨g190⟩
  · skip
    subst g190
    refine lv_if_eq (tgt := 192) hx hb dX11_readLine_161 rfl (fun c0 => absurd c0 (by decide)) (fun _ => ?_)
    refine lv_aload_n hx hb dX11_readLine_164 rfl (lv_at hl 0 rfl) ?_
    refine va_get (D := (dC, dI)) (ci := 11) (v := .int (v 32)) (C := RX11) (T := TX11) (N := 79) hx hb hts inB_11 hown hE.1 hP 0 rfl rfl 56 (Nat.le_of_ble_eq_true rfl) (hts _ k_1376) (fun _ h9 => h9) rfl dX11_readLine_165 ?_
    refine lv_if_ne (tgt := 192) hx hb dX11_readLine_168 rfl (fun c191 => ?_) (fun c191 => ?_)
    · skip
      exact jp192 _ _ _ ((gsY_X11_readLine_1_q22 hG189 c191).symm.trans hT5) hP hD hS hl
    · skip
      have zc191 : (v 32).toInt = 0 := zEp rfl tc_0 c191
      refine lv_aload_n hx hb dX11_readLine_171 rfl (lv_at hl 0 rfl) ?_
      refine lv_iconst (v := 1) hx hb dX11_readLine_172 rfl ?_
      refine va_put (D := (dC, dI)) (ci := 11) (v := .int 1) (ty := tyX11 56) (C := RX11) (T := TX11) (N := 79) hx hb hts inB_11 tyX11 tyX11_ok nmX11 hown hE.1 hP hD hS 0 rfl rfl 56 (Nat.le_of_ble_eq_true rfl) (hts _ k_1376) (fun _ h9 => h9) rfl (tyX11_ok 56 (Nat.le_of_ble_eq_true rfl)) rfl rfl (Nat.le_of_ble_eq_true rfl) dX11_readLine_173 (fun H locs hP hD hS => ?_)
      have hP : va_P (dC, dI) vwCl (YW cy y0 r (upd v 32 1) f w g) H := hP
      have hD : va_D A (YW cy y0 r (upd v 32 1) f w g) := hD
      refine lv_aload_n hx hb dX11_readLine_176 rfl (lv_at hl 0 rfl) ?_
      refine lv_aload_n hx hb dX11_readLine_177 rfl (lv_at hl 0 rfl) ?_
      refine lv_ldc2 (v := 1818848101) hx hb hown (hts _ k_1630) dX11_readLine_178 ?_
      refine lv_bipush (v := 99) hx hb dX11_readLine_181 rfl ?_
      refine cbVi (n := 2) (rest := [.ref y0]) hx hb hml hown hts hE hP hD hS hA (sY_X11_told_1 NF l dC dI cy y0 r 1818848101 99 (upd v 32 1) f w g ⟨(Yu_32 (x := 1) hIv.1 (rlo _) (rhi _)), hIv.2⟩ hCf hRf ) k_1645 k_1647 k_51 k_114 k_1648 hd_yX11_told ⟨Nat.le_of_ble_eq_true rfl, Nat.le_of_ble_eq_true rfl⟩ 0 11 rfl rfl (rfl) hl.1 rfl (Nat.le_of_ble_eq_true rfl) dX11_readLine_183 (fun r192 u H locs hw hP hD hS => ?_)
      obtain ⟨hG193, hw⟩ := hw
      obtain ⟨v194, f195, w196, g197⟩ := u
      obtain ⟨kV_v194, kF_f195, hIv194, hCf195, hRf195, hk0_v194, hk4_v194, hk8_v194, hk9_v194, hk10_v194, hk13_v194, hk14_v194, hk15_v194, hk17_v194, hk18_v194, hk24_v194, hk25_v194, hk35_v194, hk36_v194, hk38_v194, hk39_v194, pv198, pv199, kq200, kq201, kq202⟩ := hw
      have hM_v194 : KV [1, 2, 3, 5, 6, 7, 8, 10, 11, 13, 14, 15, 17, 18, 19, 20, 21, 22, 23, 30, 31, 32, 33, 34] v194 v := KV.tr kV_v194 (KV.up (j := 32) (x := 1) hM_v (by decide +kernel)) (by decide +kernel)
      have hA_f195 : KF [2, 3, 6, 9, 10, 11, 12, 13, 14, 15] f195 f := KF.tr kF_f195 hA_f rfl
      have hP : va_P (dC, dI) vwCl (YW cy y0 r v194 f195 w196 g197) H := hP
      have hD : va_D A (YW cy y0 r v194 f195 w196 g197) := hD
      have b3_v194 : 0 ≤ (v194 3).toInt ∧ (v194 3).toInt ≤ 1600 := Yb_3 hIv194.1
      have pv198 : (v 3).toInt ≤ (v194 3).toInt := pv198
      have pv199 : (v194 5).toInt = (v 5).toInt ∨ (v 3).toInt < (v194 3).toInt ∨ ¬ (v194 5).toInt = 59 := pv199
      have hs2_f195 : f195 2 = (f 2) := kq200
      have hs3_f195 : f195 3 = (f 3) := kq201
      have hUv194 : (v194 35).toInt + (v194 36).toInt ≤ 40 := hIv194.2
      have hq0_v194 : v194 0 = (v 0) := hk0_v194
      have zq0_v194 := congrArg Int32.toInt hq0_v194
      have hq8_v194 : v194 8 = (v 8) := hk8_v194
      have zq8_v194 := congrArg Int32.toInt hq8_v194
      have hq9_v194 : v194 9 = (v 9) := hk9_v194
      have zq9_v194 := congrArg Int32.toInt hq9_v194
      have hq10_v194 : v194 10 = (v 10) := hk10_v194
      have zq10_v194 := congrArg Int32.toInt hq10_v194
      have hq13_v194 : v194 13 = (v 13) := hk13_v194
      have zq13_v194 := congrArg Int32.toInt hq13_v194
      have hq14_v194 : v194 14 = (v 14) := hk14_v194
      have zq14_v194 := congrArg Int32.toInt hq14_v194
      have hq15_v194 : v194 15 = (v 15) := hk15_v194
      have zq15_v194 := congrArg Int32.toInt hq15_v194
      have hq17_v194 : v194 17 = (v 17) := hk17_v194
      have zq17_v194 := congrArg Int32.toInt hq17_v194
      have hq18_v194 : v194 18 = (v 18) := hk18_v194
      have zq18_v194 := congrArg Int32.toInt hq18_v194
      have hGR : GR (v 3).toInt (v 5).toInt (v194 3).toInt (v194 5).toInt := GR.tr hGR (show GR (v 3).toInt (v 5).toInt (v194 3).toInt (v194 5).toInt from ⟨pv198, pv199⟩) (by first | with_reducible rfl | with_reducible assumption | rfl | omega) (by first | with_reducible rfl | with_reducible assumption | rfl | omega)
      clear pv199
      refine va_put (D := (dC, dI)) (ci := 11) (v := .int r192) (ty := tyX11 45) (C := RX11) (T := TX11) (N := 79) hx hb hts inB_11 tyX11 tyX11_ok nmX11 hown hE.1 hP hD hS 0 rfl rfl 45 (Nat.le_of_ble_eq_true rfl) (hts _ k_1365) (fun _ h9 => h9) rfl (tyX11_ok 45 (Nat.le_of_ble_eq_true rfl)) rfl rfl (Nat.le_of_ble_eq_true rfl) dX11_readLine_186 (fun H locs hP hD hS => ?_)
      have hP : va_P (dC, dI) vwCl (YW cy y0 r (upd v194 21 r192) f195 w196 g197) H := hP
      have hD : va_D A (YW cy y0 r (upd v194 21 r192) f195 w196 g197) := hD
      refine lv_goto (tgt := 274) hx hb dX11_readLine_189 rfl ?_
      refine lv_aload_n hx hb dX11_readLine_274 rfl (lv_at hl 0 rfl) ?_
      refine va_get (D := (dC, dI)) (ci := 11) (v := .int (v194 1)) (C := RX11) (T := TX11) (N := 79) hx hb hts inB_11 hown hE.1 hP 0 rfl rfl 2 (Nat.le_of_ble_eq_true rfl) (hts _ k_1322) (fun _ h9 => h9) rfl dX11_readLine_275 ?_
      have b1_v194 : 0 ≤ (v194 1).toInt ∧ (v194 1).toInt ≤ 4 := Yb_1 hIv194.1
      refine lv_if_ne (tgt := 295) hx hb dX11_readLine_278 rfl (fun c203 => ?_) (fun c203 => ?_)
      · skip
        have zc203 : ¬ ((v194 1).toInt = 0) := zEn rfl tc_0 c203
        refine lv_aload_n hx hb dX11_readLine_295 rfl (lv_at hl 0 rfl) ?_
        refine va_get (D := (dC, dI)) (ci := 11) (v := .int (v194 1)) (C := RX11) (T := TX11) (N := 79) hx hb hts inB_11 hown hE.1 hP 0 rfl rfl 2 (Nat.le_of_ble_eq_true rfl) (hts _ k_1322) (fun _ h9 => h9) rfl dX11_readLine_296 ?_
        refine lv_if_ne (tgt := 306) hx hb dX11_readLine_299 rfl (fun c204 => ?_) (fun c204 => ?_)
        · skip
          have zc204 : ¬ ((v194 1).toInt = 0) := zEn rfl tc_0 c204
          exact ret ((upd v194 21 r192), f195, w196, g197) _ _ _ _ _ _ ⟨(hT5.symm.trans (gsY_X11_readLine_1_q23 hG189 c191 hG193 c203 c204)), (KV.up (j := 21) (x := r192) hM_v194 (by decide +kernel)), hA_f195, ⟨(Yu_21 (x := r192) hIv194.1 (rlo _) (rhi _)), hIv194.2⟩, hCf195, hRf195, hk0_v194, hk4_v194, hk9_v194, hk24_v194, hk25_v194, hk35_v194, hk36_v194, hk38_v194, hk39_v194, (by show GA (v194 1).toInt (v 3).toInt (v194 3).toInt; exact GA.ab hGR (by omega) (by omega)), (by show IM0 (v194 1).toInt (IMn (v194 15).toInt (progOK (f195 2) (f195 3) ((v194 8).toInt).toNat)); rw [hs2_f195, hs3_f195]; intro hz8 hz9; exact prog_n (hPR (by omega)) (by omega))⟩ hP hD hS dX11_readLine_306 (Nat.le_refl _) (Nat.le_refl _)
        · skip
          have zc204 : (v194 1).toInt = 0 := zEp rfl tc_0 c204
          have hgrew := GR.grew hGR (by omega) (by omega)
          refine lv_aload_n hx hb dX11_readLine_302 rfl (lv_at hl 0 rfl) ?_
          refine cbVv (n := 0) (rest := []) hx hb hml hown hts hE hP hD hS hA (sY_X11_token_1 NF l dC dI cy y0 r  (upd v194 21 r192) f195 w196 g197 ⟨(Yu_21 (x := r192) hIv194.1 (rlo _) (rhi _)), hIv194.2⟩ hCf195 hRf195 ) k_1579 k_1581 k_42 k_114 k_1582 hd_yX11_token ⟨Nat.le_of_ble_eq_true rfl, Nat.le_of_ble_eq_true rfl⟩ 0 11 rfl rfl (rfl) hl.1 rfl (Nat.le_of_ble_eq_true rfl) dX11_readLine_303 (fun u H locs hw hP hD hS => ?_)
          obtain ⟨hG205, hw⟩ := hw
          obtain ⟨v206, f207, w208, g209⟩ := u
          obtain ⟨kV_v206, kF_f207, hIv206, hCf207, hRf207, hk0_v206, hk1_v206, hk2_v206, hk4_v206, hk8_v206, hk9_v206, hk10_v206, hk13_v206, hk14_v206, hk15_v206, hk17_v206, hk18_v206, hk24_v206, hk25_v206, hk35_v206, hk36_v206, hk38_v206, hk39_v206, pv210, pv211, kq212, kq213, kq214⟩ := hw
          have hM_v206 : KV [1, 2, 3, 5, 6, 7, 8, 10, 11, 13, 14, 15, 17, 18, 19, 20, 21, 22, 23, 30, 31, 32, 33, 34] v206 v := KV.tr kV_v206 (KV.up (j := 21) (x := r192) hM_v194 (by decide +kernel)) (by decide +kernel)
          have hA_f207 : KF [2, 3, 6, 9, 10, 11, 12, 13, 14, 15] f207 f := KF.tr kF_f207 hA_f195 rfl
          have hP : va_P (dC, dI) vwCl (YW cy y0 r v206 f207 w208 g209) H := hP
          have hD : va_D A (YW cy y0 r v206 f207 w208 g209) := hD
          have b3_v206 : 0 ≤ (v206 3).toInt ∧ (v206 3).toInt ≤ 1600 := Yb_3 hIv206.1
          have pv210 : (v194 3).toInt ≤ (v206 3).toInt := pv210
          have pv211 : (v206 5).toInt = (v194 5).toInt ∨ (v194 3).toInt < (v206 3).toInt ∨ ¬ (v206 5).toInt = 59 := pv211
          have hs2_f207 : f207 2 = (f 2) := kq212.trans hs2_f195
          have hs3_f207 : f207 3 = (f 3) := kq213.trans hs3_f195
          have hUv206 : (v206 35).toInt + (v206 36).toInt ≤ 40 := hIv206.2
          have hq0_v206 : v206 0 = (v 0) := hk0_v206.trans hq0_v194
          have zq0_v206 := congrArg Int32.toInt hq0_v206
          try clear zq0_v194
          have hq1_v206 : v206 1 = (v194 1) := hk1_v206
          have zq1_v206 := congrArg Int32.toInt hq1_v206
          have hq8_v206 : v206 8 = (v 8) := hk8_v206.trans hq8_v194
          have zq8_v206 := congrArg Int32.toInt hq8_v206
          try clear zq8_v194
          have hq9_v206 : v206 9 = (v 9) := hk9_v206.trans hq9_v194
          have zq9_v206 := congrArg Int32.toInt hq9_v206
          try clear zq9_v194
          have hq10_v206 : v206 10 = (v 10) := hk10_v206.trans hq10_v194
          have zq10_v206 := congrArg Int32.toInt hq10_v206
          try clear zq10_v194
          have hq13_v206 : v206 13 = (v 13) := hk13_v206.trans hq13_v194
          have zq13_v206 := congrArg Int32.toInt hq13_v206
          try clear zq13_v194
          have hq14_v206 : v206 14 = (v 14) := hk14_v206.trans hq14_v194
          have zq14_v206 := congrArg Int32.toInt hq14_v206
          try clear zq14_v194
          have hq15_v206 : v206 15 = (v 15) := hk15_v206.trans hq15_v194
          have zq15_v206 := congrArg Int32.toInt hq15_v206
          try clear zq15_v194
          have hq17_v206 : v206 17 = (v 17) := hk17_v206.trans hq17_v194
          have zq17_v206 := congrArg Int32.toInt hq17_v206
          try clear zq17_v194
          have hq18_v206 : v206 18 = (v 18) := hk18_v206.trans hq18_v194
          have zq18_v206 := congrArg Int32.toInt hq18_v206
          try clear zq18_v194
          have hGR : GR (v 3).toInt (v 5).toInt (v206 3).toInt (v206 5).toInt := GR.tr hGR (show GR (v194 3).toInt (v194 5).toInt (v206 3).toInt (v206 5).toInt from ⟨pv210, pv211⟩) (by first | with_reducible rfl | with_reducible assumption | rfl | omega) (by first | with_reducible rfl | with_reducible assumption | rfl | omega)
          clear pv211
          exact ret (v206, f207, w208, g209) _ _ _ _ _ _ ⟨(hT5.symm.trans (gsY_X11_readLine_1_q24 hG189 c191 hG193 c203 c204 hG205)), hM_v206, hA_f207, hIv206, hCf207, hRf207, (hk0_v206.trans hk0_v194), (hk4_v206.trans hk4_v194), (hk9_v206.trans hk9_v194), (hk24_v206.trans hk24_v194), (hk25_v206.trans hk25_v194), (hk35_v206.trans hk35_v194), (hk36_v206.trans hk36_v194), (hk38_v206.trans hk38_v194), (hk39_v206.trans hk39_v194), (by show GA (v206 1).toInt (v 3).toInt (v206 3).toInt; exact GA.mk hgrew hGR (by omega)), (by show IM0 (v206 1).toInt (IMn (v206 15).toInt (progOK (f207 2) (f207 3) ((v206 8).toInt).toNat)); rw [hs2_f207, hs3_f207]; intro hz8 hz9; exact prog_n (hPR (by omega)) (by omega))⟩ hP hD hS dX11_readLine_306 (Nat.le_refl _) (Nat.le_refl _)
      · skip
        have zc203 : (v194 1).toInt = 0 := zEp rfl tc_0 c203
        refine lv_aload_n hx hb dX11_readLine_281 rfl (lv_at hl 0 rfl) ?_
        refine va_get (D := (dC, dI)) (ci := 11) (v := .int (v194 5)) (C := RX11) (T := TX11) (N := 79) hx hb hts inB_11 hown hE.1 hP 0 rfl rfl 6 (Nat.le_of_ble_eq_true rfl) (hts _ k_1326) (fun _ h9 => h9) rfl dX11_readLine_282 ?_
        refine lv_bipush (v := 59) hx hb dX11_readLine_285 rfl ?_
        refine lv_icmp_eq (tgt := 295) hx hb dX11_readLine_287 rfl (fun c215 => ?_) (fun c215 => ?_)
        · skip
          have zc215 : (v194 5).toInt = 59 := zEp rfl tc_59 c215
          refine lv_aload_n hx hb dX11_readLine_295 rfl (lv_at hl 0 rfl) ?_
          refine va_get (D := (dC, dI)) (ci := 11) (v := .int (v194 1)) (C := RX11) (T := TX11) (N := 79) hx hb hts inB_11 hown hE.1 hP 0 rfl rfl 2 (Nat.le_of_ble_eq_true rfl) (hts _ k_1322) (fun _ h9 => h9) rfl dX11_readLine_296 ?_
          refine lv_if_ne (tgt := 306) hx hb dX11_readLine_299 rfl (fun c216 => ?_) (fun c216 => ?_)
          · skip
            have zc216 : ¬ ((v194 1).toInt = 0) := zEn rfl tc_0 c216
            exact ret ((upd v194 21 r192), f195, w196, g197) _ _ _ _ _ _ ⟨(hT5.symm.trans (gsY_X11_readLine_1_q25 hG189 c191 hG193 c203 c215 c216)), (KV.up (j := 21) (x := r192) hM_v194 (by decide +kernel)), hA_f195, ⟨(Yu_21 (x := r192) hIv194.1 (rlo _) (rhi _)), hIv194.2⟩, hCf195, hRf195, hk0_v194, hk4_v194, hk9_v194, hk24_v194, hk25_v194, hk35_v194, hk36_v194, hk38_v194, hk39_v194, (by show GA (v194 1).toInt (v 3).toInt (v194 3).toInt; exact GA.ab hGR (by omega) (by omega)), (by show IM0 (v194 1).toInt (IMn (v194 15).toInt (progOK (f195 2) (f195 3) ((v194 8).toInt).toNat)); rw [hs2_f195, hs3_f195]; intro hz8 hz9; exact prog_n (hPR (by omega)) (by omega))⟩ hP hD hS dX11_readLine_306 (Nat.le_refl _) (Nat.le_refl _)
          · skip
            have zc216 : (v194 1).toInt = 0 := zEp rfl tc_0 c216
            have hgrew := GR.grew hGR (by omega) (by omega)
            refine lv_aload_n hx hb dX11_readLine_302 rfl (lv_at hl 0 rfl) ?_
            refine cbVv (n := 0) (rest := []) hx hb hml hown hts hE hP hD hS hA (sY_X11_token_1 NF l dC dI cy y0 r  (upd v194 21 r192) f195 w196 g197 ⟨(Yu_21 (x := r192) hIv194.1 (rlo _) (rhi _)), hIv194.2⟩ hCf195 hRf195 ) k_1579 k_1581 k_42 k_114 k_1582 hd_yX11_token ⟨Nat.le_of_ble_eq_true rfl, Nat.le_of_ble_eq_true rfl⟩ 0 11 rfl rfl (rfl) hl.1 rfl (Nat.le_of_ble_eq_true rfl) dX11_readLine_303 (fun u H locs hw hP hD hS => ?_)
            obtain ⟨hG217, hw⟩ := hw
            obtain ⟨v218, f219, w220, g221⟩ := u
            obtain ⟨kV_v218, kF_f219, hIv218, hCf219, hRf219, hk0_v218, hk1_v218, hk2_v218, hk4_v218, hk8_v218, hk9_v218, hk10_v218, hk13_v218, hk14_v218, hk15_v218, hk17_v218, hk18_v218, hk24_v218, hk25_v218, hk35_v218, hk36_v218, hk38_v218, hk39_v218, pv222, pv223, kq224, kq225, kq226⟩ := hw
            have hM_v218 : KV [1, 2, 3, 5, 6, 7, 8, 10, 11, 13, 14, 15, 17, 18, 19, 20, 21, 22, 23, 30, 31, 32, 33, 34] v218 v := KV.tr kV_v218 (KV.up (j := 21) (x := r192) hM_v194 (by decide +kernel)) (by decide +kernel)
            have hA_f219 : KF [2, 3, 6, 9, 10, 11, 12, 13, 14, 15] f219 f := KF.tr kF_f219 hA_f195 rfl
            have hP : va_P (dC, dI) vwCl (YW cy y0 r v218 f219 w220 g221) H := hP
            have hD : va_D A (YW cy y0 r v218 f219 w220 g221) := hD
            have b3_v218 : 0 ≤ (v218 3).toInt ∧ (v218 3).toInt ≤ 1600 := Yb_3 hIv218.1
            have pv222 : (v194 3).toInt ≤ (v218 3).toInt := pv222
            have pv223 : (v218 5).toInt = (v194 5).toInt ∨ (v194 3).toInt < (v218 3).toInt ∨ ¬ (v218 5).toInt = 59 := pv223
            have hs2_f219 : f219 2 = (f 2) := kq224.trans hs2_f195
            have hs3_f219 : f219 3 = (f 3) := kq225.trans hs3_f195
            have hUv218 : (v218 35).toInt + (v218 36).toInt ≤ 40 := hIv218.2
            have hq0_v218 : v218 0 = (v 0) := hk0_v218.trans hq0_v194
            have zq0_v218 := congrArg Int32.toInt hq0_v218
            try clear zq0_v194
            have hq1_v218 : v218 1 = (v194 1) := hk1_v218
            have zq1_v218 := congrArg Int32.toInt hq1_v218
            have hq8_v218 : v218 8 = (v 8) := hk8_v218.trans hq8_v194
            have zq8_v218 := congrArg Int32.toInt hq8_v218
            try clear zq8_v194
            have hq9_v218 : v218 9 = (v 9) := hk9_v218.trans hq9_v194
            have zq9_v218 := congrArg Int32.toInt hq9_v218
            try clear zq9_v194
            have hq10_v218 : v218 10 = (v 10) := hk10_v218.trans hq10_v194
            have zq10_v218 := congrArg Int32.toInt hq10_v218
            try clear zq10_v194
            have hq13_v218 : v218 13 = (v 13) := hk13_v218.trans hq13_v194
            have zq13_v218 := congrArg Int32.toInt hq13_v218
            try clear zq13_v194
            have hq14_v218 : v218 14 = (v 14) := hk14_v218.trans hq14_v194
            have zq14_v218 := congrArg Int32.toInt hq14_v218
            try clear zq14_v194
            have hq15_v218 : v218 15 = (v 15) := hk15_v218.trans hq15_v194
            have zq15_v218 := congrArg Int32.toInt hq15_v218
            try clear zq15_v194
            have hq17_v218 : v218 17 = (v 17) := hk17_v218.trans hq17_v194
            have zq17_v218 := congrArg Int32.toInt hq17_v218
            try clear zq17_v194
            have hq18_v218 : v218 18 = (v 18) := hk18_v218.trans hq18_v194
            have zq18_v218 := congrArg Int32.toInt hq18_v218
            try clear zq18_v194
            have hGR : GR (v 3).toInt (v 5).toInt (v218 3).toInt (v218 5).toInt := GR.tr hGR (show GR (v194 3).toInt (v194 5).toInt (v218 3).toInt (v218 5).toInt from ⟨pv222, pv223⟩) (by first | with_reducible rfl | with_reducible assumption | rfl | omega) (by first | with_reducible rfl | with_reducible assumption | rfl | omega)
            clear pv223
            exact ret (v218, f219, w220, g221) _ _ _ _ _ _ ⟨(hT5.symm.trans (gsY_X11_readLine_1_q26 hG189 c191 hG193 c203 c215 c216 hG217)), hM_v218, hA_f219, hIv218, hCf219, hRf219, (hk0_v218.trans hk0_v194), (hk4_v218.trans hk4_v194), (hk9_v218.trans hk9_v194), (hk24_v218.trans hk24_v194), (hk25_v218.trans hk25_v194), (hk35_v218.trans hk35_v194), (hk36_v218.trans hk36_v194), (hk38_v218.trans hk38_v194), (hk39_v218.trans hk39_v194), (by show GA (v218 1).toInt (v 3).toInt (v218 3).toInt; exact GA.mk hgrew hGR (by omega)), (by show IM0 (v218 1).toInt (IMn (v218 15).toInt (progOK (f219 2) (f219 3) ((v218 8).toInt).toNat)); rw [hs2_f219, hs3_f219]; intro hz8 hz9; exact prog_n (hPR (by omega)) (by omega))⟩ hP hD hS dX11_readLine_306 (Nat.le_refl _) (Nat.le_refl _)
        · skip
          have zc215 : ¬ ((v194 5).toInt = 59) := zEn rfl tc_59 c215
          refine lv_aload_n hx hb dX11_readLine_290 rfl (lv_at hl 0 rfl) ?_
          refine lv_iconst (v := 2) hx hb dX11_readLine_291 rfl ?_
          refine cbVv (n := 1) (rest := []) hx hb hml hown hts hE hP hD hS hA (sY_X11_wrong_1 NF l dC dI cy y0 r 2 (upd v194 21 r192) f195 w196 g197 ⟨(Yu_21 (x := r192) hIv194.1 (rlo _) (rhi _)), hIv194.2⟩ hCf195 hRf195 ⟨by decide, by decide⟩) k_1641 k_1643 k_50 k_114 k_1644 hd_yX11_wrong ⟨Nat.le_of_ble_eq_true rfl, Nat.le_of_ble_eq_true rfl⟩ 0 11 rfl rfl (rfl) hl.1 rfl (Nat.le_of_ble_eq_true rfl) dX11_readLine_292 (fun u H locs hw hP hD hS => ?_)
          obtain ⟨hG227, hw⟩ := hw
          obtain ⟨v228, f229, w230, g231⟩ := u
          obtain ⟨kV_v228, kF_f229, hIv228, hCf229, hRf229, hk0_v228, hk3_v228, hk4_v228, hk5_v228, hk8_v228, hk9_v228, hk10_v228, hk13_v228, hk14_v228, hk15_v228, hk17_v228, hk18_v228, hk24_v228, hk25_v228, hk35_v228, hk36_v228, hk38_v228, hk39_v228, pv232, pv233, pv234, kq235, kq236, kq237⟩ := hw
          have hM_v228 : KV [1, 2, 3, 5, 6, 7, 8, 10, 11, 13, 14, 15, 17, 18, 19, 20, 21, 22, 23, 30, 31, 32, 33, 34] v228 v := KV.tr kV_v228 (KV.up (j := 21) (x := r192) hM_v194 (by decide +kernel)) (by decide +kernel)
          have hA_f229 : KF [2, 3, 6, 9, 10, 11, 12, 13, 14, 15] f229 f := KF.tr kF_f229 hA_f195 rfl
          have hP : va_P (dC, dI) vwCl (YW cy y0 r v228 f229 w230 g231) H := hP
          have hD : va_D A (YW cy y0 r v228 f229 w230 g231) := hD
          have b3_v228 : 0 ≤ (v228 3).toInt ∧ (v228 3).toInt ≤ 1600 := Yb_3 hIv228.1
          have b1_v228 : 0 ≤ (v228 1).toInt ∧ (v228 1).toInt ≤ 4 := Yb_1 hIv228.1
          have pv232 : (v194 3).toInt ≤ (v228 3).toInt := pv232
          have pv233 : (v228 5).toInt = (v194 5).toInt ∨ (v194 3).toInt < (v228 3).toInt ∨ ¬ (v228 5).toInt = 59 := pv233
          have pv234 : 0 < (v228 1).toInt := pv234
          have hs2_f229 : f229 2 = (f 2) := kq235.trans hs2_f195
          have hs3_f229 : f229 3 = (f 3) := kq236.trans hs3_f195
          have hUv228 : (v228 35).toInt + (v228 36).toInt ≤ 40 := hIv228.2
          have hq0_v228 : v228 0 = (v 0) := hk0_v228.trans hq0_v194
          have zq0_v228 := congrArg Int32.toInt hq0_v228
          try clear zq0_v194
          have hq3_v228 : v228 3 = (v194 3) := hk3_v228
          have zq3_v228 := congrArg Int32.toInt hq3_v228
          have hq5_v228 : v228 5 = (v194 5) := hk5_v228
          have zq5_v228 := congrArg Int32.toInt hq5_v228
          have hq8_v228 : v228 8 = (v 8) := hk8_v228.trans hq8_v194
          have zq8_v228 := congrArg Int32.toInt hq8_v228
          try clear zq8_v194
          have hq9_v228 : v228 9 = (v 9) := hk9_v228.trans hq9_v194
          have zq9_v228 := congrArg Int32.toInt hq9_v228
          try clear zq9_v194
          have hq10_v228 : v228 10 = (v 10) := hk10_v228.trans hq10_v194
          have zq10_v228 := congrArg Int32.toInt hq10_v228
          try clear zq10_v194
          have hq13_v228 : v228 13 = (v 13) := hk13_v228.trans hq13_v194
          have zq13_v228 := congrArg Int32.toInt hq13_v228
          try clear zq13_v194
          have hq14_v228 : v228 14 = (v 14) := hk14_v228.trans hq14_v194
          have zq14_v228 := congrArg Int32.toInt hq14_v228
          try clear zq14_v194
          have hq15_v228 : v228 15 = (v 15) := hk15_v228.trans hq15_v194
          have zq15_v228 := congrArg Int32.toInt hq15_v228
          try clear zq15_v194
          have hq17_v228 : v228 17 = (v 17) := hk17_v228.trans hq17_v194
          have zq17_v228 := congrArg Int32.toInt hq17_v228
          try clear zq17_v194
          have hq18_v228 : v228 18 = (v 18) := hk18_v228.trans hq18_v194
          have zq18_v228 := congrArg Int32.toInt hq18_v228
          try clear zq18_v194
          have hGR : GR (v 3).toInt (v 5).toInt (v228 3).toInt (v228 5).toInt := GR.tr hGR (show GR (v194 3).toInt (v194 5).toInt (v228 3).toInt (v228 5).toInt from ⟨pv232, pv233⟩) (by first | with_reducible rfl | with_reducible assumption | rfl | omega) (by first | with_reducible rfl | with_reducible assumption | rfl | omega)
          clear pv233
          refine lv_aload_n hx hb dX11_readLine_295 rfl (lv_at hl 0 rfl) ?_
          refine va_get (D := (dC, dI)) (ci := 11) (v := .int (v228 1)) (C := RX11) (T := TX11) (N := 79) hx hb hts inB_11 hown hE.1 hP 0 rfl rfl 2 (Nat.le_of_ble_eq_true rfl) (hts _ k_1322) (fun _ h9 => h9) rfl dX11_readLine_296 ?_
          have b1_v228 : 0 ≤ (v228 1).toInt ∧ (v228 1).toInt ≤ 4 := Yb_1 hIv228.1
          refine lv_if_ne (tgt := 306) hx hb dX11_readLine_299 rfl (fun c238 => ?_) (fun c238 => ?_)
          · skip
            have zc238 : ¬ ((v228 1).toInt = 0) := zEn rfl tc_0 c238
            exact ret (v228, f229, w230, g231) _ _ _ _ _ _ ⟨(hT5.symm.trans (gsY_X11_readLine_1_q27 hG189 c191 hG193 c203 c215 hG227 c238)), hM_v228, hA_f229, hIv228, hCf229, hRf229, (hk0_v228.trans hk0_v194), (hk4_v228.trans hk4_v194), (hk9_v228.trans hk9_v194), (hk24_v228.trans hk24_v194), (hk25_v228.trans hk25_v194), (hk35_v228.trans hk35_v194), (hk36_v228.trans hk36_v194), (hk38_v228.trans hk38_v194), (hk39_v228.trans hk39_v194), (by show GA (v228 1).toInt (v 3).toInt (v228 3).toInt; exact GA.ab hGR (by omega) (by omega)), (by show IM0 (v228 1).toInt (IMn (v228 15).toInt (progOK (f229 2) (f229 3) ((v228 8).toInt).toNat)); rw [hs2_f229, hs3_f229]; intro hz8 hz9; exact prog_n (hPR (by omega)) (by omega))⟩ hP hD hS dX11_readLine_306 (Nat.le_refl _) (Nat.le_refl _)
          · skip
            have zc238 : (v228 1).toInt = 0 := zEp rfl tc_0 c238
            refine lv_aload_n hx hb dX11_readLine_302 rfl (lv_at hl 0 rfl) ?_
            refine cbVv (n := 0) (rest := []) hx hb hml hown hts hE hP hD hS hA (sY_X11_token_1 NF l dC dI cy y0 r  v228 f229 w230 g231 hIv228 hCf229 hRf229 ) k_1579 k_1581 k_42 k_114 k_1582 hd_yX11_token ⟨Nat.le_of_ble_eq_true rfl, Nat.le_of_ble_eq_true rfl⟩ 0 11 rfl rfl (rfl) hl.1 rfl (Nat.le_of_ble_eq_true rfl) dX11_readLine_303 (fun u H locs hw hP hD hS => ?_)
            obtain ⟨hG239, hw⟩ := hw
            obtain ⟨v240, f241, w242, g243⟩ := u
            obtain ⟨kV_v240, kF_f241, hIv240, hCf241, hRf241, hk0_v240, hk1_v240, hk2_v240, hk4_v240, hk8_v240, hk9_v240, hk10_v240, hk13_v240, hk14_v240, hk15_v240, hk17_v240, hk18_v240, hk24_v240, hk25_v240, hk35_v240, hk36_v240, hk38_v240, hk39_v240, pv244, pv245, kq246, kq247, kq248⟩ := hw
            have hM_v240 : KV [1, 2, 3, 5, 6, 7, 8, 10, 11, 13, 14, 15, 17, 18, 19, 20, 21, 22, 23, 30, 31, 32, 33, 34] v240 v := KV.tr kV_v240 hM_v228 (by decide +kernel)
            have hA_f241 : KF [2, 3, 6, 9, 10, 11, 12, 13, 14, 15] f241 f := KF.tr kF_f241 hA_f229 rfl
            have hP : va_P (dC, dI) vwCl (YW cy y0 r v240 f241 w242 g243) H := hP
            have hD : va_D A (YW cy y0 r v240 f241 w242 g243) := hD
            have b3_v240 : 0 ≤ (v240 3).toInt ∧ (v240 3).toInt ≤ 1600 := Yb_3 hIv240.1
            have pv244 : (v228 3).toInt ≤ (v240 3).toInt := pv244
            have pv245 : (v240 5).toInt = (v228 5).toInt ∨ (v228 3).toInt < (v240 3).toInt ∨ ¬ (v240 5).toInt = 59 := pv245
            have hs2_f241 : f241 2 = (f 2) := kq246.trans hs2_f229
            have hs3_f241 : f241 3 = (f 3) := kq247.trans hs3_f229
            have hUv240 : (v240 35).toInt + (v240 36).toInt ≤ 40 := hIv240.2
            have hq0_v240 : v240 0 = (v 0) := hk0_v240.trans hq0_v228
            have zq0_v240 := congrArg Int32.toInt hq0_v240
            try clear zq0_v228
            have hq1_v240 : v240 1 = (v228 1) := hk1_v240
            have zq1_v240 := congrArg Int32.toInt hq1_v240
            have hq8_v240 : v240 8 = (v 8) := hk8_v240.trans hq8_v228
            have zq8_v240 := congrArg Int32.toInt hq8_v240
            try clear zq8_v228
            have hq9_v240 : v240 9 = (v 9) := hk9_v240.trans hq9_v228
            have zq9_v240 := congrArg Int32.toInt hq9_v240
            try clear zq9_v228
            have hq10_v240 : v240 10 = (v 10) := hk10_v240.trans hq10_v228
            have zq10_v240 := congrArg Int32.toInt hq10_v240
            try clear zq10_v228
            have hq13_v240 : v240 13 = (v 13) := hk13_v240.trans hq13_v228
            have zq13_v240 := congrArg Int32.toInt hq13_v240
            try clear zq13_v228
            have hq14_v240 : v240 14 = (v 14) := hk14_v240.trans hq14_v228
            have zq14_v240 := congrArg Int32.toInt hq14_v240
            try clear zq14_v228
            have hq15_v240 : v240 15 = (v 15) := hk15_v240.trans hq15_v228
            have zq15_v240 := congrArg Int32.toInt hq15_v240
            try clear zq15_v228
            have hq17_v240 : v240 17 = (v 17) := hk17_v240.trans hq17_v228
            have zq17_v240 := congrArg Int32.toInt hq17_v240
            try clear zq17_v228
            have hq18_v240 : v240 18 = (v 18) := hk18_v240.trans hq18_v228
            have zq18_v240 := congrArg Int32.toInt hq18_v240
            try clear zq18_v228
            have hGR : GR (v 3).toInt (v 5).toInt (v240 3).toInt (v240 5).toInt := GR.tr hGR (show GR (v228 3).toInt (v228 5).toInt (v240 3).toInt (v240 5).toInt from ⟨pv244, pv245⟩) (by first | with_reducible rfl | with_reducible assumption | rfl | omega) (by first | with_reducible rfl | with_reducible assumption | rfl | omega)
            clear pv245
            exact ret (v240, f241, w242, g243) _ _ _ _ _ _ ⟨(hT5.symm.trans (gsY_X11_readLine_1_q28 hG189 c191 hG193 c203 c215 hG227 c238 hG239)), hM_v240, hA_f241, hIv240, hCf241, hRf241, (hk0_v240.trans (hk0_v228.trans hk0_v194)), (hk4_v240.trans (hk4_v228.trans hk4_v194)), (hk9_v240.trans (hk9_v228.trans hk9_v194)), (hk24_v240.trans (hk24_v228.trans hk24_v194)), (hk25_v240.trans (hk25_v228.trans hk25_v194)), (hk35_v240.trans (hk35_v228.trans hk35_v194)), (hk36_v240.trans (hk36_v228.trans hk36_v194)), (hk38_v240.trans (hk38_v228.trans hk38_v194)), (hk39_v240.trans (hk39_v228.trans hk39_v194)), (by show GA (v240 1).toInt (v 3).toInt (v240 3).toInt; exact GA.ab hGR (by omega) (by omega)), (by show IM0 (v240 1).toInt (IMn (v240 15).toInt (progOK (f241 2) (f241 3) ((v240 8).toInt).toNat)); rw [hs2_f241, hs3_f241]; intro hz8 hz9; exact prog_n (hPR (by omega)) (by omega))⟩ hP hD hS dX11_readLine_306 (Nat.le_refl _) (Nat.le_refl _)
  · skip
    subst g190
    refine lv_if_eq (tgt := 192) hx hb dX11_readLine_161 rfl (fun _ => ?_) (fun c0 => absurd (by decide) c0)
    exact jp192 _ _ _ ((gsY_X11_readLine_1_q29 hG189).symm.trans hT5) hP hD hS hl
set_option maxHeartbeats 4000000 in
set_option maxRecDepth 100000 in
theorem sY_X11_readLine_1_jp115 (NF : Nat) (l : Launch) (dC : Nat → ClassId) (dI : Nat → Nat → Nat) (cy : Nat → ClassId) (y0 : Nat) (r : Nat → Nat)  (v : Nat → Int32) (f : Nat → Nat → Int32) (w : Int64) (g : Nat → Int64) (hIv : YI v) (hCf : YC f) (hRf : progOK (f 4) (f 5) (v 9).toInt.toNat)  (hf0 : (v 1).toInt = 0) (hg0 : IMn (v 15).toInt (progOK (f 2) (f 3) ((v 8).toInt).toNat)) {p : Program} {e : Env} {s : State} {m : MethodId} {below : List Frame} {meth : Method} {c : Code} {A : Nat → Prop} {Q : State → Prop} (hx : p.tables.exec = Jvm.exec) (hb : c.code = cX11_readLine) (hml : c.maxLocals = 1) (hts : ∀ w ∈ BIG, w.before ([.ref y0] : List Value).toArray s = true) (hown : s.vm.findClass RX11 = some m.cls) (hE : ENV (dC, dI) cy s) (hA : ∀ q, s.heap.size ≤ q → A q) (ret : ∀ (u : ((Nat → Int32) × (Nat → Nat → Int32) × (Int64) × (Nat → Int64))) (H : Heap) (locs : List Loc) (pc cells slots : Nat) (ls : Array Slot), (gsY_X11_readLine_1 NF v f w g = u ∧ KV [1, 2, 3, 5, 6, 7, 8, 10, 11, 13, 14, 15, 17, 18, 19, 20, 21, 22, 23, 30, 31, 32, 33, 34] u.1 v ∧ KF [2, 3, 6, 9, 10, 11, 12, 13, 14, 15] u.2.1 f ∧ YI u.1 ∧ YC u.2.1 ∧ progOK (u.2.1 4) (u.2.1 5) (u.1 9).toInt.toNat ∧ u.1 0 = v 0 ∧ u.1 4 = v 4 ∧ u.1 9 = v 9 ∧ u.1 24 = v 24 ∧ u.1 25 = v 25 ∧ u.1 35 = v 35 ∧ u.1 36 = v 36 ∧ u.1 38 = v 38 ∧ u.1 39 = v 39 ∧ (GA (u.1 1).toInt (v 3).toInt (u.1 3).toInt) ∧ (IM0 (u.1 1).toInt (IMn (u.1 15).toInt (progOK (u.2.1 2) (u.2.1 3) ((u.1 8).toInt).toNat)))) → va_P (dC, dI) vwCl (YW cy y0 r u.1 u.2.1 u.2.2.1 u.2.2.2) H → va_D A (YW cy y0 r u.1 u.2.1 u.2.2.1 u.2.2.2) → va_S A s.heap H locs → decode cX11_readLine pc = .ok (.return_, 1) → cells ≤ 0 → slots ≤ 0 → W p l e { frames := 7, cells := 0, slots := 0, locals := 192 } s m ([.ref y0] : List Value).toArray below meth c H locs cells slots Q (F0 m pc ls [])) (jp154 : ∀ (H : Heap) (locs : List Loc) (ls : Array Slot), gsY_X11_readLine_1_J5 NF v f w g = (gsY_X11_readLine_1 NF v f w g) → va_P (dC, dI) vwCl (YW cy y0 r v f w g) H → va_D A (YW cy y0 r v f w g) → va_S A s.heap H locs → lv_has ls 1 [(0, .ref y0)] → W p l e { frames := 7, cells := 0, slots := 0, locals := 192 } s m ([.ref y0] : List Value).toArray below meth c H locs 0 0 Q (F0 m 154 ls [])) : ∀ (H : Heap) (locs : List Loc) (ls : Array Slot), gsY_X11_readLine_1_J4 NF v f w g = (gsY_X11_readLine_1 NF v f w g) → va_P (dC, dI) vwCl (YW cy y0 r v f w g) H → va_D A (YW cy y0 r v f w g) → va_S A s.heap H locs → lv_has ls 1 [(0, .ref y0)] → W p l e { frames := 7, cells := 0, slots := 0, locals := 192 } s m ([.ref y0] : List Value).toArray below meth c H locs 0 0 Q (F0 m 115 ls []) := by
  have hUv : (v 35).toInt + (v 36).toInt ≤ 40 := hIv.2
  have hM_v : KV [1, 2, 3, 5, 6, 7, 8, 10, 11, 13, 14, 15, 17, 18, 19, 20, 21, 22, 23, 30, 31, 32, 33, 34] v v := fun _ _ => rfl
  have hA_f : KF [2, 3, 6, 9, 10, 11, 12, 13, 14, 15] f f := fun _ _ => rfl
  have hPR := hg0
  have b0_v : (0 : Int) ≤ (v 0).toInt ∧ (v 0).toInt ≤ 1600 := Yb_0 hIv.1
  have b1_v : (0 : Int) ≤ (v 1).toInt ∧ (v 1).toInt ≤ 4 := Yb_1 hIv.1
  have b8_v : (0 : Int) ≤ (v 8).toInt ∧ (v 8).toInt ≤ 320 := Yb_8 hIv.1
  have b10_v : (0 : Int) ≤ (v 10).toInt ∧ (v 10).toInt ≤ 160 := Yb_10 hIv.1
  have b13_v : (0 : Int) ≤ (v 13).toInt ∧ (v 13).toInt ≤ 31 := Yb_13 hIv.1
  have b14_v : (0 : Int) ≤ (v 14).toInt ∧ (v 14).toInt ≤ 8 := Yb_14 hIv.1
  have b15_v : (0 : Int) ≤ (v 15).toInt ∧ (v 15).toInt ≤ 1 := Yb_15 hIv.1
  have b17_v : (0 : Int) ≤ (v 17).toInt ∧ (v 17).toInt ≤ 6 := Yb_17 hIv.1
  have b18_v : (0 : Int) ≤ (v 18).toInt ∧ (v 18).toInt ≤ 6 := Yb_18 hIv.1
  have hGR : GR (v 3).toInt (v 5).toInt (v 3).toInt (v 5).toInt := GR.refl _ _
  intro H locs ls hT4 hP hD hS hl
  revert jp154
  intro jp154
  refine lv_aload_n hx hb dX11_readLine_115 rfl (lv_at hl 0 rfl) ?_
  refine lv_ldc2 (v := 1651469428) hx hb hown (hts _ k_1629) dX11_readLine_116 ?_
  refine cbVi (n := 1) (rest := []) hx hb hml hown hts hE hP hD hS hA (sY_X11_isWord_1 NF l dC dI cy y0 r 1651469428 v f w g hIv hCf hRf ) k_1601 k_1603 k_45 k_114 k_1604 hd_yX11_isWord ⟨Nat.le_of_ble_eq_true rfl, Nat.le_of_ble_eq_true rfl⟩ 0 11 rfl rfl (rfl) hl.1 rfl (Nat.le_of_ble_eq_true rfl) dX11_readLine_119 (fun r249 u H locs hw hP hD hS => ?_)
  obtain ⟨hG250, hw⟩ := hw
  rcases hw with ⟨g251, g251_0⟩ | ⟨g251⟩
  · skip
    subst g251
    refine lv_if_eq (tgt := 154) hx hb dX11_readLine_122 rfl (fun c0 => absurd c0 (by decide)) (fun _ => ?_)
    refine lv_aload_n hx hb dX11_readLine_125 rfl (lv_at hl 0 rfl) ?_
    refine va_get (D := (dC, dI)) (ci := 11) (v := .int (v 31)) (C := RX11) (T := TX11) (N := 79) hx hb hts inB_11 hown hE.1 hP 0 rfl rfl 55 (Nat.le_of_ble_eq_true rfl) (hts _ k_1375) (fun _ h9 => h9) rfl dX11_readLine_126 ?_
    refine lv_if_ne (tgt := 154) hx hb dX11_readLine_129 rfl (fun c252 => ?_) (fun c252 => ?_)
    · skip
      exact jp154 _ _ _ ((gsY_X11_readLine_1_q30 hG250 c252).symm.trans hT4) hP hD hS hl
    · skip
      have zc252 : (v 31).toInt = 0 := zEp rfl tc_0 c252
      refine lv_aload_n hx hb dX11_readLine_132 rfl (lv_at hl 0 rfl) ?_
      refine lv_iconst (v := 1) hx hb dX11_readLine_133 rfl ?_
      refine va_put (D := (dC, dI)) (ci := 11) (v := .int 1) (ty := tyX11 55) (C := RX11) (T := TX11) (N := 79) hx hb hts inB_11 tyX11 tyX11_ok nmX11 hown hE.1 hP hD hS 0 rfl rfl 55 (Nat.le_of_ble_eq_true rfl) (hts _ k_1375) (fun _ h9 => h9) rfl (tyX11_ok 55 (Nat.le_of_ble_eq_true rfl)) rfl rfl (Nat.le_of_ble_eq_true rfl) dX11_readLine_134 (fun H locs hP hD hS => ?_)
      have hP : va_P (dC, dI) vwCl (YW cy y0 r (upd v 31 1) f w g) H := hP
      have hD : va_D A (YW cy y0 r (upd v 31 1) f w g) := hD
      refine lv_aload_n hx hb dX11_readLine_137 rfl (lv_at hl 0 rfl) ?_
      refine lv_aload_n hx hb dX11_readLine_138 rfl (lv_at hl 0 rfl) ?_
      refine lv_ldc2 (v := 1651469428) hx hb hown (hts _ k_1629) dX11_readLine_139 ?_
      refine lv_sipush (v := 999) hx hb dX11_readLine_142 rfl ?_
      refine cbVi (n := 2) (rest := [.ref y0]) hx hb hml hown hts hE hP hD hS hA (sY_X11_told_1 NF l dC dI cy y0 r 1651469428 999 (upd v 31 1) f w g ⟨(Yu_31 (x := 1) hIv.1 (rlo _) (rhi _)), hIv.2⟩ hCf hRf ) k_1645 k_1647 k_51 k_114 k_1648 hd_yX11_told ⟨Nat.le_of_ble_eq_true rfl, Nat.le_of_ble_eq_true rfl⟩ 0 11 rfl rfl (rfl) hl.1 rfl (Nat.le_of_ble_eq_true rfl) dX11_readLine_145 (fun r253 u H locs hw hP hD hS => ?_)
      obtain ⟨hG254, hw⟩ := hw
      obtain ⟨v255, f256, w257, g258⟩ := u
      obtain ⟨kV_v255, kF_f256, hIv255, hCf256, hRf256, hk0_v255, hk4_v255, hk8_v255, hk9_v255, hk10_v255, hk13_v255, hk14_v255, hk15_v255, hk17_v255, hk18_v255, hk24_v255, hk25_v255, hk35_v255, hk36_v255, hk38_v255, hk39_v255, pv259, pv260, kq261, kq262, kq263⟩ := hw
      have hM_v255 : KV [1, 2, 3, 5, 6, 7, 8, 10, 11, 13, 14, 15, 17, 18, 19, 20, 21, 22, 23, 30, 31, 32, 33, 34] v255 v := KV.tr kV_v255 (KV.up (j := 31) (x := 1) hM_v (by decide +kernel)) (by decide +kernel)
      have hA_f256 : KF [2, 3, 6, 9, 10, 11, 12, 13, 14, 15] f256 f := KF.tr kF_f256 hA_f rfl
      have hP : va_P (dC, dI) vwCl (YW cy y0 r v255 f256 w257 g258) H := hP
      have hD : va_D A (YW cy y0 r v255 f256 w257 g258) := hD
      have b3_v255 : 0 ≤ (v255 3).toInt ∧ (v255 3).toInt ≤ 1600 := Yb_3 hIv255.1
      have pv259 : (v 3).toInt ≤ (v255 3).toInt := pv259
      have pv260 : (v255 5).toInt = (v 5).toInt ∨ (v 3).toInt < (v255 3).toInt ∨ ¬ (v255 5).toInt = 59 := pv260
      have hs2_f256 : f256 2 = (f 2) := kq261
      have hs3_f256 : f256 3 = (f 3) := kq262
      have hUv255 : (v255 35).toInt + (v255 36).toInt ≤ 40 := hIv255.2
      have hq0_v255 : v255 0 = (v 0) := hk0_v255
      have zq0_v255 := congrArg Int32.toInt hq0_v255
      have hq8_v255 : v255 8 = (v 8) := hk8_v255
      have zq8_v255 := congrArg Int32.toInt hq8_v255
      have hq9_v255 : v255 9 = (v 9) := hk9_v255
      have zq9_v255 := congrArg Int32.toInt hq9_v255
      have hq10_v255 : v255 10 = (v 10) := hk10_v255
      have zq10_v255 := congrArg Int32.toInt hq10_v255
      have hq13_v255 : v255 13 = (v 13) := hk13_v255
      have zq13_v255 := congrArg Int32.toInt hq13_v255
      have hq14_v255 : v255 14 = (v 14) := hk14_v255
      have zq14_v255 := congrArg Int32.toInt hq14_v255
      have hq15_v255 : v255 15 = (v 15) := hk15_v255
      have zq15_v255 := congrArg Int32.toInt hq15_v255
      have hq17_v255 : v255 17 = (v 17) := hk17_v255
      have zq17_v255 := congrArg Int32.toInt hq17_v255
      have hq18_v255 : v255 18 = (v 18) := hk18_v255
      have zq18_v255 := congrArg Int32.toInt hq18_v255
      have hGR : GR (v 3).toInt (v 5).toInt (v255 3).toInt (v255 5).toInt := GR.tr hGR (show GR (v 3).toInt (v 5).toInt (v255 3).toInt (v255 5).toInt from ⟨pv259, pv260⟩) (by first | with_reducible rfl | with_reducible assumption | rfl | omega) (by first | with_reducible rfl | with_reducible assumption | rfl | omega)
      clear pv260
      refine va_put (D := (dC, dI)) (ci := 11) (v := .int r253) (ty := tyX11 44) (C := RX11) (T := TX11) (N := 79) hx hb hts inB_11 tyX11 tyX11_ok nmX11 hown hE.1 hP hD hS 0 rfl rfl 44 (Nat.le_of_ble_eq_true rfl) (hts _ k_1364) (fun _ h9 => h9) rfl (tyX11_ok 44 (Nat.le_of_ble_eq_true rfl)) rfl rfl (Nat.le_of_ble_eq_true rfl) dX11_readLine_148 (fun H locs hP hD hS => ?_)
      have hP : va_P (dC, dI) vwCl (YW cy y0 r (upd v255 20 r253) f256 w257 g258) H := hP
      have hD : va_D A (YW cy y0 r (upd v255 20 r253) f256 w257 g258) := hD
      refine lv_goto (tgt := 274) hx hb dX11_readLine_151 rfl ?_
      refine lv_aload_n hx hb dX11_readLine_274 rfl (lv_at hl 0 rfl) ?_
      refine va_get (D := (dC, dI)) (ci := 11) (v := .int (v255 1)) (C := RX11) (T := TX11) (N := 79) hx hb hts inB_11 hown hE.1 hP 0 rfl rfl 2 (Nat.le_of_ble_eq_true rfl) (hts _ k_1322) (fun _ h9 => h9) rfl dX11_readLine_275 ?_
      have b1_v255 : 0 ≤ (v255 1).toInt ∧ (v255 1).toInt ≤ 4 := Yb_1 hIv255.1
      refine lv_if_ne (tgt := 295) hx hb dX11_readLine_278 rfl (fun c264 => ?_) (fun c264 => ?_)
      · skip
        have zc264 : ¬ ((v255 1).toInt = 0) := zEn rfl tc_0 c264
        refine lv_aload_n hx hb dX11_readLine_295 rfl (lv_at hl 0 rfl) ?_
        refine va_get (D := (dC, dI)) (ci := 11) (v := .int (v255 1)) (C := RX11) (T := TX11) (N := 79) hx hb hts inB_11 hown hE.1 hP 0 rfl rfl 2 (Nat.le_of_ble_eq_true rfl) (hts _ k_1322) (fun _ h9 => h9) rfl dX11_readLine_296 ?_
        refine lv_if_ne (tgt := 306) hx hb dX11_readLine_299 rfl (fun c265 => ?_) (fun c265 => ?_)
        · skip
          have zc265 : ¬ ((v255 1).toInt = 0) := zEn rfl tc_0 c265
          exact ret ((upd v255 20 r253), f256, w257, g258) _ _ _ _ _ _ ⟨(hT4.symm.trans (gsY_X11_readLine_1_q31 hG250 c252 hG254 c264 c265)), (KV.up (j := 20) (x := r253) hM_v255 (by decide +kernel)), hA_f256, ⟨(Yu_20 (x := r253) hIv255.1 (rlo _) (rhi _)), hIv255.2⟩, hCf256, hRf256, hk0_v255, hk4_v255, hk9_v255, hk24_v255, hk25_v255, hk35_v255, hk36_v255, hk38_v255, hk39_v255, (by show GA (v255 1).toInt (v 3).toInt (v255 3).toInt; exact GA.ab hGR (by omega) (by omega)), (by show IM0 (v255 1).toInt (IMn (v255 15).toInt (progOK (f256 2) (f256 3) ((v255 8).toInt).toNat)); rw [hs2_f256, hs3_f256]; intro hz8 hz9; exact prog_n (hPR (by omega)) (by omega))⟩ hP hD hS dX11_readLine_306 (Nat.le_refl _) (Nat.le_refl _)
        · skip
          have zc265 : (v255 1).toInt = 0 := zEp rfl tc_0 c265
          have hgrew := GR.grew hGR (by omega) (by omega)
          refine lv_aload_n hx hb dX11_readLine_302 rfl (lv_at hl 0 rfl) ?_
          refine cbVv (n := 0) (rest := []) hx hb hml hown hts hE hP hD hS hA (sY_X11_token_1 NF l dC dI cy y0 r  (upd v255 20 r253) f256 w257 g258 ⟨(Yu_20 (x := r253) hIv255.1 (rlo _) (rhi _)), hIv255.2⟩ hCf256 hRf256 ) k_1579 k_1581 k_42 k_114 k_1582 hd_yX11_token ⟨Nat.le_of_ble_eq_true rfl, Nat.le_of_ble_eq_true rfl⟩ 0 11 rfl rfl (rfl) hl.1 rfl (Nat.le_of_ble_eq_true rfl) dX11_readLine_303 (fun u H locs hw hP hD hS => ?_)
          obtain ⟨hG266, hw⟩ := hw
          obtain ⟨v267, f268, w269, g270⟩ := u
          obtain ⟨kV_v267, kF_f268, hIv267, hCf268, hRf268, hk0_v267, hk1_v267, hk2_v267, hk4_v267, hk8_v267, hk9_v267, hk10_v267, hk13_v267, hk14_v267, hk15_v267, hk17_v267, hk18_v267, hk24_v267, hk25_v267, hk35_v267, hk36_v267, hk38_v267, hk39_v267, pv271, pv272, kq273, kq274, kq275⟩ := hw
          have hM_v267 : KV [1, 2, 3, 5, 6, 7, 8, 10, 11, 13, 14, 15, 17, 18, 19, 20, 21, 22, 23, 30, 31, 32, 33, 34] v267 v := KV.tr kV_v267 (KV.up (j := 20) (x := r253) hM_v255 (by decide +kernel)) (by decide +kernel)
          have hA_f268 : KF [2, 3, 6, 9, 10, 11, 12, 13, 14, 15] f268 f := KF.tr kF_f268 hA_f256 rfl
          have hP : va_P (dC, dI) vwCl (YW cy y0 r v267 f268 w269 g270) H := hP
          have hD : va_D A (YW cy y0 r v267 f268 w269 g270) := hD
          have b3_v267 : 0 ≤ (v267 3).toInt ∧ (v267 3).toInt ≤ 1600 := Yb_3 hIv267.1
          have pv271 : (v255 3).toInt ≤ (v267 3).toInt := pv271
          have pv272 : (v267 5).toInt = (v255 5).toInt ∨ (v255 3).toInt < (v267 3).toInt ∨ ¬ (v267 5).toInt = 59 := pv272
          have hs2_f268 : f268 2 = (f 2) := kq273.trans hs2_f256
          have hs3_f268 : f268 3 = (f 3) := kq274.trans hs3_f256
          have hUv267 : (v267 35).toInt + (v267 36).toInt ≤ 40 := hIv267.2
          have hq0_v267 : v267 0 = (v 0) := hk0_v267.trans hq0_v255
          have zq0_v267 := congrArg Int32.toInt hq0_v267
          try clear zq0_v255
          have hq1_v267 : v267 1 = (v255 1) := hk1_v267
          have zq1_v267 := congrArg Int32.toInt hq1_v267
          have hq8_v267 : v267 8 = (v 8) := hk8_v267.trans hq8_v255
          have zq8_v267 := congrArg Int32.toInt hq8_v267
          try clear zq8_v255
          have hq9_v267 : v267 9 = (v 9) := hk9_v267.trans hq9_v255
          have zq9_v267 := congrArg Int32.toInt hq9_v267
          try clear zq9_v255
          have hq10_v267 : v267 10 = (v 10) := hk10_v267.trans hq10_v255
          have zq10_v267 := congrArg Int32.toInt hq10_v267
          try clear zq10_v255
          have hq13_v267 : v267 13 = (v 13) := hk13_v267.trans hq13_v255
          have zq13_v267 := congrArg Int32.toInt hq13_v267
          try clear zq13_v255
          have hq14_v267 : v267 14 = (v 14) := hk14_v267.trans hq14_v255
          have zq14_v267 := congrArg Int32.toInt hq14_v267
          try clear zq14_v255
          have hq15_v267 : v267 15 = (v 15) := hk15_v267.trans hq15_v255
          have zq15_v267 := congrArg Int32.toInt hq15_v267
          try clear zq15_v255
          have hq17_v267 : v267 17 = (v 17) := hk17_v267.trans hq17_v255
          have zq17_v267 := congrArg Int32.toInt hq17_v267
          try clear zq17_v255
          have hq18_v267 : v267 18 = (v 18) := hk18_v267.trans hq18_v255
          have zq18_v267 := congrArg Int32.toInt hq18_v267
          try clear zq18_v255
          have hGR : GR (v 3).toInt (v 5).toInt (v267 3).toInt (v267 5).toInt := GR.tr hGR (show GR (v255 3).toInt (v255 5).toInt (v267 3).toInt (v267 5).toInt from ⟨pv271, pv272⟩) (by first | with_reducible rfl | with_reducible assumption | rfl | omega) (by first | with_reducible rfl | with_reducible assumption | rfl | omega)
          clear pv272
          exact ret (v267, f268, w269, g270) _ _ _ _ _ _ ⟨(hT4.symm.trans (gsY_X11_readLine_1_q32 hG250 c252 hG254 c264 c265 hG266)), hM_v267, hA_f268, hIv267, hCf268, hRf268, (hk0_v267.trans hk0_v255), (hk4_v267.trans hk4_v255), (hk9_v267.trans hk9_v255), (hk24_v267.trans hk24_v255), (hk25_v267.trans hk25_v255), (hk35_v267.trans hk35_v255), (hk36_v267.trans hk36_v255), (hk38_v267.trans hk38_v255), (hk39_v267.trans hk39_v255), (by show GA (v267 1).toInt (v 3).toInt (v267 3).toInt; exact GA.mk hgrew hGR (by omega)), (by show IM0 (v267 1).toInt (IMn (v267 15).toInt (progOK (f268 2) (f268 3) ((v267 8).toInt).toNat)); rw [hs2_f268, hs3_f268]; intro hz8 hz9; exact prog_n (hPR (by omega)) (by omega))⟩ hP hD hS dX11_readLine_306 (Nat.le_refl _) (Nat.le_refl _)
      · skip
        have zc264 : (v255 1).toInt = 0 := zEp rfl tc_0 c264
        refine lv_aload_n hx hb dX11_readLine_281 rfl (lv_at hl 0 rfl) ?_
        refine va_get (D := (dC, dI)) (ci := 11) (v := .int (v255 5)) (C := RX11) (T := TX11) (N := 79) hx hb hts inB_11 hown hE.1 hP 0 rfl rfl 6 (Nat.le_of_ble_eq_true rfl) (hts _ k_1326) (fun _ h9 => h9) rfl dX11_readLine_282 ?_
        refine lv_bipush (v := 59) hx hb dX11_readLine_285 rfl ?_
        refine lv_icmp_eq (tgt := 295) hx hb dX11_readLine_287 rfl (fun c276 => ?_) (fun c276 => ?_)
        · skip
          have zc276 : (v255 5).toInt = 59 := zEp rfl tc_59 c276
          refine lv_aload_n hx hb dX11_readLine_295 rfl (lv_at hl 0 rfl) ?_
          refine va_get (D := (dC, dI)) (ci := 11) (v := .int (v255 1)) (C := RX11) (T := TX11) (N := 79) hx hb hts inB_11 hown hE.1 hP 0 rfl rfl 2 (Nat.le_of_ble_eq_true rfl) (hts _ k_1322) (fun _ h9 => h9) rfl dX11_readLine_296 ?_
          refine lv_if_ne (tgt := 306) hx hb dX11_readLine_299 rfl (fun c277 => ?_) (fun c277 => ?_)
          · skip
            have zc277 : ¬ ((v255 1).toInt = 0) := zEn rfl tc_0 c277
            exact ret ((upd v255 20 r253), f256, w257, g258) _ _ _ _ _ _ ⟨(hT4.symm.trans (gsY_X11_readLine_1_q33 hG250 c252 hG254 c264 c276 c277)), (KV.up (j := 20) (x := r253) hM_v255 (by decide +kernel)), hA_f256, ⟨(Yu_20 (x := r253) hIv255.1 (rlo _) (rhi _)), hIv255.2⟩, hCf256, hRf256, hk0_v255, hk4_v255, hk9_v255, hk24_v255, hk25_v255, hk35_v255, hk36_v255, hk38_v255, hk39_v255, (by show GA (v255 1).toInt (v 3).toInt (v255 3).toInt; exact GA.ab hGR (by omega) (by omega)), (by show IM0 (v255 1).toInt (IMn (v255 15).toInt (progOK (f256 2) (f256 3) ((v255 8).toInt).toNat)); rw [hs2_f256, hs3_f256]; intro hz8 hz9; exact prog_n (hPR (by omega)) (by omega))⟩ hP hD hS dX11_readLine_306 (Nat.le_refl _) (Nat.le_refl _)
          · skip
            have zc277 : (v255 1).toInt = 0 := zEp rfl tc_0 c277
            have hgrew := GR.grew hGR (by omega) (by omega)
            refine lv_aload_n hx hb dX11_readLine_302 rfl (lv_at hl 0 rfl) ?_
            refine cbVv (n := 0) (rest := []) hx hb hml hown hts hE hP hD hS hA (sY_X11_token_1 NF l dC dI cy y0 r  (upd v255 20 r253) f256 w257 g258 ⟨(Yu_20 (x := r253) hIv255.1 (rlo _) (rhi _)), hIv255.2⟩ hCf256 hRf256 ) k_1579 k_1581 k_42 k_114 k_1582 hd_yX11_token ⟨Nat.le_of_ble_eq_true rfl, Nat.le_of_ble_eq_true rfl⟩ 0 11 rfl rfl (rfl) hl.1 rfl (Nat.le_of_ble_eq_true rfl) dX11_readLine_303 (fun u H locs hw hP hD hS => ?_)
            obtain ⟨hG278, hw⟩ := hw
            obtain ⟨v279, f280, w281, g282⟩ := u
            obtain ⟨kV_v279, kF_f280, hIv279, hCf280, hRf280, hk0_v279, hk1_v279, hk2_v279, hk4_v279, hk8_v279, hk9_v279, hk10_v279, hk13_v279, hk14_v279, hk15_v279, hk17_v279, hk18_v279, hk24_v279, hk25_v279, hk35_v279, hk36_v279, hk38_v279, hk39_v279, pv283, pv284, kq285, kq286, kq287⟩ := hw
            have hM_v279 : KV [1, 2, 3, 5, 6, 7, 8, 10, 11, 13, 14, 15, 17, 18, 19, 20, 21, 22, 23, 30, 31, 32, 33, 34] v279 v := KV.tr kV_v279 (KV.up (j := 20) (x := r253) hM_v255 (by decide +kernel)) (by decide +kernel)
            have hA_f280 : KF [2, 3, 6, 9, 10, 11, 12, 13, 14, 15] f280 f := KF.tr kF_f280 hA_f256 rfl
            have hP : va_P (dC, dI) vwCl (YW cy y0 r v279 f280 w281 g282) H := hP
            have hD : va_D A (YW cy y0 r v279 f280 w281 g282) := hD
            have b3_v279 : 0 ≤ (v279 3).toInt ∧ (v279 3).toInt ≤ 1600 := Yb_3 hIv279.1
            have pv283 : (v255 3).toInt ≤ (v279 3).toInt := pv283
            have pv284 : (v279 5).toInt = (v255 5).toInt ∨ (v255 3).toInt < (v279 3).toInt ∨ ¬ (v279 5).toInt = 59 := pv284
            have hs2_f280 : f280 2 = (f 2) := kq285.trans hs2_f256
            have hs3_f280 : f280 3 = (f 3) := kq286.trans hs3_f256
            have hUv279 : (v279 35).toInt + (v279 36).toInt ≤ 40 := hIv279.2
            have hq0_v279 : v279 0 = (v 0) := hk0_v279.trans hq0_v255
            have zq0_v279 := congrArg Int32.toInt hq0_v279
            try clear zq0_v255
            have hq1_v279 : v279 1 = (v255 1) := hk1_v279
            have zq1_v279 := congrArg Int32.toInt hq1_v279
            have hq8_v279 : v279 8 = (v 8) := hk8_v279.trans hq8_v255
            have zq8_v279 := congrArg Int32.toInt hq8_v279
            try clear zq8_v255
            have hq9_v279 : v279 9 = (v 9) := hk9_v279.trans hq9_v255
            have zq9_v279 := congrArg Int32.toInt hq9_v279
            try clear zq9_v255
            have hq10_v279 : v279 10 = (v 10) := hk10_v279.trans hq10_v255
            have zq10_v279 := congrArg Int32.toInt hq10_v279
            try clear zq10_v255
            have hq13_v279 : v279 13 = (v 13) := hk13_v279.trans hq13_v255
            have zq13_v279 := congrArg Int32.toInt hq13_v279
            try clear zq13_v255
            have hq14_v279 : v279 14 = (v 14) := hk14_v279.trans hq14_v255
            have zq14_v279 := congrArg Int32.toInt hq14_v279
            try clear zq14_v255
            have hq15_v279 : v279 15 = (v 15) := hk15_v279.trans hq15_v255
            have zq15_v279 := congrArg Int32.toInt hq15_v279
            try clear zq15_v255
            have hq17_v279 : v279 17 = (v 17) := hk17_v279.trans hq17_v255
            have zq17_v279 := congrArg Int32.toInt hq17_v279
            try clear zq17_v255
            have hq18_v279 : v279 18 = (v 18) := hk18_v279.trans hq18_v255
            have zq18_v279 := congrArg Int32.toInt hq18_v279
            try clear zq18_v255
            have hGR : GR (v 3).toInt (v 5).toInt (v279 3).toInt (v279 5).toInt := GR.tr hGR (show GR (v255 3).toInt (v255 5).toInt (v279 3).toInt (v279 5).toInt from ⟨pv283, pv284⟩) (by first | with_reducible rfl | with_reducible assumption | rfl | omega) (by first | with_reducible rfl | with_reducible assumption | rfl | omega)
            clear pv284
            exact ret (v279, f280, w281, g282) _ _ _ _ _ _ ⟨(hT4.symm.trans (gsY_X11_readLine_1_q34 hG250 c252 hG254 c264 c276 c277 hG278)), hM_v279, hA_f280, hIv279, hCf280, hRf280, (hk0_v279.trans hk0_v255), (hk4_v279.trans hk4_v255), (hk9_v279.trans hk9_v255), (hk24_v279.trans hk24_v255), (hk25_v279.trans hk25_v255), (hk35_v279.trans hk35_v255), (hk36_v279.trans hk36_v255), (hk38_v279.trans hk38_v255), (hk39_v279.trans hk39_v255), (by show GA (v279 1).toInt (v 3).toInt (v279 3).toInt; exact GA.mk hgrew hGR (by omega)), (by show IM0 (v279 1).toInt (IMn (v279 15).toInt (progOK (f280 2) (f280 3) ((v279 8).toInt).toNat)); rw [hs2_f280, hs3_f280]; intro hz8 hz9; exact prog_n (hPR (by omega)) (by omega))⟩ hP hD hS dX11_readLine_306 (Nat.le_refl _) (Nat.le_refl _)
        · skip
          have zc276 : ¬ ((v255 5).toInt = 59) := zEn rfl tc_59 c276
          refine lv_aload_n hx hb dX11_readLine_290 rfl (lv_at hl 0 rfl) ?_
          refine lv_iconst (v := 2) hx hb dX11_readLine_291 rfl ?_
          refine cbVv (n := 1) (rest := []) hx hb hml hown hts hE hP hD hS hA (sY_X11_wrong_1 NF l dC dI cy y0 r 2 (upd v255 20 r253) f256 w257 g258 ⟨(Yu_20 (x := r253) hIv255.1 (rlo _) (rhi _)), hIv255.2⟩ hCf256 hRf256 ⟨by decide, by decide⟩) k_1641 k_1643 k_50 k_114 k_1644 hd_yX11_wrong ⟨Nat.le_of_ble_eq_true rfl, Nat.le_of_ble_eq_true rfl⟩ 0 11 rfl rfl (rfl) hl.1 rfl (Nat.le_of_ble_eq_true rfl) dX11_readLine_292 (fun u H locs hw hP hD hS => ?_)
          obtain ⟨hG288, hw⟩ := hw
          obtain ⟨v289, f290, w291, g292⟩ := u
          obtain ⟨kV_v289, kF_f290, hIv289, hCf290, hRf290, hk0_v289, hk3_v289, hk4_v289, hk5_v289, hk8_v289, hk9_v289, hk10_v289, hk13_v289, hk14_v289, hk15_v289, hk17_v289, hk18_v289, hk24_v289, hk25_v289, hk35_v289, hk36_v289, hk38_v289, hk39_v289, pv293, pv294, pv295, kq296, kq297, kq298⟩ := hw
          have hM_v289 : KV [1, 2, 3, 5, 6, 7, 8, 10, 11, 13, 14, 15, 17, 18, 19, 20, 21, 22, 23, 30, 31, 32, 33, 34] v289 v := KV.tr kV_v289 (KV.up (j := 20) (x := r253) hM_v255 (by decide +kernel)) (by decide +kernel)
          have hA_f290 : KF [2, 3, 6, 9, 10, 11, 12, 13, 14, 15] f290 f := KF.tr kF_f290 hA_f256 rfl
          have hP : va_P (dC, dI) vwCl (YW cy y0 r v289 f290 w291 g292) H := hP
          have hD : va_D A (YW cy y0 r v289 f290 w291 g292) := hD
          have b3_v289 : 0 ≤ (v289 3).toInt ∧ (v289 3).toInt ≤ 1600 := Yb_3 hIv289.1
          have b1_v289 : 0 ≤ (v289 1).toInt ∧ (v289 1).toInt ≤ 4 := Yb_1 hIv289.1
          have pv293 : (v255 3).toInt ≤ (v289 3).toInt := pv293
          have pv294 : (v289 5).toInt = (v255 5).toInt ∨ (v255 3).toInt < (v289 3).toInt ∨ ¬ (v289 5).toInt = 59 := pv294
          have pv295 : 0 < (v289 1).toInt := pv295
          have hs2_f290 : f290 2 = (f 2) := kq296.trans hs2_f256
          have hs3_f290 : f290 3 = (f 3) := kq297.trans hs3_f256
          have hUv289 : (v289 35).toInt + (v289 36).toInt ≤ 40 := hIv289.2
          have hq0_v289 : v289 0 = (v 0) := hk0_v289.trans hq0_v255
          have zq0_v289 := congrArg Int32.toInt hq0_v289
          try clear zq0_v255
          have hq3_v289 : v289 3 = (v255 3) := hk3_v289
          have zq3_v289 := congrArg Int32.toInt hq3_v289
          have hq5_v289 : v289 5 = (v255 5) := hk5_v289
          have zq5_v289 := congrArg Int32.toInt hq5_v289
          have hq8_v289 : v289 8 = (v 8) := hk8_v289.trans hq8_v255
          have zq8_v289 := congrArg Int32.toInt hq8_v289
          try clear zq8_v255
          have hq9_v289 : v289 9 = (v 9) := hk9_v289.trans hq9_v255
          have zq9_v289 := congrArg Int32.toInt hq9_v289
          try clear zq9_v255
          have hq10_v289 : v289 10 = (v 10) := hk10_v289.trans hq10_v255
          have zq10_v289 := congrArg Int32.toInt hq10_v289
          try clear zq10_v255
          have hq13_v289 : v289 13 = (v 13) := hk13_v289.trans hq13_v255
          have zq13_v289 := congrArg Int32.toInt hq13_v289
          try clear zq13_v255
          have hq14_v289 : v289 14 = (v 14) := hk14_v289.trans hq14_v255
          have zq14_v289 := congrArg Int32.toInt hq14_v289
          try clear zq14_v255
          have hq15_v289 : v289 15 = (v 15) := hk15_v289.trans hq15_v255
          have zq15_v289 := congrArg Int32.toInt hq15_v289
          try clear zq15_v255
          have hq17_v289 : v289 17 = (v 17) := hk17_v289.trans hq17_v255
          have zq17_v289 := congrArg Int32.toInt hq17_v289
          try clear zq17_v255
          have hq18_v289 : v289 18 = (v 18) := hk18_v289.trans hq18_v255
          have zq18_v289 := congrArg Int32.toInt hq18_v289
          try clear zq18_v255
          have hGR : GR (v 3).toInt (v 5).toInt (v289 3).toInt (v289 5).toInt := GR.tr hGR (show GR (v255 3).toInt (v255 5).toInt (v289 3).toInt (v289 5).toInt from ⟨pv293, pv294⟩) (by first | with_reducible rfl | with_reducible assumption | rfl | omega) (by first | with_reducible rfl | with_reducible assumption | rfl | omega)
          clear pv294
          refine lv_aload_n hx hb dX11_readLine_295 rfl (lv_at hl 0 rfl) ?_
          refine va_get (D := (dC, dI)) (ci := 11) (v := .int (v289 1)) (C := RX11) (T := TX11) (N := 79) hx hb hts inB_11 hown hE.1 hP 0 rfl rfl 2 (Nat.le_of_ble_eq_true rfl) (hts _ k_1322) (fun _ h9 => h9) rfl dX11_readLine_296 ?_
          have b1_v289 : 0 ≤ (v289 1).toInt ∧ (v289 1).toInt ≤ 4 := Yb_1 hIv289.1
          refine lv_if_ne (tgt := 306) hx hb dX11_readLine_299 rfl (fun c299 => ?_) (fun c299 => ?_)
          · skip
            have zc299 : ¬ ((v289 1).toInt = 0) := zEn rfl tc_0 c299
            exact ret (v289, f290, w291, g292) _ _ _ _ _ _ ⟨(hT4.symm.trans (gsY_X11_readLine_1_q35 hG250 c252 hG254 c264 c276 hG288 c299)), hM_v289, hA_f290, hIv289, hCf290, hRf290, (hk0_v289.trans hk0_v255), (hk4_v289.trans hk4_v255), (hk9_v289.trans hk9_v255), (hk24_v289.trans hk24_v255), (hk25_v289.trans hk25_v255), (hk35_v289.trans hk35_v255), (hk36_v289.trans hk36_v255), (hk38_v289.trans hk38_v255), (hk39_v289.trans hk39_v255), (by show GA (v289 1).toInt (v 3).toInt (v289 3).toInt; exact GA.ab hGR (by omega) (by omega)), (by show IM0 (v289 1).toInt (IMn (v289 15).toInt (progOK (f290 2) (f290 3) ((v289 8).toInt).toNat)); rw [hs2_f290, hs3_f290]; intro hz8 hz9; exact prog_n (hPR (by omega)) (by omega))⟩ hP hD hS dX11_readLine_306 (Nat.le_refl _) (Nat.le_refl _)
          · skip
            have zc299 : (v289 1).toInt = 0 := zEp rfl tc_0 c299
            refine lv_aload_n hx hb dX11_readLine_302 rfl (lv_at hl 0 rfl) ?_
            refine cbVv (n := 0) (rest := []) hx hb hml hown hts hE hP hD hS hA (sY_X11_token_1 NF l dC dI cy y0 r  v289 f290 w291 g292 hIv289 hCf290 hRf290 ) k_1579 k_1581 k_42 k_114 k_1582 hd_yX11_token ⟨Nat.le_of_ble_eq_true rfl, Nat.le_of_ble_eq_true rfl⟩ 0 11 rfl rfl (rfl) hl.1 rfl (Nat.le_of_ble_eq_true rfl) dX11_readLine_303 (fun u H locs hw hP hD hS => ?_)
            obtain ⟨hG300, hw⟩ := hw
            obtain ⟨v301, f302, w303, g304⟩ := u
            obtain ⟨kV_v301, kF_f302, hIv301, hCf302, hRf302, hk0_v301, hk1_v301, hk2_v301, hk4_v301, hk8_v301, hk9_v301, hk10_v301, hk13_v301, hk14_v301, hk15_v301, hk17_v301, hk18_v301, hk24_v301, hk25_v301, hk35_v301, hk36_v301, hk38_v301, hk39_v301, pv305, pv306, kq307, kq308, kq309⟩ := hw
            have hM_v301 : KV [1, 2, 3, 5, 6, 7, 8, 10, 11, 13, 14, 15, 17, 18, 19, 20, 21, 22, 23, 30, 31, 32, 33, 34] v301 v := KV.tr kV_v301 hM_v289 (by decide +kernel)
            have hA_f302 : KF [2, 3, 6, 9, 10, 11, 12, 13, 14, 15] f302 f := KF.tr kF_f302 hA_f290 rfl
            have hP : va_P (dC, dI) vwCl (YW cy y0 r v301 f302 w303 g304) H := hP
            have hD : va_D A (YW cy y0 r v301 f302 w303 g304) := hD
            have b3_v301 : 0 ≤ (v301 3).toInt ∧ (v301 3).toInt ≤ 1600 := Yb_3 hIv301.1
            have pv305 : (v289 3).toInt ≤ (v301 3).toInt := pv305
            have pv306 : (v301 5).toInt = (v289 5).toInt ∨ (v289 3).toInt < (v301 3).toInt ∨ ¬ (v301 5).toInt = 59 := pv306
            have hs2_f302 : f302 2 = (f 2) := kq307.trans hs2_f290
            have hs3_f302 : f302 3 = (f 3) := kq308.trans hs3_f290
            have hUv301 : (v301 35).toInt + (v301 36).toInt ≤ 40 := hIv301.2
            have hq0_v301 : v301 0 = (v 0) := hk0_v301.trans hq0_v289
            have zq0_v301 := congrArg Int32.toInt hq0_v301
            try clear zq0_v289
            have hq1_v301 : v301 1 = (v289 1) := hk1_v301
            have zq1_v301 := congrArg Int32.toInt hq1_v301
            have hq8_v301 : v301 8 = (v 8) := hk8_v301.trans hq8_v289
            have zq8_v301 := congrArg Int32.toInt hq8_v301
            try clear zq8_v289
            have hq9_v301 : v301 9 = (v 9) := hk9_v301.trans hq9_v289
            have zq9_v301 := congrArg Int32.toInt hq9_v301
            try clear zq9_v289
            have hq10_v301 : v301 10 = (v 10) := hk10_v301.trans hq10_v289
            have zq10_v301 := congrArg Int32.toInt hq10_v301
            try clear zq10_v289
            have hq13_v301 : v301 13 = (v 13) := hk13_v301.trans hq13_v289
            have zq13_v301 := congrArg Int32.toInt hq13_v301
            try clear zq13_v289
            have hq14_v301 : v301 14 = (v 14) := hk14_v301.trans hq14_v289
            have zq14_v301 := congrArg Int32.toInt hq14_v301
            try clear zq14_v289
            have hq15_v301 : v301 15 = (v 15) := hk15_v301.trans hq15_v289
            have zq15_v301 := congrArg Int32.toInt hq15_v301
            try clear zq15_v289
            have hq17_v301 : v301 17 = (v 17) := hk17_v301.trans hq17_v289
            have zq17_v301 := congrArg Int32.toInt hq17_v301
            try clear zq17_v289
            have hq18_v301 : v301 18 = (v 18) := hk18_v301.trans hq18_v289
            have zq18_v301 := congrArg Int32.toInt hq18_v301
            try clear zq18_v289
            have hGR : GR (v 3).toInt (v 5).toInt (v301 3).toInt (v301 5).toInt := GR.tr hGR (show GR (v289 3).toInt (v289 5).toInt (v301 3).toInt (v301 5).toInt from ⟨pv305, pv306⟩) (by first | with_reducible rfl | with_reducible assumption | rfl | omega) (by first | with_reducible rfl | with_reducible assumption | rfl | omega)
            clear pv306
            exact ret (v301, f302, w303, g304) _ _ _ _ _ _ ⟨(hT4.symm.trans (gsY_X11_readLine_1_q36 hG250 c252 hG254 c264 c276 hG288 c299 hG300)), hM_v301, hA_f302, hIv301, hCf302, hRf302, (hk0_v301.trans (hk0_v289.trans hk0_v255)), (hk4_v301.trans (hk4_v289.trans hk4_v255)), (hk9_v301.trans (hk9_v289.trans hk9_v255)), (hk24_v301.trans (hk24_v289.trans hk24_v255)), (hk25_v301.trans (hk25_v289.trans hk25_v255)), (hk35_v301.trans (hk35_v289.trans hk35_v255)), (hk36_v301.trans (hk36_v289.trans hk36_v255)), (hk38_v301.trans (hk38_v289.trans hk38_v255)), (hk39_v301.trans (hk39_v289.trans hk39_v255)), (by show GA (v301 1).toInt (v 3).toInt (v301 3).toInt; exact GA.ab hGR (by omega) (by omega)), (by show IM0 (v301 1).toInt (IMn (v301 15).toInt (progOK (f302 2) (f302 3) ((v301 8).toInt).toNat)); rw [hs2_f302, hs3_f302]; intro hz8 hz9; exact prog_n (hPR (by omega)) (by omega))⟩ hP hD hS dX11_readLine_306 (Nat.le_refl _) (Nat.le_refl _)
  · skip
    subst g251
    refine lv_if_eq (tgt := 154) hx hb dX11_readLine_122 rfl (fun _ => ?_) (fun c0 => absurd (by decide) c0)
    exact jp154 _ _ _ ((gsY_X11_readLine_1_q37 hG250).symm.trans hT4) hP hD hS hl
set_option maxHeartbeats 4000000 in
set_option maxRecDepth 100000 in
theorem sY_X11_readLine_1_jp76 (NF : Nat) (l : Launch) (dC : Nat → ClassId) (dI : Nat → Nat → Nat) (cy : Nat → ClassId) (y0 : Nat) (r : Nat → Nat)  (v : Nat → Int32) (f : Nat → Nat → Int32) (w : Int64) (g : Nat → Int64) (hIv : YI v) (hCf : YC f) (hRf : progOK (f 4) (f 5) (v 9).toInt.toNat)  (hf0 : (v 1).toInt = 0) (hg0 : IMn (v 15).toInt (progOK (f 2) (f 3) ((v 8).toInt).toNat)) {p : Program} {e : Env} {s : State} {m : MethodId} {below : List Frame} {meth : Method} {c : Code} {A : Nat → Prop} {Q : State → Prop} (hx : p.tables.exec = Jvm.exec) (hb : c.code = cX11_readLine) (hml : c.maxLocals = 1) (hts : ∀ w ∈ BIG, w.before ([.ref y0] : List Value).toArray s = true) (hown : s.vm.findClass RX11 = some m.cls) (hE : ENV (dC, dI) cy s) (hA : ∀ q, s.heap.size ≤ q → A q) (ret : ∀ (u : ((Nat → Int32) × (Nat → Nat → Int32) × (Int64) × (Nat → Int64))) (H : Heap) (locs : List Loc) (pc cells slots : Nat) (ls : Array Slot), (gsY_X11_readLine_1 NF v f w g = u ∧ KV [1, 2, 3, 5, 6, 7, 8, 10, 11, 13, 14, 15, 17, 18, 19, 20, 21, 22, 23, 30, 31, 32, 33, 34] u.1 v ∧ KF [2, 3, 6, 9, 10, 11, 12, 13, 14, 15] u.2.1 f ∧ YI u.1 ∧ YC u.2.1 ∧ progOK (u.2.1 4) (u.2.1 5) (u.1 9).toInt.toNat ∧ u.1 0 = v 0 ∧ u.1 4 = v 4 ∧ u.1 9 = v 9 ∧ u.1 24 = v 24 ∧ u.1 25 = v 25 ∧ u.1 35 = v 35 ∧ u.1 36 = v 36 ∧ u.1 38 = v 38 ∧ u.1 39 = v 39 ∧ (GA (u.1 1).toInt (v 3).toInt (u.1 3).toInt) ∧ (IM0 (u.1 1).toInt (IMn (u.1 15).toInt (progOK (u.2.1 2) (u.2.1 3) ((u.1 8).toInt).toNat)))) → va_P (dC, dI) vwCl (YW cy y0 r u.1 u.2.1 u.2.2.1 u.2.2.2) H → va_D A (YW cy y0 r u.1 u.2.1 u.2.2.1 u.2.2.2) → va_S A s.heap H locs → decode cX11_readLine pc = .ok (.return_, 1) → cells ≤ 0 → slots ≤ 0 → W p l e { frames := 7, cells := 0, slots := 0, locals := 192 } s m ([.ref y0] : List Value).toArray below meth c H locs cells slots Q (F0 m pc ls [])) (jp115 : ∀ (H : Heap) (locs : List Loc) (ls : Array Slot), gsY_X11_readLine_1_J4 NF v f w g = (gsY_X11_readLine_1 NF v f w g) → va_P (dC, dI) vwCl (YW cy y0 r v f w g) H → va_D A (YW cy y0 r v f w g) → va_S A s.heap H locs → lv_has ls 1 [(0, .ref y0)] → W p l e { frames := 7, cells := 0, slots := 0, locals := 192 } s m ([.ref y0] : List Value).toArray below meth c H locs 0 0 Q (F0 m 115 ls [])) : ∀ (H : Heap) (locs : List Loc) (ls : Array Slot), gsY_X11_readLine_1_J3 NF v f w g = (gsY_X11_readLine_1 NF v f w g) → va_P (dC, dI) vwCl (YW cy y0 r v f w g) H → va_D A (YW cy y0 r v f w g) → va_S A s.heap H locs → lv_has ls 1 [(0, .ref y0)] → W p l e { frames := 7, cells := 0, slots := 0, locals := 192 } s m ([.ref y0] : List Value).toArray below meth c H locs 0 0 Q (F0 m 76 ls []) := by
  have hUv : (v 35).toInt + (v 36).toInt ≤ 40 := hIv.2
  have hM_v : KV [1, 2, 3, 5, 6, 7, 8, 10, 11, 13, 14, 15, 17, 18, 19, 20, 21, 22, 23, 30, 31, 32, 33, 34] v v := fun _ _ => rfl
  have hA_f : KF [2, 3, 6, 9, 10, 11, 12, 13, 14, 15] f f := fun _ _ => rfl
  have hPR := hg0
  have b0_v : (0 : Int) ≤ (v 0).toInt ∧ (v 0).toInt ≤ 1600 := Yb_0 hIv.1
  have b1_v : (0 : Int) ≤ (v 1).toInt ∧ (v 1).toInt ≤ 4 := Yb_1 hIv.1
  have b8_v : (0 : Int) ≤ (v 8).toInt ∧ (v 8).toInt ≤ 320 := Yb_8 hIv.1
  have b10_v : (0 : Int) ≤ (v 10).toInt ∧ (v 10).toInt ≤ 160 := Yb_10 hIv.1
  have b13_v : (0 : Int) ≤ (v 13).toInt ∧ (v 13).toInt ≤ 31 := Yb_13 hIv.1
  have b14_v : (0 : Int) ≤ (v 14).toInt ∧ (v 14).toInt ≤ 8 := Yb_14 hIv.1
  have b15_v : (0 : Int) ≤ (v 15).toInt ∧ (v 15).toInt ≤ 1 := Yb_15 hIv.1
  have b17_v : (0 : Int) ≤ (v 17).toInt ∧ (v 17).toInt ≤ 6 := Yb_17 hIv.1
  have b18_v : (0 : Int) ≤ (v 18).toInt ∧ (v 18).toInt ≤ 6 := Yb_18 hIv.1
  have hGR : GR (v 3).toInt (v 5).toInt (v 3).toInt (v 5).toInt := GR.refl _ _
  intro H locs ls hT3 hP hD hS hl
  revert jp115
  intro jp115
  refine lv_aload_n hx hb dX11_readLine_76 rfl (lv_at hl 0 rfl) ?_
  refine lv_ldc2 (v := 1700885369) hx hb hown (hts _ k_1628) dX11_readLine_77 ?_
  refine cbVi (n := 1) (rest := []) hx hb hml hown hts hE hP hD hS hA (sY_X11_isWord_1 NF l dC dI cy y0 r 1700885369 v f w g hIv hCf hRf ) k_1601 k_1603 k_45 k_114 k_1604 hd_yX11_isWord ⟨Nat.le_of_ble_eq_true rfl, Nat.le_of_ble_eq_true rfl⟩ 0 11 rfl rfl (rfl) hl.1 rfl (Nat.le_of_ble_eq_true rfl) dX11_readLine_80 (fun r310 u H locs hw hP hD hS => ?_)
  obtain ⟨hG311, hw⟩ := hw
  rcases hw with ⟨g312, g312_0⟩ | ⟨g312⟩
  · skip
    subst g312
    refine lv_if_eq (tgt := 115) hx hb dX11_readLine_83 rfl (fun c0 => absurd c0 (by decide)) (fun _ => ?_)
    refine lv_aload_n hx hb dX11_readLine_86 rfl (lv_at hl 0 rfl) ?_
    refine va_get (D := (dC, dI)) (ci := 11) (v := .int (v 30)) (C := RX11) (T := TX11) (N := 79) hx hb hts inB_11 hown hE.1 hP 0 rfl rfl 54 (Nat.le_of_ble_eq_true rfl) (hts _ k_1374) (fun _ h9 => h9) rfl dX11_readLine_87 ?_
    refine lv_if_ne (tgt := 115) hx hb dX11_readLine_90 rfl (fun c313 => ?_) (fun c313 => ?_)
    · skip
      exact jp115 _ _ _ ((gsY_X11_readLine_1_q38 hG311 c313).symm.trans hT3) hP hD hS hl
    · skip
      have zc313 : (v 30).toInt = 0 := zEp rfl tc_0 c313
      refine lv_aload_n hx hb dX11_readLine_93 rfl (lv_at hl 0 rfl) ?_
      refine lv_iconst (v := 1) hx hb dX11_readLine_94 rfl ?_
      refine va_put (D := (dC, dI)) (ci := 11) (v := .int 1) (ty := tyX11 54) (C := RX11) (T := TX11) (N := 79) hx hb hts inB_11 tyX11 tyX11_ok nmX11 hown hE.1 hP hD hS 0 rfl rfl 54 (Nat.le_of_ble_eq_true rfl) (hts _ k_1374) (fun _ h9 => h9) rfl (tyX11_ok 54 (Nat.le_of_ble_eq_true rfl)) rfl rfl (Nat.le_of_ble_eq_true rfl) dX11_readLine_95 (fun H locs hP hD hS => ?_)
      have hP : va_P (dC, dI) vwCl (YW cy y0 r (upd v 30 1) f w g) H := hP
      have hD : va_D A (YW cy y0 r (upd v 30 1) f w g) := hD
      refine lv_aload_n hx hb dX11_readLine_98 rfl (lv_at hl 0 rfl) ?_
      refine lv_aload_n hx hb dX11_readLine_99 rfl (lv_at hl 0 rfl) ?_
      refine lv_ldc2 (v := 1700885369) hx hb hown (hts _ k_1628) dX11_readLine_100 ?_
      refine lv_sipush (v := 999) hx hb dX11_readLine_103 rfl ?_
      refine cbVi (n := 2) (rest := [.ref y0]) hx hb hml hown hts hE hP hD hS hA (sY_X11_told_1 NF l dC dI cy y0 r 1700885369 999 (upd v 30 1) f w g ⟨(Yu_30 (x := 1) hIv.1 (rlo _) (rhi _)), hIv.2⟩ hCf hRf ) k_1645 k_1647 k_51 k_114 k_1648 hd_yX11_told ⟨Nat.le_of_ble_eq_true rfl, Nat.le_of_ble_eq_true rfl⟩ 0 11 rfl rfl (rfl) hl.1 rfl (Nat.le_of_ble_eq_true rfl) dX11_readLine_106 (fun r314 u H locs hw hP hD hS => ?_)
      obtain ⟨hG315, hw⟩ := hw
      obtain ⟨v316, f317, w318, g319⟩ := u
      obtain ⟨kV_v316, kF_f317, hIv316, hCf317, hRf317, hk0_v316, hk4_v316, hk8_v316, hk9_v316, hk10_v316, hk13_v316, hk14_v316, hk15_v316, hk17_v316, hk18_v316, hk24_v316, hk25_v316, hk35_v316, hk36_v316, hk38_v316, hk39_v316, pv320, pv321, kq322, kq323, kq324⟩ := hw
      have hM_v316 : KV [1, 2, 3, 5, 6, 7, 8, 10, 11, 13, 14, 15, 17, 18, 19, 20, 21, 22, 23, 30, 31, 32, 33, 34] v316 v := KV.tr kV_v316 (KV.up (j := 30) (x := 1) hM_v (by decide +kernel)) (by decide +kernel)
      have hA_f317 : KF [2, 3, 6, 9, 10, 11, 12, 13, 14, 15] f317 f := KF.tr kF_f317 hA_f rfl
      have hP : va_P (dC, dI) vwCl (YW cy y0 r v316 f317 w318 g319) H := hP
      have hD : va_D A (YW cy y0 r v316 f317 w318 g319) := hD
      have b3_v316 : 0 ≤ (v316 3).toInt ∧ (v316 3).toInt ≤ 1600 := Yb_3 hIv316.1
      have pv320 : (v 3).toInt ≤ (v316 3).toInt := pv320
      have pv321 : (v316 5).toInt = (v 5).toInt ∨ (v 3).toInt < (v316 3).toInt ∨ ¬ (v316 5).toInt = 59 := pv321
      have hs2_f317 : f317 2 = (f 2) := kq322
      have hs3_f317 : f317 3 = (f 3) := kq323
      have hUv316 : (v316 35).toInt + (v316 36).toInt ≤ 40 := hIv316.2
      have hq0_v316 : v316 0 = (v 0) := hk0_v316
      have zq0_v316 := congrArg Int32.toInt hq0_v316
      have hq8_v316 : v316 8 = (v 8) := hk8_v316
      have zq8_v316 := congrArg Int32.toInt hq8_v316
      have hq9_v316 : v316 9 = (v 9) := hk9_v316
      have zq9_v316 := congrArg Int32.toInt hq9_v316
      have hq10_v316 : v316 10 = (v 10) := hk10_v316
      have zq10_v316 := congrArg Int32.toInt hq10_v316
      have hq13_v316 : v316 13 = (v 13) := hk13_v316
      have zq13_v316 := congrArg Int32.toInt hq13_v316
      have hq14_v316 : v316 14 = (v 14) := hk14_v316
      have zq14_v316 := congrArg Int32.toInt hq14_v316
      have hq15_v316 : v316 15 = (v 15) := hk15_v316
      have zq15_v316 := congrArg Int32.toInt hq15_v316
      have hq17_v316 : v316 17 = (v 17) := hk17_v316
      have zq17_v316 := congrArg Int32.toInt hq17_v316
      have hq18_v316 : v316 18 = (v 18) := hk18_v316
      have zq18_v316 := congrArg Int32.toInt hq18_v316
      have hGR : GR (v 3).toInt (v 5).toInt (v316 3).toInt (v316 5).toInt := GR.tr hGR (show GR (v 3).toInt (v 5).toInt (v316 3).toInt (v316 5).toInt from ⟨pv320, pv321⟩) (by first | with_reducible rfl | with_reducible assumption | rfl | omega) (by first | with_reducible rfl | with_reducible assumption | rfl | omega)
      clear pv321
      refine va_put (D := (dC, dI)) (ci := 11) (v := .int r314) (ty := tyX11 43) (C := RX11) (T := TX11) (N := 79) hx hb hts inB_11 tyX11 tyX11_ok nmX11 hown hE.1 hP hD hS 0 rfl rfl 43 (Nat.le_of_ble_eq_true rfl) (hts _ k_1363) (fun _ h9 => h9) rfl (tyX11_ok 43 (Nat.le_of_ble_eq_true rfl)) rfl rfl (Nat.le_of_ble_eq_true rfl) dX11_readLine_109 (fun H locs hP hD hS => ?_)
      have hP : va_P (dC, dI) vwCl (YW cy y0 r (upd v316 19 r314) f317 w318 g319) H := hP
      have hD : va_D A (YW cy y0 r (upd v316 19 r314) f317 w318 g319) := hD
      refine lv_goto (tgt := 274) hx hb dX11_readLine_112 rfl ?_
      refine lv_aload_n hx hb dX11_readLine_274 rfl (lv_at hl 0 rfl) ?_
      refine va_get (D := (dC, dI)) (ci := 11) (v := .int (v316 1)) (C := RX11) (T := TX11) (N := 79) hx hb hts inB_11 hown hE.1 hP 0 rfl rfl 2 (Nat.le_of_ble_eq_true rfl) (hts _ k_1322) (fun _ h9 => h9) rfl dX11_readLine_275 ?_
      have b1_v316 : 0 ≤ (v316 1).toInt ∧ (v316 1).toInt ≤ 4 := Yb_1 hIv316.1
      refine lv_if_ne (tgt := 295) hx hb dX11_readLine_278 rfl (fun c325 => ?_) (fun c325 => ?_)
      · skip
        have zc325 : ¬ ((v316 1).toInt = 0) := zEn rfl tc_0 c325
        refine lv_aload_n hx hb dX11_readLine_295 rfl (lv_at hl 0 rfl) ?_
        refine va_get (D := (dC, dI)) (ci := 11) (v := .int (v316 1)) (C := RX11) (T := TX11) (N := 79) hx hb hts inB_11 hown hE.1 hP 0 rfl rfl 2 (Nat.le_of_ble_eq_true rfl) (hts _ k_1322) (fun _ h9 => h9) rfl dX11_readLine_296 ?_
        refine lv_if_ne (tgt := 306) hx hb dX11_readLine_299 rfl (fun c326 => ?_) (fun c326 => ?_)
        · skip
          have zc326 : ¬ ((v316 1).toInt = 0) := zEn rfl tc_0 c326
          exact ret ((upd v316 19 r314), f317, w318, g319) _ _ _ _ _ _ ⟨(hT3.symm.trans (gsY_X11_readLine_1_q39 hG311 c313 hG315 c325 c326)), (KV.up (j := 19) (x := r314) hM_v316 (by decide +kernel)), hA_f317, ⟨(Yu_19 (x := r314) hIv316.1 (rlo _) (rhi _)), hIv316.2⟩, hCf317, hRf317, hk0_v316, hk4_v316, hk9_v316, hk24_v316, hk25_v316, hk35_v316, hk36_v316, hk38_v316, hk39_v316, (by show GA (v316 1).toInt (v 3).toInt (v316 3).toInt; exact GA.ab hGR (by omega) (by omega)), (by show IM0 (v316 1).toInt (IMn (v316 15).toInt (progOK (f317 2) (f317 3) ((v316 8).toInt).toNat)); rw [hs2_f317, hs3_f317]; intro hz8 hz9; exact prog_n (hPR (by omega)) (by omega))⟩ hP hD hS dX11_readLine_306 (Nat.le_refl _) (Nat.le_refl _)
        · skip
          have zc326 : (v316 1).toInt = 0 := zEp rfl tc_0 c326
          have hgrew := GR.grew hGR (by omega) (by omega)
          refine lv_aload_n hx hb dX11_readLine_302 rfl (lv_at hl 0 rfl) ?_
          refine cbVv (n := 0) (rest := []) hx hb hml hown hts hE hP hD hS hA (sY_X11_token_1 NF l dC dI cy y0 r  (upd v316 19 r314) f317 w318 g319 ⟨(Yu_19 (x := r314) hIv316.1 (rlo _) (rhi _)), hIv316.2⟩ hCf317 hRf317 ) k_1579 k_1581 k_42 k_114 k_1582 hd_yX11_token ⟨Nat.le_of_ble_eq_true rfl, Nat.le_of_ble_eq_true rfl⟩ 0 11 rfl rfl (rfl) hl.1 rfl (Nat.le_of_ble_eq_true rfl) dX11_readLine_303 (fun u H locs hw hP hD hS => ?_)
          obtain ⟨hG327, hw⟩ := hw
          obtain ⟨v328, f329, w330, g331⟩ := u
          obtain ⟨kV_v328, kF_f329, hIv328, hCf329, hRf329, hk0_v328, hk1_v328, hk2_v328, hk4_v328, hk8_v328, hk9_v328, hk10_v328, hk13_v328, hk14_v328, hk15_v328, hk17_v328, hk18_v328, hk24_v328, hk25_v328, hk35_v328, hk36_v328, hk38_v328, hk39_v328, pv332, pv333, kq334, kq335, kq336⟩ := hw
          have hM_v328 : KV [1, 2, 3, 5, 6, 7, 8, 10, 11, 13, 14, 15, 17, 18, 19, 20, 21, 22, 23, 30, 31, 32, 33, 34] v328 v := KV.tr kV_v328 (KV.up (j := 19) (x := r314) hM_v316 (by decide +kernel)) (by decide +kernel)
          have hA_f329 : KF [2, 3, 6, 9, 10, 11, 12, 13, 14, 15] f329 f := KF.tr kF_f329 hA_f317 rfl
          have hP : va_P (dC, dI) vwCl (YW cy y0 r v328 f329 w330 g331) H := hP
          have hD : va_D A (YW cy y0 r v328 f329 w330 g331) := hD
          have b3_v328 : 0 ≤ (v328 3).toInt ∧ (v328 3).toInt ≤ 1600 := Yb_3 hIv328.1
          have pv332 : (v316 3).toInt ≤ (v328 3).toInt := pv332
          have pv333 : (v328 5).toInt = (v316 5).toInt ∨ (v316 3).toInt < (v328 3).toInt ∨ ¬ (v328 5).toInt = 59 := pv333
          have hs2_f329 : f329 2 = (f 2) := kq334.trans hs2_f317
          have hs3_f329 : f329 3 = (f 3) := kq335.trans hs3_f317
          have hUv328 : (v328 35).toInt + (v328 36).toInt ≤ 40 := hIv328.2
          have hq0_v328 : v328 0 = (v 0) := hk0_v328.trans hq0_v316
          have zq0_v328 := congrArg Int32.toInt hq0_v328
          try clear zq0_v316
          have hq1_v328 : v328 1 = (v316 1) := hk1_v328
          have zq1_v328 := congrArg Int32.toInt hq1_v328
          have hq8_v328 : v328 8 = (v 8) := hk8_v328.trans hq8_v316
          have zq8_v328 := congrArg Int32.toInt hq8_v328
          try clear zq8_v316
          have hq9_v328 : v328 9 = (v 9) := hk9_v328.trans hq9_v316
          have zq9_v328 := congrArg Int32.toInt hq9_v328
          try clear zq9_v316
          have hq10_v328 : v328 10 = (v 10) := hk10_v328.trans hq10_v316
          have zq10_v328 := congrArg Int32.toInt hq10_v328
          try clear zq10_v316
          have hq13_v328 : v328 13 = (v 13) := hk13_v328.trans hq13_v316
          have zq13_v328 := congrArg Int32.toInt hq13_v328
          try clear zq13_v316
          have hq14_v328 : v328 14 = (v 14) := hk14_v328.trans hq14_v316
          have zq14_v328 := congrArg Int32.toInt hq14_v328
          try clear zq14_v316
          have hq15_v328 : v328 15 = (v 15) := hk15_v328.trans hq15_v316
          have zq15_v328 := congrArg Int32.toInt hq15_v328
          try clear zq15_v316
          have hq17_v328 : v328 17 = (v 17) := hk17_v328.trans hq17_v316
          have zq17_v328 := congrArg Int32.toInt hq17_v328
          try clear zq17_v316
          have hq18_v328 : v328 18 = (v 18) := hk18_v328.trans hq18_v316
          have zq18_v328 := congrArg Int32.toInt hq18_v328
          try clear zq18_v316
          have hGR : GR (v 3).toInt (v 5).toInt (v328 3).toInt (v328 5).toInt := GR.tr hGR (show GR (v316 3).toInt (v316 5).toInt (v328 3).toInt (v328 5).toInt from ⟨pv332, pv333⟩) (by first | with_reducible rfl | with_reducible assumption | rfl | omega) (by first | with_reducible rfl | with_reducible assumption | rfl | omega)
          clear pv333
          exact ret (v328, f329, w330, g331) _ _ _ _ _ _ ⟨(hT3.symm.trans (gsY_X11_readLine_1_q40 hG311 c313 hG315 c325 c326 hG327)), hM_v328, hA_f329, hIv328, hCf329, hRf329, (hk0_v328.trans hk0_v316), (hk4_v328.trans hk4_v316), (hk9_v328.trans hk9_v316), (hk24_v328.trans hk24_v316), (hk25_v328.trans hk25_v316), (hk35_v328.trans hk35_v316), (hk36_v328.trans hk36_v316), (hk38_v328.trans hk38_v316), (hk39_v328.trans hk39_v316), (by show GA (v328 1).toInt (v 3).toInt (v328 3).toInt; exact GA.mk hgrew hGR (by omega)), (by show IM0 (v328 1).toInt (IMn (v328 15).toInt (progOK (f329 2) (f329 3) ((v328 8).toInt).toNat)); rw [hs2_f329, hs3_f329]; intro hz8 hz9; exact prog_n (hPR (by omega)) (by omega))⟩ hP hD hS dX11_readLine_306 (Nat.le_refl _) (Nat.le_refl _)
      · skip
        have zc325 : (v316 1).toInt = 0 := zEp rfl tc_0 c325
        refine lv_aload_n hx hb dX11_readLine_281 rfl (lv_at hl 0 rfl) ?_
        refine va_get (D := (dC, dI)) (ci := 11) (v := .int (v316 5)) (C := RX11) (T := TX11) (N := 79) hx hb hts inB_11 hown hE.1 hP 0 rfl rfl 6 (Nat.le_of_ble_eq_true rfl) (hts _ k_1326) (fun _ h9 => h9) rfl dX11_readLine_282 ?_
        refine lv_bipush (v := 59) hx hb dX11_readLine_285 rfl ?_
        refine lv_icmp_eq (tgt := 295) hx hb dX11_readLine_287 rfl (fun c337 => ?_) (fun c337 => ?_)
        · skip
          have zc337 : (v316 5).toInt = 59 := zEp rfl tc_59 c337
          refine lv_aload_n hx hb dX11_readLine_295 rfl (lv_at hl 0 rfl) ?_
          refine va_get (D := (dC, dI)) (ci := 11) (v := .int (v316 1)) (C := RX11) (T := TX11) (N := 79) hx hb hts inB_11 hown hE.1 hP 0 rfl rfl 2 (Nat.le_of_ble_eq_true rfl) (hts _ k_1322) (fun _ h9 => h9) rfl dX11_readLine_296 ?_
          refine lv_if_ne (tgt := 306) hx hb dX11_readLine_299 rfl (fun c338 => ?_) (fun c338 => ?_)
          · skip
            have zc338 : ¬ ((v316 1).toInt = 0) := zEn rfl tc_0 c338
            exact ret ((upd v316 19 r314), f317, w318, g319) _ _ _ _ _ _ ⟨(hT3.symm.trans (gsY_X11_readLine_1_q41 hG311 c313 hG315 c325 c337 c338)), (KV.up (j := 19) (x := r314) hM_v316 (by decide +kernel)), hA_f317, ⟨(Yu_19 (x := r314) hIv316.1 (rlo _) (rhi _)), hIv316.2⟩, hCf317, hRf317, hk0_v316, hk4_v316, hk9_v316, hk24_v316, hk25_v316, hk35_v316, hk36_v316, hk38_v316, hk39_v316, (by show GA (v316 1).toInt (v 3).toInt (v316 3).toInt; exact GA.ab hGR (by omega) (by omega)), (by show IM0 (v316 1).toInt (IMn (v316 15).toInt (progOK (f317 2) (f317 3) ((v316 8).toInt).toNat)); rw [hs2_f317, hs3_f317]; intro hz8 hz9; exact prog_n (hPR (by omega)) (by omega))⟩ hP hD hS dX11_readLine_306 (Nat.le_refl _) (Nat.le_refl _)
          · skip
            have zc338 : (v316 1).toInt = 0 := zEp rfl tc_0 c338
            have hgrew := GR.grew hGR (by omega) (by omega)
            refine lv_aload_n hx hb dX11_readLine_302 rfl (lv_at hl 0 rfl) ?_
            refine cbVv (n := 0) (rest := []) hx hb hml hown hts hE hP hD hS hA (sY_X11_token_1 NF l dC dI cy y0 r  (upd v316 19 r314) f317 w318 g319 ⟨(Yu_19 (x := r314) hIv316.1 (rlo _) (rhi _)), hIv316.2⟩ hCf317 hRf317 ) k_1579 k_1581 k_42 k_114 k_1582 hd_yX11_token ⟨Nat.le_of_ble_eq_true rfl, Nat.le_of_ble_eq_true rfl⟩ 0 11 rfl rfl (rfl) hl.1 rfl (Nat.le_of_ble_eq_true rfl) dX11_readLine_303 (fun u H locs hw hP hD hS => ?_)
            obtain ⟨hG339, hw⟩ := hw
            obtain ⟨v340, f341, w342, g343⟩ := u
            obtain ⟨kV_v340, kF_f341, hIv340, hCf341, hRf341, hk0_v340, hk1_v340, hk2_v340, hk4_v340, hk8_v340, hk9_v340, hk10_v340, hk13_v340, hk14_v340, hk15_v340, hk17_v340, hk18_v340, hk24_v340, hk25_v340, hk35_v340, hk36_v340, hk38_v340, hk39_v340, pv344, pv345, kq346, kq347, kq348⟩ := hw
            have hM_v340 : KV [1, 2, 3, 5, 6, 7, 8, 10, 11, 13, 14, 15, 17, 18, 19, 20, 21, 22, 23, 30, 31, 32, 33, 34] v340 v := KV.tr kV_v340 (KV.up (j := 19) (x := r314) hM_v316 (by decide +kernel)) (by decide +kernel)
            have hA_f341 : KF [2, 3, 6, 9, 10, 11, 12, 13, 14, 15] f341 f := KF.tr kF_f341 hA_f317 rfl
            have hP : va_P (dC, dI) vwCl (YW cy y0 r v340 f341 w342 g343) H := hP
            have hD : va_D A (YW cy y0 r v340 f341 w342 g343) := hD
            have b3_v340 : 0 ≤ (v340 3).toInt ∧ (v340 3).toInt ≤ 1600 := Yb_3 hIv340.1
            have pv344 : (v316 3).toInt ≤ (v340 3).toInt := pv344
            have pv345 : (v340 5).toInt = (v316 5).toInt ∨ (v316 3).toInt < (v340 3).toInt ∨ ¬ (v340 5).toInt = 59 := pv345
            have hs2_f341 : f341 2 = (f 2) := kq346.trans hs2_f317
            have hs3_f341 : f341 3 = (f 3) := kq347.trans hs3_f317
            have hUv340 : (v340 35).toInt + (v340 36).toInt ≤ 40 := hIv340.2
            have hq0_v340 : v340 0 = (v 0) := hk0_v340.trans hq0_v316
            have zq0_v340 := congrArg Int32.toInt hq0_v340
            try clear zq0_v316
            have hq1_v340 : v340 1 = (v316 1) := hk1_v340
            have zq1_v340 := congrArg Int32.toInt hq1_v340
            have hq8_v340 : v340 8 = (v 8) := hk8_v340.trans hq8_v316
            have zq8_v340 := congrArg Int32.toInt hq8_v340
            try clear zq8_v316
            have hq9_v340 : v340 9 = (v 9) := hk9_v340.trans hq9_v316
            have zq9_v340 := congrArg Int32.toInt hq9_v340
            try clear zq9_v316
            have hq10_v340 : v340 10 = (v 10) := hk10_v340.trans hq10_v316
            have zq10_v340 := congrArg Int32.toInt hq10_v340
            try clear zq10_v316
            have hq13_v340 : v340 13 = (v 13) := hk13_v340.trans hq13_v316
            have zq13_v340 := congrArg Int32.toInt hq13_v340
            try clear zq13_v316
            have hq14_v340 : v340 14 = (v 14) := hk14_v340.trans hq14_v316
            have zq14_v340 := congrArg Int32.toInt hq14_v340
            try clear zq14_v316
            have hq15_v340 : v340 15 = (v 15) := hk15_v340.trans hq15_v316
            have zq15_v340 := congrArg Int32.toInt hq15_v340
            try clear zq15_v316
            have hq17_v340 : v340 17 = (v 17) := hk17_v340.trans hq17_v316
            have zq17_v340 := congrArg Int32.toInt hq17_v340
            try clear zq17_v316
            have hq18_v340 : v340 18 = (v 18) := hk18_v340.trans hq18_v316
            have zq18_v340 := congrArg Int32.toInt hq18_v340
            try clear zq18_v316
            have hGR : GR (v 3).toInt (v 5).toInt (v340 3).toInt (v340 5).toInt := GR.tr hGR (show GR (v316 3).toInt (v316 5).toInt (v340 3).toInt (v340 5).toInt from ⟨pv344, pv345⟩) (by first | with_reducible rfl | with_reducible assumption | rfl | omega) (by first | with_reducible rfl | with_reducible assumption | rfl | omega)
            clear pv345
            exact ret (v340, f341, w342, g343) _ _ _ _ _ _ ⟨(hT3.symm.trans (gsY_X11_readLine_1_q42 hG311 c313 hG315 c325 c337 c338 hG339)), hM_v340, hA_f341, hIv340, hCf341, hRf341, (hk0_v340.trans hk0_v316), (hk4_v340.trans hk4_v316), (hk9_v340.trans hk9_v316), (hk24_v340.trans hk24_v316), (hk25_v340.trans hk25_v316), (hk35_v340.trans hk35_v316), (hk36_v340.trans hk36_v316), (hk38_v340.trans hk38_v316), (hk39_v340.trans hk39_v316), (by show GA (v340 1).toInt (v 3).toInt (v340 3).toInt; exact GA.mk hgrew hGR (by omega)), (by show IM0 (v340 1).toInt (IMn (v340 15).toInt (progOK (f341 2) (f341 3) ((v340 8).toInt).toNat)); rw [hs2_f341, hs3_f341]; intro hz8 hz9; exact prog_n (hPR (by omega)) (by omega))⟩ hP hD hS dX11_readLine_306 (Nat.le_refl _) (Nat.le_refl _)
        · skip
          have zc337 : ¬ ((v316 5).toInt = 59) := zEn rfl tc_59 c337
          refine lv_aload_n hx hb dX11_readLine_290 rfl (lv_at hl 0 rfl) ?_
          refine lv_iconst (v := 2) hx hb dX11_readLine_291 rfl ?_
          refine cbVv (n := 1) (rest := []) hx hb hml hown hts hE hP hD hS hA (sY_X11_wrong_1 NF l dC dI cy y0 r 2 (upd v316 19 r314) f317 w318 g319 ⟨(Yu_19 (x := r314) hIv316.1 (rlo _) (rhi _)), hIv316.2⟩ hCf317 hRf317 ⟨by decide, by decide⟩) k_1641 k_1643 k_50 k_114 k_1644 hd_yX11_wrong ⟨Nat.le_of_ble_eq_true rfl, Nat.le_of_ble_eq_true rfl⟩ 0 11 rfl rfl (rfl) hl.1 rfl (Nat.le_of_ble_eq_true rfl) dX11_readLine_292 (fun u H locs hw hP hD hS => ?_)
          obtain ⟨hG349, hw⟩ := hw
          obtain ⟨v350, f351, w352, g353⟩ := u
          obtain ⟨kV_v350, kF_f351, hIv350, hCf351, hRf351, hk0_v350, hk3_v350, hk4_v350, hk5_v350, hk8_v350, hk9_v350, hk10_v350, hk13_v350, hk14_v350, hk15_v350, hk17_v350, hk18_v350, hk24_v350, hk25_v350, hk35_v350, hk36_v350, hk38_v350, hk39_v350, pv354, pv355, pv356, kq357, kq358, kq359⟩ := hw
          have hM_v350 : KV [1, 2, 3, 5, 6, 7, 8, 10, 11, 13, 14, 15, 17, 18, 19, 20, 21, 22, 23, 30, 31, 32, 33, 34] v350 v := KV.tr kV_v350 (KV.up (j := 19) (x := r314) hM_v316 (by decide +kernel)) (by decide +kernel)
          have hA_f351 : KF [2, 3, 6, 9, 10, 11, 12, 13, 14, 15] f351 f := KF.tr kF_f351 hA_f317 rfl
          have hP : va_P (dC, dI) vwCl (YW cy y0 r v350 f351 w352 g353) H := hP
          have hD : va_D A (YW cy y0 r v350 f351 w352 g353) := hD
          have b3_v350 : 0 ≤ (v350 3).toInt ∧ (v350 3).toInt ≤ 1600 := Yb_3 hIv350.1
          have b1_v350 : 0 ≤ (v350 1).toInt ∧ (v350 1).toInt ≤ 4 := Yb_1 hIv350.1
          have pv354 : (v316 3).toInt ≤ (v350 3).toInt := pv354
          have pv355 : (v350 5).toInt = (v316 5).toInt ∨ (v316 3).toInt < (v350 3).toInt ∨ ¬ (v350 5).toInt = 59 := pv355
          have pv356 : 0 < (v350 1).toInt := pv356
          have hs2_f351 : f351 2 = (f 2) := kq357.trans hs2_f317
          have hs3_f351 : f351 3 = (f 3) := kq358.trans hs3_f317
          have hUv350 : (v350 35).toInt + (v350 36).toInt ≤ 40 := hIv350.2
          have hq0_v350 : v350 0 = (v 0) := hk0_v350.trans hq0_v316
          have zq0_v350 := congrArg Int32.toInt hq0_v350
          try clear zq0_v316
          have hq3_v350 : v350 3 = (v316 3) := hk3_v350
          have zq3_v350 := congrArg Int32.toInt hq3_v350
          have hq5_v350 : v350 5 = (v316 5) := hk5_v350
          have zq5_v350 := congrArg Int32.toInt hq5_v350
          have hq8_v350 : v350 8 = (v 8) := hk8_v350.trans hq8_v316
          have zq8_v350 := congrArg Int32.toInt hq8_v350
          try clear zq8_v316
          have hq9_v350 : v350 9 = (v 9) := hk9_v350.trans hq9_v316
          have zq9_v350 := congrArg Int32.toInt hq9_v350
          try clear zq9_v316
          have hq10_v350 : v350 10 = (v 10) := hk10_v350.trans hq10_v316
          have zq10_v350 := congrArg Int32.toInt hq10_v350
          try clear zq10_v316
          have hq13_v350 : v350 13 = (v 13) := hk13_v350.trans hq13_v316
          have zq13_v350 := congrArg Int32.toInt hq13_v350
          try clear zq13_v316
          have hq14_v350 : v350 14 = (v 14) := hk14_v350.trans hq14_v316
          have zq14_v350 := congrArg Int32.toInt hq14_v350
          try clear zq14_v316
          have hq15_v350 : v350 15 = (v 15) := hk15_v350.trans hq15_v316
          have zq15_v350 := congrArg Int32.toInt hq15_v350
          try clear zq15_v316
          have hq17_v350 : v350 17 = (v 17) := hk17_v350.trans hq17_v316
          have zq17_v350 := congrArg Int32.toInt hq17_v350
          try clear zq17_v316
          have hq18_v350 : v350 18 = (v 18) := hk18_v350.trans hq18_v316
          have zq18_v350 := congrArg Int32.toInt hq18_v350
          try clear zq18_v316
          have hGR : GR (v 3).toInt (v 5).toInt (v350 3).toInt (v350 5).toInt := GR.tr hGR (show GR (v316 3).toInt (v316 5).toInt (v350 3).toInt (v350 5).toInt from ⟨pv354, pv355⟩) (by first | with_reducible rfl | with_reducible assumption | rfl | omega) (by first | with_reducible rfl | with_reducible assumption | rfl | omega)
          clear pv355
          refine lv_aload_n hx hb dX11_readLine_295 rfl (lv_at hl 0 rfl) ?_
          refine va_get (D := (dC, dI)) (ci := 11) (v := .int (v350 1)) (C := RX11) (T := TX11) (N := 79) hx hb hts inB_11 hown hE.1 hP 0 rfl rfl 2 (Nat.le_of_ble_eq_true rfl) (hts _ k_1322) (fun _ h9 => h9) rfl dX11_readLine_296 ?_
          have b1_v350 : 0 ≤ (v350 1).toInt ∧ (v350 1).toInt ≤ 4 := Yb_1 hIv350.1
          refine lv_if_ne (tgt := 306) hx hb dX11_readLine_299 rfl (fun c360 => ?_) (fun c360 => ?_)
          · skip
            have zc360 : ¬ ((v350 1).toInt = 0) := zEn rfl tc_0 c360
            exact ret (v350, f351, w352, g353) _ _ _ _ _ _ ⟨(hT3.symm.trans (gsY_X11_readLine_1_q43 hG311 c313 hG315 c325 c337 hG349 c360)), hM_v350, hA_f351, hIv350, hCf351, hRf351, (hk0_v350.trans hk0_v316), (hk4_v350.trans hk4_v316), (hk9_v350.trans hk9_v316), (hk24_v350.trans hk24_v316), (hk25_v350.trans hk25_v316), (hk35_v350.trans hk35_v316), (hk36_v350.trans hk36_v316), (hk38_v350.trans hk38_v316), (hk39_v350.trans hk39_v316), (by show GA (v350 1).toInt (v 3).toInt (v350 3).toInt; exact GA.ab hGR (by omega) (by omega)), (by show IM0 (v350 1).toInt (IMn (v350 15).toInt (progOK (f351 2) (f351 3) ((v350 8).toInt).toNat)); rw [hs2_f351, hs3_f351]; intro hz8 hz9; exact prog_n (hPR (by omega)) (by omega))⟩ hP hD hS dX11_readLine_306 (Nat.le_refl _) (Nat.le_refl _)
          · skip
            have zc360 : (v350 1).toInt = 0 := zEp rfl tc_0 c360
            refine lv_aload_n hx hb dX11_readLine_302 rfl (lv_at hl 0 rfl) ?_
            refine cbVv (n := 0) (rest := []) hx hb hml hown hts hE hP hD hS hA (sY_X11_token_1 NF l dC dI cy y0 r  v350 f351 w352 g353 hIv350 hCf351 hRf351 ) k_1579 k_1581 k_42 k_114 k_1582 hd_yX11_token ⟨Nat.le_of_ble_eq_true rfl, Nat.le_of_ble_eq_true rfl⟩ 0 11 rfl rfl (rfl) hl.1 rfl (Nat.le_of_ble_eq_true rfl) dX11_readLine_303 (fun u H locs hw hP hD hS => ?_)
            obtain ⟨hG361, hw⟩ := hw
            obtain ⟨v362, f363, w364, g365⟩ := u
            obtain ⟨kV_v362, kF_f363, hIv362, hCf363, hRf363, hk0_v362, hk1_v362, hk2_v362, hk4_v362, hk8_v362, hk9_v362, hk10_v362, hk13_v362, hk14_v362, hk15_v362, hk17_v362, hk18_v362, hk24_v362, hk25_v362, hk35_v362, hk36_v362, hk38_v362, hk39_v362, pv366, pv367, kq368, kq369, kq370⟩ := hw
            have hM_v362 : KV [1, 2, 3, 5, 6, 7, 8, 10, 11, 13, 14, 15, 17, 18, 19, 20, 21, 22, 23, 30, 31, 32, 33, 34] v362 v := KV.tr kV_v362 hM_v350 (by decide +kernel)
            have hA_f363 : KF [2, 3, 6, 9, 10, 11, 12, 13, 14, 15] f363 f := KF.tr kF_f363 hA_f351 rfl
            have hP : va_P (dC, dI) vwCl (YW cy y0 r v362 f363 w364 g365) H := hP
            have hD : va_D A (YW cy y0 r v362 f363 w364 g365) := hD
            have b3_v362 : 0 ≤ (v362 3).toInt ∧ (v362 3).toInt ≤ 1600 := Yb_3 hIv362.1
            have pv366 : (v350 3).toInt ≤ (v362 3).toInt := pv366
            have pv367 : (v362 5).toInt = (v350 5).toInt ∨ (v350 3).toInt < (v362 3).toInt ∨ ¬ (v362 5).toInt = 59 := pv367
            have hs2_f363 : f363 2 = (f 2) := kq368.trans hs2_f351
            have hs3_f363 : f363 3 = (f 3) := kq369.trans hs3_f351
            have hUv362 : (v362 35).toInt + (v362 36).toInt ≤ 40 := hIv362.2
            have hq0_v362 : v362 0 = (v 0) := hk0_v362.trans hq0_v350
            have zq0_v362 := congrArg Int32.toInt hq0_v362
            try clear zq0_v350
            have hq1_v362 : v362 1 = (v350 1) := hk1_v362
            have zq1_v362 := congrArg Int32.toInt hq1_v362
            have hq8_v362 : v362 8 = (v 8) := hk8_v362.trans hq8_v350
            have zq8_v362 := congrArg Int32.toInt hq8_v362
            try clear zq8_v350
            have hq9_v362 : v362 9 = (v 9) := hk9_v362.trans hq9_v350
            have zq9_v362 := congrArg Int32.toInt hq9_v362
            try clear zq9_v350
            have hq10_v362 : v362 10 = (v 10) := hk10_v362.trans hq10_v350
            have zq10_v362 := congrArg Int32.toInt hq10_v362
            try clear zq10_v350
            have hq13_v362 : v362 13 = (v 13) := hk13_v362.trans hq13_v350
            have zq13_v362 := congrArg Int32.toInt hq13_v362
            try clear zq13_v350
            have hq14_v362 : v362 14 = (v 14) := hk14_v362.trans hq14_v350
            have zq14_v362 := congrArg Int32.toInt hq14_v362
            try clear zq14_v350
            have hq15_v362 : v362 15 = (v 15) := hk15_v362.trans hq15_v350
            have zq15_v362 := congrArg Int32.toInt hq15_v362
            try clear zq15_v350
            have hq17_v362 : v362 17 = (v 17) := hk17_v362.trans hq17_v350
            have zq17_v362 := congrArg Int32.toInt hq17_v362
            try clear zq17_v350
            have hq18_v362 : v362 18 = (v 18) := hk18_v362.trans hq18_v350
            have zq18_v362 := congrArg Int32.toInt hq18_v362
            try clear zq18_v350
            have hGR : GR (v 3).toInt (v 5).toInt (v362 3).toInt (v362 5).toInt := GR.tr hGR (show GR (v350 3).toInt (v350 5).toInt (v362 3).toInt (v362 5).toInt from ⟨pv366, pv367⟩) (by first | with_reducible rfl | with_reducible assumption | rfl | omega) (by first | with_reducible rfl | with_reducible assumption | rfl | omega)
            clear pv367
            exact ret (v362, f363, w364, g365) _ _ _ _ _ _ ⟨(hT3.symm.trans (gsY_X11_readLine_1_q44 hG311 c313 hG315 c325 c337 hG349 c360 hG361)), hM_v362, hA_f363, hIv362, hCf363, hRf363, (hk0_v362.trans (hk0_v350.trans hk0_v316)), (hk4_v362.trans (hk4_v350.trans hk4_v316)), (hk9_v362.trans (hk9_v350.trans hk9_v316)), (hk24_v362.trans (hk24_v350.trans hk24_v316)), (hk25_v362.trans (hk25_v350.trans hk25_v316)), (hk35_v362.trans (hk35_v350.trans hk35_v316)), (hk36_v362.trans (hk36_v350.trans hk36_v316)), (hk38_v362.trans (hk38_v350.trans hk38_v316)), (hk39_v362.trans (hk39_v350.trans hk39_v316)), (by show GA (v362 1).toInt (v 3).toInt (v362 3).toInt; exact GA.ab hGR (by omega) (by omega)), (by show IM0 (v362 1).toInt (IMn (v362 15).toInt (progOK (f363 2) (f363 3) ((v362 8).toInt).toNat)); rw [hs2_f363, hs3_f363]; intro hz8 hz9; exact prog_n (hPR (by omega)) (by omega))⟩ hP hD hS dX11_readLine_306 (Nat.le_refl _) (Nat.le_refl _)
  · skip
    subst g312
    refine lv_if_eq (tgt := 115) hx hb dX11_readLine_83 rfl (fun _ => ?_) (fun c0 => absurd (by decide) c0)
    exact jp115 _ _ _ ((gsY_X11_readLine_1_q45 hG311).symm.trans hT3) hP hD hS hl
set_option maxHeartbeats 4000000 in
set_option maxRecDepth 100000 in
theorem sY_X11_readLine_1_jp52 (NF : Nat) (l : Launch) (dC : Nat → ClassId) (dI : Nat → Nat → Nat) (cy : Nat → ClassId) (y0 : Nat) (r : Nat → Nat)  (v : Nat → Int32) (f : Nat → Nat → Int32) (w : Int64) (g : Nat → Int64) (hIv : YI v) (hCf : YC f) (hRf : progOK (f 4) (f 5) (v 9).toInt.toNat)  (hf0 : (v 1).toInt = 0) (hg0 : IMn (v 15).toInt (progOK (f 2) (f 3) ((v 8).toInt).toNat)) {p : Program} {e : Env} {s : State} {m : MethodId} {below : List Frame} {meth : Method} {c : Code} {A : Nat → Prop} {Q : State → Prop} (hx : p.tables.exec = Jvm.exec) (hb : c.code = cX11_readLine) (hml : c.maxLocals = 1) (hts : ∀ w ∈ BIG, w.before ([.ref y0] : List Value).toArray s = true) (hown : s.vm.findClass RX11 = some m.cls) (hE : ENV (dC, dI) cy s) (hA : ∀ q, s.heap.size ≤ q → A q) (ret : ∀ (u : ((Nat → Int32) × (Nat → Nat → Int32) × (Int64) × (Nat → Int64))) (H : Heap) (locs : List Loc) (pc cells slots : Nat) (ls : Array Slot), (gsY_X11_readLine_1 NF v f w g = u ∧ KV [1, 2, 3, 5, 6, 7, 8, 10, 11, 13, 14, 15, 17, 18, 19, 20, 21, 22, 23, 30, 31, 32, 33, 34] u.1 v ∧ KF [2, 3, 6, 9, 10, 11, 12, 13, 14, 15] u.2.1 f ∧ YI u.1 ∧ YC u.2.1 ∧ progOK (u.2.1 4) (u.2.1 5) (u.1 9).toInt.toNat ∧ u.1 0 = v 0 ∧ u.1 4 = v 4 ∧ u.1 9 = v 9 ∧ u.1 24 = v 24 ∧ u.1 25 = v 25 ∧ u.1 35 = v 35 ∧ u.1 36 = v 36 ∧ u.1 38 = v 38 ∧ u.1 39 = v 39 ∧ (GA (u.1 1).toInt (v 3).toInt (u.1 3).toInt) ∧ (IM0 (u.1 1).toInt (IMn (u.1 15).toInt (progOK (u.2.1 2) (u.2.1 3) ((u.1 8).toInt).toNat)))) → va_P (dC, dI) vwCl (YW cy y0 r u.1 u.2.1 u.2.2.1 u.2.2.2) H → va_D A (YW cy y0 r u.1 u.2.1 u.2.2.1 u.2.2.2) → va_S A s.heap H locs → decode cX11_readLine pc = .ok (.return_, 1) → cells ≤ 0 → slots ≤ 0 → W p l e { frames := 7, cells := 0, slots := 0, locals := 192 } s m ([.ref y0] : List Value).toArray below meth c H locs cells slots Q (F0 m pc ls [])) (jp76 : ∀ (H : Heap) (locs : List Loc) (ls : Array Slot), gsY_X11_readLine_1_J3 NF v f w g = (gsY_X11_readLine_1 NF v f w g) → va_P (dC, dI) vwCl (YW cy y0 r v f w g) H → va_D A (YW cy y0 r v f w g) → va_S A s.heap H locs → lv_has ls 1 [(0, .ref y0)] → W p l e { frames := 7, cells := 0, slots := 0, locals := 192 } s m ([.ref y0] : List Value).toArray below meth c H locs 0 0 Q (F0 m 76 ls [])) : ∀ (H : Heap) (locs : List Loc) (ls : Array Slot), gsY_X11_readLine_1_J2 NF v f w g = (gsY_X11_readLine_1 NF v f w g) → va_P (dC, dI) vwCl (YW cy y0 r v f w g) H → va_D A (YW cy y0 r v f w g) → va_S A s.heap H locs → lv_has ls 1 [(0, .ref y0)] → W p l e { frames := 7, cells := 0, slots := 0, locals := 192 } s m ([.ref y0] : List Value).toArray below meth c H locs 0 0 Q (F0 m 52 ls []) := by
  have hUv : (v 35).toInt + (v 36).toInt ≤ 40 := hIv.2
  have hM_v : KV [1, 2, 3, 5, 6, 7, 8, 10, 11, 13, 14, 15, 17, 18, 19, 20, 21, 22, 23, 30, 31, 32, 33, 34] v v := fun _ _ => rfl
  have hA_f : KF [2, 3, 6, 9, 10, 11, 12, 13, 14, 15] f f := fun _ _ => rfl
  have hPR := hg0
  have b0_v : (0 : Int) ≤ (v 0).toInt ∧ (v 0).toInt ≤ 1600 := Yb_0 hIv.1
  have b1_v : (0 : Int) ≤ (v 1).toInt ∧ (v 1).toInt ≤ 4 := Yb_1 hIv.1
  have b8_v : (0 : Int) ≤ (v 8).toInt ∧ (v 8).toInt ≤ 320 := Yb_8 hIv.1
  have b10_v : (0 : Int) ≤ (v 10).toInt ∧ (v 10).toInt ≤ 160 := Yb_10 hIv.1
  have b13_v : (0 : Int) ≤ (v 13).toInt ∧ (v 13).toInt ≤ 31 := Yb_13 hIv.1
  have b14_v : (0 : Int) ≤ (v 14).toInt ∧ (v 14).toInt ≤ 8 := Yb_14 hIv.1
  have b15_v : (0 : Int) ≤ (v 15).toInt ∧ (v 15).toInt ≤ 1 := Yb_15 hIv.1
  have b17_v : (0 : Int) ≤ (v 17).toInt ∧ (v 17).toInt ≤ 6 := Yb_17 hIv.1
  have b18_v : (0 : Int) ≤ (v 18).toInt ∧ (v 18).toInt ≤ 6 := Yb_18 hIv.1
  have hGR : GR (v 3).toInt (v 5).toInt (v 3).toInt (v 5).toInt := GR.refl _ _
  intro H locs ls hT2 hP hD hS hl
  revert jp76
  intro jp76
  refine lv_aload_n hx hb dX11_readLine_52 rfl (lv_at hl 0 rfl) ?_
  refine lv_ldc2 (v := 6909036) hx hb hown (hts _ k_1627) dX11_readLine_53 ?_
  refine cbVi (n := 1) (rest := []) hx hb hml hown hts hE hP hD hS hA (sY_X11_isWord_1 NF l dC dI cy y0 r 6909036 v f w g hIv hCf hRf ) k_1601 k_1603 k_45 k_114 k_1604 hd_yX11_isWord ⟨Nat.le_of_ble_eq_true rfl, Nat.le_of_ble_eq_true rfl⟩ 0 11 rfl rfl (rfl) hl.1 rfl (Nat.le_of_ble_eq_true rfl) dX11_readLine_56 (fun r371 u H locs hw hP hD hS => ?_)
  obtain ⟨hG372, hw⟩ := hw
  rcases hw with ⟨g373, g373_0⟩ | ⟨g373⟩
  · skip
    subst g373
    refine lv_if_eq (tgt := 76) hx hb dX11_readLine_59 rfl (fun c0 => absurd c0 (by decide)) (fun _ => ?_)
    refine lv_aload_n hx hb dX11_readLine_62 rfl (lv_at hl 0 rfl) ?_
    refine va_get (D := (dC, dI)) (ci := 11) (v := .int (v 15)) (C := RX11) (T := TX11) (N := 79) hx hb hts inB_11 hown hE.1 hP 0 rfl rfl 24 (Nat.le_of_ble_eq_true rfl) (hts _ k_1344) (fun _ h9 => h9) rfl dX11_readLine_63 ?_
    have b15_v : 0 ≤ (v 15).toInt ∧ (v 15).toInt ≤ 1 := Yb_15 hIv.1
    refine lv_if_ne (tgt := 76) hx hb dX11_readLine_66 rfl (fun c374 => ?_) (fun c374 => ?_)
    · skip
      exact jp76 _ _ _ ((gsY_X11_readLine_1_q46 hG372 c374).symm.trans hT2) hP hD hS hl
    · skip
      have zc374 : (v 15).toInt = 0 := zEp rfl tc_0 c374
      refine lv_aload_n hx hb dX11_readLine_69 rfl (lv_at hl 0 rfl) ?_
      refine cbVv (n := 0) (rest := []) hx hb hml hown hts hE hP hD hS hA (sY_X11_formula_1 NF l dC dI cy y0 r  v f w g hIv hCf hRf ) k_1665 k_1667 k_56 k_114 k_1668 hd_yX11_formula ⟨Nat.le_of_ble_eq_true rfl, Nat.le_of_ble_eq_true rfl⟩ 0 11 rfl rfl (rfl) hl.1 rfl (Nat.le_of_ble_eq_true rfl) dX11_readLine_70 (fun u H locs hw hP hD hS => ?_)
      obtain ⟨hG375, hw⟩ := hw
      obtain ⟨v376, f377, w378, g379⟩ := u
      obtain ⟨kV_v376, kF_f377, hIv376, hCf377, hRf377, hk0_v376, hk4_v376, hk9_v376, hk17_v376, hk18_v376, hk24_v376, hk25_v376, hk35_v376, hk36_v376, hk38_v376, hk39_v376, pg380, pg381⟩ := hw
      have hM_v376 : KV [1, 2, 3, 5, 6, 7, 8, 10, 11, 13, 14, 15, 17, 18, 19, 20, 21, 22, 23, 30, 31, 32, 33, 34] v376 v := KV.tr kV_v376 hM_v (by decide +kernel)
      have hA_f377 : KF [2, 3, 6, 9, 10, 11, 12, 13, 14, 15] f377 f := KF.tr kF_f377 hA_f rfl
      have hP : va_P (dC, dI) vwCl (YW cy y0 r v376 f377 w378 g379) H := hP
      have hD : va_D A (YW cy y0 r v376 f377 w378 g379) := hD
      have b3_v376 : 0 ≤ (v376 3).toInt ∧ (v376 3).toInt ≤ 1600 := Yb_3 hIv376.1
      have b1_v376 : 0 ≤ (v376 1).toInt ∧ (v376 1).toInt ≤ 4 := Yb_1 hIv376.1
      have b8_v376 : 0 ≤ (v376 8).toInt ∧ (v376 8).toInt ≤ 320 := Yb_8 hIv376.1
      have pg380 : GR (v 3).toInt (v 5).toInt (v376 3).toInt (v376 5).toInt := pg380
      have pg381 : IM0 (v376 1).toInt (progOK (f377 2) (f377 3) ((v376 8).toInt).toNat) := pg381
      have hUv376 : (v376 35).toInt + (v376 36).toInt ≤ 40 := hIv376.2
      have hq0_v376 : v376 0 = (v 0) := hk0_v376
      have zq0_v376 := congrArg Int32.toInt hq0_v376
      have hq9_v376 : v376 9 = (v 9) := hk9_v376
      have zq9_v376 := congrArg Int32.toInt hq9_v376
      have hq17_v376 : v376 17 = (v 17) := hk17_v376
      have zq17_v376 := congrArg Int32.toInt hq17_v376
      have hq18_v376 : v376 18 = (v 18) := hk18_v376
      have zq18_v376 := congrArg Int32.toInt hq18_v376
      have hGR : GR (v 3).toInt (v 5).toInt (v376 3).toInt (v376 5).toInt := GR.tr hGR (show GR (v 3).toInt (v 5).toInt (v376 3).toInt (v376 5).toInt from pg380) (by first | with_reducible rfl | with_reducible assumption | rfl | omega) (by first | with_reducible rfl | with_reducible assumption | rfl | omega)
      have hPF := pg381
      refine lv_goto (tgt := 274) hx hb dX11_readLine_73 rfl ?_
      refine lv_aload_n hx hb dX11_readLine_274 rfl (lv_at hl 0 rfl) ?_
      refine va_get (D := (dC, dI)) (ci := 11) (v := .int (v376 1)) (C := RX11) (T := TX11) (N := 79) hx hb hts inB_11 hown hE.1 hP 0 rfl rfl 2 (Nat.le_of_ble_eq_true rfl) (hts _ k_1322) (fun _ h9 => h9) rfl dX11_readLine_275 ?_
      have b1_v376 : 0 ≤ (v376 1).toInt ∧ (v376 1).toInt ≤ 4 := Yb_1 hIv376.1
      refine lv_if_ne (tgt := 295) hx hb dX11_readLine_278 rfl (fun c382 => ?_) (fun c382 => ?_)
      · skip
        have zc382 : ¬ ((v376 1).toInt = 0) := zEn rfl tc_0 c382
        refine lv_aload_n hx hb dX11_readLine_295 rfl (lv_at hl 0 rfl) ?_
        refine va_get (D := (dC, dI)) (ci := 11) (v := .int (v376 1)) (C := RX11) (T := TX11) (N := 79) hx hb hts inB_11 hown hE.1 hP 0 rfl rfl 2 (Nat.le_of_ble_eq_true rfl) (hts _ k_1322) (fun _ h9 => h9) rfl dX11_readLine_296 ?_
        refine lv_if_ne (tgt := 306) hx hb dX11_readLine_299 rfl (fun c383 => ?_) (fun c383 => ?_)
        · skip
          have zc383 : ¬ ((v376 1).toInt = 0) := zEn rfl tc_0 c383
          exact ret (v376, f377, w378, g379) _ _ _ _ _ _ ⟨(hT2.symm.trans (gsY_X11_readLine_1_q47 hG372 c374 hG375 c382 c383)), hM_v376, hA_f377, hIv376, hCf377, hRf377, hk0_v376, hk4_v376, hk9_v376, hk24_v376, hk25_v376, hk35_v376, hk36_v376, hk38_v376, hk39_v376, (by show GA (v376 1).toInt (v 3).toInt (v376 3).toInt; exact GA.ab hGR (by omega) (by omega)), (by show IM0 (v376 1).toInt (IMn (v376 15).toInt (progOK (f377 2) (f377 3) ((v376 8).toInt).toNat)); intro hz8 hz9; exact prog_n (hPF (by omega)) (by omega))⟩ hP hD hS dX11_readLine_306 (Nat.le_refl _) (Nat.le_refl _)
        · skip
          have zc383 : (v376 1).toInt = 0 := zEp rfl tc_0 c383
          have hgrew := GR.grew hGR (by omega) (by omega)
          refine lv_aload_n hx hb dX11_readLine_302 rfl (lv_at hl 0 rfl) ?_
          refine cbVv (n := 0) (rest := []) hx hb hml hown hts hE hP hD hS hA (sY_X11_token_1 NF l dC dI cy y0 r  v376 f377 w378 g379 hIv376 hCf377 hRf377 ) k_1579 k_1581 k_42 k_114 k_1582 hd_yX11_token ⟨Nat.le_of_ble_eq_true rfl, Nat.le_of_ble_eq_true rfl⟩ 0 11 rfl rfl (rfl) hl.1 rfl (Nat.le_of_ble_eq_true rfl) dX11_readLine_303 (fun u H locs hw hP hD hS => ?_)
          obtain ⟨hG384, hw⟩ := hw
          obtain ⟨v385, f386, w387, g388⟩ := u
          obtain ⟨kV_v385, kF_f386, hIv385, hCf386, hRf386, hk0_v385, hk1_v385, hk2_v385, hk4_v385, hk8_v385, hk9_v385, hk10_v385, hk13_v385, hk14_v385, hk15_v385, hk17_v385, hk18_v385, hk24_v385, hk25_v385, hk35_v385, hk36_v385, hk38_v385, hk39_v385, pv389, pv390, kq391, kq392, kq393⟩ := hw
          have hM_v385 : KV [1, 2, 3, 5, 6, 7, 8, 10, 11, 13, 14, 15, 17, 18, 19, 20, 21, 22, 23, 30, 31, 32, 33, 34] v385 v := KV.tr kV_v385 hM_v376 (by decide +kernel)
          have hA_f386 : KF [2, 3, 6, 9, 10, 11, 12, 13, 14, 15] f386 f := KF.tr kF_f386 hA_f377 rfl
          have hP : va_P (dC, dI) vwCl (YW cy y0 r v385 f386 w387 g388) H := hP
          have hD : va_D A (YW cy y0 r v385 f386 w387 g388) := hD
          have b3_v385 : 0 ≤ (v385 3).toInt ∧ (v385 3).toInt ≤ 1600 := Yb_3 hIv385.1
          have pv389 : (v376 3).toInt ≤ (v385 3).toInt := pv389
          have pv390 : (v385 5).toInt = (v376 5).toInt ∨ (v376 3).toInt < (v385 3).toInt ∨ ¬ (v385 5).toInt = 59 := pv390
          have hs2_f386 : f386 2 = (f377 2) := kq391
          have hs3_f386 : f386 3 = (f377 3) := kq392
          have hUv385 : (v385 35).toInt + (v385 36).toInt ≤ 40 := hIv385.2
          have hq0_v385 : v385 0 = (v 0) := hk0_v385.trans hq0_v376
          have zq0_v385 := congrArg Int32.toInt hq0_v385
          try clear zq0_v376
          have hq1_v385 : v385 1 = (v376 1) := hk1_v385
          have zq1_v385 := congrArg Int32.toInt hq1_v385
          have hq8_v385 : v385 8 = (v376 8) := hk8_v385
          have zq8_v385 := congrArg Int32.toInt hq8_v385
          have hq9_v385 : v385 9 = (v 9) := hk9_v385.trans hq9_v376
          have zq9_v385 := congrArg Int32.toInt hq9_v385
          try clear zq9_v376
          have hq10_v385 : v385 10 = (v376 10) := hk10_v385
          have zq10_v385 := congrArg Int32.toInt hq10_v385
          have hq13_v385 : v385 13 = (v376 13) := hk13_v385
          have zq13_v385 := congrArg Int32.toInt hq13_v385
          have hq14_v385 : v385 14 = (v376 14) := hk14_v385
          have zq14_v385 := congrArg Int32.toInt hq14_v385
          have hq15_v385 : v385 15 = (v376 15) := hk15_v385
          have zq15_v385 := congrArg Int32.toInt hq15_v385
          have hq17_v385 : v385 17 = (v 17) := hk17_v385.trans hq17_v376
          have zq17_v385 := congrArg Int32.toInt hq17_v385
          try clear zq17_v376
          have hq18_v385 : v385 18 = (v 18) := hk18_v385.trans hq18_v376
          have zq18_v385 := congrArg Int32.toInt hq18_v385
          try clear zq18_v376
          have hGR : GR (v 3).toInt (v 5).toInt (v385 3).toInt (v385 5).toInt := GR.tr hGR (show GR (v376 3).toInt (v376 5).toInt (v385 3).toInt (v385 5).toInt from ⟨pv389, pv390⟩) (by first | with_reducible rfl | with_reducible assumption | rfl | omega) (by first | with_reducible rfl | with_reducible assumption | rfl | omega)
          clear pv390
          exact ret (v385, f386, w387, g388) _ _ _ _ _ _ ⟨(hT2.symm.trans (gsY_X11_readLine_1_q48 hG372 c374 hG375 c382 c383 hG384)), hM_v385, hA_f386, hIv385, hCf386, hRf386, (hk0_v385.trans hk0_v376), (hk4_v385.trans hk4_v376), (hk9_v385.trans hk9_v376), (hk24_v385.trans hk24_v376), (hk25_v385.trans hk25_v376), (hk35_v385.trans hk35_v376), (hk36_v385.trans hk36_v376), (hk38_v385.trans hk38_v376), (hk39_v385.trans hk39_v376), (by show GA (v385 1).toInt (v 3).toInt (v385 3).toInt; exact GA.mk hgrew hGR (by omega)), (by show IM0 (v385 1).toInt (IMn (v385 15).toInt (progOK (f386 2) (f386 3) ((v385 8).toInt).toNat)); rw [hs2_f386, hs3_f386]; intro hz8 hz9; exact prog_n (hPF (by omega)) (by omega))⟩ hP hD hS dX11_readLine_306 (Nat.le_refl _) (Nat.le_refl _)
      · skip
        have zc382 : (v376 1).toInt = 0 := zEp rfl tc_0 c382
        refine lv_aload_n hx hb dX11_readLine_281 rfl (lv_at hl 0 rfl) ?_
        refine va_get (D := (dC, dI)) (ci := 11) (v := .int (v376 5)) (C := RX11) (T := TX11) (N := 79) hx hb hts inB_11 hown hE.1 hP 0 rfl rfl 6 (Nat.le_of_ble_eq_true rfl) (hts _ k_1326) (fun _ h9 => h9) rfl dX11_readLine_282 ?_
        refine lv_bipush (v := 59) hx hb dX11_readLine_285 rfl ?_
        refine lv_icmp_eq (tgt := 295) hx hb dX11_readLine_287 rfl (fun c394 => ?_) (fun c394 => ?_)
        · skip
          have zc394 : (v376 5).toInt = 59 := zEp rfl tc_59 c394
          refine lv_aload_n hx hb dX11_readLine_295 rfl (lv_at hl 0 rfl) ?_
          refine va_get (D := (dC, dI)) (ci := 11) (v := .int (v376 1)) (C := RX11) (T := TX11) (N := 79) hx hb hts inB_11 hown hE.1 hP 0 rfl rfl 2 (Nat.le_of_ble_eq_true rfl) (hts _ k_1322) (fun _ h9 => h9) rfl dX11_readLine_296 ?_
          refine lv_if_ne (tgt := 306) hx hb dX11_readLine_299 rfl (fun c395 => ?_) (fun c395 => ?_)
          · skip
            have zc395 : ¬ ((v376 1).toInt = 0) := zEn rfl tc_0 c395
            exact ret (v376, f377, w378, g379) _ _ _ _ _ _ ⟨(hT2.symm.trans (gsY_X11_readLine_1_q49 hG372 c374 hG375 c382 c394 c395)), hM_v376, hA_f377, hIv376, hCf377, hRf377, hk0_v376, hk4_v376, hk9_v376, hk24_v376, hk25_v376, hk35_v376, hk36_v376, hk38_v376, hk39_v376, (by show GA (v376 1).toInt (v 3).toInt (v376 3).toInt; exact GA.ab hGR (by omega) (by omega)), (by show IM0 (v376 1).toInt (IMn (v376 15).toInt (progOK (f377 2) (f377 3) ((v376 8).toInt).toNat)); intro hz8 hz9; exact prog_n (hPF (by omega)) (by omega))⟩ hP hD hS dX11_readLine_306 (Nat.le_refl _) (Nat.le_refl _)
          · skip
            have zc395 : (v376 1).toInt = 0 := zEp rfl tc_0 c395
            have hgrew := GR.grew hGR (by omega) (by omega)
            refine lv_aload_n hx hb dX11_readLine_302 rfl (lv_at hl 0 rfl) ?_
            refine cbVv (n := 0) (rest := []) hx hb hml hown hts hE hP hD hS hA (sY_X11_token_1 NF l dC dI cy y0 r  v376 f377 w378 g379 hIv376 hCf377 hRf377 ) k_1579 k_1581 k_42 k_114 k_1582 hd_yX11_token ⟨Nat.le_of_ble_eq_true rfl, Nat.le_of_ble_eq_true rfl⟩ 0 11 rfl rfl (rfl) hl.1 rfl (Nat.le_of_ble_eq_true rfl) dX11_readLine_303 (fun u H locs hw hP hD hS => ?_)
            obtain ⟨hG396, hw⟩ := hw
            obtain ⟨v397, f398, w399, g400⟩ := u
            obtain ⟨kV_v397, kF_f398, hIv397, hCf398, hRf398, hk0_v397, hk1_v397, hk2_v397, hk4_v397, hk8_v397, hk9_v397, hk10_v397, hk13_v397, hk14_v397, hk15_v397, hk17_v397, hk18_v397, hk24_v397, hk25_v397, hk35_v397, hk36_v397, hk38_v397, hk39_v397, pv401, pv402, kq403, kq404, kq405⟩ := hw
            have hM_v397 : KV [1, 2, 3, 5, 6, 7, 8, 10, 11, 13, 14, 15, 17, 18, 19, 20, 21, 22, 23, 30, 31, 32, 33, 34] v397 v := KV.tr kV_v397 hM_v376 (by decide +kernel)
            have hA_f398 : KF [2, 3, 6, 9, 10, 11, 12, 13, 14, 15] f398 f := KF.tr kF_f398 hA_f377 rfl
            have hP : va_P (dC, dI) vwCl (YW cy y0 r v397 f398 w399 g400) H := hP
            have hD : va_D A (YW cy y0 r v397 f398 w399 g400) := hD
            have b3_v397 : 0 ≤ (v397 3).toInt ∧ (v397 3).toInt ≤ 1600 := Yb_3 hIv397.1
            have pv401 : (v376 3).toInt ≤ (v397 3).toInt := pv401
            have pv402 : (v397 5).toInt = (v376 5).toInt ∨ (v376 3).toInt < (v397 3).toInt ∨ ¬ (v397 5).toInt = 59 := pv402
            have hs2_f398 : f398 2 = (f377 2) := kq403
            have hs3_f398 : f398 3 = (f377 3) := kq404
            have hUv397 : (v397 35).toInt + (v397 36).toInt ≤ 40 := hIv397.2
            have hq0_v397 : v397 0 = (v 0) := hk0_v397.trans hq0_v376
            have zq0_v397 := congrArg Int32.toInt hq0_v397
            try clear zq0_v376
            have hq1_v397 : v397 1 = (v376 1) := hk1_v397
            have zq1_v397 := congrArg Int32.toInt hq1_v397
            have hq8_v397 : v397 8 = (v376 8) := hk8_v397
            have zq8_v397 := congrArg Int32.toInt hq8_v397
            have hq9_v397 : v397 9 = (v 9) := hk9_v397.trans hq9_v376
            have zq9_v397 := congrArg Int32.toInt hq9_v397
            try clear zq9_v376
            have hq10_v397 : v397 10 = (v376 10) := hk10_v397
            have zq10_v397 := congrArg Int32.toInt hq10_v397
            have hq13_v397 : v397 13 = (v376 13) := hk13_v397
            have zq13_v397 := congrArg Int32.toInt hq13_v397
            have hq14_v397 : v397 14 = (v376 14) := hk14_v397
            have zq14_v397 := congrArg Int32.toInt hq14_v397
            have hq15_v397 : v397 15 = (v376 15) := hk15_v397
            have zq15_v397 := congrArg Int32.toInt hq15_v397
            have hq17_v397 : v397 17 = (v 17) := hk17_v397.trans hq17_v376
            have zq17_v397 := congrArg Int32.toInt hq17_v397
            try clear zq17_v376
            have hq18_v397 : v397 18 = (v 18) := hk18_v397.trans hq18_v376
            have zq18_v397 := congrArg Int32.toInt hq18_v397
            try clear zq18_v376
            have hGR : GR (v 3).toInt (v 5).toInt (v397 3).toInt (v397 5).toInt := GR.tr hGR (show GR (v376 3).toInt (v376 5).toInt (v397 3).toInt (v397 5).toInt from ⟨pv401, pv402⟩) (by first | with_reducible rfl | with_reducible assumption | rfl | omega) (by first | with_reducible rfl | with_reducible assumption | rfl | omega)
            clear pv402
            exact ret (v397, f398, w399, g400) _ _ _ _ _ _ ⟨(hT2.symm.trans (gsY_X11_readLine_1_q50 hG372 c374 hG375 c382 c394 c395 hG396)), hM_v397, hA_f398, hIv397, hCf398, hRf398, (hk0_v397.trans hk0_v376), (hk4_v397.trans hk4_v376), (hk9_v397.trans hk9_v376), (hk24_v397.trans hk24_v376), (hk25_v397.trans hk25_v376), (hk35_v397.trans hk35_v376), (hk36_v397.trans hk36_v376), (hk38_v397.trans hk38_v376), (hk39_v397.trans hk39_v376), (by show GA (v397 1).toInt (v 3).toInt (v397 3).toInt; exact GA.mk hgrew hGR (by omega)), (by show IM0 (v397 1).toInt (IMn (v397 15).toInt (progOK (f398 2) (f398 3) ((v397 8).toInt).toNat)); rw [hs2_f398, hs3_f398]; intro hz8 hz9; exact prog_n (hPF (by omega)) (by omega))⟩ hP hD hS dX11_readLine_306 (Nat.le_refl _) (Nat.le_refl _)
        · skip
          have zc394 : ¬ ((v376 5).toInt = 59) := zEn rfl tc_59 c394
          refine lv_aload_n hx hb dX11_readLine_290 rfl (lv_at hl 0 rfl) ?_
          refine lv_iconst (v := 2) hx hb dX11_readLine_291 rfl ?_
          refine cbVv (n := 1) (rest := []) hx hb hml hown hts hE hP hD hS hA (sY_X11_wrong_1 NF l dC dI cy y0 r 2 v376 f377 w378 g379 hIv376 hCf377 hRf377 ⟨by decide, by decide⟩) k_1641 k_1643 k_50 k_114 k_1644 hd_yX11_wrong ⟨Nat.le_of_ble_eq_true rfl, Nat.le_of_ble_eq_true rfl⟩ 0 11 rfl rfl (rfl) hl.1 rfl (Nat.le_of_ble_eq_true rfl) dX11_readLine_292 (fun u H locs hw hP hD hS => ?_)
          obtain ⟨hG406, hw⟩ := hw
          obtain ⟨v407, f408, w409, g410⟩ := u
          obtain ⟨kV_v407, kF_f408, hIv407, hCf408, hRf408, hk0_v407, hk3_v407, hk4_v407, hk5_v407, hk8_v407, hk9_v407, hk10_v407, hk13_v407, hk14_v407, hk15_v407, hk17_v407, hk18_v407, hk24_v407, hk25_v407, hk35_v407, hk36_v407, hk38_v407, hk39_v407, pv411, pv412, pv413, kq414, kq415, kq416⟩ := hw
          have hM_v407 : KV [1, 2, 3, 5, 6, 7, 8, 10, 11, 13, 14, 15, 17, 18, 19, 20, 21, 22, 23, 30, 31, 32, 33, 34] v407 v := KV.tr kV_v407 hM_v376 (by decide +kernel)
          have hA_f408 : KF [2, 3, 6, 9, 10, 11, 12, 13, 14, 15] f408 f := KF.tr kF_f408 hA_f377 rfl
          have hP : va_P (dC, dI) vwCl (YW cy y0 r v407 f408 w409 g410) H := hP
          have hD : va_D A (YW cy y0 r v407 f408 w409 g410) := hD
          have b3_v407 : 0 ≤ (v407 3).toInt ∧ (v407 3).toInt ≤ 1600 := Yb_3 hIv407.1
          have b1_v407 : 0 ≤ (v407 1).toInt ∧ (v407 1).toInt ≤ 4 := Yb_1 hIv407.1
          have pv411 : (v376 3).toInt ≤ (v407 3).toInt := pv411
          have pv412 : (v407 5).toInt = (v376 5).toInt ∨ (v376 3).toInt < (v407 3).toInt ∨ ¬ (v407 5).toInt = 59 := pv412
          have pv413 : 0 < (v407 1).toInt := pv413
          have hs2_f408 : f408 2 = (f377 2) := kq414
          have hs3_f408 : f408 3 = (f377 3) := kq415
          have hUv407 : (v407 35).toInt + (v407 36).toInt ≤ 40 := hIv407.2
          have hq0_v407 : v407 0 = (v 0) := hk0_v407.trans hq0_v376
          have zq0_v407 := congrArg Int32.toInt hq0_v407
          try clear zq0_v376
          have hq3_v407 : v407 3 = (v376 3) := hk3_v407
          have zq3_v407 := congrArg Int32.toInt hq3_v407
          have hq5_v407 : v407 5 = (v376 5) := hk5_v407
          have zq5_v407 := congrArg Int32.toInt hq5_v407
          have hq8_v407 : v407 8 = (v376 8) := hk8_v407
          have zq8_v407 := congrArg Int32.toInt hq8_v407
          have hq9_v407 : v407 9 = (v 9) := hk9_v407.trans hq9_v376
          have zq9_v407 := congrArg Int32.toInt hq9_v407
          try clear zq9_v376
          have hq10_v407 : v407 10 = (v376 10) := hk10_v407
          have zq10_v407 := congrArg Int32.toInt hq10_v407
          have hq13_v407 : v407 13 = (v376 13) := hk13_v407
          have zq13_v407 := congrArg Int32.toInt hq13_v407
          have hq14_v407 : v407 14 = (v376 14) := hk14_v407
          have zq14_v407 := congrArg Int32.toInt hq14_v407
          have hq15_v407 : v407 15 = (v376 15) := hk15_v407
          have zq15_v407 := congrArg Int32.toInt hq15_v407
          have hq17_v407 : v407 17 = (v 17) := hk17_v407.trans hq17_v376
          have zq17_v407 := congrArg Int32.toInt hq17_v407
          try clear zq17_v376
          have hq18_v407 : v407 18 = (v 18) := hk18_v407.trans hq18_v376
          have zq18_v407 := congrArg Int32.toInt hq18_v407
          try clear zq18_v376
          have hGR : GR (v 3).toInt (v 5).toInt (v407 3).toInt (v407 5).toInt := GR.tr hGR (show GR (v376 3).toInt (v376 5).toInt (v407 3).toInt (v407 5).toInt from ⟨pv411, pv412⟩) (by first | with_reducible rfl | with_reducible assumption | rfl | omega) (by first | with_reducible rfl | with_reducible assumption | rfl | omega)
          clear pv412
          refine lv_aload_n hx hb dX11_readLine_295 rfl (lv_at hl 0 rfl) ?_
          refine va_get (D := (dC, dI)) (ci := 11) (v := .int (v407 1)) (C := RX11) (T := TX11) (N := 79) hx hb hts inB_11 hown hE.1 hP 0 rfl rfl 2 (Nat.le_of_ble_eq_true rfl) (hts _ k_1322) (fun _ h9 => h9) rfl dX11_readLine_296 ?_
          have b1_v407 : 0 ≤ (v407 1).toInt ∧ (v407 1).toInt ≤ 4 := Yb_1 hIv407.1
          refine lv_if_ne (tgt := 306) hx hb dX11_readLine_299 rfl (fun c417 => ?_) (fun c417 => ?_)
          · skip
            have zc417 : ¬ ((v407 1).toInt = 0) := zEn rfl tc_0 c417
            exact ret (v407, f408, w409, g410) _ _ _ _ _ _ ⟨(hT2.symm.trans (gsY_X11_readLine_1_q51 hG372 c374 hG375 c382 c394 hG406 c417)), hM_v407, hA_f408, hIv407, hCf408, hRf408, (hk0_v407.trans hk0_v376), (hk4_v407.trans hk4_v376), (hk9_v407.trans hk9_v376), (hk24_v407.trans hk24_v376), (hk25_v407.trans hk25_v376), (hk35_v407.trans hk35_v376), (hk36_v407.trans hk36_v376), (hk38_v407.trans hk38_v376), (hk39_v407.trans hk39_v376), (by show GA (v407 1).toInt (v 3).toInt (v407 3).toInt; exact GA.ab hGR (by omega) (by omega)), (by show IM0 (v407 1).toInt (IMn (v407 15).toInt (progOK (f408 2) (f408 3) ((v407 8).toInt).toNat)); rw [hs2_f408, hs3_f408]; intro hz8 hz9; exact prog_n (hPF (by omega)) (by omega))⟩ hP hD hS dX11_readLine_306 (Nat.le_refl _) (Nat.le_refl _)
          · skip
            have zc417 : (v407 1).toInt = 0 := zEp rfl tc_0 c417
            refine lv_aload_n hx hb dX11_readLine_302 rfl (lv_at hl 0 rfl) ?_
            refine cbVv (n := 0) (rest := []) hx hb hml hown hts hE hP hD hS hA (sY_X11_token_1 NF l dC dI cy y0 r  v407 f408 w409 g410 hIv407 hCf408 hRf408 ) k_1579 k_1581 k_42 k_114 k_1582 hd_yX11_token ⟨Nat.le_of_ble_eq_true rfl, Nat.le_of_ble_eq_true rfl⟩ 0 11 rfl rfl (rfl) hl.1 rfl (Nat.le_of_ble_eq_true rfl) dX11_readLine_303 (fun u H locs hw hP hD hS => ?_)
            obtain ⟨hG418, hw⟩ := hw
            obtain ⟨v419, f420, w421, g422⟩ := u
            obtain ⟨kV_v419, kF_f420, hIv419, hCf420, hRf420, hk0_v419, hk1_v419, hk2_v419, hk4_v419, hk8_v419, hk9_v419, hk10_v419, hk13_v419, hk14_v419, hk15_v419, hk17_v419, hk18_v419, hk24_v419, hk25_v419, hk35_v419, hk36_v419, hk38_v419, hk39_v419, pv423, pv424, kq425, kq426, kq427⟩ := hw
            have hM_v419 : KV [1, 2, 3, 5, 6, 7, 8, 10, 11, 13, 14, 15, 17, 18, 19, 20, 21, 22, 23, 30, 31, 32, 33, 34] v419 v := KV.tr kV_v419 hM_v407 (by decide +kernel)
            have hA_f420 : KF [2, 3, 6, 9, 10, 11, 12, 13, 14, 15] f420 f := KF.tr kF_f420 hA_f408 rfl
            have hP : va_P (dC, dI) vwCl (YW cy y0 r v419 f420 w421 g422) H := hP
            have hD : va_D A (YW cy y0 r v419 f420 w421 g422) := hD
            have b3_v419 : 0 ≤ (v419 3).toInt ∧ (v419 3).toInt ≤ 1600 := Yb_3 hIv419.1
            have pv423 : (v407 3).toInt ≤ (v419 3).toInt := pv423
            have pv424 : (v419 5).toInt = (v407 5).toInt ∨ (v407 3).toInt < (v419 3).toInt ∨ ¬ (v419 5).toInt = 59 := pv424
            have hs2_f420 : f420 2 = (f377 2) := kq425.trans hs2_f408
            have hs3_f420 : f420 3 = (f377 3) := kq426.trans hs3_f408
            have hUv419 : (v419 35).toInt + (v419 36).toInt ≤ 40 := hIv419.2
            have hq0_v419 : v419 0 = (v 0) := hk0_v419.trans hq0_v407
            have zq0_v419 := congrArg Int32.toInt hq0_v419
            try clear zq0_v407
            have hq1_v419 : v419 1 = (v407 1) := hk1_v419
            have zq1_v419 := congrArg Int32.toInt hq1_v419
            have hq8_v419 : v419 8 = (v376 8) := hk8_v419.trans hq8_v407
            have zq8_v419 := congrArg Int32.toInt hq8_v419
            try clear zq8_v407
            have hq9_v419 : v419 9 = (v 9) := hk9_v419.trans hq9_v407
            have zq9_v419 := congrArg Int32.toInt hq9_v419
            try clear zq9_v407
            have hq10_v419 : v419 10 = (v376 10) := hk10_v419.trans hq10_v407
            have zq10_v419 := congrArg Int32.toInt hq10_v419
            try clear zq10_v407
            have hq13_v419 : v419 13 = (v376 13) := hk13_v419.trans hq13_v407
            have zq13_v419 := congrArg Int32.toInt hq13_v419
            try clear zq13_v407
            have hq14_v419 : v419 14 = (v376 14) := hk14_v419.trans hq14_v407
            have zq14_v419 := congrArg Int32.toInt hq14_v419
            try clear zq14_v407
            have hq15_v419 : v419 15 = (v376 15) := hk15_v419.trans hq15_v407
            have zq15_v419 := congrArg Int32.toInt hq15_v419
            try clear zq15_v407
            have hq17_v419 : v419 17 = (v 17) := hk17_v419.trans hq17_v407
            have zq17_v419 := congrArg Int32.toInt hq17_v419
            try clear zq17_v407
            have hq18_v419 : v419 18 = (v 18) := hk18_v419.trans hq18_v407
            have zq18_v419 := congrArg Int32.toInt hq18_v419
            try clear zq18_v407
            have hGR : GR (v 3).toInt (v 5).toInt (v419 3).toInt (v419 5).toInt := GR.tr hGR (show GR (v407 3).toInt (v407 5).toInt (v419 3).toInt (v419 5).toInt from ⟨pv423, pv424⟩) (by first | with_reducible rfl | with_reducible assumption | rfl | omega) (by first | with_reducible rfl | with_reducible assumption | rfl | omega)
            clear pv424
            exact ret (v419, f420, w421, g422) _ _ _ _ _ _ ⟨(hT2.symm.trans (gsY_X11_readLine_1_q52 hG372 c374 hG375 c382 c394 hG406 c417 hG418)), hM_v419, hA_f420, hIv419, hCf420, hRf420, (hk0_v419.trans (hk0_v407.trans hk0_v376)), (hk4_v419.trans (hk4_v407.trans hk4_v376)), (hk9_v419.trans (hk9_v407.trans hk9_v376)), (hk24_v419.trans (hk24_v407.trans hk24_v376)), (hk25_v419.trans (hk25_v407.trans hk25_v376)), (hk35_v419.trans (hk35_v407.trans hk35_v376)), (hk36_v419.trans (hk36_v407.trans hk36_v376)), (hk38_v419.trans (hk38_v407.trans hk38_v376)), (hk39_v419.trans (hk39_v407.trans hk39_v376)), (by show GA (v419 1).toInt (v 3).toInt (v419 3).toInt; exact GA.ab hGR (by omega) (by omega)), (by show IM0 (v419 1).toInt (IMn (v419 15).toInt (progOK (f420 2) (f420 3) ((v419 8).toInt).toNat)); rw [hs2_f420, hs3_f420]; intro hz8 hz9; exact prog_n (hPF (by omega)) (by omega))⟩ hP hD hS dX11_readLine_306 (Nat.le_refl _) (Nat.le_refl _)
  · skip
    subst g373
    refine lv_if_eq (tgt := 76) hx hb dX11_readLine_59 rfl (fun _ => ?_) (fun c0 => absurd (by decide) c0)
    exact jp76 _ _ _ ((gsY_X11_readLine_1_q53 hG372).symm.trans hT2) hP hD hS hl
set_option maxHeartbeats 4000000 in
set_option maxRecDepth 100000 in
theorem sY_X11_readLine_1_jp26 (NF : Nat) (l : Launch) (dC : Nat → ClassId) (dI : Nat → Nat → Nat) (cy : Nat → ClassId) (y0 : Nat) (r : Nat → Nat)  (v : Nat → Int32) (f : Nat → Nat → Int32) (w : Int64) (g : Nat → Int64) (hIv : YI v) (hCf : YC f) (hRf : progOK (f 4) (f 5) (v 9).toInt.toNat)  (hf0 : (v 1).toInt = 0) (hg0 : IMn (v 15).toInt (progOK (f 2) (f 3) ((v 8).toInt).toNat)) {p : Program} {e : Env} {s : State} {m : MethodId} {below : List Frame} {meth : Method} {c : Code} {A : Nat → Prop} {Q : State → Prop} (hx : p.tables.exec = Jvm.exec) (hb : c.code = cX11_readLine) (hml : c.maxLocals = 1) (hts : ∀ w ∈ BIG, w.before ([.ref y0] : List Value).toArray s = true) (hown : s.vm.findClass RX11 = some m.cls) (hE : ENV (dC, dI) cy s) (hA : ∀ q, s.heap.size ≤ q → A q) (ret : ∀ (u : ((Nat → Int32) × (Nat → Nat → Int32) × (Int64) × (Nat → Int64))) (H : Heap) (locs : List Loc) (pc cells slots : Nat) (ls : Array Slot), (gsY_X11_readLine_1 NF v f w g = u ∧ KV [1, 2, 3, 5, 6, 7, 8, 10, 11, 13, 14, 15, 17, 18, 19, 20, 21, 22, 23, 30, 31, 32, 33, 34] u.1 v ∧ KF [2, 3, 6, 9, 10, 11, 12, 13, 14, 15] u.2.1 f ∧ YI u.1 ∧ YC u.2.1 ∧ progOK (u.2.1 4) (u.2.1 5) (u.1 9).toInt.toNat ∧ u.1 0 = v 0 ∧ u.1 4 = v 4 ∧ u.1 9 = v 9 ∧ u.1 24 = v 24 ∧ u.1 25 = v 25 ∧ u.1 35 = v 35 ∧ u.1 36 = v 36 ∧ u.1 38 = v 38 ∧ u.1 39 = v 39 ∧ (GA (u.1 1).toInt (v 3).toInt (u.1 3).toInt) ∧ (IM0 (u.1 1).toInt (IMn (u.1 15).toInt (progOK (u.2.1 2) (u.2.1 3) ((u.1 8).toInt).toNat)))) → va_P (dC, dI) vwCl (YW cy y0 r u.1 u.2.1 u.2.2.1 u.2.2.2) H → va_D A (YW cy y0 r u.1 u.2.1 u.2.2.1 u.2.2.2) → va_S A s.heap H locs → decode cX11_readLine pc = .ok (.return_, 1) → cells ≤ 0 → slots ≤ 0 → W p l e { frames := 7, cells := 0, slots := 0, locals := 192 } s m ([.ref y0] : List Value).toArray below meth c H locs cells slots Q (F0 m pc ls [])) (jp52 : ∀ (H : Heap) (locs : List Loc) (ls : Array Slot), gsY_X11_readLine_1_J2 NF v f w g = (gsY_X11_readLine_1 NF v f w g) → va_P (dC, dI) vwCl (YW cy y0 r v f w g) H → va_D A (YW cy y0 r v f w g) → va_S A s.heap H locs → lv_has ls 1 [(0, .ref y0)] → W p l e { frames := 7, cells := 0, slots := 0, locals := 192 } s m ([.ref y0] : List Value).toArray below meth c H locs 0 0 Q (F0 m 52 ls [])) : ∀ (H : Heap) (locs : List Loc) (ls : Array Slot), gsY_X11_readLine_1_J1 NF v f w g = (gsY_X11_readLine_1 NF v f w g) → va_P (dC, dI) vwCl (YW cy y0 r v f w g) H → va_D A (YW cy y0 r v f w g) → va_S A s.heap H locs → lv_has ls 1 [(0, .ref y0)] → W p l e { frames := 7, cells := 0, slots := 0, locals := 192 } s m ([.ref y0] : List Value).toArray below meth c H locs 0 0 Q (F0 m 26 ls []) := by
  have hUv : (v 35).toInt + (v 36).toInt ≤ 40 := hIv.2
  have hM_v : KV [1, 2, 3, 5, 6, 7, 8, 10, 11, 13, 14, 15, 17, 18, 19, 20, 21, 22, 23, 30, 31, 32, 33, 34] v v := fun _ _ => rfl
  have hA_f : KF [2, 3, 6, 9, 10, 11, 12, 13, 14, 15] f f := fun _ _ => rfl
  have hPR := hg0
  have b0_v : (0 : Int) ≤ (v 0).toInt ∧ (v 0).toInt ≤ 1600 := Yb_0 hIv.1
  have b1_v : (0 : Int) ≤ (v 1).toInt ∧ (v 1).toInt ≤ 4 := Yb_1 hIv.1
  have b8_v : (0 : Int) ≤ (v 8).toInt ∧ (v 8).toInt ≤ 320 := Yb_8 hIv.1
  have b10_v : (0 : Int) ≤ (v 10).toInt ∧ (v 10).toInt ≤ 160 := Yb_10 hIv.1
  have b13_v : (0 : Int) ≤ (v 13).toInt ∧ (v 13).toInt ≤ 31 := Yb_13 hIv.1
  have b14_v : (0 : Int) ≤ (v 14).toInt ∧ (v 14).toInt ≤ 8 := Yb_14 hIv.1
  have b15_v : (0 : Int) ≤ (v 15).toInt ∧ (v 15).toInt ≤ 1 := Yb_15 hIv.1
  have b17_v : (0 : Int) ≤ (v 17).toInt ∧ (v 17).toInt ≤ 6 := Yb_17 hIv.1
  have b18_v : (0 : Int) ≤ (v 18).toInt ∧ (v 18).toInt ≤ 6 := Yb_18 hIv.1
  have hGR : GR (v 3).toInt (v 5).toInt (v 3).toInt (v 5).toInt := GR.refl _ _
  intro H locs ls hT1 hP hD hS hl
  revert jp52
  intro jp52
  refine lv_aload_n hx hb dX11_readLine_26 rfl (lv_at hl 0 rfl) ?_
  refine lv_ldc2 (v := 1668243828) hx hb hown (hts _ k_1624) dX11_readLine_27 ?_
  refine cbVi (n := 1) (rest := []) hx hb hml hown hts hE hP hD hS hA (sY_X11_isWord_1 NF l dC dI cy y0 r 1668243828 v f w g hIv hCf hRf ) k_1601 k_1603 k_45 k_114 k_1604 hd_yX11_isWord ⟨Nat.le_of_ble_eq_true rfl, Nat.le_of_ble_eq_true rfl⟩ 0 11 rfl rfl (rfl) hl.1 rfl (Nat.le_of_ble_eq_true rfl) dX11_readLine_30 (fun r428 u H locs hw hP hD hS => ?_)
  obtain ⟨hG429, hw⟩ := hw
  rcases hw with ⟨g430, g430_0⟩ | ⟨g430⟩
  · skip
    subst g430
    refine lv_if_eq (tgt := 52) hx hb dX11_readLine_33 rfl (fun c0 => absurd c0 (by decide)) (fun _ => ?_)
    refine lv_aload_n hx hb dX11_readLine_36 rfl (lv_at hl 0 rfl) ?_
    refine va_get (D := (dC, dI)) (ci := 11) (v := .int (v 18)) (C := RX11) (T := TX11) (N := 79) hx hb hts inB_11 hown hE.1 hP 0 rfl rfl 42 (Nat.le_of_ble_eq_true rfl) (hts _ k_1362) (fun _ h9 => h9) rfl dX11_readLine_37 ?_
    have b18_v : 0 ≤ (v 18).toInt ∧ (v 18).toInt ≤ 6 := Yb_18 hIv.1
    refine lv_bipush (v := 6) hx hb dX11_readLine_40 rfl ?_
    refine lv_icmp_ge (tgt := 52) hx hb dX11_readLine_42 rfl (fun c431 => ?_) (fun c431 => ?_)
    · skip
      exact jp52 _ _ _ ((gsY_X11_readLine_1_q54 hG429 c431).symm.trans hT1) hP hD hS hl
    · skip
      have zc431 : ¬ (6 ≤ (v 18).toInt) := zMn tc_6 rfl c431
      refine lv_aload_n hx hb dX11_readLine_45 rfl (lv_at hl 0 rfl) ?_
      refine cbVv (n := 0) (rest := []) hx hb hml hown hts hE hP hD hS hA (sY_X11_readCoat_1 NF l dC dI cy y0 r  v f w g hIv hCf hRf (show (v 18).toInt ≤ 5 from om_455 zc431)) k_1661 k_1663 k_55 k_114 k_1664 hd_yX11_readCoat ⟨Nat.le_of_ble_eq_true rfl, Nat.le_of_ble_eq_true rfl⟩ 0 11 rfl rfl (rfl) hl.1 rfl (Nat.le_of_ble_eq_true rfl) dX11_readLine_46 (fun u H locs hw hP hD hS => ?_)
      obtain ⟨hG432, hw⟩ := hw
      obtain ⟨v433, f434, w435, g436⟩ := u
      obtain ⟨kV_v433, kF_f434, hIv433, hCf434, hRf434, hk0_v433, hk4_v433, hk8_v433, hk9_v433, hk10_v433, hk13_v433, hk14_v433, hk15_v433, hk17_v433, hk24_v433, hk25_v433, hk35_v433, hk36_v433, hk38_v433, hk39_v433, pv437, pv438, kq439, kq440, kq441⟩ := hw
      have hM_v433 : KV [1, 2, 3, 5, 6, 7, 8, 10, 11, 13, 14, 15, 17, 18, 19, 20, 21, 22, 23, 30, 31, 32, 33, 34] v433 v := KV.tr kV_v433 hM_v (by decide +kernel)
      have hA_f434 : KF [2, 3, 6, 9, 10, 11, 12, 13, 14, 15] f434 f := KF.tr kF_f434 hA_f rfl
      have hP : va_P (dC, dI) vwCl (YW cy y0 r v433 f434 w435 g436) H := hP
      have hD : va_D A (YW cy y0 r v433 f434 w435 g436) := hD
      have b3_v433 : 0 ≤ (v433 3).toInt ∧ (v433 3).toInt ≤ 1600 := Yb_3 hIv433.1
      have pv437 : (v 3).toInt ≤ (v433 3).toInt := pv437
      have pv438 : (v433 5).toInt = (v 5).toInt ∨ (v 3).toInt < (v433 3).toInt ∨ ¬ (v433 5).toInt = 59 := pv438
      have hs2_f434 : f434 2 = (f 2) := kq439
      have hs3_f434 : f434 3 = (f 3) := kq440
      have hUv433 : (v433 35).toInt + (v433 36).toInt ≤ 40 := hIv433.2
      have hq0_v433 : v433 0 = (v 0) := hk0_v433
      have zq0_v433 := congrArg Int32.toInt hq0_v433
      have hq8_v433 : v433 8 = (v 8) := hk8_v433
      have zq8_v433 := congrArg Int32.toInt hq8_v433
      have hq9_v433 : v433 9 = (v 9) := hk9_v433
      have zq9_v433 := congrArg Int32.toInt hq9_v433
      have hq10_v433 : v433 10 = (v 10) := hk10_v433
      have zq10_v433 := congrArg Int32.toInt hq10_v433
      have hq13_v433 : v433 13 = (v 13) := hk13_v433
      have zq13_v433 := congrArg Int32.toInt hq13_v433
      have hq14_v433 : v433 14 = (v 14) := hk14_v433
      have zq14_v433 := congrArg Int32.toInt hq14_v433
      have hq15_v433 : v433 15 = (v 15) := hk15_v433
      have zq15_v433 := congrArg Int32.toInt hq15_v433
      have hq17_v433 : v433 17 = (v 17) := hk17_v433
      have zq17_v433 := congrArg Int32.toInt hq17_v433
      have hGR : GR (v 3).toInt (v 5).toInt (v433 3).toInt (v433 5).toInt := GR.tr hGR (show GR (v 3).toInt (v 5).toInt (v433 3).toInt (v433 5).toInt from ⟨pv437, pv438⟩) (by first | with_reducible rfl | with_reducible assumption | rfl | omega) (by first | with_reducible rfl | with_reducible assumption | rfl | omega)
      clear pv438
      refine lv_goto (tgt := 274) hx hb dX11_readLine_49 rfl ?_
      refine lv_aload_n hx hb dX11_readLine_274 rfl (lv_at hl 0 rfl) ?_
      refine va_get (D := (dC, dI)) (ci := 11) (v := .int (v433 1)) (C := RX11) (T := TX11) (N := 79) hx hb hts inB_11 hown hE.1 hP 0 rfl rfl 2 (Nat.le_of_ble_eq_true rfl) (hts _ k_1322) (fun _ h9 => h9) rfl dX11_readLine_275 ?_
      have b1_v433 : 0 ≤ (v433 1).toInt ∧ (v433 1).toInt ≤ 4 := Yb_1 hIv433.1
      refine lv_if_ne (tgt := 295) hx hb dX11_readLine_278 rfl (fun c442 => ?_) (fun c442 => ?_)
      · skip
        have zc442 : ¬ ((v433 1).toInt = 0) := zEn rfl tc_0 c442
        refine lv_aload_n hx hb dX11_readLine_295 rfl (lv_at hl 0 rfl) ?_
        refine va_get (D := (dC, dI)) (ci := 11) (v := .int (v433 1)) (C := RX11) (T := TX11) (N := 79) hx hb hts inB_11 hown hE.1 hP 0 rfl rfl 2 (Nat.le_of_ble_eq_true rfl) (hts _ k_1322) (fun _ h9 => h9) rfl dX11_readLine_296 ?_
        refine lv_if_ne (tgt := 306) hx hb dX11_readLine_299 rfl (fun c443 => ?_) (fun c443 => ?_)
        · skip
          have zc443 : ¬ ((v433 1).toInt = 0) := zEn rfl tc_0 c443
          exact ret (v433, f434, w435, g436) _ _ _ _ _ _ ⟨(hT1.symm.trans (gsY_X11_readLine_1_q55 hG429 c431 hG432 c442 c443)), hM_v433, hA_f434, hIv433, hCf434, hRf434, hk0_v433, hk4_v433, hk9_v433, hk24_v433, hk25_v433, hk35_v433, hk36_v433, hk38_v433, hk39_v433, (by show GA (v433 1).toInt (v 3).toInt (v433 3).toInt; exact GA.ab hGR (by omega) (by omega)), (by show IM0 (v433 1).toInt (IMn (v433 15).toInt (progOK (f434 2) (f434 3) ((v433 8).toInt).toNat)); rw [hs2_f434, hs3_f434]; intro hz8 hz9; exact prog_n (hPR (by omega)) (by omega))⟩ hP hD hS dX11_readLine_306 (Nat.le_refl _) (Nat.le_refl _)
        · skip
          have zc443 : (v433 1).toInt = 0 := zEp rfl tc_0 c443
          have hgrew := GR.grew hGR (by omega) (by omega)
          refine lv_aload_n hx hb dX11_readLine_302 rfl (lv_at hl 0 rfl) ?_
          refine cbVv (n := 0) (rest := []) hx hb hml hown hts hE hP hD hS hA (sY_X11_token_1 NF l dC dI cy y0 r  v433 f434 w435 g436 hIv433 hCf434 hRf434 ) k_1579 k_1581 k_42 k_114 k_1582 hd_yX11_token ⟨Nat.le_of_ble_eq_true rfl, Nat.le_of_ble_eq_true rfl⟩ 0 11 rfl rfl (rfl) hl.1 rfl (Nat.le_of_ble_eq_true rfl) dX11_readLine_303 (fun u H locs hw hP hD hS => ?_)
          obtain ⟨hG444, hw⟩ := hw
          obtain ⟨v445, f446, w447, g448⟩ := u
          obtain ⟨kV_v445, kF_f446, hIv445, hCf446, hRf446, hk0_v445, hk1_v445, hk2_v445, hk4_v445, hk8_v445, hk9_v445, hk10_v445, hk13_v445, hk14_v445, hk15_v445, hk17_v445, hk18_v445, hk24_v445, hk25_v445, hk35_v445, hk36_v445, hk38_v445, hk39_v445, pv449, pv450, kq451, kq452, kq453⟩ := hw
          have hM_v445 : KV [1, 2, 3, 5, 6, 7, 8, 10, 11, 13, 14, 15, 17, 18, 19, 20, 21, 22, 23, 30, 31, 32, 33, 34] v445 v := KV.tr kV_v445 hM_v433 (by decide +kernel)
          have hA_f446 : KF [2, 3, 6, 9, 10, 11, 12, 13, 14, 15] f446 f := KF.tr kF_f446 hA_f434 rfl
          have hP : va_P (dC, dI) vwCl (YW cy y0 r v445 f446 w447 g448) H := hP
          have hD : va_D A (YW cy y0 r v445 f446 w447 g448) := hD
          have b3_v445 : 0 ≤ (v445 3).toInt ∧ (v445 3).toInt ≤ 1600 := Yb_3 hIv445.1
          have pv449 : (v433 3).toInt ≤ (v445 3).toInt := pv449
          have pv450 : (v445 5).toInt = (v433 5).toInt ∨ (v433 3).toInt < (v445 3).toInt ∨ ¬ (v445 5).toInt = 59 := pv450
          have hs2_f446 : f446 2 = (f 2) := kq451.trans hs2_f434
          have hs3_f446 : f446 3 = (f 3) := kq452.trans hs3_f434
          have hUv445 : (v445 35).toInt + (v445 36).toInt ≤ 40 := hIv445.2
          have hq0_v445 : v445 0 = (v 0) := hk0_v445.trans hq0_v433
          have zq0_v445 := congrArg Int32.toInt hq0_v445
          try clear zq0_v433
          have hq1_v445 : v445 1 = (v433 1) := hk1_v445
          have zq1_v445 := congrArg Int32.toInt hq1_v445
          have hq8_v445 : v445 8 = (v 8) := hk8_v445.trans hq8_v433
          have zq8_v445 := congrArg Int32.toInt hq8_v445
          try clear zq8_v433
          have hq9_v445 : v445 9 = (v 9) := hk9_v445.trans hq9_v433
          have zq9_v445 := congrArg Int32.toInt hq9_v445
          try clear zq9_v433
          have hq10_v445 : v445 10 = (v 10) := hk10_v445.trans hq10_v433
          have zq10_v445 := congrArg Int32.toInt hq10_v445
          try clear zq10_v433
          have hq13_v445 : v445 13 = (v 13) := hk13_v445.trans hq13_v433
          have zq13_v445 := congrArg Int32.toInt hq13_v445
          try clear zq13_v433
          have hq14_v445 : v445 14 = (v 14) := hk14_v445.trans hq14_v433
          have zq14_v445 := congrArg Int32.toInt hq14_v445
          try clear zq14_v433
          have hq15_v445 : v445 15 = (v 15) := hk15_v445.trans hq15_v433
          have zq15_v445 := congrArg Int32.toInt hq15_v445
          try clear zq15_v433
          have hq17_v445 : v445 17 = (v 17) := hk17_v445.trans hq17_v433
          have zq17_v445 := congrArg Int32.toInt hq17_v445
          try clear zq17_v433
          have hq18_v445 : v445 18 = (v433 18) := hk18_v445
          have zq18_v445 := congrArg Int32.toInt hq18_v445
          have hGR : GR (v 3).toInt (v 5).toInt (v445 3).toInt (v445 5).toInt := GR.tr hGR (show GR (v433 3).toInt (v433 5).toInt (v445 3).toInt (v445 5).toInt from ⟨pv449, pv450⟩) (by first | with_reducible rfl | with_reducible assumption | rfl | omega) (by first | with_reducible rfl | with_reducible assumption | rfl | omega)
          clear pv450
          exact ret (v445, f446, w447, g448) _ _ _ _ _ _ ⟨(hT1.symm.trans (gsY_X11_readLine_1_q56 hG429 c431 hG432 c442 c443 hG444)), hM_v445, hA_f446, hIv445, hCf446, hRf446, (hk0_v445.trans hk0_v433), (hk4_v445.trans hk4_v433), (hk9_v445.trans hk9_v433), (hk24_v445.trans hk24_v433), (hk25_v445.trans hk25_v433), (hk35_v445.trans hk35_v433), (hk36_v445.trans hk36_v433), (hk38_v445.trans hk38_v433), (hk39_v445.trans hk39_v433), (by show GA (v445 1).toInt (v 3).toInt (v445 3).toInt; exact GA.mk hgrew hGR (by omega)), (by show IM0 (v445 1).toInt (IMn (v445 15).toInt (progOK (f446 2) (f446 3) ((v445 8).toInt).toNat)); rw [hs2_f446, hs3_f446]; intro hz8 hz9; exact prog_n (hPR (by omega)) (by omega))⟩ hP hD hS dX11_readLine_306 (Nat.le_refl _) (Nat.le_refl _)
      · skip
        have zc442 : (v433 1).toInt = 0 := zEp rfl tc_0 c442
        refine lv_aload_n hx hb dX11_readLine_281 rfl (lv_at hl 0 rfl) ?_
        refine va_get (D := (dC, dI)) (ci := 11) (v := .int (v433 5)) (C := RX11) (T := TX11) (N := 79) hx hb hts inB_11 hown hE.1 hP 0 rfl rfl 6 (Nat.le_of_ble_eq_true rfl) (hts _ k_1326) (fun _ h9 => h9) rfl dX11_readLine_282 ?_
        refine lv_bipush (v := 59) hx hb dX11_readLine_285 rfl ?_
        refine lv_icmp_eq (tgt := 295) hx hb dX11_readLine_287 rfl (fun c454 => ?_) (fun c454 => ?_)
        · skip
          have zc454 : (v433 5).toInt = 59 := zEp rfl tc_59 c454
          refine lv_aload_n hx hb dX11_readLine_295 rfl (lv_at hl 0 rfl) ?_
          refine va_get (D := (dC, dI)) (ci := 11) (v := .int (v433 1)) (C := RX11) (T := TX11) (N := 79) hx hb hts inB_11 hown hE.1 hP 0 rfl rfl 2 (Nat.le_of_ble_eq_true rfl) (hts _ k_1322) (fun _ h9 => h9) rfl dX11_readLine_296 ?_
          refine lv_if_ne (tgt := 306) hx hb dX11_readLine_299 rfl (fun c455 => ?_) (fun c455 => ?_)
          · skip
            have zc455 : ¬ ((v433 1).toInt = 0) := zEn rfl tc_0 c455
            exact ret (v433, f434, w435, g436) _ _ _ _ _ _ ⟨(hT1.symm.trans (gsY_X11_readLine_1_q57 hG429 c431 hG432 c442 c454 c455)), hM_v433, hA_f434, hIv433, hCf434, hRf434, hk0_v433, hk4_v433, hk9_v433, hk24_v433, hk25_v433, hk35_v433, hk36_v433, hk38_v433, hk39_v433, (by show GA (v433 1).toInt (v 3).toInt (v433 3).toInt; exact GA.ab hGR (by omega) (by omega)), (by show IM0 (v433 1).toInt (IMn (v433 15).toInt (progOK (f434 2) (f434 3) ((v433 8).toInt).toNat)); rw [hs2_f434, hs3_f434]; intro hz8 hz9; exact prog_n (hPR (by omega)) (by omega))⟩ hP hD hS dX11_readLine_306 (Nat.le_refl _) (Nat.le_refl _)
          · skip
            have zc455 : (v433 1).toInt = 0 := zEp rfl tc_0 c455
            have hgrew := GR.grew hGR (by omega) (by omega)
            refine lv_aload_n hx hb dX11_readLine_302 rfl (lv_at hl 0 rfl) ?_
            refine cbVv (n := 0) (rest := []) hx hb hml hown hts hE hP hD hS hA (sY_X11_token_1 NF l dC dI cy y0 r  v433 f434 w435 g436 hIv433 hCf434 hRf434 ) k_1579 k_1581 k_42 k_114 k_1582 hd_yX11_token ⟨Nat.le_of_ble_eq_true rfl, Nat.le_of_ble_eq_true rfl⟩ 0 11 rfl rfl (rfl) hl.1 rfl (Nat.le_of_ble_eq_true rfl) dX11_readLine_303 (fun u H locs hw hP hD hS => ?_)
            obtain ⟨hG456, hw⟩ := hw
            obtain ⟨v457, f458, w459, g460⟩ := u
            obtain ⟨kV_v457, kF_f458, hIv457, hCf458, hRf458, hk0_v457, hk1_v457, hk2_v457, hk4_v457, hk8_v457, hk9_v457, hk10_v457, hk13_v457, hk14_v457, hk15_v457, hk17_v457, hk18_v457, hk24_v457, hk25_v457, hk35_v457, hk36_v457, hk38_v457, hk39_v457, pv461, pv462, kq463, kq464, kq465⟩ := hw
            have hM_v457 : KV [1, 2, 3, 5, 6, 7, 8, 10, 11, 13, 14, 15, 17, 18, 19, 20, 21, 22, 23, 30, 31, 32, 33, 34] v457 v := KV.tr kV_v457 hM_v433 (by decide +kernel)
            have hA_f458 : KF [2, 3, 6, 9, 10, 11, 12, 13, 14, 15] f458 f := KF.tr kF_f458 hA_f434 rfl
            have hP : va_P (dC, dI) vwCl (YW cy y0 r v457 f458 w459 g460) H := hP
            have hD : va_D A (YW cy y0 r v457 f458 w459 g460) := hD
            have b3_v457 : 0 ≤ (v457 3).toInt ∧ (v457 3).toInt ≤ 1600 := Yb_3 hIv457.1
            have pv461 : (v433 3).toInt ≤ (v457 3).toInt := pv461
            have pv462 : (v457 5).toInt = (v433 5).toInt ∨ (v433 3).toInt < (v457 3).toInt ∨ ¬ (v457 5).toInt = 59 := pv462
            have hs2_f458 : f458 2 = (f 2) := kq463.trans hs2_f434
            have hs3_f458 : f458 3 = (f 3) := kq464.trans hs3_f434
            have hUv457 : (v457 35).toInt + (v457 36).toInt ≤ 40 := hIv457.2
            have hq0_v457 : v457 0 = (v 0) := hk0_v457.trans hq0_v433
            have zq0_v457 := congrArg Int32.toInt hq0_v457
            try clear zq0_v433
            have hq1_v457 : v457 1 = (v433 1) := hk1_v457
            have zq1_v457 := congrArg Int32.toInt hq1_v457
            have hq8_v457 : v457 8 = (v 8) := hk8_v457.trans hq8_v433
            have zq8_v457 := congrArg Int32.toInt hq8_v457
            try clear zq8_v433
            have hq9_v457 : v457 9 = (v 9) := hk9_v457.trans hq9_v433
            have zq9_v457 := congrArg Int32.toInt hq9_v457
            try clear zq9_v433
            have hq10_v457 : v457 10 = (v 10) := hk10_v457.trans hq10_v433
            have zq10_v457 := congrArg Int32.toInt hq10_v457
            try clear zq10_v433
            have hq13_v457 : v457 13 = (v 13) := hk13_v457.trans hq13_v433
            have zq13_v457 := congrArg Int32.toInt hq13_v457
            try clear zq13_v433
            have hq14_v457 : v457 14 = (v 14) := hk14_v457.trans hq14_v433
            have zq14_v457 := congrArg Int32.toInt hq14_v457
            try clear zq14_v433
            have hq15_v457 : v457 15 = (v 15) := hk15_v457.trans hq15_v433
            have zq15_v457 := congrArg Int32.toInt hq15_v457
            try clear zq15_v433
            have hq17_v457 : v457 17 = (v 17) := hk17_v457.trans hq17_v433
            have zq17_v457 := congrArg Int32.toInt hq17_v457
            try clear zq17_v433
            have hq18_v457 : v457 18 = (v433 18) := hk18_v457
            have zq18_v457 := congrArg Int32.toInt hq18_v457
            have hGR : GR (v 3).toInt (v 5).toInt (v457 3).toInt (v457 5).toInt := GR.tr hGR (show GR (v433 3).toInt (v433 5).toInt (v457 3).toInt (v457 5).toInt from ⟨pv461, pv462⟩) (by first | with_reducible rfl | with_reducible assumption | rfl | omega) (by first | with_reducible rfl | with_reducible assumption | rfl | omega)
            clear pv462
            exact ret (v457, f458, w459, g460) _ _ _ _ _ _ ⟨(hT1.symm.trans (gsY_X11_readLine_1_q58 hG429 c431 hG432 c442 c454 c455 hG456)), hM_v457, hA_f458, hIv457, hCf458, hRf458, (hk0_v457.trans hk0_v433), (hk4_v457.trans hk4_v433), (hk9_v457.trans hk9_v433), (hk24_v457.trans hk24_v433), (hk25_v457.trans hk25_v433), (hk35_v457.trans hk35_v433), (hk36_v457.trans hk36_v433), (hk38_v457.trans hk38_v433), (hk39_v457.trans hk39_v433), (by show GA (v457 1).toInt (v 3).toInt (v457 3).toInt; exact GA.mk hgrew hGR (by omega)), (by show IM0 (v457 1).toInt (IMn (v457 15).toInt (progOK (f458 2) (f458 3) ((v457 8).toInt).toNat)); rw [hs2_f458, hs3_f458]; intro hz8 hz9; exact prog_n (hPR (by omega)) (by omega))⟩ hP hD hS dX11_readLine_306 (Nat.le_refl _) (Nat.le_refl _)
        · skip
          have zc454 : ¬ ((v433 5).toInt = 59) := zEn rfl tc_59 c454
          refine lv_aload_n hx hb dX11_readLine_290 rfl (lv_at hl 0 rfl) ?_
          refine lv_iconst (v := 2) hx hb dX11_readLine_291 rfl ?_
          refine cbVv (n := 1) (rest := []) hx hb hml hown hts hE hP hD hS hA (sY_X11_wrong_1 NF l dC dI cy y0 r 2 v433 f434 w435 g436 hIv433 hCf434 hRf434 ⟨by decide, by decide⟩) k_1641 k_1643 k_50 k_114 k_1644 hd_yX11_wrong ⟨Nat.le_of_ble_eq_true rfl, Nat.le_of_ble_eq_true rfl⟩ 0 11 rfl rfl (rfl) hl.1 rfl (Nat.le_of_ble_eq_true rfl) dX11_readLine_292 (fun u H locs hw hP hD hS => ?_)
          obtain ⟨hG466, hw⟩ := hw
          obtain ⟨v467, f468, w469, g470⟩ := u
          obtain ⟨kV_v467, kF_f468, hIv467, hCf468, hRf468, hk0_v467, hk3_v467, hk4_v467, hk5_v467, hk8_v467, hk9_v467, hk10_v467, hk13_v467, hk14_v467, hk15_v467, hk17_v467, hk18_v467, hk24_v467, hk25_v467, hk35_v467, hk36_v467, hk38_v467, hk39_v467, pv471, pv472, pv473, kq474, kq475, kq476⟩ := hw
          have hM_v467 : KV [1, 2, 3, 5, 6, 7, 8, 10, 11, 13, 14, 15, 17, 18, 19, 20, 21, 22, 23, 30, 31, 32, 33, 34] v467 v := KV.tr kV_v467 hM_v433 (by decide +kernel)
          have hA_f468 : KF [2, 3, 6, 9, 10, 11, 12, 13, 14, 15] f468 f := KF.tr kF_f468 hA_f434 rfl
          have hP : va_P (dC, dI) vwCl (YW cy y0 r v467 f468 w469 g470) H := hP
          have hD : va_D A (YW cy y0 r v467 f468 w469 g470) := hD
          have b3_v467 : 0 ≤ (v467 3).toInt ∧ (v467 3).toInt ≤ 1600 := Yb_3 hIv467.1
          have b1_v467 : 0 ≤ (v467 1).toInt ∧ (v467 1).toInt ≤ 4 := Yb_1 hIv467.1
          have pv471 : (v433 3).toInt ≤ (v467 3).toInt := pv471
          have pv472 : (v467 5).toInt = (v433 5).toInt ∨ (v433 3).toInt < (v467 3).toInt ∨ ¬ (v467 5).toInt = 59 := pv472
          have pv473 : 0 < (v467 1).toInt := pv473
          have hs2_f468 : f468 2 = (f 2) := kq474.trans hs2_f434
          have hs3_f468 : f468 3 = (f 3) := kq475.trans hs3_f434
          have hUv467 : (v467 35).toInt + (v467 36).toInt ≤ 40 := hIv467.2
          have hq0_v467 : v467 0 = (v 0) := hk0_v467.trans hq0_v433
          have zq0_v467 := congrArg Int32.toInt hq0_v467
          try clear zq0_v433
          have hq3_v467 : v467 3 = (v433 3) := hk3_v467
          have zq3_v467 := congrArg Int32.toInt hq3_v467
          have hq5_v467 : v467 5 = (v433 5) := hk5_v467
          have zq5_v467 := congrArg Int32.toInt hq5_v467
          have hq8_v467 : v467 8 = (v 8) := hk8_v467.trans hq8_v433
          have zq8_v467 := congrArg Int32.toInt hq8_v467
          try clear zq8_v433
          have hq9_v467 : v467 9 = (v 9) := hk9_v467.trans hq9_v433
          have zq9_v467 := congrArg Int32.toInt hq9_v467
          try clear zq9_v433
          have hq10_v467 : v467 10 = (v 10) := hk10_v467.trans hq10_v433
          have zq10_v467 := congrArg Int32.toInt hq10_v467
          try clear zq10_v433
          have hq13_v467 : v467 13 = (v 13) := hk13_v467.trans hq13_v433
          have zq13_v467 := congrArg Int32.toInt hq13_v467
          try clear zq13_v433
          have hq14_v467 : v467 14 = (v 14) := hk14_v467.trans hq14_v433
          have zq14_v467 := congrArg Int32.toInt hq14_v467
          try clear zq14_v433
          have hq15_v467 : v467 15 = (v 15) := hk15_v467.trans hq15_v433
          have zq15_v467 := congrArg Int32.toInt hq15_v467
          try clear zq15_v433
          have hq17_v467 : v467 17 = (v 17) := hk17_v467.trans hq17_v433
          have zq17_v467 := congrArg Int32.toInt hq17_v467
          try clear zq17_v433
          have hq18_v467 : v467 18 = (v433 18) := hk18_v467
          have zq18_v467 := congrArg Int32.toInt hq18_v467
          have hGR : GR (v 3).toInt (v 5).toInt (v467 3).toInt (v467 5).toInt := GR.tr hGR (show GR (v433 3).toInt (v433 5).toInt (v467 3).toInt (v467 5).toInt from ⟨pv471, pv472⟩) (by first | with_reducible rfl | with_reducible assumption | rfl | omega) (by first | with_reducible rfl | with_reducible assumption | rfl | omega)
          clear pv472
          refine lv_aload_n hx hb dX11_readLine_295 rfl (lv_at hl 0 rfl) ?_
          refine va_get (D := (dC, dI)) (ci := 11) (v := .int (v467 1)) (C := RX11) (T := TX11) (N := 79) hx hb hts inB_11 hown hE.1 hP 0 rfl rfl 2 (Nat.le_of_ble_eq_true rfl) (hts _ k_1322) (fun _ h9 => h9) rfl dX11_readLine_296 ?_
          have b1_v467 : 0 ≤ (v467 1).toInt ∧ (v467 1).toInt ≤ 4 := Yb_1 hIv467.1
          refine lv_if_ne (tgt := 306) hx hb dX11_readLine_299 rfl (fun c477 => ?_) (fun c477 => ?_)
          · skip
            have zc477 : ¬ ((v467 1).toInt = 0) := zEn rfl tc_0 c477
            exact ret (v467, f468, w469, g470) _ _ _ _ _ _ ⟨(hT1.symm.trans (gsY_X11_readLine_1_q59 hG429 c431 hG432 c442 c454 hG466 c477)), hM_v467, hA_f468, hIv467, hCf468, hRf468, (hk0_v467.trans hk0_v433), (hk4_v467.trans hk4_v433), (hk9_v467.trans hk9_v433), (hk24_v467.trans hk24_v433), (hk25_v467.trans hk25_v433), (hk35_v467.trans hk35_v433), (hk36_v467.trans hk36_v433), (hk38_v467.trans hk38_v433), (hk39_v467.trans hk39_v433), (by show GA (v467 1).toInt (v 3).toInt (v467 3).toInt; exact GA.ab hGR (by omega) (by omega)), (by show IM0 (v467 1).toInt (IMn (v467 15).toInt (progOK (f468 2) (f468 3) ((v467 8).toInt).toNat)); rw [hs2_f468, hs3_f468]; intro hz8 hz9; exact prog_n (hPR (by omega)) (by omega))⟩ hP hD hS dX11_readLine_306 (Nat.le_refl _) (Nat.le_refl _)
          · skip
            have zc477 : (v467 1).toInt = 0 := zEp rfl tc_0 c477
            refine lv_aload_n hx hb dX11_readLine_302 rfl (lv_at hl 0 rfl) ?_
            refine cbVv (n := 0) (rest := []) hx hb hml hown hts hE hP hD hS hA (sY_X11_token_1 NF l dC dI cy y0 r  v467 f468 w469 g470 hIv467 hCf468 hRf468 ) k_1579 k_1581 k_42 k_114 k_1582 hd_yX11_token ⟨Nat.le_of_ble_eq_true rfl, Nat.le_of_ble_eq_true rfl⟩ 0 11 rfl rfl (rfl) hl.1 rfl (Nat.le_of_ble_eq_true rfl) dX11_readLine_303 (fun u H locs hw hP hD hS => ?_)
            obtain ⟨hG478, hw⟩ := hw
            obtain ⟨v479, f480, w481, g482⟩ := u
            obtain ⟨kV_v479, kF_f480, hIv479, hCf480, hRf480, hk0_v479, hk1_v479, hk2_v479, hk4_v479, hk8_v479, hk9_v479, hk10_v479, hk13_v479, hk14_v479, hk15_v479, hk17_v479, hk18_v479, hk24_v479, hk25_v479, hk35_v479, hk36_v479, hk38_v479, hk39_v479, pv483, pv484, kq485, kq486, kq487⟩ := hw
            have hM_v479 : KV [1, 2, 3, 5, 6, 7, 8, 10, 11, 13, 14, 15, 17, 18, 19, 20, 21, 22, 23, 30, 31, 32, 33, 34] v479 v := KV.tr kV_v479 hM_v467 (by decide +kernel)
            have hA_f480 : KF [2, 3, 6, 9, 10, 11, 12, 13, 14, 15] f480 f := KF.tr kF_f480 hA_f468 rfl
            have hP : va_P (dC, dI) vwCl (YW cy y0 r v479 f480 w481 g482) H := hP
            have hD : va_D A (YW cy y0 r v479 f480 w481 g482) := hD
            have b3_v479 : 0 ≤ (v479 3).toInt ∧ (v479 3).toInt ≤ 1600 := Yb_3 hIv479.1
            have pv483 : (v467 3).toInt ≤ (v479 3).toInt := pv483
            have pv484 : (v479 5).toInt = (v467 5).toInt ∨ (v467 3).toInt < (v479 3).toInt ∨ ¬ (v479 5).toInt = 59 := pv484
            have hs2_f480 : f480 2 = (f 2) := kq485.trans hs2_f468
            have hs3_f480 : f480 3 = (f 3) := kq486.trans hs3_f468
            have hUv479 : (v479 35).toInt + (v479 36).toInt ≤ 40 := hIv479.2
            have hq0_v479 : v479 0 = (v 0) := hk0_v479.trans hq0_v467
            have zq0_v479 := congrArg Int32.toInt hq0_v479
            try clear zq0_v467
            have hq1_v479 : v479 1 = (v467 1) := hk1_v479
            have zq1_v479 := congrArg Int32.toInt hq1_v479
            have hq8_v479 : v479 8 = (v 8) := hk8_v479.trans hq8_v467
            have zq8_v479 := congrArg Int32.toInt hq8_v479
            try clear zq8_v467
            have hq9_v479 : v479 9 = (v 9) := hk9_v479.trans hq9_v467
            have zq9_v479 := congrArg Int32.toInt hq9_v479
            try clear zq9_v467
            have hq10_v479 : v479 10 = (v 10) := hk10_v479.trans hq10_v467
            have zq10_v479 := congrArg Int32.toInt hq10_v479
            try clear zq10_v467
            have hq13_v479 : v479 13 = (v 13) := hk13_v479.trans hq13_v467
            have zq13_v479 := congrArg Int32.toInt hq13_v479
            try clear zq13_v467
            have hq14_v479 : v479 14 = (v 14) := hk14_v479.trans hq14_v467
            have zq14_v479 := congrArg Int32.toInt hq14_v479
            try clear zq14_v467
            have hq15_v479 : v479 15 = (v 15) := hk15_v479.trans hq15_v467
            have zq15_v479 := congrArg Int32.toInt hq15_v479
            try clear zq15_v467
            have hq17_v479 : v479 17 = (v 17) := hk17_v479.trans hq17_v467
            have zq17_v479 := congrArg Int32.toInt hq17_v479
            try clear zq17_v467
            have hq18_v479 : v479 18 = (v433 18) := hk18_v479.trans hq18_v467
            have zq18_v479 := congrArg Int32.toInt hq18_v479
            try clear zq18_v467
            have hGR : GR (v 3).toInt (v 5).toInt (v479 3).toInt (v479 5).toInt := GR.tr hGR (show GR (v467 3).toInt (v467 5).toInt (v479 3).toInt (v479 5).toInt from ⟨pv483, pv484⟩) (by first | with_reducible rfl | with_reducible assumption | rfl | omega) (by first | with_reducible rfl | with_reducible assumption | rfl | omega)
            clear pv484
            exact ret (v479, f480, w481, g482) _ _ _ _ _ _ ⟨(hT1.symm.trans (gsY_X11_readLine_1_q60 hG429 c431 hG432 c442 c454 hG466 c477 hG478)), hM_v479, hA_f480, hIv479, hCf480, hRf480, (hk0_v479.trans (hk0_v467.trans hk0_v433)), (hk4_v479.trans (hk4_v467.trans hk4_v433)), (hk9_v479.trans (hk9_v467.trans hk9_v433)), (hk24_v479.trans (hk24_v467.trans hk24_v433)), (hk25_v479.trans (hk25_v467.trans hk25_v433)), (hk35_v479.trans (hk35_v467.trans hk35_v433)), (hk36_v479.trans (hk36_v467.trans hk36_v433)), (hk38_v479.trans (hk38_v467.trans hk38_v433)), (hk39_v479.trans (hk39_v467.trans hk39_v433)), (by show GA (v479 1).toInt (v 3).toInt (v479 3).toInt; exact GA.ab hGR (by omega) (by omega)), (by show IM0 (v479 1).toInt (IMn (v479 15).toInt (progOK (f480 2) (f480 3) ((v479 8).toInt).toNat)); rw [hs2_f480, hs3_f480]; intro hz8 hz9; exact prog_n (hPR (by omega)) (by omega))⟩ hP hD hS dX11_readLine_306 (Nat.le_refl _) (Nat.le_refl _)
  · skip
    subst g430
    refine lv_if_eq (tgt := 52) hx hb dX11_readLine_33 rfl (fun _ => ?_) (fun c0 => absurd (by decide) c0)
    exact jp52 _ _ _ ((gsY_X11_readLine_1_q61 hG429).symm.trans hT1) hP hD hS hl
set_option maxHeartbeats 4000000 in
set_option maxRecDepth 100000 in
theorem sY_X11_readLine_1 (NF : Nat) (l : Launch) (dC : Nat → ClassId) (dI : Nat → Nat → Nat) (cy : Nat → ClassId) (y0 : Nat) (r : Nat → Nat)  (v : Nat → Int32) (f : Nat → Nat → Int32) (w : Int64) (g : Nat → Int64) (hIv : YI v) (hCf : YC f) (hRf : progOK (f 4) (f 5) (v 9).toInt.toNat)  (hf0 : (v 1).toInt = 0) (hg0 : IMn (v 15).toInt (progOK (f 2) (f 3) ((v 8).toInt).toNat)) : ctV l (dC, dI) cy yX11_readLine cX11_readLine 1 7 192 0 0 ((Nat → Int32) × (Nat → Nat → Int32) × (Int64) × (Nat → Int64)) [.ref y0] (YW cy y0 r v f w g) (fun u => gsY_X11_readLine_1 NF v f w g = u ∧ KV [1, 2, 3, 5, 6, 7, 8, 10, 11, 13, 14, 15, 17, 18, 19, 20, 21, 22, 23, 30, 31, 32, 33, 34] u.1 v ∧ KF [2, 3, 6, 9, 10, 11, 12, 13, 14, 15] u.2.1 f ∧ YI u.1 ∧ YC u.2.1 ∧ progOK (u.2.1 4) (u.2.1 5) (u.1 9).toInt.toNat ∧ u.1 0 = v 0 ∧ u.1 4 = v 4 ∧ u.1 9 = v 9 ∧ u.1 24 = v 24 ∧ u.1 25 = v 25 ∧ u.1 35 = v 35 ∧ u.1 36 = v 36 ∧ u.1 38 = v 38 ∧ u.1 39 = v 39 ∧ (GA (u.1 1).toInt (v 3).toInt (u.1 3).toInt) ∧ (IM0 (u.1 1).toInt (IMn (u.1 15).toInt (progOK (u.2.1 2) (u.2.1 3) ((u.1 8).toInt).toNat)))) (fun u => YW cy y0 r u.1 u.2.1 u.2.2.1 u.2.2.2) := by
  refine ctV_of (by decide) (Nat.le_of_ble_eq_true rfl) (fun p e s m below meth c A ls Q hx hb hml hts hown hnm hE hP hD hA hl ret => ?_)
  have hUv : (v 35).toInt + (v 36).toInt ≤ 40 := hIv.2
  have hM_v : KV [1, 2, 3, 5, 6, 7, 8, 10, 11, 13, 14, 15, 17, 18, 19, 20, 21, 22, 23, 30, 31, 32, 33, 34] v v := fun _ _ => rfl
  have hA_f : KF [2, 3, 6, 9, 10, 11, 12, 13, 14, 15] f f := fun _ _ => rfl
  have hPR := hg0
  have b0_v : (0 : Int) ≤ (v 0).toInt ∧ (v 0).toInt ≤ 1600 := Yb_0 hIv.1
  have b1_v : (0 : Int) ≤ (v 1).toInt ∧ (v 1).toInt ≤ 4 := Yb_1 hIv.1
  have b8_v : (0 : Int) ≤ (v 8).toInt ∧ (v 8).toInt ≤ 320 := Yb_8 hIv.1
  have b10_v : (0 : Int) ≤ (v 10).toInt ∧ (v 10).toInt ≤ 160 := Yb_10 hIv.1
  have b13_v : (0 : Int) ≤ (v 13).toInt ∧ (v 13).toInt ≤ 31 := Yb_13 hIv.1
  have b14_v : (0 : Int) ≤ (v 14).toInt ∧ (v 14).toInt ≤ 8 := Yb_14 hIv.1
  have b15_v : (0 : Int) ≤ (v 15).toInt ∧ (v 15).toInt ≤ 1 := Yb_15 hIv.1
  have b17_v : (0 : Int) ≤ (v 17).toInt ∧ (v 17).toInt ≤ 6 := Yb_17 hIv.1
  have b18_v : (0 : Int) ≤ (v 18).toInt ∧ (v 18).toInt ≤ 6 := Yb_18 hIv.1
  have hGR : GR (v 3).toInt (v 5).toInt (v 3).toInt (v 5).toInt := GR.refl _ _
  have hown : s.vm.findClass RX11 = some m.cls := hown
  have hS : va_S A s.heap s.heap [] := va_S.rf
  have hl : lv_has ls 1 [(0, .ref y0)] := hl
  have jp269 := sY_X11_readLine_1_jp269 NF l dC dI cy y0 r v f w g hIv hCf hRf hf0 hg0 hx hb hml hts hown hE hA ret
  have jp230 := sY_X11_readLine_1_jp230 NF l dC dI cy y0 r v f w g hIv hCf hRf hf0 hg0 hx hb hml hts hown hE hA ret jp269
  have jp192 := sY_X11_readLine_1_jp192 NF l dC dI cy y0 r v f w g hIv hCf hRf hf0 hg0 hx hb hml hts hown hE hA ret jp230
  have jp154 := sY_X11_readLine_1_jp154 NF l dC dI cy y0 r v f w g hIv hCf hRf hf0 hg0 hx hb hml hts hown hE hA ret jp192
  have jp115 := sY_X11_readLine_1_jp115 NF l dC dI cy y0 r v f w g hIv hCf hRf hf0 hg0 hx hb hml hts hown hE hA ret jp154
  have jp76 := sY_X11_readLine_1_jp76 NF l dC dI cy y0 r v f w g hIv hCf hRf hf0 hg0 hx hb hml hts hown hE hA ret jp115
  have jp52 := sY_X11_readLine_1_jp52 NF l dC dI cy y0 r v f w g hIv hCf hRf hf0 hg0 hx hb hml hts hown hE hA ret jp76
  have jp26 := sY_X11_readLine_1_jp26 NF l dC dI cy y0 r v f w g hIv hCf hRf hf0 hg0 hx hb hml hts hown hE hA ret jp52
  revert jp26
  intro jp26
  refine lv_aload_n hx hb dX11_readLine_0 rfl (lv_at hl 0 rfl) ?_
  refine lv_ldc2 (v := 7168366) hx hb hown (hts _ k_1600) dX11_readLine_1 ?_
  refine cbVi (n := 1) (rest := []) hx hb hml hown hts hE hP hD hS hA (sY_X11_isWord_1 NF l dC dI cy y0 r 7168366 v f w g hIv hCf hRf ) k_1601 k_1603 k_45 k_114 k_1604 hd_yX11_isWord ⟨Nat.le_of_ble_eq_true rfl, Nat.le_of_ble_eq_true rfl⟩ 0 11 rfl rfl (rfl) hl.1 rfl (Nat.le_of_ble_eq_true rfl) dX11_readLine_4 (fun r488 u H locs hw hP hD hS => ?_)
  obtain ⟨hG489, hw⟩ := hw
  rcases hw with ⟨g490, g490_0⟩ | ⟨g490⟩
  · skip
    subst g490
    refine lv_if_eq (tgt := 26) hx hb dX11_readLine_7 rfl (fun c0 => absurd c0 (by decide)) (fun _ => ?_)
    refine lv_aload_n hx hb dX11_readLine_10 rfl (lv_at hl 0 rfl) ?_
    refine va_get (D := (dC, dI)) (ci := 11) (v := .int (v 17)) (C := RX11) (T := TX11) (N := 79) hx hb hts inB_11 hown hE.1 hP 0 rfl rfl 41 (Nat.le_of_ble_eq_true rfl) (hts _ k_1361) (fun _ h9 => h9) rfl dX11_readLine_11 ?_
    have b17_v : 0 ≤ (v 17).toInt ∧ (v 17).toInt ≤ 6 := Yb_17 hIv.1
    refine lv_bipush (v := 6) hx hb dX11_readLine_14 rfl ?_
    refine lv_icmp_ge (tgt := 26) hx hb dX11_readLine_16 rfl (fun c491 => ?_) (fun c491 => ?_)
    · skip
      exact jp26 _ _ _ (gsY_X11_readLine_1_q62 hG489 c491).symm hP hD hS hl
    · skip
      have zc491 : ¬ (6 ≤ (v 17).toInt) := zMn tc_6 rfl c491
      refine lv_aload_n hx hb dX11_readLine_19 rfl (lv_at hl 0 rfl) ?_
      refine cbVv (n := 0) (rest := []) hx hb hml hown hts hE hP hD hS hA (sY_X11_readMan_1 NF l dC dI cy y0 r  v f w g hIv hCf hRf (show (v 17).toInt ≤ 5 from om_455 zc491)) k_1605 k_1607 k_46 k_114 k_1608 hd_yX11_readMan ⟨Nat.le_of_ble_eq_true rfl, Nat.le_of_ble_eq_true rfl⟩ 0 11 rfl rfl (rfl) hl.1 rfl (Nat.le_of_ble_eq_true rfl) dX11_readLine_20 (fun u H locs hw hP hD hS => ?_)
      obtain ⟨hG492, hw⟩ := hw
      obtain ⟨v493, f494, w495, g496⟩ := u
      obtain ⟨kV_v493, kF_f494, hIv493, hCf494, hRf494, hk0_v493, hk4_v493, hk8_v493, hk9_v493, hk10_v493, hk13_v493, hk14_v493, hk15_v493, hk18_v493, hk24_v493, hk25_v493, hk35_v493, hk36_v493, hk38_v493, hk39_v493, pv497, pv498, kq499, kq500, kq501⟩ := hw
      have hM_v493 : KV [1, 2, 3, 5, 6, 7, 8, 10, 11, 13, 14, 15, 17, 18, 19, 20, 21, 22, 23, 30, 31, 32, 33, 34] v493 v := KV.tr kV_v493 hM_v (by decide +kernel)
      have hA_f494 : KF [2, 3, 6, 9, 10, 11, 12, 13, 14, 15] f494 f := KF.tr kF_f494 hA_f rfl
      have hP : va_P (dC, dI) vwCl (YW cy y0 r v493 f494 w495 g496) H := hP
      have hD : va_D A (YW cy y0 r v493 f494 w495 g496) := hD
      have b3_v493 : 0 ≤ (v493 3).toInt ∧ (v493 3).toInt ≤ 1600 := Yb_3 hIv493.1
      have pv497 : (v 3).toInt ≤ (v493 3).toInt := pv497
      have pv498 : (v493 5).toInt = (v 5).toInt ∨ (v 3).toInt < (v493 3).toInt ∨ ¬ (v493 5).toInt = 59 := pv498
      have hs2_f494 : f494 2 = (f 2) := kq499
      have hs3_f494 : f494 3 = (f 3) := kq500
      have hUv493 : (v493 35).toInt + (v493 36).toInt ≤ 40 := hIv493.2
      have hq0_v493 : v493 0 = (v 0) := hk0_v493
      have zq0_v493 := congrArg Int32.toInt hq0_v493
      have hq8_v493 : v493 8 = (v 8) := hk8_v493
      have zq8_v493 := congrArg Int32.toInt hq8_v493
      have hq9_v493 : v493 9 = (v 9) := hk9_v493
      have zq9_v493 := congrArg Int32.toInt hq9_v493
      have hq10_v493 : v493 10 = (v 10) := hk10_v493
      have zq10_v493 := congrArg Int32.toInt hq10_v493
      have hq13_v493 : v493 13 = (v 13) := hk13_v493
      have zq13_v493 := congrArg Int32.toInt hq13_v493
      have hq14_v493 : v493 14 = (v 14) := hk14_v493
      have zq14_v493 := congrArg Int32.toInt hq14_v493
      have hq15_v493 : v493 15 = (v 15) := hk15_v493
      have zq15_v493 := congrArg Int32.toInt hq15_v493
      have hq18_v493 : v493 18 = (v 18) := hk18_v493
      have zq18_v493 := congrArg Int32.toInt hq18_v493
      have hGR : GR (v 3).toInt (v 5).toInt (v493 3).toInt (v493 5).toInt := GR.tr hGR (show GR (v 3).toInt (v 5).toInt (v493 3).toInt (v493 5).toInt from ⟨pv497, pv498⟩) (by first | with_reducible rfl | with_reducible assumption | rfl | omega) (by first | with_reducible rfl | with_reducible assumption | rfl | omega)
      clear pv498
      refine lv_goto (tgt := 274) hx hb dX11_readLine_23 rfl ?_
      refine lv_aload_n hx hb dX11_readLine_274 rfl (lv_at hl 0 rfl) ?_
      refine va_get (D := (dC, dI)) (ci := 11) (v := .int (v493 1)) (C := RX11) (T := TX11) (N := 79) hx hb hts inB_11 hown hE.1 hP 0 rfl rfl 2 (Nat.le_of_ble_eq_true rfl) (hts _ k_1322) (fun _ h9 => h9) rfl dX11_readLine_275 ?_
      have b1_v493 : 0 ≤ (v493 1).toInt ∧ (v493 1).toInt ≤ 4 := Yb_1 hIv493.1
      refine lv_if_ne (tgt := 295) hx hb dX11_readLine_278 rfl (fun c502 => ?_) (fun c502 => ?_)
      · skip
        have zc502 : ¬ ((v493 1).toInt = 0) := zEn rfl tc_0 c502
        refine lv_aload_n hx hb dX11_readLine_295 rfl (lv_at hl 0 rfl) ?_
        refine va_get (D := (dC, dI)) (ci := 11) (v := .int (v493 1)) (C := RX11) (T := TX11) (N := 79) hx hb hts inB_11 hown hE.1 hP 0 rfl rfl 2 (Nat.le_of_ble_eq_true rfl) (hts _ k_1322) (fun _ h9 => h9) rfl dX11_readLine_296 ?_
        refine lv_if_ne (tgt := 306) hx hb dX11_readLine_299 rfl (fun c503 => ?_) (fun c503 => ?_)
        · skip
          have zc503 : ¬ ((v493 1).toInt = 0) := zEn rfl tc_0 c503
          exact ret (v493, f494, w495, g496) _ _ _ _ _ _ ⟨(gsY_X11_readLine_1_q63 hG489 c491 hG492 c502 c503), hM_v493, hA_f494, hIv493, hCf494, hRf494, hk0_v493, hk4_v493, hk9_v493, hk24_v493, hk25_v493, hk35_v493, hk36_v493, hk38_v493, hk39_v493, (by show GA (v493 1).toInt (v 3).toInt (v493 3).toInt; exact GA.ab hGR (by omega) (by omega)), (by show IM0 (v493 1).toInt (IMn (v493 15).toInt (progOK (f494 2) (f494 3) ((v493 8).toInt).toNat)); rw [hs2_f494, hs3_f494]; intro hz8 hz9; exact prog_n (hPR (by omega)) (by omega))⟩ hP hD hS dX11_readLine_306 (Nat.le_refl _) (Nat.le_refl _)
        · skip
          have zc503 : (v493 1).toInt = 0 := zEp rfl tc_0 c503
          have hgrew := GR.grew hGR (by omega) (by omega)
          refine lv_aload_n hx hb dX11_readLine_302 rfl (lv_at hl 0 rfl) ?_
          refine cbVv (n := 0) (rest := []) hx hb hml hown hts hE hP hD hS hA (sY_X11_token_1 NF l dC dI cy y0 r  v493 f494 w495 g496 hIv493 hCf494 hRf494 ) k_1579 k_1581 k_42 k_114 k_1582 hd_yX11_token ⟨Nat.le_of_ble_eq_true rfl, Nat.le_of_ble_eq_true rfl⟩ 0 11 rfl rfl (rfl) hl.1 rfl (Nat.le_of_ble_eq_true rfl) dX11_readLine_303 (fun u H locs hw hP hD hS => ?_)
          obtain ⟨hG504, hw⟩ := hw
          obtain ⟨v505, f506, w507, g508⟩ := u
          obtain ⟨kV_v505, kF_f506, hIv505, hCf506, hRf506, hk0_v505, hk1_v505, hk2_v505, hk4_v505, hk8_v505, hk9_v505, hk10_v505, hk13_v505, hk14_v505, hk15_v505, hk17_v505, hk18_v505, hk24_v505, hk25_v505, hk35_v505, hk36_v505, hk38_v505, hk39_v505, pv509, pv510, kq511, kq512, kq513⟩ := hw
          have hM_v505 : KV [1, 2, 3, 5, 6, 7, 8, 10, 11, 13, 14, 15, 17, 18, 19, 20, 21, 22, 23, 30, 31, 32, 33, 34] v505 v := KV.tr kV_v505 hM_v493 (by decide +kernel)
          have hA_f506 : KF [2, 3, 6, 9, 10, 11, 12, 13, 14, 15] f506 f := KF.tr kF_f506 hA_f494 rfl
          have hP : va_P (dC, dI) vwCl (YW cy y0 r v505 f506 w507 g508) H := hP
          have hD : va_D A (YW cy y0 r v505 f506 w507 g508) := hD
          have b3_v505 : 0 ≤ (v505 3).toInt ∧ (v505 3).toInt ≤ 1600 := Yb_3 hIv505.1
          have pv509 : (v493 3).toInt ≤ (v505 3).toInt := pv509
          have pv510 : (v505 5).toInt = (v493 5).toInt ∨ (v493 3).toInt < (v505 3).toInt ∨ ¬ (v505 5).toInt = 59 := pv510
          have hs2_f506 : f506 2 = (f 2) := kq511.trans hs2_f494
          have hs3_f506 : f506 3 = (f 3) := kq512.trans hs3_f494
          have hUv505 : (v505 35).toInt + (v505 36).toInt ≤ 40 := hIv505.2
          have hq0_v505 : v505 0 = (v 0) := hk0_v505.trans hq0_v493
          have zq0_v505 := congrArg Int32.toInt hq0_v505
          try clear zq0_v493
          have hq1_v505 : v505 1 = (v493 1) := hk1_v505
          have zq1_v505 := congrArg Int32.toInt hq1_v505
          have hq8_v505 : v505 8 = (v 8) := hk8_v505.trans hq8_v493
          have zq8_v505 := congrArg Int32.toInt hq8_v505
          try clear zq8_v493
          have hq9_v505 : v505 9 = (v 9) := hk9_v505.trans hq9_v493
          have zq9_v505 := congrArg Int32.toInt hq9_v505
          try clear zq9_v493
          have hq10_v505 : v505 10 = (v 10) := hk10_v505.trans hq10_v493
          have zq10_v505 := congrArg Int32.toInt hq10_v505
          try clear zq10_v493
          have hq13_v505 : v505 13 = (v 13) := hk13_v505.trans hq13_v493
          have zq13_v505 := congrArg Int32.toInt hq13_v505
          try clear zq13_v493
          have hq14_v505 : v505 14 = (v 14) := hk14_v505.trans hq14_v493
          have zq14_v505 := congrArg Int32.toInt hq14_v505
          try clear zq14_v493
          have hq15_v505 : v505 15 = (v 15) := hk15_v505.trans hq15_v493
          have zq15_v505 := congrArg Int32.toInt hq15_v505
          try clear zq15_v493
          have hq17_v505 : v505 17 = (v493 17) := hk17_v505
          have zq17_v505 := congrArg Int32.toInt hq17_v505
          have hq18_v505 : v505 18 = (v 18) := hk18_v505.trans hq18_v493
          have zq18_v505 := congrArg Int32.toInt hq18_v505
          try clear zq18_v493
          have hGR : GR (v 3).toInt (v 5).toInt (v505 3).toInt (v505 5).toInt := GR.tr hGR (show GR (v493 3).toInt (v493 5).toInt (v505 3).toInt (v505 5).toInt from ⟨pv509, pv510⟩) (by first | with_reducible rfl | with_reducible assumption | rfl | omega) (by first | with_reducible rfl | with_reducible assumption | rfl | omega)
          clear pv510
          exact ret (v505, f506, w507, g508) _ _ _ _ _ _ ⟨(gsY_X11_readLine_1_q64 hG489 c491 hG492 c502 c503 hG504), hM_v505, hA_f506, hIv505, hCf506, hRf506, (hk0_v505.trans hk0_v493), (hk4_v505.trans hk4_v493), (hk9_v505.trans hk9_v493), (hk24_v505.trans hk24_v493), (hk25_v505.trans hk25_v493), (hk35_v505.trans hk35_v493), (hk36_v505.trans hk36_v493), (hk38_v505.trans hk38_v493), (hk39_v505.trans hk39_v493), (by show GA (v505 1).toInt (v 3).toInt (v505 3).toInt; exact GA.mk hgrew hGR (by omega)), (by show IM0 (v505 1).toInt (IMn (v505 15).toInt (progOK (f506 2) (f506 3) ((v505 8).toInt).toNat)); rw [hs2_f506, hs3_f506]; intro hz8 hz9; exact prog_n (hPR (by omega)) (by omega))⟩ hP hD hS dX11_readLine_306 (Nat.le_refl _) (Nat.le_refl _)
      · skip
        have zc502 : (v493 1).toInt = 0 := zEp rfl tc_0 c502
        refine lv_aload_n hx hb dX11_readLine_281 rfl (lv_at hl 0 rfl) ?_
        refine va_get (D := (dC, dI)) (ci := 11) (v := .int (v493 5)) (C := RX11) (T := TX11) (N := 79) hx hb hts inB_11 hown hE.1 hP 0 rfl rfl 6 (Nat.le_of_ble_eq_true rfl) (hts _ k_1326) (fun _ h9 => h9) rfl dX11_readLine_282 ?_
        refine lv_bipush (v := 59) hx hb dX11_readLine_285 rfl ?_
        refine lv_icmp_eq (tgt := 295) hx hb dX11_readLine_287 rfl (fun c514 => ?_) (fun c514 => ?_)
        · skip
          have zc514 : (v493 5).toInt = 59 := zEp rfl tc_59 c514
          refine lv_aload_n hx hb dX11_readLine_295 rfl (lv_at hl 0 rfl) ?_
          refine va_get (D := (dC, dI)) (ci := 11) (v := .int (v493 1)) (C := RX11) (T := TX11) (N := 79) hx hb hts inB_11 hown hE.1 hP 0 rfl rfl 2 (Nat.le_of_ble_eq_true rfl) (hts _ k_1322) (fun _ h9 => h9) rfl dX11_readLine_296 ?_
          refine lv_if_ne (tgt := 306) hx hb dX11_readLine_299 rfl (fun c515 => ?_) (fun c515 => ?_)
          · skip
            have zc515 : ¬ ((v493 1).toInt = 0) := zEn rfl tc_0 c515
            exact ret (v493, f494, w495, g496) _ _ _ _ _ _ ⟨(gsY_X11_readLine_1_q65 hG489 c491 hG492 c502 c514 c515), hM_v493, hA_f494, hIv493, hCf494, hRf494, hk0_v493, hk4_v493, hk9_v493, hk24_v493, hk25_v493, hk35_v493, hk36_v493, hk38_v493, hk39_v493, (by show GA (v493 1).toInt (v 3).toInt (v493 3).toInt; exact GA.ab hGR (by omega) (by omega)), (by show IM0 (v493 1).toInt (IMn (v493 15).toInt (progOK (f494 2) (f494 3) ((v493 8).toInt).toNat)); rw [hs2_f494, hs3_f494]; intro hz8 hz9; exact prog_n (hPR (by omega)) (by omega))⟩ hP hD hS dX11_readLine_306 (Nat.le_refl _) (Nat.le_refl _)
          · skip
            have zc515 : (v493 1).toInt = 0 := zEp rfl tc_0 c515
            have hgrew := GR.grew hGR (by omega) (by omega)
            refine lv_aload_n hx hb dX11_readLine_302 rfl (lv_at hl 0 rfl) ?_
            refine cbVv (n := 0) (rest := []) hx hb hml hown hts hE hP hD hS hA (sY_X11_token_1 NF l dC dI cy y0 r  v493 f494 w495 g496 hIv493 hCf494 hRf494 ) k_1579 k_1581 k_42 k_114 k_1582 hd_yX11_token ⟨Nat.le_of_ble_eq_true rfl, Nat.le_of_ble_eq_true rfl⟩ 0 11 rfl rfl (rfl) hl.1 rfl (Nat.le_of_ble_eq_true rfl) dX11_readLine_303 (fun u H locs hw hP hD hS => ?_)
            obtain ⟨hG516, hw⟩ := hw
            obtain ⟨v517, f518, w519, g520⟩ := u
            obtain ⟨kV_v517, kF_f518, hIv517, hCf518, hRf518, hk0_v517, hk1_v517, hk2_v517, hk4_v517, hk8_v517, hk9_v517, hk10_v517, hk13_v517, hk14_v517, hk15_v517, hk17_v517, hk18_v517, hk24_v517, hk25_v517, hk35_v517, hk36_v517, hk38_v517, hk39_v517, pv521, pv522, kq523, kq524, kq525⟩ := hw
            have hM_v517 : KV [1, 2, 3, 5, 6, 7, 8, 10, 11, 13, 14, 15, 17, 18, 19, 20, 21, 22, 23, 30, 31, 32, 33, 34] v517 v := KV.tr kV_v517 hM_v493 (by decide +kernel)
            have hA_f518 : KF [2, 3, 6, 9, 10, 11, 12, 13, 14, 15] f518 f := KF.tr kF_f518 hA_f494 rfl
            have hP : va_P (dC, dI) vwCl (YW cy y0 r v517 f518 w519 g520) H := hP
            have hD : va_D A (YW cy y0 r v517 f518 w519 g520) := hD
            have b3_v517 : 0 ≤ (v517 3).toInt ∧ (v517 3).toInt ≤ 1600 := Yb_3 hIv517.1
            have pv521 : (v493 3).toInt ≤ (v517 3).toInt := pv521
            have pv522 : (v517 5).toInt = (v493 5).toInt ∨ (v493 3).toInt < (v517 3).toInt ∨ ¬ (v517 5).toInt = 59 := pv522
            have hs2_f518 : f518 2 = (f 2) := kq523.trans hs2_f494
            have hs3_f518 : f518 3 = (f 3) := kq524.trans hs3_f494
            have hUv517 : (v517 35).toInt + (v517 36).toInt ≤ 40 := hIv517.2
            have hq0_v517 : v517 0 = (v 0) := hk0_v517.trans hq0_v493
            have zq0_v517 := congrArg Int32.toInt hq0_v517
            try clear zq0_v493
            have hq1_v517 : v517 1 = (v493 1) := hk1_v517
            have zq1_v517 := congrArg Int32.toInt hq1_v517
            have hq8_v517 : v517 8 = (v 8) := hk8_v517.trans hq8_v493
            have zq8_v517 := congrArg Int32.toInt hq8_v517
            try clear zq8_v493
            have hq9_v517 : v517 9 = (v 9) := hk9_v517.trans hq9_v493
            have zq9_v517 := congrArg Int32.toInt hq9_v517
            try clear zq9_v493
            have hq10_v517 : v517 10 = (v 10) := hk10_v517.trans hq10_v493
            have zq10_v517 := congrArg Int32.toInt hq10_v517
            try clear zq10_v493
            have hq13_v517 : v517 13 = (v 13) := hk13_v517.trans hq13_v493
            have zq13_v517 := congrArg Int32.toInt hq13_v517
            try clear zq13_v493
            have hq14_v517 : v517 14 = (v 14) := hk14_v517.trans hq14_v493
            have zq14_v517 := congrArg Int32.toInt hq14_v517
            try clear zq14_v493
            have hq15_v517 : v517 15 = (v 15) := hk15_v517.trans hq15_v493
            have zq15_v517 := congrArg Int32.toInt hq15_v517
            try clear zq15_v493
            have hq17_v517 : v517 17 = (v493 17) := hk17_v517
            have zq17_v517 := congrArg Int32.toInt hq17_v517
            have hq18_v517 : v517 18 = (v 18) := hk18_v517.trans hq18_v493
            have zq18_v517 := congrArg Int32.toInt hq18_v517
            try clear zq18_v493
            have hGR : GR (v 3).toInt (v 5).toInt (v517 3).toInt (v517 5).toInt := GR.tr hGR (show GR (v493 3).toInt (v493 5).toInt (v517 3).toInt (v517 5).toInt from ⟨pv521, pv522⟩) (by first | with_reducible rfl | with_reducible assumption | rfl | omega) (by first | with_reducible rfl | with_reducible assumption | rfl | omega)
            clear pv522
            exact ret (v517, f518, w519, g520) _ _ _ _ _ _ ⟨(gsY_X11_readLine_1_q66 hG489 c491 hG492 c502 c514 c515 hG516), hM_v517, hA_f518, hIv517, hCf518, hRf518, (hk0_v517.trans hk0_v493), (hk4_v517.trans hk4_v493), (hk9_v517.trans hk9_v493), (hk24_v517.trans hk24_v493), (hk25_v517.trans hk25_v493), (hk35_v517.trans hk35_v493), (hk36_v517.trans hk36_v493), (hk38_v517.trans hk38_v493), (hk39_v517.trans hk39_v493), (by show GA (v517 1).toInt (v 3).toInt (v517 3).toInt; exact GA.mk hgrew hGR (by omega)), (by show IM0 (v517 1).toInt (IMn (v517 15).toInt (progOK (f518 2) (f518 3) ((v517 8).toInt).toNat)); rw [hs2_f518, hs3_f518]; intro hz8 hz9; exact prog_n (hPR (by omega)) (by omega))⟩ hP hD hS dX11_readLine_306 (Nat.le_refl _) (Nat.le_refl _)
        · skip
          have zc514 : ¬ ((v493 5).toInt = 59) := zEn rfl tc_59 c514
          refine lv_aload_n hx hb dX11_readLine_290 rfl (lv_at hl 0 rfl) ?_
          refine lv_iconst (v := 2) hx hb dX11_readLine_291 rfl ?_
          refine cbVv (n := 1) (rest := []) hx hb hml hown hts hE hP hD hS hA (sY_X11_wrong_1 NF l dC dI cy y0 r 2 v493 f494 w495 g496 hIv493 hCf494 hRf494 ⟨by decide, by decide⟩) k_1641 k_1643 k_50 k_114 k_1644 hd_yX11_wrong ⟨Nat.le_of_ble_eq_true rfl, Nat.le_of_ble_eq_true rfl⟩ 0 11 rfl rfl (rfl) hl.1 rfl (Nat.le_of_ble_eq_true rfl) dX11_readLine_292 (fun u H locs hw hP hD hS => ?_)
          obtain ⟨hG526, hw⟩ := hw
          obtain ⟨v527, f528, w529, g530⟩ := u
          obtain ⟨kV_v527, kF_f528, hIv527, hCf528, hRf528, hk0_v527, hk3_v527, hk4_v527, hk5_v527, hk8_v527, hk9_v527, hk10_v527, hk13_v527, hk14_v527, hk15_v527, hk17_v527, hk18_v527, hk24_v527, hk25_v527, hk35_v527, hk36_v527, hk38_v527, hk39_v527, pv531, pv532, pv533, kq534, kq535, kq536⟩ := hw
          have hM_v527 : KV [1, 2, 3, 5, 6, 7, 8, 10, 11, 13, 14, 15, 17, 18, 19, 20, 21, 22, 23, 30, 31, 32, 33, 34] v527 v := KV.tr kV_v527 hM_v493 (by decide +kernel)
          have hA_f528 : KF [2, 3, 6, 9, 10, 11, 12, 13, 14, 15] f528 f := KF.tr kF_f528 hA_f494 rfl
          have hP : va_P (dC, dI) vwCl (YW cy y0 r v527 f528 w529 g530) H := hP
          have hD : va_D A (YW cy y0 r v527 f528 w529 g530) := hD
          have b3_v527 : 0 ≤ (v527 3).toInt ∧ (v527 3).toInt ≤ 1600 := Yb_3 hIv527.1
          have b1_v527 : 0 ≤ (v527 1).toInt ∧ (v527 1).toInt ≤ 4 := Yb_1 hIv527.1
          have pv531 : (v493 3).toInt ≤ (v527 3).toInt := pv531
          have pv532 : (v527 5).toInt = (v493 5).toInt ∨ (v493 3).toInt < (v527 3).toInt ∨ ¬ (v527 5).toInt = 59 := pv532
          have pv533 : 0 < (v527 1).toInt := pv533
          have hs2_f528 : f528 2 = (f 2) := kq534.trans hs2_f494
          have hs3_f528 : f528 3 = (f 3) := kq535.trans hs3_f494
          have hUv527 : (v527 35).toInt + (v527 36).toInt ≤ 40 := hIv527.2
          have hq0_v527 : v527 0 = (v 0) := hk0_v527.trans hq0_v493
          have zq0_v527 := congrArg Int32.toInt hq0_v527
          try clear zq0_v493
          have hq3_v527 : v527 3 = (v493 3) := hk3_v527
          have zq3_v527 := congrArg Int32.toInt hq3_v527
          have hq5_v527 : v527 5 = (v493 5) := hk5_v527
          have zq5_v527 := congrArg Int32.toInt hq5_v527
          have hq8_v527 : v527 8 = (v 8) := hk8_v527.trans hq8_v493
          have zq8_v527 := congrArg Int32.toInt hq8_v527
          try clear zq8_v493
          have hq9_v527 : v527 9 = (v 9) := hk9_v527.trans hq9_v493
          have zq9_v527 := congrArg Int32.toInt hq9_v527
          try clear zq9_v493
          have hq10_v527 : v527 10 = (v 10) := hk10_v527.trans hq10_v493
          have zq10_v527 := congrArg Int32.toInt hq10_v527
          try clear zq10_v493
          have hq13_v527 : v527 13 = (v 13) := hk13_v527.trans hq13_v493
          have zq13_v527 := congrArg Int32.toInt hq13_v527
          try clear zq13_v493
          have hq14_v527 : v527 14 = (v 14) := hk14_v527.trans hq14_v493
          have zq14_v527 := congrArg Int32.toInt hq14_v527
          try clear zq14_v493
          have hq15_v527 : v527 15 = (v 15) := hk15_v527.trans hq15_v493
          have zq15_v527 := congrArg Int32.toInt hq15_v527
          try clear zq15_v493
          have hq17_v527 : v527 17 = (v493 17) := hk17_v527
          have zq17_v527 := congrArg Int32.toInt hq17_v527
          have hq18_v527 : v527 18 = (v 18) := hk18_v527.trans hq18_v493
          have zq18_v527 := congrArg Int32.toInt hq18_v527
          try clear zq18_v493
          have hGR : GR (v 3).toInt (v 5).toInt (v527 3).toInt (v527 5).toInt := GR.tr hGR (show GR (v493 3).toInt (v493 5).toInt (v527 3).toInt (v527 5).toInt from ⟨pv531, pv532⟩) (by first | with_reducible rfl | with_reducible assumption | rfl | omega) (by first | with_reducible rfl | with_reducible assumption | rfl | omega)
          clear pv532
          refine lv_aload_n hx hb dX11_readLine_295 rfl (lv_at hl 0 rfl) ?_
          refine va_get (D := (dC, dI)) (ci := 11) (v := .int (v527 1)) (C := RX11) (T := TX11) (N := 79) hx hb hts inB_11 hown hE.1 hP 0 rfl rfl 2 (Nat.le_of_ble_eq_true rfl) (hts _ k_1322) (fun _ h9 => h9) rfl dX11_readLine_296 ?_
          have b1_v527 : 0 ≤ (v527 1).toInt ∧ (v527 1).toInt ≤ 4 := Yb_1 hIv527.1
          refine lv_if_ne (tgt := 306) hx hb dX11_readLine_299 rfl (fun c537 => ?_) (fun c537 => ?_)
          · skip
            have zc537 : ¬ ((v527 1).toInt = 0) := zEn rfl tc_0 c537
            exact ret (v527, f528, w529, g530) _ _ _ _ _ _ ⟨(gsY_X11_readLine_1_q67 hG489 c491 hG492 c502 c514 hG526 c537), hM_v527, hA_f528, hIv527, hCf528, hRf528, (hk0_v527.trans hk0_v493), (hk4_v527.trans hk4_v493), (hk9_v527.trans hk9_v493), (hk24_v527.trans hk24_v493), (hk25_v527.trans hk25_v493), (hk35_v527.trans hk35_v493), (hk36_v527.trans hk36_v493), (hk38_v527.trans hk38_v493), (hk39_v527.trans hk39_v493), (by show GA (v527 1).toInt (v 3).toInt (v527 3).toInt; exact GA.ab hGR (by omega) (by omega)), (by show IM0 (v527 1).toInt (IMn (v527 15).toInt (progOK (f528 2) (f528 3) ((v527 8).toInt).toNat)); rw [hs2_f528, hs3_f528]; intro hz8 hz9; exact prog_n (hPR (by omega)) (by omega))⟩ hP hD hS dX11_readLine_306 (Nat.le_refl _) (Nat.le_refl _)
          · skip
            have zc537 : (v527 1).toInt = 0 := zEp rfl tc_0 c537
            refine lv_aload_n hx hb dX11_readLine_302 rfl (lv_at hl 0 rfl) ?_
            refine cbVv (n := 0) (rest := []) hx hb hml hown hts hE hP hD hS hA (sY_X11_token_1 NF l dC dI cy y0 r  v527 f528 w529 g530 hIv527 hCf528 hRf528 ) k_1579 k_1581 k_42 k_114 k_1582 hd_yX11_token ⟨Nat.le_of_ble_eq_true rfl, Nat.le_of_ble_eq_true rfl⟩ 0 11 rfl rfl (rfl) hl.1 rfl (Nat.le_of_ble_eq_true rfl) dX11_readLine_303 (fun u H locs hw hP hD hS => ?_)
            obtain ⟨hG538, hw⟩ := hw
            obtain ⟨v539, f540, w541, g542⟩ := u
            obtain ⟨kV_v539, kF_f540, hIv539, hCf540, hRf540, hk0_v539, hk1_v539, hk2_v539, hk4_v539, hk8_v539, hk9_v539, hk10_v539, hk13_v539, hk14_v539, hk15_v539, hk17_v539, hk18_v539, hk24_v539, hk25_v539, hk35_v539, hk36_v539, hk38_v539, hk39_v539, pv543, pv544, kq545, kq546, kq547⟩ := hw
            have hM_v539 : KV [1, 2, 3, 5, 6, 7, 8, 10, 11, 13, 14, 15, 17, 18, 19, 20, 21, 22, 23, 30, 31, 32, 33, 34] v539 v := KV.tr kV_v539 hM_v527 (by decide +kernel)
            have hA_f540 : KF [2, 3, 6, 9, 10, 11, 12, 13, 14, 15] f540 f := KF.tr kF_f540 hA_f528 rfl
            have hP : va_P (dC, dI) vwCl (YW cy y0 r v539 f540 w541 g542) H := hP
            have hD : va_D A (YW cy y0 r v539 f540 w541 g542) := hD
            have b3_v539 : 0 ≤ (v539 3).toInt ∧ (v539 3).toInt ≤ 1600 := Yb_3 hIv539.1
            have pv543 : (v527 3).toInt ≤ (v539 3).toInt := pv543
            have pv544 : (v539 5).toInt = (v527 5).toInt ∨ (v527 3).toInt < (v539 3).toInt ∨ ¬ (v539 5).toInt = 59 := pv544
            have hs2_f540 : f540 2 = (f 2) := kq545.trans hs2_f528
            have hs3_f540 : f540 3 = (f 3) := kq546.trans hs3_f528
            have hUv539 : (v539 35).toInt + (v539 36).toInt ≤ 40 := hIv539.2
            have hq0_v539 : v539 0 = (v 0) := hk0_v539.trans hq0_v527
            have zq0_v539 := congrArg Int32.toInt hq0_v539
            try clear zq0_v527
            have hq1_v539 : v539 1 = (v527 1) := hk1_v539
            have zq1_v539 := congrArg Int32.toInt hq1_v539
            have hq8_v539 : v539 8 = (v 8) := hk8_v539.trans hq8_v527
            have zq8_v539 := congrArg Int32.toInt hq8_v539
            try clear zq8_v527
            have hq9_v539 : v539 9 = (v 9) := hk9_v539.trans hq9_v527
            have zq9_v539 := congrArg Int32.toInt hq9_v539
            try clear zq9_v527
            have hq10_v539 : v539 10 = (v 10) := hk10_v539.trans hq10_v527
            have zq10_v539 := congrArg Int32.toInt hq10_v539
            try clear zq10_v527
            have hq13_v539 : v539 13 = (v 13) := hk13_v539.trans hq13_v527
            have zq13_v539 := congrArg Int32.toInt hq13_v539
            try clear zq13_v527
            have hq14_v539 : v539 14 = (v 14) := hk14_v539.trans hq14_v527
            have zq14_v539 := congrArg Int32.toInt hq14_v539
            try clear zq14_v527
            have hq15_v539 : v539 15 = (v 15) := hk15_v539.trans hq15_v527
            have zq15_v539 := congrArg Int32.toInt hq15_v539
            try clear zq15_v527
            have hq17_v539 : v539 17 = (v493 17) := hk17_v539.trans hq17_v527
            have zq17_v539 := congrArg Int32.toInt hq17_v539
            try clear zq17_v527
            have hq18_v539 : v539 18 = (v 18) := hk18_v539.trans hq18_v527
            have zq18_v539 := congrArg Int32.toInt hq18_v539
            try clear zq18_v527
            have hGR : GR (v 3).toInt (v 5).toInt (v539 3).toInt (v539 5).toInt := GR.tr hGR (show GR (v527 3).toInt (v527 5).toInt (v539 3).toInt (v539 5).toInt from ⟨pv543, pv544⟩) (by first | with_reducible rfl | with_reducible assumption | rfl | omega) (by first | with_reducible rfl | with_reducible assumption | rfl | omega)
            clear pv544
            exact ret (v539, f540, w541, g542) _ _ _ _ _ _ ⟨(gsY_X11_readLine_1_q68 hG489 c491 hG492 c502 c514 hG526 c537 hG538), hM_v539, hA_f540, hIv539, hCf540, hRf540, (hk0_v539.trans (hk0_v527.trans hk0_v493)), (hk4_v539.trans (hk4_v527.trans hk4_v493)), (hk9_v539.trans (hk9_v527.trans hk9_v493)), (hk24_v539.trans (hk24_v527.trans hk24_v493)), (hk25_v539.trans (hk25_v527.trans hk25_v493)), (hk35_v539.trans (hk35_v527.trans hk35_v493)), (hk36_v539.trans (hk36_v527.trans hk36_v493)), (hk38_v539.trans (hk38_v527.trans hk38_v493)), (hk39_v539.trans (hk39_v527.trans hk39_v493)), (by show GA (v539 1).toInt (v 3).toInt (v539 3).toInt; exact GA.ab hGR (by omega) (by omega)), (by show IM0 (v539 1).toInt (IMn (v539 15).toInt (progOK (f540 2) (f540 3) ((v539 8).toInt).toNat)); rw [hs2_f540, hs3_f540]; intro hz8 hz9; exact prog_n (hPR (by omega)) (by omega))⟩ hP hD hS dX11_readLine_306 (Nat.le_refl _) (Nat.le_refl _)
  · skip
    subst g490
    refine lv_if_eq (tgt := 26) hx hb dX11_readLine_7 rfl (fun _ => ?_) (fun c0 => absurd (by decide) c0)
    exact jp26 _ _ _ (gsY_X11_readLine_1_q69 hG489).symm hP hD hS hl
set_option maxHeartbeats 4000000 in
set_option maxRecDepth 100000 in
theorem sY_X11_readAll_1 (NF : Nat) (l : Launch) (dC : Nat → ClassId) (dI : Nat → Nat → Nat) (cy : Nat → ClassId) (y0 : Nat) (r : Nat → Nat)  (v : Nat → Int32) (f : Nat → Nat → Int32) (w : Int64) (g : Nat → Int64) (hIv : YI v) (hCf : YC f) (hRf : progOK (f 4) (f 5) (v 9).toInt.toNat)  : ctV l (dC, dI) cy yX11_readAll cX11_readAll 1 8 212 0 0 ((Nat → Int32) × (Nat → Nat → Int32) × (Int64) × (Nat → Int64)) [.ref y0] (YW cy y0 r v f w g) (fun u => gsY_X11_readAll_1 NF v f w g = u ∧ KV [0, 1, 2, 3, 4, 5, 6, 7, 8, 10, 11, 13, 14, 15, 17, 18, 19, 20, 21, 22, 23, 30, 31, 32, 33, 34] u.1 v ∧ KF [2, 3, 6, 9, 10, 11, 12, 13, 14, 15] u.2.1 f ∧ YI u.1 ∧ YC u.2.1 ∧ progOK (u.2.1 4) (u.2.1 5) (u.1 9).toInt.toNat ∧ u.1 9 = v 9 ∧ u.1 24 = v 24 ∧ u.1 25 = v 25 ∧ u.1 35 = v 35 ∧ u.1 36 = v 36 ∧ u.1 38 = v 38 ∧ u.1 39 = v 39 ∧ ((u.1 0).toInt = 0) ∧ (IM0 (u.1 1).toInt (IMn (u.1 15).toInt (progOK (u.2.1 2) (u.2.1 3) ((u.1 8).toInt).toNat)))) (fun u => YW cy y0 r u.1 u.2.1 u.2.2.1 u.2.2.2) := by
  refine ctV_of (by decide) (Nat.le_of_ble_eq_true rfl) (fun p e s m below meth c A ls Q hx hb hml hts hown hnm hE hP hD hA hl ret => ?_)
  have hUv : (v 35).toInt + (v 36).toInt ≤ 40 := hIv.2
  have hM_v : KV [0, 1, 2, 3, 4, 5, 6, 7, 8, 10, 11, 13, 14, 15, 17, 18, 19, 20, 21, 22, 23, 30, 31, 32, 33, 34] v v := fun _ _ => rfl
  have hA_f : KF [2, 3, 6, 9, 10, 11, 12, 13, 14, 15] f f := fun _ _ => rfl
  have b0_v : (0 : Int) ≤ (v 0).toInt ∧ (v 0).toInt ≤ 1600 := Yb_0 hIv.1
  have b1_v : (0 : Int) ≤ (v 1).toInt ∧ (v 1).toInt ≤ 4 := Yb_1 hIv.1
  have b8_v : (0 : Int) ≤ (v 8).toInt ∧ (v 8).toInt ≤ 320 := Yb_8 hIv.1
  have b10_v : (0 : Int) ≤ (v 10).toInt ∧ (v 10).toInt ≤ 160 := Yb_10 hIv.1
  have b13_v : (0 : Int) ≤ (v 13).toInt ∧ (v 13).toInt ≤ 31 := Yb_13 hIv.1
  have b14_v : (0 : Int) ≤ (v 14).toInt ∧ (v 14).toInt ≤ 8 := Yb_14 hIv.1
  have b15_v : (0 : Int) ≤ (v 15).toInt ∧ (v 15).toInt ≤ 1 := Yb_15 hIv.1
  have b17_v : (0 : Int) ≤ (v 17).toInt ∧ (v 17).toInt ≤ 6 := Yb_17 hIv.1
  have b18_v : (0 : Int) ≤ (v 18).toInt ∧ (v 18).toInt ≤ 6 := Yb_18 hIv.1
  have hown : s.vm.findClass RX11 = some m.cls := hown
  have hS : va_S A s.heap s.heap [] := va_S.rf
  have hl : lv_has ls 1 [(0, .ref y0)] := hl
  refine lv_aload_n hx hb dX11_readAll_0 rfl (lv_at hl 0 rfl) ?_
  refine lv_aload_n hx hb dX11_readAll_1 rfl (lv_at hl 0 rfl) ?_
  refine va_get (D := (dC, dI)) (ci := 11) (v := .int (v 0)) (C := RX11) (T := TX11) (N := 79) hx hb hts inB_11 hown hE.1 hP 0 rfl rfl 1 (Nat.le_of_ble_eq_true rfl) (hts _ k_1321) (fun _ h9 => h9) rfl dX11_readAll_2 ?_
  have b0_v : 0 ≤ (v 0).toInt ∧ (v 0).toInt ≤ 1600 := Yb_0 hIv.1
  refine va_put (D := (dC, dI)) (ci := 11) (v := .int (v 0)) (ty := tyX11 5) (C := RX11) (T := TX11) (N := 79) hx hb hts inB_11 tyX11 tyX11_ok nmX11 hown hE.1 hP hD hS 0 rfl rfl 5 (Nat.le_of_ble_eq_true rfl) (hts _ k_1325) (fun _ h9 => h9) rfl (tyX11_ok 5 (Nat.le_of_ble_eq_true rfl)) rfl rfl (Nat.le_of_ble_eq_true rfl) dX11_readAll_5 (fun H locs hP hD hS => ?_)
  have hP : va_P (dC, dI) vwCl (YW cy y0 r (upd v 4 (v 0)) f w g) H := hP
  have hD : va_D A (YW cy y0 r (upd v 4 (v 0)) f w g) := hD
  refine lv_aload_n hx hb dX11_readAll_8 rfl (lv_at hl 0 rfl) ?_
  refine lv_iconst (v := 0) hx hb dX11_readAll_9 rfl ?_
  refine va_put (D := (dC, dI)) (ci := 11) (v := .int 0) (ty := tyX11 1) (C := RX11) (T := TX11) (N := 79) hx hb hts inB_11 tyX11 tyX11_ok nmX11 hown hE.1 hP hD hS 0 rfl rfl 1 (Nat.le_of_ble_eq_true rfl) (hts _ k_1321) (fun _ h9 => h9) rfl (tyX11_ok 1 (Nat.le_of_ble_eq_true rfl)) rfl rfl (Nat.le_of_ble_eq_true rfl) dX11_readAll_10 (fun H locs hP hD hS => ?_)
  have hP : va_P (dC, dI) vwCl (YW cy y0 r (upd (upd v 4 (v 0)) 0 0) f w g) H := hP
  have hD : va_D A (YW cy y0 r (upd (upd v 4 (v 0)) 0 0) f w g) := hD
  refine lv_aload_n hx hb dX11_readAll_13 rfl (lv_at hl 0 rfl) ?_
  refine lv_iconst (v := 0) hx hb dX11_readAll_14 rfl ?_
  refine va_put (D := (dC, dI)) (ci := 11) (v := .int 0) (ty := tyX11 4) (C := RX11) (T := TX11) (N := 79) hx hb hts inB_11 tyX11 tyX11_ok nmX11 hown hE.1 hP hD hS 0 rfl rfl 4 (Nat.le_of_ble_eq_true rfl) (hts _ k_1324) (fun _ h9 => h9) rfl (tyX11_ok 4 (Nat.le_of_ble_eq_true rfl)) rfl rfl (Nat.le_of_ble_eq_true rfl) dX11_readAll_15 (fun H locs hP hD hS => ?_)
  have hP : va_P (dC, dI) vwCl (YW cy y0 r (upd (upd (upd v 4 (v 0)) 0 0) 3 0) f w g) H := hP
  have hD : va_D A (YW cy y0 r (upd (upd (upd v 4 (v 0)) 0 0) 3 0) f w g) := hD
  refine lv_aload_n hx hb dX11_readAll_18 rfl (lv_at hl 0 rfl) ?_
  refine lv_iconst (v := 0) hx hb dX11_readAll_19 rfl ?_
  refine va_put (D := (dC, dI)) (ci := 11) (v := .int 0) (ty := tyX11 2) (C := RX11) (T := TX11) (N := 79) hx hb hts inB_11 tyX11 tyX11_ok nmX11 hown hE.1 hP hD hS 0 rfl rfl 2 (Nat.le_of_ble_eq_true rfl) (hts _ k_1322) (fun _ h9 => h9) rfl (tyX11_ok 2 (Nat.le_of_ble_eq_true rfl)) rfl rfl (Nat.le_of_ble_eq_true rfl) dX11_readAll_20 (fun H locs hP hD hS => ?_)
  have hP : va_P (dC, dI) vwCl (YW cy y0 r (upd (upd (upd (upd v 4 (v 0)) 0 0) 3 0) 1 0) f w g) H := hP
  have hD : va_D A (YW cy y0 r (upd (upd (upd (upd v 4 (v 0)) 0 0) 3 0) 1 0) f w g) := hD
  refine lv_aload_n hx hb dX11_readAll_23 rfl (lv_at hl 0 rfl) ?_
  refine lv_iconst (v := (-1)) hx hb dX11_readAll_24 rfl ?_
  refine va_put (D := (dC, dI)) (ci := 11) (v := .int (-1)) (ty := tyX11 3) (C := RX11) (T := TX11) (N := 79) hx hb hts inB_11 tyX11 tyX11_ok nmX11 hown hE.1 hP hD hS 0 rfl rfl 3 (Nat.le_of_ble_eq_true rfl) (hts _ k_1323) (fun _ h9 => h9) rfl (tyX11_ok 3 (Nat.le_of_ble_eq_true rfl)) rfl rfl (Nat.le_of_ble_eq_true rfl) dX11_readAll_25 (fun H locs hP hD hS => ?_)
  have hP : va_P (dC, dI) vwCl (YW cy y0 r (upd (upd (upd (upd (upd v 4 (v 0)) 0 0) 3 0) 1 0) 2 (-1)) f w g) H := hP
  have hD : va_D A (YW cy y0 r (upd (upd (upd (upd (upd v 4 (v 0)) 0 0) 3 0) 1 0) 2 (-1)) f w g) := hD
  refine lv_aload_n hx hb dX11_readAll_28 rfl (lv_at hl 0 rfl) ?_
  refine lv_iconst (v := 0) hx hb dX11_readAll_29 rfl ?_
  refine va_put (D := (dC, dI)) (ci := 11) (v := .int 0) (ty := tyX11 41) (C := RX11) (T := TX11) (N := 79) hx hb hts inB_11 tyX11 tyX11_ok nmX11 hown hE.1 hP hD hS 0 rfl rfl 41 (Nat.le_of_ble_eq_true rfl) (hts _ k_1361) (fun _ h9 => h9) rfl (tyX11_ok 41 (Nat.le_of_ble_eq_true rfl)) rfl rfl (Nat.le_of_ble_eq_true rfl) dX11_readAll_30 (fun H locs hP hD hS => ?_)
  have hP : va_P (dC, dI) vwCl (YW cy y0 r (upd (upd (upd (upd (upd (upd v 4 (v 0)) 0 0) 3 0) 1 0) 2 (-1)) 17 0) f w g) H := hP
  have hD : va_D A (YW cy y0 r (upd (upd (upd (upd (upd (upd v 4 (v 0)) 0 0) 3 0) 1 0) 2 (-1)) 17 0) f w g) := hD
  refine lv_aload_n hx hb dX11_readAll_33 rfl (lv_at hl 0 rfl) ?_
  refine lv_iconst (v := 0) hx hb dX11_readAll_34 rfl ?_
  refine va_put (D := (dC, dI)) (ci := 11) (v := .int 0) (ty := tyX11 42) (C := RX11) (T := TX11) (N := 79) hx hb hts inB_11 tyX11 tyX11_ok nmX11 hown hE.1 hP hD hS 0 rfl rfl 42 (Nat.le_of_ble_eq_true rfl) (hts _ k_1362) (fun _ h9 => h9) rfl (tyX11_ok 42 (Nat.le_of_ble_eq_true rfl)) rfl rfl (Nat.le_of_ble_eq_true rfl) dX11_readAll_35 (fun H locs hP hD hS => ?_)
  have hP : va_P (dC, dI) vwCl (YW cy y0 r (upd (upd (upd (upd (upd (upd (upd v 4 (v 0)) 0 0) 3 0) 1 0) 2 (-1)) 17 0) 18 0) f w g) H := hP
  have hD : va_D A (YW cy y0 r (upd (upd (upd (upd (upd (upd (upd v 4 (v 0)) 0 0) 3 0) 1 0) 2 (-1)) 17 0) 18 0) f w g) := hD
  refine lv_aload_n hx hb dX11_readAll_38 rfl (lv_at hl 0 rfl) ?_
  refine lv_bipush (v := 10) hx hb dX11_readAll_39 rfl ?_
  refine va_put (D := (dC, dI)) (ci := 11) (v := .int 10) (ty := tyX11 43) (C := RX11) (T := TX11) (N := 79) hx hb hts inB_11 tyX11 tyX11_ok nmX11 hown hE.1 hP hD hS 0 rfl rfl 43 (Nat.le_of_ble_eq_true rfl) (hts _ k_1363) (fun _ h9 => h9) rfl (tyX11_ok 43 (Nat.le_of_ble_eq_true rfl)) rfl rfl (Nat.le_of_ble_eq_true rfl) dX11_readAll_41 (fun H locs hP hD hS => ?_)
  have hP : va_P (dC, dI) vwCl (YW cy y0 r (upd (upd (upd (upd (upd (upd (upd (upd v 4 (v 0)) 0 0) 3 0) 1 0) 2 (-1)) 17 0) 18 0) 19 10) f w g) H := hP
  have hD : va_D A (YW cy y0 r (upd (upd (upd (upd (upd (upd (upd (upd v 4 (v 0)) 0 0) 3 0) 1 0) 2 (-1)) 17 0) 18 0) 19 10) f w g) := hD
  refine lv_aload_n hx hb dX11_readAll_44 rfl (lv_at hl 0 rfl) ?_
  refine lv_sipush (v := 150) hx hb dX11_readAll_45 rfl ?_
  refine va_put (D := (dC, dI)) (ci := 11) (v := .int 150) (ty := tyX11 44) (C := RX11) (T := TX11) (N := 79) hx hb hts inB_11 tyX11 tyX11_ok nmX11 hown hE.1 hP hD hS 0 rfl rfl 44 (Nat.le_of_ble_eq_true rfl) (hts _ k_1364) (fun _ h9 => h9) rfl (tyX11_ok 44 (Nat.le_of_ble_eq_true rfl)) rfl rfl (Nat.le_of_ble_eq_true rfl) dX11_readAll_48 (fun H locs hP hD hS => ?_)
  have hP : va_P (dC, dI) vwCl (YW cy y0 r (upd (upd (upd (upd (upd (upd (upd (upd (upd v 4 (v 0)) 0 0) 3 0) 1 0) 2 (-1)) 17 0) 18 0) 19 10) 20 150) f w g) H := hP
  have hD : va_D A (YW cy y0 r (upd (upd (upd (upd (upd (upd (upd (upd (upd v 4 (v 0)) 0 0) 3 0) 1 0) 2 (-1)) 17 0) 18 0) 19 10) 20 150) f w g) := hD
  refine lv_aload_n hx hb dX11_readAll_51 rfl (lv_at hl 0 rfl) ?_
  refine lv_iconst (v := 2) hx hb dX11_readAll_52 rfl ?_
  refine va_put (D := (dC, dI)) (ci := 11) (v := .int 2) (ty := tyX11 45) (C := RX11) (T := TX11) (N := 79) hx hb hts inB_11 tyX11 tyX11_ok nmX11 hown hE.1 hP hD hS 0 rfl rfl 45 (Nat.le_of_ble_eq_true rfl) (hts _ k_1365) (fun _ h9 => h9) rfl (tyX11_ok 45 (Nat.le_of_ble_eq_true rfl)) rfl rfl (Nat.le_of_ble_eq_true rfl) dX11_readAll_53 (fun H locs hP hD hS => ?_)
  have hP : va_P (dC, dI) vwCl (YW cy y0 r (upd (upd (upd (upd (upd (upd (upd (upd (upd (upd v 4 (v 0)) 0 0) 3 0) 1 0) 2 (-1)) 17 0) 18 0) 19 10) 20 150) 21 2) f w g) H := hP
  have hD : va_D A (YW cy y0 r (upd (upd (upd (upd (upd (upd (upd (upd (upd (upd v 4 (v 0)) 0 0) 3 0) 1 0) 2 (-1)) 17 0) 18 0) 19 10) 20 150) 21 2) f w g) := hD
  refine lv_aload_n hx hb dX11_readAll_56 rfl (lv_at hl 0 rfl) ?_
  refine lv_iconst (v := 0) hx hb dX11_readAll_57 rfl ?_
  refine va_put (D := (dC, dI)) (ci := 11) (v := .int 0) (ty := tyX11 46) (C := RX11) (T := TX11) (N := 79) hx hb hts inB_11 tyX11 tyX11_ok nmX11 hown hE.1 hP hD hS 0 rfl rfl 46 (Nat.le_of_ble_eq_true rfl) (hts _ k_1366) (fun _ h9 => h9) rfl (tyX11_ok 46 (Nat.le_of_ble_eq_true rfl)) rfl rfl (Nat.le_of_ble_eq_true rfl) dX11_readAll_58 (fun H locs hP hD hS => ?_)
  have hP : va_P (dC, dI) vwCl (YW cy y0 r (upd (upd (upd (upd (upd (upd (upd (upd (upd (upd (upd v 4 (v 0)) 0 0) 3 0) 1 0) 2 (-1)) 17 0) 18 0) 19 10) 20 150) 21 2) 22 0) f w g) H := hP
  have hD : va_D A (YW cy y0 r (upd (upd (upd (upd (upd (upd (upd (upd (upd (upd (upd v 4 (v 0)) 0 0) 3 0) 1 0) 2 (-1)) 17 0) 18 0) 19 10) 20 150) 21 2) 22 0) f w g) := hD
  refine lv_aload_n hx hb dX11_readAll_61 rfl (lv_at hl 0 rfl) ?_
  refine lv_iconst (v := 0) hx hb dX11_readAll_62 rfl ?_
  refine va_put (D := (dC, dI)) (ci := 11) (v := .int 0) (ty := tyX11 47) (C := RX11) (T := TX11) (N := 79) hx hb hts inB_11 tyX11 tyX11_ok nmX11 hown hE.1 hP hD hS 0 rfl rfl 47 (Nat.le_of_ble_eq_true rfl) (hts _ k_1367) (fun _ h9 => h9) rfl (tyX11_ok 47 (Nat.le_of_ble_eq_true rfl)) rfl rfl (Nat.le_of_ble_eq_true rfl) dX11_readAll_63 (fun H locs hP hD hS => ?_)
  have hP : va_P (dC, dI) vwCl (YW cy y0 r (upd (upd (upd (upd (upd (upd (upd (upd (upd (upd (upd (upd v 4 (v 0)) 0 0) 3 0) 1 0) 2 (-1)) 17 0) 18 0) 19 10) 20 150) 21 2) 22 0) 23 0) f w g) H := hP
  have hD : va_D A (YW cy y0 r (upd (upd (upd (upd (upd (upd (upd (upd (upd (upd (upd (upd v 4 (v 0)) 0 0) 3 0) 1 0) 2 (-1)) 17 0) 18 0) 19 10) 20 150) 21 2) 22 0) 23 0) f w g) := hD
  refine lv_aload_n hx hb dX11_readAll_66 rfl (lv_at hl 0 rfl) ?_
  refine lv_iconst (v := 0) hx hb dX11_readAll_67 rfl ?_
  refine va_put (D := (dC, dI)) (ci := 11) (v := .int 0) (ty := tyX11 54) (C := RX11) (T := TX11) (N := 79) hx hb hts inB_11 tyX11 tyX11_ok nmX11 hown hE.1 hP hD hS 0 rfl rfl 54 (Nat.le_of_ble_eq_true rfl) (hts _ k_1374) (fun _ h9 => h9) rfl (tyX11_ok 54 (Nat.le_of_ble_eq_true rfl)) rfl rfl (Nat.le_of_ble_eq_true rfl) dX11_readAll_68 (fun H locs hP hD hS => ?_)
  have hP : va_P (dC, dI) vwCl (YW cy y0 r (upd (upd (upd (upd (upd (upd (upd (upd (upd (upd (upd (upd (upd v 4 (v 0)) 0 0) 3 0) 1 0) 2 (-1)) 17 0) 18 0) 19 10) 20 150) 21 2) 22 0) 23 0) 30 0) f w g) H := hP
  have hD : va_D A (YW cy y0 r (upd (upd (upd (upd (upd (upd (upd (upd (upd (upd (upd (upd (upd v 4 (v 0)) 0 0) 3 0) 1 0) 2 (-1)) 17 0) 18 0) 19 10) 20 150) 21 2) 22 0) 23 0) 30 0) f w g) := hD
  refine lv_aload_n hx hb dX11_readAll_71 rfl (lv_at hl 0 rfl) ?_
  refine lv_iconst (v := 0) hx hb dX11_readAll_72 rfl ?_
  refine va_put (D := (dC, dI)) (ci := 11) (v := .int 0) (ty := tyX11 55) (C := RX11) (T := TX11) (N := 79) hx hb hts inB_11 tyX11 tyX11_ok nmX11 hown hE.1 hP hD hS 0 rfl rfl 55 (Nat.le_of_ble_eq_true rfl) (hts _ k_1375) (fun _ h9 => h9) rfl (tyX11_ok 55 (Nat.le_of_ble_eq_true rfl)) rfl rfl (Nat.le_of_ble_eq_true rfl) dX11_readAll_73 (fun H locs hP hD hS => ?_)
  have hP : va_P (dC, dI) vwCl (YW cy y0 r (upd (upd (upd (upd (upd (upd (upd (upd (upd (upd (upd (upd (upd (upd v 4 (v 0)) 0 0) 3 0) 1 0) 2 (-1)) 17 0) 18 0) 19 10) 20 150) 21 2) 22 0) 23 0) 30 0) 31 0) f w g) H := hP
  have hD : va_D A (YW cy y0 r (upd (upd (upd (upd (upd (upd (upd (upd (upd (upd (upd (upd (upd (upd v 4 (v 0)) 0 0) 3 0) 1 0) 2 (-1)) 17 0) 18 0) 19 10) 20 150) 21 2) 22 0) 23 0) 30 0) 31 0) f w g) := hD
  refine lv_aload_n hx hb dX11_readAll_76 rfl (lv_at hl 0 rfl) ?_
  refine lv_iconst (v := 0) hx hb dX11_readAll_77 rfl ?_
  refine va_put (D := (dC, dI)) (ci := 11) (v := .int 0) (ty := tyX11 56) (C := RX11) (T := TX11) (N := 79) hx hb hts inB_11 tyX11 tyX11_ok nmX11 hown hE.1 hP hD hS 0 rfl rfl 56 (Nat.le_of_ble_eq_true rfl) (hts _ k_1376) (fun _ h9 => h9) rfl (tyX11_ok 56 (Nat.le_of_ble_eq_true rfl)) rfl rfl (Nat.le_of_ble_eq_true rfl) dX11_readAll_78 (fun H locs hP hD hS => ?_)
  have hP : va_P (dC, dI) vwCl (YW cy y0 r (upd (upd (upd (upd (upd (upd (upd (upd (upd (upd (upd (upd (upd (upd (upd v 4 (v 0)) 0 0) 3 0) 1 0) 2 (-1)) 17 0) 18 0) 19 10) 20 150) 21 2) 22 0) 23 0) 30 0) 31 0) 32 0) f w g) H := hP
  have hD : va_D A (YW cy y0 r (upd (upd (upd (upd (upd (upd (upd (upd (upd (upd (upd (upd (upd (upd (upd v 4 (v 0)) 0 0) 3 0) 1 0) 2 (-1)) 17 0) 18 0) 19 10) 20 150) 21 2) 22 0) 23 0) 30 0) 31 0) 32 0) f w g) := hD
  refine lv_aload_n hx hb dX11_readAll_81 rfl (lv_at hl 0 rfl) ?_
  refine lv_iconst (v := 0) hx hb dX11_readAll_82 rfl ?_
  refine va_put (D := (dC, dI)) (ci := 11) (v := .int 0) (ty := tyX11 57) (C := RX11) (T := TX11) (N := 79) hx hb hts inB_11 tyX11 tyX11_ok nmX11 hown hE.1 hP hD hS 0 rfl rfl 57 (Nat.le_of_ble_eq_true rfl) (hts _ k_1377) (fun _ h9 => h9) rfl (tyX11_ok 57 (Nat.le_of_ble_eq_true rfl)) rfl rfl (Nat.le_of_ble_eq_true rfl) dX11_readAll_83 (fun H locs hP hD hS => ?_)
  have hP : va_P (dC, dI) vwCl (YW cy y0 r (upd (upd (upd (upd (upd (upd (upd (upd (upd (upd (upd (upd (upd (upd (upd (upd v 4 (v 0)) 0 0) 3 0) 1 0) 2 (-1)) 17 0) 18 0) 19 10) 20 150) 21 2) 22 0) 23 0) 30 0) 31 0) 32 0) 33 0) f w g) H := hP
  have hD : va_D A (YW cy y0 r (upd (upd (upd (upd (upd (upd (upd (upd (upd (upd (upd (upd (upd (upd (upd (upd v 4 (v 0)) 0 0) 3 0) 1 0) 2 (-1)) 17 0) 18 0) 19 10) 20 150) 21 2) 22 0) 23 0) 30 0) 31 0) 32 0) 33 0) f w g) := hD
  refine lv_aload_n hx hb dX11_readAll_86 rfl (lv_at hl 0 rfl) ?_
  refine lv_iconst (v := 0) hx hb dX11_readAll_87 rfl ?_
  refine va_put (D := (dC, dI)) (ci := 11) (v := .int 0) (ty := tyX11 58) (C := RX11) (T := TX11) (N := 79) hx hb hts inB_11 tyX11 tyX11_ok nmX11 hown hE.1 hP hD hS 0 rfl rfl 58 (Nat.le_of_ble_eq_true rfl) (hts _ k_1378) (fun _ h9 => h9) rfl (tyX11_ok 58 (Nat.le_of_ble_eq_true rfl)) rfl rfl (Nat.le_of_ble_eq_true rfl) dX11_readAll_88 (fun H locs hP hD hS => ?_)
  have hP : va_P (dC, dI) vwCl (YW cy y0 r (upd (upd (upd (upd (upd (upd (upd (upd (upd (upd (upd (upd (upd (upd (upd (upd (upd v 4 (v 0)) 0 0) 3 0) 1 0) 2 (-1)) 17 0) 18 0) 19 10) 20 150) 21 2) 22 0) 23 0) 30 0) 31 0) 32 0) 33 0) 34 0) f w g) H := hP
  have hD : va_D A (YW cy y0 r (upd (upd (upd (upd (upd (upd (upd (upd (upd (upd (upd (upd (upd (upd (upd (upd (upd v 4 (v 0)) 0 0) 3 0) 1 0) 2 (-1)) 17 0) 18 0) 19 10) 20 150) 21 2) 22 0) 23 0) 30 0) 31 0) 32 0) 33 0) 34 0) f w g) := hD
  refine lv_aload_n hx hb dX11_readAll_91 rfl (lv_at hl 0 rfl) ?_
  refine lv_iconst (v := 0) hx hb dX11_readAll_92 rfl ?_
  refine va_put (D := (dC, dI)) (ci := 11) (v := .int 0) (ty := tyX11 24) (C := RX11) (T := TX11) (N := 79) hx hb hts inB_11 tyX11 tyX11_ok nmX11 hown hE.1 hP hD hS 0 rfl rfl 24 (Nat.le_of_ble_eq_true rfl) (hts _ k_1344) (fun _ h9 => h9) rfl (tyX11_ok 24 (Nat.le_of_ble_eq_true rfl)) rfl rfl (Nat.le_of_ble_eq_true rfl) dX11_readAll_93 (fun H locs hP hD hS => ?_)
  have hP : va_P (dC, dI) vwCl (YW cy y0 r (upd (upd (upd (upd (upd (upd (upd (upd (upd (upd (upd (upd (upd (upd (upd (upd (upd (upd v 4 (v 0)) 0 0) 3 0) 1 0) 2 (-1)) 17 0) 18 0) 19 10) 20 150) 21 2) 22 0) 23 0) 30 0) 31 0) 32 0) 33 0) 34 0) 15 0) f w g) H := hP
  have hD : va_D A (YW cy y0 r (upd (upd (upd (upd (upd (upd (upd (upd (upd (upd (upd (upd (upd (upd (upd (upd (upd (upd v 4 (v 0)) 0 0) 3 0) 1 0) 2 (-1)) 17 0) 18 0) 19 10) 20 150) 21 2) 22 0) 23 0) 30 0) 31 0) 32 0) 33 0) 34 0) 15 0) f w g) := hD
  refine lv_aload_n hx hb dX11_readAll_96 rfl (lv_at hl 0 rfl) ?_
  refine lv_iconst (v := 0) hx hb dX11_readAll_97 rfl ?_
  refine va_put (D := (dC, dI)) (ci := 11) (v := .int 0) (ty := tyX11 20) (C := RX11) (T := TX11) (N := 79) hx hb hts inB_11 tyX11 tyX11_ok nmX11 hown hE.1 hP hD hS 0 rfl rfl 20 (Nat.le_of_ble_eq_true rfl) (hts _ k_1340) (fun _ h9 => h9) rfl (tyX11_ok 20 (Nat.le_of_ble_eq_true rfl)) rfl rfl (Nat.le_of_ble_eq_true rfl) dX11_readAll_98 (fun H locs hP hD hS => ?_)
  have hP : va_P (dC, dI) vwCl (YW cy y0 r (upd (upd (upd (upd (upd (upd (upd (upd (upd (upd (upd (upd (upd (upd (upd (upd (upd (upd (upd v 4 (v 0)) 0 0) 3 0) 1 0) 2 (-1)) 17 0) 18 0) 19 10) 20 150) 21 2) 22 0) 23 0) 30 0) 31 0) 32 0) 33 0) 34 0) 15 0) 11 0) f w g) H := hP
  have hD : va_D A (YW cy y0 r (upd (upd (upd (upd (upd (upd (upd (upd (upd (upd (upd (upd (upd (upd (upd (upd (upd (upd (upd v 4 (v 0)) 0 0) 3 0) 1 0) 2 (-1)) 17 0) 18 0) 19 10) 20 150) 21 2) 22 0) 23 0) 30 0) 31 0) 32 0) 33 0) 34 0) 15 0) 11 0) f w g) := hD
  refine lv_aload_n hx hb dX11_readAll_101 rfl (lv_at hl 0 rfl) ?_
  refine cbVv (n := 0) (rest := []) hx hb hml hown hts hE hP hD hS hA (sY_X11_token_1 NF l dC dI cy y0 r  (upd (upd (upd (upd (upd (upd (upd (upd (upd (upd (upd (upd (upd (upd (upd (upd (upd (upd (upd v 4 (v 0)) 0 0) 3 0) 1 0) 2 (-1)) 17 0) 18 0) 19 10) 20 150) 21 2) 22 0) 23 0) 30 0) 31 0) 32 0) 33 0) 34 0) 15 0) 11 0) f w g ⟨(Yu_11 (x := 0) (Yu_15 (x := 0) (Yu_34 (x := 0) (Yu_33 (x := 0) (Yu_32 (x := 0) (Yu_31 (x := 0) (Yu_30 (x := 0) (Yu_23 (x := 0) (Yu_22 (x := 0) (Yu_21 (x := 2) (Yu_20 (x := 150) (Yu_19 (x := 10) (Yu_18 (x := 0) (Yu_17 (x := 0) (Yu_2 (x := (-1)) (Yu_1 (x := 0) (Yu_3 (x := 0) (Yu_0 (x := 0) (Yu_4 (x := (v 0)) hIv.1 (show (0 : Int) ≤ (v 0).toInt from om_2 b0_v) (show (v 0).toInt ≤ (1600 : Int) from om_48 b0_v)) (by decide) (by decide)) (by decide) (by decide)) (by decide) (by decide)) (rlo _) (rhi _)) (by decide) (by decide)) (by decide) (by decide)) (rlo _) (rhi _)) (rlo _) (rhi _)) (rlo _) (rhi _)) (rlo _) (rhi _)) (rlo _) (rhi _)) (rlo _) (rhi _)) (rlo _) (rhi _)) (rlo _) (rhi _)) (rlo _) (rhi _)) (rlo _) (rhi _)) (by decide) (by decide)) (rlo _) (rhi _)), hIv.2⟩ hCf hRf ) k_1579 k_1581 k_42 k_114 k_1582 hd_yX11_token ⟨Nat.le_of_ble_eq_true rfl, Nat.le_of_ble_eq_true rfl⟩ 0 11 rfl rfl (rfl) hl.1 rfl (Nat.le_of_ble_eq_true rfl) dX11_readAll_102 (fun u H locs hw hP hD hS => ?_)
  obtain ⟨hG1, hw⟩ := hw
  obtain ⟨v2, f3, w4, g5⟩ := u
  obtain ⟨kV_v2, kF_f3, hIv2, hCf3, hRf3, hk0_v2, hk1_v2, hk2_v2, hk4_v2, hk8_v2, hk9_v2, hk10_v2, hk13_v2, hk14_v2, hk15_v2, hk17_v2, hk18_v2, hk24_v2, hk25_v2, hk35_v2, hk36_v2, hk38_v2, hk39_v2, pv6, pv7, kq8, kq9, kq10⟩ := hw
  have hM_v2 : KV [0, 1, 2, 3, 4, 5, 6, 7, 8, 10, 11, 13, 14, 15, 17, 18, 19, 20, 21, 22, 23, 30, 31, 32, 33, 34] v2 v := KV.tr kV_v2 (KV.up (j := 11) (x := 0) (KV.up (j := 15) (x := 0) (KV.up (j := 34) (x := 0) (KV.up (j := 33) (x := 0) (KV.up (j := 32) (x := 0) (KV.up (j := 31) (x := 0) (KV.up (j := 30) (x := 0) (KV.up (j := 23) (x := 0) (KV.up (j := 22) (x := 0) (KV.up (j := 21) (x := 2) (KV.up (j := 20) (x := 150) (KV.up (j := 19) (x := 10) (KV.up (j := 18) (x := 0) (KV.up (j := 17) (x := 0) (KV.up (j := 2) (x := (-1)) (KV.up (j := 1) (x := 0) (KV.up (j := 3) (x := 0) (KV.up (j := 0) (x := 0) (KV.up (j := 4) (x := (v 0)) hM_v (by decide +kernel)) (by decide +kernel)) (by decide +kernel)) (by decide +kernel)) (by decide +kernel)) (by decide +kernel)) (by decide +kernel)) (by decide +kernel)) (by decide +kernel)) (by decide +kernel)) (by decide +kernel)) (by decide +kernel)) (by decide +kernel)) (by decide +kernel)) (by decide +kernel)) (by decide +kernel)) (by decide +kernel)) (by decide +kernel)) (by decide +kernel)) (by decide +kernel)
  have hA_f3 : KF [2, 3, 6, 9, 10, 11, 12, 13, 14, 15] f3 f := KF.tr kF_f3 hA_f rfl
  have hP : va_P (dC, dI) vwCl (YW cy y0 r v2 f3 w4 g5) H := hP
  have hD : va_D A (YW cy y0 r v2 f3 w4 g5) := hD
  have b3_v2 : 0 ≤ (v2 3).toInt ∧ (v2 3).toInt ≤ 1600 := Yb_3 hIv2.1
  have pv6 : (0 : Int32).toInt ≤ (v2 3).toInt := pv6
  have pv7 : (v2 5).toInt = (v 5).toInt ∨ (0 : Int32).toInt < (v2 3).toInt ∨ ¬ (v2 5).toInt = 59 := pv7
  have hs2_f3 : f3 2 = (f 2) := kq8
  have hs3_f3 : f3 3 = (f 3) := kq9
  have hUv2 : (v2 35).toInt + (v2 36).toInt ≤ 40 := hIv2.2
  have hq0_v2 : v2 0 = 0 := hk0_v2
  have zq0_v2 : (v2 0).toInt = 0 := by rw [hq0_v2]; decide
  have hq1_v2 : v2 1 = 0 := hk1_v2
  have zq1_v2 : (v2 1).toInt = 0 := by rw [hq1_v2]; decide
  have hq2_v2 : v2 2 = (-1) := hk2_v2
  have zq2_v2 : (v2 2).toInt = -1 := by rw [hq2_v2]; decide
  have hq4_v2 : v2 4 = (v 0) := hk4_v2
  have hq8_v2 : v2 8 = (v 8) := hk8_v2
  have zq8_v2 := congrArg Int32.toInt hq8_v2
  have hq9_v2 : v2 9 = (v 9) := hk9_v2
  have zq9_v2 := congrArg Int32.toInt hq9_v2
  have hq10_v2 : v2 10 = (v 10) := hk10_v2
  have zq10_v2 := congrArg Int32.toInt hq10_v2
  have hq13_v2 : v2 13 = (v 13) := hk13_v2
  have zq13_v2 := congrArg Int32.toInt hq13_v2
  have hq14_v2 : v2 14 = (v 14) := hk14_v2
  have zq14_v2 := congrArg Int32.toInt hq14_v2
  have hq15_v2 : v2 15 = 0 := hk15_v2
  have zq15_v2 : (v2 15).toInt = 0 := by rw [hq15_v2]; decide
  have hq17_v2 : v2 17 = 0 := hk17_v2
  have zq17_v2 : (v2 17).toInt = 0 := by rw [hq17_v2]; decide
  have hq18_v2 : v2 18 = 0 := hk18_v2
  have zq18_v2 : (v2 18).toInt = 0 := by rw [hq18_v2]; decide
  have hq24_v2 : v2 24 = (v 24) := hk24_v2
  have hq25_v2 : v2 25 = (v 25) := hk25_v2
  have hq35_v2 : v2 35 = (v 35) := hk35_v2
  have hq36_v2 : v2 36 = (v 36) := hk36_v2
  have hq38_v2 : v2 38 = (v 38) := hk38_v2
  have hq39_v2 : v2 39 = (v 39) := hk39_v2
  have lp11 : ∀ (n11 : Nat)  (v11 : Nat → Int32) (f11 : Nat → Nat → Int32) (w11 : Int64) (g11 : Nat → Int64), YI v11 → YC f11 → progOK (f11 4) (f11 5) (v11 9).toInt.toNat → v11 0 = 0 → v11 4 = (v 0) → v11 9 = (v 9) → v11 24 = (v 24) → v11 25 = (v 25) → v11 35 = (v 35) → v11 36 = (v 36) → v11 38 = (v 38) → v11 39 = (v 39) → gsY_X11_readAll_1_L11 NF n11 v11 f11 w11 g11 = (gsY_X11_readAll_1 NF v f w g) → (IM0 (v11 1).toInt (IMn (v11 15).toInt (progOK (f11 2) (f11 3) ((v11 8).toInt).toNat))) → KV [0, 1, 2, 3, 4, 5, 6, 7, 8, 10, 11, 13, 14, 15, 17, 18, 19, 20, 21, 22, 23, 30, 31, 32, 33, 34] v11 v → KF [2, 3, 6, 9, 10, 11, 12, 13, 14, 15] f11 f → (2 * (1600 - (v11 3).toInt) + (1 - min (v11 1).toInt 1)).toNat < n11 → ∀ (H : Heap) (locs : List Loc) (ls : Array Slot), va_P (dC, dI) vwCl (YW cy y0 r v11 f11 w11 g11) H → va_D A (YW cy y0 r v11 f11 w11 g11) → va_S A s.heap H locs → lv_has ls 1 [(0, .ref y0)] → W p l e { frames := 8, cells := 0, slots := 0, locals := 212 } s m ([.ref y0] : List Value).toArray below meth c H locs 0 0 Q (F0 m 105 ls []) := by
    intro n11
    induction n11 with
    | zero => intro  v11 f11 w11 g11 hIv11 hCf11 hRf11 hq0_v11 hq4_v11 hq9_v11 hq24_v11 hq25_v11 hq35_v11 hq36_v11 hq38_v11 hq39_v11 hT11 hx0_11 hM_v11 hA_f11 hm; exact absurd hm (Nat.not_lt_zero _)
    | succ n11 ih11 =>
      intro  v11 f11 w11 g11 hIv11 hCf11 hRf11 hq0_v11 hq4_v11 hq9_v11 hq24_v11 hq25_v11 hq35_v11 hq36_v11 hq38_v11 hq39_v11 hT11 hx0_11 hM_v11 hA_f11 hm11 H locs ls hP hD hS hl
      have hUv11 : (v11 35).toInt + (v11 36).toInt ≤ 40 := hIv11.2
      have zq0_v11 : (v11 0).toInt = 0 := by rw [hq0_v11]; decide
      try clear zq0_v2
      have zq9_v11 := congrArg Int32.toInt hq9_v11
      try clear zq9_v2
      have b1_v11 : 0 ≤ (v11 1).toInt ∧ (v11 1).toInt ≤ 4 := Yb_1 hIv11.1
      have b15_v11 : 0 ≤ (v11 15).toInt ∧ (v11 15).toInt ≤ 1 := Yb_15 hIv11.1
      have b8_v11 : 0 ≤ (v11 8).toInt ∧ (v11 8).toInt ≤ 320 := Yb_8 hIv11.1
      have hPL := hx0_11
      refine lv_aload_n hx hb dX11_readAll_105 rfl (lv_at hl 0 rfl) ?_
      refine va_get (D := (dC, dI)) (ci := 11) (v := .int (v11 1)) (C := RX11) (T := TX11) (N := 79) hx hb hts inB_11 hown hE.1 hP 0 rfl rfl 2 (Nat.le_of_ble_eq_true rfl) (hts _ k_1322) (fun _ h9 => h9) rfl dX11_readAll_106 ?_
      refine lv_if_ne (tgt := 126) hx hb dX11_readAll_109 rfl (fun c12 => ?_) (fun c12 => ?_)
      · skip
        exact ret (v11, f11, w11, g11) _ _ _ _ _ _ ⟨(hT11.symm.trans (gsY_X11_readAll_1_q0 c12)), hM_v11, hA_f11, hIv11, hCf11, hRf11, hq9_v11, hq24_v11, hq25_v11, hq35_v11, hq36_v11, hq38_v11, hq39_v11, (show (v11 0).toInt = 0 from om_456 zq0_v11), (by show IM0 (v11 1).toInt (IMn (v11 15).toInt (progOK (f11 2) (f11 3) ((v11 8).toInt).toNat)); exact hPL)⟩ hP hD hS dX11_readAll_126 (Nat.le_refl _) (Nat.le_refl _)
      · skip
        have zc12 : (v11 1).toInt = 0 := zEp rfl tc_0 c12
        refine lv_aload_n hx hb dX11_readAll_112 rfl (lv_at hl 0 rfl) ?_
        refine va_get (D := (dC, dI)) (ci := 11) (v := .int (v11 5)) (C := RX11) (T := TX11) (N := 79) hx hb hts inB_11 hown hE.1 hP 0 rfl rfl 6 (Nat.le_of_ble_eq_true rfl) (hts _ k_1326) (fun _ h9 => h9) rfl dX11_readAll_113 ?_
        refine lv_if_eq (tgt := 126) hx hb dX11_readAll_116 rfl (fun c13 => ?_) (fun c13 => ?_)
        · skip
          exact ret (v11, f11, w11, g11) _ _ _ _ _ _ ⟨(hT11.symm.trans (gsY_X11_readAll_1_q1 c12 c13)), hM_v11, hA_f11, hIv11, hCf11, hRf11, hq9_v11, hq24_v11, hq25_v11, hq35_v11, hq36_v11, hq38_v11, hq39_v11, (show (v11 0).toInt = 0 from om_456 zq0_v11), (by show IM0 (v11 1).toInt (IMn (v11 15).toInt (progOK (f11 2) (f11 3) ((v11 8).toInt).toNat)); exact hPL)⟩ hP hD hS dX11_readAll_126 (Nat.le_refl _) (Nat.le_refl _)
        · skip
          have zc13 : ¬ ((v11 5).toInt = 0) := zEn rfl tc_0 c13
          refine lv_aload_n hx hb dX11_readAll_119 rfl (lv_at hl 0 rfl) ?_
          refine cbVv (n := 0) (rest := []) hx hb hml hown hts hE hP hD hS hA (sY_X11_readLine_1 NF l dC dI cy y0 r  v11 f11 w11 g11 hIv11 hCf11 hRf11 (show (v11 1).toInt = 0 from om_457 b1_v11 zc12) (by show IMn (v11 15).toInt (progOK (f11 2) (f11 3) ((v11 8).toInt).toNat); exact hPL (by omega))) k_1596 k_1598 k_44 k_114 k_1599 hd_yX11_readLine ⟨Nat.le_of_ble_eq_true rfl, Nat.le_of_ble_eq_true rfl⟩ 0 11 rfl rfl (rfl) hl.1 rfl (Nat.le_of_ble_eq_true rfl) dX11_readAll_120 (fun u H locs hw hP hD hS => ?_)
          obtain ⟨hG14, hw⟩ := hw
          obtain ⟨v15, f16, w17, g18⟩ := u
          obtain ⟨kV_v15, kF_f16, hIv15, hCf16, hRf16, hk0_v15, hk4_v15, hk9_v15, hk24_v15, hk25_v15, hk35_v15, hk36_v15, hk38_v15, hk39_v15, pg19, pg20⟩ := hw
          have hM_v15 : KV [0, 1, 2, 3, 4, 5, 6, 7, 8, 10, 11, 13, 14, 15, 17, 18, 19, 20, 21, 22, 23, 30, 31, 32, 33, 34] v15 v := KV.tr kV_v15 hM_v11 (by decide +kernel)
          have hA_f16 : KF [2, 3, 6, 9, 10, 11, 12, 13, 14, 15] f16 f := KF.tr kF_f16 hA_f11 rfl
          have hP : va_P (dC, dI) vwCl (YW cy y0 r v15 f16 w17 g18) H := hP
          have hD : va_D A (YW cy y0 r v15 f16 w17 g18) := hD
          have b1_v15 : 0 ≤ (v15 1).toInt ∧ (v15 1).toInt ≤ 4 := Yb_1 hIv15.1
          have b3_v15 : 0 ≤ (v15 3).toInt ∧ (v15 3).toInt ≤ 1600 := Yb_3 hIv15.1
          have b15_v15 : 0 ≤ (v15 15).toInt ∧ (v15 15).toInt ≤ 1 := Yb_15 hIv15.1
          have b8_v15 : 0 ≤ (v15 8).toInt ∧ (v15 8).toInt ≤ 320 := Yb_8 hIv15.1
          have pg19 : GA (v15 1).toInt (v11 3).toInt (v15 3).toInt := pg19
          have pg20 : IM0 (v15 1).toInt (IMn (v15 15).toInt (progOK (f16 2) (f16 3) ((v15 8).toInt).toNat)) := pg20
          have hUv15 : (v15 35).toInt + (v15 36).toInt ≤ 40 := hIv15.2
          have hq0_v15 : v15 0 = 0 := hk0_v15.trans hq0_v11
          have zq0_v15 : (v15 0).toInt = 0 := by rw [hq0_v15]; decide
          try clear zq0_v11
          have hq4_v15 : v15 4 = (v 0) := hk4_v15.trans hq4_v11
          have hq9_v15 : v15 9 = (v 9) := hk9_v15.trans hq9_v11
          have zq9_v15 := congrArg Int32.toInt hq9_v15
          try clear zq9_v11
          have hq24_v15 : v15 24 = (v 24) := hk24_v15.trans hq24_v11
          have hq25_v15 : v15 25 = (v 25) := hk25_v15.trans hq25_v11
          have hq35_v15 : v15 35 = (v 35) := hk35_v15.trans hq35_v11
          have hq36_v15 : v15 36 = (v 36) := hk36_v15.trans hq36_v11
          have hq38_v15 : v15 38 = (v 38) := hk38_v15.trans hq38_v11
          have hq39_v15 : v15 39 = (v 39) := hk39_v15.trans hq39_v11
          have hPL := pg20
          have hga := GA.or pg19
          refine lv_goto (tgt := 105) hx hb dX11_readAll_123 rfl ?_
          exact ih11  v15 f16 w17 g18 hIv15 hCf16 hRf16 hq0_v15 hq4_v15 hq9_v15 hq24_v15 hq25_v15 hq35_v15 hq36_v15 hq38_v15 hq39_v15 ((gsY_X11_readAll_1_q2 c12 c13 hG14).symm.trans hT11) (by show IM0 (v15 1).toInt (IMn (v15 15).toInt (progOK (f16 2) (f16 3) ((v15 8).toInt).toNat)); exact hPL) hM_v15 hA_f16 (by show (2 * (1600 - (v15 3).toInt) + (1 - min (v15 1).toInt 1)).toNat < n11; omega) _ _ _ hP hD hS (lv_sub hl [0] rfl)
  exact lp11 (4294967296 + NF)  v2 f3 w4 g5 hIv2 hCf3 hRf3 hq0_v2 hq4_v2 hq9_v2 hq24_v2 hq25_v2 hq35_v2 hq36_v2 hq38_v2 hq39_v2 (gsY_X11_readAll_1_q3 hG1).symm (by show IM0 (v2 1).toInt (IMn (v2 15).toInt (progOK (f3 2) (f3 3) ((v2 8).toInt).toNat)); rw [hs2_f3, hs3_f3]; intro hz8 hz9; exfalso; omega) hM_v2 hA_f3 (by have qr0 := fb_rng (v2 1); have qr1 := fb_rng (v2 3); show (2 * (1600 - (v2 3).toInt) + (1 - min (v2 1).toInt 1)).toNat < 4294967296 + NF; omega) _ _ _ hP hD hS (lv_sub hl [0] rfl)
set_option maxHeartbeats 4000000 in
set_option maxRecDepth 100000 in
theorem sY_X11_begin_1 (NF : Nat) (l : Launch) (dC : Nat → ClassId) (dI : Nat → Nat → Nat) (cy : Nat → ClassId) (y0 : Nat) (r : Nat → Nat)  (v : Nat → Int32) (f : Nat → Nat → Int32) (w : Int64) (g : Nat → Int64) (hIv : YI v) (hCf : YC f) (hRf : progOK (f 4) (f 5) (v 9).toInt.toNat)  : ctV l (dC, dI) cy yX11_begin cX11_begin 2 1 60 0 0 ((Nat → Int32) × (Nat → Nat → Int32) × (Int64) × (Nat → Int64)) [.ref y0] (YW cy y0 r v f w g) (fun u => gsY_X11_begin_1 NF v f w g = u ∧ KV [] u.1 v ∧ KF [24] u.2.1 f ∧ YI u.1 ∧ YC u.2.1 ∧ progOK (u.2.1 4) (u.2.1 5) (u.1 9).toInt.toNat ∧ u.1 0 = v 0 ∧ u.1 1 = v 1 ∧ u.1 2 = v 2 ∧ u.1 3 = v 3 ∧ u.1 4 = v 4 ∧ u.1 5 = v 5 ∧ u.1 8 = v 8 ∧ u.1 9 = v 9 ∧ u.1 10 = v 10 ∧ u.1 13 = v 13 ∧ u.1 14 = v 14 ∧ u.1 15 = v 15 ∧ u.1 17 = v 17 ∧ u.1 18 = v 18 ∧ u.1 24 = v 24 ∧ u.1 25 = v 25 ∧ u.1 35 = v 35 ∧ u.1 36 = v 36 ∧ u.1 38 = v 38 ∧ u.1 39 = v 39) (fun u => YW cy y0 r u.1 u.2.1 u.2.2.1 u.2.2.2) := by
  refine ctV_of (by decide) (Nat.le_of_ble_eq_true rfl) (fun p e s m below meth c A ls Q hx hb hml hts hown hnm hE hP hD hA hl ret => ?_)
  have hUv : (v 35).toInt + (v 36).toInt ≤ 40 := hIv.2
  have hM_v : KV [] v v := fun _ _ => rfl
  have hA_f : KF [24] f f := fun _ _ => rfl
  have hown : s.vm.findClass RX11 = some m.cls := hown
  have hS : va_S A s.heap s.heap [] := va_S.rf
  have hl : lv_has ls 2 [(0, .ref y0)] := hl
  refine lv_iconst (v := 0) hx hb dX11_begin_0 rfl ?_
  refine lv_istore_n (lv' := [(1, .int 0), (0, .ref y0)]) hx hb dX11_begin_1 rfl hl (Nat.le_of_ble_eq_true rfl) rfl (fun ls hl => ?_)
  have lp1 : ∀ (n1 : Nat) (l1_1 : Int32) (v1 : Nat → Int32) (f1 : Nat → Nat → Int32) (w1 : Int64) (g1 : Nat → Int64), YI v1 → YC f1 → progOK (f1 4) (f1 5) (v1 9).toInt.toNat → v1 0 = (v 0) → v1 1 = (v 1) → v1 2 = (v 2) → v1 3 = (v 3) → v1 4 = (v 4) → v1 5 = (v 5) → v1 8 = (v 8) → v1 9 = (v 9) → v1 10 = (v 10) → v1 13 = (v 13) → v1 14 = (v 14) → v1 15 = (v 15) → v1 17 = (v 17) → v1 18 = (v 18) → v1 24 = (v 24) → v1 25 = (v 25) → v1 35 = (v 35) → v1 36 = (v 36) → v1 38 = (v 38) → v1 39 = (v 39) → gsY_X11_begin_1_L1 NF v n1 l1_1 v1 f1 w1 g1 = (gsY_X11_begin_1 NF v f w g) → ((0 : Int) ≤ l1_1.toInt ∧ l1_1.toInt ≤ 2147483647) → KV [] v1 v → KF [24] f1 f → (2147483647 - l1_1.toInt).toNat < n1 → ∀ (H : Heap) (locs : List Loc) (ls : Array Slot), va_P (dC, dI) vwCl (YW cy y0 r v1 f1 w1 g1) H → va_D A (YW cy y0 r v1 f1 w1 g1) → va_S A s.heap H locs → lv_has ls 2 [(1, .int l1_1), (0, .ref y0)] → W p l e { frames := 1, cells := 0, slots := 0, locals := 60 } s m ([.ref y0] : List Value).toArray below meth c H locs 0 0 Q (F0 m 2 ls []) := by
    intro n1
    induction n1 with
    | zero => intro l1_1 v1 f1 w1 g1 hIv1 hCf1 hRf1 hq0_v1 hq1_v1 hq2_v1 hq3_v1 hq4_v1 hq5_v1 hq8_v1 hq9_v1 hq10_v1 hq13_v1 hq14_v1 hq15_v1 hq17_v1 hq18_v1 hq24_v1 hq25_v1 hq35_v1 hq36_v1 hq38_v1 hq39_v1 hT1 hr1_1 hM_v1 hA_f1 hm; exact absurd hm (Nat.not_lt_zero _)
    | succ n1 ih1 =>
      intro l1_1 v1 f1 w1 g1 hIv1 hCf1 hRf1 hq0_v1 hq1_v1 hq2_v1 hq3_v1 hq4_v1 hq5_v1 hq8_v1 hq9_v1 hq10_v1 hq13_v1 hq14_v1 hq15_v1 hq17_v1 hq18_v1 hq24_v1 hq25_v1 hq35_v1 hq36_v1 hq38_v1 hq39_v1 hT1 hr1_1 hM_v1 hA_f1 hm1 H locs ls hP hD hS hl
      have hUv1 : (v1 35).toInt + (v1 36).toInt ≤ 40 := hIv1.2
      have zq9_v1 := congrArg Int32.toInt hq9_v1
      refine lv_iload_n hx hb dX11_begin_2 rfl (lv_at hl 0 rfl) ?_
      refine lv_bipush (v := 39) hx hb dX11_begin_3 rfl ?_
      refine lv_icmp_ge (tgt := 21) hx hb dX11_begin_5 rfl (fun c2 => ?_) (fun c2 => ?_)
      · skip
        have zc2 : 39 ≤ l1_1.toInt := zMp tc_39 rfl c2
        refine lv_iconst (v := 0) hx hb dX11_begin_21 rfl ?_
        refine lv_istore_n (lv' := [(1, .int 0), (0, .ref y0)]) hx hb dX11_begin_22 rfl hl (Nat.le_of_ble_eq_true rfl) rfl (fun ls hl => ?_)
        have lp3 : ∀ (n3 : Nat) (l1_3 : Int32) (v3 : Nat → Int32) (f3 : Nat → Nat → Int32) (w3 : Int64) (g3 : Nat → Int64), YI v3 → YC f3 → progOK (f3 4) (f3 5) (v3 9).toInt.toNat → v3 0 = (v 0) → v3 1 = (v 1) → v3 2 = (v 2) → v3 3 = (v 3) → v3 4 = (v 4) → v3 5 = (v 5) → v3 8 = (v 8) → v3 9 = (v 9) → v3 10 = (v 10) → v3 13 = (v 13) → v3 14 = (v 14) → v3 15 = (v 15) → v3 17 = (v 17) → v3 18 = (v 18) → v3 24 = (v 24) → v3 25 = (v 25) → v3 35 = (v 35) → v3 36 = (v 36) → v3 38 = (v 38) → v3 39 = (v 39) → gsY_X11_begin_1_L3 NF v n3 l1_3 v3 f3 w3 g3 = (gsY_X11_begin_1 NF v f w g) → ((0 : Int) ≤ l1_3.toInt ∧ l1_3.toInt ≤ 2147483647) → KV [] v3 v → KF [24] f3 f → (2147483647 - l1_3.toInt).toNat < n3 → ∀ (H : Heap) (locs : List Loc) (ls : Array Slot), va_P (dC, dI) vwCl (YW cy y0 r v3 f3 w3 g3) H → va_D A (YW cy y0 r v3 f3 w3 g3) → va_S A s.heap H locs → lv_has ls 2 [(1, .int l1_3), (0, .ref y0)] → W p l e { frames := 1, cells := 0, slots := 0, locals := 60 } s m ([.ref y0] : List Value).toArray below meth c H locs 0 0 Q (F0 m 23 ls []) := by
          intro n3
          induction n3 with
          | zero => intro l1_3 v3 f3 w3 g3 hIv3 hCf3 hRf3 hq0_v3 hq1_v3 hq2_v3 hq3_v3 hq4_v3 hq5_v3 hq8_v3 hq9_v3 hq10_v3 hq13_v3 hq14_v3 hq15_v3 hq17_v3 hq18_v3 hq24_v3 hq25_v3 hq35_v3 hq36_v3 hq38_v3 hq39_v3 hT3 hr1_3 hM_v3 hA_f3 hm; exact absurd hm (Nat.not_lt_zero _)
          | succ n3 ih3 =>
            intro l1_3 v3 f3 w3 g3 hIv3 hCf3 hRf3 hq0_v3 hq1_v3 hq2_v3 hq3_v3 hq4_v3 hq5_v3 hq8_v3 hq9_v3 hq10_v3 hq13_v3 hq14_v3 hq15_v3 hq17_v3 hq18_v3 hq24_v3 hq25_v3 hq35_v3 hq36_v3 hq38_v3 hq39_v3 hT3 hr1_3 hM_v3 hA_f3 hm3 H locs ls hP hD hS hl
            have hUv3 : (v3 35).toInt + (v3 36).toInt ≤ 40 := hIv3.2
            have zq9_v3 := congrArg Int32.toInt hq9_v3
            refine lv_iload_n hx hb dX11_begin_23 rfl (lv_at hl 0 rfl) ?_
            refine lv_aload_n hx hb dX11_begin_24 rfl (lv_at hl 1 rfl) ?_
            refine va_get (D := (dC, dI)) (ci := 11) (v := .int (v3 24)) (C := RX11) (T := TX11) (N := 79) hx hb hts inB_11 hown hE.1 hP 0 rfl rfl 48 (Nat.le_of_ble_eq_true rfl) (hts _ k_1368) (fun _ h9 => h9) rfl dX11_begin_25 ?_
            refine tI (y := (v 24)) hq24_v3 ?_
            have b24_v : 0 ≤ (v 24).toInt ∧ (v 24).toInt ≤ 6 := Yb_24 hIv.1
            refine lv_icmp_ge (tgt := 59) hx hb dX11_begin_28 rfl (fun c4 => ?_) (fun c4 => ?_)
            · skip
              have zc4 : (v 24).toInt ≤ l1_3.toInt := zMp rfl rfl c4
              have rg5 := fb_rng l1_3
              have rg6 := fb_rng (v 24)
              refine lv_iconst (v := 0) hx hb dX11_begin_59 rfl ?_
              refine lv_istore_n (lv' := [(1, .int 0), (0, .ref y0)]) hx hb dX11_begin_60 rfl hl (Nat.le_of_ble_eq_true rfl) rfl (fun ls hl => ?_)
              have lp7 : ∀ (n7 : Nat) (l1_7 : Int32) (v7 : Nat → Int32) (f7 : Nat → Nat → Int32) (w7 : Int64) (g7 : Nat → Int64), YI v7 → YC f7 → progOK (f7 4) (f7 5) (v7 9).toInt.toNat → v7 0 = (v 0) → v7 1 = (v 1) → v7 2 = (v 2) → v7 3 = (v 3) → v7 4 = (v 4) → v7 5 = (v 5) → v7 8 = (v 8) → v7 9 = (v 9) → v7 10 = (v 10) → v7 13 = (v 13) → v7 14 = (v 14) → v7 15 = (v 15) → v7 17 = (v 17) → v7 18 = (v 18) → v7 24 = (v 24) → v7 25 = (v 25) → v7 35 = (v 35) → v7 36 = (v 36) → v7 38 = (v 38) → v7 39 = (v 39) → gsY_X11_begin_1_L7 NF v n7 l1_7 v7 f7 w7 g7 = (gsY_X11_begin_1 NF v f w g) → ((0 : Int) ≤ l1_7.toInt ∧ l1_7.toInt ≤ 2147483647) → KV [] v7 v → KF [24] f7 f → (2147483647 - l1_7.toInt).toNat < n7 → ∀ (H : Heap) (locs : List Loc) (ls : Array Slot), va_P (dC, dI) vwCl (YW cy y0 r v7 f7 w7 g7) H → va_D A (YW cy y0 r v7 f7 w7 g7) → va_S A s.heap H locs → lv_has ls 2 [(1, .int l1_7), (0, .ref y0)] → W p l e { frames := 1, cells := 0, slots := 0, locals := 60 } s m ([.ref y0] : List Value).toArray below meth c H locs 0 0 Q (F0 m 61 ls []) := by
                intro n7
                induction n7 with
                | zero => intro l1_7 v7 f7 w7 g7 hIv7 hCf7 hRf7 hq0_v7 hq1_v7 hq2_v7 hq3_v7 hq4_v7 hq5_v7 hq8_v7 hq9_v7 hq10_v7 hq13_v7 hq14_v7 hq15_v7 hq17_v7 hq18_v7 hq24_v7 hq25_v7 hq35_v7 hq36_v7 hq38_v7 hq39_v7 hT7 hr1_7 hM_v7 hA_f7 hm; exact absurd hm (Nat.not_lt_zero _)
                | succ n7 ih7 =>
                  intro l1_7 v7 f7 w7 g7 hIv7 hCf7 hRf7 hq0_v7 hq1_v7 hq2_v7 hq3_v7 hq4_v7 hq5_v7 hq8_v7 hq9_v7 hq10_v7 hq13_v7 hq14_v7 hq15_v7 hq17_v7 hq18_v7 hq24_v7 hq25_v7 hq35_v7 hq36_v7 hq38_v7 hq39_v7 hT7 hr1_7 hM_v7 hA_f7 hm7 H locs ls hP hD hS hl
                  have hUv7 : (v7 35).toInt + (v7 36).toInt ≤ 40 := hIv7.2
                  have zq9_v7 := congrArg Int32.toInt hq9_v7
                  refine lv_iload_n hx hb dX11_begin_61 rfl (lv_at hl 0 rfl) ?_
                  refine lv_aload_n hx hb dX11_begin_62 rfl (lv_at hl 1 rfl) ?_
                  refine va_get (D := (dC, dI)) (ci := 11) (v := .int (v7 25)) (C := RX11) (T := TX11) (N := 79) hx hb hts inB_11 hown hE.1 hP 0 rfl rfl 49 (Nat.le_of_ble_eq_true rfl) (hts _ k_1369) (fun _ h9 => h9) rfl dX11_begin_63 ?_
                  refine tI (y := (v 25)) hq25_v7 ?_
                  have b25_v : 0 ≤ (v 25).toInt ∧ (v 25).toInt ≤ 6 := Yb_25 hIv.1
                  refine lv_icmp_ge (tgt := 135) hx hb dX11_begin_66 rfl (fun c8 => ?_) (fun c8 => ?_)
                  · skip
                    exact ret (v7, f7, w7, g7) _ _ _ _ _ _ ⟨(hT7.symm.trans (gsY_X11_begin_1_q0 c8)), hM_v7, hA_f7, hIv7, hCf7, hRf7, hq0_v7, hq1_v7, hq2_v7, hq3_v7, hq4_v7, hq5_v7, hq8_v7, hq9_v7, hq10_v7, hq13_v7, hq14_v7, hq15_v7, hq17_v7, hq18_v7, hq24_v7, hq25_v7, hq35_v7, hq36_v7, hq38_v7, hq39_v7⟩ hP hD hS dX11_begin_135 (Nat.le_refl _) (Nat.le_refl _)
                  · skip
                    have zc8 : ¬ ((v 25).toInt ≤ l1_7.toInt) := zMn rfl rfl c8
                    have rg11 := fb_rng l1_7
                    have rg12 := fb_rng (v 25)
                    refine lv_aload_n hx hb dX11_begin_69 rfl (lv_at hl 1 rfl) ?_
                    refine va_get (D := (dC, dI)) (ci := 11) (v := .ref (r 60)) (C := RX11) (T := TX11) (N := 79) hx hb hts inB_11 hown hE.1 hP 0 rfl rfl 60 (Nat.le_of_ble_eq_true rfl) (hts _ k_1380) (fun _ h9 => h9) rfl dX11_begin_70 ?_
                    refine lv_bipush (v := 12) hx hb dX11_begin_73 rfl ?_
                    refine lv_iload_n hx hb dX11_begin_75 rfl (lv_at hl 0 rfl) ?_
                    refine lv_iadd hx hb dX11_begin_76 ?_
                    refine lv_topi (fun t13 et13 => ?_)
                    have zt13 : t13.toInt = 12 + l1_7.toInt := (congrArg Int32.toInt et13).trans (add_i tc_12 rfl (om_458 hr1_7) (om_459 b25_v zc8))
                    refine lv_aload_n hx hb dX11_begin_77 rfl (lv_at hl 1 rfl) ?_
                    refine va_get (D := (dC, dI)) (ci := 11) (v := .ref (r 37)) (C := RX11) (T := TX11) (N := 79) hx hb hts inB_11 hown hE.1 hP 0 rfl rfl 37 (Nat.le_of_ble_eq_true rfl) (hts _ k_1357) (fun _ h9 => h9) rfl dX11_begin_78 ?_
                    refine lv_iload_n hx hb dX11_begin_81 rfl (lv_at hl 0 rfl) ?_
                    refine ldI hx hb hE hP 20 rfl (vpI (k := 6) rfl (show 0 ≤ l1_7.toInt from om_39 hr1_7) (show l1_7.toInt < 6 from om_460 b25_v zc8)) rfl rfl dX11_begin_82 ?_
                    refine lv_topi (fun t14 et14 => ?_)
                    refine stI hx hb hE hP hD hS 25 rfl (vpI (k := 39) rfl (show 0 ≤ t13.toInt from om_461 hr1_7 zt13) (show t13.toInt < 39 from om_462 b25_v zc8 zt13)) rfl dX11_begin_83 (fun H locs hP hD hS => ?_)
                    obtain ⟨f15, ef15, hP, hD⟩ : ∃ fz9, fz9 = upd2 f7 24 (upd (f7 24) t13.toNatClampNeg t14) ∧ va_P (dC, dI) vwCl (YW cy y0 r v7 fz9 w7 g7) H ∧ va_D A (YW cy y0 r v7 fz9 w7 g7) := ⟨_, rfl, hP, hD⟩
                    have hCf15 : YC f15 := by rw [ef15]; exact ⟨hCf7.1, (wear_st hCf7.2.1 (by show t13.toInt.toNat % 39 < 6 ∨ 12 ≤ t13.toInt.toNat % 39 ∨ (-1 ≤ t14.toInt ∧ t14.toInt ≤ 5); omega)), hCf7.2.2.1, hCf7.2.2.2.1, hCf7.2.2.2.2.1, hCf7.2.2.2.2.2⟩
                    have hRf15 : progOK (f15 4) (f15 5) (v7 9).toInt.toNat := by rw [ef15]; exact hRf7
                    have hA_f15 : KF [24] f15 f := by rw [ef15]; exact KF.up hA_f7 rfl
                    refine lv_aload_n hx hb dX11_begin_84 rfl (lv_at hl 1 rfl) ?_
                    refine va_get (D := (dC, dI)) (ci := 11) (v := .ref (r 60)) (C := RX11) (T := TX11) (N := 79) hx hb hts inB_11 hown hE.1 hP 0 rfl rfl 60 (Nat.le_of_ble_eq_true rfl) (hts _ k_1380) (fun _ h9 => h9) rfl dX11_begin_85 ?_
                    refine lv_bipush (v := 18) hx hb dX11_begin_88 rfl ?_
                    refine lv_iload_n hx hb dX11_begin_90 rfl (lv_at hl 0 rfl) ?_
                    refine lv_iadd hx hb dX11_begin_91 ?_
                    refine lv_topi (fun t16 et16 => ?_)
                    have zt16 : t16.toInt = 18 + l1_7.toInt := (congrArg Int32.toInt et16).trans (add_i tc_18 rfl (om_463 hr1_7) (om_464 b25_v zc8))
                    refine lv_aload_n hx hb dX11_begin_92 rfl (lv_at hl 1 rfl) ?_
                    refine va_get (D := (dC, dI)) (ci := 11) (v := .ref (r 38)) (C := RX11) (T := TX11) (N := 79) hx hb hts inB_11 hown hE.1 hP 0 rfl rfl 38 (Nat.le_of_ble_eq_true rfl) (hts _ k_1358) (fun _ h9 => h9) rfl dX11_begin_93 ?_
                    refine lv_iload_n hx hb dX11_begin_96 rfl (lv_at hl 0 rfl) ?_
                    refine ldI hx hb hE hP 21 rfl (vpI (k := 6) rfl (show 0 ≤ l1_7.toInt from om_39 hr1_7) (show l1_7.toInt < 6 from om_460 b25_v zc8)) rfl rfl dX11_begin_97 ?_
                    refine lv_topi (fun t17 et17 => ?_)
                    refine stI hx hb hE hP hD hS 25 rfl (vpI (k := 39) rfl (show 0 ≤ t16.toInt from om_465 hr1_7 zt16) (show t16.toInt < 39 from om_466 b25_v zc8 zt16)) rfl dX11_begin_98 (fun H locs hP hD hS => ?_)
                    obtain ⟨f18, ef18, hP, hD⟩ : ∃ fz9, fz9 = upd2 f15 24 (upd (f15 24) t16.toNatClampNeg t17) ∧ va_P (dC, dI) vwCl (YW cy y0 r v7 fz9 w7 g7) H ∧ va_D A (YW cy y0 r v7 fz9 w7 g7) := ⟨_, rfl, hP, hD⟩
                    have hCf18 : YC f18 := by rw [ef18]; exact ⟨hCf15.1, (wear_st hCf15.2.1 (by show t16.toInt.toNat % 39 < 6 ∨ 12 ≤ t16.toInt.toNat % 39 ∨ (-1 ≤ t17.toInt ∧ t17.toInt ≤ 5); omega)), hCf15.2.2.1, hCf15.2.2.2.1, hCf15.2.2.2.2.1, hCf15.2.2.2.2.2⟩
                    have hRf18 : progOK (f18 4) (f18 5) (v7 9).toInt.toNat := by rw [ef18]; exact hRf15
                    have hA_f18 : KF [24] f18 f := by rw [ef18]; exact KF.up hA_f15 rfl
                    refine lv_aload_n hx hb dX11_begin_99 rfl (lv_at hl 1 rfl) ?_
                    refine va_get (D := (dC, dI)) (ci := 11) (v := .ref (r 60)) (C := RX11) (T := TX11) (N := 79) hx hb hts inB_11 hown hE.1 hP 0 rfl rfl 60 (Nat.le_of_ble_eq_true rfl) (hts _ k_1380) (fun _ h9 => h9) rfl dX11_begin_100 ?_
                    refine lv_bipush (v := 24) hx hb dX11_begin_103 rfl ?_
                    refine lv_iload_n hx hb dX11_begin_105 rfl (lv_at hl 0 rfl) ?_
                    refine lv_iadd hx hb dX11_begin_106 ?_
                    refine lv_topi (fun t19 et19 => ?_)
                    have zt19 : t19.toInt = 24 + l1_7.toInt := (congrArg Int32.toInt et19).trans (add_i tc_24 rfl (om_467 hr1_7) (om_468 b25_v zc8))
                    refine lv_aload_n hx hb dX11_begin_107 rfl (lv_at hl 1 rfl) ?_
                    refine va_get (D := (dC, dI)) (ci := 11) (v := .ref (r 39)) (C := RX11) (T := TX11) (N := 79) hx hb hts inB_11 hown hE.1 hP 0 rfl rfl 39 (Nat.le_of_ble_eq_true rfl) (hts _ k_1359) (fun _ h9 => h9) rfl dX11_begin_108 ?_
                    refine lv_iload_n hx hb dX11_begin_111 rfl (lv_at hl 0 rfl) ?_
                    refine ldI hx hb hE hP 22 rfl (vpI (k := 6) rfl (show 0 ≤ l1_7.toInt from om_39 hr1_7) (show l1_7.toInt < 6 from om_460 b25_v zc8)) rfl rfl dX11_begin_112 ?_
                    refine lv_topi (fun t20 et20 => ?_)
                    refine stI hx hb hE hP hD hS 25 rfl (vpI (k := 39) rfl (show 0 ≤ t19.toInt from om_469 hr1_7 zt19) (show t19.toInt < 39 from om_470 b25_v zc8 zt19)) rfl dX11_begin_113 (fun H locs hP hD hS => ?_)
                    obtain ⟨f21, ef21, hP, hD⟩ : ∃ fz9, fz9 = upd2 f18 24 (upd (f18 24) t19.toNatClampNeg t20) ∧ va_P (dC, dI) vwCl (YW cy y0 r v7 fz9 w7 g7) H ∧ va_D A (YW cy y0 r v7 fz9 w7 g7) := ⟨_, rfl, hP, hD⟩
                    have hCf21 : YC f21 := by rw [ef21]; exact ⟨hCf18.1, (wear_st hCf18.2.1 (by show t19.toInt.toNat % 39 < 6 ∨ 12 ≤ t19.toInt.toNat % 39 ∨ (-1 ≤ t20.toInt ∧ t20.toInt ≤ 5); omega)), hCf18.2.2.1, hCf18.2.2.2.1, hCf18.2.2.2.2.1, hCf18.2.2.2.2.2⟩
                    have hRf21 : progOK (f21 4) (f21 5) (v7 9).toInt.toNat := by rw [ef21]; exact hRf18
                    have hA_f21 : KF [24] f21 f := by rw [ef21]; exact KF.up hA_f18 rfl
                    refine lv_aload_n hx hb dX11_begin_114 rfl (lv_at hl 1 rfl) ?_
                    refine va_get (D := (dC, dI)) (ci := 11) (v := .ref (r 60)) (C := RX11) (T := TX11) (N := 79) hx hb hts inB_11 hown hE.1 hP 0 rfl rfl 60 (Nat.le_of_ble_eq_true rfl) (hts _ k_1380) (fun _ h9 => h9) rfl dX11_begin_115 ?_
                    refine lv_bipush (v := 30) hx hb dX11_begin_118 rfl ?_
                    refine lv_iload_n hx hb dX11_begin_120 rfl (lv_at hl 0 rfl) ?_
                    refine lv_iadd hx hb dX11_begin_121 ?_
                    refine lv_topi (fun t22 et22 => ?_)
                    have zt22 : t22.toInt = 30 + l1_7.toInt := (congrArg Int32.toInt et22).trans (add_i tc_30 rfl (om_471 hr1_7) (om_472 b25_v zc8))
                    refine lv_aload_n hx hb dX11_begin_122 rfl (lv_at hl 1 rfl) ?_
                    refine va_get (D := (dC, dI)) (ci := 11) (v := .ref (r 40)) (C := RX11) (T := TX11) (N := 79) hx hb hts inB_11 hown hE.1 hP 0 rfl rfl 40 (Nat.le_of_ble_eq_true rfl) (hts _ k_1360) (fun _ h9 => h9) rfl dX11_begin_123 ?_
                    refine lv_iload_n hx hb dX11_begin_126 rfl (lv_at hl 0 rfl) ?_
                    refine ldI hx hb hE hP 23 rfl (vpI (k := 6) rfl (show 0 ≤ l1_7.toInt from om_39 hr1_7) (show l1_7.toInt < 6 from om_460 b25_v zc8)) rfl rfl dX11_begin_127 ?_
                    refine lv_topi (fun t23 et23 => ?_)
                    refine stI hx hb hE hP hD hS 25 rfl (vpI (k := 39) rfl (show 0 ≤ t22.toInt from om_473 hr1_7 zt22) (show t22.toInt < 39 from om_474 b25_v zc8 zt22)) rfl dX11_begin_128 (fun H locs hP hD hS => ?_)
                    obtain ⟨f24, ef24, hP, hD⟩ : ∃ fz9, fz9 = upd2 f21 24 (upd (f21 24) t22.toNatClampNeg t23) ∧ va_P (dC, dI) vwCl (YW cy y0 r v7 fz9 w7 g7) H ∧ va_D A (YW cy y0 r v7 fz9 w7 g7) := ⟨_, rfl, hP, hD⟩
                    have hCf24 : YC f24 := by rw [ef24]; exact ⟨hCf21.1, (wear_st hCf21.2.1 (by show t22.toInt.toNat % 39 < 6 ∨ 12 ≤ t22.toInt.toNat % 39 ∨ (-1 ≤ t23.toInt ∧ t23.toInt ≤ 5); omega)), hCf21.2.2.1, hCf21.2.2.2.1, hCf21.2.2.2.2.1, hCf21.2.2.2.2.2⟩
                    have hRf24 : progOK (f24 4) (f24 5) (v7 9).toInt.toNat := by rw [ef24]; exact hRf21
                    have hA_f24 : KF [24] f24 f := by rw [ef24]; exact KF.up hA_f21 rfl
                    obtain ⟨t25, et25⟩ : ∃ y : Int32, y = l1_7 + 1 := ⟨_, rfl⟩
                    have zt25 : t25.toInt = l1_7.toInt + 1 := (congrArg Int32.toInt et25).trans (add_i rfl tc_1 (om_41 hr1_7) (om_187 b25_v zc8))
                    refine lv_iinc (v := t25) (lv' := [(1, .int t25), (0, .ref y0)]) hx hb dX11_begin_129 hl (k := 0) rfl et25.symm (Nat.le_of_ble_eq_true rfl) rfl (fun ls hl => ?_)
                    refine lv_goto (tgt := 61) hx hb dX11_begin_132 rfl ?_
                    have rg26 := fb_rng t25
                    exact ih7 t25 v7 f24 w7 g7 hIv7 hCf24 hRf24 hq0_v7 hq1_v7 hq2_v7 hq3_v7 hq4_v7 hq5_v7 hq8_v7 hq9_v7 hq10_v7 hq13_v7 hq14_v7 hq15_v7 hq17_v7 hq18_v7 hq24_v7 hq25_v7 hq35_v7 hq36_v7 hq38_v7 hq39_v7 ((gsY_X11_begin_1_q1 c8 et13 et14 ef15 et16 et17 ef18 et19 et20 ef21 et22 et23 ef24 et25).symm.trans hT7) ⟨show (0 : Int) ≤ t25.toInt from om_43 hr1_7 zt25, show t25.toInt ≤ (2147483647 : Int) from om_44 rg26⟩ hM_v7 hA_f24 (show (2147483647 - t25.toInt).toNat < n7 from om_33 hm7 zt25 rg26) _ _ _ hP hD hS (lv_sub hl [0, 1] rfl)
              exact lp7 (4294967296 + NF) 0 v3 f3 w3 g3 hIv3 hCf3 hRf3 hq0_v3 hq1_v3 hq2_v3 hq3_v3 hq4_v3 hq5_v3 hq8_v3 hq9_v3 hq10_v3 hq13_v3 hq14_v3 hq15_v3 hq17_v3 hq18_v3 hq24_v3 hq25_v3 hq35_v3 hq36_v3 hq38_v3 hq39_v3 ((gsY_X11_begin_1_q2 c4).symm.trans hT3) ⟨by decide, by decide⟩ hM_v3 hA_f3 (show (2147483647 - (0 : Int32).toInt).toNat < 4294967296 + NF from om_38 tc_0) _ _ _ hP hD hS (lv_sub hl [0, 1] rfl)
            · skip
              have zc4 : ¬ ((v 24).toInt ≤ l1_3.toInt) := zMn rfl rfl c4
              have rg27 := fb_rng l1_3
              have rg28 := fb_rng (v 24)
              refine lv_aload_n hx hb dX11_begin_31 rfl (lv_at hl 1 rfl) ?_
              refine va_get (D := (dC, dI)) (ci := 11) (v := .ref (r 60)) (C := RX11) (T := TX11) (N := 79) hx hb hts inB_11 hown hE.1 hP 0 rfl rfl 60 (Nat.le_of_ble_eq_true rfl) (hts _ k_1380) (fun _ h9 => h9) rfl dX11_begin_32 ?_
              refine lv_iload_n hx hb dX11_begin_35 rfl (lv_at hl 0 rfl) ?_
              refine lv_aload_n hx hb dX11_begin_36 rfl (lv_at hl 1 rfl) ?_
              refine va_get (D := (dC, dI)) (ci := 11) (v := .ref (r 35)) (C := RX11) (T := TX11) (N := 79) hx hb hts inB_11 hown hE.1 hP 0 rfl rfl 35 (Nat.le_of_ble_eq_true rfl) (hts _ k_1355) (fun _ h9 => h9) rfl dX11_begin_37 ?_
              refine lv_iload_n hx hb dX11_begin_40 rfl (lv_at hl 0 rfl) ?_
              refine ldI hx hb hE hP 18 rfl (vpI (k := 6) rfl (show 0 ≤ l1_3.toInt from om_39 hr1_3) (show l1_3.toInt < 6 from om_460 b24_v zc4)) rfl rfl dX11_begin_41 ?_
              refine lv_topi (fun t29 et29 => ?_)
              refine stI hx hb hE hP hD hS 25 rfl (vpI (k := 39) rfl (show 0 ≤ l1_3.toInt from om_39 hr1_3) (show l1_3.toInt < 39 from om_475 b24_v zc4)) rfl dX11_begin_42 (fun H locs hP hD hS => ?_)
              obtain ⟨f30, ef30, hP, hD⟩ : ∃ fz9, fz9 = upd2 f3 24 (upd (f3 24) l1_3.toNatClampNeg t29) ∧ va_P (dC, dI) vwCl (YW cy y0 r v3 fz9 w3 g3) H ∧ va_D A (YW cy y0 r v3 fz9 w3 g3) := ⟨_, rfl, hP, hD⟩
              have hCf30 : YC f30 := by rw [ef30]; exact ⟨hCf3.1, (wear_st hCf3.2.1 (by show l1_3.toInt.toNat % 39 < 6 ∨ 12 ≤ l1_3.toInt.toNat % 39 ∨ (-1 ≤ t29.toInt ∧ t29.toInt ≤ 5); omega)), hCf3.2.2.1, hCf3.2.2.2.1, hCf3.2.2.2.2.1, hCf3.2.2.2.2.2⟩
              have hRf30 : progOK (f30 4) (f30 5) (v3 9).toInt.toNat := by rw [ef30]; exact hRf3
              have hA_f30 : KF [24] f30 f := by rw [ef30]; exact KF.up hA_f3 rfl
              refine lv_aload_n hx hb dX11_begin_43 rfl (lv_at hl 1 rfl) ?_
              refine va_get (D := (dC, dI)) (ci := 11) (v := .ref (r 60)) (C := RX11) (T := TX11) (N := 79) hx hb hts inB_11 hown hE.1 hP 0 rfl rfl 60 (Nat.le_of_ble_eq_true rfl) (hts _ k_1380) (fun _ h9 => h9) rfl dX11_begin_44 ?_
              refine lv_bipush (v := 6) hx hb dX11_begin_47 rfl ?_
              refine lv_iload_n hx hb dX11_begin_49 rfl (lv_at hl 0 rfl) ?_
              refine lv_iadd hx hb dX11_begin_50 ?_
              refine lv_topi (fun t31 et31 => ?_)
              have zt31 : t31.toInt = 6 + l1_3.toInt := (congrArg Int32.toInt et31).trans (add_i tc_6 rfl (om_120 hr1_3) (om_476 b24_v zc4))
              refine lv_iconst (v := (-1)) hx hb dX11_begin_51 rfl ?_
              refine stI hx hb hE hP hD hS 25 rfl (vpI (k := 39) rfl (show 0 ≤ t31.toInt from om_121 hr1_3 zt31) (show t31.toInt < 39 from om_477 b24_v zc4 zt31)) rfl dX11_begin_52 (fun H locs hP hD hS => ?_)
              obtain ⟨f32, ef32, hP, hD⟩ : ∃ fz9, fz9 = upd2 f30 24 (upd (f30 24) t31.toNatClampNeg (-1)) ∧ va_P (dC, dI) vwCl (YW cy y0 r v3 fz9 w3 g3) H ∧ va_D A (YW cy y0 r v3 fz9 w3 g3) := ⟨_, rfl, hP, hD⟩
              have hCf32 : YC f32 := by rw [ef32]; exact ⟨hCf30.1, (wear_st hCf30.2.1 (show t31.toInt.toNat % 39 < 6 ∨ 12 ≤ t31.toInt.toNat % 39 ∨ (-1 ≤ ((-1) : Int32).toInt ∧ ((-1) : Int32).toInt ≤ 5) from om_478 tc_m1)), hCf30.2.2.1, hCf30.2.2.2.1, hCf30.2.2.2.2.1, hCf30.2.2.2.2.2⟩
              have hRf32 : progOK (f32 4) (f32 5) (v3 9).toInt.toNat := by rw [ef32]; exact hRf30
              have hA_f32 : KF [24] f32 f := by rw [ef32]; exact KF.up hA_f30 rfl
              obtain ⟨t33, et33⟩ : ∃ y : Int32, y = l1_3 + 1 := ⟨_, rfl⟩
              have zt33 : t33.toInt = l1_3.toInt + 1 := (congrArg Int32.toInt et33).trans (add_i rfl tc_1 (om_41 hr1_3) (om_187 b24_v zc4))
              refine lv_iinc (v := t33) (lv' := [(1, .int t33), (0, .ref y0)]) hx hb dX11_begin_53 hl (k := 0) rfl et33.symm (Nat.le_of_ble_eq_true rfl) rfl (fun ls hl => ?_)
              refine lv_goto (tgt := 23) hx hb dX11_begin_56 rfl ?_
              have rg34 := fb_rng t33
              exact ih3 t33 v3 f32 w3 g3 hIv3 hCf32 hRf32 hq0_v3 hq1_v3 hq2_v3 hq3_v3 hq4_v3 hq5_v3 hq8_v3 hq9_v3 hq10_v3 hq13_v3 hq14_v3 hq15_v3 hq17_v3 hq18_v3 hq24_v3 hq25_v3 hq35_v3 hq36_v3 hq38_v3 hq39_v3 ((gsY_X11_begin_1_q3 c4 et29 ef30 et31 ef32 et33).symm.trans hT3) ⟨show (0 : Int) ≤ t33.toInt from om_43 hr1_3 zt33, show t33.toInt ≤ (2147483647 : Int) from om_44 rg34⟩ hM_v3 hA_f32 (show (2147483647 - t33.toInt).toNat < n3 from om_33 hm3 zt33 rg34) _ _ _ hP hD hS (lv_sub hl [0, 1] rfl)
        exact lp3 (4294967296 + NF) 0 v1 f1 w1 g1 hIv1 hCf1 hRf1 hq0_v1 hq1_v1 hq2_v1 hq3_v1 hq4_v1 hq5_v1 hq8_v1 hq9_v1 hq10_v1 hq13_v1 hq14_v1 hq15_v1 hq17_v1 hq18_v1 hq24_v1 hq25_v1 hq35_v1 hq36_v1 hq38_v1 hq39_v1 ((gsY_X11_begin_1_q4 c2).symm.trans hT1) ⟨by decide, by decide⟩ hM_v1 hA_f1 (show (2147483647 - (0 : Int32).toInt).toNat < 4294967296 + NF from om_38 tc_0) _ _ _ hP hD hS (lv_sub hl [0, 1] rfl)
      · skip
        have zc2 : ¬ (39 ≤ l1_1.toInt) := zMn tc_39 rfl c2
        refine lv_aload_n hx hb dX11_begin_8 rfl (lv_at hl 1 rfl) ?_
        refine va_get (D := (dC, dI)) (ci := 11) (v := .ref (r 60)) (C := RX11) (T := TX11) (N := 79) hx hb hts inB_11 hown hE.1 hP 0 rfl rfl 60 (Nat.le_of_ble_eq_true rfl) (hts _ k_1380) (fun _ h9 => h9) rfl dX11_begin_9 ?_
        refine lv_iload_n hx hb dX11_begin_12 rfl (lv_at hl 0 rfl) ?_
        refine lv_iconst (v := 0) hx hb dX11_begin_13 rfl ?_
        refine stI hx hb hE hP hD hS 25 rfl (vpI (k := 39) rfl (show 0 ≤ l1_1.toInt from om_39 hr1_1) (show l1_1.toInt < 39 from om_479 zc2)) rfl dX11_begin_14 (fun H locs hP hD hS => ?_)
        obtain ⟨f35, ef35, hP, hD⟩ : ∃ fz9, fz9 = upd2 f1 24 (upd (f1 24) l1_1.toNatClampNeg 0) ∧ va_P (dC, dI) vwCl (YW cy y0 r v1 fz9 w1 g1) H ∧ va_D A (YW cy y0 r v1 fz9 w1 g1) := ⟨_, rfl, hP, hD⟩
        have hCf35 : YC f35 := by rw [ef35]; exact ⟨hCf1.1, (wear_st hCf1.2.1 (show l1_1.toInt.toNat % 39 < 6 ∨ 12 ≤ l1_1.toInt.toNat % 39 ∨ (-1 ≤ (0 : Int32).toInt ∧ (0 : Int32).toInt ≤ 5) from om_480 tc_0)), hCf1.2.2.1, hCf1.2.2.2.1, hCf1.2.2.2.2.1, hCf1.2.2.2.2.2⟩
        have hRf35 : progOK (f35 4) (f35 5) (v1 9).toInt.toNat := by rw [ef35]; exact hRf1
        have hA_f35 : KF [24] f35 f := by rw [ef35]; exact KF.up hA_f1 rfl
        obtain ⟨t36, et36⟩ : ∃ y : Int32, y = l1_1 + 1 := ⟨_, rfl⟩
        have zt36 : t36.toInt = l1_1.toInt + 1 := (congrArg Int32.toInt et36).trans (add_i rfl tc_1 (om_41 hr1_1) (om_481 zc2))
        refine lv_iinc (v := t36) (lv' := [(1, .int t36), (0, .ref y0)]) hx hb dX11_begin_15 hl (k := 0) rfl et36.symm (Nat.le_of_ble_eq_true rfl) rfl (fun ls hl => ?_)
        refine lv_goto (tgt := 2) hx hb dX11_begin_18 rfl ?_
        have rg38 := fb_rng t36
        exact ih1 t36 v1 f35 w1 g1 hIv1 hCf35 hRf35 hq0_v1 hq1_v1 hq2_v1 hq3_v1 hq4_v1 hq5_v1 hq8_v1 hq9_v1 hq10_v1 hq13_v1 hq14_v1 hq15_v1 hq17_v1 hq18_v1 hq24_v1 hq25_v1 hq35_v1 hq36_v1 hq38_v1 hq39_v1 ((gsY_X11_begin_1_q5 c2 ef35 et36).symm.trans hT1) ⟨show (0 : Int) ≤ t36.toInt from om_43 hr1_1 zt36, show t36.toInt ≤ (2147483647 : Int) from om_44 rg38⟩ hM_v1 hA_f35 (show (2147483647 - t36.toInt).toNat < n1 from om_33 hm1 zt36 rg38) _ _ _ hP hD hS (lv_sub hl [0, 1] rfl)
  exact lp1 (4294967296 + NF) 0 v f w g hIv hCf hRf rfl rfl rfl rfl rfl rfl rfl rfl rfl rfl rfl rfl rfl rfl rfl rfl rfl rfl rfl rfl gsY_X11_begin_1_q6.symm ⟨by decide, by decide⟩ hM_v hA_f (show (2147483647 - (0 : Int32).toInt).toNat < 4294967296 + NF from om_38 tc_0) _ _ _ hP hD hS (lv_sub hl [0, 1] rfl)
set_option maxHeartbeats 4000000 in
set_option maxRecDepth 100000 in
theorem sY_X11_keepAir_1 (NF : Nat) (l : Launch) (dC : Nat → ClassId) (dI : Nat → Nat → Nat) (cy : Nat → ClassId) (y0 : Nat) (r : Nat → Nat)  (v : Nat → Int32) (f : Nat → Nat → Int32) (w : Int64) (g : Nat → Int64) (hIv : YI v) (hCf : YC f) (hRf : progOK (f 4) (f 5) (v 9).toInt.toNat)  : ctV l (dC, dI) cy yX11_keepAir cX11_keepAir 2 1 60 0 0 ((Nat → Int32) × (Nat → Nat → Int32) × (Int64) × (Nat → Int64)) [.ref y0] (YW cy y0 r v f w g) (fun u => gsY_X11_keepAir_1 NF v f w g = u ∧ KV [] u.1 v ∧ KF [23] u.2.1 f ∧ YI u.1 ∧ YC u.2.1 ∧ progOK (u.2.1 4) (u.2.1 5) (u.1 9).toInt.toNat ∧ u.1 0 = v 0 ∧ u.1 1 = v 1 ∧ u.1 2 = v 2 ∧ u.1 3 = v 3 ∧ u.1 4 = v 4 ∧ u.1 5 = v 5 ∧ u.1 8 = v 8 ∧ u.1 9 = v 9 ∧ u.1 10 = v 10 ∧ u.1 13 = v 13 ∧ u.1 14 = v 14 ∧ u.1 15 = v 15 ∧ u.1 17 = v 17 ∧ u.1 18 = v 18 ∧ u.1 24 = v 24 ∧ u.1 25 = v 25 ∧ u.1 35 = v 35 ∧ u.1 36 = v 36 ∧ u.1 38 = v 38 ∧ u.1 39 = v 39) (fun u => YW cy y0 r u.1 u.2.1 u.2.2.1 u.2.2.2) := by
  refine ctV_of (by decide) (Nat.le_of_ble_eq_true rfl) (fun p e s m below meth c A ls Q hx hb hml hts hown hnm hE hP hD hA hl ret => ?_)
  have hM_v : KV [] v v := fun _ _ => rfl
  have hA_f : KF [23] f f := fun _ _ => rfl
  have hown : s.vm.findClass RX11 = some m.cls := hown
  have hS : va_S A s.heap s.heap [] := va_S.rf
  have hl : lv_has ls 2 [(0, .ref y0)] := hl
  refine lv_iconst (v := 0) hx hb dX11_keepAir_0 rfl ?_
  refine lv_istore_n (lv' := [(1, .int 0), (0, .ref y0)]) hx hb dX11_keepAir_1 rfl hl (Nat.le_of_ble_eq_true rfl) rfl (fun ls hl => ?_)
  have lp1 : ∀ (n1 : Nat) (l1_1 : Int32) (v1 : Nat → Int32) (f1 : Nat → Nat → Int32) (w1 : Int64) (g1 : Nat → Int64), YI v1 → YC f1 → progOK (f1 4) (f1 5) (v1 9).toInt.toNat → v1 0 = (v 0) → v1 1 = (v 1) → v1 2 = (v 2) → v1 3 = (v 3) → v1 4 = (v 4) → v1 5 = (v 5) → v1 8 = (v 8) → v1 9 = (v 9) → v1 10 = (v 10) → v1 13 = (v 13) → v1 14 = (v 14) → v1 15 = (v 15) → v1 17 = (v 17) → v1 18 = (v 18) → v1 24 = (v 24) → v1 25 = (v 25) → v1 35 = (v 35) → v1 36 = (v 36) → v1 38 = (v 38) → v1 39 = (v 39) → gsY_X11_keepAir_1_L1 NF n1 l1_1 v1 f1 w1 g1 = (gsY_X11_keepAir_1 NF v f w g) → ((0 : Int) ≤ l1_1.toInt ∧ l1_1.toInt ≤ 2147483647) → KV [] v1 v → KF [23] f1 f → (2147483647 - l1_1.toInt).toNat < n1 → ∀ (H : Heap) (locs : List Loc) (ls : Array Slot), va_P (dC, dI) vwCl (YW cy y0 r v1 f1 w1 g1) H → va_D A (YW cy y0 r v1 f1 w1 g1) → va_S A s.heap H locs → lv_has ls 2 [(1, .int l1_1), (0, .ref y0)] → W p l e { frames := 1, cells := 0, slots := 0, locals := 60 } s m ([.ref y0] : List Value).toArray below meth c H locs 0 0 Q (F0 m 2 ls []) := by
    intro n1
    induction n1 with
    | zero => intro l1_1 v1 f1 w1 g1 hIv1 hCf1 hRf1 hq0_v1 hq1_v1 hq2_v1 hq3_v1 hq4_v1 hq5_v1 hq8_v1 hq9_v1 hq10_v1 hq13_v1 hq14_v1 hq15_v1 hq17_v1 hq18_v1 hq24_v1 hq25_v1 hq35_v1 hq36_v1 hq38_v1 hq39_v1 hT1 hr1_1 hM_v1 hA_f1 hm; exact absurd hm (Nat.not_lt_zero _)
    | succ n1 ih1 =>
      intro l1_1 v1 f1 w1 g1 hIv1 hCf1 hRf1 hq0_v1 hq1_v1 hq2_v1 hq3_v1 hq4_v1 hq5_v1 hq8_v1 hq9_v1 hq10_v1 hq13_v1 hq14_v1 hq15_v1 hq17_v1 hq18_v1 hq24_v1 hq25_v1 hq35_v1 hq36_v1 hq38_v1 hq39_v1 hT1 hr1_1 hM_v1 hA_f1 hm1 H locs ls hP hD hS hl
      refine lv_iload_n hx hb dX11_keepAir_2 rfl (lv_at hl 0 rfl) ?_
      refine lv_bipush (v := 39) hx hb dX11_keepAir_3 rfl ?_
      refine lv_icmp_ge (tgt := 26) hx hb dX11_keepAir_5 rfl (fun c2 => ?_) (fun c2 => ?_)
      · skip
        exact ret (v1, f1, w1, g1) _ _ _ _ _ _ ⟨(hT1.symm.trans (gsY_X11_keepAir_1_q0 c2)), hM_v1, hA_f1, hIv1, hCf1, hRf1, (show v1 0 = v 0 from hq0_v1), (show v1 1 = v 1 from hq1_v1), (show v1 2 = v 2 from hq2_v1), (show v1 3 = v 3 from hq3_v1), (show v1 4 = v 4 from hq4_v1), (show v1 5 = v 5 from hq5_v1), (show v1 8 = v 8 from hq8_v1), (show v1 9 = v 9 from hq9_v1), (show v1 10 = v 10 from hq10_v1), (show v1 13 = v 13 from hq13_v1), (show v1 14 = v 14 from hq14_v1), (show v1 15 = v 15 from hq15_v1), (show v1 17 = v 17 from hq17_v1), (show v1 18 = v 18 from hq18_v1), (show v1 24 = v 24 from hq24_v1), (show v1 25 = v 25 from hq25_v1), (show v1 35 = v 35 from hq35_v1), (show v1 36 = v 36 from hq36_v1), (show v1 38 = v 38 from hq38_v1), (show v1 39 = v 39 from hq39_v1)⟩ hP hD hS dX11_keepAir_26 (Nat.le_refl _) (Nat.le_refl _)
      · skip
        have zc2 : ¬ (39 ≤ l1_1.toInt) := zMn tc_39 rfl c2
        refine lv_aload_n hx hb dX11_keepAir_8 rfl (lv_at hl 1 rfl) ?_
        refine va_get (D := (dC, dI)) (ci := 11) (v := .ref (r 59)) (C := RX11) (T := TX11) (N := 79) hx hb hts inB_11 hown hE.1 hP 0 rfl rfl 59 (Nat.le_of_ble_eq_true rfl) (hts _ k_1379) (fun _ h9 => h9) rfl dX11_keepAir_9 ?_
        refine lv_iload_n hx hb dX11_keepAir_12 rfl (lv_at hl 0 rfl) ?_
        refine lv_aload_n hx hb dX11_keepAir_13 rfl (lv_at hl 1 rfl) ?_
        refine va_get (D := (dC, dI)) (ci := 11) (v := .ref (r 60)) (C := RX11) (T := TX11) (N := 79) hx hb hts inB_11 hown hE.1 hP 0 rfl rfl 60 (Nat.le_of_ble_eq_true rfl) (hts _ k_1380) (fun _ h9 => h9) rfl dX11_keepAir_14 ?_
        refine lv_iload_n hx hb dX11_keepAir_17 rfl (lv_at hl 0 rfl) ?_
        refine ldI hx hb hE hP 25 rfl (vpI (k := 39) rfl (show 0 ≤ l1_1.toInt from om_39 hr1_1) (show l1_1.toInt < 39 from om_479 zc2)) rfl rfl dX11_keepAir_18 ?_
        refine lv_topi (fun t3 et3 => ?_)
        have zt3 : l1_1.toInt.toNat % 39 < 6 ∨ 12 ≤ l1_1.toInt.toNat % 39 ∨ (-1 ≤ t3.toInt ∧ t3.toInt ≤ 5) := by rw [et3]; exact wear_ld hCf1.2.1 (show l1_1.toInt.toNat < 39 from om_482 zc2)
        refine stI hx hb hE hP hD hS 24 rfl (vpI (k := 39) rfl (show 0 ≤ l1_1.toInt from om_39 hr1_1) (show l1_1.toInt < 39 from om_479 zc2)) rfl dX11_keepAir_19 (fun H locs hP hD hS => ?_)
        obtain ⟨f4, ef4, hP, hD⟩ : ∃ fz9, fz9 = upd2 f1 23 (upd (f1 23) l1_1.toNatClampNeg t3) ∧ va_P (dC, dI) vwCl (YW cy y0 r v1 fz9 w1 g1) H ∧ va_D A (YW cy y0 r v1 fz9 w1 g1) := ⟨_, rfl, hP, hD⟩
        have hCf4 : YC f4 := by rw [ef4]; exact ⟨(wear_st hCf1.1 (show l1_1.toInt.toNat % 39 < 6 ∨ 12 ≤ l1_1.toInt.toNat % 39 ∨ (-1 ≤ t3.toInt ∧ t3.toInt ≤ 5) from om_483 zt3)), hCf1.2.1, hCf1.2.2.1, hCf1.2.2.2.1, hCf1.2.2.2.2.1, hCf1.2.2.2.2.2⟩
        have hRf4 : progOK (f4 4) (f4 5) (v1 9).toInt.toNat := by rw [ef4]; exact hRf1
        have hA_f4 : KF [23] f4 f := by rw [ef4]; exact KF.up hA_f1 rfl
        obtain ⟨t5, et5⟩ : ∃ y : Int32, y = l1_1 + 1 := ⟨_, rfl⟩
        have zt5 : t5.toInt = l1_1.toInt + 1 := (congrArg Int32.toInt et5).trans (add_i rfl tc_1 (om_41 hr1_1) (om_481 zc2))
        refine lv_iinc (v := t5) (lv' := [(1, .int t5), (0, .ref y0)]) hx hb dX11_keepAir_20 hl (k := 0) rfl et5.symm (Nat.le_of_ble_eq_true rfl) rfl (fun ls hl => ?_)
        refine lv_goto (tgt := 2) hx hb dX11_keepAir_23 rfl ?_
        have rg7 := fb_rng t5
        exact ih1 t5 v1 f4 w1 g1 hIv1 hCf4 hRf4 hq0_v1 hq1_v1 hq2_v1 hq3_v1 hq4_v1 hq5_v1 hq8_v1 hq9_v1 hq10_v1 hq13_v1 hq14_v1 hq15_v1 hq17_v1 hq18_v1 hq24_v1 hq25_v1 hq35_v1 hq36_v1 hq38_v1 hq39_v1 ((gsY_X11_keepAir_1_q1 c2 et3 ef4 et5).symm.trans hT1) ⟨show (0 : Int) ≤ t5.toInt from om_43 hr1_1 zt5, show t5.toInt ≤ (2147483647 : Int) from om_44 rg7⟩ hM_v1 hA_f4 (show (2147483647 - t5.toInt).toNat < n1 from om_33 hm1 zt5 rg7) _ _ _ hP hD hS (lv_sub hl [0, 1] rfl)
  exact lp1 (4294967296 + NF) 0 v f w g hIv hCf hRf rfl rfl rfl rfl rfl rfl rfl rfl rfl rfl rfl rfl rfl rfl rfl rfl rfl rfl rfl rfl gsY_X11_keepAir_1_q2.symm ⟨by decide, by decide⟩ hM_v hA_f (show (2147483647 - (0 : Int32).toInt).toNat < 4294967296 + NF from om_38 tc_0) _ _ _ hP hD hS (lv_sub hl [0, 1] rfl)
set_option maxHeartbeats 4000000 in
set_option maxRecDepth 100000 in
theorem sY_X11_regiment_1 (NF : Nat) (l : Launch) (dC : Nat → ClassId) (dI : Nat → Nat → Nat) (cy : Nat → ClassId) (y0 : Nat) (r : Nat → Nat)  (v : Nat → Int32) (f : Nat → Nat → Int32) (w : Int64) (g : Nat → Int64) (hIv : YI v) (hCf : YC f) (hRf : progOK (f 4) (f 5) (v 9).toInt.toNat)  : ctI l (dC, dI) cy yX11_regiment cX11_regiment 2 .int 9 232 0 0 ((Nat → Int32) × (Nat → Nat → Int32) × (Int64) × (Nat → Int64)) [.ref y0] (YW cy y0 r v f w g) (fun r u => gsY_X11_regiment_1 NF v f w g = (r, u) ∧ KV [0, 1, 2, 3, 4, 5, 6, 7, 8, 9, 10, 11, 12, 13, 14, 15, 16, 17, 18, 19, 20, 21, 22, 23, 24, 25, 26, 27, 28, 29, 30, 31, 32, 33, 34, 35, 36, 37, 38] u.1 v ∧ KF [2, 3, 4, 5, 6, 9, 10, 11, 12, 13, 14, 15, 16, 17, 18, 19, 20, 21, 22, 23, 24, 36] u.2.1 f ∧ YI u.1 ∧ YC u.2.1 ∧ progOK (u.2.1 4) (u.2.1 5) (u.1 9).toInt.toNat ∧ u.1 39 = v 39 ∧ ((u.1 0).toInt = 0) ∧ ((gsY_X11_readAll_1 NF v f w g).1 1 ≤ 0 ∨ ((∀ k, ([9, 16, 24, 25, 26, 27, 28, 29, 38, 39, 35, 36] : List Nat).contains k = true → u.1 k = v k) ∧ ∀ k, ([4, 5, 16, 17, 18, 19, 20, 21, 22, 30, 31, 32, 33, 23, 25, 36, 37] : List Nat).contains k = true → u.2.1 k = f k))) (fun u => YW cy y0 r u.1 u.2.1 u.2.2.1 u.2.2.2) := by
  refine ctI_of (by decide) (Nat.le_of_ble_eq_true rfl) (fun p e s m below meth c A ls Q hx hb hml hts hown hE hP hD hA hl ret => ?_)
  have hUv : (v 35).toInt + (v 36).toInt ≤ 40 := hIv.2
  have hM_v : KV [0, 1, 2, 3, 4, 5, 6, 7, 8, 9, 10, 11, 12, 13, 14, 15, 16, 17, 18, 19, 20, 21, 22, 23, 24, 25, 26, 27, 28, 29, 30, 31, 32, 33, 34, 35, 36, 37, 38] v v := fun _ _ => rfl
  have hA_f : KF [2, 3, 4, 5, 6, 9, 10, 11, 12, 13, 14, 15, 16, 17, 18, 19, 20, 21, 22, 23, 24, 36] f f := fun _ _ => rfl
  have b0_v : (0 : Int) ≤ (v 0).toInt ∧ (v 0).toInt ≤ 1600 := Yb_0 hIv.1
  have b1_v : (0 : Int) ≤ (v 1).toInt ∧ (v 1).toInt ≤ 4 := Yb_1 hIv.1
  have b8_v : (0 : Int) ≤ (v 8).toInt ∧ (v 8).toInt ≤ 320 := Yb_8 hIv.1
  have b10_v : (0 : Int) ≤ (v 10).toInt ∧ (v 10).toInt ≤ 160 := Yb_10 hIv.1
  have b13_v : (0 : Int) ≤ (v 13).toInt ∧ (v 13).toInt ≤ 31 := Yb_13 hIv.1
  have b14_v : (0 : Int) ≤ (v 14).toInt ∧ (v 14).toInt ≤ 8 := Yb_14 hIv.1
  have b15_v : (0 : Int) ≤ (v 15).toInt ∧ (v 15).toInt ≤ 1 := Yb_15 hIv.1
  have b17_v : (0 : Int) ≤ (v 17).toInt ∧ (v 17).toInt ≤ 6 := Yb_17 hIv.1
  have b18_v : (0 : Int) ≤ (v 18).toInt ∧ (v 18).toInt ≤ 6 := Yb_18 hIv.1
  have hown : s.vm.findClass RX11 = some m.cls := hown
  have hS : va_S A s.heap s.heap [] := va_S.rf
  have hl : lv_has ls 2 [(0, .ref y0)] := hl
  refine lv_aload_n hx hb dX11_regiment_0 rfl (lv_at hl 0 rfl) ?_
  refine cbVv (n := 0) (rest := []) hx hb hml hown hts hE hP hD hS hA (sY_X11_readAll_1 NF l dC dI cy y0 r  v f w g hIv hCf hRf ) k_1575 k_1577 k_41 k_114 k_1578 hd_yX11_readAll ⟨Nat.le_of_ble_eq_true rfl, Nat.le_of_ble_eq_true rfl⟩ 0 11 rfl rfl (rfl) hl.1 rfl (Nat.le_of_ble_eq_true rfl) dX11_regiment_1 (fun u H locs hw hP hD hS => ?_)
  obtain ⟨hG1, hw⟩ := hw
  obtain ⟨v2, f3, w4, g5⟩ := u
  obtain ⟨kV_v2, kF_f3, hIv2, hCf3, hRf3, hk9_v2, hk24_v2, hk25_v2, hk35_v2, hk36_v2, hk38_v2, hk39_v2, pv6, pg7⟩ := hw
  have hM_v2 : KV [0, 1, 2, 3, 4, 5, 6, 7, 8, 9, 10, 11, 12, 13, 14, 15, 16, 17, 18, 19, 20, 21, 22, 23, 24, 25, 26, 27, 28, 29, 30, 31, 32, 33, 34, 35, 36, 37, 38] v2 v := KV.tr kV_v2 hM_v (by decide +kernel)
  have hA_f3 : KF [2, 3, 4, 5, 6, 9, 10, 11, 12, 13, 14, 15, 16, 17, 18, 19, 20, 21, 22, 23, 24, 36] f3 f := KF.tr kF_f3 hA_f (by decide +kernel)
  have hP : va_P (dC, dI) vwCl (YW cy y0 r v2 f3 w4 g5) H := hP
  have hD : va_D A (YW cy y0 r v2 f3 w4 g5) := hD
  have b0_v2 : 0 ≤ (v2 0).toInt ∧ (v2 0).toInt ≤ 1600 := Yb_0 hIv2.1
  have b1_v2 : 0 ≤ (v2 1).toInt ∧ (v2 1).toInt ≤ 4 := Yb_1 hIv2.1
  have b15_v2 : 0 ≤ (v2 15).toInt ∧ (v2 15).toInt ≤ 1 := Yb_15 hIv2.1
  have b8_v2 : 0 ≤ (v2 8).toInt ∧ (v2 8).toInt ≤ 320 := Yb_8 hIv2.1
  have pv6 : (v2 0).toInt = 0 := pv6
  have pg7 : IM0 (v2 1).toInt (IMn (v2 15).toInt (progOK (f3 2) (f3 3) ((v2 8).toInt).toNat)) := pg7
  have hUv2 : (v2 35).toInt + (v2 36).toInt ≤ 40 := hIv2.2
  have hq9_v2 : v2 9 = (v 9) := hk9_v2
  have zq9_v2 := congrArg Int32.toInt hq9_v2
  have hq35_v2 : v2 35 = (v 35) := hk35_v2
  have zq35_v2 := congrArg Int32.toInt hq35_v2
  have hq36_v2 : v2 36 = (v 36) := hk36_v2
  have zq36_v2 := congrArg Int32.toInt hq36_v2
  have hq38_v2 : v2 38 = (v 38) := hk38_v2
  have hq39_v2 : v2 39 = (v 39) := hk39_v2
  have hPL := pg7
  refine lv_aload_n hx hb dX11_regiment_4 rfl (lv_at hl 0 rfl) ?_
  refine va_get (D := (dC, dI)) (ci := 11) (v := .int (v2 1)) (C := RX11) (T := TX11) (N := 79) hx hb hts inB_11 hown hE.1 hP 0 rfl rfl 2 (Nat.le_of_ble_eq_true rfl) (hts _ k_1322) (fun _ h9 => h9) rfl dX11_regiment_5 ?_
  have b1_v2 : 0 ≤ (v2 1).toInt ∧ (v2 1).toInt ≤ 4 := Yb_1 hIv2.1
  refine lv_if_le (tgt := 13) hx hb dX11_regiment_8 rfl (fun c8 => ?_) (fun c8 => ?_)
  · skip
    have zc8 : (v2 1).toInt ≤ 0 := zMp rfl tc_0 c8
    refine lv_aload_n hx hb dX11_regiment_13 rfl (lv_at hl 0 rfl) ?_
    refine lv_aload_n hx hb dX11_regiment_14 rfl (lv_at hl 0 rfl) ?_
    refine va_get (D := (dC, dI)) (ci := 11) (v := .int (v2 17)) (C := RX11) (T := TX11) (N := 79) hx hb hts inB_11 hown hE.1 hP 0 rfl rfl 41 (Nat.le_of_ble_eq_true rfl) (hts _ k_1361) (fun _ h9 => h9) rfl dX11_regiment_15 ?_
    have b17_v2 : 0 ≤ (v2 17).toInt ∧ (v2 17).toInt ≤ 6 := Yb_17 hIv2.1
    refine va_put (D := (dC, dI)) (ci := 11) (v := .int (v2 17)) (ty := tyX11 48) (C := RX11) (T := TX11) (N := 79) hx hb hts inB_11 tyX11 tyX11_ok nmX11 hown hE.1 hP hD hS 0 rfl rfl 48 (Nat.le_of_ble_eq_true rfl) (hts _ k_1368) (fun _ h9 => h9) rfl (tyX11_ok 48 (Nat.le_of_ble_eq_true rfl)) rfl rfl (Nat.le_of_ble_eq_true rfl) dX11_regiment_18 (fun H locs hP hD hS => ?_)
    have hP : va_P (dC, dI) vwCl (YW cy y0 r (upd v2 24 (v2 17)) f3 w4 g5) H := hP
    have hD : va_D A (YW cy y0 r (upd v2 24 (v2 17)) f3 w4 g5) := hD
    refine lv_aload_n hx hb dX11_regiment_21 rfl (lv_at hl 0 rfl) ?_
    refine lv_aload_n hx hb dX11_regiment_22 rfl (lv_at hl 0 rfl) ?_
    refine va_get (D := (dC, dI)) (ci := 11) (v := .int (v2 18)) (C := RX11) (T := TX11) (N := 79) hx hb hts inB_11 hown hE.1 hP 0 rfl rfl 42 (Nat.le_of_ble_eq_true rfl) (hts _ k_1362) (fun _ h9 => h9) rfl dX11_regiment_23 ?_
    have b18_v2 : 0 ≤ (v2 18).toInt ∧ (v2 18).toInt ≤ 6 := Yb_18 hIv2.1
    refine va_put (D := (dC, dI)) (ci := 11) (v := .int (v2 18)) (ty := tyX11 49) (C := RX11) (T := TX11) (N := 79) hx hb hts inB_11 tyX11 tyX11_ok nmX11 hown hE.1 hP hD hS 0 rfl rfl 49 (Nat.le_of_ble_eq_true rfl) (hts _ k_1369) (fun _ h9 => h9) rfl (tyX11_ok 49 (Nat.le_of_ble_eq_true rfl)) rfl rfl (Nat.le_of_ble_eq_true rfl) dX11_regiment_26 (fun H locs hP hD hS => ?_)
    have hP : va_P (dC, dI) vwCl (YW cy y0 r (upd (upd v2 24 (v2 17)) 25 (v2 18)) f3 w4 g5) H := hP
    have hD : va_D A (YW cy y0 r (upd (upd v2 24 (v2 17)) 25 (v2 18)) f3 w4 g5) := hD
    refine lv_aload_n hx hb dX11_regiment_29 rfl (lv_at hl 0 rfl) ?_
    refine lv_aload_n hx hb dX11_regiment_30 rfl (lv_at hl 0 rfl) ?_
    refine va_get (D := (dC, dI)) (ci := 11) (v := .int (v2 19)) (C := RX11) (T := TX11) (N := 79) hx hb hts inB_11 hown hE.1 hP 0 rfl rfl 43 (Nat.le_of_ble_eq_true rfl) (hts _ k_1363) (fun _ h9 => h9) rfl dX11_regiment_31 ?_
    refine va_put (D := (dC, dI)) (ci := 11) (v := .int (v2 19)) (ty := tyX11 50) (C := RX11) (T := TX11) (N := 79) hx hb hts inB_11 tyX11 tyX11_ok nmX11 hown hE.1 hP hD hS 0 rfl rfl 50 (Nat.le_of_ble_eq_true rfl) (hts _ k_1370) (fun _ h9 => h9) rfl (tyX11_ok 50 (Nat.le_of_ble_eq_true rfl)) rfl rfl (Nat.le_of_ble_eq_true rfl) dX11_regiment_34 (fun H locs hP hD hS => ?_)
    have hP : va_P (dC, dI) vwCl (YW cy y0 r (upd (upd (upd v2 24 (v2 17)) 25 (v2 18)) 26 (v2 19)) f3 w4 g5) H := hP
    have hD : va_D A (YW cy y0 r (upd (upd (upd v2 24 (v2 17)) 25 (v2 18)) 26 (v2 19)) f3 w4 g5) := hD
    refine lv_aload_n hx hb dX11_regiment_37 rfl (lv_at hl 0 rfl) ?_
    refine lv_aload_n hx hb dX11_regiment_38 rfl (lv_at hl 0 rfl) ?_
    refine va_get (D := (dC, dI)) (ci := 11) (v := .int (v2 20)) (C := RX11) (T := TX11) (N := 79) hx hb hts inB_11 hown hE.1 hP 0 rfl rfl 44 (Nat.le_of_ble_eq_true rfl) (hts _ k_1364) (fun _ h9 => h9) rfl dX11_regiment_39 ?_
    refine va_put (D := (dC, dI)) (ci := 11) (v := .int (v2 20)) (ty := tyX11 51) (C := RX11) (T := TX11) (N := 79) hx hb hts inB_11 tyX11 tyX11_ok nmX11 hown hE.1 hP hD hS 0 rfl rfl 51 (Nat.le_of_ble_eq_true rfl) (hts _ k_1371) (fun _ h9 => h9) rfl (tyX11_ok 51 (Nat.le_of_ble_eq_true rfl)) rfl rfl (Nat.le_of_ble_eq_true rfl) dX11_regiment_42 (fun H locs hP hD hS => ?_)
    have hP : va_P (dC, dI) vwCl (YW cy y0 r (upd (upd (upd (upd v2 24 (v2 17)) 25 (v2 18)) 26 (v2 19)) 27 (v2 20)) f3 w4 g5) H := hP
    have hD : va_D A (YW cy y0 r (upd (upd (upd (upd v2 24 (v2 17)) 25 (v2 18)) 26 (v2 19)) 27 (v2 20)) f3 w4 g5) := hD
    refine lv_aload_n hx hb dX11_regiment_45 rfl (lv_at hl 0 rfl) ?_
    refine lv_aload_n hx hb dX11_regiment_46 rfl (lv_at hl 0 rfl) ?_
    refine va_get (D := (dC, dI)) (ci := 11) (v := .int (v2 21)) (C := RX11) (T := TX11) (N := 79) hx hb hts inB_11 hown hE.1 hP 0 rfl rfl 45 (Nat.le_of_ble_eq_true rfl) (hts _ k_1365) (fun _ h9 => h9) rfl dX11_regiment_47 ?_
    refine va_put (D := (dC, dI)) (ci := 11) (v := .int (v2 21)) (ty := tyX11 52) (C := RX11) (T := TX11) (N := 79) hx hb hts inB_11 tyX11 tyX11_ok nmX11 hown hE.1 hP hD hS 0 rfl rfl 52 (Nat.le_of_ble_eq_true rfl) (hts _ k_1372) (fun _ h9 => h9) rfl (tyX11_ok 52 (Nat.le_of_ble_eq_true rfl)) rfl rfl (Nat.le_of_ble_eq_true rfl) dX11_regiment_50 (fun H locs hP hD hS => ?_)
    have hP : va_P (dC, dI) vwCl (YW cy y0 r (upd (upd (upd (upd (upd v2 24 (v2 17)) 25 (v2 18)) 26 (v2 19)) 27 (v2 20)) 28 (v2 21)) f3 w4 g5) H := hP
    have hD : va_D A (YW cy y0 r (upd (upd (upd (upd (upd v2 24 (v2 17)) 25 (v2 18)) 26 (v2 19)) 27 (v2 20)) 28 (v2 21)) f3 w4 g5) := hD
    refine lv_aload_n hx hb dX11_regiment_53 rfl (lv_at hl 0 rfl) ?_
    refine lv_aload_n hx hb dX11_regiment_54 rfl (lv_at hl 0 rfl) ?_
    refine va_get (D := (dC, dI)) (ci := 11) (v := .int (v2 22)) (C := RX11) (T := TX11) (N := 79) hx hb hts inB_11 hown hE.1 hP 0 rfl rfl 46 (Nat.le_of_ble_eq_true rfl) (hts _ k_1366) (fun _ h9 => h9) rfl dX11_regiment_55 ?_
    refine va_put (D := (dC, dI)) (ci := 11) (v := .int (v2 22)) (ty := tyX11 53) (C := RX11) (T := TX11) (N := 79) hx hb hts inB_11 tyX11 tyX11_ok nmX11 hown hE.1 hP hD hS 0 rfl rfl 53 (Nat.le_of_ble_eq_true rfl) (hts _ k_1373) (fun _ h9 => h9) rfl (tyX11_ok 53 (Nat.le_of_ble_eq_true rfl)) rfl rfl (Nat.le_of_ble_eq_true rfl) dX11_regiment_58 (fun H locs hP hD hS => ?_)
    have hP : va_P (dC, dI) vwCl (YW cy y0 r (upd (upd (upd (upd (upd (upd v2 24 (v2 17)) 25 (v2 18)) 26 (v2 19)) 27 (v2 20)) 28 (v2 21)) 29 (v2 22)) f3 w4 g5) H := hP
    have hD : va_D A (YW cy y0 r (upd (upd (upd (upd (upd (upd v2 24 (v2 17)) 25 (v2 18)) 26 (v2 19)) 27 (v2 20)) 28 (v2 21)) 29 (v2 22)) f3 w4 g5) := hD
    refine lv_aload_n hx hb dX11_regiment_61 rfl (lv_at hl 0 rfl) ?_
    refine lv_aload_n hx hb dX11_regiment_62 rfl (lv_at hl 0 rfl) ?_
    refine va_get (D := (dC, dI)) (ci := 11) (v := .int (v2 11)) (C := RX11) (T := TX11) (N := 79) hx hb hts inB_11 hown hE.1 hP 0 rfl rfl 20 (Nat.le_of_ble_eq_true rfl) (hts _ k_1340) (fun _ h9 => h9) rfl dX11_regiment_63 ?_
    refine va_put (D := (dC, dI)) (ci := 11) (v := .int (v2 11)) (ty := tyX11 21) (C := RX11) (T := TX11) (N := 79) hx hb hts inB_11 tyX11 tyX11_ok nmX11 hown hE.1 hP hD hS 0 rfl rfl 21 (Nat.le_of_ble_eq_true rfl) (hts _ k_1341) (fun _ h9 => h9) rfl (tyX11_ok 21 (Nat.le_of_ble_eq_true rfl)) rfl rfl (Nat.le_of_ble_eq_true rfl) dX11_regiment_66 (fun H locs hP hD hS => ?_)
    have hP : va_P (dC, dI) vwCl (YW cy y0 r (upd (upd (upd (upd (upd (upd (upd v2 24 (v2 17)) 25 (v2 18)) 26 (v2 19)) 27 (v2 20)) 28 (v2 21)) 29 (v2 22)) 12 (v2 11)) f3 w4 g5) H := hP
    have hD : va_D A (YW cy y0 r (upd (upd (upd (upd (upd (upd (upd v2 24 (v2 17)) 25 (v2 18)) 26 (v2 19)) 27 (v2 20)) 28 (v2 21)) 29 (v2 22)) 12 (v2 11)) f3 w4 g5) := hD
    refine lv_aload_n hx hb dX11_regiment_69 rfl (lv_at hl 0 rfl) ?_
    refine lv_aload_n hx hb dX11_regiment_70 rfl (lv_at hl 0 rfl) ?_
    refine va_get (D := (dC, dI)) (ci := 11) (v := .int (v2 15)) (C := RX11) (T := TX11) (N := 79) hx hb hts inB_11 hown hE.1 hP 0 rfl rfl 24 (Nat.le_of_ble_eq_true rfl) (hts _ k_1344) (fun _ h9 => h9) rfl dX11_regiment_71 ?_
    have b15_v2 : 0 ≤ (v2 15).toInt ∧ (v2 15).toInt ≤ 1 := Yb_15 hIv2.1
    refine va_put (D := (dC, dI)) (ci := 11) (v := .int (v2 15)) (ty := tyX11 25) (C := RX11) (T := TX11) (N := 79) hx hb hts inB_11 tyX11 tyX11_ok nmX11 hown hE.1 hP hD hS 0 rfl rfl 25 (Nat.le_of_ble_eq_true rfl) (hts _ k_1345) (fun _ h9 => h9) rfl (tyX11_ok 25 (Nat.le_of_ble_eq_true rfl)) (by rcases b01 (x := (v2 15)) (by omega) (by omega) with h9 | h9 <;> (rw [h9]; rfl)) (by rcases b01 (x := (v2 15)) (by omega) (by omega) with h9 | h9 <;> (rw [h9]; rfl)) (Nat.le_of_ble_eq_true rfl) dX11_regiment_74 (fun H locs hP hD hS => ?_)
    have hP : va_P (dC, dI) vwCl (YW cy y0 r (upd (upd (upd (upd (upd (upd (upd (upd v2 24 (v2 17)) 25 (v2 18)) 26 (v2 19)) 27 (v2 20)) 28 (v2 21)) 29 (v2 22)) 12 (v2 11)) 16 (v2 15)) f3 w4 g5) H := hP
    have hD : va_D A (YW cy y0 r (upd (upd (upd (upd (upd (upd (upd (upd v2 24 (v2 17)) 25 (v2 18)) 26 (v2 19)) 27 (v2 20)) 28 (v2 21)) 29 (v2 22)) 12 (v2 11)) 16 (v2 15)) f3 w4 g5) := hD
    refine lv_aload_n hx hb dX11_regiment_77 rfl (lv_at hl 0 rfl) ?_
    refine lv_aload_n hx hb dX11_regiment_78 rfl (lv_at hl 0 rfl) ?_
    refine va_get (D := (dC, dI)) (ci := 11) (v := .int (v2 15)) (C := RX11) (T := TX11) (N := 79) hx hb hts inB_11 hown hE.1 hP 0 rfl rfl 24 (Nat.le_of_ble_eq_true rfl) (hts _ k_1344) (fun _ h9 => h9) rfl dX11_regiment_79 ?_
    refine lv_if_eq (tgt := 92) hx hb dX11_regiment_82 rfl (fun c9 => ?_) (fun c9 => ?_)
    · skip
      have zc9 : (v2 15).toInt = 0 := zEp rfl tc_0 c9
      refine lv_iconst (v := 0) hx hb dX11_regiment_92 rfl ?_
      refine va_put (D := (dC, dI)) (ci := 11) (v := .int 0) (ty := tyX11 18) (C := RX11) (T := TX11) (N := 79) hx hb hts inB_11 tyX11 tyX11_ok nmX11 hown hE.1 hP hD hS 0 rfl rfl 18 (Nat.le_of_ble_eq_true rfl) (hts _ k_1338) (fun _ h9 => h9) rfl (tyX11_ok 18 (Nat.le_of_ble_eq_true rfl)) rfl rfl (Nat.le_of_ble_eq_true rfl) dX11_regiment_93 (fun H locs hP hD hS => ?_)
      have hP : va_P (dC, dI) vwCl (YW cy y0 r (upd (upd (upd (upd (upd (upd (upd (upd (upd v2 24 (v2 17)) 25 (v2 18)) 26 (v2 19)) 27 (v2 20)) 28 (v2 21)) 29 (v2 22)) 12 (v2 11)) 16 (v2 15)) 9 0) f3 w4 g5) H := hP
      have hD : va_D A (YW cy y0 r (upd (upd (upd (upd (upd (upd (upd (upd (upd v2 24 (v2 17)) 25 (v2 18)) 26 (v2 19)) 27 (v2 20)) 28 (v2 21)) 29 (v2 22)) 12 (v2 11)) 16 (v2 15)) 9 0) f3 w4 g5) := hD
      refine lv_iconst (v := 0) hx hb dX11_regiment_96 rfl ?_
      refine lv_istore_n (lv' := [(1, .int 0), (0, .ref y0)]) hx hb dX11_regiment_97 rfl hl (Nat.le_of_ble_eq_true rfl) rfl (fun ls hl => ?_)
      have lp10 : ∀ (n10 : Nat) (l1_10 : Int32) (v10 : Nat → Int32) (f10 : Nat → Nat → Int32) (w10 : Int64) (g10 : Nat → Int64), YI v10 → YC f10 → v10 0 = (v2 0) → v10 1 = (v2 1) → v10 2 = (v2 2) → v10 3 = (v2 3) → v10 4 = (v2 4) → v10 5 = (v2 5) → v10 8 = (v2 8) → v10 9 = 0 → v10 10 = (v2 10) → v10 13 = (v2 13) → v10 14 = (v2 14) → v10 15 = (v2 15) → v10 17 = (v2 17) → v10 18 = (v2 18) → v10 24 = (v2 17) → v10 25 = (v2 18) → v10 35 = (v 35) → v10 36 = (v 36) → v10 38 = (v 38) → v10 39 = (v 39) → gsY_X11_regiment_1_L10 NF v2 n10 l1_10 v10 f10 w10 g10 = (gsY_X11_regiment_1 NF v f w g) → ((0 : Int) ≤ l1_10.toInt ∧ l1_10.toInt ≤ 2147483647) → (progOK (f10 2) (f10 3) ((v10 9).toInt).toNat) → (∀ j, j < (l1_10.toInt).toNat → (f10 4) j = (f10 2) j ∧ (f10 5) j = (f10 3) j) → KV [0, 1, 2, 3, 4, 5, 6, 7, 8, 9, 10, 11, 12, 13, 14, 15, 16, 17, 18, 19, 20, 21, 22, 23, 24, 25, 26, 27, 28, 29, 30, 31, 32, 33, 34, 35, 36, 37, 38] v10 v → KF [2, 3, 4, 5, 6, 9, 10, 11, 12, 13, 14, 15, 16, 17, 18, 19, 20, 21, 22, 23, 24, 36] f10 f → f10 2 = (f3 2) → f10 3 = (f3 3) → (2147483647 - l1_10.toInt).toNat < n10 → ∀ (H : Heap) (locs : List Loc) (ls : Array Slot), va_P (dC, dI) vwCl (YW cy y0 r v10 f10 w10 g10) H → va_D A (YW cy y0 r v10 f10 w10 g10) → va_S A s.heap H locs → lv_has ls 2 [(1, .int l1_10), (0, .ref y0)] → W p l e { frames := 9, cells := 0, slots := 0, locals := 232 } s m ([.ref y0] : List Value).toArray below meth c H locs 0 0 Q (F0 m 98 ls []) := by
        intro n10
        induction n10 with
        | zero => intro l1_10 v10 f10 w10 g10 hIv10 hCf10 hq0_v10 hq1_v10 hq2_v10 hq3_v10 hq4_v10 hq5_v10 hq8_v10 hq9_v10 hq10_v10 hq13_v10 hq14_v10 hq15_v10 hq17_v10 hq18_v10 hq24_v10 hq25_v10 hq35_v10 hq36_v10 hq38_v10 hq39_v10 hT10 hr1_10 hx0_10 hx1_10 hM_v10 hA_f10 hs2_f10 hs3_f10 hm; exact absurd hm (Nat.not_lt_zero _)
        | succ n10 ih10 =>
          intro l1_10 v10 f10 w10 g10 hIv10 hCf10 hq0_v10 hq1_v10 hq2_v10 hq3_v10 hq4_v10 hq5_v10 hq8_v10 hq9_v10 hq10_v10 hq13_v10 hq14_v10 hq15_v10 hq17_v10 hq18_v10 hq24_v10 hq25_v10 hq35_v10 hq36_v10 hq38_v10 hq39_v10 hT10 hr1_10 hx0_10 hx1_10 hM_v10 hA_f10 hs2_f10 hs3_f10 hm10 H locs ls hP hD hS hl
          have hUv10 : (v10 35).toInt + (v10 36).toInt ≤ 40 := hIv10.2
          have zq0_v10 := congrArg Int32.toInt hq0_v10
          have zq1_v10 := congrArg Int32.toInt hq1_v10
          have zq8_v10 := congrArg Int32.toInt hq8_v10
          have zq9_v10 : (v10 9).toInt = 0 := by rw [hq9_v10]; decide
          try clear zq9_v2
          have zq10_v10 := congrArg Int32.toInt hq10_v10
          have zq13_v10 := congrArg Int32.toInt hq13_v10
          have zq14_v10 := congrArg Int32.toInt hq14_v10
          have zq15_v10 := congrArg Int32.toInt hq15_v10
          have zq17_v10 := congrArg Int32.toInt hq17_v10
          have zq18_v10 := congrArg Int32.toInt hq18_v10
          have zq35_v10 := congrArg Int32.toInt hq35_v10
          try clear zq35_v2
          have zq36_v10 := congrArg Int32.toInt hq36_v10
          try clear zq36_v2
          have b9_v10 : 0 ≤ (v10 9).toInt ∧ (v10 9).toInt ≤ 320 := Yb_9 hIv10.1
          rw [hs2_f10] at hx0_10
          rw [hs3_f10] at hx0_10
          rw [hs2_f10] at hx1_10
          rw [hs3_f10] at hx1_10
          have hPG := hx0_10
          have hCP := hx1_10
          refine lv_iload_n hx hb dX11_regiment_98 rfl (lv_at hl 0 rfl) ?_
          refine lv_aload_n hx hb dX11_regiment_99 rfl (lv_at hl 1 rfl) ?_
          refine va_get (D := (dC, dI)) (ci := 11) (v := .int (v10 9)) (C := RX11) (T := TX11) (N := 79) hx hb hts inB_11 hown hE.1 hP 0 rfl rfl 18 (Nat.le_of_ble_eq_true rfl) (hts _ k_1338) (fun _ h9 => h9) rfl dX11_regiment_100 ?_
          refine tI (y := 0) hq9_v10 ?_
          refine lv_icmp_ge (tgt := 136) hx hb dX11_regiment_103 rfl (fun c11 => ?_) (fun c11 => ?_)
          · skip
            have zc11 : 0 ≤ l1_10.toInt := zMp tc_0 rfl c11
            have hRf10 : progOK (f10 4) (f10 5) (v10 9).toInt.toNat := cp_done hCP hPG (by omega)
            refine lv_iconst (v := 0) hx hb dX11_regiment_136 rfl ?_
            refine lv_istore_n (lv' := [(1, .int 0), (0, .ref y0)]) hx hb dX11_regiment_137 rfl hl (Nat.le_of_ble_eq_true rfl) rfl (fun ls hl => ?_)
            have lp12 : ∀ (n12 : Nat) (l1_12 : Int32) (v12 : Nat → Int32) (f12 : Nat → Nat → Int32) (w12 : Int64) (g12 : Nat → Int64), YI v12 → YC f12 → progOK (f12 4) (f12 5) (v12 9).toInt.toNat → v12 0 = (v2 0) → v12 1 = (v2 1) → v12 2 = (v2 2) → v12 3 = (v2 3) → v12 4 = (v2 4) → v12 5 = (v2 5) → v12 8 = (v2 8) → v12 9 = 0 → v12 10 = (v2 10) → v12 13 = (v2 13) → v12 14 = (v2 14) → v12 15 = (v2 15) → v12 17 = (v2 17) → v12 18 = (v2 18) → v12 24 = (v2 17) → v12 25 = (v2 18) → v12 35 = (v 35) → v12 36 = (v 36) → v12 38 = (v 38) → v12 39 = (v 39) → gsY_X11_regiment_1_L12 NF v2 n12 l1_12 v12 f12 w12 g12 = (gsY_X11_regiment_1 NF v f w g) → ((0 : Int) ≤ l1_12.toInt ∧ l1_12.toInt ≤ 2147483647) → KV [0, 1, 2, 3, 4, 5, 6, 7, 8, 9, 10, 11, 12, 13, 14, 15, 16, 17, 18, 19, 20, 21, 22, 23, 24, 25, 26, 27, 28, 29, 30, 31, 32, 33, 34, 35, 36, 37, 38] v12 v → KF [2, 3, 4, 5, 6, 9, 10, 11, 12, 13, 14, 15, 16, 17, 18, 19, 20, 21, 22, 23, 24, 36] f12 f → f12 2 = (f3 2) → f12 3 = (f3 3) → (2147483647 - l1_12.toInt).toNat < n12 → ∀ (H : Heap) (locs : List Loc) (ls : Array Slot), va_P (dC, dI) vwCl (YW cy y0 r v12 f12 w12 g12) H → va_D A (YW cy y0 r v12 f12 w12 g12) → va_S A s.heap H locs → lv_has ls 2 [(1, .int l1_12), (0, .ref y0)] → W p l e { frames := 9, cells := 0, slots := 0, locals := 232 } s m ([.ref y0] : List Value).toArray below meth c H locs 0 0 Q (F0 m 138 ls []) := by
              intro n12
              induction n12 with
              | zero => intro l1_12 v12 f12 w12 g12 hIv12 hCf12 hRf12 hq0_v12 hq1_v12 hq2_v12 hq3_v12 hq4_v12 hq5_v12 hq8_v12 hq9_v12 hq10_v12 hq13_v12 hq14_v12 hq15_v12 hq17_v12 hq18_v12 hq24_v12 hq25_v12 hq35_v12 hq36_v12 hq38_v12 hq39_v12 hT12 hr1_12 hM_v12 hA_f12 hs2_f12 hs3_f12 hm; exact absurd hm (Nat.not_lt_zero _)
              | succ n12 ih12 =>
                intro l1_12 v12 f12 w12 g12 hIv12 hCf12 hRf12 hq0_v12 hq1_v12 hq2_v12 hq3_v12 hq4_v12 hq5_v12 hq8_v12 hq9_v12 hq10_v12 hq13_v12 hq14_v12 hq15_v12 hq17_v12 hq18_v12 hq24_v12 hq25_v12 hq35_v12 hq36_v12 hq38_v12 hq39_v12 hT12 hr1_12 hM_v12 hA_f12 hs2_f12 hs3_f12 hm12 H locs ls hP hD hS hl
                have hUv12 : (v12 35).toInt + (v12 36).toInt ≤ 40 := hIv12.2
                have zq0_v12 := congrArg Int32.toInt hq0_v12
                try clear zq0_v10
                have zq1_v12 := congrArg Int32.toInt hq1_v12
                try clear zq1_v10
                have zq8_v12 := congrArg Int32.toInt hq8_v12
                try clear zq8_v10
                have zq9_v12 : (v12 9).toInt = 0 := by rw [hq9_v12]; decide
                try clear zq9_v10
                have zq10_v12 := congrArg Int32.toInt hq10_v12
                try clear zq10_v10
                have zq13_v12 := congrArg Int32.toInt hq13_v12
                try clear zq13_v10
                have zq14_v12 := congrArg Int32.toInt hq14_v12
                try clear zq14_v10
                have zq15_v12 := congrArg Int32.toInt hq15_v12
                try clear zq15_v10
                have zq17_v12 := congrArg Int32.toInt hq17_v12
                try clear zq17_v10
                have zq18_v12 := congrArg Int32.toInt hq18_v12
                try clear zq18_v10
                have zq35_v12 := congrArg Int32.toInt hq35_v12
                try clear zq35_v10
                have zq36_v12 := congrArg Int32.toInt hq36_v12
                try clear zq36_v10
                refine lv_iload_n hx hb dX11_regiment_138 rfl (lv_at hl 0 rfl) ?_
                refine lv_aload_n hx hb dX11_regiment_139 rfl (lv_at hl 1 rfl) ?_
                refine va_get (D := (dC, dI)) (ci := 11) (v := .int (v12 24)) (C := RX11) (T := TX11) (N := 79) hx hb hts inB_11 hown hE.1 hP 0 rfl rfl 48 (Nat.le_of_ble_eq_true rfl) (hts _ k_1368) (fun _ h9 => h9) rfl dX11_regiment_140 ?_
                refine tI (y := (v2 17)) hq24_v12 ?_
                have b17_v2 : 0 ≤ (v2 17).toInt ∧ (v2 17).toInt ≤ 6 := Yb_17 hIv2.1
                refine lv_icmp_ge (tgt := 188) hx hb dX11_regiment_143 rfl (fun c13 => ?_) (fun c13 => ?_)
                · skip
                  have zc13 : (v2 17).toInt ≤ l1_12.toInt := zMp rfl rfl c13
                  have rg14 := fb_rng l1_12
                  have rg15 := fb_rng (v2 17)
                  refine lv_iconst (v := 0) hx hb dX11_regiment_188 rfl ?_
                  refine lv_istore_n (lv' := [(1, .int 0), (0, .ref y0)]) hx hb dX11_regiment_189 rfl hl (Nat.le_of_ble_eq_true rfl) rfl (fun ls hl => ?_)
                  have lp16 : ∀ (n16 : Nat) (l1_16 : Int32) (v16 : Nat → Int32) (f16 : Nat → Nat → Int32) (w16 : Int64) (g16 : Nat → Int64), YI v16 → YC f16 → progOK (f16 4) (f16 5) (v16 9).toInt.toNat → v16 0 = (v2 0) → v16 1 = (v2 1) → v16 2 = (v2 2) → v16 3 = (v2 3) → v16 4 = (v2 4) → v16 5 = (v2 5) → v16 8 = (v2 8) → v16 9 = 0 → v16 10 = (v2 10) → v16 13 = (v2 13) → v16 14 = (v2 14) → v16 15 = (v2 15) → v16 17 = (v2 17) → v16 18 = (v2 18) → v16 24 = (v2 17) → v16 25 = (v2 18) → v16 35 = (v 35) → v16 36 = (v 36) → v16 38 = (v 38) → v16 39 = (v 39) → gsY_X11_regiment_1_L16 NF v2 n16 l1_16 v16 f16 w16 g16 = (gsY_X11_regiment_1 NF v f w g) → ((0 : Int) ≤ l1_16.toInt ∧ l1_16.toInt ≤ 2147483647) → KV [0, 1, 2, 3, 4, 5, 6, 7, 8, 9, 10, 11, 12, 13, 14, 15, 16, 17, 18, 19, 20, 21, 22, 23, 24, 25, 26, 27, 28, 29, 30, 31, 32, 33, 34, 35, 36, 37, 38] v16 v → KF [2, 3, 4, 5, 6, 9, 10, 11, 12, 13, 14, 15, 16, 17, 18, 19, 20, 21, 22, 23, 24, 36] f16 f → f16 2 = (f3 2) → f16 3 = (f3 3) → (2147483647 - l1_16.toInt).toNat < n16 → ∀ (H : Heap) (locs : List Loc) (ls : Array Slot), va_P (dC, dI) vwCl (YW cy y0 r v16 f16 w16 g16) H → va_D A (YW cy y0 r v16 f16 w16 g16) → va_S A s.heap H locs → lv_has ls 2 [(1, .int l1_16), (0, .ref y0)] → W p l e { frames := 9, cells := 0, slots := 0, locals := 232 } s m ([.ref y0] : List Value).toArray below meth c H locs 0 0 Q (F0 m 190 ls []) := by
                    intro n16
                    induction n16 with
                    | zero => intro l1_16 v16 f16 w16 g16 hIv16 hCf16 hRf16 hq0_v16 hq1_v16 hq2_v16 hq3_v16 hq4_v16 hq5_v16 hq8_v16 hq9_v16 hq10_v16 hq13_v16 hq14_v16 hq15_v16 hq17_v16 hq18_v16 hq24_v16 hq25_v16 hq35_v16 hq36_v16 hq38_v16 hq39_v16 hT16 hr1_16 hM_v16 hA_f16 hs2_f16 hs3_f16 hm; exact absurd hm (Nat.not_lt_zero _)
                    | succ n16 ih16 =>
                      intro l1_16 v16 f16 w16 g16 hIv16 hCf16 hRf16 hq0_v16 hq1_v16 hq2_v16 hq3_v16 hq4_v16 hq5_v16 hq8_v16 hq9_v16 hq10_v16 hq13_v16 hq14_v16 hq15_v16 hq17_v16 hq18_v16 hq24_v16 hq25_v16 hq35_v16 hq36_v16 hq38_v16 hq39_v16 hT16 hr1_16 hM_v16 hA_f16 hs2_f16 hs3_f16 hm16 H locs ls hP hD hS hl
                      have hUv16 : (v16 35).toInt + (v16 36).toInt ≤ 40 := hIv16.2
                      have zq0_v16 := congrArg Int32.toInt hq0_v16
                      try clear zq0_v12
                      have zq1_v16 := congrArg Int32.toInt hq1_v16
                      try clear zq1_v12
                      have zq8_v16 := congrArg Int32.toInt hq8_v16
                      try clear zq8_v12
                      have zq9_v16 : (v16 9).toInt = 0 := by rw [hq9_v16]; decide
                      try clear zq9_v12
                      have zq10_v16 := congrArg Int32.toInt hq10_v16
                      try clear zq10_v12
                      have zq13_v16 := congrArg Int32.toInt hq13_v16
                      try clear zq13_v12
                      have zq14_v16 := congrArg Int32.toInt hq14_v16
                      try clear zq14_v12
                      have zq15_v16 := congrArg Int32.toInt hq15_v16
                      try clear zq15_v12
                      have zq17_v16 := congrArg Int32.toInt hq17_v16
                      try clear zq17_v12
                      have zq18_v16 := congrArg Int32.toInt hq18_v16
                      try clear zq18_v12
                      have zq35_v16 := congrArg Int32.toInt hq35_v16
                      try clear zq35_v12
                      have zq36_v16 := congrArg Int32.toInt hq36_v16
                      try clear zq36_v12
                      refine lv_iload_n hx hb dX11_regiment_190 rfl (lv_at hl 0 rfl) ?_
                      refine lv_aload_n hx hb dX11_regiment_191 rfl (lv_at hl 1 rfl) ?_
                      refine va_get (D := (dC, dI)) (ci := 11) (v := .int (v16 25)) (C := RX11) (T := TX11) (N := 79) hx hb hts inB_11 hown hE.1 hP 0 rfl rfl 49 (Nat.le_of_ble_eq_true rfl) (hts _ k_1369) (fun _ h9 => h9) rfl dX11_regiment_192 ?_
                      refine tI (y := (v2 18)) hq25_v16 ?_
                      have b18_v2 : 0 ≤ (v2 18).toInt ∧ (v2 18).toInt ≤ 6 := Yb_18 hIv2.1
                      refine lv_icmp_ge (tgt := 252) hx hb dX11_regiment_195 rfl (fun c17 => ?_) (fun c17 => ?_)
                      · skip
                        have zc17 : (v2 18).toInt ≤ l1_16.toInt := zMp rfl rfl c17
                        have rg18 := fb_rng l1_16
                        have rg19 := fb_rng (v2 18)
                        refine lv_aload_n hx hb dX11_regiment_252 rfl (lv_at hl 1 rfl) ?_
                        refine cbVv (n := 0) (rest := []) hx hb hml hown hts hE hP hD hS hA (sY_X11_begin_1 NF l dC dI cy y0 r  v16 f16 w16 g16 hIv16 hCf16 hRf16 ) k_1716 k_1718 k_68 k_114 k_1719 hd_yX11_begin ⟨Nat.le_of_ble_eq_true rfl, Nat.le_of_ble_eq_true rfl⟩ 0 11 rfl rfl (rfl) hl.1 rfl (Nat.le_of_ble_eq_true rfl) dX11_regiment_253 (fun u H locs hw hP hD hS => ?_)
                        obtain ⟨hG20, hw⟩ := hw
                        obtain ⟨v21, f22, w23, g24⟩ := u
                        obtain ⟨kV_v21, kF_f22, hIv21, hCf22, hRf22, hk0_v21, hk1_v21, hk2_v21, hk3_v21, hk4_v21, hk5_v21, hk8_v21, hk9_v21, hk10_v21, hk13_v21, hk14_v21, hk15_v21, hk17_v21, hk18_v21, hk24_v21, hk25_v21, hk35_v21, hk36_v21, hk38_v21, hk39_v21⟩ := hw
                        have hM_v21 : KV [0, 1, 2, 3, 4, 5, 6, 7, 8, 9, 10, 11, 12, 13, 14, 15, 16, 17, 18, 19, 20, 21, 22, 23, 24, 25, 26, 27, 28, 29, 30, 31, 32, 33, 34, 35, 36, 37, 38] v21 v := KV.tr kV_v21 hM_v16 (by decide +kernel)
                        have hA_f22 : KF [2, 3, 4, 5, 6, 9, 10, 11, 12, 13, 14, 15, 16, 17, 18, 19, 20, 21, 22, 23, 24, 36] f22 f := KF.tr kF_f22 hA_f16 (by decide +kernel)
                        have hP : va_P (dC, dI) vwCl (YW cy y0 r v21 f22 w23 g24) H := hP
                        have hD : va_D A (YW cy y0 r v21 f22 w23 g24) := hD
                        have hUv21 : (v21 35).toInt + (v21 36).toInt ≤ 40 := hIv21.2
                        have hq0_v21 : v21 0 = (v2 0) := hk0_v21.trans hq0_v16
                        have zq0_v21 := congrArg Int32.toInt hq0_v21
                        try clear zq0_v16
                        have hq1_v21 : v21 1 = (v2 1) := hk1_v21.trans hq1_v16
                        have zq1_v21 := congrArg Int32.toInt hq1_v21
                        try clear zq1_v16
                        have hq2_v21 : v21 2 = (v2 2) := hk2_v21.trans hq2_v16
                        have hq3_v21 : v21 3 = (v2 3) := hk3_v21.trans hq3_v16
                        have hq4_v21 : v21 4 = (v2 4) := hk4_v21.trans hq4_v16
                        have hq5_v21 : v21 5 = (v2 5) := hk5_v21.trans hq5_v16
                        have hq8_v21 : v21 8 = (v2 8) := hk8_v21.trans hq8_v16
                        have zq8_v21 := congrArg Int32.toInt hq8_v21
                        try clear zq8_v16
                        have hq9_v21 : v21 9 = 0 := hk9_v21.trans hq9_v16
                        have zq9_v21 : (v21 9).toInt = 0 := by rw [hq9_v21]; decide
                        try clear zq9_v16
                        have hq10_v21 : v21 10 = (v2 10) := hk10_v21.trans hq10_v16
                        have zq10_v21 := congrArg Int32.toInt hq10_v21
                        try clear zq10_v16
                        have hq13_v21 : v21 13 = (v2 13) := hk13_v21.trans hq13_v16
                        have zq13_v21 := congrArg Int32.toInt hq13_v21
                        try clear zq13_v16
                        have hq14_v21 : v21 14 = (v2 14) := hk14_v21.trans hq14_v16
                        have zq14_v21 := congrArg Int32.toInt hq14_v21
                        try clear zq14_v16
                        have hq15_v21 : v21 15 = (v2 15) := hk15_v21.trans hq15_v16
                        have zq15_v21 := congrArg Int32.toInt hq15_v21
                        try clear zq15_v16
                        have hq17_v21 : v21 17 = (v2 17) := hk17_v21.trans hq17_v16
                        have zq17_v21 := congrArg Int32.toInt hq17_v21
                        try clear zq17_v16
                        have hq18_v21 : v21 18 = (v2 18) := hk18_v21.trans hq18_v16
                        have zq18_v21 := congrArg Int32.toInt hq18_v21
                        try clear zq18_v16
                        have hq24_v21 : v21 24 = (v2 17) := hk24_v21.trans hq24_v16
                        have hq25_v21 : v21 25 = (v2 18) := hk25_v21.trans hq25_v16
                        have hq35_v21 : v21 35 = (v 35) := hk35_v21.trans hq35_v16
                        have zq35_v21 := congrArg Int32.toInt hq35_v21
                        try clear zq35_v16
                        have hq36_v21 : v21 36 = (v 36) := hk36_v21.trans hq36_v16
                        have zq36_v21 := congrArg Int32.toInt hq36_v21
                        try clear zq36_v16
                        have hq39_v21 : v21 39 = (v 39) := hk39_v21.trans hq39_v16
                        refine lv_aload_n hx hb dX11_regiment_256 rfl (lv_at hl 1 rfl) ?_
                        refine va_get (D := (dC, dI)) (ci := 11) (v := .ref (r 60)) (C := RX11) (T := TX11) (N := 79) hx hb hts inB_11 hown hE.1 hP 0 rfl rfl 60 (Nat.le_of_ble_eq_true rfl) (hts _ k_1380) (fun _ h9 => h9) rfl dX11_regiment_257 ?_
                        refine lv_bipush (v := 38) hx hb dX11_regiment_260 rfl ?_
                        refine lv_aload_n hx hb dX11_regiment_262 rfl (lv_at hl 1 rfl) ?_
                        refine va_get (D := (dC, dI)) (ci := 11) (v := .int (v21 23)) (C := RX11) (T := TX11) (N := 79) hx hb hts inB_11 hown hE.1 hP 0 rfl rfl 47 (Nat.le_of_ble_eq_true rfl) (hts _ k_1367) (fun _ h9 => h9) rfl dX11_regiment_263 ?_
                        refine stI hx hb hE hP hD hS 25 rfl (vp_in_nI (n := 38) (by decide) (by decide)) rfl dX11_regiment_266 (fun H locs hP hD hS => ?_)
                        obtain ⟨f25, ef25, hP, hD⟩ : ∃ fz9, fz9 = upd2 f22 24 (upd (f22 24) (38 : Int32).toNatClampNeg (v21 23)) ∧ va_P (dC, dI) vwCl (YW cy y0 r v21 fz9 w23 g24) H ∧ va_D A (YW cy y0 r v21 fz9 w23 g24) := ⟨_, rfl, hP, hD⟩
                        have hCf25 : YC f25 := by rw [ef25]; exact ⟨hCf22.1, (wear_st hCf22.2.1 (by show 38 % 39 < 6 ∨ 12 ≤ 38 % 39 ∨ (-1 ≤ (v21 23).toInt ∧ (v21 23).toInt ≤ 5); omega)), hCf22.2.2.1, hCf22.2.2.2.1, hCf22.2.2.2.2.1, hCf22.2.2.2.2.2⟩
                        have hRf25 : progOK (f25 4) (f25 5) (v21 9).toInt.toNat := by rw [ef25]; exact hRf22
                        have hA_f25 : KF [2, 3, 4, 5, 6, 9, 10, 11, 12, 13, 14, 15, 16, 17, 18, 19, 20, 21, 22, 23, 24, 36] f25 f := by rw [ef25]; exact KF.up hA_f22 rfl
                        refine lv_aload_n hx hb dX11_regiment_267 rfl (lv_at hl 1 rfl) ?_
                        refine cbVv (n := 0) (rest := []) hx hb hml hown hts hE hP hD hS hA (sY_X11_keepAir_1 NF l dC dI cy y0 r  v21 f25 w23 g24 hIv21 hCf25 hRf25 ) k_1720 k_1722 k_69 k_114 k_1723 hd_yX11_keepAir ⟨Nat.le_of_ble_eq_true rfl, Nat.le_of_ble_eq_true rfl⟩ 0 11 rfl rfl (rfl) hl.1 rfl (Nat.le_of_ble_eq_true rfl) dX11_regiment_268 (fun u H locs hw hP hD hS => ?_)
                        obtain ⟨hG26, hw⟩ := hw
                        obtain ⟨v27, f28, w29, g30⟩ := u
                        obtain ⟨kV_v27, kF_f28, hIv27, hCf28, hRf28, hk0_v27, hk1_v27, hk2_v27, hk3_v27, hk4_v27, hk5_v27, hk8_v27, hk9_v27, hk10_v27, hk13_v27, hk14_v27, hk15_v27, hk17_v27, hk18_v27, hk24_v27, hk25_v27, hk35_v27, hk36_v27, hk38_v27, hk39_v27⟩ := hw
                        have hM_v27 : KV [0, 1, 2, 3, 4, 5, 6, 7, 8, 9, 10, 11, 12, 13, 14, 15, 16, 17, 18, 19, 20, 21, 22, 23, 24, 25, 26, 27, 28, 29, 30, 31, 32, 33, 34, 35, 36, 37, 38] v27 v := KV.tr kV_v27 hM_v21 (by decide +kernel)
                        have hA_f28 : KF [2, 3, 4, 5, 6, 9, 10, 11, 12, 13, 14, 15, 16, 17, 18, 19, 20, 21, 22, 23, 24, 36] f28 f := KF.tr kF_f28 hA_f25 (by decide +kernel)
                        have hP : va_P (dC, dI) vwCl (YW cy y0 r v27 f28 w29 g30) H := hP
                        have hD : va_D A (YW cy y0 r v27 f28 w29 g30) := hD
                        have hUv27 : (v27 35).toInt + (v27 36).toInt ≤ 40 := hIv27.2
                        have hq0_v27 : v27 0 = (v2 0) := hk0_v27.trans hq0_v21
                        have zq0_v27 := congrArg Int32.toInt hq0_v27
                        try clear zq0_v21
                        have hq1_v27 : v27 1 = (v2 1) := hk1_v27.trans hq1_v21
                        have zq1_v27 := congrArg Int32.toInt hq1_v27
                        try clear zq1_v21
                        have hq2_v27 : v27 2 = (v2 2) := hk2_v27.trans hq2_v21
                        have hq3_v27 : v27 3 = (v2 3) := hk3_v27.trans hq3_v21
                        have hq4_v27 : v27 4 = (v2 4) := hk4_v27.trans hq4_v21
                        have hq5_v27 : v27 5 = (v2 5) := hk5_v27.trans hq5_v21
                        have hq8_v27 : v27 8 = (v2 8) := hk8_v27.trans hq8_v21
                        have zq8_v27 := congrArg Int32.toInt hq8_v27
                        try clear zq8_v21
                        have hq9_v27 : v27 9 = 0 := hk9_v27.trans hq9_v21
                        have zq9_v27 : (v27 9).toInt = 0 := by rw [hq9_v27]; decide
                        try clear zq9_v21
                        have hq10_v27 : v27 10 = (v2 10) := hk10_v27.trans hq10_v21
                        have zq10_v27 := congrArg Int32.toInt hq10_v27
                        try clear zq10_v21
                        have hq13_v27 : v27 13 = (v2 13) := hk13_v27.trans hq13_v21
                        have zq13_v27 := congrArg Int32.toInt hq13_v27
                        try clear zq13_v21
                        have hq14_v27 : v27 14 = (v2 14) := hk14_v27.trans hq14_v21
                        have zq14_v27 := congrArg Int32.toInt hq14_v27
                        try clear zq14_v21
                        have hq15_v27 : v27 15 = (v2 15) := hk15_v27.trans hq15_v21
                        have zq15_v27 := congrArg Int32.toInt hq15_v27
                        try clear zq15_v21
                        have hq17_v27 : v27 17 = (v2 17) := hk17_v27.trans hq17_v21
                        have zq17_v27 := congrArg Int32.toInt hq17_v27
                        try clear zq17_v21
                        have hq18_v27 : v27 18 = (v2 18) := hk18_v27.trans hq18_v21
                        have zq18_v27 := congrArg Int32.toInt hq18_v27
                        try clear zq18_v21
                        have hq24_v27 : v27 24 = (v2 17) := hk24_v27.trans hq24_v21
                        have hq25_v27 : v27 25 = (v2 18) := hk25_v27.trans hq25_v21
                        have hq35_v27 : v27 35 = (v 35) := hk35_v27.trans hq35_v21
                        have zq35_v27 := congrArg Int32.toInt hq35_v27
                        try clear zq35_v21
                        have hq36_v27 : v27 36 = (v 36) := hk36_v27.trans hq36_v21
                        have zq36_v27 := congrArg Int32.toInt hq36_v27
                        try clear zq36_v21
                        have hq39_v27 : v27 39 = (v 39) := hk39_v27.trans hq39_v21
                        refine lv_aload_n hx hb dX11_regiment_271 rfl (lv_at hl 1 rfl) ?_
                        refine lv_iconst (v := 0) hx hb dX11_regiment_272 rfl ?_
                        refine va_put (D := (dC, dI)) (ci := 11) (v := .int 0) (ty := tyX11 62) (C := RX11) (T := TX11) (N := 79) hx hb hts inB_11 tyX11 tyX11_ok nmX11 hown hE.1 hP hD hS 0 rfl rfl 62 (Nat.le_of_ble_eq_true rfl) (hts _ k_1382) (fun _ h9 => h9) rfl (tyX11_ok 62 (Nat.le_of_ble_eq_true rfl)) rfl rfl (Nat.le_of_ble_eq_true rfl) dX11_regiment_273 (fun H locs hP hD hS => ?_)
                        have hP : va_P (dC, dI) vwCl (YW cy y0 r (upd v27 35 0) f28 w29 g30) H := hP
                        have hD : va_D A (YW cy y0 r (upd v27 35 0) f28 w29 g30) := hD
                        refine lv_aload_n hx hb dX11_regiment_276 rfl (lv_at hl 1 rfl) ?_
                        refine lv_iconst (v := 0) hx hb dX11_regiment_277 rfl ?_
                        refine va_put (D := (dC, dI)) (ci := 11) (v := .int 0) (ty := tyX11 63) (C := RX11) (T := TX11) (N := 79) hx hb hts inB_11 tyX11 tyX11_ok nmX11 hown hE.1 hP hD hS 0 rfl rfl 63 (Nat.le_of_ble_eq_true rfl) (hts _ k_1383) (fun _ h9 => h9) rfl (tyX11_ok 63 (Nat.le_of_ble_eq_true rfl)) rfl rfl (Nat.le_of_ble_eq_true rfl) dX11_regiment_278 (fun H locs hP hD hS => ?_)
                        have hP : va_P (dC, dI) vwCl (YW cy y0 r (upd (upd v27 35 0) 36 0) f28 w29 g30) H := hP
                        have hD : va_D A (YW cy y0 r (upd (upd v27 35 0) 36 0) f28 w29 g30) := hD
                        refine lv_aload_n hx hb dX11_regiment_281 rfl (lv_at hl 1 rfl) ?_
                        refine lv_iconst (v := 0) hx hb dX11_regiment_282 rfl ?_
                        refine va_put (D := (dC, dI)) (ci := 11) (v := .int 0) (ty := tyX11 73) (C := RX11) (T := TX11) (N := 79) hx hb hts inB_11 tyX11 tyX11_ok nmX11 hown hE.1 hP hD hS 0 rfl rfl 73 (Nat.le_of_ble_eq_true rfl) (hts _ k_1393) (fun _ h9 => h9) rfl (tyX11_ok 73 (Nat.le_of_ble_eq_true rfl)) rfl rfl (Nat.le_of_ble_eq_true rfl) dX11_regiment_283 (fun H locs hP hD hS => ?_)
                        have hP : va_P (dC, dI) vwCl (YW cy y0 r (upd (upd (upd v27 35 0) 36 0) 38 0) f28 w29 g30) H := hP
                        have hD : va_D A (YW cy y0 r (upd (upd (upd v27 35 0) 36 0) 38 0) f28 w29 g30) := hD
                        refine lv_aload_n hx hb dX11_regiment_286 rfl (lv_at hl 1 rfl) ?_
                        refine lv_iconst (v := 0) hx hb dX11_regiment_287 rfl ?_
                        refine va_put (D := (dC, dI)) (ci := 11) (v := .int 0) (ty := tyX11 67) (C := RX11) (T := TX11) (N := 79) hx hb hts inB_11 tyX11 tyX11_ok nmX11 hown hE.1 hP hD hS 0 rfl rfl 67 (Nat.le_of_ble_eq_true rfl) (hts _ k_1387) (fun _ h9 => h9) rfl (tyX11_ok 67 (Nat.le_of_ble_eq_true rfl)) rfl rfl (Nat.le_of_ble_eq_true rfl) dX11_regiment_288 (fun H locs hP hD hS => ?_)
                        have hP : va_P (dC, dI) vwCl (YW cy y0 r (upd (upd (upd (upd v27 35 0) 36 0) 38 0) 37 0) f28 w29 g30) H := hP
                        have hD : va_D A (YW cy y0 r (upd (upd (upd (upd v27 35 0) 36 0) 38 0) 37 0) f28 w29 g30) := hD
                        refine lv_iconst (v := 0) hx hb dX11_regiment_291 rfl ?_
                        refine lv_istore_n (lv' := [(1, .int 0), (0, .ref y0)]) hx hb dX11_regiment_292 rfl hl (Nat.le_of_ble_eq_true rfl) rfl (fun ls hl => ?_)
                        have lp31 : ∀ (n31 : Nat) (l1_31 : Int32) (v31 : Nat → Int32) (f31 : Nat → Nat → Int32) (w31 : Int64) (g31 : Nat → Int64), YI v31 → YC f31 → progOK (f31 4) (f31 5) (v31 9).toInt.toNat → v31 0 = (v2 0) → v31 1 = (v2 1) → v31 2 = (v2 2) → v31 3 = (v2 3) → v31 4 = (v2 4) → v31 5 = (v2 5) → v31 8 = (v2 8) → v31 9 = 0 → v31 10 = (v2 10) → v31 13 = (v2 13) → v31 14 = (v2 14) → v31 15 = (v2 15) → v31 17 = (v2 17) → v31 18 = (v2 18) → v31 24 = (v2 17) → v31 25 = (v2 18) → v31 35 = 0 → v31 36 = 0 → v31 38 = 0 → v31 39 = (v 39) → gsY_X11_regiment_1_L31 NF v2 n31 l1_31 v31 f31 w31 g31 = (gsY_X11_regiment_1 NF v f w g) → ((0 : Int) ≤ l1_31.toInt ∧ l1_31.toInt ≤ 2147483647) → KV [0, 1, 2, 3, 4, 5, 6, 7, 8, 9, 10, 11, 12, 13, 14, 15, 16, 17, 18, 19, 20, 21, 22, 23, 24, 25, 26, 27, 28, 29, 30, 31, 32, 33, 34, 35, 36, 37, 38] v31 v → KF [2, 3, 4, 5, 6, 9, 10, 11, 12, 13, 14, 15, 16, 17, 18, 19, 20, 21, 22, 23, 24, 36] f31 f → f31 2 = (f28 2) → f31 3 = (f28 3) → f31 4 = (f28 4) → f31 5 = (f28 5) → (2147483647 - l1_31.toInt).toNat < n31 → ∀ (H : Heap) (locs : List Loc) (ls : Array Slot), va_P (dC, dI) vwCl (YW cy y0 r v31 f31 w31 g31) H → va_D A (YW cy y0 r v31 f31 w31 g31) → va_S A s.heap H locs → lv_has ls 2 [(1, .int l1_31), (0, .ref y0)] → W p l e { frames := 9, cells := 0, slots := 0, locals := 232 } s m ([.ref y0] : List Value).toArray below meth c H locs 0 0 Q (F0 m 293 ls []) := by
                          intro n31
                          induction n31 with
                          | zero => intro l1_31 v31 f31 w31 g31 hIv31 hCf31 hRf31 hq0_v31 hq1_v31 hq2_v31 hq3_v31 hq4_v31 hq5_v31 hq8_v31 hq9_v31 hq10_v31 hq13_v31 hq14_v31 hq15_v31 hq17_v31 hq18_v31 hq24_v31 hq25_v31 hq35_v31 hq36_v31 hq38_v31 hq39_v31 hT31 hr1_31 hM_v31 hA_f31 hs2_f31 hs3_f31 hs4_f31 hs5_f31 hm; exact absurd hm (Nat.not_lt_zero _)
                          | succ n31 ih31 =>
                            intro l1_31 v31 f31 w31 g31 hIv31 hCf31 hRf31 hq0_v31 hq1_v31 hq2_v31 hq3_v31 hq4_v31 hq5_v31 hq8_v31 hq9_v31 hq10_v31 hq13_v31 hq14_v31 hq15_v31 hq17_v31 hq18_v31 hq24_v31 hq25_v31 hq35_v31 hq36_v31 hq38_v31 hq39_v31 hT31 hr1_31 hM_v31 hA_f31 hs2_f31 hs3_f31 hs4_f31 hs5_f31 hm31 H locs ls hP hD hS hl
                            have zq0_v31 := congrArg Int32.toInt hq0_v31
                            try clear zq0_v27
                            try clear zq1_v27
                            try clear zq8_v27
                            try clear zq9_v27
                            try clear zq10_v27
                            try clear zq13_v27
                            try clear zq14_v27
                            try clear zq15_v27
                            try clear zq17_v27
                            try clear zq18_v27
                            try clear zq35_v27
                            try clear zq36_v27
                            refine lv_iload_n hx hb dX11_regiment_293 rfl (lv_at hl 0 rfl) ?_
                            refine lv_iconst (v := 3) hx hb dX11_regiment_294 rfl ?_
                            refine lv_icmp_ge (tgt := 311) hx hb dX11_regiment_295 rfl (fun c32 => ?_) (fun c32 => ?_)
                            · skip
                              refine lv_aload_n hx hb dX11_regiment_311 rfl (lv_at hl 1 rfl) ?_
                              refine va_get (D := (dC, dI)) (ci := 11) (v := .int (v31 24)) (C := RX11) (T := TX11) (N := 79) hx hb hts inB_11 hown hE.1 hP 0 rfl rfl 48 (Nat.le_of_ble_eq_true rfl) (hts _ k_1368) (fun _ h9 => h9) rfl dX11_regiment_312 ?_
                              refine tI (y := (v2 17)) hq24_v31 ?_
                              exact ret (v2 17) (v31, f31, w31, g31) _ _ _ _ _ _ rfl ⟨(hT31.symm.trans (gsY_X11_regiment_1_q0 c32)), hM_v31, hA_f31, hIv31, hCf31, hRf31, hq39_v31, (show (v31 0).toInt = 0 from om_484 pv6 zq0_v31), (Or.inl (by rw [hG1]; exact c8))⟩ hP hD hS dX11_regiment_315 (Nat.le_refl _) (Nat.le_refl _)
                            · skip
                              have zc32 : ¬ (3 ≤ l1_31.toInt) := zMn tc_3 rfl c32
                              refine lv_aload_n hx hb dX11_regiment_298 rfl (lv_at hl 1 rfl) ?_
                              refine va_get (D := (dC, dI)) (ci := 11) (v := .ref (r 77)) (C := RX11) (T := TX11) (N := 79) hx hb hts inB_11 hown hE.1 hP 0 rfl rfl 77 (Nat.le_of_ble_eq_true rfl) (hts _ k_1397) (fun _ h9 => h9) rfl dX11_regiment_299 ?_
                              refine lv_iload_n hx hb dX11_regiment_302 rfl (lv_at hl 0 rfl) ?_
                              refine lv_iconst (v := 0) hx hb dX11_regiment_303 rfl ?_
                              refine stZ hx hb hE hP hD hS 37 rfl (vpI (k := 3) rfl (show 0 ≤ l1_31.toInt from om_39 hr1_31) (show l1_31.toInt < 3 from om_485 zc32)) rfl dX11_regiment_304 (fun H locs hP hD hS => ?_)
                              obtain ⟨f33, ef33, hP, hD⟩ : ∃ fz9, fz9 = upd2 f31 36 (upd (f31 36) l1_31.toNatClampNeg (vp_nar .boolean 0)) ∧ va_P (dC, dI) vwCl (YW cy y0 r v31 fz9 w31 g31) H ∧ va_D A (YW cy y0 r v31 fz9 w31 g31) := ⟨_, rfl, hP, hD⟩
                              have hCf33 : YC f33 := by rw [ef33]; exact hCf31
                              have hRf33 : progOK (f33 4) (f33 5) (v31 9).toInt.toNat := by rw [ef33]; exact hRf31
                              have hs2_f33 : f33 2 = (f28 2) := by rw [ef33]; exact hs2_f31
                              have hs3_f33 : f33 3 = (f28 3) := by rw [ef33]; exact hs3_f31
                              have hs4_f33 : f33 4 = (f28 4) := by rw [ef33]; exact hs4_f31
                              have hs5_f33 : f33 5 = (f28 5) := by rw [ef33]; exact hs5_f31
                              have hA_f33 : KF [2, 3, 4, 5, 6, 9, 10, 11, 12, 13, 14, 15, 16, 17, 18, 19, 20, 21, 22, 23, 24, 36] f33 f := by rw [ef33]; exact KF.up hA_f31 rfl
                              obtain ⟨t34, et34⟩ : ∃ y : Int32, y = l1_31 + 1 := ⟨_, rfl⟩
                              have zt34 : t34.toInt = l1_31.toInt + 1 := (congrArg Int32.toInt et34).trans (add_i rfl tc_1 (om_41 hr1_31) (om_486 zc32))
                              refine lv_iinc (v := t34) (lv' := [(1, .int t34), (0, .ref y0)]) hx hb dX11_regiment_305 hl (k := 0) rfl et34.symm (Nat.le_of_ble_eq_true rfl) rfl (fun ls hl => ?_)
                              refine lv_goto (tgt := 293) hx hb dX11_regiment_308 rfl ?_
                              have rg36 := fb_rng t34
                              exact ih31 t34 v31 f33 w31 g31 hIv31 hCf33 hRf33 hq0_v31 hq1_v31 hq2_v31 hq3_v31 hq4_v31 hq5_v31 hq8_v31 hq9_v31 hq10_v31 hq13_v31 hq14_v31 hq15_v31 hq17_v31 hq18_v31 hq24_v31 hq25_v31 hq35_v31 hq36_v31 hq38_v31 hq39_v31 ((gsY_X11_regiment_1_q1 c32 ef33 et34).symm.trans hT31) ⟨show (0 : Int) ≤ t34.toInt from om_43 hr1_31 zt34, show t34.toInt ≤ (2147483647 : Int) from om_44 rg36⟩ hM_v31 hA_f33 hs2_f33 hs3_f33 hs4_f33 hs5_f33 (show (2147483647 - t34.toInt).toNat < n31 from om_33 hm31 zt34 rg36) _ _ _ hP hD hS (lv_sub hl [0, 1] rfl)
                        exact lp31 (4294967296 + NF) 0 (upd (upd (upd (upd v27 35 0) 36 0) 38 0) 37 0) f28 w29 g30 ⟨(Yu_37 (x := 0) (Yu_38 (x := 0) (Yu_36 (x := 0) (Yu_35 (x := 0) hIv27.1 (by decide) (by decide)) (by decide) (by decide)) (by decide) (by decide)) (by decide) (by decide)), (show (0 : Int32).toInt + (0 : Int32).toInt ≤ 40 from om_487 tc_0)⟩ hCf28 hRf28 hq0_v27 hq1_v27 hq2_v27 hq3_v27 hq4_v27 hq5_v27 hq8_v27 hq9_v27 hq10_v27 hq13_v27 hq14_v27 hq15_v27 hq17_v27 hq18_v27 hq24_v27 hq25_v27 rfl rfl rfl hq39_v27 ((gsY_X11_regiment_1_q2 c17 hG20 ef25 hG26).symm.trans hT16) ⟨by decide, by decide⟩ (KV.up (j := 37) (x := 0) (KV.up (j := 38) (x := 0) (KV.up (j := 36) (x := 0) (KV.up (j := 35) (x := 0) hM_v27 (by decide +kernel)) (by decide +kernel)) (by decide +kernel)) (by decide +kernel)) hA_f28 rfl rfl rfl rfl (by have q1 : (0 : Int32).toInt = 0 := (by decide); have qc0 : (0 : Int32).toInt = 0 := (by decide); show (2147483647 - (0 : Int32).toInt).toNat < 4294967296 + NF; omega) _ _ _ hP hD hS (lv_sub hl [0, 1] rfl)
                      · skip
                        have zc17 : ¬ ((v2 18).toInt ≤ l1_16.toInt) := zMn rfl rfl c17
                        refine lv_aload_n hx hb dX11_regiment_198 rfl (lv_at hl 1 rfl) ?_
                        refine va_get (D := (dC, dI)) (ci := 11) (v := .ref (r 37)) (C := RX11) (T := TX11) (N := 79) hx hb hts inB_11 hown hE.1 hP 0 rfl rfl 37 (Nat.le_of_ble_eq_true rfl) (hts _ k_1357) (fun _ h9 => h9) rfl dX11_regiment_199 ?_
                        refine lv_iload_n hx hb dX11_regiment_202 rfl (lv_at hl 0 rfl) ?_
                        refine lv_aload_n hx hb dX11_regiment_203 rfl (lv_at hl 1 rfl) ?_
                        refine va_get (D := (dC, dI)) (ci := 11) (v := .ref (r 30)) (C := RX11) (T := TX11) (N := 79) hx hb hts inB_11 hown hE.1 hP 0 rfl rfl 30 (Nat.le_of_ble_eq_true rfl) (hts _ k_1350) (fun _ h9 => h9) rfl dX11_regiment_204 ?_
                        refine lv_iload_n hx hb dX11_regiment_207 rfl (lv_at hl 0 rfl) ?_
                        refine ldI hx hb hE hP 13 rfl (vpI (k := 6) rfl (show 0 ≤ l1_16.toInt from om_39 hr1_16) (show l1_16.toInt < 6 from om_460 b18_v2 zc17)) rfl rfl dX11_regiment_208 ?_
                        refine lv_topi (fun t39 et39 => ?_)
                        refine stI hx hb hE hP hD hS 20 rfl (vpI (k := 6) rfl (show 0 ≤ l1_16.toInt from om_39 hr1_16) (show l1_16.toInt < 6 from om_460 b18_v2 zc17)) rfl dX11_regiment_209 (fun H locs hP hD hS => ?_)
                        obtain ⟨f40, ef40, hP, hD⟩ : ∃ fz9, fz9 = upd2 f16 19 (upd (f16 19) l1_16.toNatClampNeg t39) ∧ va_P (dC, dI) vwCl (YW cy y0 r v16 fz9 w16 g16) H ∧ va_D A (YW cy y0 r v16 fz9 w16 g16) := ⟨_, rfl, hP, hD⟩
                        have hCf40 : YC f40 := by rw [ef40]; exact hCf16
                        have hRf40 : progOK (f40 4) (f40 5) (v16 9).toInt.toNat := by rw [ef40]; exact hRf16
                        have hs2_f40 : f40 2 = (f3 2) := by rw [ef40]; exact hs2_f16
                        have hs3_f40 : f40 3 = (f3 3) := by rw [ef40]; exact hs3_f16
                        have hA_f40 : KF [2, 3, 4, 5, 6, 9, 10, 11, 12, 13, 14, 15, 16, 17, 18, 19, 20, 21, 22, 23, 24, 36] f40 f := by rw [ef40]; exact KF.up hA_f16 rfl
                        refine lv_aload_n hx hb dX11_regiment_210 rfl (lv_at hl 1 rfl) ?_
                        refine va_get (D := (dC, dI)) (ci := 11) (v := .ref (r 38)) (C := RX11) (T := TX11) (N := 79) hx hb hts inB_11 hown hE.1 hP 0 rfl rfl 38 (Nat.le_of_ble_eq_true rfl) (hts _ k_1358) (fun _ h9 => h9) rfl dX11_regiment_211 ?_
                        refine lv_iload_n hx hb dX11_regiment_214 rfl (lv_at hl 0 rfl) ?_
                        refine lv_aload_n hx hb dX11_regiment_215 rfl (lv_at hl 1 rfl) ?_
                        refine va_get (D := (dC, dI)) (ci := 11) (v := .ref (r 31)) (C := RX11) (T := TX11) (N := 79) hx hb hts inB_11 hown hE.1 hP 0 rfl rfl 31 (Nat.le_of_ble_eq_true rfl) (hts _ k_1351) (fun _ h9 => h9) rfl dX11_regiment_216 ?_
                        refine lv_iload_n hx hb dX11_regiment_219 rfl (lv_at hl 0 rfl) ?_
                        refine ldI hx hb hE hP 14 rfl (vpI (k := 6) rfl (show 0 ≤ l1_16.toInt from om_39 hr1_16) (show l1_16.toInt < 6 from om_460 b18_v2 zc17)) rfl rfl dX11_regiment_220 ?_
                        refine lv_topi (fun t41 et41 => ?_)
                        refine stI hx hb hE hP hD hS 21 rfl (vpI (k := 6) rfl (show 0 ≤ l1_16.toInt from om_39 hr1_16) (show l1_16.toInt < 6 from om_460 b18_v2 zc17)) rfl dX11_regiment_221 (fun H locs hP hD hS => ?_)
                        obtain ⟨f42, ef42, hP, hD⟩ : ∃ fz9, fz9 = upd2 f40 20 (upd (f40 20) l1_16.toNatClampNeg t41) ∧ va_P (dC, dI) vwCl (YW cy y0 r v16 fz9 w16 g16) H ∧ va_D A (YW cy y0 r v16 fz9 w16 g16) := ⟨_, rfl, hP, hD⟩
                        have hCf42 : YC f42 := by rw [ef42]; exact hCf40
                        have hRf42 : progOK (f42 4) (f42 5) (v16 9).toInt.toNat := by rw [ef42]; exact hRf40
                        have hs2_f42 : f42 2 = (f3 2) := by rw [ef42]; exact hs2_f40
                        have hs3_f42 : f42 3 = (f3 3) := by rw [ef42]; exact hs3_f40
                        have hA_f42 : KF [2, 3, 4, 5, 6, 9, 10, 11, 12, 13, 14, 15, 16, 17, 18, 19, 20, 21, 22, 23, 24, 36] f42 f := by rw [ef42]; exact KF.up hA_f40 rfl
                        refine lv_aload_n hx hb dX11_regiment_222 rfl (lv_at hl 1 rfl) ?_
                        refine va_get (D := (dC, dI)) (ci := 11) (v := .ref (r 39)) (C := RX11) (T := TX11) (N := 79) hx hb hts inB_11 hown hE.1 hP 0 rfl rfl 39 (Nat.le_of_ble_eq_true rfl) (hts _ k_1359) (fun _ h9 => h9) rfl dX11_regiment_223 ?_
                        refine lv_iload_n hx hb dX11_regiment_226 rfl (lv_at hl 0 rfl) ?_
                        refine lv_aload_n hx hb dX11_regiment_227 rfl (lv_at hl 1 rfl) ?_
                        refine va_get (D := (dC, dI)) (ci := 11) (v := .ref (r 32)) (C := RX11) (T := TX11) (N := 79) hx hb hts inB_11 hown hE.1 hP 0 rfl rfl 32 (Nat.le_of_ble_eq_true rfl) (hts _ k_1352) (fun _ h9 => h9) rfl dX11_regiment_228 ?_
                        refine lv_iload_n hx hb dX11_regiment_231 rfl (lv_at hl 0 rfl) ?_
                        refine ldI hx hb hE hP 15 rfl (vpI (k := 6) rfl (show 0 ≤ l1_16.toInt from om_39 hr1_16) (show l1_16.toInt < 6 from om_460 b18_v2 zc17)) rfl rfl dX11_regiment_232 ?_
                        refine lv_topi (fun t43 et43 => ?_)
                        refine stI hx hb hE hP hD hS 22 rfl (vpI (k := 6) rfl (show 0 ≤ l1_16.toInt from om_39 hr1_16) (show l1_16.toInt < 6 from om_460 b18_v2 zc17)) rfl dX11_regiment_233 (fun H locs hP hD hS => ?_)
                        obtain ⟨f44, ef44, hP, hD⟩ : ∃ fz9, fz9 = upd2 f42 21 (upd (f42 21) l1_16.toNatClampNeg t43) ∧ va_P (dC, dI) vwCl (YW cy y0 r v16 fz9 w16 g16) H ∧ va_D A (YW cy y0 r v16 fz9 w16 g16) := ⟨_, rfl, hP, hD⟩
                        have hCf44 : YC f44 := by rw [ef44]; exact hCf42
                        have hRf44 : progOK (f44 4) (f44 5) (v16 9).toInt.toNat := by rw [ef44]; exact hRf42
                        have hs2_f44 : f44 2 = (f3 2) := by rw [ef44]; exact hs2_f42
                        have hs3_f44 : f44 3 = (f3 3) := by rw [ef44]; exact hs3_f42
                        have hA_f44 : KF [2, 3, 4, 5, 6, 9, 10, 11, 12, 13, 14, 15, 16, 17, 18, 19, 20, 21, 22, 23, 24, 36] f44 f := by rw [ef44]; exact KF.up hA_f42 rfl
                        refine lv_aload_n hx hb dX11_regiment_234 rfl (lv_at hl 1 rfl) ?_
                        refine va_get (D := (dC, dI)) (ci := 11) (v := .ref (r 40)) (C := RX11) (T := TX11) (N := 79) hx hb hts inB_11 hown hE.1 hP 0 rfl rfl 40 (Nat.le_of_ble_eq_true rfl) (hts _ k_1360) (fun _ h9 => h9) rfl dX11_regiment_235 ?_
                        refine lv_iload_n hx hb dX11_regiment_238 rfl (lv_at hl 0 rfl) ?_
                        refine lv_aload_n hx hb dX11_regiment_239 rfl (lv_at hl 1 rfl) ?_
                        refine va_get (D := (dC, dI)) (ci := 11) (v := .ref (r 33)) (C := RX11) (T := TX11) (N := 79) hx hb hts inB_11 hown hE.1 hP 0 rfl rfl 33 (Nat.le_of_ble_eq_true rfl) (hts _ k_1353) (fun _ h9 => h9) rfl dX11_regiment_240 ?_
                        refine lv_iload_n hx hb dX11_regiment_243 rfl (lv_at hl 0 rfl) ?_
                        refine ldI hx hb hE hP 16 rfl (vpI (k := 6) rfl (show 0 ≤ l1_16.toInt from om_39 hr1_16) (show l1_16.toInt < 6 from om_460 b18_v2 zc17)) rfl rfl dX11_regiment_244 ?_
                        refine lv_topi (fun t45 et45 => ?_)
                        refine stI hx hb hE hP hD hS 23 rfl (vpI (k := 6) rfl (show 0 ≤ l1_16.toInt from om_39 hr1_16) (show l1_16.toInt < 6 from om_460 b18_v2 zc17)) rfl dX11_regiment_245 (fun H locs hP hD hS => ?_)
                        obtain ⟨f46, ef46, hP, hD⟩ : ∃ fz9, fz9 = upd2 f44 22 (upd (f44 22) l1_16.toNatClampNeg t45) ∧ va_P (dC, dI) vwCl (YW cy y0 r v16 fz9 w16 g16) H ∧ va_D A (YW cy y0 r v16 fz9 w16 g16) := ⟨_, rfl, hP, hD⟩
                        have hCf46 : YC f46 := by rw [ef46]; exact hCf44
                        have hRf46 : progOK (f46 4) (f46 5) (v16 9).toInt.toNat := by rw [ef46]; exact hRf44
                        have hs2_f46 : f46 2 = (f3 2) := by rw [ef46]; exact hs2_f44
                        have hs3_f46 : f46 3 = (f3 3) := by rw [ef46]; exact hs3_f44
                        have hA_f46 : KF [2, 3, 4, 5, 6, 9, 10, 11, 12, 13, 14, 15, 16, 17, 18, 19, 20, 21, 22, 23, 24, 36] f46 f := by rw [ef46]; exact KF.up hA_f44 rfl
                        obtain ⟨t47, et47⟩ : ∃ y : Int32, y = l1_16 + 1 := ⟨_, rfl⟩
                        have zt47 : t47.toInt = l1_16.toInt + 1 := (congrArg Int32.toInt et47).trans (add_i rfl tc_1 (om_41 hr1_16) (om_187 b18_v2 zc17))
                        refine lv_iinc (v := t47) (lv' := [(1, .int t47), (0, .ref y0)]) hx hb dX11_regiment_246 hl (k := 0) rfl et47.symm (Nat.le_of_ble_eq_true rfl) rfl (fun ls hl => ?_)
                        refine lv_goto (tgt := 190) hx hb dX11_regiment_249 rfl ?_
                        have rg48 := fb_rng t47
                        exact ih16 t47 v16 f46 w16 g16 hIv16 hCf46 hRf46 hq0_v16 hq1_v16 hq2_v16 hq3_v16 hq4_v16 hq5_v16 hq8_v16 hq9_v16 hq10_v16 hq13_v16 hq14_v16 hq15_v16 hq17_v16 hq18_v16 hq24_v16 hq25_v16 hq35_v16 hq36_v16 hq38_v16 hq39_v16 ((gsY_X11_regiment_1_q3 c17 et39 ef40 et41 ef42 et43 ef44 et45 ef46 et47).symm.trans hT16) ⟨show (0 : Int) ≤ t47.toInt from om_43 hr1_16 zt47, show t47.toInt ≤ (2147483647 : Int) from om_44 rg48⟩ hM_v16 hA_f46 hs2_f46 hs3_f46 (show (2147483647 - t47.toInt).toNat < n16 from om_33 hm16 zt47 rg48) _ _ _ hP hD hS (lv_sub hl [0, 1] rfl)
                  exact lp16 (4294967296 + NF) 0 v12 f12 w12 g12 hIv12 hCf12 hRf12 hq0_v12 hq1_v12 hq2_v12 hq3_v12 hq4_v12 hq5_v12 hq8_v12 hq9_v12 hq10_v12 hq13_v12 hq14_v12 hq15_v12 hq17_v12 hq18_v12 hq24_v12 hq25_v12 hq35_v12 hq36_v12 hq38_v12 hq39_v12 ((gsY_X11_regiment_1_q4 c13).symm.trans hT12) ⟨by decide, by decide⟩ hM_v12 hA_f12 hs2_f12 hs3_f12 (show (2147483647 - (0 : Int32).toInt).toNat < 4294967296 + NF from om_38 tc_0) _ _ _ hP hD hS (lv_sub hl [0, 1] rfl)
                · skip
                  have zc13 : ¬ ((v2 17).toInt ≤ l1_12.toInt) := zMn rfl rfl c13
                  refine lv_aload_n hx hb dX11_regiment_146 rfl (lv_at hl 1 rfl) ?_
                  refine va_get (D := (dC, dI)) (ci := 11) (v := .ref (r 34)) (C := RX11) (T := TX11) (N := 79) hx hb hts inB_11 hown hE.1 hP 0 rfl rfl 34 (Nat.le_of_ble_eq_true rfl) (hts _ k_1354) (fun _ h9 => h9) rfl dX11_regiment_147 ?_
                  refine lv_iload_n hx hb dX11_regiment_150 rfl (lv_at hl 0 rfl) ?_
                  refine lv_aload_n hx hb dX11_regiment_151 rfl (lv_at hl 1 rfl) ?_
                  refine va_get (D := (dC, dI)) (ci := 11) (v := .ref (r 27)) (C := RX11) (T := TX11) (N := 79) hx hb hts inB_11 hown hE.1 hP 0 rfl rfl 27 (Nat.le_of_ble_eq_true rfl) (hts _ k_1347) (fun _ h9 => h9) rfl dX11_regiment_152 ?_
                  refine lv_iload_n hx hb dX11_regiment_155 rfl (lv_at hl 0 rfl) ?_
                  refine ldI hx hb hE hP 10 rfl (vpI (k := 6) rfl (show 0 ≤ l1_12.toInt from om_39 hr1_12) (show l1_12.toInt < 6 from om_460 b17_v2 zc13)) rfl rfl dX11_regiment_156 ?_
                  refine lv_topi (fun t51 et51 => ?_)
                  refine stI hx hb hE hP hD hS 17 rfl (vpI (k := 6) rfl (show 0 ≤ l1_12.toInt from om_39 hr1_12) (show l1_12.toInt < 6 from om_460 b17_v2 zc13)) rfl dX11_regiment_157 (fun H locs hP hD hS => ?_)
                  obtain ⟨f52, ef52, hP, hD⟩ : ∃ fz9, fz9 = upd2 f12 16 (upd (f12 16) l1_12.toNatClampNeg t51) ∧ va_P (dC, dI) vwCl (YW cy y0 r v12 fz9 w12 g12) H ∧ va_D A (YW cy y0 r v12 fz9 w12 g12) := ⟨_, rfl, hP, hD⟩
                  have hCf52 : YC f52 := by rw [ef52]; exact hCf12
                  have hRf52 : progOK (f52 4) (f52 5) (v12 9).toInt.toNat := by rw [ef52]; exact hRf12
                  have hs2_f52 : f52 2 = (f3 2) := by rw [ef52]; exact hs2_f12
                  have hs3_f52 : f52 3 = (f3 3) := by rw [ef52]; exact hs3_f12
                  have hA_f52 : KF [2, 3, 4, 5, 6, 9, 10, 11, 12, 13, 14, 15, 16, 17, 18, 19, 20, 21, 22, 23, 24, 36] f52 f := by rw [ef52]; exact KF.up hA_f12 rfl
                  refine lv_aload_n hx hb dX11_regiment_158 rfl (lv_at hl 1 rfl) ?_
                  refine va_get (D := (dC, dI)) (ci := 11) (v := .ref (r 35)) (C := RX11) (T := TX11) (N := 79) hx hb hts inB_11 hown hE.1 hP 0 rfl rfl 35 (Nat.le_of_ble_eq_true rfl) (hts _ k_1355) (fun _ h9 => h9) rfl dX11_regiment_159 ?_
                  refine lv_iload_n hx hb dX11_regiment_162 rfl (lv_at hl 0 rfl) ?_
                  refine lv_aload_n hx hb dX11_regiment_163 rfl (lv_at hl 1 rfl) ?_
                  refine va_get (D := (dC, dI)) (ci := 11) (v := .ref (r 28)) (C := RX11) (T := TX11) (N := 79) hx hb hts inB_11 hown hE.1 hP 0 rfl rfl 28 (Nat.le_of_ble_eq_true rfl) (hts _ k_1348) (fun _ h9 => h9) rfl dX11_regiment_164 ?_
                  refine lv_iload_n hx hb dX11_regiment_167 rfl (lv_at hl 0 rfl) ?_
                  refine ldI hx hb hE hP 11 rfl (vpI (k := 6) rfl (show 0 ≤ l1_12.toInt from om_39 hr1_12) (show l1_12.toInt < 6 from om_460 b17_v2 zc13)) rfl rfl dX11_regiment_168 ?_
                  refine lv_topi (fun t53 et53 => ?_)
                  refine stI hx hb hE hP hD hS 18 rfl (vpI (k := 6) rfl (show 0 ≤ l1_12.toInt from om_39 hr1_12) (show l1_12.toInt < 6 from om_460 b17_v2 zc13)) rfl dX11_regiment_169 (fun H locs hP hD hS => ?_)
                  obtain ⟨f54, ef54, hP, hD⟩ : ∃ fz9, fz9 = upd2 f52 17 (upd (f52 17) l1_12.toNatClampNeg t53) ∧ va_P (dC, dI) vwCl (YW cy y0 r v12 fz9 w12 g12) H ∧ va_D A (YW cy y0 r v12 fz9 w12 g12) := ⟨_, rfl, hP, hD⟩
                  have hCf54 : YC f54 := by rw [ef54]; exact hCf52
                  have hRf54 : progOK (f54 4) (f54 5) (v12 9).toInt.toNat := by rw [ef54]; exact hRf52
                  have hs2_f54 : f54 2 = (f3 2) := by rw [ef54]; exact hs2_f52
                  have hs3_f54 : f54 3 = (f3 3) := by rw [ef54]; exact hs3_f52
                  have hA_f54 : KF [2, 3, 4, 5, 6, 9, 10, 11, 12, 13, 14, 15, 16, 17, 18, 19, 20, 21, 22, 23, 24, 36] f54 f := by rw [ef54]; exact KF.up hA_f52 rfl
                  refine lv_aload_n hx hb dX11_regiment_170 rfl (lv_at hl 1 rfl) ?_
                  refine va_get (D := (dC, dI)) (ci := 11) (v := .ref (r 36)) (C := RX11) (T := TX11) (N := 79) hx hb hts inB_11 hown hE.1 hP 0 rfl rfl 36 (Nat.le_of_ble_eq_true rfl) (hts _ k_1356) (fun _ h9 => h9) rfl dX11_regiment_171 ?_
                  refine lv_iload_n hx hb dX11_regiment_174 rfl (lv_at hl 0 rfl) ?_
                  refine lv_aload_n hx hb dX11_regiment_175 rfl (lv_at hl 1 rfl) ?_
                  refine va_get (D := (dC, dI)) (ci := 11) (v := .ref (r 29)) (C := RX11) (T := TX11) (N := 79) hx hb hts inB_11 hown hE.1 hP 0 rfl rfl 29 (Nat.le_of_ble_eq_true rfl) (hts _ k_1349) (fun _ h9 => h9) rfl dX11_regiment_176 ?_
                  refine lv_iload_n hx hb dX11_regiment_179 rfl (lv_at hl 0 rfl) ?_
                  refine ldI hx hb hE hP 12 rfl (vpI (k := 6) rfl (show 0 ≤ l1_12.toInt from om_39 hr1_12) (show l1_12.toInt < 6 from om_460 b17_v2 zc13)) rfl rfl dX11_regiment_180 ?_
                  refine lv_topi (fun t55 et55 => ?_)
                  refine stI hx hb hE hP hD hS 19 rfl (vpI (k := 6) rfl (show 0 ≤ l1_12.toInt from om_39 hr1_12) (show l1_12.toInt < 6 from om_460 b17_v2 zc13)) rfl dX11_regiment_181 (fun H locs hP hD hS => ?_)
                  obtain ⟨f56, ef56, hP, hD⟩ : ∃ fz9, fz9 = upd2 f54 18 (upd (f54 18) l1_12.toNatClampNeg t55) ∧ va_P (dC, dI) vwCl (YW cy y0 r v12 fz9 w12 g12) H ∧ va_D A (YW cy y0 r v12 fz9 w12 g12) := ⟨_, rfl, hP, hD⟩
                  have hCf56 : YC f56 := by rw [ef56]; exact hCf54
                  have hRf56 : progOK (f56 4) (f56 5) (v12 9).toInt.toNat := by rw [ef56]; exact hRf54
                  have hs2_f56 : f56 2 = (f3 2) := by rw [ef56]; exact hs2_f54
                  have hs3_f56 : f56 3 = (f3 3) := by rw [ef56]; exact hs3_f54
                  have hA_f56 : KF [2, 3, 4, 5, 6, 9, 10, 11, 12, 13, 14, 15, 16, 17, 18, 19, 20, 21, 22, 23, 24, 36] f56 f := by rw [ef56]; exact KF.up hA_f54 rfl
                  obtain ⟨t57, et57⟩ : ∃ y : Int32, y = l1_12 + 1 := ⟨_, rfl⟩
                  have zt57 : t57.toInt = l1_12.toInt + 1 := (congrArg Int32.toInt et57).trans (add_i rfl tc_1 (om_41 hr1_12) (om_187 b17_v2 zc13))
                  refine lv_iinc (v := t57) (lv' := [(1, .int t57), (0, .ref y0)]) hx hb dX11_regiment_182 hl (k := 0) rfl et57.symm (Nat.le_of_ble_eq_true rfl) rfl (fun ls hl => ?_)
                  refine lv_goto (tgt := 138) hx hb dX11_regiment_185 rfl ?_
                  have rg58 := fb_rng t57
                  exact ih12 t57 v12 f56 w12 g12 hIv12 hCf56 hRf56 hq0_v12 hq1_v12 hq2_v12 hq3_v12 hq4_v12 hq5_v12 hq8_v12 hq9_v12 hq10_v12 hq13_v12 hq14_v12 hq15_v12 hq17_v12 hq18_v12 hq24_v12 hq25_v12 hq35_v12 hq36_v12 hq38_v12 hq39_v12 ((gsY_X11_regiment_1_q5 c13 et51 ef52 et53 ef54 et55 ef56 et57).symm.trans hT12) ⟨show (0 : Int) ≤ t57.toInt from om_43 hr1_12 zt57, show t57.toInt ≤ (2147483647 : Int) from om_44 rg58⟩ hM_v12 hA_f56 hs2_f56 hs3_f56 (show (2147483647 - t57.toInt).toNat < n12 from om_33 hm12 zt57 rg58) _ _ _ hP hD hS (lv_sub hl [0, 1] rfl)
            exact lp12 (4294967296 + NF) 0 v10 f10 w10 g10 hIv10 hCf10 hRf10 hq0_v10 hq1_v10 hq2_v10 hq3_v10 hq4_v10 hq5_v10 hq8_v10 hq9_v10 hq10_v10 hq13_v10 hq14_v10 hq15_v10 hq17_v10 hq18_v10 hq24_v10 hq25_v10 hq35_v10 hq36_v10 hq38_v10 hq39_v10 ((gsY_X11_regiment_1_q6 c11).symm.trans hT10) ⟨by decide, by decide⟩ hM_v10 hA_f10 hs2_f10 hs3_f10 (show (2147483647 - (0 : Int32).toInt).toNat < 4294967296 + NF from om_38 tc_0) _ _ _ hP hD hS (lv_sub hl [0, 1] rfl)
          · skip
            have zc11 : ¬ (0 ≤ l1_10.toInt) := zMn tc_0 rfl c11
            refine lv_aload_n hx hb dX11_regiment_106 rfl (lv_at hl 1 rfl) ?_
            refine va_get (D := (dC, dI)) (ci := 11) (v := .ref (r 13)) (C := RX11) (T := TX11) (N := 79) hx hb hts inB_11 hown hE.1 hP 0 rfl rfl 13 (Nat.le_of_ble_eq_true rfl) (hts _ k_1333) (fun _ h9 => h9) rfl dX11_regiment_107 ?_
            refine lv_iload_n hx hb dX11_regiment_110 rfl (lv_at hl 0 rfl) ?_
            refine lv_aload_n hx hb dX11_regiment_111 rfl (lv_at hl 1 rfl) ?_
            refine va_get (D := (dC, dI)) (ci := 11) (v := .ref (r 11)) (C := RX11) (T := TX11) (N := 79) hx hb hts inB_11 hown hE.1 hP 0 rfl rfl 11 (Nat.le_of_ble_eq_true rfl) (hts _ k_1331) (fun _ h9 => h9) rfl dX11_regiment_112 ?_
            refine lv_iload_n hx hb dX11_regiment_115 rfl (lv_at hl 0 rfl) ?_
            refine ldI hx hb hE hP 3 rfl (vpI (k := 320) rfl (show 0 ≤ l1_10.toInt from om_39 hr1_10) (show l1_10.toInt < 320 from om_488 zc11)) rfl rfl dX11_regiment_116 ?_
            refine lv_topi (fun t59 et59 => ?_)
            have hO2 : (f3 2) l1_10.toInt.toNat = t59 := by rw [et59, hs2_f10]; rfl
            refine stI hx hb hE hP hD hS 5 rfl (vpI (k := 320) rfl (show 0 ≤ l1_10.toInt from om_39 hr1_10) (show l1_10.toInt < 320 from om_488 zc11)) rfl dX11_regiment_117 (fun H locs hP hD hS => ?_)
            obtain ⟨f60, ef60, hP, hD⟩ : ∃ fz9, fz9 = upd2 f10 4 (upd (f10 4) l1_10.toNatClampNeg t59) ∧ va_P (dC, dI) vwCl (YW cy y0 r v10 fz9 w10 g10) H ∧ va_D A (YW cy y0 r v10 fz9 w10 g10) := ⟨_, rfl, hP, hD⟩
            have hCf60 : YC f60 := by rw [ef60]; exact hCf10
            have hs2_f60 : f60 2 = (f3 2) := by rw [ef60]; exact hs2_f10
            have hs3_f60 : f60 3 = (f3 3) := by rw [ef60]; exact hs3_f10
            have hs4_f60 : f60 4 = (upd (f10 4) (l1_10.toInt.toNat) t59) := by rw [ef60]; show upd (f10 4) (l1_10.toInt.toNat) t59 = _; rfl
            have hs5_f60 : f60 5 = (f10 5) := by rw [ef60]; exact rfl
            have hA_f60 : KF [2, 3, 4, 5, 6, 9, 10, 11, 12, 13, 14, 15, 16, 17, 18, 19, 20, 21, 22, 23, 24, 36] f60 f := by rw [ef60]; exact KF.up hA_f10 rfl
            refine lv_aload_n hx hb dX11_regiment_118 rfl (lv_at hl 1 rfl) ?_
            refine va_get (D := (dC, dI)) (ci := 11) (v := .ref (r 14)) (C := RX11) (T := TX11) (N := 79) hx hb hts inB_11 hown hE.1 hP 0 rfl rfl 14 (Nat.le_of_ble_eq_true rfl) (hts _ k_1334) (fun _ h9 => h9) rfl dX11_regiment_119 ?_
            refine lv_iload_n hx hb dX11_regiment_122 rfl (lv_at hl 0 rfl) ?_
            refine lv_aload_n hx hb dX11_regiment_123 rfl (lv_at hl 1 rfl) ?_
            refine va_get (D := (dC, dI)) (ci := 11) (v := .ref (r 12)) (C := RX11) (T := TX11) (N := 79) hx hb hts inB_11 hown hE.1 hP 0 rfl rfl 12 (Nat.le_of_ble_eq_true rfl) (hts _ k_1332) (fun _ h9 => h9) rfl dX11_regiment_124 ?_
            refine lv_iload_n hx hb dX11_regiment_127 rfl (lv_at hl 0 rfl) ?_
            refine ldI hx hb hE hP 4 rfl (vpI (k := 320) rfl (show 0 ≤ l1_10.toInt from om_39 hr1_10) (show l1_10.toInt < 320 from om_488 zc11)) rfl rfl dX11_regiment_128 ?_
            refine lv_topi (fun t61 et61 => ?_)
            have hO3 : (f3 3) l1_10.toInt.toNat = t61 := by rw [et61, hs3_f60]; rfl
            refine stI hx hb hE hP hD hS 6 rfl (vpI (k := 320) rfl (show 0 ≤ l1_10.toInt from om_39 hr1_10) (show l1_10.toInt < 320 from om_488 zc11)) rfl dX11_regiment_129 (fun H locs hP hD hS => ?_)
            obtain ⟨f62, ef62, hP, hD⟩ : ∃ fz9, fz9 = upd2 f60 5 (upd (f60 5) l1_10.toNatClampNeg t61) ∧ va_P (dC, dI) vwCl (YW cy y0 r v10 fz9 w10 g10) H ∧ va_D A (YW cy y0 r v10 fz9 w10 g10) := ⟨_, rfl, hP, hD⟩
            have hCf62 : YC f62 := by rw [ef62]; exact hCf60
            have hs2_f62 : f62 2 = (f3 2) := by rw [ef62]; exact hs2_f60
            have hs3_f62 : f62 3 = (f3 3) := by rw [ef62]; exact hs3_f60
            have hs4_f62 : f62 4 = (upd (f10 4) (l1_10.toInt.toNat) t59) := by rw [ef62]; exact hs4_f60
            have hs5_f62 : f62 5 = (upd (f10 5) (l1_10.toInt.toNat) t61) := by rw [ef62]; show upd (f60 5) (l1_10.toInt.toNat) t61 = _; rw [hs5_f60]
            have hA_f62 : KF [2, 3, 4, 5, 6, 9, 10, 11, 12, 13, 14, 15, 16, 17, 18, 19, 20, 21, 22, 23, 24, 36] f62 f := by rw [ef62]; exact KF.up hA_f60 rfl
            obtain ⟨t63, et63⟩ : ∃ y : Int32, y = l1_10 + 1 := ⟨_, rfl⟩
            have rg64 := fb_rng l1_10
            have zt63 : t63.toInt = l1_10.toInt + 1 := (congrArg Int32.toInt et63).trans (add_i rfl tc_1 (om_41 hr1_10) (om_489 zc11))
            refine lv_iinc (v := t63) (lv' := [(1, .int t63), (0, .ref y0)]) hx hb dX11_regiment_130 hl (k := 0) rfl et63.symm (Nat.le_of_ble_eq_true rfl) rfl (fun ls hl => ?_)
            refine lv_goto (tgt := 98) hx hb dX11_regiment_133 rfl ?_
            have rg65 := fb_rng t63
            exact ih10 t63 v10 f62 w10 g10 hIv10 hCf62 hq0_v10 hq1_v10 hq2_v10 hq3_v10 hq4_v10 hq5_v10 hq8_v10 hq9_v10 hq10_v10 hq13_v10 hq14_v10 hq15_v10 hq17_v10 hq18_v10 hq24_v10 hq25_v10 hq35_v10 hq36_v10 hq38_v10 hq39_v10 ((gsY_X11_regiment_1_q7 c11 et59 ef60 et61 ef62 et63).symm.trans hT10) ⟨show (0 : Int) ≤ t63.toInt from om_43 hr1_10 zt63, show t63.toInt ≤ (2147483647 : Int) from om_44 rg65⟩ (by show progOK (f62 2) (f62 3) ((v10 9).toInt).toNat; rw [hs2_f62, hs3_f62]; exact prog_n hPG (by omega)) (by show ∀ j, j < (t63.toInt).toNat → (f62 4) j = (f62 2) j ∧ (f62 5) j = (f62 3) j; rw [hs2_f62, hs3_f62, hs4_f62, hs5_f62]; exact cp_step hCP hO2 hO3 (by omega)) hM_v10 hA_f62 hs2_f62 hs3_f62 (show (2147483647 - t63.toInt).toNat < n10 from om_33 hm10 zt63 rg65) _ _ _ hP hD hS (lv_sub hl [0, 1] rfl)
      exact lp10 (4294967296 + NF) 0 (upd (upd (upd (upd (upd (upd (upd (upd (upd v2 24 (v2 17)) 25 (v2 18)) 26 (v2 19)) 27 (v2 20)) 28 (v2 21)) 29 (v2 22)) 12 (v2 11)) 16 (v2 15)) 9 0) f3 w4 g5 ⟨(Yu_9 (x := 0) (Yu_16 (x := (v2 15)) (Yu_12 (x := (v2 11)) (Yu_29 (x := (v2 22)) (Yu_28 (x := (v2 21)) (Yu_27 (x := (v2 20)) (Yu_26 (x := (v2 19)) (Yu_25 (x := (v2 18)) (Yu_24 (x := (v2 17)) hIv2.1 (show (0 : Int) ≤ (v2 17).toInt from om_98 b17_v2) (show (v2 17).toInt ≤ (6 : Int) from om_99 b17_v2)) (show (0 : Int) ≤ (v2 18).toInt from om_98 b18_v2) (show (v2 18).toInt ≤ (6 : Int) from om_99 b18_v2)) (rlo _) (rhi _)) (rlo _) (rhi _)) (rlo _) (rhi _)) (rlo _) (rhi _)) (rlo _) (rhi _)) (rlo _) (rhi _)) (by decide) (by decide)), hIv2.2⟩ hCf3 rfl rfl rfl rfl rfl rfl rfl rfl rfl rfl rfl rfl rfl rfl rfl rfl hq35_v2 hq36_v2 hq38_v2 hq39_v2 (gsY_X11_regiment_1_q8 hG1 c8 c9).symm ⟨by decide, by decide⟩ (by have q0 : (0 : Int32).toInt = 0 := (by decide); show progOK (f3 2) (f3 3) ((0 : Int32).toInt).toNat; first | exact prog_n (hPL (by omega) (by omega)) (by omega) | exact prog_0 (by decide)) (by have q0 : (0 : Int32).toInt = 0 := (by decide); show ∀ j, j < ((0 : Int32).toInt).toNat → (f3 4) j = (f3 2) j ∧ (f3 5) j = (f3 3) j; exact fun j hj => absurd hj (Nat.not_lt_zero _)) (KV.up (j := 9) (x := 0) (KV.up (j := 16) (x := (v2 15)) (KV.up (j := 12) (x := (v2 11)) (KV.up (j := 29) (x := (v2 22)) (KV.up (j := 28) (x := (v2 21)) (KV.up (j := 27) (x := (v2 20)) (KV.up (j := 26) (x := (v2 19)) (KV.up (j := 25) (x := (v2 18)) (KV.up (j := 24) (x := (v2 17)) hM_v2 (by decide +kernel)) (by decide +kernel)) (by decide +kernel)) (by decide +kernel)) (by decide +kernel)) (by decide +kernel)) (by decide +kernel)) (by decide +kernel)) (by decide +kernel)) hA_f3 rfl rfl (by have q1 : (0 : Int32).toInt = 0 := (by decide); have qc0 : (0 : Int32).toInt = 0 := (by decide); show (2147483647 - (0 : Int32).toInt).toNat < 4294967296 + NF; omega) _ _ _ hP hD hS (lv_sub hl [0, 1] rfl)
    · skip
      have zc9 : ¬ ((v2 15).toInt = 0) := zEn rfl tc_0 c9
      refine lv_aload_n hx hb dX11_regiment_85 rfl (lv_at hl 0 rfl) ?_
      refine va_get (D := (dC, dI)) (ci := 11) (v := .int (v2 8)) (C := RX11) (T := TX11) (N := 79) hx hb hts inB_11 hown hE.1 hP 0 rfl rfl 17 (Nat.le_of_ble_eq_true rfl) (hts _ k_1337) (fun _ h9 => h9) rfl dX11_regiment_86 ?_
      have b8_v2 : 0 ≤ (v2 8).toInt ∧ (v2 8).toInt ≤ 320 := Yb_8 hIv2.1
      refine lv_goto (tgt := 93) hx hb dX11_regiment_89 rfl ?_
      refine va_put (D := (dC, dI)) (ci := 11) (v := .int (v2 8)) (ty := tyX11 18) (C := RX11) (T := TX11) (N := 79) hx hb hts inB_11 tyX11 tyX11_ok nmX11 hown hE.1 hP hD hS 0 rfl rfl 18 (Nat.le_of_ble_eq_true rfl) (hts _ k_1338) (fun _ h9 => h9) rfl (tyX11_ok 18 (Nat.le_of_ble_eq_true rfl)) rfl rfl (Nat.le_of_ble_eq_true rfl) dX11_regiment_93 (fun H locs hP hD hS => ?_)
      have hP : va_P (dC, dI) vwCl (YW cy y0 r (upd (upd (upd (upd (upd (upd (upd (upd (upd v2 24 (v2 17)) 25 (v2 18)) 26 (v2 19)) 27 (v2 20)) 28 (v2 21)) 29 (v2 22)) 12 (v2 11)) 16 (v2 15)) 9 (v2 8)) f3 w4 g5) H := hP
      have hD : va_D A (YW cy y0 r (upd (upd (upd (upd (upd (upd (upd (upd (upd v2 24 (v2 17)) 25 (v2 18)) 26 (v2 19)) 27 (v2 20)) 28 (v2 21)) 29 (v2 22)) 12 (v2 11)) 16 (v2 15)) 9 (v2 8)) f3 w4 g5) := hD
      refine lv_iconst (v := 0) hx hb dX11_regiment_96 rfl ?_
      refine lv_istore_n (lv' := [(1, .int 0), (0, .ref y0)]) hx hb dX11_regiment_97 rfl hl (Nat.le_of_ble_eq_true rfl) rfl (fun ls hl => ?_)
      have lp66 : ∀ (n66 : Nat) (l1_66 : Int32) (v66 : Nat → Int32) (f66 : Nat → Nat → Int32) (w66 : Int64) (g66 : Nat → Int64), YI v66 → YC f66 → v66 0 = (v2 0) → v66 1 = (v2 1) → v66 2 = (v2 2) → v66 3 = (v2 3) → v66 4 = (v2 4) → v66 5 = (v2 5) → v66 8 = (v2 8) → v66 9 = (v2 8) → v66 10 = (v2 10) → v66 13 = (v2 13) → v66 14 = (v2 14) → v66 15 = (v2 15) → v66 17 = (v2 17) → v66 18 = (v2 18) → v66 24 = (v2 17) → v66 25 = (v2 18) → v66 35 = (v 35) → v66 36 = (v 36) → v66 38 = (v 38) → v66 39 = (v 39) → gsY_X11_regiment_1_L66 NF v2 n66 l1_66 v66 f66 w66 g66 = (gsY_X11_regiment_1 NF v f w g) → ((0 : Int) ≤ l1_66.toInt ∧ l1_66.toInt ≤ 2147483647) → (progOK (f66 2) (f66 3) ((v66 9).toInt).toNat) → (∀ j, j < (l1_66.toInt).toNat → (f66 4) j = (f66 2) j ∧ (f66 5) j = (f66 3) j) → KV [0, 1, 2, 3, 4, 5, 6, 7, 8, 9, 10, 11, 12, 13, 14, 15, 16, 17, 18, 19, 20, 21, 22, 23, 24, 25, 26, 27, 28, 29, 30, 31, 32, 33, 34, 35, 36, 37, 38] v66 v → KF [2, 3, 4, 5, 6, 9, 10, 11, 12, 13, 14, 15, 16, 17, 18, 19, 20, 21, 22, 23, 24, 36] f66 f → f66 2 = (f3 2) → f66 3 = (f3 3) → (2147483647 - l1_66.toInt).toNat < n66 → ∀ (H : Heap) (locs : List Loc) (ls : Array Slot), va_P (dC, dI) vwCl (YW cy y0 r v66 f66 w66 g66) H → va_D A (YW cy y0 r v66 f66 w66 g66) → va_S A s.heap H locs → lv_has ls 2 [(1, .int l1_66), (0, .ref y0)] → W p l e { frames := 9, cells := 0, slots := 0, locals := 232 } s m ([.ref y0] : List Value).toArray below meth c H locs 0 0 Q (F0 m 98 ls []) := by
        intro n66
        induction n66 with
        | zero => intro l1_66 v66 f66 w66 g66 hIv66 hCf66 hq0_v66 hq1_v66 hq2_v66 hq3_v66 hq4_v66 hq5_v66 hq8_v66 hq9_v66 hq10_v66 hq13_v66 hq14_v66 hq15_v66 hq17_v66 hq18_v66 hq24_v66 hq25_v66 hq35_v66 hq36_v66 hq38_v66 hq39_v66 hT66 hr1_66 hx0_66 hx1_66 hM_v66 hA_f66 hs2_f66 hs3_f66 hm; exact absurd hm (Nat.not_lt_zero _)
        | succ n66 ih66 =>
          intro l1_66 v66 f66 w66 g66 hIv66 hCf66 hq0_v66 hq1_v66 hq2_v66 hq3_v66 hq4_v66 hq5_v66 hq8_v66 hq9_v66 hq10_v66 hq13_v66 hq14_v66 hq15_v66 hq17_v66 hq18_v66 hq24_v66 hq25_v66 hq35_v66 hq36_v66 hq38_v66 hq39_v66 hT66 hr1_66 hx0_66 hx1_66 hM_v66 hA_f66 hs2_f66 hs3_f66 hm66 H locs ls hP hD hS hl
          have hUv66 : (v66 35).toInt + (v66 36).toInt ≤ 40 := hIv66.2
          have zq0_v66 := congrArg Int32.toInt hq0_v66
          have zq1_v66 := congrArg Int32.toInt hq1_v66
          have zq8_v66 := congrArg Int32.toInt hq8_v66
          have zq9_v66 := congrArg Int32.toInt hq9_v66
          try clear zq9_v2
          have zq10_v66 := congrArg Int32.toInt hq10_v66
          have zq13_v66 := congrArg Int32.toInt hq13_v66
          have zq14_v66 := congrArg Int32.toInt hq14_v66
          have zq15_v66 := congrArg Int32.toInt hq15_v66
          have zq17_v66 := congrArg Int32.toInt hq17_v66
          have zq18_v66 := congrArg Int32.toInt hq18_v66
          have zq35_v66 := congrArg Int32.toInt hq35_v66
          try clear zq35_v2
          have zq36_v66 := congrArg Int32.toInt hq36_v66
          try clear zq36_v2
          have b9_v66 : 0 ≤ (v66 9).toInt ∧ (v66 9).toInt ≤ 320 := Yb_9 hIv66.1
          have b8_v2 : 0 ≤ (v2 8).toInt ∧ (v2 8).toInt ≤ 320 := Yb_8 hIv2.1
          rw [hs2_f66] at hx0_66
          rw [hs3_f66] at hx0_66
          rw [hs2_f66] at hx1_66
          rw [hs3_f66] at hx1_66
          have hPG := hx0_66
          have hCP := hx1_66
          refine lv_iload_n hx hb dX11_regiment_98 rfl (lv_at hl 0 rfl) ?_
          refine lv_aload_n hx hb dX11_regiment_99 rfl (lv_at hl 1 rfl) ?_
          refine va_get (D := (dC, dI)) (ci := 11) (v := .int (v66 9)) (C := RX11) (T := TX11) (N := 79) hx hb hts inB_11 hown hE.1 hP 0 rfl rfl 18 (Nat.le_of_ble_eq_true rfl) (hts _ k_1338) (fun _ h9 => h9) rfl dX11_regiment_100 ?_
          refine tI (y := (v2 8)) hq9_v66 ?_
          refine lv_icmp_ge (tgt := 136) hx hb dX11_regiment_103 rfl (fun c67 => ?_) (fun c67 => ?_)
          · skip
            have zc67 : (v2 8).toInt ≤ l1_66.toInt := zMp rfl rfl c67
            have rg68 := fb_rng l1_66
            have rg69 := fb_rng (v2 8)
            have hRf66 : progOK (f66 4) (f66 5) (v66 9).toInt.toNat := cp_done hCP hPG (by omega)
            refine lv_iconst (v := 0) hx hb dX11_regiment_136 rfl ?_
            refine lv_istore_n (lv' := [(1, .int 0), (0, .ref y0)]) hx hb dX11_regiment_137 rfl hl (Nat.le_of_ble_eq_true rfl) rfl (fun ls hl => ?_)
            have lp70 : ∀ (n70 : Nat) (l1_70 : Int32) (v70 : Nat → Int32) (f70 : Nat → Nat → Int32) (w70 : Int64) (g70 : Nat → Int64), YI v70 → YC f70 → progOK (f70 4) (f70 5) (v70 9).toInt.toNat → v70 0 = (v2 0) → v70 1 = (v2 1) → v70 2 = (v2 2) → v70 3 = (v2 3) → v70 4 = (v2 4) → v70 5 = (v2 5) → v70 8 = (v2 8) → v70 9 = (v2 8) → v70 10 = (v2 10) → v70 13 = (v2 13) → v70 14 = (v2 14) → v70 15 = (v2 15) → v70 17 = (v2 17) → v70 18 = (v2 18) → v70 24 = (v2 17) → v70 25 = (v2 18) → v70 35 = (v 35) → v70 36 = (v 36) → v70 38 = (v 38) → v70 39 = (v 39) → gsY_X11_regiment_1_L70 NF v2 n70 l1_70 v70 f70 w70 g70 = (gsY_X11_regiment_1 NF v f w g) → ((0 : Int) ≤ l1_70.toInt ∧ l1_70.toInt ≤ 2147483647) → KV [0, 1, 2, 3, 4, 5, 6, 7, 8, 9, 10, 11, 12, 13, 14, 15, 16, 17, 18, 19, 20, 21, 22, 23, 24, 25, 26, 27, 28, 29, 30, 31, 32, 33, 34, 35, 36, 37, 38] v70 v → KF [2, 3, 4, 5, 6, 9, 10, 11, 12, 13, 14, 15, 16, 17, 18, 19, 20, 21, 22, 23, 24, 36] f70 f → f70 2 = (f3 2) → f70 3 = (f3 3) → (2147483647 - l1_70.toInt).toNat < n70 → ∀ (H : Heap) (locs : List Loc) (ls : Array Slot), va_P (dC, dI) vwCl (YW cy y0 r v70 f70 w70 g70) H → va_D A (YW cy y0 r v70 f70 w70 g70) → va_S A s.heap H locs → lv_has ls 2 [(1, .int l1_70), (0, .ref y0)] → W p l e { frames := 9, cells := 0, slots := 0, locals := 232 } s m ([.ref y0] : List Value).toArray below meth c H locs 0 0 Q (F0 m 138 ls []) := by
              intro n70
              induction n70 with
              | zero => intro l1_70 v70 f70 w70 g70 hIv70 hCf70 hRf70 hq0_v70 hq1_v70 hq2_v70 hq3_v70 hq4_v70 hq5_v70 hq8_v70 hq9_v70 hq10_v70 hq13_v70 hq14_v70 hq15_v70 hq17_v70 hq18_v70 hq24_v70 hq25_v70 hq35_v70 hq36_v70 hq38_v70 hq39_v70 hT70 hr1_70 hM_v70 hA_f70 hs2_f70 hs3_f70 hm; exact absurd hm (Nat.not_lt_zero _)
              | succ n70 ih70 =>
                intro l1_70 v70 f70 w70 g70 hIv70 hCf70 hRf70 hq0_v70 hq1_v70 hq2_v70 hq3_v70 hq4_v70 hq5_v70 hq8_v70 hq9_v70 hq10_v70 hq13_v70 hq14_v70 hq15_v70 hq17_v70 hq18_v70 hq24_v70 hq25_v70 hq35_v70 hq36_v70 hq38_v70 hq39_v70 hT70 hr1_70 hM_v70 hA_f70 hs2_f70 hs3_f70 hm70 H locs ls hP hD hS hl
                have hUv70 : (v70 35).toInt + (v70 36).toInt ≤ 40 := hIv70.2
                have zq0_v70 := congrArg Int32.toInt hq0_v70
                try clear zq0_v66
                have zq1_v70 := congrArg Int32.toInt hq1_v70
                try clear zq1_v66
                have zq8_v70 := congrArg Int32.toInt hq8_v70
                try clear zq8_v66
                have zq9_v70 := congrArg Int32.toInt hq9_v70
                try clear zq9_v66
                have zq10_v70 := congrArg Int32.toInt hq10_v70
                try clear zq10_v66
                have zq13_v70 := congrArg Int32.toInt hq13_v70
                try clear zq13_v66
                have zq14_v70 := congrArg Int32.toInt hq14_v70
                try clear zq14_v66
                have zq15_v70 := congrArg Int32.toInt hq15_v70
                try clear zq15_v66
                have zq17_v70 := congrArg Int32.toInt hq17_v70
                try clear zq17_v66
                have zq18_v70 := congrArg Int32.toInt hq18_v70
                try clear zq18_v66
                have zq35_v70 := congrArg Int32.toInt hq35_v70
                try clear zq35_v66
                have zq36_v70 := congrArg Int32.toInt hq36_v70
                try clear zq36_v66
                refine lv_iload_n hx hb dX11_regiment_138 rfl (lv_at hl 0 rfl) ?_
                refine lv_aload_n hx hb dX11_regiment_139 rfl (lv_at hl 1 rfl) ?_
                refine va_get (D := (dC, dI)) (ci := 11) (v := .int (v70 24)) (C := RX11) (T := TX11) (N := 79) hx hb hts inB_11 hown hE.1 hP 0 rfl rfl 48 (Nat.le_of_ble_eq_true rfl) (hts _ k_1368) (fun _ h9 => h9) rfl dX11_regiment_140 ?_
                refine tI (y := (v2 17)) hq24_v70 ?_
                have b17_v2 : 0 ≤ (v2 17).toInt ∧ (v2 17).toInt ≤ 6 := Yb_17 hIv2.1
                refine lv_icmp_ge (tgt := 188) hx hb dX11_regiment_143 rfl (fun c71 => ?_) (fun c71 => ?_)
                · skip
                  have zc71 : (v2 17).toInt ≤ l1_70.toInt := zMp rfl rfl c71
                  have rg72 := fb_rng l1_70
                  have rg73 := fb_rng (v2 17)
                  refine lv_iconst (v := 0) hx hb dX11_regiment_188 rfl ?_
                  refine lv_istore_n (lv' := [(1, .int 0), (0, .ref y0)]) hx hb dX11_regiment_189 rfl hl (Nat.le_of_ble_eq_true rfl) rfl (fun ls hl => ?_)
                  have lp74 : ∀ (n74 : Nat) (l1_74 : Int32) (v74 : Nat → Int32) (f74 : Nat → Nat → Int32) (w74 : Int64) (g74 : Nat → Int64), YI v74 → YC f74 → progOK (f74 4) (f74 5) (v74 9).toInt.toNat → v74 0 = (v2 0) → v74 1 = (v2 1) → v74 2 = (v2 2) → v74 3 = (v2 3) → v74 4 = (v2 4) → v74 5 = (v2 5) → v74 8 = (v2 8) → v74 9 = (v2 8) → v74 10 = (v2 10) → v74 13 = (v2 13) → v74 14 = (v2 14) → v74 15 = (v2 15) → v74 17 = (v2 17) → v74 18 = (v2 18) → v74 24 = (v2 17) → v74 25 = (v2 18) → v74 35 = (v 35) → v74 36 = (v 36) → v74 38 = (v 38) → v74 39 = (v 39) → gsY_X11_regiment_1_L74 NF v2 n74 l1_74 v74 f74 w74 g74 = (gsY_X11_regiment_1 NF v f w g) → ((0 : Int) ≤ l1_74.toInt ∧ l1_74.toInt ≤ 2147483647) → KV [0, 1, 2, 3, 4, 5, 6, 7, 8, 9, 10, 11, 12, 13, 14, 15, 16, 17, 18, 19, 20, 21, 22, 23, 24, 25, 26, 27, 28, 29, 30, 31, 32, 33, 34, 35, 36, 37, 38] v74 v → KF [2, 3, 4, 5, 6, 9, 10, 11, 12, 13, 14, 15, 16, 17, 18, 19, 20, 21, 22, 23, 24, 36] f74 f → f74 2 = (f3 2) → f74 3 = (f3 3) → (2147483647 - l1_74.toInt).toNat < n74 → ∀ (H : Heap) (locs : List Loc) (ls : Array Slot), va_P (dC, dI) vwCl (YW cy y0 r v74 f74 w74 g74) H → va_D A (YW cy y0 r v74 f74 w74 g74) → va_S A s.heap H locs → lv_has ls 2 [(1, .int l1_74), (0, .ref y0)] → W p l e { frames := 9, cells := 0, slots := 0, locals := 232 } s m ([.ref y0] : List Value).toArray below meth c H locs 0 0 Q (F0 m 190 ls []) := by
                    intro n74
                    induction n74 with
                    | zero => intro l1_74 v74 f74 w74 g74 hIv74 hCf74 hRf74 hq0_v74 hq1_v74 hq2_v74 hq3_v74 hq4_v74 hq5_v74 hq8_v74 hq9_v74 hq10_v74 hq13_v74 hq14_v74 hq15_v74 hq17_v74 hq18_v74 hq24_v74 hq25_v74 hq35_v74 hq36_v74 hq38_v74 hq39_v74 hT74 hr1_74 hM_v74 hA_f74 hs2_f74 hs3_f74 hm; exact absurd hm (Nat.not_lt_zero _)
                    | succ n74 ih74 =>
                      intro l1_74 v74 f74 w74 g74 hIv74 hCf74 hRf74 hq0_v74 hq1_v74 hq2_v74 hq3_v74 hq4_v74 hq5_v74 hq8_v74 hq9_v74 hq10_v74 hq13_v74 hq14_v74 hq15_v74 hq17_v74 hq18_v74 hq24_v74 hq25_v74 hq35_v74 hq36_v74 hq38_v74 hq39_v74 hT74 hr1_74 hM_v74 hA_f74 hs2_f74 hs3_f74 hm74 H locs ls hP hD hS hl
                      have hUv74 : (v74 35).toInt + (v74 36).toInt ≤ 40 := hIv74.2
                      have zq0_v74 := congrArg Int32.toInt hq0_v74
                      try clear zq0_v70
                      have zq1_v74 := congrArg Int32.toInt hq1_v74
                      try clear zq1_v70
                      have zq8_v74 := congrArg Int32.toInt hq8_v74
                      try clear zq8_v70
                      have zq9_v74 := congrArg Int32.toInt hq9_v74
                      try clear zq9_v70
                      have zq10_v74 := congrArg Int32.toInt hq10_v74
                      try clear zq10_v70
                      have zq13_v74 := congrArg Int32.toInt hq13_v74
                      try clear zq13_v70
                      have zq14_v74 := congrArg Int32.toInt hq14_v74
                      try clear zq14_v70
                      have zq15_v74 := congrArg Int32.toInt hq15_v74
                      try clear zq15_v70
                      have zq17_v74 := congrArg Int32.toInt hq17_v74
                      try clear zq17_v70
                      have zq18_v74 := congrArg Int32.toInt hq18_v74
                      try clear zq18_v70
                      have zq35_v74 := congrArg Int32.toInt hq35_v74
                      try clear zq35_v70
                      have zq36_v74 := congrArg Int32.toInt hq36_v74
                      try clear zq36_v70
                      refine lv_iload_n hx hb dX11_regiment_190 rfl (lv_at hl 0 rfl) ?_
                      refine lv_aload_n hx hb dX11_regiment_191 rfl (lv_at hl 1 rfl) ?_
                      refine va_get (D := (dC, dI)) (ci := 11) (v := .int (v74 25)) (C := RX11) (T := TX11) (N := 79) hx hb hts inB_11 hown hE.1 hP 0 rfl rfl 49 (Nat.le_of_ble_eq_true rfl) (hts _ k_1369) (fun _ h9 => h9) rfl dX11_regiment_192 ?_
                      refine tI (y := (v2 18)) hq25_v74 ?_
                      have b18_v2 : 0 ≤ (v2 18).toInt ∧ (v2 18).toInt ≤ 6 := Yb_18 hIv2.1
                      refine lv_icmp_ge (tgt := 252) hx hb dX11_regiment_195 rfl (fun c75 => ?_) (fun c75 => ?_)
                      · skip
                        have zc75 : (v2 18).toInt ≤ l1_74.toInt := zMp rfl rfl c75
                        have rg76 := fb_rng l1_74
                        have rg77 := fb_rng (v2 18)
                        refine lv_aload_n hx hb dX11_regiment_252 rfl (lv_at hl 1 rfl) ?_
                        refine cbVv (n := 0) (rest := []) hx hb hml hown hts hE hP hD hS hA (sY_X11_begin_1 NF l dC dI cy y0 r  v74 f74 w74 g74 hIv74 hCf74 hRf74 ) k_1716 k_1718 k_68 k_114 k_1719 hd_yX11_begin ⟨Nat.le_of_ble_eq_true rfl, Nat.le_of_ble_eq_true rfl⟩ 0 11 rfl rfl (rfl) hl.1 rfl (Nat.le_of_ble_eq_true rfl) dX11_regiment_253 (fun u H locs hw hP hD hS => ?_)
                        obtain ⟨hG78, hw⟩ := hw
                        obtain ⟨v79, f80, w81, g82⟩ := u
                        obtain ⟨kV_v79, kF_f80, hIv79, hCf80, hRf80, hk0_v79, hk1_v79, hk2_v79, hk3_v79, hk4_v79, hk5_v79, hk8_v79, hk9_v79, hk10_v79, hk13_v79, hk14_v79, hk15_v79, hk17_v79, hk18_v79, hk24_v79, hk25_v79, hk35_v79, hk36_v79, hk38_v79, hk39_v79⟩ := hw
                        have hM_v79 : KV [0, 1, 2, 3, 4, 5, 6, 7, 8, 9, 10, 11, 12, 13, 14, 15, 16, 17, 18, 19, 20, 21, 22, 23, 24, 25, 26, 27, 28, 29, 30, 31, 32, 33, 34, 35, 36, 37, 38] v79 v := KV.tr kV_v79 hM_v74 (by decide +kernel)
                        have hA_f80 : KF [2, 3, 4, 5, 6, 9, 10, 11, 12, 13, 14, 15, 16, 17, 18, 19, 20, 21, 22, 23, 24, 36] f80 f := KF.tr kF_f80 hA_f74 (by decide +kernel)
                        have hP : va_P (dC, dI) vwCl (YW cy y0 r v79 f80 w81 g82) H := hP
                        have hD : va_D A (YW cy y0 r v79 f80 w81 g82) := hD
                        have hUv79 : (v79 35).toInt + (v79 36).toInt ≤ 40 := hIv79.2
                        have hq0_v79 : v79 0 = (v2 0) := hk0_v79.trans hq0_v74
                        have zq0_v79 := congrArg Int32.toInt hq0_v79
                        try clear zq0_v74
                        have hq1_v79 : v79 1 = (v2 1) := hk1_v79.trans hq1_v74
                        have zq1_v79 := congrArg Int32.toInt hq1_v79
                        try clear zq1_v74
                        have hq2_v79 : v79 2 = (v2 2) := hk2_v79.trans hq2_v74
                        have hq3_v79 : v79 3 = (v2 3) := hk3_v79.trans hq3_v74
                        have hq4_v79 : v79 4 = (v2 4) := hk4_v79.trans hq4_v74
                        have hq5_v79 : v79 5 = (v2 5) := hk5_v79.trans hq5_v74
                        have hq8_v79 : v79 8 = (v2 8) := hk8_v79.trans hq8_v74
                        have zq8_v79 := congrArg Int32.toInt hq8_v79
                        try clear zq8_v74
                        have hq9_v79 : v79 9 = (v2 8) := hk9_v79.trans hq9_v74
                        have zq9_v79 := congrArg Int32.toInt hq9_v79
                        try clear zq9_v74
                        have hq10_v79 : v79 10 = (v2 10) := hk10_v79.trans hq10_v74
                        have zq10_v79 := congrArg Int32.toInt hq10_v79
                        try clear zq10_v74
                        have hq13_v79 : v79 13 = (v2 13) := hk13_v79.trans hq13_v74
                        have zq13_v79 := congrArg Int32.toInt hq13_v79
                        try clear zq13_v74
                        have hq14_v79 : v79 14 = (v2 14) := hk14_v79.trans hq14_v74
                        have zq14_v79 := congrArg Int32.toInt hq14_v79
                        try clear zq14_v74
                        have hq15_v79 : v79 15 = (v2 15) := hk15_v79.trans hq15_v74
                        have zq15_v79 := congrArg Int32.toInt hq15_v79
                        try clear zq15_v74
                        have hq17_v79 : v79 17 = (v2 17) := hk17_v79.trans hq17_v74
                        have zq17_v79 := congrArg Int32.toInt hq17_v79
                        try clear zq17_v74
                        have hq18_v79 : v79 18 = (v2 18) := hk18_v79.trans hq18_v74
                        have zq18_v79 := congrArg Int32.toInt hq18_v79
                        try clear zq18_v74
                        have hq24_v79 : v79 24 = (v2 17) := hk24_v79.trans hq24_v74
                        have hq25_v79 : v79 25 = (v2 18) := hk25_v79.trans hq25_v74
                        have hq35_v79 : v79 35 = (v 35) := hk35_v79.trans hq35_v74
                        have zq35_v79 := congrArg Int32.toInt hq35_v79
                        try clear zq35_v74
                        have hq36_v79 : v79 36 = (v 36) := hk36_v79.trans hq36_v74
                        have zq36_v79 := congrArg Int32.toInt hq36_v79
                        try clear zq36_v74
                        have hq39_v79 : v79 39 = (v 39) := hk39_v79.trans hq39_v74
                        refine lv_aload_n hx hb dX11_regiment_256 rfl (lv_at hl 1 rfl) ?_
                        refine va_get (D := (dC, dI)) (ci := 11) (v := .ref (r 60)) (C := RX11) (T := TX11) (N := 79) hx hb hts inB_11 hown hE.1 hP 0 rfl rfl 60 (Nat.le_of_ble_eq_true rfl) (hts _ k_1380) (fun _ h9 => h9) rfl dX11_regiment_257 ?_
                        refine lv_bipush (v := 38) hx hb dX11_regiment_260 rfl ?_
                        refine lv_aload_n hx hb dX11_regiment_262 rfl (lv_at hl 1 rfl) ?_
                        refine va_get (D := (dC, dI)) (ci := 11) (v := .int (v79 23)) (C := RX11) (T := TX11) (N := 79) hx hb hts inB_11 hown hE.1 hP 0 rfl rfl 47 (Nat.le_of_ble_eq_true rfl) (hts _ k_1367) (fun _ h9 => h9) rfl dX11_regiment_263 ?_
                        refine stI hx hb hE hP hD hS 25 rfl (vp_in_nI (n := 38) (by decide) (by decide)) rfl dX11_regiment_266 (fun H locs hP hD hS => ?_)
                        obtain ⟨f83, ef83, hP, hD⟩ : ∃ fz9, fz9 = upd2 f80 24 (upd (f80 24) (38 : Int32).toNatClampNeg (v79 23)) ∧ va_P (dC, dI) vwCl (YW cy y0 r v79 fz9 w81 g82) H ∧ va_D A (YW cy y0 r v79 fz9 w81 g82) := ⟨_, rfl, hP, hD⟩
                        have hCf83 : YC f83 := by rw [ef83]; exact ⟨hCf80.1, (wear_st hCf80.2.1 (by show 38 % 39 < 6 ∨ 12 ≤ 38 % 39 ∨ (-1 ≤ (v79 23).toInt ∧ (v79 23).toInt ≤ 5); omega)), hCf80.2.2.1, hCf80.2.2.2.1, hCf80.2.2.2.2.1, hCf80.2.2.2.2.2⟩
                        have hRf83 : progOK (f83 4) (f83 5) (v79 9).toInt.toNat := by rw [ef83]; exact hRf80
                        have hA_f83 : KF [2, 3, 4, 5, 6, 9, 10, 11, 12, 13, 14, 15, 16, 17, 18, 19, 20, 21, 22, 23, 24, 36] f83 f := by rw [ef83]; exact KF.up hA_f80 rfl
                        refine lv_aload_n hx hb dX11_regiment_267 rfl (lv_at hl 1 rfl) ?_
                        refine cbVv (n := 0) (rest := []) hx hb hml hown hts hE hP hD hS hA (sY_X11_keepAir_1 NF l dC dI cy y0 r  v79 f83 w81 g82 hIv79 hCf83 hRf83 ) k_1720 k_1722 k_69 k_114 k_1723 hd_yX11_keepAir ⟨Nat.le_of_ble_eq_true rfl, Nat.le_of_ble_eq_true rfl⟩ 0 11 rfl rfl (rfl) hl.1 rfl (Nat.le_of_ble_eq_true rfl) dX11_regiment_268 (fun u H locs hw hP hD hS => ?_)
                        obtain ⟨hG84, hw⟩ := hw
                        obtain ⟨v85, f86, w87, g88⟩ := u
                        obtain ⟨kV_v85, kF_f86, hIv85, hCf86, hRf86, hk0_v85, hk1_v85, hk2_v85, hk3_v85, hk4_v85, hk5_v85, hk8_v85, hk9_v85, hk10_v85, hk13_v85, hk14_v85, hk15_v85, hk17_v85, hk18_v85, hk24_v85, hk25_v85, hk35_v85, hk36_v85, hk38_v85, hk39_v85⟩ := hw
                        have hM_v85 : KV [0, 1, 2, 3, 4, 5, 6, 7, 8, 9, 10, 11, 12, 13, 14, 15, 16, 17, 18, 19, 20, 21, 22, 23, 24, 25, 26, 27, 28, 29, 30, 31, 32, 33, 34, 35, 36, 37, 38] v85 v := KV.tr kV_v85 hM_v79 (by decide +kernel)
                        have hA_f86 : KF [2, 3, 4, 5, 6, 9, 10, 11, 12, 13, 14, 15, 16, 17, 18, 19, 20, 21, 22, 23, 24, 36] f86 f := KF.tr kF_f86 hA_f83 (by decide +kernel)
                        have hP : va_P (dC, dI) vwCl (YW cy y0 r v85 f86 w87 g88) H := hP
                        have hD : va_D A (YW cy y0 r v85 f86 w87 g88) := hD
                        have hUv85 : (v85 35).toInt + (v85 36).toInt ≤ 40 := hIv85.2
                        have hq0_v85 : v85 0 = (v2 0) := hk0_v85.trans hq0_v79
                        have zq0_v85 := congrArg Int32.toInt hq0_v85
                        try clear zq0_v79
                        have hq1_v85 : v85 1 = (v2 1) := hk1_v85.trans hq1_v79
                        have zq1_v85 := congrArg Int32.toInt hq1_v85
                        try clear zq1_v79
                        have hq2_v85 : v85 2 = (v2 2) := hk2_v85.trans hq2_v79
                        have hq3_v85 : v85 3 = (v2 3) := hk3_v85.trans hq3_v79
                        have hq4_v85 : v85 4 = (v2 4) := hk4_v85.trans hq4_v79
                        have hq5_v85 : v85 5 = (v2 5) := hk5_v85.trans hq5_v79
                        have hq8_v85 : v85 8 = (v2 8) := hk8_v85.trans hq8_v79
                        have zq8_v85 := congrArg Int32.toInt hq8_v85
                        try clear zq8_v79
                        have hq9_v85 : v85 9 = (v2 8) := hk9_v85.trans hq9_v79
                        have zq9_v85 := congrArg Int32.toInt hq9_v85
                        try clear zq9_v79
                        have hq10_v85 : v85 10 = (v2 10) := hk10_v85.trans hq10_v79
                        have zq10_v85 := congrArg Int32.toInt hq10_v85
                        try clear zq10_v79
                        have hq13_v85 : v85 13 = (v2 13) := hk13_v85.trans hq13_v79
                        have zq13_v85 := congrArg Int32.toInt hq13_v85
                        try clear zq13_v79
                        have hq14_v85 : v85 14 = (v2 14) := hk14_v85.trans hq14_v79
                        have zq14_v85 := congrArg Int32.toInt hq14_v85
                        try clear zq14_v79
                        have hq15_v85 : v85 15 = (v2 15) := hk15_v85.trans hq15_v79
                        have zq15_v85 := congrArg Int32.toInt hq15_v85
                        try clear zq15_v79
                        have hq17_v85 : v85 17 = (v2 17) := hk17_v85.trans hq17_v79
                        have zq17_v85 := congrArg Int32.toInt hq17_v85
                        try clear zq17_v79
                        have hq18_v85 : v85 18 = (v2 18) := hk18_v85.trans hq18_v79
                        have zq18_v85 := congrArg Int32.toInt hq18_v85
                        try clear zq18_v79
                        have hq24_v85 : v85 24 = (v2 17) := hk24_v85.trans hq24_v79
                        have hq25_v85 : v85 25 = (v2 18) := hk25_v85.trans hq25_v79
                        have hq35_v85 : v85 35 = (v 35) := hk35_v85.trans hq35_v79
                        have zq35_v85 := congrArg Int32.toInt hq35_v85
                        try clear zq35_v79
                        have hq36_v85 : v85 36 = (v 36) := hk36_v85.trans hq36_v79
                        have zq36_v85 := congrArg Int32.toInt hq36_v85
                        try clear zq36_v79
                        have hq39_v85 : v85 39 = (v 39) := hk39_v85.trans hq39_v79
                        refine lv_aload_n hx hb dX11_regiment_271 rfl (lv_at hl 1 rfl) ?_
                        refine lv_iconst (v := 0) hx hb dX11_regiment_272 rfl ?_
                        refine va_put (D := (dC, dI)) (ci := 11) (v := .int 0) (ty := tyX11 62) (C := RX11) (T := TX11) (N := 79) hx hb hts inB_11 tyX11 tyX11_ok nmX11 hown hE.1 hP hD hS 0 rfl rfl 62 (Nat.le_of_ble_eq_true rfl) (hts _ k_1382) (fun _ h9 => h9) rfl (tyX11_ok 62 (Nat.le_of_ble_eq_true rfl)) rfl rfl (Nat.le_of_ble_eq_true rfl) dX11_regiment_273 (fun H locs hP hD hS => ?_)
                        have hP : va_P (dC, dI) vwCl (YW cy y0 r (upd v85 35 0) f86 w87 g88) H := hP
                        have hD : va_D A (YW cy y0 r (upd v85 35 0) f86 w87 g88) := hD
                        refine lv_aload_n hx hb dX11_regiment_276 rfl (lv_at hl 1 rfl) ?_
                        refine lv_iconst (v := 0) hx hb dX11_regiment_277 rfl ?_
                        refine va_put (D := (dC, dI)) (ci := 11) (v := .int 0) (ty := tyX11 63) (C := RX11) (T := TX11) (N := 79) hx hb hts inB_11 tyX11 tyX11_ok nmX11 hown hE.1 hP hD hS 0 rfl rfl 63 (Nat.le_of_ble_eq_true rfl) (hts _ k_1383) (fun _ h9 => h9) rfl (tyX11_ok 63 (Nat.le_of_ble_eq_true rfl)) rfl rfl (Nat.le_of_ble_eq_true rfl) dX11_regiment_278 (fun H locs hP hD hS => ?_)
                        have hP : va_P (dC, dI) vwCl (YW cy y0 r (upd (upd v85 35 0) 36 0) f86 w87 g88) H := hP
                        have hD : va_D A (YW cy y0 r (upd (upd v85 35 0) 36 0) f86 w87 g88) := hD
                        refine lv_aload_n hx hb dX11_regiment_281 rfl (lv_at hl 1 rfl) ?_
                        refine lv_iconst (v := 0) hx hb dX11_regiment_282 rfl ?_
                        refine va_put (D := (dC, dI)) (ci := 11) (v := .int 0) (ty := tyX11 73) (C := RX11) (T := TX11) (N := 79) hx hb hts inB_11 tyX11 tyX11_ok nmX11 hown hE.1 hP hD hS 0 rfl rfl 73 (Nat.le_of_ble_eq_true rfl) (hts _ k_1393) (fun _ h9 => h9) rfl (tyX11_ok 73 (Nat.le_of_ble_eq_true rfl)) rfl rfl (Nat.le_of_ble_eq_true rfl) dX11_regiment_283 (fun H locs hP hD hS => ?_)
                        have hP : va_P (dC, dI) vwCl (YW cy y0 r (upd (upd (upd v85 35 0) 36 0) 38 0) f86 w87 g88) H := hP
                        have hD : va_D A (YW cy y0 r (upd (upd (upd v85 35 0) 36 0) 38 0) f86 w87 g88) := hD
                        refine lv_aload_n hx hb dX11_regiment_286 rfl (lv_at hl 1 rfl) ?_
                        refine lv_iconst (v := 0) hx hb dX11_regiment_287 rfl ?_
                        refine va_put (D := (dC, dI)) (ci := 11) (v := .int 0) (ty := tyX11 67) (C := RX11) (T := TX11) (N := 79) hx hb hts inB_11 tyX11 tyX11_ok nmX11 hown hE.1 hP hD hS 0 rfl rfl 67 (Nat.le_of_ble_eq_true rfl) (hts _ k_1387) (fun _ h9 => h9) rfl (tyX11_ok 67 (Nat.le_of_ble_eq_true rfl)) rfl rfl (Nat.le_of_ble_eq_true rfl) dX11_regiment_288 (fun H locs hP hD hS => ?_)
                        have hP : va_P (dC, dI) vwCl (YW cy y0 r (upd (upd (upd (upd v85 35 0) 36 0) 38 0) 37 0) f86 w87 g88) H := hP
                        have hD : va_D A (YW cy y0 r (upd (upd (upd (upd v85 35 0) 36 0) 38 0) 37 0) f86 w87 g88) := hD
                        refine lv_iconst (v := 0) hx hb dX11_regiment_291 rfl ?_
                        refine lv_istore_n (lv' := [(1, .int 0), (0, .ref y0)]) hx hb dX11_regiment_292 rfl hl (Nat.le_of_ble_eq_true rfl) rfl (fun ls hl => ?_)
                        have lp89 : ∀ (n89 : Nat) (l1_89 : Int32) (v89 : Nat → Int32) (f89 : Nat → Nat → Int32) (w89 : Int64) (g89 : Nat → Int64), YI v89 → YC f89 → progOK (f89 4) (f89 5) (v89 9).toInt.toNat → v89 0 = (v2 0) → v89 1 = (v2 1) → v89 2 = (v2 2) → v89 3 = (v2 3) → v89 4 = (v2 4) → v89 5 = (v2 5) → v89 8 = (v2 8) → v89 9 = (v2 8) → v89 10 = (v2 10) → v89 13 = (v2 13) → v89 14 = (v2 14) → v89 15 = (v2 15) → v89 17 = (v2 17) → v89 18 = (v2 18) → v89 24 = (v2 17) → v89 25 = (v2 18) → v89 35 = 0 → v89 36 = 0 → v89 38 = 0 → v89 39 = (v 39) → gsY_X11_regiment_1_L89 NF v2 n89 l1_89 v89 f89 w89 g89 = (gsY_X11_regiment_1 NF v f w g) → ((0 : Int) ≤ l1_89.toInt ∧ l1_89.toInt ≤ 2147483647) → KV [0, 1, 2, 3, 4, 5, 6, 7, 8, 9, 10, 11, 12, 13, 14, 15, 16, 17, 18, 19, 20, 21, 22, 23, 24, 25, 26, 27, 28, 29, 30, 31, 32, 33, 34, 35, 36, 37, 38] v89 v → KF [2, 3, 4, 5, 6, 9, 10, 11, 12, 13, 14, 15, 16, 17, 18, 19, 20, 21, 22, 23, 24, 36] f89 f → f89 2 = (f86 2) → f89 3 = (f86 3) → f89 4 = (f86 4) → f89 5 = (f86 5) → (2147483647 - l1_89.toInt).toNat < n89 → ∀ (H : Heap) (locs : List Loc) (ls : Array Slot), va_P (dC, dI) vwCl (YW cy y0 r v89 f89 w89 g89) H → va_D A (YW cy y0 r v89 f89 w89 g89) → va_S A s.heap H locs → lv_has ls 2 [(1, .int l1_89), (0, .ref y0)] → W p l e { frames := 9, cells := 0, slots := 0, locals := 232 } s m ([.ref y0] : List Value).toArray below meth c H locs 0 0 Q (F0 m 293 ls []) := by
                          intro n89
                          induction n89 with
                          | zero => intro l1_89 v89 f89 w89 g89 hIv89 hCf89 hRf89 hq0_v89 hq1_v89 hq2_v89 hq3_v89 hq4_v89 hq5_v89 hq8_v89 hq9_v89 hq10_v89 hq13_v89 hq14_v89 hq15_v89 hq17_v89 hq18_v89 hq24_v89 hq25_v89 hq35_v89 hq36_v89 hq38_v89 hq39_v89 hT89 hr1_89 hM_v89 hA_f89 hs2_f89 hs3_f89 hs4_f89 hs5_f89 hm; exact absurd hm (Nat.not_lt_zero _)
                          | succ n89 ih89 =>
                            intro l1_89 v89 f89 w89 g89 hIv89 hCf89 hRf89 hq0_v89 hq1_v89 hq2_v89 hq3_v89 hq4_v89 hq5_v89 hq8_v89 hq9_v89 hq10_v89 hq13_v89 hq14_v89 hq15_v89 hq17_v89 hq18_v89 hq24_v89 hq25_v89 hq35_v89 hq36_v89 hq38_v89 hq39_v89 hT89 hr1_89 hM_v89 hA_f89 hs2_f89 hs3_f89 hs4_f89 hs5_f89 hm89 H locs ls hP hD hS hl
                            have zq0_v89 := congrArg Int32.toInt hq0_v89
                            try clear zq0_v85
                            try clear zq1_v85
                            try clear zq8_v85
                            try clear zq9_v85
                            try clear zq10_v85
                            try clear zq13_v85
                            try clear zq14_v85
                            try clear zq15_v85
                            try clear zq17_v85
                            try clear zq18_v85
                            try clear zq35_v85
                            try clear zq36_v85
                            refine lv_iload_n hx hb dX11_regiment_293 rfl (lv_at hl 0 rfl) ?_
                            refine lv_iconst (v := 3) hx hb dX11_regiment_294 rfl ?_
                            refine lv_icmp_ge (tgt := 311) hx hb dX11_regiment_295 rfl (fun c90 => ?_) (fun c90 => ?_)
                            · skip
                              refine lv_aload_n hx hb dX11_regiment_311 rfl (lv_at hl 1 rfl) ?_
                              refine va_get (D := (dC, dI)) (ci := 11) (v := .int (v89 24)) (C := RX11) (T := TX11) (N := 79) hx hb hts inB_11 hown hE.1 hP 0 rfl rfl 48 (Nat.le_of_ble_eq_true rfl) (hts _ k_1368) (fun _ h9 => h9) rfl dX11_regiment_312 ?_
                              refine tI (y := (v2 17)) hq24_v89 ?_
                              exact ret (v2 17) (v89, f89, w89, g89) _ _ _ _ _ _ rfl ⟨(hT89.symm.trans (gsY_X11_regiment_1_q9 c90)), hM_v89, hA_f89, hIv89, hCf89, hRf89, hq39_v89, (show (v89 0).toInt = 0 from om_484 pv6 zq0_v89), (Or.inl (by rw [hG1]; exact c8))⟩ hP hD hS dX11_regiment_315 (Nat.le_refl _) (Nat.le_refl _)
                            · skip
                              have zc90 : ¬ (3 ≤ l1_89.toInt) := zMn tc_3 rfl c90
                              refine lv_aload_n hx hb dX11_regiment_298 rfl (lv_at hl 1 rfl) ?_
                              refine va_get (D := (dC, dI)) (ci := 11) (v := .ref (r 77)) (C := RX11) (T := TX11) (N := 79) hx hb hts inB_11 hown hE.1 hP 0 rfl rfl 77 (Nat.le_of_ble_eq_true rfl) (hts _ k_1397) (fun _ h9 => h9) rfl dX11_regiment_299 ?_
                              refine lv_iload_n hx hb dX11_regiment_302 rfl (lv_at hl 0 rfl) ?_
                              refine lv_iconst (v := 0) hx hb dX11_regiment_303 rfl ?_
                              refine stZ hx hb hE hP hD hS 37 rfl (vpI (k := 3) rfl (show 0 ≤ l1_89.toInt from om_39 hr1_89) (show l1_89.toInt < 3 from om_485 zc90)) rfl dX11_regiment_304 (fun H locs hP hD hS => ?_)
                              obtain ⟨f91, ef91, hP, hD⟩ : ∃ fz9, fz9 = upd2 f89 36 (upd (f89 36) l1_89.toNatClampNeg (vp_nar .boolean 0)) ∧ va_P (dC, dI) vwCl (YW cy y0 r v89 fz9 w89 g89) H ∧ va_D A (YW cy y0 r v89 fz9 w89 g89) := ⟨_, rfl, hP, hD⟩
                              have hCf91 : YC f91 := by rw [ef91]; exact hCf89
                              have hRf91 : progOK (f91 4) (f91 5) (v89 9).toInt.toNat := by rw [ef91]; exact hRf89
                              have hs2_f91 : f91 2 = (f86 2) := by rw [ef91]; exact hs2_f89
                              have hs3_f91 : f91 3 = (f86 3) := by rw [ef91]; exact hs3_f89
                              have hs4_f91 : f91 4 = (f86 4) := by rw [ef91]; exact hs4_f89
                              have hs5_f91 : f91 5 = (f86 5) := by rw [ef91]; exact hs5_f89
                              have hA_f91 : KF [2, 3, 4, 5, 6, 9, 10, 11, 12, 13, 14, 15, 16, 17, 18, 19, 20, 21, 22, 23, 24, 36] f91 f := by rw [ef91]; exact KF.up hA_f89 rfl
                              obtain ⟨t92, et92⟩ : ∃ y : Int32, y = l1_89 + 1 := ⟨_, rfl⟩
                              have zt92 : t92.toInt = l1_89.toInt + 1 := (congrArg Int32.toInt et92).trans (add_i rfl tc_1 (om_41 hr1_89) (om_486 zc90))
                              refine lv_iinc (v := t92) (lv' := [(1, .int t92), (0, .ref y0)]) hx hb dX11_regiment_305 hl (k := 0) rfl et92.symm (Nat.le_of_ble_eq_true rfl) rfl (fun ls hl => ?_)
                              refine lv_goto (tgt := 293) hx hb dX11_regiment_308 rfl ?_
                              have rg94 := fb_rng t92
                              exact ih89 t92 v89 f91 w89 g89 hIv89 hCf91 hRf91 hq0_v89 hq1_v89 hq2_v89 hq3_v89 hq4_v89 hq5_v89 hq8_v89 hq9_v89 hq10_v89 hq13_v89 hq14_v89 hq15_v89 hq17_v89 hq18_v89 hq24_v89 hq25_v89 hq35_v89 hq36_v89 hq38_v89 hq39_v89 ((gsY_X11_regiment_1_q10 c90 ef91 et92).symm.trans hT89) ⟨show (0 : Int) ≤ t92.toInt from om_43 hr1_89 zt92, show t92.toInt ≤ (2147483647 : Int) from om_44 rg94⟩ hM_v89 hA_f91 hs2_f91 hs3_f91 hs4_f91 hs5_f91 (show (2147483647 - t92.toInt).toNat < n89 from om_33 hm89 zt92 rg94) _ _ _ hP hD hS (lv_sub hl [0, 1] rfl)
                        exact lp89 (4294967296 + NF) 0 (upd (upd (upd (upd v85 35 0) 36 0) 38 0) 37 0) f86 w87 g88 ⟨(Yu_37 (x := 0) (Yu_38 (x := 0) (Yu_36 (x := 0) (Yu_35 (x := 0) hIv85.1 (by decide) (by decide)) (by decide) (by decide)) (by decide) (by decide)) (by decide) (by decide)), (show (0 : Int32).toInt + (0 : Int32).toInt ≤ 40 from om_487 tc_0)⟩ hCf86 hRf86 hq0_v85 hq1_v85 hq2_v85 hq3_v85 hq4_v85 hq5_v85 hq8_v85 hq9_v85 hq10_v85 hq13_v85 hq14_v85 hq15_v85 hq17_v85 hq18_v85 hq24_v85 hq25_v85 rfl rfl rfl hq39_v85 ((gsY_X11_regiment_1_q11 c75 hG78 ef83 hG84).symm.trans hT74) ⟨by decide, by decide⟩ (KV.up (j := 37) (x := 0) (KV.up (j := 38) (x := 0) (KV.up (j := 36) (x := 0) (KV.up (j := 35) (x := 0) hM_v85 (by decide +kernel)) (by decide +kernel)) (by decide +kernel)) (by decide +kernel)) hA_f86 rfl rfl rfl rfl (by have q1 : (0 : Int32).toInt = 0 := (by decide); have qc0 : (0 : Int32).toInt = 0 := (by decide); show (2147483647 - (0 : Int32).toInt).toNat < 4294967296 + NF; omega) _ _ _ hP hD hS (lv_sub hl [0, 1] rfl)
                      · skip
                        have zc75 : ¬ ((v2 18).toInt ≤ l1_74.toInt) := zMn rfl rfl c75
                        refine lv_aload_n hx hb dX11_regiment_198 rfl (lv_at hl 1 rfl) ?_
                        refine va_get (D := (dC, dI)) (ci := 11) (v := .ref (r 37)) (C := RX11) (T := TX11) (N := 79) hx hb hts inB_11 hown hE.1 hP 0 rfl rfl 37 (Nat.le_of_ble_eq_true rfl) (hts _ k_1357) (fun _ h9 => h9) rfl dX11_regiment_199 ?_
                        refine lv_iload_n hx hb dX11_regiment_202 rfl (lv_at hl 0 rfl) ?_
                        refine lv_aload_n hx hb dX11_regiment_203 rfl (lv_at hl 1 rfl) ?_
                        refine va_get (D := (dC, dI)) (ci := 11) (v := .ref (r 30)) (C := RX11) (T := TX11) (N := 79) hx hb hts inB_11 hown hE.1 hP 0 rfl rfl 30 (Nat.le_of_ble_eq_true rfl) (hts _ k_1350) (fun _ h9 => h9) rfl dX11_regiment_204 ?_
                        refine lv_iload_n hx hb dX11_regiment_207 rfl (lv_at hl 0 rfl) ?_
                        refine ldI hx hb hE hP 13 rfl (vpI (k := 6) rfl (show 0 ≤ l1_74.toInt from om_39 hr1_74) (show l1_74.toInt < 6 from om_460 b18_v2 zc75)) rfl rfl dX11_regiment_208 ?_
                        refine lv_topi (fun t97 et97 => ?_)
                        refine stI hx hb hE hP hD hS 20 rfl (vpI (k := 6) rfl (show 0 ≤ l1_74.toInt from om_39 hr1_74) (show l1_74.toInt < 6 from om_460 b18_v2 zc75)) rfl dX11_regiment_209 (fun H locs hP hD hS => ?_)
                        obtain ⟨f98, ef98, hP, hD⟩ : ∃ fz9, fz9 = upd2 f74 19 (upd (f74 19) l1_74.toNatClampNeg t97) ∧ va_P (dC, dI) vwCl (YW cy y0 r v74 fz9 w74 g74) H ∧ va_D A (YW cy y0 r v74 fz9 w74 g74) := ⟨_, rfl, hP, hD⟩
                        have hCf98 : YC f98 := by rw [ef98]; exact hCf74
                        have hRf98 : progOK (f98 4) (f98 5) (v74 9).toInt.toNat := by rw [ef98]; exact hRf74
                        have hs2_f98 : f98 2 = (f3 2) := by rw [ef98]; exact hs2_f74
                        have hs3_f98 : f98 3 = (f3 3) := by rw [ef98]; exact hs3_f74
                        have hA_f98 : KF [2, 3, 4, 5, 6, 9, 10, 11, 12, 13, 14, 15, 16, 17, 18, 19, 20, 21, 22, 23, 24, 36] f98 f := by rw [ef98]; exact KF.up hA_f74 rfl
                        refine lv_aload_n hx hb dX11_regiment_210 rfl (lv_at hl 1 rfl) ?_
                        refine va_get (D := (dC, dI)) (ci := 11) (v := .ref (r 38)) (C := RX11) (T := TX11) (N := 79) hx hb hts inB_11 hown hE.1 hP 0 rfl rfl 38 (Nat.le_of_ble_eq_true rfl) (hts _ k_1358) (fun _ h9 => h9) rfl dX11_regiment_211 ?_
                        refine lv_iload_n hx hb dX11_regiment_214 rfl (lv_at hl 0 rfl) ?_
                        refine lv_aload_n hx hb dX11_regiment_215 rfl (lv_at hl 1 rfl) ?_
                        refine va_get (D := (dC, dI)) (ci := 11) (v := .ref (r 31)) (C := RX11) (T := TX11) (N := 79) hx hb hts inB_11 hown hE.1 hP 0 rfl rfl 31 (Nat.le_of_ble_eq_true rfl) (hts _ k_1351) (fun _ h9 => h9) rfl dX11_regiment_216 ?_
                        refine lv_iload_n hx hb dX11_regiment_219 rfl (lv_at hl 0 rfl) ?_
                        refine ldI hx hb hE hP 14 rfl (vpI (k := 6) rfl (show 0 ≤ l1_74.toInt from om_39 hr1_74) (show l1_74.toInt < 6 from om_460 b18_v2 zc75)) rfl rfl dX11_regiment_220 ?_
                        refine lv_topi (fun t99 et99 => ?_)
                        refine stI hx hb hE hP hD hS 21 rfl (vpI (k := 6) rfl (show 0 ≤ l1_74.toInt from om_39 hr1_74) (show l1_74.toInt < 6 from om_460 b18_v2 zc75)) rfl dX11_regiment_221 (fun H locs hP hD hS => ?_)
                        obtain ⟨f100, ef100, hP, hD⟩ : ∃ fz9, fz9 = upd2 f98 20 (upd (f98 20) l1_74.toNatClampNeg t99) ∧ va_P (dC, dI) vwCl (YW cy y0 r v74 fz9 w74 g74) H ∧ va_D A (YW cy y0 r v74 fz9 w74 g74) := ⟨_, rfl, hP, hD⟩
                        have hCf100 : YC f100 := by rw [ef100]; exact hCf98
                        have hRf100 : progOK (f100 4) (f100 5) (v74 9).toInt.toNat := by rw [ef100]; exact hRf98
                        have hs2_f100 : f100 2 = (f3 2) := by rw [ef100]; exact hs2_f98
                        have hs3_f100 : f100 3 = (f3 3) := by rw [ef100]; exact hs3_f98
                        have hA_f100 : KF [2, 3, 4, 5, 6, 9, 10, 11, 12, 13, 14, 15, 16, 17, 18, 19, 20, 21, 22, 23, 24, 36] f100 f := by rw [ef100]; exact KF.up hA_f98 rfl
                        refine lv_aload_n hx hb dX11_regiment_222 rfl (lv_at hl 1 rfl) ?_
                        refine va_get (D := (dC, dI)) (ci := 11) (v := .ref (r 39)) (C := RX11) (T := TX11) (N := 79) hx hb hts inB_11 hown hE.1 hP 0 rfl rfl 39 (Nat.le_of_ble_eq_true rfl) (hts _ k_1359) (fun _ h9 => h9) rfl dX11_regiment_223 ?_
                        refine lv_iload_n hx hb dX11_regiment_226 rfl (lv_at hl 0 rfl) ?_
                        refine lv_aload_n hx hb dX11_regiment_227 rfl (lv_at hl 1 rfl) ?_
                        refine va_get (D := (dC, dI)) (ci := 11) (v := .ref (r 32)) (C := RX11) (T := TX11) (N := 79) hx hb hts inB_11 hown hE.1 hP 0 rfl rfl 32 (Nat.le_of_ble_eq_true rfl) (hts _ k_1352) (fun _ h9 => h9) rfl dX11_regiment_228 ?_
                        refine lv_iload_n hx hb dX11_regiment_231 rfl (lv_at hl 0 rfl) ?_
                        refine ldI hx hb hE hP 15 rfl (vpI (k := 6) rfl (show 0 ≤ l1_74.toInt from om_39 hr1_74) (show l1_74.toInt < 6 from om_460 b18_v2 zc75)) rfl rfl dX11_regiment_232 ?_
                        refine lv_topi (fun t101 et101 => ?_)
                        refine stI hx hb hE hP hD hS 22 rfl (vpI (k := 6) rfl (show 0 ≤ l1_74.toInt from om_39 hr1_74) (show l1_74.toInt < 6 from om_460 b18_v2 zc75)) rfl dX11_regiment_233 (fun H locs hP hD hS => ?_)
                        obtain ⟨f102, ef102, hP, hD⟩ : ∃ fz9, fz9 = upd2 f100 21 (upd (f100 21) l1_74.toNatClampNeg t101) ∧ va_P (dC, dI) vwCl (YW cy y0 r v74 fz9 w74 g74) H ∧ va_D A (YW cy y0 r v74 fz9 w74 g74) := ⟨_, rfl, hP, hD⟩
                        have hCf102 : YC f102 := by rw [ef102]; exact hCf100
                        have hRf102 : progOK (f102 4) (f102 5) (v74 9).toInt.toNat := by rw [ef102]; exact hRf100
                        have hs2_f102 : f102 2 = (f3 2) := by rw [ef102]; exact hs2_f100
                        have hs3_f102 : f102 3 = (f3 3) := by rw [ef102]; exact hs3_f100
                        have hA_f102 : KF [2, 3, 4, 5, 6, 9, 10, 11, 12, 13, 14, 15, 16, 17, 18, 19, 20, 21, 22, 23, 24, 36] f102 f := by rw [ef102]; exact KF.up hA_f100 rfl
                        refine lv_aload_n hx hb dX11_regiment_234 rfl (lv_at hl 1 rfl) ?_
                        refine va_get (D := (dC, dI)) (ci := 11) (v := .ref (r 40)) (C := RX11) (T := TX11) (N := 79) hx hb hts inB_11 hown hE.1 hP 0 rfl rfl 40 (Nat.le_of_ble_eq_true rfl) (hts _ k_1360) (fun _ h9 => h9) rfl dX11_regiment_235 ?_
                        refine lv_iload_n hx hb dX11_regiment_238 rfl (lv_at hl 0 rfl) ?_
                        refine lv_aload_n hx hb dX11_regiment_239 rfl (lv_at hl 1 rfl) ?_
                        refine va_get (D := (dC, dI)) (ci := 11) (v := .ref (r 33)) (C := RX11) (T := TX11) (N := 79) hx hb hts inB_11 hown hE.1 hP 0 rfl rfl 33 (Nat.le_of_ble_eq_true rfl) (hts _ k_1353) (fun _ h9 => h9) rfl dX11_regiment_240 ?_
                        refine lv_iload_n hx hb dX11_regiment_243 rfl (lv_at hl 0 rfl) ?_
                        refine ldI hx hb hE hP 16 rfl (vpI (k := 6) rfl (show 0 ≤ l1_74.toInt from om_39 hr1_74) (show l1_74.toInt < 6 from om_460 b18_v2 zc75)) rfl rfl dX11_regiment_244 ?_
                        refine lv_topi (fun t103 et103 => ?_)
                        refine stI hx hb hE hP hD hS 23 rfl (vpI (k := 6) rfl (show 0 ≤ l1_74.toInt from om_39 hr1_74) (show l1_74.toInt < 6 from om_460 b18_v2 zc75)) rfl dX11_regiment_245 (fun H locs hP hD hS => ?_)
                        obtain ⟨f104, ef104, hP, hD⟩ : ∃ fz9, fz9 = upd2 f102 22 (upd (f102 22) l1_74.toNatClampNeg t103) ∧ va_P (dC, dI) vwCl (YW cy y0 r v74 fz9 w74 g74) H ∧ va_D A (YW cy y0 r v74 fz9 w74 g74) := ⟨_, rfl, hP, hD⟩
                        have hCf104 : YC f104 := by rw [ef104]; exact hCf102
                        have hRf104 : progOK (f104 4) (f104 5) (v74 9).toInt.toNat := by rw [ef104]; exact hRf102
                        have hs2_f104 : f104 2 = (f3 2) := by rw [ef104]; exact hs2_f102
                        have hs3_f104 : f104 3 = (f3 3) := by rw [ef104]; exact hs3_f102
                        have hA_f104 : KF [2, 3, 4, 5, 6, 9, 10, 11, 12, 13, 14, 15, 16, 17, 18, 19, 20, 21, 22, 23, 24, 36] f104 f := by rw [ef104]; exact KF.up hA_f102 rfl
                        obtain ⟨t105, et105⟩ : ∃ y : Int32, y = l1_74 + 1 := ⟨_, rfl⟩
                        have zt105 : t105.toInt = l1_74.toInt + 1 := (congrArg Int32.toInt et105).trans (add_i rfl tc_1 (om_41 hr1_74) (om_187 b18_v2 zc75))
                        refine lv_iinc (v := t105) (lv' := [(1, .int t105), (0, .ref y0)]) hx hb dX11_regiment_246 hl (k := 0) rfl et105.symm (Nat.le_of_ble_eq_true rfl) rfl (fun ls hl => ?_)
                        refine lv_goto (tgt := 190) hx hb dX11_regiment_249 rfl ?_
                        have rg106 := fb_rng t105
                        exact ih74 t105 v74 f104 w74 g74 hIv74 hCf104 hRf104 hq0_v74 hq1_v74 hq2_v74 hq3_v74 hq4_v74 hq5_v74 hq8_v74 hq9_v74 hq10_v74 hq13_v74 hq14_v74 hq15_v74 hq17_v74 hq18_v74 hq24_v74 hq25_v74 hq35_v74 hq36_v74 hq38_v74 hq39_v74 ((gsY_X11_regiment_1_q12 c75 et97 ef98 et99 ef100 et101 ef102 et103 ef104 et105).symm.trans hT74) ⟨show (0 : Int) ≤ t105.toInt from om_43 hr1_74 zt105, show t105.toInt ≤ (2147483647 : Int) from om_44 rg106⟩ hM_v74 hA_f104 hs2_f104 hs3_f104 (show (2147483647 - t105.toInt).toNat < n74 from om_33 hm74 zt105 rg106) _ _ _ hP hD hS (lv_sub hl [0, 1] rfl)
                  exact lp74 (4294967296 + NF) 0 v70 f70 w70 g70 hIv70 hCf70 hRf70 hq0_v70 hq1_v70 hq2_v70 hq3_v70 hq4_v70 hq5_v70 hq8_v70 hq9_v70 hq10_v70 hq13_v70 hq14_v70 hq15_v70 hq17_v70 hq18_v70 hq24_v70 hq25_v70 hq35_v70 hq36_v70 hq38_v70 hq39_v70 ((gsY_X11_regiment_1_q13 c71).symm.trans hT70) ⟨by decide, by decide⟩ hM_v70 hA_f70 hs2_f70 hs3_f70 (show (2147483647 - (0 : Int32).toInt).toNat < 4294967296 + NF from om_38 tc_0) _ _ _ hP hD hS (lv_sub hl [0, 1] rfl)
                · skip
                  have zc71 : ¬ ((v2 17).toInt ≤ l1_70.toInt) := zMn rfl rfl c71
                  refine lv_aload_n hx hb dX11_regiment_146 rfl (lv_at hl 1 rfl) ?_
                  refine va_get (D := (dC, dI)) (ci := 11) (v := .ref (r 34)) (C := RX11) (T := TX11) (N := 79) hx hb hts inB_11 hown hE.1 hP 0 rfl rfl 34 (Nat.le_of_ble_eq_true rfl) (hts _ k_1354) (fun _ h9 => h9) rfl dX11_regiment_147 ?_
                  refine lv_iload_n hx hb dX11_regiment_150 rfl (lv_at hl 0 rfl) ?_
                  refine lv_aload_n hx hb dX11_regiment_151 rfl (lv_at hl 1 rfl) ?_
                  refine va_get (D := (dC, dI)) (ci := 11) (v := .ref (r 27)) (C := RX11) (T := TX11) (N := 79) hx hb hts inB_11 hown hE.1 hP 0 rfl rfl 27 (Nat.le_of_ble_eq_true rfl) (hts _ k_1347) (fun _ h9 => h9) rfl dX11_regiment_152 ?_
                  refine lv_iload_n hx hb dX11_regiment_155 rfl (lv_at hl 0 rfl) ?_
                  refine ldI hx hb hE hP 10 rfl (vpI (k := 6) rfl (show 0 ≤ l1_70.toInt from om_39 hr1_70) (show l1_70.toInt < 6 from om_460 b17_v2 zc71)) rfl rfl dX11_regiment_156 ?_
                  refine lv_topi (fun t109 et109 => ?_)
                  refine stI hx hb hE hP hD hS 17 rfl (vpI (k := 6) rfl (show 0 ≤ l1_70.toInt from om_39 hr1_70) (show l1_70.toInt < 6 from om_460 b17_v2 zc71)) rfl dX11_regiment_157 (fun H locs hP hD hS => ?_)
                  obtain ⟨f110, ef110, hP, hD⟩ : ∃ fz9, fz9 = upd2 f70 16 (upd (f70 16) l1_70.toNatClampNeg t109) ∧ va_P (dC, dI) vwCl (YW cy y0 r v70 fz9 w70 g70) H ∧ va_D A (YW cy y0 r v70 fz9 w70 g70) := ⟨_, rfl, hP, hD⟩
                  have hCf110 : YC f110 := by rw [ef110]; exact hCf70
                  have hRf110 : progOK (f110 4) (f110 5) (v70 9).toInt.toNat := by rw [ef110]; exact hRf70
                  have hs2_f110 : f110 2 = (f3 2) := by rw [ef110]; exact hs2_f70
                  have hs3_f110 : f110 3 = (f3 3) := by rw [ef110]; exact hs3_f70
                  have hA_f110 : KF [2, 3, 4, 5, 6, 9, 10, 11, 12, 13, 14, 15, 16, 17, 18, 19, 20, 21, 22, 23, 24, 36] f110 f := by rw [ef110]; exact KF.up hA_f70 rfl
                  refine lv_aload_n hx hb dX11_regiment_158 rfl (lv_at hl 1 rfl) ?_
                  refine va_get (D := (dC, dI)) (ci := 11) (v := .ref (r 35)) (C := RX11) (T := TX11) (N := 79) hx hb hts inB_11 hown hE.1 hP 0 rfl rfl 35 (Nat.le_of_ble_eq_true rfl) (hts _ k_1355) (fun _ h9 => h9) rfl dX11_regiment_159 ?_
                  refine lv_iload_n hx hb dX11_regiment_162 rfl (lv_at hl 0 rfl) ?_
                  refine lv_aload_n hx hb dX11_regiment_163 rfl (lv_at hl 1 rfl) ?_
                  refine va_get (D := (dC, dI)) (ci := 11) (v := .ref (r 28)) (C := RX11) (T := TX11) (N := 79) hx hb hts inB_11 hown hE.1 hP 0 rfl rfl 28 (Nat.le_of_ble_eq_true rfl) (hts _ k_1348) (fun _ h9 => h9) rfl dX11_regiment_164 ?_
                  refine lv_iload_n hx hb dX11_regiment_167 rfl (lv_at hl 0 rfl) ?_
                  refine ldI hx hb hE hP 11 rfl (vpI (k := 6) rfl (show 0 ≤ l1_70.toInt from om_39 hr1_70) (show l1_70.toInt < 6 from om_460 b17_v2 zc71)) rfl rfl dX11_regiment_168 ?_
                  refine lv_topi (fun t111 et111 => ?_)
                  refine stI hx hb hE hP hD hS 18 rfl (vpI (k := 6) rfl (show 0 ≤ l1_70.toInt from om_39 hr1_70) (show l1_70.toInt < 6 from om_460 b17_v2 zc71)) rfl dX11_regiment_169 (fun H locs hP hD hS => ?_)
                  obtain ⟨f112, ef112, hP, hD⟩ : ∃ fz9, fz9 = upd2 f110 17 (upd (f110 17) l1_70.toNatClampNeg t111) ∧ va_P (dC, dI) vwCl (YW cy y0 r v70 fz9 w70 g70) H ∧ va_D A (YW cy y0 r v70 fz9 w70 g70) := ⟨_, rfl, hP, hD⟩
                  have hCf112 : YC f112 := by rw [ef112]; exact hCf110
                  have hRf112 : progOK (f112 4) (f112 5) (v70 9).toInt.toNat := by rw [ef112]; exact hRf110
                  have hs2_f112 : f112 2 = (f3 2) := by rw [ef112]; exact hs2_f110
                  have hs3_f112 : f112 3 = (f3 3) := by rw [ef112]; exact hs3_f110
                  have hA_f112 : KF [2, 3, 4, 5, 6, 9, 10, 11, 12, 13, 14, 15, 16, 17, 18, 19, 20, 21, 22, 23, 24, 36] f112 f := by rw [ef112]; exact KF.up hA_f110 rfl
                  refine lv_aload_n hx hb dX11_regiment_170 rfl (lv_at hl 1 rfl) ?_
                  refine va_get (D := (dC, dI)) (ci := 11) (v := .ref (r 36)) (C := RX11) (T := TX11) (N := 79) hx hb hts inB_11 hown hE.1 hP 0 rfl rfl 36 (Nat.le_of_ble_eq_true rfl) (hts _ k_1356) (fun _ h9 => h9) rfl dX11_regiment_171 ?_
                  refine lv_iload_n hx hb dX11_regiment_174 rfl (lv_at hl 0 rfl) ?_
                  refine lv_aload_n hx hb dX11_regiment_175 rfl (lv_at hl 1 rfl) ?_
                  refine va_get (D := (dC, dI)) (ci := 11) (v := .ref (r 29)) (C := RX11) (T := TX11) (N := 79) hx hb hts inB_11 hown hE.1 hP 0 rfl rfl 29 (Nat.le_of_ble_eq_true rfl) (hts _ k_1349) (fun _ h9 => h9) rfl dX11_regiment_176 ?_
                  refine lv_iload_n hx hb dX11_regiment_179 rfl (lv_at hl 0 rfl) ?_
                  refine ldI hx hb hE hP 12 rfl (vpI (k := 6) rfl (show 0 ≤ l1_70.toInt from om_39 hr1_70) (show l1_70.toInt < 6 from om_460 b17_v2 zc71)) rfl rfl dX11_regiment_180 ?_
                  refine lv_topi (fun t113 et113 => ?_)
                  refine stI hx hb hE hP hD hS 19 rfl (vpI (k := 6) rfl (show 0 ≤ l1_70.toInt from om_39 hr1_70) (show l1_70.toInt < 6 from om_460 b17_v2 zc71)) rfl dX11_regiment_181 (fun H locs hP hD hS => ?_)
                  obtain ⟨f114, ef114, hP, hD⟩ : ∃ fz9, fz9 = upd2 f112 18 (upd (f112 18) l1_70.toNatClampNeg t113) ∧ va_P (dC, dI) vwCl (YW cy y0 r v70 fz9 w70 g70) H ∧ va_D A (YW cy y0 r v70 fz9 w70 g70) := ⟨_, rfl, hP, hD⟩
                  have hCf114 : YC f114 := by rw [ef114]; exact hCf112
                  have hRf114 : progOK (f114 4) (f114 5) (v70 9).toInt.toNat := by rw [ef114]; exact hRf112
                  have hs2_f114 : f114 2 = (f3 2) := by rw [ef114]; exact hs2_f112
                  have hs3_f114 : f114 3 = (f3 3) := by rw [ef114]; exact hs3_f112
                  have hA_f114 : KF [2, 3, 4, 5, 6, 9, 10, 11, 12, 13, 14, 15, 16, 17, 18, 19, 20, 21, 22, 23, 24, 36] f114 f := by rw [ef114]; exact KF.up hA_f112 rfl
                  obtain ⟨t115, et115⟩ : ∃ y : Int32, y = l1_70 + 1 := ⟨_, rfl⟩
                  have zt115 : t115.toInt = l1_70.toInt + 1 := (congrArg Int32.toInt et115).trans (add_i rfl tc_1 (om_41 hr1_70) (om_187 b17_v2 zc71))
                  refine lv_iinc (v := t115) (lv' := [(1, .int t115), (0, .ref y0)]) hx hb dX11_regiment_182 hl (k := 0) rfl et115.symm (Nat.le_of_ble_eq_true rfl) rfl (fun ls hl => ?_)
                  refine lv_goto (tgt := 138) hx hb dX11_regiment_185 rfl ?_
                  have rg116 := fb_rng t115
                  exact ih70 t115 v70 f114 w70 g70 hIv70 hCf114 hRf114 hq0_v70 hq1_v70 hq2_v70 hq3_v70 hq4_v70 hq5_v70 hq8_v70 hq9_v70 hq10_v70 hq13_v70 hq14_v70 hq15_v70 hq17_v70 hq18_v70 hq24_v70 hq25_v70 hq35_v70 hq36_v70 hq38_v70 hq39_v70 ((gsY_X11_regiment_1_q14 c71 et109 ef110 et111 ef112 et113 ef114 et115).symm.trans hT70) ⟨show (0 : Int) ≤ t115.toInt from om_43 hr1_70 zt115, show t115.toInt ≤ (2147483647 : Int) from om_44 rg116⟩ hM_v70 hA_f114 hs2_f114 hs3_f114 (show (2147483647 - t115.toInt).toNat < n70 from om_33 hm70 zt115 rg116) _ _ _ hP hD hS (lv_sub hl [0, 1] rfl)
            exact lp70 (4294967296 + NF) 0 v66 f66 w66 g66 hIv66 hCf66 hRf66 hq0_v66 hq1_v66 hq2_v66 hq3_v66 hq4_v66 hq5_v66 hq8_v66 hq9_v66 hq10_v66 hq13_v66 hq14_v66 hq15_v66 hq17_v66 hq18_v66 hq24_v66 hq25_v66 hq35_v66 hq36_v66 hq38_v66 hq39_v66 ((gsY_X11_regiment_1_q15 c67).symm.trans hT66) ⟨by decide, by decide⟩ hM_v66 hA_f66 hs2_f66 hs3_f66 (show (2147483647 - (0 : Int32).toInt).toNat < 4294967296 + NF from om_38 tc_0) _ _ _ hP hD hS (lv_sub hl [0, 1] rfl)
          · skip
            have zc67 : ¬ ((v2 8).toInt ≤ l1_66.toInt) := zMn rfl rfl c67
            have rg117 := fb_rng l1_66
            have rg118 := fb_rng (v2 8)
            refine lv_aload_n hx hb dX11_regiment_106 rfl (lv_at hl 1 rfl) ?_
            refine va_get (D := (dC, dI)) (ci := 11) (v := .ref (r 13)) (C := RX11) (T := TX11) (N := 79) hx hb hts inB_11 hown hE.1 hP 0 rfl rfl 13 (Nat.le_of_ble_eq_true rfl) (hts _ k_1333) (fun _ h9 => h9) rfl dX11_regiment_107 ?_
            refine lv_iload_n hx hb dX11_regiment_110 rfl (lv_at hl 0 rfl) ?_
            refine lv_aload_n hx hb dX11_regiment_111 rfl (lv_at hl 1 rfl) ?_
            refine va_get (D := (dC, dI)) (ci := 11) (v := .ref (r 11)) (C := RX11) (T := TX11) (N := 79) hx hb hts inB_11 hown hE.1 hP 0 rfl rfl 11 (Nat.le_of_ble_eq_true rfl) (hts _ k_1331) (fun _ h9 => h9) rfl dX11_regiment_112 ?_
            refine lv_iload_n hx hb dX11_regiment_115 rfl (lv_at hl 0 rfl) ?_
            refine ldI hx hb hE hP 3 rfl (vpI (k := 320) rfl (show 0 ≤ l1_66.toInt from om_39 hr1_66) (show l1_66.toInt < 320 from om_490 b8_v2 zc67)) rfl rfl dX11_regiment_116 ?_
            refine lv_topi (fun t119 et119 => ?_)
            have hO2 : (f3 2) l1_66.toInt.toNat = t119 := by rw [et119, hs2_f66]; rfl
            refine stI hx hb hE hP hD hS 5 rfl (vpI (k := 320) rfl (show 0 ≤ l1_66.toInt from om_39 hr1_66) (show l1_66.toInt < 320 from om_490 b8_v2 zc67)) rfl dX11_regiment_117 (fun H locs hP hD hS => ?_)
            obtain ⟨f120, ef120, hP, hD⟩ : ∃ fz9, fz9 = upd2 f66 4 (upd (f66 4) l1_66.toNatClampNeg t119) ∧ va_P (dC, dI) vwCl (YW cy y0 r v66 fz9 w66 g66) H ∧ va_D A (YW cy y0 r v66 fz9 w66 g66) := ⟨_, rfl, hP, hD⟩
            have hCf120 : YC f120 := by rw [ef120]; exact hCf66
            have hs2_f120 : f120 2 = (f3 2) := by rw [ef120]; exact hs2_f66
            have hs3_f120 : f120 3 = (f3 3) := by rw [ef120]; exact hs3_f66
            have hs4_f120 : f120 4 = (upd (f66 4) (l1_66.toInt.toNat) t119) := by rw [ef120]; show upd (f66 4) (l1_66.toInt.toNat) t119 = _; rfl
            have hs5_f120 : f120 5 = (f66 5) := by rw [ef120]; exact rfl
            have hA_f120 : KF [2, 3, 4, 5, 6, 9, 10, 11, 12, 13, 14, 15, 16, 17, 18, 19, 20, 21, 22, 23, 24, 36] f120 f := by rw [ef120]; exact KF.up hA_f66 rfl
            refine lv_aload_n hx hb dX11_regiment_118 rfl (lv_at hl 1 rfl) ?_
            refine va_get (D := (dC, dI)) (ci := 11) (v := .ref (r 14)) (C := RX11) (T := TX11) (N := 79) hx hb hts inB_11 hown hE.1 hP 0 rfl rfl 14 (Nat.le_of_ble_eq_true rfl) (hts _ k_1334) (fun _ h9 => h9) rfl dX11_regiment_119 ?_
            refine lv_iload_n hx hb dX11_regiment_122 rfl (lv_at hl 0 rfl) ?_
            refine lv_aload_n hx hb dX11_regiment_123 rfl (lv_at hl 1 rfl) ?_
            refine va_get (D := (dC, dI)) (ci := 11) (v := .ref (r 12)) (C := RX11) (T := TX11) (N := 79) hx hb hts inB_11 hown hE.1 hP 0 rfl rfl 12 (Nat.le_of_ble_eq_true rfl) (hts _ k_1332) (fun _ h9 => h9) rfl dX11_regiment_124 ?_
            refine lv_iload_n hx hb dX11_regiment_127 rfl (lv_at hl 0 rfl) ?_
            refine ldI hx hb hE hP 4 rfl (vpI (k := 320) rfl (show 0 ≤ l1_66.toInt from om_39 hr1_66) (show l1_66.toInt < 320 from om_490 b8_v2 zc67)) rfl rfl dX11_regiment_128 ?_
            refine lv_topi (fun t121 et121 => ?_)
            have hO3 : (f3 3) l1_66.toInt.toNat = t121 := by rw [et121, hs3_f120]; rfl
            refine stI hx hb hE hP hD hS 6 rfl (vpI (k := 320) rfl (show 0 ≤ l1_66.toInt from om_39 hr1_66) (show l1_66.toInt < 320 from om_490 b8_v2 zc67)) rfl dX11_regiment_129 (fun H locs hP hD hS => ?_)
            obtain ⟨f122, ef122, hP, hD⟩ : ∃ fz9, fz9 = upd2 f120 5 (upd (f120 5) l1_66.toNatClampNeg t121) ∧ va_P (dC, dI) vwCl (YW cy y0 r v66 fz9 w66 g66) H ∧ va_D A (YW cy y0 r v66 fz9 w66 g66) := ⟨_, rfl, hP, hD⟩
            have hCf122 : YC f122 := by rw [ef122]; exact hCf120
            have hs2_f122 : f122 2 = (f3 2) := by rw [ef122]; exact hs2_f120
            have hs3_f122 : f122 3 = (f3 3) := by rw [ef122]; exact hs3_f120
            have hs4_f122 : f122 4 = (upd (f66 4) (l1_66.toInt.toNat) t119) := by rw [ef122]; exact hs4_f120
            have hs5_f122 : f122 5 = (upd (f66 5) (l1_66.toInt.toNat) t121) := by rw [ef122]; show upd (f120 5) (l1_66.toInt.toNat) t121 = _; rw [hs5_f120]
            have hA_f122 : KF [2, 3, 4, 5, 6, 9, 10, 11, 12, 13, 14, 15, 16, 17, 18, 19, 20, 21, 22, 23, 24, 36] f122 f := by rw [ef122]; exact KF.up hA_f120 rfl
            obtain ⟨t123, et123⟩ : ∃ y : Int32, y = l1_66 + 1 := ⟨_, rfl⟩
            have zt123 : t123.toInt = l1_66.toInt + 1 := (congrArg Int32.toInt et123).trans (add_i rfl tc_1 (om_41 hr1_66) (om_491 b8_v2 zc67))
            refine lv_iinc (v := t123) (lv' := [(1, .int t123), (0, .ref y0)]) hx hb dX11_regiment_130 hl (k := 0) rfl et123.symm (Nat.le_of_ble_eq_true rfl) rfl (fun ls hl => ?_)
            refine lv_goto (tgt := 98) hx hb dX11_regiment_133 rfl ?_
            have rg124 := fb_rng t123
            exact ih66 t123 v66 f122 w66 g66 hIv66 hCf122 hq0_v66 hq1_v66 hq2_v66 hq3_v66 hq4_v66 hq5_v66 hq8_v66 hq9_v66 hq10_v66 hq13_v66 hq14_v66 hq15_v66 hq17_v66 hq18_v66 hq24_v66 hq25_v66 hq35_v66 hq36_v66 hq38_v66 hq39_v66 ((gsY_X11_regiment_1_q16 c67 et119 ef120 et121 ef122 et123).symm.trans hT66) ⟨show (0 : Int) ≤ t123.toInt from om_43 hr1_66 zt123, show t123.toInt ≤ (2147483647 : Int) from om_44 rg124⟩ (by show progOK (f122 2) (f122 3) ((v66 9).toInt).toNat; rw [hs2_f122, hs3_f122]; exact prog_n hPG (by omega)) (by show ∀ j, j < (t123.toInt).toNat → (f122 4) j = (f122 2) j ∧ (f122 5) j = (f122 3) j; rw [hs2_f122, hs3_f122, hs4_f122, hs5_f122]; exact cp_step hCP hO2 hO3 (by omega)) hM_v66 hA_f122 hs2_f122 hs3_f122 (show (2147483647 - t123.toInt).toNat < n66 from om_33 hm66 zt123 rg124) _ _ _ hP hD hS (lv_sub hl [0, 1] rfl)
      exact lp66 (4294967296 + NF) 0 (upd (upd (upd (upd (upd (upd (upd (upd (upd v2 24 (v2 17)) 25 (v2 18)) 26 (v2 19)) 27 (v2 20)) 28 (v2 21)) 29 (v2 22)) 12 (v2 11)) 16 (v2 15)) 9 (v2 8)) f3 w4 g5 ⟨(Yu_9 (x := (v2 8)) (Yu_16 (x := (v2 15)) (Yu_12 (x := (v2 11)) (Yu_29 (x := (v2 22)) (Yu_28 (x := (v2 21)) (Yu_27 (x := (v2 20)) (Yu_26 (x := (v2 19)) (Yu_25 (x := (v2 18)) (Yu_24 (x := (v2 17)) hIv2.1 (show (0 : Int) ≤ (v2 17).toInt from om_98 b17_v2) (show (v2 17).toInt ≤ (6 : Int) from om_99 b17_v2)) (show (0 : Int) ≤ (v2 18).toInt from om_98 b18_v2) (show (v2 18).toInt ≤ (6 : Int) from om_99 b18_v2)) (rlo _) (rhi _)) (rlo _) (rhi _)) (rlo _) (rhi _)) (rlo _) (rhi _)) (rlo _) (rhi _)) (rlo _) (rhi _)) (show (0 : Int) ≤ (v2 8).toInt from om_343 b8_v2) (show (v2 8).toInt ≤ (320 : Int) from om_492 b8_v2)), hIv2.2⟩ hCf3 rfl rfl rfl rfl rfl rfl rfl rfl rfl rfl rfl rfl rfl rfl rfl rfl hq35_v2 hq36_v2 hq38_v2 hq39_v2 (gsY_X11_regiment_1_q17 hG1 c8 c9).symm ⟨by decide, by decide⟩ (by show progOK (f3 2) (f3 3) ((v2 8).toInt).toNat; first | exact prog_n (hPL (by omega) (by omega)) (by omega) | exact prog_0 (by decide)) (by show ∀ j, j < ((0 : Int32).toInt).toNat → (f3 4) j = (f3 2) j ∧ (f3 5) j = (f3 3) j; exact fun j hj => absurd hj (Nat.not_lt_zero _)) (KV.up (j := 9) (x := (v2 8)) (KV.up (j := 16) (x := (v2 15)) (KV.up (j := 12) (x := (v2 11)) (KV.up (j := 29) (x := (v2 22)) (KV.up (j := 28) (x := (v2 21)) (KV.up (j := 27) (x := (v2 20)) (KV.up (j := 26) (x := (v2 19)) (KV.up (j := 25) (x := (v2 18)) (KV.up (j := 24) (x := (v2 17)) hM_v2 (by decide +kernel)) (by decide +kernel)) (by decide +kernel)) (by decide +kernel)) (by decide +kernel)) (by decide +kernel)) (by decide +kernel)) (by decide +kernel)) (by decide +kernel)) hA_f3 rfl rfl (show (2147483647 - (0 : Int32).toInt).toNat < 4294967296 + NF from om_38 tc_0) _ _ _ hP hD hS (lv_sub hl [0, 1] rfl)
  · skip
    refine lv_iconst (v := (-1)) hx hb dX11_regiment_11 rfl ?_
    exact ret (-1) (v2, f3, w4, g5) _ _ _ _ _ _ rfl ⟨(gsY_X11_regiment_1_q18 hG1 c8), hM_v2, hA_f3, hIv2, hCf3, hRf3, hk39_v2, (show (v2 0).toInt = 0 from om_493 b0_v2 pv6), (Or.inr ⟨KV.use kV_v2 rfl, KF.use kF_f3 rfl⟩)⟩ hP hD hS dX11_regiment_12 (Nat.le_refl _) (Nat.le_refl _)
