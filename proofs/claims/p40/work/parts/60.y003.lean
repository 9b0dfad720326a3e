set_option maxHeartbeats 4000000 in
set_option maxRecDepth 100000 in
theorem sY_X11_unit_1_jp101 (NF : Nat) (l : Launch) (dC : Nat → ClassId) (dI : Nat → Nat → Nat) (cy : Nat → ClassId) (y0 : Nat) (r : Nat → Nat)  (v : Nat → Int32) (f : Nat → Nat → Int32) (w : Int64) (g : Nat → Int64) (hIv : YI v) (hCf : YC f) (hRf : progOK (f 4) (f 5) (v 9).toInt.toNat)  (hf0 : (v 8).toInt + (v 10).toInt ≤ 10 * (v 13).toInt + 1) (hf1 : (v 10).toInt ≤ (v 14).toInt + (v 13).toInt + 1) (hf2 : (v 13).toInt ≤ 30) (hf3 : (v 14).toInt ≤ 7) (hg0 : FI 0 (v 10).toInt (v 14).toInt (v 8).toInt (f 6) (f 2) (f 3)) {p : Program} {e : Env} {s : State} {m : MethodId} {below : List Frame} {meth : Method} {c : Code} {A : Nat → Prop} {Q : State → Prop} (hx : p.tables.exec = Jvm.exec) (hb : c.code = cX11_unit) (hml : c.maxLocals = 3) (hts : ∀ w ∈ BIG, w.before ([.ref y0] : List Value).toArray s = true) (hown : s.vm.findClass RX11 = some m.cls) (hE : ENV (dC, dI) cy s) (hA : ∀ q, s.heap.size ≤ q → A q) (ret : ∀ (u : ((Nat → Int32) × (Nat → Nat → Int32) × (Int64) × (Nat → Int64))) (H : Heap) (locs : List Loc) (pc cells slots : Nat) (ls : Array Slot), (gsY_X11_unit_1 NF v f w g = u ∧ KV [1, 2, 3, 5, 6, 7, 8, 10, 11, 13, 14] u.1 v ∧ KF [2, 3, 6] u.2.1 f ∧ YI u.1 ∧ YC u.2.1 ∧ progOK (u.2.1 4) (u.2.1 5) (u.1 9).toInt.toNat ∧ u.1 0 = v 0 ∧ u.1 4 = v 4 ∧ u.1 9 = v 9 ∧ u.1 15 = v 15 ∧ u.1 17 = v 17 ∧ u.1 18 = v 18 ∧ u.1 24 = v 24 ∧ u.1 25 = v 25 ∧ u.1 35 = v 35 ∧ u.1 36 = v 36 ∧ u.1 38 = v 38 ∧ u.1 39 = v 39 ∧ (GR (v 3).toInt (v 5).toInt (u.1 3).toInt (u.1 5).toInt) ∧ (IM0 (u.1 1).toInt (FI 1 (u.1 10).toInt (u.1 14).toInt (u.1 8).toInt (u.2.1 6) (u.2.1 2) (u.2.1 3))) ∧ (NB (u.1 1).toInt (u.1 8).toInt (u.1 10).toInt (u.1 13).toInt (u.1 14).toInt) ∧ (UG (u.1 1).toInt (v 13).toInt (u.1 13).toInt)) → va_P (dC, dI) vwCl (YW cy y0 r u.1 u.2.1 u.2.2.1 u.2.2.2) H → va_D A (YW cy y0 r u.1 u.2.1 u.2.2.1 u.2.2.2) → va_S A s.heap H locs → decode cX11_unit pc = .ok (.return_, 1) → cells ≤ 0 → slots ≤ 0 → W p l e { frames := 4, cells := 0, slots := 0, locals := 124 } s m ([.ref y0] : List Value).toArray below meth c H locs cells slots Q (F0 m pc ls [])) (n1 : Nat) (ih1 : ∀ (l1_1 : Int32) (v1 : Nat → Int32) (f1 : Nat → Nat → Int32) (w1 : Int64) (g1 : Nat → Int64), YI v1 → YC f1 → progOK (f1 4) (f1 5) (v1 9).toInt.toNat → v1 0 = (v 0) → v1 4 = (v 4) → v1 8 = (v 8) → v1 9 = (v 9) → v1 15 = (v 15) → v1 17 = (v 17) → v1 18 = (v 18) → v1 24 = (v 24) → v1 25 = (v 25) → v1 35 = (v 35) → v1 36 = (v 36) → v1 38 = (v 38) → v1 39 = (v 39) → gsY_X11_unit_1_L1 NF n1 l1_1 v1 f1 w1 g1 = (gsY_X11_unit_1 NF v f w g) → ((0 : Int) ≤ l1_1.toInt ∧ l1_1.toInt ≤ 1) → (IM0 (v1 1).toInt (FI 0 (v1 10).toInt (v1 14).toInt (v1 8).toInt (f1 6) (f1 2) (f1 3))) → (NU (v1 1).toInt (v1 8).toInt (v1 10).toInt (v1 13).toInt (v1 14).toInt) → (GR (v 3).toInt (v 5).toInt (v1 3).toInt (v1 5).toInt) → ((v 13).toInt ≤ (v1 13).toInt) → KV [1, 2, 3, 5, 6, 7, 8, 10, 11, 13, 14] v1 v → KF [2, 3, 6] f1 f → f1 2 = (f 2) → f1 3 = (f 3) → (2 * (9 - (v1 14).toInt) + l1_1.toInt).toNat < n1 → ∀ (H : Heap) (locs : List Loc) (ls : Array Slot), va_P (dC, dI) vwCl (YW cy y0 r v1 f1 w1 g1) H → va_D A (YW cy y0 r v1 f1 w1 g1) → va_S A s.heap H locs → lv_has ls 3 [(1, .int l1_1), (0, .ref y0)] → W p l e { frames := 4, cells := 0, slots := 0, locals := 124 } s m ([.ref y0] : List Value).toArray below meth c H locs 0 0 Q (F0 m 2 ls [])) (l1_1 : Int32) (v1 : Nat → Int32) (f1 : Nat → Nat → Int32) (w1 : Int64) (g1 : Nat → Int64) (hIv1 : YI v1) (hCf1 : YC f1) (hRf1 : progOK (f1 4) (f1 5) (v1 9).toInt.toNat) (hq0_v1 : v1 0 = (v 0)) (hq4_v1 : v1 4 = (v 4)) (hq8_v1 : v1 8 = (v 8)) (hq9_v1 : v1 9 = (v 9)) (hq15_v1 : v1 15 = (v 15)) (hq17_v1 : v1 17 = (v 17)) (hq18_v1 : v1 18 = (v 18)) (hq24_v1 : v1 24 = (v 24)) (hq25_v1 : v1 25 = (v 25)) (hq35_v1 : v1 35 = (v 35)) (hq36_v1 : v1 36 = (v 36)) (hq38_v1 : v1 38 = (v 38)) (hq39_v1 : v1 39 = (v 39)) (hT1 : gsY_X11_unit_1_L1 NF (n1 + 1) l1_1 v1 f1 w1 g1 = (gsY_X11_unit_1 NF v f w g)) (hr1_1 : ((0 : Int) ≤ l1_1.toInt ∧ l1_1.toInt ≤ 1)) (hx0_1 : (IM0 (v1 1).toInt (FI 0 (v1 10).toInt (v1 14).toInt (v1 8).toInt (f1 6) (f1 2) (f1 3)))) (hx1_1 : (NU (v1 1).toInt (v1 8).toInt (v1 10).toInt (v1 13).toInt (v1 14).toInt)) (hx2_1 : (GR (v 3).toInt (v 5).toInt (v1 3).toInt (v1 5).toInt)) (hx3_1 : ((v 13).toInt ≤ (v1 13).toInt)) (hM_v1 : KV [1, 2, 3, 5, 6, 7, 8, 10, 11, 13, 14] v1 v) (hA_f1 : KF [2, 3, 6] f1 f) (hs2_f1 : f1 2 = (f 2)) (hs3_f1 : f1 3 = (f 3)) (hm1 : (2 * (9 - (v1 14).toInt) + l1_1.toInt).toNat < (n1 + 1)) : ∀ (H : Heap) (locs : List Loc) (ls : Array Slot), gsY_X11_unit_1_J2 NF f1 g1 v1 w1 = (gsY_X11_unit_1 NF v f w g) → va_P (dC, dI) vwCl (YW cy y0 r v1 f1 w1 g1) H → va_D A (YW cy y0 r v1 f1 w1 g1) → va_S A s.heap H locs → lv_has ls 3 [(1, .int l1_1), (0, .ref y0)] → W p l e { frames := 4, cells := 0, slots := 0, locals := 124 } s m ([.ref y0] : List Value).toArray below meth c H locs 0 0 Q (F0 m 101 ls []) := by
  have hUv : (v 35).toInt + (v 36).toInt ≤ 40 := hIv.2
  have hM_v : KV [1, 2, 3, 5, 6, 7, 8, 10, 11, 13, 14] v v := fun _ _ => rfl
  have hA_f : KF [2, 3, 6] f f := fun _ _ => rfl
  have hFI := hg0
  have b1_v : (0 : Int) ≤ (v 1).toInt ∧ (v 1).toInt ≤ 4 := YIb.b hIv.1 1 (by decide)
  have b3_v : (0 : Int) ≤ (v 3).toInt ∧ (v 3).toInt ≤ 1600 := YIb.b hIv.1 3 (by decide)
  have b8_v : (0 : Int) ≤ (v 8).toInt ∧ (v 8).toInt ≤ 320 := YIb.b hIv.1 8 (by decide)
  have b10_v : (0 : Int) ≤ (v 10).toInt ∧ (v 10).toInt ≤ 160 := YIb.b hIv.1 10 (by decide)
  have b13_v : (0 : Int) ≤ (v 13).toInt ∧ (v 13).toInt ≤ 31 := YIb.b hIv.1 13 (by decide)
  have b14_v : (0 : Int) ≤ (v 14).toInt ∧ (v 14).toInt ≤ 8 := YIb.b hIv.1 14 (by decide)
  have hGR : GR (v 3).toInt (v 5).toInt (v 3).toInt (v 5).toInt := GR.refl _ _
  have hUv1 : (v1 35).toInt + (v1 36).toInt ≤ 40 := hIv1.2
  have zq8_v1 := congrArg Int32.toInt hq8_v1
  have b1_v1 : 0 ≤ (v1 1).toInt ∧ (v1 1).toInt ≤ 4 := YIb.b hIv1.1 1 (by decide)
  have b10_v1 : 0 ≤ (v1 10).toInt ∧ (v1 10).toInt ≤ 160 := YIb.b hIv1.1 10 (by decide)
  have b14_v1 : 0 ≤ (v1 14).toInt ∧ (v1 14).toInt ≤ 8 := YIb.b hIv1.1 14 (by decide)
  have b8_v1 : 0 ≤ (v1 8).toInt ∧ (v1 8).toInt ≤ 320 := YIb.b hIv1.1 8 (by decide)
  have b8_v : 0 ≤ (v 8).toInt ∧ (v 8).toInt ≤ 320 := YIb.b hIv.1 8 (by decide)
  have b13_v1 : 0 ≤ (v1 13).toInt ∧ (v1 13).toInt ≤ 31 := YIb.b hIv1.1 13 (by decide)
  have b3_v1 : 0 ≤ (v1 3).toInt ∧ (v1 3).toInt ≤ 1600 := YIb.b hIv1.1 3 (by decide)
  rw [hs2_f1] at hx0_1
  rw [hs3_f1] at hx0_1
  have hFJ := hx0_1
  have hNU := hx1_1
  have hGR := hx2_1
  intro H locs ls hT2 hP hD hS hl
  refine lv_aload_n hx hb dX11_unit_101 rfl (lv_at hl 1 rfl) ?_
  refine va_get (D := (dC, dI)) (ci := 11) (v := .int (v1 1)) (C := RX11) (T := TX11) (N := 79) hx hb hts inB_11 hown hE.1 hP 0 rfl rfl 2 (by decide) (hts _ k_1322) (fun _ h9 => h9) rfl dX11_unit_102 ?_
  refine lv_if_le (tgt := 109) hx hb dX11_unit_105 (by decide) (fun c3 => ?_) (fun c3 => ?_)
  · skip
    have zc3 : (v1 1).toInt ≤ 0 := by rw [fa_le, show (0 : Int32).toInt = 0 from by decide] at c3; exact c3
    obtain ⟨hn1, hn2, hn3, hn4⟩ := hNU (by omega)
    refine lv_aload_n hx hb dX11_unit_109 rfl (lv_at hl 1 rfl) ?_
    refine cbVi (n := 0) (rest := []) hx hb hml hown hts hE hP hD hS hA (sY_X11_asked_1 NF l dC dI cy y0 r  v1 f1 w1 g1 hIv1 hCf1 hRf1 ) k_1692 k_1694 k_62 k_114 k_1695 (by decide +kernel) ⟨Nat.le_of_ble_eq_true rfl, Nat.le_of_ble_eq_true rfl⟩ 0 11 rfl rfl (rfl) hl.1 rfl (Nat.le_of_ble_eq_true rfl) dX11_unit_110 (fun r4 u H locs hw hP hD hS => ?_)
    obtain ⟨hG5, hw⟩ := hw
    refine lv_istore_n (lv' := [(2, .int r4), (1, .int l1_1), (0, .ref y0)]) hx hb dX11_unit_113 rfl hl (by decide) rfl (fun ls hl => ?_)
    have jp133 : ∀ (H : Heap) (locs : List Loc) (ls : Array Slot), gsY_X11_unit_1_J6 NF f1 g1 v1 w1 r4 = (gsY_X11_unit_1 NF v f w g) → va_P (dC, dI) vwCl (YW cy y0 r v1 f1 w1 g1) H → va_D A (YW cy y0 r v1 f1 w1 g1) → va_S A s.heap H locs → lv_has ls 3 [(2, .int r4), (1, .int l1_1), (0, .ref y0)] → W p l e { frames := 4, cells := 0, slots := 0, locals := 124 } s m ([.ref y0] : List Value).toArray below meth c H locs 0 0 Q (F0 m 133 ls []) := by
      intro H locs ls hT6 hP hD hS hl
      refine lv_aload_n hx hb dX11_unit_133 rfl (lv_at hl 2 rfl) ?_
      refine lv_iconst (v := 2) hx hb dX11_unit_134 (by decide) ?_
      refine cbVv (n := 1) (rest := []) hx hb hml hown hts hE hP hD hS hA (sY_X11_wrong_1 NF l dC dI cy y0 r 2 v1 f1 w1 g1 hIv1 hCf1 hRf1 ⟨by decide, by decide⟩) k_1641 k_1643 k_50 k_114 k_1644 (by decide +kernel) ⟨Nat.le_of_ble_eq_true rfl, Nat.le_of_ble_eq_true rfl⟩ 0 11 rfl rfl (rfl) hl.1 rfl (Nat.le_of_ble_eq_true rfl) dX11_unit_135 (fun u H locs hw hP hD hS => ?_)
      obtain ⟨hG7, hw⟩ := hw
      obtain ⟨v8, f9, w10, g11⟩ := u
      obtain ⟨kV_v8, kF_f9, hIv8, hCf9, hRf9, hk0_v8, hk3_v8, hk4_v8, hk5_v8, hk8_v8, hk9_v8, hk10_v8, hk13_v8, hk14_v8, hk15_v8, hk17_v8, hk18_v8, hk24_v8, hk25_v8, hk35_v8, hk36_v8, hk38_v8, hk39_v8, pv12, pv13, pv14, kq15, kq16, kq17⟩ := hw
      have hM_v8 : KV [1, 2, 3, 5, 6, 7, 8, 10, 11, 13, 14] v8 v := KV.tr kV_v8 hM_v1 rfl
      have hA_f9 : KF [2, 3, 6] f9 f := KF.tr kF_f9 hA_f1 rfl
      have hP : va_P (dC, dI) vwCl (YW cy y0 r v8 f9 w10 g11) H := hP
      have hD : va_D A (YW cy y0 r v8 f9 w10 g11) := hD
      have b3_v8 : 0 ≤ (v8 3).toInt ∧ (v8 3).toInt ≤ 1600 := YIb.b hIv8.1 3 (by decide)
      have b1_v8 : 0 ≤ (v8 1).toInt ∧ (v8 1).toInt ≤ 4 := YIb.b hIv8.1 1 (by decide)
      have pv12 : (v1 3).toInt ≤ (v8 3).toInt := pv12
      have pv13 : (v8 5).toInt = (v1 5).toInt ∨ (v1 3).toInt < (v8 3).toInt ∨ ¬ (v8 5).toInt = 59 := pv13
      have pv14 : 0 < (v8 1).toInt := pv14
      have hs2_f9 : f9 2 = (f 2) := kq15.trans hs2_f1
      have hs3_f9 : f9 3 = (f 3) := kq16.trans hs3_f1
      have hs6_f9 : f9 6 = (f1 6) := kq17
      have hUv8 : (v8 35).toInt + (v8 36).toInt ≤ 40 := hIv8.2
      have hq3_v8 : v8 3 = (v1 3) := hk3_v8
      have zq3_v8 := congrArg Int32.toInt hq3_v8
      have hq5_v8 : v8 5 = (v1 5) := hk5_v8
      have zq5_v8 := congrArg Int32.toInt hq5_v8
      have hq8_v8 : v8 8 = (v 8) := hk8_v8.trans hq8_v1
      have zq8_v8 := congrArg Int32.toInt hq8_v8
      have hq10_v8 : v8 10 = (v1 10) := hk10_v8
      have zq10_v8 := congrArg Int32.toInt hq10_v8
      have hq13_v8 : v8 13 = (v1 13) := hk13_v8
      have zq13_v8 := congrArg Int32.toInt hq13_v8
      have hq14_v8 : v8 14 = (v1 14) := hk14_v8
      have zq14_v8 := congrArg Int32.toInt hq14_v8
      have hGR : GR (v 3).toInt (v 5).toInt (v8 3).toInt (v8 5).toInt := GR.tr hGR (show GR (v1 3).toInt (v1 5).toInt (v8 3).toInt (v8 5).toInt from ⟨pv12, pv13⟩) (by first | with_reducible rfl | with_reducible assumption | rfl | omega) (by first | with_reducible rfl | with_reducible assumption | rfl | omega)
      clear pv13
      refine lv_aload_n hx hb dX11_unit_138 rfl (lv_at hl 2 rfl) ?_
      refine va_get (D := (dC, dI)) (ci := 11) (v := .int (v8 1)) (C := RX11) (T := TX11) (N := 79) hx hb hts inB_11 hown hE.1 hP 0 rfl rfl 2 (by decide) (hts _ k_1322) (fun _ h9 => h9) rfl dX11_unit_139 ?_
      have b1_v8 : 0 ≤ (v8 1).toInt ∧ (v8 1).toInt ≤ 4 := YIb.b hIv8.1 1 (by decide)
      refine lv_if_le (tgt := 146) hx hb dX11_unit_142 (by decide) (fun c18 => ?_) (fun c18 => ?_)
      · skip
        have zc18 : (v8 1).toInt ≤ 0 := by rw [fa_le, show (0 : Int32).toInt = 0 from by decide] at c18; exact c18
        refine lv_aload_n hx hb dX11_unit_146 rfl (lv_at hl 2 rfl) ?_
        refine cbVv (n := 0) (rest := []) hx hb hml hown hts hE hP hD hS hA (sY_X11_countUnit_1 NF l dC dI cy y0 r  v8 f9 w10 g11 hIv8 hCf9 hRf9 (by show (v8 13).toInt ≤ 30; omega)) k_1688 k_1690 k_61 k_114 k_1691 (by decide +kernel) ⟨Nat.le_of_ble_eq_true rfl, Nat.le_of_ble_eq_true rfl⟩ 0 11 rfl rfl (rfl) hl.1 rfl (Nat.le_of_ble_eq_true rfl) dX11_unit_147 (fun u H locs hw hP hD hS => ?_)
        obtain ⟨hG19, hw⟩ := hw
        obtain ⟨v20, f21, w22, g23⟩ := u
        obtain ⟨kV_v20, kF_f21, hIv20, hCf21, hRf21, hk0_v20, hk1_v20, hk2_v20, hk3_v20, hk4_v20, hk5_v20, hk8_v20, hk9_v20, hk10_v20, hk14_v20, hk15_v20, hk17_v20, hk18_v20, hk24_v20, hk25_v20, hk35_v20, hk36_v20, hk38_v20, hk39_v20, pv24, kq25, kq26, kq27⟩ := hw
        have hM_v20 : KV [1, 2, 3, 5, 6, 7, 8, 10, 11, 13, 14] v20 v := KV.tr kV_v20 hM_v8 rfl
        have hA_f21 : KF [2, 3, 6] f21 f := KF.tr kF_f21 hA_f9 rfl
        have hP : va_P (dC, dI) vwCl (YW cy y0 r v20 f21 w22 g23) H := hP
        have hD : va_D A (YW cy y0 r v20 f21 w22 g23) := hD
        have b13_v20 : 0 ≤ (v20 13).toInt ∧ (v20 13).toInt ≤ 31 := YIb.b hIv20.1 13 (by decide)
        have pv24 : (v20 13).toInt = (v8 13).toInt + 1 := pv24
        have hs2_f21 : f21 2 = (f 2) := kq25.trans hs2_f9
        have hs3_f21 : f21 3 = (f 3) := kq26.trans hs3_f9
        have hs6_f21 : f21 6 = (f1 6) := kq27.trans hs6_f9
        have hUv20 : (v20 35).toInt + (v20 36).toInt ≤ 40 := hIv20.2
        have hq1_v20 : v20 1 = (v8 1) := hk1_v20
        have zq1_v20 := congrArg Int32.toInt hq1_v20
        have hq3_v20 : v20 3 = (v1 3) := hk3_v20.trans hq3_v8
        have zq3_v20 := congrArg Int32.toInt hq3_v20
        have hq5_v20 : v20 5 = (v1 5) := hk5_v20.trans hq5_v8
        have zq5_v20 := congrArg Int32.toInt hq5_v20
        have hq8_v20 : v20 8 = (v 8) := hk8_v20.trans hq8_v8
        have zq8_v20 := congrArg Int32.toInt hq8_v20
        have hq10_v20 : v20 10 = (v1 10) := hk10_v20.trans hq10_v8
        have zq10_v20 := congrArg Int32.toInt hq10_v20
        have hq14_v20 : v20 14 = (v1 14) := hk14_v20.trans hq14_v8
        have zq14_v20 := congrArg Int32.toInt hq14_v20
        refine lv_aload_n hx hb dX11_unit_150 rfl (lv_at hl 2 rfl) ?_
        refine lv_iload_n hx hb dX11_unit_151 rfl (lv_at hl 0 rfl) ?_
        refine lv_if_ge (tgt := 159) hx hb dX11_unit_152 (by decide) (fun c28 => ?_) (fun c28 => ?_)
        · skip
          have zc28 : 0 ≤ r4.toInt := by rw [fa_le, show (0 : Int32).toInt = 0 from by decide] at c28; exact c28
          refine lv_iconst (v := 1) hx hb dX11_unit_159 (by decide) ?_
          refine lv_iload_n hx hb dX11_unit_160 rfl (lv_at hl 0 rfl) ?_
          refine lv_if_ge (tgt := 171) hx hb dX11_unit_161 (by decide) (fun c29 => ?_) (fun c29 => ?_)
          · skip
            have zc29 : 0 ≤ r4.toInt := by rw [fa_le, show (0 : Int32).toInt = 0 from by decide] at c29; exact c29
            refine lv_iload_n hx hb dX11_unit_171 rfl (lv_at hl 0 rfl) ?_
            refine cbVv (n := 2) (rest := []) hx hb hml hown hts hE hP hD hS hA (sY_X11_add_1 NF l dC dI cy y0 r 1 r4 v20 f21 w22 g23 hIv20 hCf21 hRf21 (by have q1 : (1 : Int32).toInt = 1 := (by decide); show (v20 8).toInt ≤ 319; omega)) k_1696 k_1698 k_63 k_114 k_1699 (by decide +kernel) ⟨Nat.le_of_ble_eq_true rfl, Nat.le_of_ble_eq_true rfl⟩ 0 11 rfl rfl (rfl) hl.1 rfl (Nat.le_of_ble_eq_true rfl) dX11_unit_172 (fun u H locs hw hP hD hS => ?_)
            obtain ⟨hG30, hw⟩ := hw
            obtain ⟨v31, f32, w33, g34⟩ := u
            obtain ⟨kV_v31, kF_f32, hIv31, hCf32, hRf32, hk0_v31, hk1_v31, hk2_v31, hk3_v31, hk4_v31, hk5_v31, hk9_v31, hk10_v31, hk13_v31, hk14_v31, hk15_v31, hk17_v31, hk18_v31, hk24_v31, hk25_v31, hk35_v31, hk36_v31, hk38_v31, hk39_v31, pv35, pg36, pg37, kq38⟩ := hw
            have hM_v31 : KV [1, 2, 3, 5, 6, 7, 8, 10, 11, 13, 14] v31 v := KV.tr kV_v31 hM_v20 rfl
            have hA_f32 : KF [2, 3, 6] f32 f := KF.tr kF_f32 hA_f21 rfl
            have hP : va_P (dC, dI) vwCl (YW cy y0 r v31 f32 w33 g34) H := hP
            have hD : va_D A (YW cy y0 r v31 f32 w33 g34) := hD
            have b8_v31 : 0 ≤ (v31 8).toInt ∧ (v31 8).toInt ≤ 320 := YIb.b hIv31.1 8 (by decide)
            have pv35 : (v31 8).toInt = (v20 8).toInt + 1 := pv35
            have pg36 : (f32 2) = upd (f21 2) ((v20 8).toInt).toNat 1 := pg36
            rw [hs2_f21] at pg36
            have pg37 : (f32 3) = upd (f21 3) ((v20 8).toInt).toNat r4 := pg37
            rw [hs3_f21] at pg37
            have hs6_f32 : f32 6 = (f1 6) := kq38.trans hs6_f21
            have hUv31 : (v31 35).toInt + (v31 36).toInt ≤ 40 := hIv31.2
            have hq1_v31 : v31 1 = (v8 1) := hk1_v31.trans hq1_v20
            have zq1_v31 := congrArg Int32.toInt hq1_v31
            have hq3_v31 : v31 3 = (v1 3) := hk3_v31.trans hq3_v20
            have zq3_v31 := congrArg Int32.toInt hq3_v31
            have hq5_v31 : v31 5 = (v1 5) := hk5_v31.trans hq5_v20
            have zq5_v31 := congrArg Int32.toInt hq5_v31
            have hq10_v31 : v31 10 = (v1 10) := hk10_v31.trans hq10_v20
            have zq10_v31 := congrArg Int32.toInt hq10_v31
            have hq13_v31 : v31 13 = (v20 13) := hk13_v31
            have zq13_v31 := congrArg Int32.toInt hq13_v31
            have hq14_v31 : v31 14 = (v1 14) := hk14_v31.trans hq14_v20
            have zq14_v31 := congrArg Int32.toInt hq14_v31
            have hFU : FI 1 (v31 10).toInt (v31 14).toInt (v31 8).toInt (f1 6) (f32 2) (f32 3) := FI.unit (hFJ (by omega)) pg36 pg37 (by omega) (Or.inr ⟨rfl, by omega, by omega⟩) (by omega) (by first | with_reducible rfl | with_reducible assumption | rfl | omega) (by first | with_reducible rfl | with_reducible assumption | rfl | omega) (by first | with_reducible rfl | with_reducible assumption | rfl | omega)
            refine lv_aload_n hx hb dX11_unit_175 rfl (lv_at hl 2 rfl) ?_
            refine cbVv (n := 0) (rest := []) hx hb hml hown hts hE hP hD hS hA (sY_X11_token_1 NF l dC dI cy y0 r  v31 f32 w33 g34 hIv31 hCf32 hRf32 ) k_1579 k_1581 k_42 k_114 k_1582 (by decide +kernel) ⟨Nat.le_of_ble_eq_true rfl, Nat.le_of_ble_eq_true rfl⟩ 0 11 rfl rfl (rfl) hl.1 rfl (Nat.le_of_ble_eq_true rfl) dX11_unit_176 (fun u H locs hw hP hD hS => ?_)
            obtain ⟨hG39, hw⟩ := hw
            obtain ⟨v40, f41, w42, g43⟩ := u
            obtain ⟨kV_v40, kF_f41, hIv40, hCf41, hRf41, hk0_v40, hk1_v40, hk2_v40, hk4_v40, hk8_v40, hk9_v40, hk10_v40, hk13_v40, hk14_v40, hk15_v40, hk17_v40, hk18_v40, hk24_v40, hk25_v40, hk35_v40, hk36_v40, hk38_v40, hk39_v40, pv44, pv45, kq46, kq47, kq48⟩ := hw
            have hM_v40 : KV [1, 2, 3, 5, 6, 7, 8, 10, 11, 13, 14] v40 v := KV.tr kV_v40 hM_v31 rfl
            have hA_f41 : KF [2, 3, 6] f41 f := KF.tr kF_f41 hA_f32 rfl
            have hP : va_P (dC, dI) vwCl (YW cy y0 r v40 f41 w42 g43) H := hP
            have hD : va_D A (YW cy y0 r v40 f41 w42 g43) := hD
            have b3_v40 : 0 ≤ (v40 3).toInt ∧ (v40 3).toInt ≤ 1600 := YIb.b hIv40.1 3 (by decide)
            have pv44 : (v31 3).toInt ≤ (v40 3).toInt := pv44
            have pv45 : (v40 5).toInt = (v31 5).toInt ∨ (v31 3).toInt < (v40 3).toInt ∨ ¬ (v40 5).toInt = 59 := pv45
            have hs2_f41 : f41 2 = (f32 2) := kq46
            have hs3_f41 : f41 3 = (f32 3) := kq47
            have hs6_f41 : f41 6 = (f1 6) := kq48.trans hs6_f32
            have hUv40 : (v40 35).toInt + (v40 36).toInt ≤ 40 := hIv40.2
            have hq1_v40 : v40 1 = (v8 1) := hk1_v40.trans hq1_v31
            have zq1_v40 := congrArg Int32.toInt hq1_v40
            have hq8_v40 : v40 8 = (v31 8) := hk8_v40
            have zq8_v40 := congrArg Int32.toInt hq8_v40
            have hq10_v40 : v40 10 = (v1 10) := hk10_v40.trans hq10_v31
            have zq10_v40 := congrArg Int32.toInt hq10_v40
            have hq13_v40 : v40 13 = (v20 13) := hk13_v40.trans hq13_v31
            have zq13_v40 := congrArg Int32.toInt hq13_v40
            have hq14_v40 : v40 14 = (v1 14) := hk14_v40.trans hq14_v31
            have zq14_v40 := congrArg Int32.toInt hq14_v40
            have hGR : GR (v 3).toInt (v 5).toInt (v40 3).toInt (v40 5).toInt := GR.tr hGR (show GR (v31 3).toInt (v31 5).toInt (v40 3).toInt (v40 5).toInt from ⟨pv44, pv45⟩) (by first | with_reducible rfl | with_reducible assumption | rfl | omega) (by first | with_reducible rfl | with_reducible assumption | rfl | omega)
            clear pv45
            exact ret (v40, f41, w42, g43) _ _ _ _ _ _ ⟨(hT6.symm.trans (gsY_X11_unit_1_q0 hG7 c18 hG19 c28 c29 hG30 hG39)), hM_v40, hA_f41, hIv40, hCf41, hRf41, (hk0_v40.trans (hk0_v31.trans (hk0_v20.trans (hk0_v8.trans (show v1 0 = v 0 from hq0_v1))))), (hk4_v40.trans (hk4_v31.trans (hk4_v20.trans (hk4_v8.trans (show v1 4 = v 4 from hq4_v1))))), (hk9_v40.trans (hk9_v31.trans (hk9_v20.trans (hk9_v8.trans (show v1 9 = v 9 from hq9_v1))))), (hk15_v40.trans (hk15_v31.trans (hk15_v20.trans (hk15_v8.trans (show v1 15 = v 15 from hq15_v1))))), (hk17_v40.trans (hk17_v31.trans (hk17_v20.trans (hk17_v8.trans (show v1 17 = v 17 from hq17_v1))))), (hk18_v40.trans (hk18_v31.trans (hk18_v20.trans (hk18_v8.trans (show v1 18 = v 18 from hq18_v1))))), (hk24_v40.trans (hk24_v31.trans (hk24_v20.trans (hk24_v8.trans (show v1 24 = v 24 from hq24_v1))))), (hk25_v40.trans (hk25_v31.trans (hk25_v20.trans (hk25_v8.trans (show v1 25 = v 25 from hq25_v1))))), (hk35_v40.trans (hk35_v31.trans (hk35_v20.trans (hk35_v8.trans (show v1 35 = v 35 from hq35_v1))))), (hk36_v40.trans (hk36_v31.trans (hk36_v20.trans (hk36_v8.trans (show v1 36 = v 36 from hq36_v1))))), (hk38_v40.trans (hk38_v31.trans (hk38_v20.trans (hk38_v8.trans (show v1 38 = v 38 from hq38_v1))))), (hk39_v40.trans (hk39_v31.trans (hk39_v20.trans (hk39_v8.trans (show v1 39 = v 39 from hq39_v1))))), (by show GR (v 3).toInt (v 5).toInt (v40 3).toInt (v40 5).toInt; exact GR.cast hGR (by first | with_reducible rfl | with_reducible assumption | rfl | omega) (by first | with_reducible rfl | with_reducible assumption | rfl | omega)), (by show IM0 (v40 1).toInt (FI 1 (v40 10).toInt (v40 14).toInt (v40 8).toInt (f41 6) (f41 2) (f41 3)); rw [hs6_f41, hs2_f41, hs3_f41]; intro hz9; exact FI.cast hFU (by first | with_reducible rfl | with_reducible assumption | rfl | omega) (by first | with_reducible rfl | with_reducible assumption | rfl | omega) (by first | with_reducible rfl | with_reducible assumption | rfl | omega)), (by show NB (v40 1).toInt (v40 8).toInt (v40 10).toInt (v40 13).toInt (v40 14).toInt; exact NB.mk (by omega) (by omega) (by omega) (by omega)), (by show UG (v40 1).toInt (v 13).toInt (v40 13).toInt; exact UG.mk (by omega))⟩ hP hD hS dX11_unit_179 (Nat.le_refl _) (Nat.le_refl _)
          · skip
            have zc29 : ¬ (0 ≤ r4.toInt) := by rw [fa_le, show (0 : Int32).toInt = 0 from by decide] at c29; exact c29
            refine lv_aload_n hx hb dX11_unit_164 rfl (lv_at hl 2 rfl) ?_
            refine va_get (D := (dC, dI)) (ci := 11) (v := .int (v20 7)) (C := RX11) (T := TX11) (N := 79) hx hb hts inB_11 hown hE.1 hP 0 rfl rfl 8 (by decide) (hts _ k_1328) (fun _ h9 => h9) rfl dX11_unit_165 ?_
            refine lv_goto (tgt := 172) hx hb dX11_unit_168 (by decide) ?_
            refine cbVv (n := 2) (rest := []) hx hb hml hown hts hE hP hD hS hA (sY_X11_add_1 NF l dC dI cy y0 r 1 (v20 7) v20 f21 w22 g23 hIv20 hCf21 hRf21 (by have q1 : (1 : Int32).toInt = 1 := (by decide); show (v20 8).toInt ≤ 319; omega)) k_1696 k_1698 k_63 k_114 k_1699 (by decide +kernel) ⟨Nat.le_of_ble_eq_true rfl, Nat.le_of_ble_eq_true rfl⟩ 0 11 rfl rfl (rfl) hl.1 rfl (Nat.le_of_ble_eq_true rfl) dX11_unit_172 (fun u H locs hw hP hD hS => ?_)
            obtain ⟨hG49, hw⟩ := hw
            obtain ⟨v50, f51, w52, g53⟩ := u
            obtain ⟨kV_v50, kF_f51, hIv50, hCf51, hRf51, hk0_v50, hk1_v50, hk2_v50, hk3_v50, hk4_v50, hk5_v50, hk9_v50, hk10_v50, hk13_v50, hk14_v50, hk15_v50, hk17_v50, hk18_v50, hk24_v50, hk25_v50, hk35_v50, hk36_v50, hk38_v50, hk39_v50, pv54, pg55, pg56, kq57⟩ := hw
            have hM_v50 : KV [1, 2, 3, 5, 6, 7, 8, 10, 11, 13, 14] v50 v := KV.tr kV_v50 hM_v20 rfl
            have hA_f51 : KF [2, 3, 6] f51 f := KF.tr kF_f51 hA_f21 rfl
            have hP : va_P (dC, dI) vwCl (YW cy y0 r v50 f51 w52 g53) H := hP
            have hD : va_D A (YW cy y0 r v50 f51 w52 g53) := hD
            have b8_v50 : 0 ≤ (v50 8).toInt ∧ (v50 8).toInt ≤ 320 := YIb.b hIv50.1 8 (by decide)
            have pv54 : (v50 8).toInt = (v20 8).toInt + 1 := pv54
            have pg55 : (f51 2) = upd (f21 2) ((v20 8).toInt).toNat 1 := pg55
            rw [hs2_f21] at pg55
            have pg56 : (f51 3) = upd (f21 3) ((v20 8).toInt).toNat (v20 7) := pg56
            rw [hs3_f21] at pg56
            have hs6_f51 : f51 6 = (f1 6) := kq57.trans hs6_f21
            have hUv50 : (v50 35).toInt + (v50 36).toInt ≤ 40 := hIv50.2
            have hq1_v50 : v50 1 = (v8 1) := hk1_v50.trans hq1_v20
            have zq1_v50 := congrArg Int32.toInt hq1_v50
            have hq3_v50 : v50 3 = (v1 3) := hk3_v50.trans hq3_v20
            have zq3_v50 := congrArg Int32.toInt hq3_v50
            have hq5_v50 : v50 5 = (v1 5) := hk5_v50.trans hq5_v20
            have zq5_v50 := congrArg Int32.toInt hq5_v50
            have hq10_v50 : v50 10 = (v1 10) := hk10_v50.trans hq10_v20
            have zq10_v50 := congrArg Int32.toInt hq10_v50
            have hq13_v50 : v50 13 = (v20 13) := hk13_v50
            have zq13_v50 := congrArg Int32.toInt hq13_v50
            have hq14_v50 : v50 14 = (v1 14) := hk14_v50.trans hq14_v20
            have zq14_v50 := congrArg Int32.toInt hq14_v50
            have hFU : FI 1 (v50 10).toInt (v50 14).toInt (v50 8).toInt (f1 6) (f51 2) (f51 3) := FI.unit (hFJ (by omega)) pg55 pg56 (by omega) (Or.inr ⟨rfl, by omega, by omega⟩) (by omega) (by first | with_reducible rfl | with_reducible assumption | rfl | omega) (by first | with_reducible rfl | with_reducible assumption | rfl | omega) (by first | with_reducible rfl | with_reducible assumption | rfl | omega)
            refine lv_aload_n hx hb dX11_unit_175 rfl (lv_at hl 2 rfl) ?_
            refine cbVv (n := 0) (rest := []) hx hb hml hown hts hE hP hD hS hA (sY_X11_token_1 NF l dC dI cy y0 r  v50 f51 w52 g53 hIv50 hCf51 hRf51 ) k_1579 k_1581 k_42 k_114 k_1582 (by decide +kernel) ⟨Nat.le_of_ble_eq_true rfl, Nat.le_of_ble_eq_true rfl⟩ 0 11 rfl rfl (rfl) hl.1 rfl (Nat.le_of_ble_eq_true rfl) dX11_unit_176 (fun u H locs hw hP hD hS => ?_)
            obtain ⟨hG58, hw⟩ := hw
            obtain ⟨v59, f60, w61, g62⟩ := u
            obtain ⟨kV_v59, kF_f60, hIv59, hCf60, hRf60, hk0_v59, hk1_v59, hk2_v59, hk4_v59, hk8_v59, hk9_v59, hk10_v59, hk13_v59, hk14_v59, hk15_v59, hk17_v59, hk18_v59, hk24_v59, hk25_v59, hk35_v59, hk36_v59, hk38_v59, hk39_v59, pv63, pv64, kq65, kq66, kq67⟩ := hw
            have hM_v59 : KV [1, 2, 3, 5, 6, 7, 8, 10, 11, 13, 14] v59 v := KV.tr kV_v59 hM_v50 rfl
            have hA_f60 : KF [2, 3, 6] f60 f := KF.tr kF_f60 hA_f51 rfl
            have hP : va_P (dC, dI) vwCl (YW cy y0 r v59 f60 w61 g62) H := hP
            have hD : va_D A (YW cy y0 r v59 f60 w61 g62) := hD
            have b3_v59 : 0 ≤ (v59 3).toInt ∧ (v59 3).toInt ≤ 1600 := YIb.b hIv59.1 3 (by decide)
            have pv63 : (v50 3).toInt ≤ (v59 3).toInt := pv63
            have pv64 : (v59 5).toInt = (v50 5).toInt ∨ (v50 3).toInt < (v59 3).toInt ∨ ¬ (v59 5).toInt = 59 := pv64
            have hs2_f60 : f60 2 = (f51 2) := kq65
            have hs3_f60 : f60 3 = (f51 3) := kq66
            have hs6_f60 : f60 6 = (f1 6) := kq67.trans hs6_f51
            have hUv59 : (v59 35).toInt + (v59 36).toInt ≤ 40 := hIv59.2
            have hq1_v59 : v59 1 = (v8 1) := hk1_v59.trans hq1_v50
            have zq1_v59 := congrArg Int32.toInt hq1_v59
            have hq8_v59 : v59 8 = (v50 8) := hk8_v59
            have zq8_v59 := congrArg Int32.toInt hq8_v59
            have hq10_v59 : v59 10 = (v1 10) := hk10_v59.trans hq10_v50
            have zq10_v59 := congrArg Int32.toInt hq10_v59
            have hq13_v59 : v59 13 = (v20 13) := hk13_v59.trans hq13_v50
            have zq13_v59 := congrArg Int32.toInt hq13_v59
            have hq14_v59 : v59 14 = (v1 14) := hk14_v59.trans hq14_v50
            have zq14_v59 := congrArg Int32.toInt hq14_v59
            have hGR : GR (v 3).toInt (v 5).toInt (v59 3).toInt (v59 5).toInt := GR.tr hGR (show GR (v50 3).toInt (v50 5).toInt (v59 3).toInt (v59 5).toInt from ⟨pv63, pv64⟩) (by first | with_reducible rfl | with_reducible assumption | rfl | omega) (by first | with_reducible rfl | with_reducible assumption | rfl | omega)
            clear pv64
            exact ret (v59, f60, w61, g62) _ _ _ _ _ _ ⟨(hT6.symm.trans (gsY_X11_unit_1_q1 hG7 c18 hG19 c28 c29 hG49 hG58)), hM_v59, hA_f60, hIv59, hCf60, hRf60, (hk0_v59.trans (hk0_v50.trans (hk0_v20.trans (hk0_v8.trans (show v1 0 = v 0 from hq0_v1))))), (hk4_v59.trans (hk4_v50.trans (hk4_v20.trans (hk4_v8.trans (show v1 4 = v 4 from hq4_v1))))), (hk9_v59.trans (hk9_v50.trans (hk9_v20.trans (hk9_v8.trans (show v1 9 = v 9 from hq9_v1))))), (hk15_v59.trans (hk15_v50.trans (hk15_v20.trans (hk15_v8.trans (show v1 15 = v 15 from hq15_v1))))), (hk17_v59.trans (hk17_v50.trans (hk17_v20.trans (hk17_v8.trans (show v1 17 = v 17 from hq17_v1))))), (hk18_v59.trans (hk18_v50.trans (hk18_v20.trans (hk18_v8.trans (show v1 18 = v 18 from hq18_v1))))), (hk24_v59.trans (hk24_v50.trans (hk24_v20.trans (hk24_v8.trans (show v1 24 = v 24 from hq24_v1))))), (hk25_v59.trans (hk25_v50.trans (hk25_v20.trans (hk25_v8.trans (show v1 25 = v 25 from hq25_v1))))), (hk35_v59.trans (hk35_v50.trans (hk35_v20.trans (hk35_v8.trans (show v1 35 = v 35 from hq35_v1))))), (hk36_v59.trans (hk36_v50.trans (hk36_v20.trans (hk36_v8.trans (show v1 36 = v 36 from hq36_v1))))), (hk38_v59.trans (hk38_v50.trans (hk38_v20.trans (hk38_v8.trans (show v1 38 = v 38 from hq38_v1))))), (hk39_v59.trans (hk39_v50.trans (hk39_v20.trans (hk39_v8.trans (show v1 39 = v 39 from hq39_v1))))), (by show GR (v 3).toInt (v 5).toInt (v59 3).toInt (v59 5).toInt; exact GR.cast hGR (by first | with_reducible rfl | with_reducible assumption | rfl | omega) (by first | with_reducible rfl | with_reducible assumption | rfl | omega)), (by show IM0 (v59 1).toInt (FI 1 (v59 10).toInt (v59 14).toInt (v59 8).toInt (f60 6) (f60 2) (f60 3)); rw [hs6_f60, hs2_f60, hs3_f60]; intro hz9; exact FI.cast hFU (by first | with_reducible rfl | with_reducible assumption | rfl | omega) (by first | with_reducible rfl | with_reducible assumption | rfl | omega) (by first | with_reducible rfl | with_reducible assumption | rfl | omega)), (by show NB (v59 1).toInt (v59 8).toInt (v59 10).toInt (v59 13).toInt (v59 14).toInt; exact NB.mk (by omega) (by omega) (by omega) (by omega)), (by show UG (v59 1).toInt (v 13).toInt (v59 13).toInt; exact UG.mk (by omega))⟩ hP hD hS dX11_unit_179 (Nat.le_refl _) (Nat.le_refl _)
        · skip
          have zc28 : ¬ (0 ≤ r4.toInt) := by rw [fa_le, show (0 : Int32).toInt = 0 from by decide] at c28; exact c28
          refine lv_iconst (v := 0) hx hb dX11_unit_155 (by decide) ?_
          refine lv_goto (tgt := 160) hx hb dX11_unit_156 (by decide) ?_
          refine lv_iload_n hx hb dX11_unit_160 rfl (lv_at hl 0 rfl) ?_
          refine lv_if_ge (tgt := 171) hx hb dX11_unit_161 (by decide) (fun c68 => ?_) (fun c68 => ?_)
          · skip
            have zc68 : 0 ≤ r4.toInt := by rw [fa_le, show (0 : Int32).toInt = 0 from by decide] at c68; exact c68
            refine lv_iload_n hx hb dX11_unit_171 rfl (lv_at hl 0 rfl) ?_
            refine cbVv (n := 2) (rest := []) hx hb hml hown hts hE hP hD hS hA (sY_X11_add_1 NF l dC dI cy y0 r 0 r4 v20 f21 w22 g23 hIv20 hCf21 hRf21 (by have q1 : (0 : Int32).toInt = 0 := (by decide); show (v20 8).toInt ≤ 319; omega)) k_1696 k_1698 k_63 k_114 k_1699 (by decide +kernel) ⟨Nat.le_of_ble_eq_true rfl, Nat.le_of_ble_eq_true rfl⟩ 0 11 rfl rfl (rfl) hl.1 rfl (Nat.le_of_ble_eq_true rfl) dX11_unit_172 (fun u H locs hw hP hD hS => ?_)
            obtain ⟨hG69, hw⟩ := hw
            obtain ⟨v70, f71, w72, g73⟩ := u
            obtain ⟨kV_v70, kF_f71, hIv70, hCf71, hRf71, hk0_v70, hk1_v70, hk2_v70, hk3_v70, hk4_v70, hk5_v70, hk9_v70, hk10_v70, hk13_v70, hk14_v70, hk15_v70, hk17_v70, hk18_v70, hk24_v70, hk25_v70, hk35_v70, hk36_v70, hk38_v70, hk39_v70, pv74, pg75, pg76, kq77⟩ := hw
            have hM_v70 : KV [1, 2, 3, 5, 6, 7, 8, 10, 11, 13, 14] v70 v := KV.tr kV_v70 hM_v20 rfl
            have hA_f71 : KF [2, 3, 6] f71 f := KF.tr kF_f71 hA_f21 rfl
            have hP : va_P (dC, dI) vwCl (YW cy y0 r v70 f71 w72 g73) H := hP
            have hD : va_D A (YW cy y0 r v70 f71 w72 g73) := hD
            have b8_v70 : 0 ≤ (v70 8).toInt ∧ (v70 8).toInt ≤ 320 := YIb.b hIv70.1 8 (by decide)
            have pv74 : (v70 8).toInt = (v20 8).toInt + 1 := pv74
            have pg75 : (f71 2) = upd (f21 2) ((v20 8).toInt).toNat 0 := pg75
            rw [hs2_f21] at pg75
            have pg76 : (f71 3) = upd (f21 3) ((v20 8).toInt).toNat r4 := pg76
            rw [hs3_f21] at pg76
            have hs6_f71 : f71 6 = (f1 6) := kq77.trans hs6_f21
            have hUv70 : (v70 35).toInt + (v70 36).toInt ≤ 40 := hIv70.2
            have hq1_v70 : v70 1 = (v8 1) := hk1_v70.trans hq1_v20
            have zq1_v70 := congrArg Int32.toInt hq1_v70
            have hq3_v70 : v70 3 = (v1 3) := hk3_v70.trans hq3_v20
            have zq3_v70 := congrArg Int32.toInt hq3_v70
            have hq5_v70 : v70 5 = (v1 5) := hk5_v70.trans hq5_v20
            have zq5_v70 := congrArg Int32.toInt hq5_v70
            have hq10_v70 : v70 10 = (v1 10) := hk10_v70.trans hq10_v20
            have zq10_v70 := congrArg Int32.toInt hq10_v70
            have hq13_v70 : v70 13 = (v20 13) := hk13_v70
            have zq13_v70 := congrArg Int32.toInt hq13_v70
            have hq14_v70 : v70 14 = (v1 14) := hk14_v70.trans hq14_v20
            have zq14_v70 := congrArg Int32.toInt hq14_v70
            have hFU : FI 1 (v70 10).toInt (v70 14).toInt (v70 8).toInt (f1 6) (f71 2) (f71 3) := FI.unit (hFJ (by omega)) pg75 pg76 (by omega) (Or.inl rfl) (by omega) (by first | with_reducible rfl | with_reducible assumption | rfl | omega) (by first | with_reducible rfl | with_reducible assumption | rfl | omega) (by first | with_reducible rfl | with_reducible assumption | rfl | omega)
            refine lv_aload_n hx hb dX11_unit_175 rfl (lv_at hl 2 rfl) ?_
            refine cbVv (n := 0) (rest := []) hx hb hml hown hts hE hP hD hS hA (sY_X11_token_1 NF l dC dI cy y0 r  v70 f71 w72 g73 hIv70 hCf71 hRf71 ) k_1579 k_1581 k_42 k_114 k_1582 (by decide +kernel) ⟨Nat.le_of_ble_eq_true rfl, Nat.le_of_ble_eq_true rfl⟩ 0 11 rfl rfl (rfl) hl.1 rfl (Nat.le_of_ble_eq_true rfl) dX11_unit_176 (fun u H locs hw hP hD hS => ?_)
            obtain ⟨hG78, hw⟩ := hw
            obtain ⟨v79, f80, w81, g82⟩ := u
            obtain ⟨kV_v79, kF_f80, hIv79, hCf80, hRf80, hk0_v79, hk1_v79, hk2_v79, hk4_v79, hk8_v79, hk9_v79, hk10_v79, hk13_v79, hk14_v79, hk15_v79, hk17_v79, hk18_v79, hk24_v79, hk25_v79, hk35_v79, hk36_v79, hk38_v79, hk39_v79, pv83, pv84, kq85, kq86, kq87⟩ := hw
            have hM_v79 : KV [1, 2, 3, 5, 6, 7, 8, 10, 11, 13, 14] v79 v := KV.tr kV_v79 hM_v70 rfl
            have hA_f80 : KF [2, 3, 6] f80 f := KF.tr kF_f80 hA_f71 rfl
            have hP : va_P (dC, dI) vwCl (YW cy y0 r v79 f80 w81 g82) H := hP
            have hD : va_D A (YW cy y0 r v79 f80 w81 g82) := hD
            have b3_v79 : 0 ≤ (v79 3).toInt ∧ (v79 3).toInt ≤ 1600 := YIb.b hIv79.1 3 (by decide)
            have pv83 : (v70 3).toInt ≤ (v79 3).toInt := pv83
            have pv84 : (v79 5).toInt = (v70 5).toInt ∨ (v70 3).toInt < (v79 3).toInt ∨ ¬ (v79 5).toInt = 59 := pv84
            have hs2_f80 : f80 2 = (f71 2) := kq85
            have hs3_f80 : f80 3 = (f71 3) := kq86
            have hs6_f80 : f80 6 = (f1 6) := kq87.trans hs6_f71
            have hUv79 : (v79 35).toInt + (v79 36).toInt ≤ 40 := hIv79.2
            have hq1_v79 : v79 1 = (v8 1) := hk1_v79.trans hq1_v70
            have zq1_v79 := congrArg Int32.toInt hq1_v79
            have hq8_v79 : v79 8 = (v70 8) := hk8_v79
            have zq8_v79 := congrArg Int32.toInt hq8_v79
            have hq10_v79 : v79 10 = (v1 10) := hk10_v79.trans hq10_v70
            have zq10_v79 := congrArg Int32.toInt hq10_v79
            have hq13_v79 : v79 13 = (v20 13) := hk13_v79.trans hq13_v70
            have zq13_v79 := congrArg Int32.toInt hq13_v79
            have hq14_v79 : v79 14 = (v1 14) := hk14_v79.trans hq14_v70
            have zq14_v79 := congrArg Int32.toInt hq14_v79
            have hGR : GR (v 3).toInt (v 5).toInt (v79 3).toInt (v79 5).toInt := GR.tr hGR (show GR (v70 3).toInt (v70 5).toInt (v79 3).toInt (v79 5).toInt from ⟨pv83, pv84⟩) (by first | with_reducible rfl | with_reducible assumption | rfl | omega) (by first | with_reducible rfl | with_reducible assumption | rfl | omega)
            clear pv84
            exact ret (v79, f80, w81, g82) _ _ _ _ _ _ ⟨(hT6.symm.trans (gsY_X11_unit_1_q2 hG7 c18 hG19 c28 c68 hG69 hG78)), hM_v79, hA_f80, hIv79, hCf80, hRf80, (hk0_v79.trans (hk0_v70.trans (hk0_v20.trans (hk0_v8.trans (show v1 0 = v 0 from hq0_v1))))), (hk4_v79.trans (hk4_v70.trans (hk4_v20.trans (hk4_v8.trans (show v1 4 = v 4 from hq4_v1))))), (hk9_v79.trans (hk9_v70.trans (hk9_v20.trans (hk9_v8.trans (show v1 9 = v 9 from hq9_v1))))), (hk15_v79.trans (hk15_v70.trans (hk15_v20.trans (hk15_v8.trans (show v1 15 = v 15 from hq15_v1))))), (hk17_v79.trans (hk17_v70.trans (hk17_v20.trans (hk17_v8.trans (show v1 17 = v 17 from hq17_v1))))), (hk18_v79.trans (hk18_v70.trans (hk18_v20.trans (hk18_v8.trans (show v1 18 = v 18 from hq18_v1))))), (hk24_v79.trans (hk24_v70.trans (hk24_v20.trans (hk24_v8.trans (show v1 24 = v 24 from hq24_v1))))), (hk25_v79.trans (hk25_v70.trans (hk25_v20.trans (hk25_v8.trans (show v1 25 = v 25 from hq25_v1))))), (hk35_v79.trans (hk35_v70.trans (hk35_v20.trans (hk35_v8.trans (show v1 35 = v 35 from hq35_v1))))), (hk36_v79.trans (hk36_v70.trans (hk36_v20.trans (hk36_v8.trans (show v1 36 = v 36 from hq36_v1))))), (hk38_v79.trans (hk38_v70.trans (hk38_v20.trans (hk38_v8.trans (show v1 38 = v 38 from hq38_v1))))), (hk39_v79.trans (hk39_v70.trans (hk39_v20.trans (hk39_v8.trans (show v1 39 = v 39 from hq39_v1))))), (by show GR (v 3).toInt (v 5).toInt (v79 3).toInt (v79 5).toInt; exact GR.cast hGR (by first | with_reducible rfl | with_reducible assumption | rfl | omega) (by first | with_reducible rfl | with_reducible assumption | rfl | omega)), (by show IM0 (v79 1).toInt (FI 1 (v79 10).toInt (v79 14).toInt (v79 8).toInt (f80 6) (f80 2) (f80 3)); rw [hs6_f80, hs2_f80, hs3_f80]; intro hz9; exact FI.cast hFU (by first | with_reducible rfl | with_reducible assumption | rfl | omega) (by first | with_reducible rfl | with_reducible assumption | rfl | omega) (by first | with_reducible rfl | with_reducible assumption | rfl | omega)), (by show NB (v79 1).toInt (v79 8).toInt (v79 10).toInt (v79 13).toInt (v79 14).toInt; exact NB.mk (by omega) (by omega) (by omega) (by omega)), (by show UG (v79 1).toInt (v 13).toInt (v79 13).toInt; exact UG.mk (by omega))⟩ hP hD hS dX11_unit_179 (Nat.le_refl _) (Nat.le_refl _)
          · skip
            have zc68 : ¬ (0 ≤ r4.toInt) := by rw [fa_le, show (0 : Int32).toInt = 0 from by decide] at c68; exact c68
            refine lv_aload_n hx hb dX11_unit_164 rfl (lv_at hl 2 rfl) ?_
            refine va_get (D := (dC, dI)) (ci := 11) (v := .int (v20 7)) (C := RX11) (T := TX11) (N := 79) hx hb hts inB_11 hown hE.1 hP 0 rfl rfl 8 (by decide) (hts _ k_1328) (fun _ h9 => h9) rfl dX11_unit_165 ?_
            refine lv_goto (tgt := 172) hx hb dX11_unit_168 (by decide) ?_
            refine cbVv (n := 2) (rest := []) hx hb hml hown hts hE hP hD hS hA (sY_X11_add_1 NF l dC dI cy y0 r 0 (v20 7) v20 f21 w22 g23 hIv20 hCf21 hRf21 (by have q1 : (0 : Int32).toInt = 0 := (by decide); show (v20 8).toInt ≤ 319; omega)) k_1696 k_1698 k_63 k_114 k_1699 (by decide +kernel) ⟨Nat.le_of_ble_eq_true rfl, Nat.le_of_ble_eq_true rfl⟩ 0 11 rfl rfl (rfl) hl.1 rfl (Nat.le_of_ble_eq_true rfl) dX11_unit_172 (fun u H locs hw hP hD hS => ?_)
            obtain ⟨hG88, hw⟩ := hw
            obtain ⟨v89, f90, w91, g92⟩ := u
            obtain ⟨kV_v89, kF_f90, hIv89, hCf90, hRf90, hk0_v89, hk1_v89, hk2_v89, hk3_v89, hk4_v89, hk5_v89, hk9_v89, hk10_v89, hk13_v89, hk14_v89, hk15_v89, hk17_v89, hk18_v89, hk24_v89, hk25_v89, hk35_v89, hk36_v89, hk38_v89, hk39_v89, pv93, pg94, pg95, kq96⟩ := hw
            have hM_v89 : KV [1, 2, 3, 5, 6, 7, 8, 10, 11, 13, 14] v89 v := KV.tr kV_v89 hM_v20 rfl
            have hA_f90 : KF [2, 3, 6] f90 f := KF.tr kF_f90 hA_f21 rfl
            have hP : va_P (dC, dI) vwCl (YW cy y0 r v89 f90 w91 g92) H := hP
            have hD : va_D A (YW cy y0 r v89 f90 w91 g92) := hD
            have b8_v89 : 0 ≤ (v89 8).toInt ∧ (v89 8).toInt ≤ 320 := YIb.b hIv89.1 8 (by decide)
            have pv93 : (v89 8).toInt = (v20 8).toInt + 1 := pv93
            have pg94 : (f90 2) = upd (f21 2) ((v20 8).toInt).toNat 0 := pg94
            rw [hs2_f21] at pg94
            have pg95 : (f90 3) = upd (f21 3) ((v20 8).toInt).toNat (v20 7) := pg95
            rw [hs3_f21] at pg95
            have hs6_f90 : f90 6 = (f1 6) := kq96.trans hs6_f21
            have hUv89 : (v89 35).toInt + (v89 36).toInt ≤ 40 := hIv89.2
            have hq1_v89 : v89 1 = (v8 1) := hk1_v89.trans hq1_v20
            have zq1_v89 := congrArg Int32.toInt hq1_v89
            have hq3_v89 : v89 3 = (v1 3) := hk3_v89.trans hq3_v20
            have zq3_v89 := congrArg Int32.toInt hq3_v89
            have hq5_v89 : v89 5 = (v1 5) := hk5_v89.trans hq5_v20
            have zq5_v89 := congrArg Int32.toInt hq5_v89
            have hq10_v89 : v89 10 = (v1 10) := hk10_v89.trans hq10_v20
            have zq10_v89 := congrArg Int32.toInt hq10_v89
            have hq13_v89 : v89 13 = (v20 13) := hk13_v89
            have zq13_v89 := congrArg Int32.toInt hq13_v89
            have hq14_v89 : v89 14 = (v1 14) := hk14_v89.trans hq14_v20
            have zq14_v89 := congrArg Int32.toInt hq14_v89
            have hFU : FI 1 (v89 10).toInt (v89 14).toInt (v89 8).toInt (f1 6) (f90 2) (f90 3) := FI.unit (hFJ (by omega)) pg94 pg95 (by omega) (Or.inl rfl) (by omega) (by first | with_reducible rfl | with_reducible assumption | rfl | omega) (by first | with_reducible rfl | with_reducible assumption | rfl | omega) (by first | with_reducible rfl | with_reducible assumption | rfl | omega)
            refine lv_aload_n hx hb dX11_unit_175 rfl (lv_at hl 2 rfl) ?_
            refine cbVv (n := 0) (rest := []) hx hb hml hown hts hE hP hD hS hA (sY_X11_token_1 NF l dC dI cy y0 r  v89 f90 w91 g92 hIv89 hCf90 hRf90 ) k_1579 k_1581 k_42 k_114 k_1582 (by decide +kernel) ⟨Nat.le_of_ble_eq_true rfl, Nat.le_of_ble_eq_true rfl⟩ 0 11 rfl rfl (rfl) hl.1 rfl (Nat.le_of_ble_eq_true rfl) dX11_unit_176 (fun u H locs hw hP hD hS => ?_)
            obtain ⟨hG97, hw⟩ := hw
            obtain ⟨v98, f99, w100, g101⟩ := u
            obtain ⟨kV_v98, kF_f99, hIv98, hCf99, hRf99, hk0_v98, hk1_v98, hk2_v98, hk4_v98, hk8_v98, hk9_v98, hk10_v98, hk13_v98, hk14_v98, hk15_v98, hk17_v98, hk18_v98, hk24_v98, hk25_v98, hk35_v98, hk36_v98, hk38_v98, hk39_v98, pv102, pv103, kq104, kq105, kq106⟩ := hw
            have hM_v98 : KV [1, 2, 3, 5, 6, 7, 8, 10, 11, 13, 14] v98 v := KV.tr kV_v98 hM_v89 rfl
            have hA_f99 : KF [2, 3, 6] f99 f := KF.tr kF_f99 hA_f90 rfl
            have hP : va_P (dC, dI) vwCl (YW cy y0 r v98 f99 w100 g101) H := hP
            have hD : va_D A (YW cy y0 r v98 f99 w100 g101) := hD
            have b3_v98 : 0 ≤ (v98 3).toInt ∧ (v98 3).toInt ≤ 1600 := YIb.b hIv98.1 3 (by decide)
            have pv102 : (v89 3).toInt ≤ (v98 3).toInt := pv102
            have pv103 : (v98 5).toInt = (v89 5).toInt ∨ (v89 3).toInt < (v98 3).toInt ∨ ¬ (v98 5).toInt = 59 := pv103
            have hs2_f99 : f99 2 = (f90 2) := kq104
            have hs3_f99 : f99 3 = (f90 3) := kq105
            have hs6_f99 : f99 6 = (f1 6) := kq106.trans hs6_f90
            have hUv98 : (v98 35).toInt + (v98 36).toInt ≤ 40 := hIv98.2
            have hq1_v98 : v98 1 = (v8 1) := hk1_v98.trans hq1_v89
            have zq1_v98 := congrArg Int32.toInt hq1_v98
            have hq8_v98 : v98 8 = (v89 8) := hk8_v98
            have zq8_v98 := congrArg Int32.toInt hq8_v98
            have hq10_v98 : v98 10 = (v1 10) := hk10_v98.trans hq10_v89
            have zq10_v98 := congrArg Int32.toInt hq10_v98
            have hq13_v98 : v98 13 = (v20 13) := hk13_v98.trans hq13_v89
            have zq13_v98 := congrArg Int32.toInt hq13_v98
            have hq14_v98 : v98 14 = (v1 14) := hk14_v98.trans hq14_v89
            have zq14_v98 := congrArg Int32.toInt hq14_v98
            have hGR : GR (v 3).toInt (v 5).toInt (v98 3).toInt (v98 5).toInt := GR.tr hGR (show GR (v89 3).toInt (v89 5).toInt (v98 3).toInt (v98 5).toInt from ⟨pv102, pv103⟩) (by first | with_reducible rfl | with_reducible assumption | rfl | omega) (by first | with_reducible rfl | with_reducible assumption | rfl | omega)
            clear pv103
            exact ret (v98, f99, w100, g101) _ _ _ _ _ _ ⟨(hT6.symm.trans (gsY_X11_unit_1_q3 hG7 c18 hG19 c28 c68 hG88 hG97)), hM_v98, hA_f99, hIv98, hCf99, hRf99, (hk0_v98.trans (hk0_v89.trans (hk0_v20.trans (hk0_v8.trans (show v1 0 = v 0 from hq0_v1))))), (hk4_v98.trans (hk4_v89.trans (hk4_v20.trans (hk4_v8.trans (show v1 4 = v 4 from hq4_v1))))), (hk9_v98.trans (hk9_v89.trans (hk9_v20.trans (hk9_v8.trans (show v1 9 = v 9 from hq9_v1))))), (hk15_v98.trans (hk15_v89.trans (hk15_v20.trans (hk15_v8.trans (show v1 15 = v 15 from hq15_v1))))), (hk17_v98.trans (hk17_v89.trans (hk17_v20.trans (hk17_v8.trans (show v1 17 = v 17 from hq17_v1))))), (hk18_v98.trans (hk18_v89.trans (hk18_v20.trans (hk18_v8.trans (show v1 18 = v 18 from hq18_v1))))), (hk24_v98.trans (hk24_v89.trans (hk24_v20.trans (hk24_v8.trans (show v1 24 = v 24 from hq24_v1))))), (hk25_v98.trans (hk25_v89.trans (hk25_v20.trans (hk25_v8.trans (show v1 25 = v 25 from hq25_v1))))), (hk35_v98.trans (hk35_v89.trans (hk35_v20.trans (hk35_v8.trans (show v1 35 = v 35 from hq35_v1))))), (hk36_v98.trans (hk36_v89.trans (hk36_v20.trans (hk36_v8.trans (show v1 36 = v 36 from hq36_v1))))), (hk38_v98.trans (hk38_v89.trans (hk38_v20.trans (hk38_v8.trans (show v1 38 = v 38 from hq38_v1))))), (hk39_v98.trans (hk39_v89.trans (hk39_v20.trans (hk39_v8.trans (show v1 39 = v 39 from hq39_v1))))), (by show GR (v 3).toInt (v 5).toInt (v98 3).toInt (v98 5).toInt; exact GR.cast hGR (by first | with_reducible rfl | with_reducible assumption | rfl | omega) (by first | with_reducible rfl | with_reducible assumption | rfl | omega)), (by show IM0 (v98 1).toInt (FI 1 (v98 10).toInt (v98 14).toInt (v98 8).toInt (f99 6) (f99 2) (f99 3)); rw [hs6_f99, hs2_f99, hs3_f99]; intro hz9; exact FI.cast hFU (by first | with_reducible rfl | with_reducible assumption | rfl | omega) (by first | with_reducible rfl | with_reducible assumption | rfl | omega) (by first | with_reducible rfl | with_reducible assumption | rfl | omega)), (by show NB (v98 1).toInt (v98 8).toInt (v98 10).toInt (v98 13).toInt (v98 14).toInt; exact NB.mk (by omega) (by omega) (by omega) (by omega)), (by show UG (v98 1).toInt (v 13).toInt (v98 13).toInt; exact UG.mk (by omega))⟩ hP hD hS dX11_unit_179 (Nat.le_refl _) (Nat.le_refl _)
      · skip
        have zc18 : ¬ ((v8 1).toInt ≤ 0) := by rw [fa_le, show (0 : Int32).toInt = 0 from by decide] at c18; exact c18
        exact ret (v8, f9, w10, g11) _ _ _ _ _ _ ⟨(hT6.symm.trans (gsY_X11_unit_1_q4 hG7 c18)), hM_v8, hA_f9, hIv8, hCf9, hRf9, (hk0_v8.trans (show v1 0 = v 0 from hq0_v1)), (hk4_v8.trans (show v1 4 = v 4 from hq4_v1)), (hk9_v8.trans (show v1 9 = v 9 from hq9_v1)), (hk15_v8.trans (show v1 15 = v 15 from hq15_v1)), (hk17_v8.trans (show v1 17 = v 17 from hq17_v1)), (hk18_v8.trans (show v1 18 = v 18 from hq18_v1)), (hk24_v8.trans (show v1 24 = v 24 from hq24_v1)), (hk25_v8.trans (show v1 25 = v 25 from hq25_v1)), (hk35_v8.trans (show v1 35 = v 35 from hq35_v1)), (hk36_v8.trans (show v1 36 = v 36 from hq36_v1)), (hk38_v8.trans (show v1 38 = v 38 from hq38_v1)), (hk39_v8.trans (show v1 39 = v 39 from hq39_v1)), (by show GR (v 3).toInt (v 5).toInt (v8 3).toInt (v8 5).toInt; exact GR.cast hGR (by first | with_reducible rfl | with_reducible assumption | rfl | omega) (by first | with_reducible rfl | with_reducible assumption | rfl | omega)), (by show IM0 (v8 1).toInt (FI 1 (v8 10).toInt (v8 14).toInt (v8 8).toInt (f9 6) (f9 2) (f9 3)); rw [hs6_f9, hs2_f9, hs3_f9]; intro hz9; exfalso; omega), (by show NB (v8 1).toInt (v8 8).toInt (v8 10).toInt (v8 13).toInt (v8 14).toInt; exact NB.ab (by omega)), (by show UG (v8 1).toInt (v 13).toInt (v8 13).toInt; exact UG.ab (by omega))⟩ hP hD hS dX11_unit_145 (Nat.le_refl _) (Nat.le_refl _)
    revert jp133
    intro jp133
    have jp126 : ∀ (H : Heap) (locs : List Loc) (ls : Array Slot), gsY_X11_unit_1_J107 NF f1 g1 v1 w1 r4 = (gsY_X11_unit_1 NF v f w g) → va_P (dC, dI) vwCl (YW cy y0 r v1 f1 w1 g1) H → va_D A (YW cy y0 r v1 f1 w1 g1) → va_S A s.heap H locs → lv_has ls 3 [(2, .int r4), (1, .int l1_1), (0, .ref y0)] → W p l e { frames := 4, cells := 0, slots := 0, locals := 124 } s m ([.ref y0] : List Value).toArray below meth c H locs 0 0 Q (F0 m 126 ls []) := by
      intro H locs ls hT107 hP hD hS hl
      refine lv_aload_n hx hb dX11_unit_126 rfl (lv_at hl 2 rfl) ?_
      refine cbVi (n := 0) (rest := []) hx hb hml hown hts hE hP hD hS hA (sY_X11_isFull_1 NF l dC dI cy y0 r  v1 f1 w1 g1 hIv1 hCf1 hRf1 ) k_1684 k_1686 k_60 k_114 k_1687 (by decide +kernel) ⟨Nat.le_of_ble_eq_true rfl, Nat.le_of_ble_eq_true rfl⟩ 0 11 rfl rfl (rfl) hl.1 rfl (Nat.le_of_ble_eq_true rfl) dX11_unit_127 (fun r108 u H locs hw hP hD hS => ?_)
      obtain ⟨hG109, hw⟩ := hw
      rcases hw with ⟨g110⟩ | ⟨g110, g110_0⟩
      · skip
        subst g110
        refine lv_if_eq (tgt := 138) hx hb dX11_unit_130 (by decide) (fun c0 => absurd c0 (by decide)) (fun _ => ?_)
        exact jp133 _ _ _ ((gsY_X11_unit_1_q5 hG109).symm.trans hT107) hP hD hS hl
      · skip
        subst g110
        refine lv_if_eq (tgt := 138) hx hb dX11_unit_130 (by decide) (fun _ => ?_) (fun c0 => absurd (by decide) c0)
        refine lv_aload_n hx hb dX11_unit_138 rfl (lv_at hl 2 rfl) ?_
        refine va_get (D := (dC, dI)) (ci := 11) (v := .int (v1 1)) (C := RX11) (T := TX11) (N := 79) hx hb hts inB_11 hown hE.1 hP 0 rfl rfl 2 (by decide) (hts _ k_1322) (fun _ h9 => h9) rfl dX11_unit_139 ?_
        refine lv_if_le (tgt := 146) hx hb dX11_unit_142 (by decide) (fun c111 => ?_) (fun c111 => ?_)
        · skip
          have zc111 : (v1 1).toInt ≤ 0 := by rw [fa_le, show (0 : Int32).toInt = 0 from by decide] at c111; exact c111
          refine lv_aload_n hx hb dX11_unit_146 rfl (lv_at hl 2 rfl) ?_
          refine cbVv (n := 0) (rest := []) hx hb hml hown hts hE hP hD hS hA (sY_X11_countUnit_1 NF l dC dI cy y0 r  v1 f1 w1 g1 hIv1 hCf1 hRf1 (by show (v1 13).toInt ≤ 30; omega)) k_1688 k_1690 k_61 k_114 k_1691 (by decide +kernel) ⟨Nat.le_of_ble_eq_true rfl, Nat.le_of_ble_eq_true rfl⟩ 0 11 rfl rfl (rfl) hl.1 rfl (Nat.le_of_ble_eq_true rfl) dX11_unit_147 (fun u H locs hw hP hD hS => ?_)
          obtain ⟨hG112, hw⟩ := hw
          obtain ⟨v113, f114, w115, g116⟩ := u
          obtain ⟨kV_v113, kF_f114, hIv113, hCf114, hRf114, hk0_v113, hk1_v113, hk2_v113, hk3_v113, hk4_v113, hk5_v113, hk8_v113, hk9_v113, hk10_v113, hk14_v113, hk15_v113, hk17_v113, hk18_v113, hk24_v113, hk25_v113, hk35_v113, hk36_v113, hk38_v113, hk39_v113, pv117, kq118, kq119, kq120⟩ := hw
          have hM_v113 : KV [1, 2, 3, 5, 6, 7, 8, 10, 11, 13, 14] v113 v := KV.tr kV_v113 hM_v1 rfl
          have hA_f114 : KF [2, 3, 6] f114 f := KF.tr kF_f114 hA_f1 rfl
          have hP : va_P (dC, dI) vwCl (YW cy y0 r v113 f114 w115 g116) H := hP
          have hD : va_D A (YW cy y0 r v113 f114 w115 g116) := hD
          have b13_v113 : 0 ≤ (v113 13).toInt ∧ (v113 13).toInt ≤ 31 := YIb.b hIv113.1 13 (by decide)
          have pv117 : (v113 13).toInt = (v1 13).toInt + 1 := pv117
          have hs2_f114 : f114 2 = (f 2) := kq118.trans hs2_f1
          have hs3_f114 : f114 3 = (f 3) := kq119.trans hs3_f1
          have hs6_f114 : f114 6 = (f1 6) := kq120
          have hUv113 : (v113 35).toInt + (v113 36).toInt ≤ 40 := hIv113.2
          have hq1_v113 : v113 1 = (v1 1) := hk1_v113
          have zq1_v113 := congrArg Int32.toInt hq1_v113
          have hq3_v113 : v113 3 = (v1 3) := hk3_v113
          have zq3_v113 := congrArg Int32.toInt hq3_v113
          have hq5_v113 : v113 5 = (v1 5) := hk5_v113
          have zq5_v113 := congrArg Int32.toInt hq5_v113
          have hq8_v113 : v113 8 = (v 8) := hk8_v113.trans hq8_v1
          have zq8_v113 := congrArg Int32.toInt hq8_v113
          have hq10_v113 : v113 10 = (v1 10) := hk10_v113
          have zq10_v113 := congrArg Int32.toInt hq10_v113
          have hq14_v113 : v113 14 = (v1 14) := hk14_v113
          have zq14_v113 := congrArg Int32.toInt hq14_v113
          refine lv_aload_n hx hb dX11_unit_150 rfl (lv_at hl 2 rfl) ?_
          refine lv_iload_n hx hb dX11_unit_151 rfl (lv_at hl 0 rfl) ?_
          refine lv_if_ge (tgt := 159) hx hb dX11_unit_152 (by decide) (fun c121 => ?_) (fun c121 => ?_)
          · skip
            have zc121 : 0 ≤ r4.toInt := by rw [fa_le, show (0 : Int32).toInt = 0 from by decide] at c121; exact c121
            refine lv_iconst (v := 1) hx hb dX11_unit_159 (by decide) ?_
            refine lv_iload_n hx hb dX11_unit_160 rfl (lv_at hl 0 rfl) ?_
            refine lv_if_ge (tgt := 171) hx hb dX11_unit_161 (by decide) (fun c122 => ?_) (fun c122 => ?_)
            · skip
              have zc122 : 0 ≤ r4.toInt := by rw [fa_le, show (0 : Int32).toInt = 0 from by decide] at c122; exact c122
              refine lv_iload_n hx hb dX11_unit_171 rfl (lv_at hl 0 rfl) ?_
              refine cbVv (n := 2) (rest := []) hx hb hml hown hts hE hP hD hS hA (sY_X11_add_1 NF l dC dI cy y0 r 1 r4 v113 f114 w115 g116 hIv113 hCf114 hRf114 (by have q1 : (1 : Int32).toInt = 1 := (by decide); show (v113 8).toInt ≤ 319; omega)) k_1696 k_1698 k_63 k_114 k_1699 (by decide +kernel) ⟨Nat.le_of_ble_eq_true rfl, Nat.le_of_ble_eq_true rfl⟩ 0 11 rfl rfl (rfl) hl.1 rfl (Nat.le_of_ble_eq_true rfl) dX11_unit_172 (fun u H locs hw hP hD hS => ?_)
              obtain ⟨hG123, hw⟩ := hw
              obtain ⟨v124, f125, w126, g127⟩ := u
              obtain ⟨kV_v124, kF_f125, hIv124, hCf125, hRf125, hk0_v124, hk1_v124, hk2_v124, hk3_v124, hk4_v124, hk5_v124, hk9_v124, hk10_v124, hk13_v124, hk14_v124, hk15_v124, hk17_v124, hk18_v124, hk24_v124, hk25_v124, hk35_v124, hk36_v124, hk38_v124, hk39_v124, pv128, pg129, pg130, kq131⟩ := hw
              have hM_v124 : KV [1, 2, 3, 5, 6, 7, 8, 10, 11, 13, 14] v124 v := KV.tr kV_v124 hM_v113 rfl
              have hA_f125 : KF [2, 3, 6] f125 f := KF.tr kF_f125 hA_f114 rfl
              have hP : va_P (dC, dI) vwCl (YW cy y0 r v124 f125 w126 g127) H := hP
              have hD : va_D A (YW cy y0 r v124 f125 w126 g127) := hD
              have b8_v124 : 0 ≤ (v124 8).toInt ∧ (v124 8).toInt ≤ 320 := YIb.b hIv124.1 8 (by decide)
              have pv128 : (v124 8).toInt = (v113 8).toInt + 1 := pv128
              have pg129 : (f125 2) = upd (f114 2) ((v113 8).toInt).toNat 1 := pg129
              rw [hs2_f114] at pg129
              have pg130 : (f125 3) = upd (f114 3) ((v113 8).toInt).toNat r4 := pg130
              rw [hs3_f114] at pg130
              have hs6_f125 : f125 6 = (f1 6) := kq131.trans hs6_f114
              have hUv124 : (v124 35).toInt + (v124 36).toInt ≤ 40 := hIv124.2
              have hq1_v124 : v124 1 = (v1 1) := hk1_v124.trans hq1_v113
              have zq1_v124 := congrArg Int32.toInt hq1_v124
              have hq3_v124 : v124 3 = (v1 3) := hk3_v124.trans hq3_v113
              have zq3_v124 := congrArg Int32.toInt hq3_v124
              have hq5_v124 : v124 5 = (v1 5) := hk5_v124.trans hq5_v113
              have zq5_v124 := congrArg Int32.toInt hq5_v124
              have hq10_v124 : v124 10 = (v1 10) := hk10_v124.trans hq10_v113
              have zq10_v124 := congrArg Int32.toInt hq10_v124
              have hq13_v124 : v124 13 = (v113 13) := hk13_v124
              have zq13_v124 := congrArg Int32.toInt hq13_v124
              have hq14_v124 : v124 14 = (v1 14) := hk14_v124.trans hq14_v113
              have zq14_v124 := congrArg Int32.toInt hq14_v124
              have hFU : FI 1 (v124 10).toInt (v124 14).toInt (v124 8).toInt (f1 6) (f125 2) (f125 3) := FI.unit (hFJ (by omega)) pg129 pg130 (by omega) (Or.inr ⟨rfl, by omega, by omega⟩) (by omega) (by first | with_reducible rfl | with_reducible assumption | rfl | omega) (by first | with_reducible rfl | with_reducible assumption | rfl | omega) (by first | with_reducible rfl | with_reducible assumption | rfl | omega)
              refine lv_aload_n hx hb dX11_unit_175 rfl (lv_at hl 2 rfl) ?_
              refine cbVv (n := 0) (rest := []) hx hb hml hown hts hE hP hD hS hA (sY_X11_token_1 NF l dC dI cy y0 r  v124 f125 w126 g127 hIv124 hCf125 hRf125 ) k_1579 k_1581 k_42 k_114 k_1582 (by decide +kernel) ⟨Nat.le_of_ble_eq_true rfl, Nat.le_of_ble_eq_true rfl⟩ 0 11 rfl rfl (rfl) hl.1 rfl (Nat.le_of_ble_eq_true rfl) dX11_unit_176 (fun u H locs hw hP hD hS => ?_)
              obtain ⟨hG132, hw⟩ := hw
              obtain ⟨v133, f134, w135, g136⟩ := u
              obtain ⟨kV_v133, kF_f134, hIv133, hCf134, hRf134, hk0_v133, hk1_v133, hk2_v133, hk4_v133, hk8_v133, hk9_v133, hk10_v133, hk13_v133, hk14_v133, hk15_v133, hk17_v133, hk18_v133, hk24_v133, hk25_v133, hk35_v133, hk36_v133, hk38_v133, hk39_v133, pv137, pv138, kq139, kq140, kq141⟩ := hw
              have hM_v133 : KV [1, 2, 3, 5, 6, 7, 8, 10, 11, 13, 14] v133 v := KV.tr kV_v133 hM_v124 rfl
              have hA_f134 : KF [2, 3, 6] f134 f := KF.tr kF_f134 hA_f125 rfl
              have hP : va_P (dC, dI) vwCl (YW cy y0 r v133 f134 w135 g136) H := hP
              have hD : va_D A (YW cy y0 r v133 f134 w135 g136) := hD
              have b3_v133 : 0 ≤ (v133 3).toInt ∧ (v133 3).toInt ≤ 1600 := YIb.b hIv133.1 3 (by decide)
              have pv137 : (v124 3).toInt ≤ (v133 3).toInt := pv137
              have pv138 : (v133 5).toInt = (v124 5).toInt ∨ (v124 3).toInt < (v133 3).toInt ∨ ¬ (v133 5).toInt = 59 := pv138
              have hs2_f134 : f134 2 = (f125 2) := kq139
              have hs3_f134 : f134 3 = (f125 3) := kq140
              have hs6_f134 : f134 6 = (f1 6) := kq141.trans hs6_f125
              have hUv133 : (v133 35).toInt + (v133 36).toInt ≤ 40 := hIv133.2
              have hq1_v133 : v133 1 = (v1 1) := hk1_v133.trans hq1_v124
              have zq1_v133 := congrArg Int32.toInt hq1_v133
              have hq8_v133 : v133 8 = (v124 8) := hk8_v133
              have zq8_v133 := congrArg Int32.toInt hq8_v133
              have hq10_v133 : v133 10 = (v1 10) := hk10_v133.trans hq10_v124
              have zq10_v133 := congrArg Int32.toInt hq10_v133
              have hq13_v133 : v133 13 = (v113 13) := hk13_v133.trans hq13_v124
              have zq13_v133 := congrArg Int32.toInt hq13_v133
              have hq14_v133 : v133 14 = (v1 14) := hk14_v133.trans hq14_v124
              have zq14_v133 := congrArg Int32.toInt hq14_v133
              have hGR : GR (v 3).toInt (v 5).toInt (v133 3).toInt (v133 5).toInt := GR.tr hGR (show GR (v124 3).toInt (v124 5).toInt (v133 3).toInt (v133 5).toInt from ⟨pv137, pv138⟩) (by first | with_reducible rfl | with_reducible assumption | rfl | omega) (by first | with_reducible rfl | with_reducible assumption | rfl | omega)
              clear pv138
              exact ret (v133, f134, w135, g136) _ _ _ _ _ _ ⟨(hT107.symm.trans (gsY_X11_unit_1_q6 hG109 c111 hG112 c121 c122 hG123 hG132)), hM_v133, hA_f134, hIv133, hCf134, hRf134, (hk0_v133.trans (hk0_v124.trans (hk0_v113.trans (show v1 0 = v 0 from hq0_v1)))), (hk4_v133.trans (hk4_v124.trans (hk4_v113.trans (show v1 4 = v 4 from hq4_v1)))), (hk9_v133.trans (hk9_v124.trans (hk9_v113.trans (show v1 9 = v 9 from hq9_v1)))), (hk15_v133.trans (hk15_v124.trans (hk15_v113.trans (show v1 15 = v 15 from hq15_v1)))), (hk17_v133.trans (hk17_v124.trans (hk17_v113.trans (show v1 17 = v 17 from hq17_v1)))), (hk18_v133.trans (hk18_v124.trans (hk18_v113.trans (show v1 18 = v 18 from hq18_v1)))), (hk24_v133.trans (hk24_v124.trans (hk24_v113.trans (show v1 24 = v 24 from hq24_v1)))), (hk25_v133.trans (hk25_v124.trans (hk25_v113.trans (show v1 25 = v 25 from hq25_v1)))), (hk35_v133.trans (hk35_v124.trans (hk35_v113.trans (show v1 35 = v 35 from hq35_v1)))), (hk36_v133.trans (hk36_v124.trans (hk36_v113.trans (show v1 36 = v 36 from hq36_v1)))), (hk38_v133.trans (hk38_v124.trans (hk38_v113.trans (show v1 38 = v 38 from hq38_v1)))), (hk39_v133.trans (hk39_v124.trans (hk39_v113.trans (show v1 39 = v 39 from hq39_v1)))), (by show GR (v 3).toInt (v 5).toInt (v133 3).toInt (v133 5).toInt; exact GR.cast hGR (by first | with_reducible rfl | with_reducible assumption | rfl | omega) (by first | with_reducible rfl | with_reducible assumption | rfl | omega)), (by show IM0 (v133 1).toInt (FI 1 (v133 10).toInt (v133 14).toInt (v133 8).toInt (f134 6) (f134 2) (f134 3)); rw [hs6_f134, hs2_f134, hs3_f134]; intro hz9; exact FI.cast hFU (by first | with_reducible rfl | with_reducible assumption | rfl | omega) (by first | with_reducible rfl | with_reducible assumption | rfl | omega) (by first | with_reducible rfl | with_reducible assumption | rfl | omega)), (by show NB (v133 1).toInt (v133 8).toInt (v133 10).toInt (v133 13).toInt (v133 14).toInt; exact NB.mk (by omega) (by omega) (by omega) (by omega)), (by show UG (v133 1).toInt (v 13).toInt (v133 13).toInt; exact UG.mk (by omega))⟩ hP hD hS dX11_unit_179 (Nat.le_refl _) (Nat.le_refl _)
            · skip
              have zc122 : ¬ (0 ≤ r4.toInt) := by rw [fa_le, show (0 : Int32).toInt = 0 from by decide] at c122; exact c122
              refine lv_aload_n hx hb dX11_unit_164 rfl (lv_at hl 2 rfl) ?_
              refine va_get (D := (dC, dI)) (ci := 11) (v := .int (v113 7)) (C := RX11) (T := TX11) (N := 79) hx hb hts inB_11 hown hE.1 hP 0 rfl rfl 8 (by decide) (hts _ k_1328) (fun _ h9 => h9) rfl dX11_unit_165 ?_
              refine lv_goto (tgt := 172) hx hb dX11_unit_168 (by decide) ?_
              refine cbVv (n := 2) (rest := []) hx hb hml hown hts hE hP hD hS hA (sY_X11_add_1 NF l dC dI cy y0 r 1 (v113 7) v113 f114 w115 g116 hIv113 hCf114 hRf114 (by have q1 : (1 : Int32).toInt = 1 := (by decide); show (v113 8).toInt ≤ 319; omega)) k_1696 k_1698 k_63 k_114 k_1699 (by decide +kernel) ⟨Nat.le_of_ble_eq_true rfl, Nat.le_of_ble_eq_true rfl⟩ 0 11 rfl rfl (rfl) hl.1 rfl (Nat.le_of_ble_eq_true rfl) dX11_unit_172 (fun u H locs hw hP hD hS => ?_)
              obtain ⟨hG142, hw⟩ := hw
              obtain ⟨v143, f144, w145, g146⟩ := u
              obtain ⟨kV_v143, kF_f144, hIv143, hCf144, hRf144, hk0_v143, hk1_v143, hk2_v143, hk3_v143, hk4_v143, hk5_v143, hk9_v143, hk10_v143, hk13_v143, hk14_v143, hk15_v143, hk17_v143, hk18_v143, hk24_v143, hk25_v143, hk35_v143, hk36_v143, hk38_v143, hk39_v143, pv147, pg148, pg149, kq150⟩ := hw
              have hM_v143 : KV [1, 2, 3, 5, 6, 7, 8, 10, 11, 13, 14] v143 v := KV.tr kV_v143 hM_v113 rfl
              have hA_f144 : KF [2, 3, 6] f144 f := KF.tr kF_f144 hA_f114 rfl
              have hP : va_P (dC, dI) vwCl (YW cy y0 r v143 f144 w145 g146) H := hP
              have hD : va_D A (YW cy y0 r v143 f144 w145 g146) := hD
              have b8_v143 : 0 ≤ (v143 8).toInt ∧ (v143 8).toInt ≤ 320 := YIb.b hIv143.1 8 (by decide)
              have pv147 : (v143 8).toInt = (v113 8).toInt + 1 := pv147
              have pg148 : (f144 2) = upd (f114 2) ((v113 8).toInt).toNat 1 := pg148
              rw [hs2_f114] at pg148
              have pg149 : (f144 3) = upd (f114 3) ((v113 8).toInt).toNat (v113 7) := pg149
              rw [hs3_f114] at pg149
              have hs6_f144 : f144 6 = (f1 6) := kq150.trans hs6_f114
              have hUv143 : (v143 35).toInt + (v143 36).toInt ≤ 40 := hIv143.2
              have hq1_v143 : v143 1 = (v1 1) := hk1_v143.trans hq1_v113
              have zq1_v143 := congrArg Int32.toInt hq1_v143
              have hq3_v143 : v143 3 = (v1 3) := hk3_v143.trans hq3_v113
              have zq3_v143 := congrArg Int32.toInt hq3_v143
              have hq5_v143 : v143 5 = (v1 5) := hk5_v143.trans hq5_v113
              have zq5_v143 := congrArg Int32.toInt hq5_v143
              have hq10_v143 : v143 10 = (v1 10) := hk10_v143.trans hq10_v113
              have zq10_v143 := congrArg Int32.toInt hq10_v143
              have hq13_v143 : v143 13 = (v113 13) := hk13_v143
              have zq13_v143 := congrArg Int32.toInt hq13_v143
              have hq14_v143 : v143 14 = (v1 14) := hk14_v143.trans hq14_v113
              have zq14_v143 := congrArg Int32.toInt hq14_v143
              have hFU : FI 1 (v143 10).toInt (v143 14).toInt (v143 8).toInt (f1 6) (f144 2) (f144 3) := FI.unit (hFJ (by omega)) pg148 pg149 (by omega) (Or.inr ⟨rfl, by omega, by omega⟩) (by omega) (by first | with_reducible rfl | with_reducible assumption | rfl | omega) (by first | with_reducible rfl | with_reducible assumption | rfl | omega) (by first | with_reducible rfl | with_reducible assumption | rfl | omega)
              refine lv_aload_n hx hb dX11_unit_175 rfl (lv_at hl 2 rfl) ?_
              refine cbVv (n := 0) (rest := []) hx hb hml hown hts hE hP hD hS hA (sY_X11_token_1 NF l dC dI cy y0 r  v143 f144 w145 g146 hIv143 hCf144 hRf144 ) k_1579 k_1581 k_42 k_114 k_1582 (by decide +kernel) ⟨Nat.le_of_ble_eq_true rfl, Nat.le_of_ble_eq_true rfl⟩ 0 11 rfl rfl (rfl) hl.1 rfl (Nat.le_of_ble_eq_true rfl) dX11_unit_176 (fun u H locs hw hP hD hS => ?_)
              obtain ⟨hG151, hw⟩ := hw
              obtain ⟨v152, f153, w154, g155⟩ := u
              obtain ⟨kV_v152, kF_f153, hIv152, hCf153, hRf153, hk0_v152, hk1_v152, hk2_v152, hk4_v152, hk8_v152, hk9_v152, hk10_v152, hk13_v152, hk14_v152, hk15_v152, hk17_v152, hk18_v152, hk24_v152, hk25_v152, hk35_v152, hk36_v152, hk38_v152, hk39_v152, pv156, pv157, kq158, kq159, kq160⟩ := hw
              have hM_v152 : KV [1, 2, 3, 5, 6, 7, 8, 10, 11, 13, 14] v152 v := KV.tr kV_v152 hM_v143 rfl
              have hA_f153 : KF [2, 3, 6] f153 f := KF.tr kF_f153 hA_f144 rfl
              have hP : va_P (dC, dI) vwCl (YW cy y0 r v152 f153 w154 g155) H := hP
              have hD : va_D A (YW cy y0 r v152 f153 w154 g155) := hD
              have b3_v152 : 0 ≤ (v152 3).toInt ∧ (v152 3).toInt ≤ 1600 := YIb.b hIv152.1 3 (by decide)
              have pv156 : (v143 3).toInt ≤ (v152 3).toInt := pv156
              have pv157 : (v152 5).toInt = (v143 5).toInt ∨ (v143 3).toInt < (v152 3).toInt ∨ ¬ (v152 5).toInt = 59 := pv157
              have hs2_f153 : f153 2 = (f144 2) := kq158
              have hs3_f153 : f153 3 = (f144 3) := kq159
              have hs6_f153 : f153 6 = (f1 6) := kq160.trans hs6_f144
              have hUv152 : (v152 35).toInt + (v152 36).toInt ≤ 40 := hIv152.2
              have hq1_v152 : v152 1 = (v1 1) := hk1_v152.trans hq1_v143
              have zq1_v152 := congrArg Int32.toInt hq1_v152
              have hq8_v152 : v152 8 = (v143 8) := hk8_v152
              have zq8_v152 := congrArg Int32.toInt hq8_v152
              have hq10_v152 : v152 10 = (v1 10) := hk10_v152.trans hq10_v143
              have zq10_v152 := congrArg Int32.toInt hq10_v152
              have hq13_v152 : v152 13 = (v113 13) := hk13_v152.trans hq13_v143
              have zq13_v152 := congrArg Int32.toInt hq13_v152
              have hq14_v152 : v152 14 = (v1 14) := hk14_v152.trans hq14_v143
              have zq14_v152 := congrArg Int32.toInt hq14_v152
              have hGR : GR (v 3).toInt (v 5).toInt (v152 3).toInt (v152 5).toInt := GR.tr hGR (show GR (v143 3).toInt (v143 5).toInt (v152 3).toInt (v152 5).toInt from ⟨pv156, pv157⟩) (by first | with_reducible rfl | with_reducible assumption | rfl | omega) (by first | with_reducible rfl | with_reducible assumption | rfl | omega)
              clear pv157
              exact ret (v152, f153, w154, g155) _ _ _ _ _ _ ⟨(hT107.symm.trans (gsY_X11_unit_1_q7 hG109 c111 hG112 c121 c122 hG142 hG151)), hM_v152, hA_f153, hIv152, hCf153, hRf153, (hk0_v152.trans (hk0_v143.trans (hk0_v113.trans (show v1 0 = v 0 from hq0_v1)))), (hk4_v152.trans (hk4_v143.trans (hk4_v113.trans (show v1 4 = v 4 from hq4_v1)))), (hk9_v152.trans (hk9_v143.trans (hk9_v113.trans (show v1 9 = v 9 from hq9_v1)))), (hk15_v152.trans (hk15_v143.trans (hk15_v113.trans (show v1 15 = v 15 from hq15_v1)))), (hk17_v152.trans (hk17_v143.trans (hk17_v113.trans (show v1 17 = v 17 from hq17_v1)))), (hk18_v152.trans (hk18_v143.trans (hk18_v113.trans (show v1 18 = v 18 from hq18_v1)))), (hk24_v152.trans (hk24_v143.trans (hk24_v113.trans (show v1 24 = v 24 from hq24_v1)))), (hk25_v152.trans (hk25_v143.trans (hk25_v113.trans (show v1 25 = v 25 from hq25_v1)))), (hk35_v152.trans (hk35_v143.trans (hk35_v113.trans (show v1 35 = v 35 from hq35_v1)))), (hk36_v152.trans (hk36_v143.trans (hk36_v113.trans (show v1 36 = v 36 from hq36_v1)))), (hk38_v152.trans (hk38_v143.trans (hk38_v113.trans (show v1 38 = v 38 from hq38_v1)))), (hk39_v152.trans (hk39_v143.trans (hk39_v113.trans (show v1 39 = v 39 from hq39_v1)))), (by show GR (v 3).toInt (v 5).toInt (v152 3).toInt (v152 5).toInt; exact GR.cast hGR (by first | with_reducible rfl | with_reducible assumption | rfl | omega) (by first | with_reducible rfl | with_reducible assumption | rfl | omega)), (by show IM0 (v152 1).toInt (FI 1 (v152 10).toInt (v152 14).toInt (v152 8).toInt (f153 6) (f153 2) (f153 3)); rw [hs6_f153, hs2_f153, hs3_f153]; intro hz9; exact FI.cast hFU (by first | with_reducible rfl | with_reducible assumption | rfl | omega) (by first | with_reducible rfl | with_reducible assumption | rfl | omega) (by first | with_reducible rfl | with_reducible assumption | rfl | omega)), (by show NB (v152 1).toInt (v152 8).toInt (v152 10).toInt (v152 13).toInt (v152 14).toInt; exact NB.mk (by omega) (by omega) (by omega) (by omega)), (by show UG (v152 1).toInt (v 13).toInt (v152 13).toInt; exact UG.mk (by omega))⟩ hP hD hS dX11_unit_179 (Nat.le_refl _) (Nat.le_refl _)
          · skip
            have zc121 : ¬ (0 ≤ r4.toInt) := by rw [fa_le, show (0 : Int32).toInt = 0 from by decide] at c121; exact c121
            refine lv_iconst (v := 0) hx hb dX11_unit_155 (by decide) ?_
            refine lv_goto (tgt := 160) hx hb dX11_unit_156 (by decide) ?_
            refine lv_iload_n hx hb dX11_unit_160 rfl (lv_at hl 0 rfl) ?_
            refine lv_if_ge (tgt := 171) hx hb dX11_unit_161 (by decide) (fun c161 => ?_) (fun c161 => ?_)
            · skip
              have zc161 : 0 ≤ r4.toInt := by rw [fa_le, show (0 : Int32).toInt = 0 from by decide] at c161; exact c161
              refine lv_iload_n hx hb dX11_unit_171 rfl (lv_at hl 0 rfl) ?_
              refine cbVv (n := 2) (rest := []) hx hb hml hown hts hE hP hD hS hA (sY_X11_add_1 NF l dC dI cy y0 r 0 r4 v113 f114 w115 g116 hIv113 hCf114 hRf114 (by have q1 : (0 : Int32).toInt = 0 := (by decide); show (v113 8).toInt ≤ 319; omega)) k_1696 k_1698 k_63 k_114 k_1699 (by decide +kernel) ⟨Nat.le_of_ble_eq_true rfl, Nat.le_of_ble_eq_true rfl⟩ 0 11 rfl rfl (rfl) hl.1 rfl (Nat.le_of_ble_eq_true rfl) dX11_unit_172 (fun u H locs hw hP hD hS => ?_)
              obtain ⟨hG162, hw⟩ := hw
              obtain ⟨v163, f164, w165, g166⟩ := u
              obtain ⟨kV_v163, kF_f164, hIv163, hCf164, hRf164, hk0_v163, hk1_v163, hk2_v163, hk3_v163, hk4_v163, hk5_v163, hk9_v163, hk10_v163, hk13_v163, hk14_v163, hk15_v163, hk17_v163, hk18_v163, hk24_v163, hk25_v163, hk35_v163, hk36_v163, hk38_v163, hk39_v163, pv167, pg168, pg169, kq170⟩ := hw
              have hM_v163 : KV [1, 2, 3, 5, 6, 7, 8, 10, 11, 13, 14] v163 v := KV.tr kV_v163 hM_v113 rfl
              have hA_f164 : KF [2, 3, 6] f164 f := KF.tr kF_f164 hA_f114 rfl
              have hP : va_P (dC, dI) vwCl (YW cy y0 r v163 f164 w165 g166) H := hP
              have hD : va_D A (YW cy y0 r v163 f164 w165 g166) := hD
              have b8_v163 : 0 ≤ (v163 8).toInt ∧ (v163 8).toInt ≤ 320 := YIb.b hIv163.1 8 (by decide)
              have pv167 : (v163 8).toInt = (v113 8).toInt + 1 := pv167
              have pg168 : (f164 2) = upd (f114 2) ((v113 8).toInt).toNat 0 := pg168
              rw [hs2_f114] at pg168
              have pg169 : (f164 3) = upd (f114 3) ((v113 8).toInt).toNat r4 := pg169
              rw [hs3_f114] at pg169
              have hs6_f164 : f164 6 = (f1 6) := kq170.trans hs6_f114
              have hUv163 : (v163 35).toInt + (v163 36).toInt ≤ 40 := hIv163.2
              have hq1_v163 : v163 1 = (v1 1) := hk1_v163.trans hq1_v113
              have zq1_v163 := congrArg Int32.toInt hq1_v163
              have hq3_v163 : v163 3 = (v1 3) := hk3_v163.trans hq3_v113
              have zq3_v163 := congrArg Int32.toInt hq3_v163
              have hq5_v163 : v163 5 = (v1 5) := hk5_v163.trans hq5_v113
              have zq5_v163 := congrArg Int32.toInt hq5_v163
              have hq10_v163 : v163 10 = (v1 10) := hk10_v163.trans hq10_v113
              have zq10_v163 := congrArg Int32.toInt hq10_v163
              have hq13_v163 : v163 13 = (v113 13) := hk13_v163
              have zq13_v163 := congrArg Int32.toInt hq13_v163
              have hq14_v163 : v163 14 = (v1 14) := hk14_v163.trans hq14_v113
              have zq14_v163 := congrArg Int32.toInt hq14_v163
              have hFU : FI 1 (v163 10).toInt (v163 14).toInt (v163 8).toInt (f1 6) (f164 2) (f164 3) := FI.unit (hFJ (by omega)) pg168 pg169 (by omega) (Or.inl rfl) (by omega) (by first | with_reducible rfl | with_reducible assumption | rfl | omega) (by first | with_reducible rfl | with_reducible assumption | rfl | omega) (by first | with_reducible rfl | with_reducible assumption | rfl | omega)
              refine lv_aload_n hx hb dX11_unit_175 rfl (lv_at hl 2 rfl) ?_
              refine cbVv (n := 0) (rest := []) hx hb hml hown hts hE hP hD hS hA (sY_X11_token_1 NF l dC dI cy y0 r  v163 f164 w165 g166 hIv163 hCf164 hRf164 ) k_1579 k_1581 k_42 k_114 k_1582 (by decide +kernel) ⟨Nat.le_of_ble_eq_true rfl, Nat.le_of_ble_eq_true rfl⟩ 0 11 rfl rfl (rfl) hl.1 rfl (Nat.le_of_ble_eq_true rfl) dX11_unit_176 (fun u H locs hw hP hD hS => ?_)
              obtain ⟨hG171, hw⟩ := hw
              obtain ⟨v172, f173, w174, g175⟩ := u
              obtain ⟨kV_v172, kF_f173, hIv172, hCf173, hRf173, hk0_v172, hk1_v172, hk2_v172, hk4_v172, hk8_v172, hk9_v172, hk10_v172, hk13_v172, hk14_v172, hk15_v172, hk17_v172, hk18_v172, hk24_v172, hk25_v172, hk35_v172, hk36_v172, hk38_v172, hk39_v172, pv176, pv177, kq178, kq179, kq180⟩ := hw
              have hM_v172 : KV [1, 2, 3, 5, 6, 7, 8, 10, 11, 13, 14] v172 v := KV.tr kV_v172 hM_v163 rfl
              have hA_f173 : KF [2, 3, 6] f173 f := KF.tr kF_f173 hA_f164 rfl
              have hP : va_P (dC, dI) vwCl (YW cy y0 r v172 f173 w174 g175) H := hP
              have hD : va_D A (YW cy y0 r v172 f173 w174 g175) := hD
              have b3_v172 : 0 ≤ (v172 3).toInt ∧ (v172 3).toInt ≤ 1600 := YIb.b hIv172.1 3 (by decide)
              have pv176 : (v163 3).toInt ≤ (v172 3).toInt := pv176
              have pv177 : (v172 5).toInt = (v163 5).toInt ∨ (v163 3).toInt < (v172 3).toInt ∨ ¬ (v172 5).toInt = 59 := pv177
              have hs2_f173 : f173 2 = (f164 2) := kq178
              have hs3_f173 : f173 3 = (f164 3) := kq179
              have hs6_f173 : f173 6 = (f1 6) := kq180.trans hs6_f164
              have hUv172 : (v172 35).toInt + (v172 36).toInt ≤ 40 := hIv172.2
              have hq1_v172 : v172 1 = (v1 1) := hk1_v172.trans hq1_v163
              have zq1_v172 := congrArg Int32.toInt hq1_v172
              have hq8_v172 : v172 8 = (v163 8) := hk8_v172
              have zq8_v172 := congrArg Int32.toInt hq8_v172
              have hq10_v172 : v172 10 = (v1 10) := hk10_v172.trans hq10_v163
              have zq10_v172 := congrArg Int32.toInt hq10_v172
              have hq13_v172 : v172 13 = (v113 13) := hk13_v172.trans hq13_v163
              have zq13_v172 := congrArg Int32.toInt hq13_v172
              have hq14_v172 : v172 14 = (v1 14) := hk14_v172.trans hq14_v163
              have zq14_v172 := congrArg Int32.toInt hq14_v172
              have hGR : GR (v 3).toInt (v 5).toInt (v172 3).toInt (v172 5).toInt := GR.tr hGR (show GR (v163 3).toInt (v163 5).toInt (v172 3).toInt (v172 5).toInt from ⟨pv176, pv177⟩) (by first | with_reducible rfl | with_reducible assumption | rfl | omega) (by first | with_reducible rfl | with_reducible assumption | rfl | omega)
              clear pv177
              exact ret (v172, f173, w174, g175) _ _ _ _ _ _ ⟨(hT107.symm.trans (gsY_X11_unit_1_q8 hG109 c111 hG112 c121 c161 hG162 hG171)), hM_v172, hA_f173, hIv172, hCf173, hRf173, (hk0_v172.trans (hk0_v163.trans (hk0_v113.trans (show v1 0 = v 0 from hq0_v1)))), (hk4_v172.trans (hk4_v163.trans (hk4_v113.trans (show v1 4 = v 4 from hq4_v1)))), (hk9_v172.trans (hk9_v163.trans (hk9_v113.trans (show v1 9 = v 9 from hq9_v1)))), (hk15_v172.trans (hk15_v163.trans (hk15_v113.trans (show v1 15 = v 15 from hq15_v1)))), (hk17_v172.trans (hk17_v163.trans (hk17_v113.trans (show v1 17 = v 17 from hq17_v1)))), (hk18_v172.trans (hk18_v163.trans (hk18_v113.trans (show v1 18 = v 18 from hq18_v1)))), (hk24_v172.trans (hk24_v163.trans (hk24_v113.trans (show v1 24 = v 24 from hq24_v1)))), (hk25_v172.trans (hk25_v163.trans (hk25_v113.trans (show v1 25 = v 25 from hq25_v1)))), (hk35_v172.trans (hk35_v163.trans (hk35_v113.trans (show v1 35 = v 35 from hq35_v1)))), (hk36_v172.trans (hk36_v163.trans (hk36_v113.trans (show v1 36 = v 36 from hq36_v1)))), (hk38_v172.trans (hk38_v163.trans (hk38_v113.trans (show v1 38 = v 38 from hq38_v1)))), (hk39_v172.trans (hk39_v163.trans (hk39_v113.trans (show v1 39 = v 39 from hq39_v1)))), (by show GR (v 3).toInt (v 5).toInt (v172 3).toInt (v172 5).toInt; exact GR.cast hGR (by first | with_reducible rfl | with_reducible assumption | rfl | omega) (by first | with_reducible rfl | with_reducible assumption | rfl | omega)), (by show IM0 (v172 1).toInt (FI 1 (v172 10).toInt (v172 14).toInt (v172 8).toInt (f173 6) (f173 2) (f173 3)); rw [hs6_f173, hs2_f173, hs3_f173]; intro hz9; exact FI.cast hFU (by first | with_reducible rfl | with_reducible assumption | rfl | omega) (by first | with_reducible rfl | with_reducible assumption | rfl | omega) (by first | with_reducible rfl | with_reducible assumption | rfl | omega)), (by show NB (v172 1).toInt (v172 8).toInt (v172 10).toInt (v172 13).toInt (v172 14).toInt; exact NB.mk (by omega) (by omega) (by omega) (by omega)), (by show UG (v172 1).toInt (v 13).toInt (v172 13).toInt; exact UG.mk (by omega))⟩ hP hD hS dX11_unit_179 (Nat.le_refl _) (Nat.le_refl _)
            · skip
              have zc161 : ¬ (0 ≤ r4.toInt) := by rw [fa_le, show (0 : Int32).toInt = 0 from by decide] at c161; exact c161
              refine lv_aload_n hx hb dX11_unit_164 rfl (lv_at hl 2 rfl) ?_
              refine va_get (D := (dC, dI)) (ci := 11) (v := .int (v113 7)) (C := RX11) (T := TX11) (N := 79) hx hb hts inB_11 hown hE.1 hP 0 rfl rfl 8 (by decide) (hts _ k_1328) (fun _ h9 => h9) rfl dX11_unit_165 ?_
              refine lv_goto (tgt := 172) hx hb dX11_unit_168 (by decide) ?_
              refine cbVv (n := 2) (rest := []) hx hb hml hown hts hE hP hD hS hA (sY_X11_add_1 NF l dC dI cy y0 r 0 (v113 7) v113 f114 w115 g116 hIv113 hCf114 hRf114 (by have q1 : (0 : Int32).toInt = 0 := (by decide); show (v113 8).toInt ≤ 319; omega)) k_1696 k_1698 k_63 k_114 k_1699 (by decide +kernel) ⟨Nat.le_of_ble_eq_true rfl, Nat.le_of_ble_eq_true rfl⟩ 0 11 rfl rfl (rfl) hl.1 rfl (Nat.le_of_ble_eq_true rfl) dX11_unit_172 (fun u H locs hw hP hD hS => ?_)
              obtain ⟨hG181, hw⟩ := hw
              obtain ⟨v182, f183, w184, g185⟩ := u
              obtain ⟨kV_v182, kF_f183, hIv182, hCf183, hRf183, hk0_v182, hk1_v182, hk2_v182, hk3_v182, hk4_v182, hk5_v182, hk9_v182, hk10_v182, hk13_v182, hk14_v182, hk15_v182, hk17_v182, hk18_v182, hk24_v182, hk25_v182, hk35_v182, hk36_v182, hk38_v182, hk39_v182, pv186, pg187, pg188, kq189⟩ := hw
              have hM_v182 : KV [1, 2, 3, 5, 6, 7, 8, 10, 11, 13, 14] v182 v := KV.tr kV_v182 hM_v113 rfl
              have hA_f183 : KF [2, 3, 6] f183 f := KF.tr kF_f183 hA_f114 rfl
              have hP : va_P (dC, dI) vwCl (YW cy y0 r v182 f183 w184 g185) H := hP
              have hD : va_D A (YW cy y0 r v182 f183 w184 g185) := hD
              have b8_v182 : 0 ≤ (v182 8).toInt ∧ (v182 8).toInt ≤ 320 := YIb.b hIv182.1 8 (by decide)
              have pv186 : (v182 8).toInt = (v113 8).toInt + 1 := pv186
              have pg187 : (f183 2) = upd (f114 2) ((v113 8).toInt).toNat 0 := pg187
              rw [hs2_f114] at pg187
              have pg188 : (f183 3) = upd (f114 3) ((v113 8).toInt).toNat (v113 7) := pg188
              rw [hs3_f114] at pg188
              have hs6_f183 : f183 6 = (f1 6) := kq189.trans hs6_f114
              have hUv182 : (v182 35).toInt + (v182 36).toInt ≤ 40 := hIv182.2
              have hq1_v182 : v182 1 = (v1 1) := hk1_v182.trans hq1_v113
              have zq1_v182 := congrArg Int32.toInt hq1_v182
              have hq3_v182 : v182 3 = (v1 3) := hk3_v182.trans hq3_v113
              have zq3_v182 := congrArg Int32.toInt hq3_v182
              have hq5_v182 : v182 5 = (v1 5) := hk5_v182.trans hq5_v113
              have zq5_v182 := congrArg Int32.toInt hq5_v182
              have hq10_v182 : v182 10 = (v1 10) := hk10_v182.trans hq10_v113
              have zq10_v182 := congrArg Int32.toInt hq10_v182
              have hq13_v182 : v182 13 = (v113 13) := hk13_v182
              have zq13_v182 := congrArg Int32.toInt hq13_v182
              have hq14_v182 : v182 14 = (v1 14) := hk14_v182.trans hq14_v113
              have zq14_v182 := congrArg Int32.toInt hq14_v182
              have hFU : FI 1 (v182 10).toInt (v182 14).toInt (v182 8).toInt (f1 6) (f183 2) (f183 3) := FI.unit (hFJ (by omega)) pg187 pg188 (by omega) (Or.inl rfl) (by omega) (by first | with_reducible rfl | with_reducible assumption | rfl | omega) (by first | with_reducible rfl | with_reducible assumption | rfl | omega) (by first | with_reducible rfl | with_reducible assumption | rfl | omega)
              refine lv_aload_n hx hb dX11_unit_175 rfl (lv_at hl 2 rfl) ?_
              refine cbVv (n := 0) (rest := []) hx hb hml hown hts hE hP hD hS hA (sY_X11_token_1 NF l dC dI cy y0 r  v182 f183 w184 g185 hIv182 hCf183 hRf183 ) k_1579 k_1581 k_42 k_114 k_1582 (by decide +kernel) ⟨Nat.le_of_ble_eq_true rfl, Nat.le_of_ble_eq_true rfl⟩ 0 11 rfl rfl (rfl) hl.1 rfl (Nat.le_of_ble_eq_true rfl) dX11_unit_176 (fun u H locs hw hP hD hS => ?_)
              obtain ⟨hG190, hw⟩ := hw
              obtain ⟨v191, f192, w193, g194⟩ := u
              obtain ⟨kV_v191, kF_f192, hIv191, hCf192, hRf192, hk0_v191, hk1_v191, hk2_v191, hk4_v191, hk8_v191, hk9_v191, hk10_v191, hk13_v191, hk14_v191, hk15_v191, hk17_v191, hk18_v191, hk24_v191, hk25_v191, hk35_v191, hk36_v191, hk38_v191, hk39_v191, pv195, pv196, kq197, kq198, kq199⟩ := hw
              have hM_v191 : KV [1, 2, 3, 5, 6, 7, 8, 10, 11, 13, 14] v191 v := KV.tr kV_v191 hM_v182 rfl
              have hA_f192 : KF [2, 3, 6] f192 f := KF.tr kF_f192 hA_f183 rfl
              have hP : va_P (dC, dI) vwCl (YW cy y0 r v191 f192 w193 g194) H := hP
              have hD : va_D A (YW cy y0 r v191 f192 w193 g194) := hD
              have b3_v191 : 0 ≤ (v191 3).toInt ∧ (v191 3).toInt ≤ 1600 := YIb.b hIv191.1 3 (by decide)
              have pv195 : (v182 3).toInt ≤ (v191 3).toInt := pv195
              have pv196 : (v191 5).toInt = (v182 5).toInt ∨ (v182 3).toInt < (v191 3).toInt ∨ ¬ (v191 5).toInt = 59 := pv196
              have hs2_f192 : f192 2 = (f183 2) := kq197
              have hs3_f192 : f192 3 = (f183 3) := kq198
              have hs6_f192 : f192 6 = (f1 6) := kq199.trans hs6_f183
              have hUv191 : (v191 35).toInt + (v191 36).toInt ≤ 40 := hIv191.2
              have hq1_v191 : v191 1 = (v1 1) := hk1_v191.trans hq1_v182
              have zq1_v191 := congrArg Int32.toInt hq1_v191
              have hq8_v191 : v191 8 = (v182 8) := hk8_v191
              have zq8_v191 := congrArg Int32.toInt hq8_v191
              have hq10_v191 : v191 10 = (v1 10) := hk10_v191.trans hq10_v182
              have zq10_v191 := congrArg Int32.toInt hq10_v191
              have hq13_v191 : v191 13 = (v113 13) := hk13_v191.trans hq13_v182
              have zq13_v191 := congrArg Int32.toInt hq13_v191
              have hq14_v191 : v191 14 = (v1 14) := hk14_v191.trans hq14_v182
              have zq14_v191 := congrArg Int32.toInt hq14_v191
              have hGR : GR (v 3).toInt (v 5).toInt (v191 3).toInt (v191 5).toInt := GR.tr hGR (show GR (v182 3).toInt (v182 5).toInt (v191 3).toInt (v191 5).toInt from ⟨pv195, pv196⟩) (by first | with_reducible rfl | with_reducible assumption | rfl | omega) (by first | with_reducible rfl | with_reducible assumption | rfl | omega)
              clear pv196
              exact ret (v191, f192, w193, g194) _ _ _ _ _ _ ⟨(hT107.symm.trans (gsY_X11_unit_1_q9 hG109 c111 hG112 c121 c161 hG181 hG190)), hM_v191, hA_f192, hIv191, hCf192, hRf192, (hk0_v191.trans (hk0_v182.trans (hk0_v113.trans (show v1 0 = v 0 from hq0_v1)))), (hk4_v191.trans (hk4_v182.trans (hk4_v113.trans (show v1 4 = v 4 from hq4_v1)))), (hk9_v191.trans (hk9_v182.trans (hk9_v113.trans (show v1 9 = v 9 from hq9_v1)))), (hk15_v191.trans (hk15_v182.trans (hk15_v113.trans (show v1 15 = v 15 from hq15_v1)))), (hk17_v191.trans (hk17_v182.trans (hk17_v113.trans (show v1 17 = v 17 from hq17_v1)))), (hk18_v191.trans (hk18_v182.trans (hk18_v113.trans (show v1 18 = v 18 from hq18_v1)))), (hk24_v191.trans (hk24_v182.trans (hk24_v113.trans (show v1 24 = v 24 from hq24_v1)))), (hk25_v191.trans (hk25_v182.trans (hk25_v113.trans (show v1 25 = v 25 from hq25_v1)))), (hk35_v191.trans (hk35_v182.trans (hk35_v113.trans (show v1 35 = v 35 from hq35_v1)))), (hk36_v191.trans (hk36_v182.trans (hk36_v113.trans (show v1 36 = v 36 from hq36_v1)))), (hk38_v191.trans (hk38_v182.trans (hk38_v113.trans (show v1 38 = v 38 from hq38_v1)))), (hk39_v191.trans (hk39_v182.trans (hk39_v113.trans (show v1 39 = v 39 from hq39_v1)))), (by show GR (v 3).toInt (v 5).toInt (v191 3).toInt (v191 5).toInt; exact GR.cast hGR (by first | with_reducible rfl | with_reducible assumption | rfl | omega) (by first | with_reducible rfl | with_reducible assumption | rfl | omega)), (by show IM0 (v191 1).toInt (FI 1 (v191 10).toInt (v191 14).toInt (v191 8).toInt (f192 6) (f192 2) (f192 3)); rw [hs6_f192, hs2_f192, hs3_f192]; intro hz9; exact FI.cast hFU (by first | with_reducible rfl | with_reducible assumption | rfl | omega) (by first | with_reducible rfl | with_reducible assumption | rfl | omega) (by first | with_reducible rfl | with_reducible assumption | rfl | omega)), (by show NB (v191 1).toInt (v191 8).toInt (v191 10).toInt (v191 13).toInt (v191 14).toInt; exact NB.mk (by omega) (by omega) (by omega) (by omega)), (by show UG (v191 1).toInt (v 13).toInt (v191 13).toInt; exact UG.mk (by omega))⟩ hP hD hS dX11_unit_179 (Nat.le_refl _) (Nat.le_refl _)
        · skip
          have zc111 : ¬ ((v1 1).toInt ≤ 0) := by rw [fa_le, show (0 : Int32).toInt = 0 from by decide] at c111; exact c111
          exact ret (v1, f1, w1, g1) _ _ _ _ _ _ ⟨(hT107.symm.trans (gsY_X11_unit_1_q10 hG109 c111)), hM_v1, hA_f1, hIv1, hCf1, hRf1, (show v1 0 = v 0 from hq0_v1), (show v1 4 = v 4 from hq4_v1), (show v1 9 = v 9 from hq9_v1), (show v1 15 = v 15 from hq15_v1), (show v1 17 = v 17 from hq17_v1), (show v1 18 = v 18 from hq18_v1), (show v1 24 = v 24 from hq24_v1), (show v1 25 = v 25 from hq25_v1), (show v1 35 = v 35 from hq35_v1), (show v1 36 = v 36 from hq36_v1), (show v1 38 = v 38 from hq38_v1), (show v1 39 = v 39 from hq39_v1), (by show GR (v 3).toInt (v 5).toInt (v1 3).toInt (v1 5).toInt; exact GR.cast hGR (by first | with_reducible rfl | with_reducible assumption | rfl | omega) (by first | with_reducible rfl | with_reducible assumption | rfl | omega)), (by show IM0 (v1 1).toInt (FI 1 (v1 10).toInt (v1 14).toInt (v1 8).toInt (f1 6) (f1 2) (f1 3)); rw [hs2_f1, hs3_f1]; intro hz9; exfalso; omega), (by show NB (v1 1).toInt (v1 8).toInt (v1 10).toInt (v1 13).toInt (v1 14).toInt; exact NB.ab (by omega)), (by show UG (v1 1).toInt (v 13).toInt (v1 13).toInt; exact UG.ab (by omega))⟩ hP hD hS dX11_unit_145 (Nat.le_refl _) (Nat.le_refl _)
    revert jp126
    intro jp126
    refine lv_aload_n hx hb dX11_unit_114 rfl (lv_at hl 2 rfl) ?_
    refine va_get (D := (dC, dI)) (ci := 11) (v := .int (v1 5)) (C := RX11) (T := TX11) (N := 79) hx hb hts inB_11 hown hE.1 hP 0 rfl rfl 6 (by decide) (hts _ k_1326) (fun _ h9 => h9) rfl dX11_unit_115 ?_
    refine lv_iconst (v := 2) hx hb dX11_unit_118 (by decide) ?_
    refine lv_icmp_eq (tgt := 126) hx hb dX11_unit_119 (by decide) (fun c200 => ?_) (fun c200 => ?_)
    · skip
      have zc200 : (v1 5).toInt = 2 := by rw [fa_eq, show (2 : Int32).toInt = 2 from by decide] at c200; exact c200
      exact jp126 _ _ _ ((gsY_X11_unit_1_q11 c3 hG5.symm c200).symm.trans hT2) hP hD hS hl
    · skip
      have zc200 : ¬ ((v1 5).toInt = 2) := by rw [fa_eq, show (2 : Int32).toInt = 2 from by decide] at c200; exact c200
      refine lv_iload_n hx hb dX11_unit_122 rfl (lv_at hl 0 rfl) ?_
      refine lv_if_lt (tgt := 133) hx hb dX11_unit_123 (by decide) (fun c201 => ?_) (fun c201 => ?_)
      · skip
        have zc201 : r4.toInt < 0 := by rw [fa_lt, show (0 : Int32).toInt = 0 from by decide] at c201; exact c201
        exact jp133 _ _ _ ((gsY_X11_unit_1_q12 c3 hG5.symm c200 c201).symm.trans hT2) hP hD hS hl
      · skip
        have zc201 : ¬ (r4.toInt < 0) := by rw [fa_lt, show (0 : Int32).toInt = 0 from by decide] at c201; exact c201
        exact jp126 _ _ _ ((gsY_X11_unit_1_q13 c3 hG5.symm c200 c201).symm.trans hT2) hP hD hS hl
  · skip
    have zc3 : ¬ ((v1 1).toInt ≤ 0) := by rw [fa_le, show (0 : Int32).toInt = 0 from by decide] at c3; exact c3
    exact ret (v1, f1, w1, g1) _ _ _ _ _ _ ⟨(hT2.symm.trans (gsY_X11_unit_1_q14 c3)), hM_v1, hA_f1, hIv1, hCf1, hRf1, (show v1 0 = v 0 from hq0_v1), (show v1 4 = v 4 from hq4_v1), (show v1 9 = v 9 from hq9_v1), (show v1 15 = v 15 from hq15_v1), (show v1 17 = v 17 from hq17_v1), (show v1 18 = v 18 from hq18_v1), (show v1 24 = v 24 from hq24_v1), (show v1 25 = v 25 from hq25_v1), (show v1 35 = v 35 from hq35_v1), (show v1 36 = v 36 from hq36_v1), (show v1 38 = v 38 from hq38_v1), (show v1 39 = v 39 from hq39_v1), (by show GR (v 3).toInt (v 5).toInt (v1 3).toInt (v1 5).toInt; exact GR.cast hGR (by first | with_reducible rfl | with_reducible assumption | rfl | omega) (by first | with_reducible rfl | with_reducible assumption | rfl | omega)), (by show IM0 (v1 1).toInt (FI 1 (v1 10).toInt (v1 14).toInt (v1 8).toInt (f1 6) (f1 2) (f1 3)); rw [hs2_f1, hs3_f1]; intro hz9; exfalso; omega), (by show NB (v1 1).toInt (v1 8).toInt (v1 10).toInt (v1 13).toInt (v1 14).toInt; exact NB.ab (by omega)), (by show UG (v1 1).toInt (v 13).toInt (v1 13).toInt; exact UG.ab (by omega))⟩ hP hD hS dX11_unit_108 (Nat.le_refl _) (Nat.le_refl _)
set_option maxHeartbeats 4000000 in
set_option maxRecDepth 100000 in
theorem sY_X11_unit_1 (NF : Nat) (l : Launch) (dC : Nat → ClassId) (dI : Nat → Nat → Nat) (cy : Nat → ClassId) (y0 : Nat) (r : Nat → Nat)  (v : Nat → Int32) (f : Nat → Nat → Int32) (w : Int64) (g : Nat → Int64) (hIv : YI v) (hCf : YC f) (hRf : progOK (f 4) (f 5) (v 9).toInt.toNat)  (hf0 : (v 8).toInt + (v 10).toInt ≤ 10 * (v 13).toInt + 1) (hf1 : (v 10).toInt ≤ (v 14).toInt + (v 13).toInt + 1) (hf2 : (v 13).toInt ≤ 30) (hf3 : (v 14).toInt ≤ 7) (hg0 : FI 0 (v 10).toInt (v 14).toInt (v 8).toInt (f 6) (f 2) (f 3)) : ctV l (dC, dI) cy yX11_unit cX11_unit 3 4 124 0 0 ((Nat → Int32) × (Nat → Nat → Int32) × (Int64) × (Nat → Int64)) [.ref y0] (YW cy y0 r v f w g) (fun u => gsY_X11_unit_1 NF v f w g = u ∧ KV [1, 2, 3, 5, 6, 7, 8, 10, 11, 13, 14] u.1 v ∧ KF [2, 3, 6] u.2.1 f ∧ YI u.1 ∧ YC u.2.1 ∧ progOK (u.2.1 4) (u.2.1 5) (u.1 9).toInt.toNat ∧ u.1 0 = v 0 ∧ u.1 4 = v 4 ∧ u.1 9 = v 9 ∧ u.1 15 = v 15 ∧ u.1 17 = v 17 ∧ u.1 18 = v 18 ∧ u.1 24 = v 24 ∧ u.1 25 = v 25 ∧ u.1 35 = v 35 ∧ u.1 36 = v 36 ∧ u.1 38 = v 38 ∧ u.1 39 = v 39 ∧ (GR (v 3).toInt (v 5).toInt (u.1 3).toInt (u.1 5).toInt) ∧ (IM0 (u.1 1).toInt (FI 1 (u.1 10).toInt (u.1 14).toInt (u.1 8).toInt (u.2.1 6) (u.2.1 2) (u.2.1 3))) ∧ (NB (u.1 1).toInt (u.1 8).toInt (u.1 10).toInt (u.1 13).toInt (u.1 14).toInt) ∧ (UG (u.1 1).toInt (v 13).toInt (u.1 13).toInt)) (fun u => YW cy y0 r u.1 u.2.1 u.2.2.1 u.2.2.2) := by
  refine ctV_of (by decide) (Nat.le_of_ble_eq_true rfl) (fun p e s m below meth c A ls Q hx hb hml hts hown hnm hE hP hD hA hl ret => ?_)
  have hUv : (v 35).toInt + (v 36).toInt ≤ 40 := hIv.2
  have hM_v : KV [1, 2, 3, 5, 6, 7, 8, 10, 11, 13, 14] v v := fun _ _ => rfl
  have hA_f : KF [2, 3, 6] f f := fun _ _ => rfl
  have hFI := hg0
  have b1_v : (0 : Int) ≤ (v 1).toInt ∧ (v 1).toInt ≤ 4 := YIb.b hIv.1 1 (by decide)
  have b3_v : (0 : Int) ≤ (v 3).toInt ∧ (v 3).toInt ≤ 1600 := YIb.b hIv.1 3 (by decide)
  have b8_v : (0 : Int) ≤ (v 8).toInt ∧ (v 8).toInt ≤ 320 := YIb.b hIv.1 8 (by decide)
  have b10_v : (0 : Int) ≤ (v 10).toInt ∧ (v 10).toInt ≤ 160 := YIb.b hIv.1 10 (by decide)
  have b13_v : (0 : Int) ≤ (v 13).toInt ∧ (v 13).toInt ≤ 31 := YIb.b hIv.1 13 (by decide)
  have b14_v : (0 : Int) ≤ (v 14).toInt ∧ (v 14).toInt ≤ 8 := YIb.b hIv.1 14 (by decide)
  have hGR : GR (v 3).toInt (v 5).toInt (v 3).toInt (v 5).toInt := GR.refl _ _
  have hown : s.vm.findClass RX11 = some m.cls := hown
  have hS : va_S A s.heap s.heap [] := va_S.rf
  have hl : lv_has ls 3 [(0, .ref y0)] := hl
  refine lv_iconst (v := 1) hx hb dX11_unit_0 (by decide) ?_
  refine lv_istore_n (lv' := [(1, .int 1), (0, .ref y0)]) hx hb dX11_unit_1 rfl hl (by decide) rfl (fun ls hl => ?_)
  have lp1 : ∀ (n1 : Nat) (l1_1 : Int32) (v1 : Nat → Int32) (f1 : Nat → Nat → Int32) (w1 : Int64) (g1 : Nat → Int64), YI v1 → YC f1 → progOK (f1 4) (f1 5) (v1 9).toInt.toNat → v1 0 = (v 0) → v1 4 = (v 4) → v1 8 = (v 8) → v1 9 = (v 9) → v1 15 = (v 15) → v1 17 = (v 17) → v1 18 = (v 18) → v1 24 = (v 24) → v1 25 = (v 25) → v1 35 = (v 35) → v1 36 = (v 36) → v1 38 = (v 38) → v1 39 = (v 39) → gsY_X11_unit_1_L1 NF n1 l1_1 v1 f1 w1 g1 = (gsY_X11_unit_1 NF v f w g) → ((0 : Int) ≤ l1_1.toInt ∧ l1_1.toInt ≤ 1) → (IM0 (v1 1).toInt (FI 0 (v1 10).toInt (v1 14).toInt (v1 8).toInt (f1 6) (f1 2) (f1 3))) → (NU (v1 1).toInt (v1 8).toInt (v1 10).toInt (v1 13).toInt (v1 14).toInt) → (GR (v 3).toInt (v 5).toInt (v1 3).toInt (v1 5).toInt) → ((v 13).toInt ≤ (v1 13).toInt) → KV [1, 2, 3, 5, 6, 7, 8, 10, 11, 13, 14] v1 v → KF [2, 3, 6] f1 f → f1 2 = (f 2) → f1 3 = (f 3) → (2 * (9 - (v1 14).toInt) + l1_1.toInt).toNat < n1 → ∀ (H : Heap) (locs : List Loc) (ls : Array Slot), va_P (dC, dI) vwCl (YW cy y0 r v1 f1 w1 g1) H → va_D A (YW cy y0 r v1 f1 w1 g1) → va_S A s.heap H locs → lv_has ls 3 [(1, .int l1_1), (0, .ref y0)] → W p l e { frames := 4, cells := 0, slots := 0, locals := 124 } s m ([.ref y0] : List Value).toArray below meth c H locs 0 0 Q (F0 m 2 ls []) := by
    intro n1
    induction n1 with
    | zero => intro l1_1 v1 f1 w1 g1 hIv1 hCf1 hRf1 hq0_v1 hq4_v1 hq8_v1 hq9_v1 hq15_v1 hq17_v1 hq18_v1 hq24_v1 hq25_v1 hq35_v1 hq36_v1 hq38_v1 hq39_v1 hT1 hr1_1 hx0_1 hx1_1 hx2_1 hx3_1 hM_v1 hA_f1 hs2_f1 hs3_f1 hm; exact absurd hm (Nat.not_lt_zero _)
    | succ n1 ih1 =>
      intro l1_1 v1 f1 w1 g1 hIv1 hCf1 hRf1 hq0_v1 hq4_v1 hq8_v1 hq9_v1 hq15_v1 hq17_v1 hq18_v1 hq24_v1 hq25_v1 hq35_v1 hq36_v1 hq38_v1 hq39_v1 hT1 hr1_1 hx0_1 hx1_1 hx2_1 hx3_1 hM_v1 hA_f1 hs2_f1 hs3_f1 hm1 H locs ls hP hD hS hl
      have jp101 := sY_X11_unit_1_jp101 NF l dC dI cy y0 r v f w g hIv hCf hRf hf0 hf1 hf2 hf3 hg0 hx hb hml hts hown hE hA ret n1 ih1 l1_1 v1 f1 w1 g1 hIv1 hCf1 hRf1 hq0_v1 hq4_v1 hq8_v1 hq9_v1 hq15_v1 hq17_v1 hq18_v1 hq24_v1 hq25_v1 hq35_v1 hq36_v1 hq38_v1 hq39_v1 hT1 hr1_1 hx0_1 hx1_1 hx2_1 hx3_1 hM_v1 hA_f1 hs2_f1 hs3_f1 hm1
      have hUv1 : (v1 35).toInt + (v1 36).toInt ≤ 40 := hIv1.2
      have zq8_v1 := congrArg Int32.toInt hq8_v1
      have b1_v1 : 0 ≤ (v1 1).toInt ∧ (v1 1).toInt ≤ 4 := YIb.b hIv1.1 1 (by decide)
      have b10_v1 : 0 ≤ (v1 10).toInt ∧ (v1 10).toInt ≤ 160 := YIb.b hIv1.1 10 (by decide)
      have b14_v1 : 0 ≤ (v1 14).toInt ∧ (v1 14).toInt ≤ 8 := YIb.b hIv1.1 14 (by decide)
      have b8_v1 : 0 ≤ (v1 8).toInt ∧ (v1 8).toInt ≤ 320 := YIb.b hIv1.1 8 (by decide)
      have b8_v : 0 ≤ (v 8).toInt ∧ (v 8).toInt ≤ 320 := YIb.b hIv.1 8 (by decide)
      have b13_v1 : 0 ≤ (v1 13).toInt ∧ (v1 13).toInt ≤ 31 := YIb.b hIv1.1 13 (by decide)
      have b3_v1 : 0 ≤ (v1 3).toInt ∧ (v1 3).toInt ≤ 1600 := YIb.b hIv1.1 3 (by decide)
      rw [hs2_f1] at hx0_1
      rw [hs3_f1] at hx0_1
      have hFJ := hx0_1
      have hNU := hx1_1
      have hGR := hx2_1
      refine lv_iload_n hx hb dX11_unit_2 rfl (lv_at hl 0 rfl) ?_
      revert jp101
      intro jp101
      refine lv_if_eq (tgt := 101) hx hb dX11_unit_3 (by decide) (fun c202 => ?_) (fun c202 => ?_)
      · skip
        have zc202 : l1_1.toInt = 0 := by rw [fa_eq, show (0 : Int32).toInt = 0 from by decide] at c202; exact c202
        exact jp101 _ _ _ ((gsY_X11_unit_1_q15 c202).symm.trans hT1) hP hD hS hl
      · skip
        have zc202 : ¬ (l1_1.toInt = 0) := by rw [fa_eq, show (0 : Int32).toInt = 0 from by decide] at c202; exact c202
        refine lv_aload_n hx hb dX11_unit_6 rfl (lv_at hl 1 rfl) ?_
        refine va_get (D := (dC, dI)) (ci := 11) (v := .int (v1 1)) (C := RX11) (T := TX11) (N := 79) hx hb hts inB_11 hown hE.1 hP 0 rfl rfl 2 (by decide) (hts _ k_1322) (fun _ h9 => h9) rfl dX11_unit_7 ?_
        refine lv_if_ne (tgt := 101) hx hb dX11_unit_10 (by decide) (fun c203 => ?_) (fun c203 => ?_)
        · skip
          have zc203 : ¬ ((v1 1).toInt = 0) := by rw [fa_eq, show (0 : Int32).toInt = 0 from by decide] at c203; exact c203
          exact jp101 _ _ _ ((gsY_X11_unit_1_q16 c202 c203).symm.trans hT1) hP hD hS hl
        · skip
          have zc203 : (v1 1).toInt = 0 := by rw [fa_eq, show (0 : Int32).toInt = 0 from by decide] at c203; exact c203
          obtain ⟨hn1, hn2, hn3, hn4⟩ := hNU (by omega)
          have jp53 : ∀ (H : Heap) (locs : List Loc) (ls : Array Slot), gsY_X11_unit_1_J204 NF f1 g1 l1_1 v1 w1 (fun z0 z1 z2 z3 z4 => gsY_X11_unit_1_L1 NF n1 z0 z1 z2 z3 z4) = (gsY_X11_unit_1 NF v f w g) → va_P (dC, dI) vwCl (YW cy y0 r v1 f1 w1 g1) H → va_D A (YW cy y0 r v1 f1 w1 g1) → va_S A s.heap H locs → lv_has ls 3 [(1, .int l1_1), (0, .ref y0)] → W p l e { frames := 4, cells := 0, slots := 0, locals := 124 } s m ([.ref y0] : List Value).toArray below meth c H locs 0 0 Q (F0 m 53 ls []) := by
            intro H locs ls hT204 hP hD hS hl
            refine lv_aload_n hx hb dX11_unit_53 rfl (lv_at hl 1 rfl) ?_
            refine va_get (D := (dC, dI)) (ci := 11) (v := .int (v1 5)) (C := RX11) (T := TX11) (N := 79) hx hb hts inB_11 hown hE.1 hP 0 rfl rfl 6 (by decide) (hts _ k_1326) (fun _ h9 => h9) rfl dX11_unit_54 ?_
            refine lv_bipush (v := 40) hx hb dX11_unit_57 (by decide) ?_
            refine lv_icmp_ne (tgt := 96) hx hb dX11_unit_59 (by decide) (fun c205 => ?_) (fun c205 => ?_)
            · skip
              have zc205 : ¬ ((v1 5).toInt = 40) := by rw [fa_eq, show (40 : Int32).toInt = 40 from by decide] at c205; exact c205
              refine lv_iconst (v := 0) hx hb dX11_unit_96 (by decide) ?_
              refine lv_istore_n (lv' := [(1, .int 0), (0, .ref y0)]) hx hb dX11_unit_97 rfl hl (by decide) rfl (fun ls hl => ?_)
              refine lv_goto (tgt := 2) hx hb dX11_unit_98 (by decide) ?_
              exact ih1 0 v1 f1 w1 g1 hIv1 hCf1 hRf1 hq0_v1 hq4_v1 hq8_v1 hq9_v1 hq15_v1 hq17_v1 hq18_v1 hq24_v1 hq25_v1 hq35_v1 hq36_v1 hq38_v1 hq39_v1 ((gsY_X11_unit_1_q17 c205).symm.trans hT204) ⟨by decide, by decide⟩ (by show IM0 (v1 1).toInt (FI 0 (v1 10).toInt (v1 14).toInt (v1 8).toInt (f1 6) (f1 2) (f1 3)); rw [hs2_f1, hs3_f1]; intro hz9; exact FI.cast (hFJ (by omega)) (by first | with_reducible rfl | with_reducible assumption | rfl | omega) (by first | with_reducible rfl | with_reducible assumption | rfl | omega) (by first | with_reducible rfl | with_reducible assumption | rfl | omega)) (by show NU (v1 1).toInt (v1 8).toInt (v1 10).toInt (v1 13).toInt (v1 14).toInt; exact NU.mk (by omega) (by omega) (by omega) (by omega)) (by show GR (v 3).toInt (v 5).toInt (v1 3).toInt (v1 5).toInt; exact GR.cast hGR (by first | with_reducible rfl | with_reducible assumption | rfl | omega) (by first | with_reducible rfl | with_reducible assumption | rfl | omega)) (by show (v 13).toInt ≤ (v1 13).toInt; omega) hM_v1 hA_f1 hs2_f1 hs3_f1 (by have q1 : (0 : Int32).toInt = 0 := (by decide); show (2 * (9 - (v1 14).toInt) + (0 : Int32).toInt).toNat < n1; omega) _ _ _ hP hD hS (lv_sub hl [0, 1] rfl)
            · skip
              have zc205 : (v1 5).toInt = 40 := by rw [fa_eq, show (40 : Int32).toInt = 40 from by decide] at c205; exact c205
              refine lv_aload_n hx hb dX11_unit_62 rfl (lv_at hl 1 rfl) ?_
              refine cbVi (n := 0) (rest := []) hx hb hml hown hts hE hP hD hS hA (sY_X11_isFull_1 NF l dC dI cy y0 r  v1 f1 w1 g1 hIv1 hCf1 hRf1 ) k_1684 k_1686 k_60 k_114 k_1687 (by decide +kernel) ⟨Nat.le_of_ble_eq_true rfl, Nat.le_of_ble_eq_true rfl⟩ 0 11 rfl rfl (rfl) hl.1 rfl (Nat.le_of_ble_eq_true rfl) dX11_unit_63 (fun r206 u H locs hw hP hD hS => ?_)
              obtain ⟨hG207, hw⟩ := hw
              rcases hw with ⟨g208⟩ | ⟨g208, g208_0⟩
              · skip
                subst g208
                refine lv_if_ne (tgt := 78) hx hb dX11_unit_66 (by decide) (fun _ => ?_) (fun c0 => absurd c0 (by decide))
                refine lv_aload_n hx hb dX11_unit_78 rfl (lv_at hl 1 rfl) ?_
                refine lv_iconst (v := 2) hx hb dX11_unit_79 (by decide) ?_
                refine cbVv (n := 1) (rest := []) hx hb hml hown hts hE hP hD hS hA (sY_X11_wrong_1 NF l dC dI cy y0 r 2 v1 f1 w1 g1 hIv1 hCf1 hRf1 ⟨by decide, by decide⟩) k_1641 k_1643 k_50 k_114 k_1644 (by decide +kernel) ⟨Nat.le_of_ble_eq_true rfl, Nat.le_of_ble_eq_true rfl⟩ 0 11 rfl rfl (rfl) hl.1 rfl (Nat.le_of_ble_eq_true rfl) dX11_unit_80 (fun u H locs hw hP hD hS => ?_)
                obtain ⟨hG209, hw⟩ := hw
                obtain ⟨v210, f211, w212, g213⟩ := u
                obtain ⟨kV_v210, kF_f211, hIv210, hCf211, hRf211, hk0_v210, hk3_v210, hk4_v210, hk5_v210, hk8_v210, hk9_v210, hk10_v210, hk13_v210, hk14_v210, hk15_v210, hk17_v210, hk18_v210, hk24_v210, hk25_v210, hk35_v210, hk36_v210, hk38_v210, hk39_v210, pv214, pv215, pv216, kq217, kq218, kq219⟩ := hw
                have hM_v210 : KV [1, 2, 3, 5, 6, 7, 8, 10, 11, 13, 14] v210 v := KV.tr kV_v210 hM_v1 rfl
                have hA_f211 : KF [2, 3, 6] f211 f := KF.tr kF_f211 hA_f1 rfl
                have hP : va_P (dC, dI) vwCl (YW cy y0 r v210 f211 w212 g213) H := hP
                have hD : va_D A (YW cy y0 r v210 f211 w212 g213) := hD
                have b3_v210 : 0 ≤ (v210 3).toInt ∧ (v210 3).toInt ≤ 1600 := YIb.b hIv210.1 3 (by decide)
                have b1_v210 : 0 ≤ (v210 1).toInt ∧ (v210 1).toInt ≤ 4 := YIb.b hIv210.1 1 (by decide)
                have pv214 : (v1 3).toInt ≤ (v210 3).toInt := pv214
                have pv215 : (v210 5).toInt = (v1 5).toInt ∨ (v1 3).toInt < (v210 3).toInt ∨ ¬ (v210 5).toInt = 59 := pv215
                have pv216 : 0 < (v210 1).toInt := pv216
                have hs2_f211 : f211 2 = (f 2) := kq217.trans hs2_f1
                have hs3_f211 : f211 3 = (f 3) := kq218.trans hs3_f1
                have hs6_f211 : f211 6 = (f1 6) := kq219
                have hUv210 : (v210 35).toInt + (v210 36).toInt ≤ 40 := hIv210.2
                have hq0_v210 : v210 0 = (v 0) := hk0_v210.trans hq0_v1
                have hq3_v210 : v210 3 = (v1 3) := hk3_v210
                have zq3_v210 := congrArg Int32.toInt hq3_v210
                have hq4_v210 : v210 4 = (v 4) := hk4_v210.trans hq4_v1
                have hq5_v210 : v210 5 = (v1 5) := hk5_v210
                have zq5_v210 := congrArg Int32.toInt hq5_v210
                have hq8_v210 : v210 8 = (v 8) := hk8_v210.trans hq8_v1
                have zq8_v210 := congrArg Int32.toInt hq8_v210
                have hq9_v210 : v210 9 = (v 9) := hk9_v210.trans hq9_v1
                have hq10_v210 : v210 10 = (v1 10) := hk10_v210
                have zq10_v210 := congrArg Int32.toInt hq10_v210
                have hq13_v210 : v210 13 = (v1 13) := hk13_v210
                have zq13_v210 := congrArg Int32.toInt hq13_v210
                have hq14_v210 : v210 14 = (v1 14) := hk14_v210
                have zq14_v210 := congrArg Int32.toInt hq14_v210
                have hq15_v210 : v210 15 = (v 15) := hk15_v210.trans hq15_v1
                have hq17_v210 : v210 17 = (v 17) := hk17_v210.trans hq17_v1
                have hq18_v210 : v210 18 = (v 18) := hk18_v210.trans hq18_v1
                have hq24_v210 : v210 24 = (v 24) := hk24_v210.trans hq24_v1
                have hq25_v210 : v210 25 = (v 25) := hk25_v210.trans hq25_v1
                have hq35_v210 : v210 35 = (v 35) := hk35_v210.trans hq35_v1
                have hq36_v210 : v210 36 = (v 36) := hk36_v210.trans hq36_v1
                have hq38_v210 : v210 38 = (v 38) := hk38_v210.trans hq38_v1
                have hq39_v210 : v210 39 = (v 39) := hk39_v210.trans hq39_v1
                have hGR : GR (v 3).toInt (v 5).toInt (v210 3).toInt (v210 5).toInt := GR.tr hGR (show GR (v1 3).toInt (v1 5).toInt (v210 3).toInt (v210 5).toInt from ⟨pv214, pv215⟩) (by first | with_reducible rfl | with_reducible assumption | rfl | omega) (by first | with_reducible rfl | with_reducible assumption | rfl | omega)
                clear pv215
                refine lv_aload_n hx hb dX11_unit_83 rfl (lv_at hl 1 rfl) ?_
                refine cbVv (n := 0) (rest := []) hx hb hml hown hts hE hP hD hS hA (sY_X11_countUnit_1 NF l dC dI cy y0 r  v210 f211 w212 g213 hIv210 hCf211 hRf211 (by show (v210 13).toInt ≤ 30; omega)) k_1688 k_1690 k_61 k_114 k_1691 (by decide +kernel) ⟨Nat.le_of_ble_eq_true rfl, Nat.le_of_ble_eq_true rfl⟩ 0 11 rfl rfl (rfl) hl.1 rfl (Nat.le_of_ble_eq_true rfl) dX11_unit_84 (fun u H locs hw hP hD hS => ?_)
                obtain ⟨hG220, hw⟩ := hw
                obtain ⟨v221, f222, w223, g224⟩ := u
                obtain ⟨kV_v221, kF_f222, hIv221, hCf222, hRf222, hk0_v221, hk1_v221, hk2_v221, hk3_v221, hk4_v221, hk5_v221, hk8_v221, hk9_v221, hk10_v221, hk14_v221, hk15_v221, hk17_v221, hk18_v221, hk24_v221, hk25_v221, hk35_v221, hk36_v221, hk38_v221, hk39_v221, pv225, kq226, kq227, kq228⟩ := hw
                have hM_v221 : KV [1, 2, 3, 5, 6, 7, 8, 10, 11, 13, 14] v221 v := KV.tr kV_v221 hM_v210 rfl
                have hA_f222 : KF [2, 3, 6] f222 f := KF.tr kF_f222 hA_f211 rfl
                have hP : va_P (dC, dI) vwCl (YW cy y0 r v221 f222 w223 g224) H := hP
                have hD : va_D A (YW cy y0 r v221 f222 w223 g224) := hD
                have b13_v221 : 0 ≤ (v221 13).toInt ∧ (v221 13).toInt ≤ 31 := YIb.b hIv221.1 13 (by decide)
                have pv225 : (v221 13).toInt = (v210 13).toInt + 1 := pv225
                have hs2_f222 : f222 2 = (f 2) := kq226.trans hs2_f211
                have hs3_f222 : f222 3 = (f 3) := kq227.trans hs3_f211
                have hs6_f222 : f222 6 = (f1 6) := kq228.trans hs6_f211
                have hUv221 : (v221 35).toInt + (v221 36).toInt ≤ 40 := hIv221.2
                have hq0_v221 : v221 0 = (v 0) := hk0_v221.trans hq0_v210
                have hq1_v221 : v221 1 = (v210 1) := hk1_v221
                have zq1_v221 := congrArg Int32.toInt hq1_v221
                have hq3_v221 : v221 3 = (v1 3) := hk3_v221.trans hq3_v210
                have zq3_v221 := congrArg Int32.toInt hq3_v221
                have hq4_v221 : v221 4 = (v 4) := hk4_v221.trans hq4_v210
                have hq5_v221 : v221 5 = (v1 5) := hk5_v221.trans hq5_v210
                have zq5_v221 := congrArg Int32.toInt hq5_v221
                have hq8_v221 : v221 8 = (v 8) := hk8_v221.trans hq8_v210
                have zq8_v221 := congrArg Int32.toInt hq8_v221
                have hq9_v221 : v221 9 = (v 9) := hk9_v221.trans hq9_v210
                have hq10_v221 : v221 10 = (v1 10) := hk10_v221.trans hq10_v210
                have zq10_v221 := congrArg Int32.toInt hq10_v221
                have hq14_v221 : v221 14 = (v1 14) := hk14_v221.trans hq14_v210
                have zq14_v221 := congrArg Int32.toInt hq14_v221
                have hq15_v221 : v221 15 = (v 15) := hk15_v221.trans hq15_v210
                have hq17_v221 : v221 17 = (v 17) := hk17_v221.trans hq17_v210
                have hq18_v221 : v221 18 = (v 18) := hk18_v221.trans hq18_v210
                have hq24_v221 : v221 24 = (v 24) := hk24_v221.trans hq24_v210
                have hq25_v221 : v221 25 = (v 25) := hk25_v221.trans hq25_v210
                have hq35_v221 : v221 35 = (v 35) := hk35_v221.trans hq35_v210
                have hq36_v221 : v221 36 = (v 36) := hk36_v221.trans hq36_v210
                have hq38_v221 : v221 38 = (v 38) := hk38_v221.trans hq38_v210
                have hq39_v221 : v221 39 = (v 39) := hk39_v221.trans hq39_v210
                refine lv_aload_n hx hb dX11_unit_87 rfl (lv_at hl 1 rfl) ?_
                refine lv_bipush (v := 20) hx hb dX11_unit_88 (by decide) ?_
                refine cbVv (n := 1) (rest := []) hx hb hml hown hts hE hP hD hS hA (sY_X11_openUp_1 NF l dC dI cy y0 r 20 v221 f222 w223 g224 hIv221 hCf222 hRf222 (by have q1 : (20 : Int32).toInt = 20 := (by decide); show (v221 10).toInt ≤ 159; omega) (by have q1 : (20 : Int32).toInt = 20 := (by decide); show (v221 14).toInt ≤ 7; omega)) k_1680 k_1682 k_59 k_114 k_1683 (by decide +kernel) ⟨Nat.le_of_ble_eq_true rfl, Nat.le_of_ble_eq_true rfl⟩ 0 11 rfl rfl (rfl) hl.1 rfl (Nat.le_of_ble_eq_true rfl) dX11_unit_90 (fun u H locs hw hP hD hS => ?_)
                obtain ⟨hG229, hw⟩ := hw
                obtain ⟨v230, f231, w232, g233⟩ := u
                obtain ⟨kV_v230, kF_f231, hIv230, hCf231, hRf231, hk0_v230, hk1_v230, hk2_v230, hk4_v230, hk8_v230, hk9_v230, hk13_v230, hk15_v230, hk17_v230, hk18_v230, hk24_v230, hk25_v230, hk35_v230, hk36_v230, hk38_v230, hk39_v230, pv234, pv235, pg236, pg237, kq238, kq239⟩ := hw
                have hM_v230 : KV [1, 2, 3, 5, 6, 7, 8, 10, 11, 13, 14] v230 v := KV.tr kV_v230 hM_v221 rfl
                have hA_f231 : KF [2, 3, 6] f231 f := KF.tr kF_f231 hA_f222 rfl
                have hP : va_P (dC, dI) vwCl (YW cy y0 r v230 f231 w232 g233) H := hP
                have hD : va_D A (YW cy y0 r v230 f231 w232 g233) := hD
                have b10_v230 : 0 ≤ (v230 10).toInt ∧ (v230 10).toInt ≤ 160 := YIb.b hIv230.1 10 (by decide)
                have b14_v230 : 0 ≤ (v230 14).toInt ∧ (v230 14).toInt ≤ 8 := YIb.b hIv230.1 14 (by decide)
                have b3_v230 : 0 ≤ (v230 3).toInt ∧ (v230 3).toInt ≤ 1600 := YIb.b hIv230.1 3 (by decide)
                have pv234 : (v230 10).toInt = (v221 10).toInt + 1 := pv234
                have pv235 : (v230 14).toInt = (v221 14).toInt + 1 := pv235
                have pg236 : GR (v221 3).toInt (v221 5).toInt (v230 3).toInt (v230 5).toInt := pg236
                have pg237 : (f231 6) = upd (f222 6) ((v221 10).toInt).toNat 20 := pg237
                rw [hs6_f222] at pg237
                have hs2_f231 : f231 2 = (f 2) := kq238.trans hs2_f222
                have hs3_f231 : f231 3 = (f 3) := kq239.trans hs3_f222
                have hUv230 : (v230 35).toInt + (v230 36).toInt ≤ 40 := hIv230.2
                have hq0_v230 : v230 0 = (v 0) := hk0_v230.trans hq0_v221
                have hq1_v230 : v230 1 = (v210 1) := hk1_v230.trans hq1_v221
                have zq1_v230 := congrArg Int32.toInt hq1_v230
                have hq4_v230 : v230 4 = (v 4) := hk4_v230.trans hq4_v221
                have hq8_v230 : v230 8 = (v 8) := hk8_v230.trans hq8_v221
                have zq8_v230 := congrArg Int32.toInt hq8_v230
                have hq9_v230 : v230 9 = (v 9) := hk9_v230.trans hq9_v221
                have hq13_v230 : v230 13 = (v221 13) := hk13_v230
                have zq13_v230 := congrArg Int32.toInt hq13_v230
                have hq15_v230 : v230 15 = (v 15) := hk15_v230.trans hq15_v221
                have hq17_v230 : v230 17 = (v 17) := hk17_v230.trans hq17_v221
                have hq18_v230 : v230 18 = (v 18) := hk18_v230.trans hq18_v221
                have hq24_v230 : v230 24 = (v 24) := hk24_v230.trans hq24_v221
                have hq25_v230 : v230 25 = (v 25) := hk25_v230.trans hq25_v221
                have hq35_v230 : v230 35 = (v 35) := hk35_v230.trans hq35_v221
                have hq36_v230 : v230 36 = (v 36) := hk36_v230.trans hq36_v221
                have hq38_v230 : v230 38 = (v 38) := hk38_v230.trans hq38_v221
                have hq39_v230 : v230 39 = (v 39) := hk39_v230.trans hq39_v221
                have hGR : GR (v 3).toInt (v 5).toInt (v230 3).toInt (v230 5).toInt := GR.tr hGR (show GR (v221 3).toInt (v221 5).toInt (v230 3).toInt (v230 5).toInt from pg236) (by first | with_reducible rfl | with_reducible assumption | rfl | omega) (by first | with_reducible rfl | with_reducible assumption | rfl | omega)
                have hFK : FI 0 (v230 10).toInt (v230 14).toInt (v230 8).toInt (f231 6) (f 2) (f 3) := FI.push (hFJ (by omega)) pg237 (by omega) (by decide) (by first | with_reducible rfl | with_reducible assumption | rfl | omega) (by first | with_reducible rfl | with_reducible assumption | rfl | omega) (by first | with_reducible rfl | with_reducible assumption | rfl | omega)
                refine lv_goto (tgt := 2) hx hb dX11_unit_93 (by decide) ?_
                have rg240 := fb_rng l1_1
                exact ih1 l1_1 v230 f231 w232 g233 hIv230 hCf231 hRf231 hq0_v230 hq4_v230 hq8_v230 hq9_v230 hq15_v230 hq17_v230 hq18_v230 hq24_v230 hq25_v230 hq35_v230 hq36_v230 hq38_v230 hq39_v230 ((gsY_X11_unit_1_q18 c205 hG207 hG209 hG220 hG229).symm.trans hT204) ⟨show (0 : Int) ≤ l1_1.toInt by omega, show l1_1.toInt ≤ (1 : Int) by omega⟩ (by show IM0 (v230 1).toInt (FI 0 (v230 10).toInt (v230 14).toInt (v230 8).toInt (f231 6) (f231 2) (f231 3)); rw [hs2_f231, hs3_f231]; intro hz9; exact FI.cast hFK (by first | with_reducible rfl | with_reducible assumption | rfl | omega) (by first | with_reducible rfl | with_reducible assumption | rfl | omega) (by first | with_reducible rfl | with_reducible assumption | rfl | omega)) (by show NU (v230 1).toInt (v230 8).toInt (v230 10).toInt (v230 13).toInt (v230 14).toInt; exact NU.ab (by omega)) (by show GR (v 3).toInt (v 5).toInt (v230 3).toInt (v230 5).toInt; exact GR.cast hGR (by first | with_reducible rfl | with_reducible assumption | rfl | omega) (by first | with_reducible rfl | with_reducible assumption | rfl | omega)) (by show (v 13).toInt ≤ (v230 13).toInt; omega) hM_v230 hA_f231 hs2_f231 hs3_f231 (by show (2 * (9 - (v230 14).toInt) + l1_1.toInt).toNat < n1; omega) _ _ _ hP hD hS (lv_sub hl [0, 1] rfl)
              · skip
                subst g208
                refine lv_if_ne (tgt := 78) hx hb dX11_unit_66 (by decide) (fun c0 => absurd (by decide) c0) (fun _ => ?_)
                refine lv_aload_n hx hb dX11_unit_69 rfl (lv_at hl 1 rfl) ?_
                refine va_get (D := (dC, dI)) (ci := 11) (v := .int (v1 14)) (C := RX11) (T := TX11) (N := 79) hx hb hts inB_11 hown hE.1 hP 0 rfl rfl 23 (by decide) (hts _ k_1343) (fun _ h9 => h9) rfl dX11_unit_70 ?_
                refine lv_bipush (v := 6) hx hb dX11_unit_73 (by decide) ?_
                refine lv_icmp_le (tgt := 83) hx hb dX11_unit_75 (by decide) (fun c241 => ?_) (fun c241 => ?_)
                · skip
                  have zc241 : (v1 14).toInt ≤ 6 := by rw [fa_le, show (6 : Int32).toInt = 6 from by decide] at c241; exact c241
                  refine lv_aload_n hx hb dX11_unit_83 rfl (lv_at hl 1 rfl) ?_
                  refine cbVv (n := 0) (rest := []) hx hb hml hown hts hE hP hD hS hA (sY_X11_countUnit_1 NF l dC dI cy y0 r  v1 f1 w1 g1 hIv1 hCf1 hRf1 (by show (v1 13).toInt ≤ 30; omega)) k_1688 k_1690 k_61 k_114 k_1691 (by decide +kernel) ⟨Nat.le_of_ble_eq_true rfl, Nat.le_of_ble_eq_true rfl⟩ 0 11 rfl rfl (rfl) hl.1 rfl (Nat.le_of_ble_eq_true rfl) dX11_unit_84 (fun u H locs hw hP hD hS => ?_)
                  obtain ⟨hG242, hw⟩ := hw
                  obtain ⟨v243, f244, w245, g246⟩ := u
                  obtain ⟨kV_v243, kF_f244, hIv243, hCf244, hRf244, hk0_v243, hk1_v243, hk2_v243, hk3_v243, hk4_v243, hk5_v243, hk8_v243, hk9_v243, hk10_v243, hk14_v243, hk15_v243, hk17_v243, hk18_v243, hk24_v243, hk25_v243, hk35_v243, hk36_v243, hk38_v243, hk39_v243, pv247, kq248, kq249, kq250⟩ := hw
                  have hM_v243 : KV [1, 2, 3, 5, 6, 7, 8, 10, 11, 13, 14] v243 v := KV.tr kV_v243 hM_v1 rfl
                  have hA_f244 : KF [2, 3, 6] f244 f := KF.tr kF_f244 hA_f1 rfl
                  have hP : va_P (dC, dI) vwCl (YW cy y0 r v243 f244 w245 g246) H := hP
                  have hD : va_D A (YW cy y0 r v243 f244 w245 g246) := hD
                  have b13_v243 : 0 ≤ (v243 13).toInt ∧ (v243 13).toInt ≤ 31 := YIb.b hIv243.1 13 (by decide)
                  have pv247 : (v243 13).toInt = (v1 13).toInt + 1 := pv247
                  have hs2_f244 : f244 2 = (f 2) := kq248.trans hs2_f1
                  have hs3_f244 : f244 3 = (f 3) := kq249.trans hs3_f1
                  have hs6_f244 : f244 6 = (f1 6) := kq250
                  have hUv243 : (v243 35).toInt + (v243 36).toInt ≤ 40 := hIv243.2
                  have hq0_v243 : v243 0 = (v 0) := hk0_v243.trans hq0_v1
                  have hq1_v243 : v243 1 = (v1 1) := hk1_v243
                  have zq1_v243 := congrArg Int32.toInt hq1_v243
                  have hq3_v243 : v243 3 = (v1 3) := hk3_v243
                  have zq3_v243 := congrArg Int32.toInt hq3_v243
                  have hq4_v243 : v243 4 = (v 4) := hk4_v243.trans hq4_v1
                  have hq5_v243 : v243 5 = (v1 5) := hk5_v243
                  have zq5_v243 := congrArg Int32.toInt hq5_v243
                  have hq8_v243 : v243 8 = (v 8) := hk8_v243.trans hq8_v1
                  have zq8_v243 := congrArg Int32.toInt hq8_v243
                  have hq9_v243 : v243 9 = (v 9) := hk9_v243.trans hq9_v1
                  have hq10_v243 : v243 10 = (v1 10) := hk10_v243
                  have zq10_v243 := congrArg Int32.toInt hq10_v243
                  have hq14_v243 : v243 14 = (v1 14) := hk14_v243
                  have zq14_v243 := congrArg Int32.toInt hq14_v243
                  have hq15_v243 : v243 15 = (v 15) := hk15_v243.trans hq15_v1
                  have hq17_v243 : v243 17 = (v 17) := hk17_v243.trans hq17_v1
                  have hq18_v243 : v243 18 = (v 18) := hk18_v243.trans hq18_v1
                  have hq24_v243 : v243 24 = (v 24) := hk24_v243.trans hq24_v1
                  have hq25_v243 : v243 25 = (v 25) := hk25_v243.trans hq25_v1
                  have hq35_v243 : v243 35 = (v 35) := hk35_v243.trans hq35_v1
                  have hq36_v243 : v243 36 = (v 36) := hk36_v243.trans hq36_v1
                  have hq38_v243 : v243 38 = (v 38) := hk38_v243.trans hq38_v1
                  have hq39_v243 : v243 39 = (v 39) := hk39_v243.trans hq39_v1
                  refine lv_aload_n hx hb dX11_unit_87 rfl (lv_at hl 1 rfl) ?_
                  refine lv_bipush (v := 20) hx hb dX11_unit_88 (by decide) ?_
                  refine cbVv (n := 1) (rest := []) hx hb hml hown hts hE hP hD hS hA (sY_X11_openUp_1 NF l dC dI cy y0 r 20 v243 f244 w245 g246 hIv243 hCf244 hRf244 (by have q1 : (20 : Int32).toInt = 20 := (by decide); show (v243 10).toInt ≤ 159; omega) (by have q1 : (20 : Int32).toInt = 20 := (by decide); show (v243 14).toInt ≤ 7; omega)) k_1680 k_1682 k_59 k_114 k_1683 (by decide +kernel) ⟨Nat.le_of_ble_eq_true rfl, Nat.le_of_ble_eq_true rfl⟩ 0 11 rfl rfl (rfl) hl.1 rfl (Nat.le_of_ble_eq_true rfl) dX11_unit_90 (fun u H locs hw hP hD hS => ?_)
                  obtain ⟨hG251, hw⟩ := hw
                  obtain ⟨v252, f253, w254, g255⟩ := u
                  obtain ⟨kV_v252, kF_f253, hIv252, hCf253, hRf253, hk0_v252, hk1_v252, hk2_v252, hk4_v252, hk8_v252, hk9_v252, hk13_v252, hk15_v252, hk17_v252, hk18_v252, hk24_v252, hk25_v252, hk35_v252, hk36_v252, hk38_v252, hk39_v252, pv256, pv257, pg258, pg259, kq260, kq261⟩ := hw
                  have hM_v252 : KV [1, 2, 3, 5, 6, 7, 8, 10, 11, 13, 14] v252 v := KV.tr kV_v252 hM_v243 rfl
                  have hA_f253 : KF [2, 3, 6] f253 f := KF.tr kF_f253 hA_f244 rfl
                  have hP : va_P (dC, dI) vwCl (YW cy y0 r v252 f253 w254 g255) H := hP
                  have hD : va_D A (YW cy y0 r v252 f253 w254 g255) := hD
                  have b10_v252 : 0 ≤ (v252 10).toInt ∧ (v252 10).toInt ≤ 160 := YIb.b hIv252.1 10 (by decide)
                  have b14_v252 : 0 ≤ (v252 14).toInt ∧ (v252 14).toInt ≤ 8 := YIb.b hIv252.1 14 (by decide)
                  have b3_v252 : 0 ≤ (v252 3).toInt ∧ (v252 3).toInt ≤ 1600 := YIb.b hIv252.1 3 (by decide)
                  have pv256 : (v252 10).toInt = (v243 10).toInt + 1 := pv256
                  have pv257 : (v252 14).toInt = (v243 14).toInt + 1 := pv257
                  have pg258 : GR (v243 3).toInt (v243 5).toInt (v252 3).toInt (v252 5).toInt := pg258
                  have pg259 : (f253 6) = upd (f244 6) ((v243 10).toInt).toNat 20 := pg259
                  rw [hs6_f244] at pg259
                  have hs2_f253 : f253 2 = (f 2) := kq260.trans hs2_f244
                  have hs3_f253 : f253 3 = (f 3) := kq261.trans hs3_f244
                  have hUv252 : (v252 35).toInt + (v252 36).toInt ≤ 40 := hIv252.2
                  have hq0_v252 : v252 0 = (v 0) := hk0_v252.trans hq0_v243
                  have hq1_v252 : v252 1 = (v1 1) := hk1_v252.trans hq1_v243
                  have zq1_v252 := congrArg Int32.toInt hq1_v252
                  have hq4_v252 : v252 4 = (v 4) := hk4_v252.trans hq4_v243
                  have hq8_v252 : v252 8 = (v 8) := hk8_v252.trans hq8_v243
                  have zq8_v252 := congrArg Int32.toInt hq8_v252
                  have hq9_v252 : v252 9 = (v 9) := hk9_v252.trans hq9_v243
                  have hq13_v252 : v252 13 = (v243 13) := hk13_v252
                  have zq13_v252 := congrArg Int32.toInt hq13_v252
                  have hq15_v252 : v252 15 = (v 15) := hk15_v252.trans hq15_v243
                  have hq17_v252 : v252 17 = (v 17) := hk17_v252.trans hq17_v243
                  have hq18_v252 : v252 18 = (v 18) := hk18_v252.trans hq18_v243
                  have hq24_v252 : v252 24 = (v 24) := hk24_v252.trans hq24_v243
                  have hq25_v252 : v252 25 = (v 25) := hk25_v252.trans hq25_v243
                  have hq35_v252 : v252 35 = (v 35) := hk35_v252.trans hq35_v243
                  have hq36_v252 : v252 36 = (v 36) := hk36_v252.trans hq36_v243
                  have hq38_v252 : v252 38 = (v 38) := hk38_v252.trans hq38_v243
                  have hq39_v252 : v252 39 = (v 39) := hk39_v252.trans hq39_v243
                  have hGR : GR (v 3).toInt (v 5).toInt (v252 3).toInt (v252 5).toInt := GR.tr hGR (show GR (v243 3).toInt (v243 5).toInt (v252 3).toInt (v252 5).toInt from pg258) (by first | with_reducible rfl | with_reducible assumption | rfl | omega) (by first | with_reducible rfl | with_reducible assumption | rfl | omega)
                  have hFK : FI 0 (v252 10).toInt (v252 14).toInt (v252 8).toInt (f253 6) (f 2) (f 3) := FI.push (hFJ (by omega)) pg259 (by omega) (by decide) (by first | with_reducible rfl | with_reducible assumption | rfl | omega) (by first | with_reducible rfl | with_reducible assumption | rfl | omega) (by first | with_reducible rfl | with_reducible assumption | rfl | omega)
                  refine lv_goto (tgt := 2) hx hb dX11_unit_93 (by decide) ?_
                  have rg262 := fb_rng l1_1
                  exact ih1 l1_1 v252 f253 w254 g255 hIv252 hCf253 hRf253 hq0_v252 hq4_v252 hq8_v252 hq9_v252 hq15_v252 hq17_v252 hq18_v252 hq24_v252 hq25_v252 hq35_v252 hq36_v252 hq38_v252 hq39_v252 ((gsY_X11_unit_1_q19 c205 hG207 c241 hG242 hG251).symm.trans hT204) ⟨show (0 : Int) ≤ l1_1.toInt by omega, show l1_1.toInt ≤ (1 : Int) by omega⟩ (by show IM0 (v252 1).toInt (FI 0 (v252 10).toInt (v252 14).toInt (v252 8).toInt (f253 6) (f253 2) (f253 3)); rw [hs2_f253, hs3_f253]; intro hz9; exact FI.cast hFK (by first | with_reducible rfl | with_reducible assumption | rfl | omega) (by first | with_reducible rfl | with_reducible assumption | rfl | omega) (by first | with_reducible rfl | with_reducible assumption | rfl | omega)) (by show NU (v252 1).toInt (v252 8).toInt (v252 10).toInt (v252 13).toInt (v252 14).toInt; exact NU.mk (by omega) (by omega) (by omega) (by omega)) (by show GR (v 3).toInt (v 5).toInt (v252 3).toInt (v252 5).toInt; exact GR.cast hGR (by first | with_reducible rfl | with_reducible assumption | rfl | omega) (by first | with_reducible rfl | with_reducible assumption | rfl | omega)) (by show (v 13).toInt ≤ (v252 13).toInt; omega) hM_v252 hA_f253 hs2_f253 hs3_f253 (by show (2 * (9 - (v252 14).toInt) + l1_1.toInt).toNat < n1; omega) _ _ _ hP hD hS (lv_sub hl [0, 1] rfl)
                · skip
                  have zc241 : ¬ ((v1 14).toInt ≤ 6) := by rw [fa_le, show (6 : Int32).toInt = 6 from by decide] at c241; exact c241
                  refine lv_aload_n hx hb dX11_unit_78 rfl (lv_at hl 1 rfl) ?_
                  refine lv_iconst (v := 2) hx hb dX11_unit_79 (by decide) ?_
                  refine cbVv (n := 1) (rest := []) hx hb hml hown hts hE hP hD hS hA (sY_X11_wrong_1 NF l dC dI cy y0 r 2 v1 f1 w1 g1 hIv1 hCf1 hRf1 ⟨by decide, by decide⟩) k_1641 k_1643 k_50 k_114 k_1644 (by decide +kernel) ⟨Nat.le_of_ble_eq_true rfl, Nat.le_of_ble_eq_true rfl⟩ 0 11 rfl rfl (rfl) hl.1 rfl (Nat.le_of_ble_eq_true rfl) dX11_unit_80 (fun u H locs hw hP hD hS => ?_)
                  obtain ⟨hG263, hw⟩ := hw
                  obtain ⟨v264, f265, w266, g267⟩ := u
                  obtain ⟨kV_v264, kF_f265, hIv264, hCf265, hRf265, hk0_v264, hk3_v264, hk4_v264, hk5_v264, hk8_v264, hk9_v264, hk10_v264, hk13_v264, hk14_v264, hk15_v264, hk17_v264, hk18_v264, hk24_v264, hk25_v264, hk35_v264, hk36_v264, hk38_v264, hk39_v264, pv268, pv269, pv270, kq271, kq272, kq273⟩ := hw
                  have hM_v264 : KV [1, 2, 3, 5, 6, 7, 8, 10, 11, 13, 14] v264 v := KV.tr kV_v264 hM_v1 rfl
                  have hA_f265 : KF [2, 3, 6] f265 f := KF.tr kF_f265 hA_f1 rfl
                  have hP : va_P (dC, dI) vwCl (YW cy y0 r v264 f265 w266 g267) H := hP
                  have hD : va_D A (YW cy y0 r v264 f265 w266 g267) := hD
                  have b3_v264 : 0 ≤ (v264 3).toInt ∧ (v264 3).toInt ≤ 1600 := YIb.b hIv264.1 3 (by decide)
                  have b1_v264 : 0 ≤ (v264 1).toInt ∧ (v264 1).toInt ≤ 4 := YIb.b hIv264.1 1 (by decide)
                  have pv268 : (v1 3).toInt ≤ (v264 3).toInt := pv268
                  have pv269 : (v264 5).toInt = (v1 5).toInt ∨ (v1 3).toInt < (v264 3).toInt ∨ ¬ (v264 5).toInt = 59 := pv269
                  have pv270 : 0 < (v264 1).toInt := pv270
                  have hs2_f265 : f265 2 = (f 2) := kq271.trans hs2_f1
                  have hs3_f265 : f265 3 = (f 3) := kq272.trans hs3_f1
                  have hs6_f265 : f265 6 = (f1 6) := kq273
                  have hUv264 : (v264 35).toInt + (v264 36).toInt ≤ 40 := hIv264.2
                  have hq0_v264 : v264 0 = (v 0) := hk0_v264.trans hq0_v1
                  have hq3_v264 : v264 3 = (v1 3) := hk3_v264
                  have zq3_v264 := congrArg Int32.toInt hq3_v264
                  have hq4_v264 : v264 4 = (v 4) := hk4_v264.trans hq4_v1
                  have hq5_v264 : v264 5 = (v1 5) := hk5_v264
                  have zq5_v264 := congrArg Int32.toInt hq5_v264
                  have hq8_v264 : v264 8 = (v 8) := hk8_v264.trans hq8_v1
                  have zq8_v264 := congrArg Int32.toInt hq8_v264
                  have hq9_v264 : v264 9 = (v 9) := hk9_v264.trans hq9_v1
                  have hq10_v264 : v264 10 = (v1 10) := hk10_v264
                  have zq10_v264 := congrArg Int32.toInt hq10_v264
                  have hq13_v264 : v264 13 = (v1 13) := hk13_v264
                  have zq13_v264 := congrArg Int32.toInt hq13_v264
                  have hq14_v264 : v264 14 = (v1 14) := hk14_v264
                  have zq14_v264 := congrArg Int32.toInt hq14_v264
                  have hq15_v264 : v264 15 = (v 15) := hk15_v264.trans hq15_v1
                  have hq17_v264 : v264 17 = (v 17) := hk17_v264.trans hq17_v1
                  have hq18_v264 : v264 18 = (v 18) := hk18_v264.trans hq18_v1
                  have hq24_v264 : v264 24 = (v 24) := hk24_v264.trans hq24_v1
                  have hq25_v264 : v264 25 = (v 25) := hk25_v264.trans hq25_v1
                  have hq35_v264 : v264 35 = (v 35) := hk35_v264.trans hq35_v1
                  have hq36_v264 : v264 36 = (v 36) := hk36_v264.trans hq36_v1
                  have hq38_v264 : v264 38 = (v 38) := hk38_v264.trans hq38_v1
                  have hq39_v264 : v264 39 = (v 39) := hk39_v264.trans hq39_v1
                  have hGR : GR (v 3).toInt (v 5).toInt (v264 3).toInt (v264 5).toInt := GR.tr hGR (show GR (v1 3).toInt (v1 5).toInt (v264 3).toInt (v264 5).toInt from ⟨pv268, pv269⟩) (by first | with_reducible rfl | with_reducible assumption | rfl | omega) (by first | with_reducible rfl | with_reducible assumption | rfl | omega)
                  clear pv269
                  refine lv_aload_n hx hb dX11_unit_83 rfl (lv_at hl 1 rfl) ?_
                  refine cbVv (n := 0) (rest := []) hx hb hml hown hts hE hP hD hS hA (sY_X11_countUnit_1 NF l dC dI cy y0 r  v264 f265 w266 g267 hIv264 hCf265 hRf265 (by show (v264 13).toInt ≤ 30; omega)) k_1688 k_1690 k_61 k_114 k_1691 (by decide +kernel) ⟨Nat.le_of_ble_eq_true rfl, Nat.le_of_ble_eq_true rfl⟩ 0 11 rfl rfl (rfl) hl.1 rfl (Nat.le_of_ble_eq_true rfl) dX11_unit_84 (fun u H locs hw hP hD hS => ?_)
                  obtain ⟨hG274, hw⟩ := hw
                  obtain ⟨v275, f276, w277, g278⟩ := u
                  obtain ⟨kV_v275, kF_f276, hIv275, hCf276, hRf276, hk0_v275, hk1_v275, hk2_v275, hk3_v275, hk4_v275, hk5_v275, hk8_v275, hk9_v275, hk10_v275, hk14_v275, hk15_v275, hk17_v275, hk18_v275, hk24_v275, hk25_v275, hk35_v275, hk36_v275, hk38_v275, hk39_v275, pv279, kq280, kq281, kq282⟩ := hw
                  have hM_v275 : KV [1, 2, 3, 5, 6, 7, 8, 10, 11, 13, 14] v275 v := KV.tr kV_v275 hM_v264 rfl
                  have hA_f276 : KF [2, 3, 6] f276 f := KF.tr kF_f276 hA_f265 rfl
                  have hP : va_P (dC, dI) vwCl (YW cy y0 r v275 f276 w277 g278) H := hP
                  have hD : va_D A (YW cy y0 r v275 f276 w277 g278) := hD
                  have b13_v275 : 0 ≤ (v275 13).toInt ∧ (v275 13).toInt ≤ 31 := YIb.b hIv275.1 13 (by decide)
                  have pv279 : (v275 13).toInt = (v264 13).toInt + 1 := pv279
                  have hs2_f276 : f276 2 = (f 2) := kq280.trans hs2_f265
                  have hs3_f276 : f276 3 = (f 3) := kq281.trans hs3_f265
                  have hs6_f276 : f276 6 = (f1 6) := kq282.trans hs6_f265
                  have hUv275 : (v275 35).toInt + (v275 36).toInt ≤ 40 := hIv275.2
                  have hq0_v275 : v275 0 = (v 0) := hk0_v275.trans hq0_v264
                  have hq1_v275 : v275 1 = (v264 1) := hk1_v275
                  have zq1_v275 := congrArg Int32.toInt hq1_v275
                  have hq3_v275 : v275 3 = (v1 3) := hk3_v275.trans hq3_v264
                  have zq3_v275 := congrArg Int32.toInt hq3_v275
                  have hq4_v275 : v275 4 = (v 4) := hk4_v275.trans hq4_v264
                  have hq5_v275 : v275 5 = (v1 5) := hk5_v275.trans hq5_v264
                  have zq5_v275 := congrArg Int32.toInt hq5_v275
                  have hq8_v275 : v275 8 = (v 8) := hk8_v275.trans hq8_v264
                  have zq8_v275 := congrArg Int32.toInt hq8_v275
                  have hq9_v275 : v275 9 = (v 9) := hk9_v275.trans hq9_v264
                  have hq10_v275 : v275 10 = (v1 10) := hk10_v275.trans hq10_v264
                  have zq10_v275 := congrArg Int32.toInt hq10_v275
                  have hq14_v275 : v275 14 = (v1 14) := hk14_v275.trans hq14_v264
                  have zq14_v275 := congrArg Int32.toInt hq14_v275
                  have hq15_v275 : v275 15 = (v 15) := hk15_v275.trans hq15_v264
                  have hq17_v275 : v275 17 = (v 17) := hk17_v275.trans hq17_v264
                  have hq18_v275 : v275 18 = (v 18) := hk18_v275.trans hq18_v264
                  have hq24_v275 : v275 24 = (v 24) := hk24_v275.trans hq24_v264
                  have hq25_v275 : v275 25 = (v 25) := hk25_v275.trans hq25_v264
                  have hq35_v275 : v275 35 = (v 35) := hk35_v275.trans hq35_v264
                  have hq36_v275 : v275 36 = (v 36) := hk36_v275.trans hq36_v264
                  have hq38_v275 : v275 38 = (v 38) := hk38_v275.trans hq38_v264
                  have hq39_v275 : v275 39 = (v 39) := hk39_v275.trans hq39_v264
                  refine lv_aload_n hx hb dX11_unit_87 rfl (lv_at hl 1 rfl) ?_
                  refine lv_bipush (v := 20) hx hb dX11_unit_88 (by decide) ?_
                  refine cbVv (n := 1) (rest := []) hx hb hml hown hts hE hP hD hS hA (sY_X11_openUp_1 NF l dC dI cy y0 r 20 v275 f276 w277 g278 hIv275 hCf276 hRf276 (by have q1 : (20 : Int32).toInt = 20 := (by decide); show (v275 10).toInt ≤ 159; omega) (by have q1 : (20 : Int32).toInt = 20 := (by decide); show (v275 14).toInt ≤ 7; omega)) k_1680 k_1682 k_59 k_114 k_1683 (by decide +kernel) ⟨Nat.le_of_ble_eq_true rfl, Nat.le_of_ble_eq_true rfl⟩ 0 11 rfl rfl (rfl) hl.1 rfl (Nat.le_of_ble_eq_true rfl) dX11_unit_90 (fun u H locs hw hP hD hS => ?_)
                  obtain ⟨hG283, hw⟩ := hw
                  obtain ⟨v284, f285, w286, g287⟩ := u
                  obtain ⟨kV_v284, kF_f285, hIv284, hCf285, hRf285, hk0_v284, hk1_v284, hk2_v284, hk4_v284, hk8_v284, hk9_v284, hk13_v284, hk15_v284, hk17_v284, hk18_v284, hk24_v284, hk25_v284, hk35_v284, hk36_v284, hk38_v284, hk39_v284, pv288, pv289, pg290, pg291, kq292, kq293⟩ := hw
                  have hM_v284 : KV [1, 2, 3, 5, 6, 7, 8, 10, 11, 13, 14] v284 v := KV.tr kV_v284 hM_v275 rfl
                  have hA_f285 : KF [2, 3, 6] f285 f := KF.tr kF_f285 hA_f276 rfl
                  have hP : va_P (dC, dI) vwCl (YW cy y0 r v284 f285 w286 g287) H := hP
                  have hD : va_D A (YW cy y0 r v284 f285 w286 g287) := hD
                  have b10_v284 : 0 ≤ (v284 10).toInt ∧ (v284 10).toInt ≤ 160 := YIb.b hIv284.1 10 (by decide)
                  have b14_v284 : 0 ≤ (v284 14).toInt ∧ (v284 14).toInt ≤ 8 := YIb.b hIv284.1 14 (by decide)
                  have b3_v284 : 0 ≤ (v284 3).toInt ∧ (v284 3).toInt ≤ 1600 := YIb.b hIv284.1 3 (by decide)
                  have pv288 : (v284 10).toInt = (v275 10).toInt + 1 := pv288
                  have pv289 : (v284 14).toInt = (v275 14).toInt + 1 := pv289
                  have pg290 : GR (v275 3).toInt (v275 5).toInt (v284 3).toInt (v284 5).toInt := pg290
                  have pg291 : (f285 6) = upd (f276 6) ((v275 10).toInt).toNat 20 := pg291
                  rw [hs6_f276] at pg291
                  have hs2_f285 : f285 2 = (f 2) := kq292.trans hs2_f276
                  have hs3_f285 : f285 3 = (f 3) := kq293.trans hs3_f276
                  have hUv284 : (v284 35).toInt + (v284 36).toInt ≤ 40 := hIv284.2
                  have hq0_v284 : v284 0 = (v 0) := hk0_v284.trans hq0_v275
                  have hq1_v284 : v284 1 = (v264 1) := hk1_v284.trans hq1_v275
                  have zq1_v284 := congrArg Int32.toInt hq1_v284
                  have hq4_v284 : v284 4 = (v 4) := hk4_v284.trans hq4_v275
                  have hq8_v284 : v284 8 = (v 8) := hk8_v284.trans hq8_v275
                  have zq8_v284 := congrArg Int32.toInt hq8_v284
                  have hq9_v284 : v284 9 = (v 9) := hk9_v284.trans hq9_v275
                  have hq13_v284 : v284 13 = (v275 13) := hk13_v284
                  have zq13_v284 := congrArg Int32.toInt hq13_v284
                  have hq15_v284 : v284 15 = (v 15) := hk15_v284.trans hq15_v275
                  have hq17_v284 : v284 17 = (v 17) := hk17_v284.trans hq17_v275
                  have hq18_v284 : v284 18 = (v 18) := hk18_v284.trans hq18_v275
                  have hq24_v284 : v284 24 = (v 24) := hk24_v284.trans hq24_v275
                  have hq25_v284 : v284 25 = (v 25) := hk25_v284.trans hq25_v275
                  have hq35_v284 : v284 35 = (v 35) := hk35_v284.trans hq35_v275
                  have hq36_v284 : v284 36 = (v 36) := hk36_v284.trans hq36_v275
                  have hq38_v284 : v284 38 = (v 38) := hk38_v284.trans hq38_v275
                  have hq39_v284 : v284 39 = (v 39) := hk39_v284.trans hq39_v275
                  have hGR : GR (v 3).toInt (v 5).toInt (v284 3).toInt (v284 5).toInt := GR.tr hGR (show GR (v275 3).toInt (v275 5).toInt (v284 3).toInt (v284 5).toInt from pg290) (by first | with_reducible rfl | with_reducible assumption | rfl | omega) (by first | with_reducible rfl | with_reducible assumption | rfl | omega)
                  have hFK : FI 0 (v284 10).toInt (v284 14).toInt (v284 8).toInt (f285 6) (f 2) (f 3) := FI.push (hFJ (by omega)) pg291 (by omega) (by decide) (by first | with_reducible rfl | with_reducible assumption | rfl | omega) (by first | with_reducible rfl | with_reducible assumption | rfl | omega) (by first | with_reducible rfl | with_reducible assumption | rfl | omega)
                  refine lv_goto (tgt := 2) hx hb dX11_unit_93 (by decide) ?_
                  have rg294 := fb_rng l1_1
                  exact ih1 l1_1 v284 f285 w286 g287 hIv284 hCf285 hRf285 hq0_v284 hq4_v284 hq8_v284 hq9_v284 hq15_v284 hq17_v284 hq18_v284 hq24_v284 hq25_v284 hq35_v284 hq36_v284 hq38_v284 hq39_v284 ((gsY_X11_unit_1_q20 c205 hG207 c241 hG263 hG274 hG283).symm.trans hT204) ⟨show (0 : Int) ≤ l1_1.toInt by omega, show l1_1.toInt ≤ (1 : Int) by omega⟩ (by show IM0 (v284 1).toInt (FI 0 (v284 10).toInt (v284 14).toInt (v284 8).toInt (f285 6) (f285 2) (f285 3)); rw [hs2_f285, hs3_f285]; intro hz9; exact FI.cast hFK (by first | with_reducible rfl | with_reducible assumption | rfl | omega) (by first | with_reducible rfl | with_reducible assumption | rfl | omega) (by first | with_reducible rfl | with_reducible assumption | rfl | omega)) (by show NU (v284 1).toInt (v284 8).toInt (v284 10).toInt (v284 13).toInt (v284 14).toInt; exact NU.ab (by omega)) (by show GR (v 3).toInt (v 5).toInt (v284 3).toInt (v284 5).toInt; exact GR.cast hGR (by first | with_reducible rfl | with_reducible assumption | rfl | omega) (by first | with_reducible rfl | with_reducible assumption | rfl | omega)) (by show (v 13).toInt ≤ (v284 13).toInt; omega) hM_v284 hA_f285 hs2_f285 hs3_f285 (by show (2 * (9 - (v284 14).toInt) + l1_1.toInt).toNat < n1; omega) _ _ _ hP hD hS (lv_sub hl [0, 1] rfl)
          revert jp53
          intro jp53
          refine lv_aload_n hx hb dX11_unit_13 rfl (lv_at hl 1 rfl) ?_
          refine lv_ldc2 (v := 7237492) hx hb hown (hts _ k_1640) dX11_unit_14 ?_
          refine cbVi (n := 1) (rest := []) hx hb hml hown hts hE hP hD hS hA (sY_X11_isWord_1 NF l dC dI cy y0 r 7237492 v1 f1 w1 g1 hIv1 hCf1 hRf1 ) k_1601 k_1603 k_45 k_114 k_1604 (by decide +kernel) ⟨Nat.le_of_ble_eq_true rfl, Nat.le_of_ble_eq_true rfl⟩ 0 11 rfl rfl (rfl) hl.1 rfl (Nat.le_of_ble_eq_true rfl) dX11_unit_17 (fun r295 u H locs hw hP hD hS => ?_)
          obtain ⟨hG296, hw⟩ := hw
          rcases hw with ⟨g297, g297_0⟩ | ⟨g297⟩
          · skip
            subst g297
            refine lv_if_eq (tgt := 53) hx hb dX11_unit_20 (by decide) (fun c0 => absurd c0 (by decide)) (fun _ => ?_)
            refine lv_aload_n hx hb dX11_unit_23 rfl (lv_at hl 1 rfl) ?_
            refine cbVi (n := 0) (rest := []) hx hb hml hown hts hE hP hD hS hA (sY_X11_mayNot_1 NF l dC dI cy y0 r  v1 f1 w1 g1 hIv1 hCf1 hRf1 ) k_1673 k_1675 k_58 k_114 k_1676 (by decide +kernel) ⟨Nat.le_of_ble_eq_true rfl, Nat.le_of_ble_eq_true rfl⟩ 0 11 rfl rfl (rfl) hl.1 rfl (Nat.le_of_ble_eq_true rfl) dX11_unit_24 (fun r298 u H locs hw hP hD hS => ?_)
            obtain ⟨hG299, hw⟩ := hw
            rcases hw with ⟨g300⟩ | ⟨g300⟩
            · skip
              subst g300
              refine lv_if_eq (tgt := 53) hx hb dX11_unit_27 (by decide) (fun c0 => absurd c0 (by decide)) (fun _ => ?_)
              refine lv_aload_n hx hb dX11_unit_30 rfl (lv_at hl 1 rfl) ?_
              refine va_get (D := (dC, dI)) (ci := 11) (v := .int (v1 14)) (C := RX11) (T := TX11) (N := 79) hx hb hts inB_11 hown hE.1 hP 0 rfl rfl 23 (by decide) (hts _ k_1343) (fun _ h9 => h9) rfl dX11_unit_31 ?_
              refine lv_bipush (v := 6) hx hb dX11_unit_34 (by decide) ?_
              refine lv_icmp_le (tgt := 44) hx hb dX11_unit_36 (by decide) (fun c301 => ?_) (fun c301 => ?_)
              · skip
                have zc301 : (v1 14).toInt ≤ 6 := by rw [fa_le, show (6 : Int32).toInt = 6 from by decide] at c301; exact c301
                refine lv_aload_n hx hb dX11_unit_44 rfl (lv_at hl 1 rfl) ?_
                refine lv_bipush (v := 21) hx hb dX11_unit_45 (by decide) ?_
                refine cbVv (n := 1) (rest := []) hx hb hml hown hts hE hP hD hS hA (sY_X11_openUp_1 NF l dC dI cy y0 r 21 v1 f1 w1 g1 hIv1 hCf1 hRf1 (by have q1 : (21 : Int32).toInt = 21 := (by decide); show (v1 10).toInt ≤ 159; omega) (by have q1 : (21 : Int32).toInt = 21 := (by decide); show (v1 14).toInt ≤ 7; omega)) k_1680 k_1682 k_59 k_114 k_1683 (by decide +kernel) ⟨Nat.le_of_ble_eq_true rfl, Nat.le_of_ble_eq_true rfl⟩ 0 11 rfl rfl (rfl) hl.1 rfl (Nat.le_of_ble_eq_true rfl) dX11_unit_47 (fun u H locs hw hP hD hS => ?_)
                obtain ⟨hG302, hw⟩ := hw
                obtain ⟨v303, f304, w305, g306⟩ := u
                obtain ⟨kV_v303, kF_f304, hIv303, hCf304, hRf304, hk0_v303, hk1_v303, hk2_v303, hk4_v303, hk8_v303, hk9_v303, hk13_v303, hk15_v303, hk17_v303, hk18_v303, hk24_v303, hk25_v303, hk35_v303, hk36_v303, hk38_v303, hk39_v303, pv307, pv308, pg309, pg310, kq311, kq312⟩ := hw
                have hM_v303 : KV [1, 2, 3, 5, 6, 7, 8, 10, 11, 13, 14] v303 v := KV.tr kV_v303 hM_v1 rfl
                have hA_f304 : KF [2, 3, 6] f304 f := KF.tr kF_f304 hA_f1 rfl
                have hP : va_P (dC, dI) vwCl (YW cy y0 r v303 f304 w305 g306) H := hP
                have hD : va_D A (YW cy y0 r v303 f304 w305 g306) := hD
                have b10_v303 : 0 ≤ (v303 10).toInt ∧ (v303 10).toInt ≤ 160 := YIb.b hIv303.1 10 (by decide)
                have b14_v303 : 0 ≤ (v303 14).toInt ∧ (v303 14).toInt ≤ 8 := YIb.b hIv303.1 14 (by decide)
                have b3_v303 : 0 ≤ (v303 3).toInt ∧ (v303 3).toInt ≤ 1600 := YIb.b hIv303.1 3 (by decide)
                have pv307 : (v303 10).toInt = (v1 10).toInt + 1 := pv307
                have pv308 : (v303 14).toInt = (v1 14).toInt + 1 := pv308
                have pg309 : GR (v1 3).toInt (v1 5).toInt (v303 3).toInt (v303 5).toInt := pg309
                have pg310 : (f304 6) = upd (f1 6) ((v1 10).toInt).toNat 21 := pg310
                have hs2_f304 : f304 2 = (f 2) := kq311.trans hs2_f1
                have hs3_f304 : f304 3 = (f 3) := kq312.trans hs3_f1
                have hUv303 : (v303 35).toInt + (v303 36).toInt ≤ 40 := hIv303.2
                have hq0_v303 : v303 0 = (v 0) := hk0_v303.trans hq0_v1
                have hq1_v303 : v303 1 = (v1 1) := hk1_v303
                have zq1_v303 := congrArg Int32.toInt hq1_v303
                have hq4_v303 : v303 4 = (v 4) := hk4_v303.trans hq4_v1
                have hq8_v303 : v303 8 = (v 8) := hk8_v303.trans hq8_v1
                have zq8_v303 := congrArg Int32.toInt hq8_v303
                have hq9_v303 : v303 9 = (v 9) := hk9_v303.trans hq9_v1
                have hq13_v303 : v303 13 = (v1 13) := hk13_v303
                have zq13_v303 := congrArg Int32.toInt hq13_v303
                have hq15_v303 : v303 15 = (v 15) := hk15_v303.trans hq15_v1
                have hq17_v303 : v303 17 = (v 17) := hk17_v303.trans hq17_v1
                have hq18_v303 : v303 18 = (v 18) := hk18_v303.trans hq18_v1
                have hq24_v303 : v303 24 = (v 24) := hk24_v303.trans hq24_v1
                have hq25_v303 : v303 25 = (v 25) := hk25_v303.trans hq25_v1
                have hq35_v303 : v303 35 = (v 35) := hk35_v303.trans hq35_v1
                have hq36_v303 : v303 36 = (v 36) := hk36_v303.trans hq36_v1
                have hq38_v303 : v303 38 = (v 38) := hk38_v303.trans hq38_v1
                have hq39_v303 : v303 39 = (v 39) := hk39_v303.trans hq39_v1
                have hGR : GR (v 3).toInt (v 5).toInt (v303 3).toInt (v303 5).toInt := GR.tr hGR (show GR (v1 3).toInt (v1 5).toInt (v303 3).toInt (v303 5).toInt from pg309) (by first | with_reducible rfl | with_reducible assumption | rfl | omega) (by first | with_reducible rfl | with_reducible assumption | rfl | omega)
                have hFK : FI 0 (v303 10).toInt (v303 14).toInt (v303 8).toInt (f304 6) (f 2) (f 3) := FI.push (hFJ (by omega)) pg310 (by omega) (by decide) (by first | with_reducible rfl | with_reducible assumption | rfl | omega) (by first | with_reducible rfl | with_reducible assumption | rfl | omega) (by first | with_reducible rfl | with_reducible assumption | rfl | omega)
                refine lv_goto (tgt := 2) hx hb dX11_unit_50 (by decide) ?_
                have rg313 := fb_rng l1_1
                exact ih1 l1_1 v303 f304 w305 g306 hIv303 hCf304 hRf304 hq0_v303 hq4_v303 hq8_v303 hq9_v303 hq15_v303 hq17_v303 hq18_v303 hq24_v303 hq25_v303 hq35_v303 hq36_v303 hq38_v303 hq39_v303 ((gsY_X11_unit_1_q21 c202 c203 hG296 hG299 c301 hG302).symm.trans hT1) ⟨show (0 : Int) ≤ l1_1.toInt by omega, show l1_1.toInt ≤ (1 : Int) by omega⟩ (by show IM0 (v303 1).toInt (FI 0 (v303 10).toInt (v303 14).toInt (v303 8).toInt (f304 6) (f304 2) (f304 3)); rw [hs2_f304, hs3_f304]; intro hz9; exact FI.cast hFK (by first | with_reducible rfl | with_reducible assumption | rfl | omega) (by first | with_reducible rfl | with_reducible assumption | rfl | omega) (by first | with_reducible rfl | with_reducible assumption | rfl | omega)) (by show NU (v303 1).toInt (v303 8).toInt (v303 10).toInt (v303 13).toInt (v303 14).toInt; exact NU.mk (by omega) (by omega) (by omega) (by omega)) (by show GR (v 3).toInt (v 5).toInt (v303 3).toInt (v303 5).toInt; exact GR.cast hGR (by first | with_reducible rfl | with_reducible assumption | rfl | omega) (by first | with_reducible rfl | with_reducible assumption | rfl | omega)) (by show (v 13).toInt ≤ (v303 13).toInt; omega) hM_v303 hA_f304 hs2_f304 hs3_f304 (by show (2 * (9 - (v303 14).toInt) + l1_1.toInt).toNat < n1; omega) _ _ _ hP hD hS (lv_sub hl [0, 1] rfl)
              · skip
                have zc301 : ¬ ((v1 14).toInt ≤ 6) := by rw [fa_le, show (6 : Int32).toInt = 6 from by decide] at c301; exact c301
                refine lv_aload_n hx hb dX11_unit_39 rfl (lv_at hl 1 rfl) ?_
                refine lv_iconst (v := 2) hx hb dX11_unit_40 (by decide) ?_
                refine cbVv (n := 1) (rest := []) hx hb hml hown hts hE hP hD hS hA (sY_X11_wrong_1 NF l dC dI cy y0 r 2 v1 f1 w1 g1 hIv1 hCf1 hRf1 ⟨by decide, by decide⟩) k_1641 k_1643 k_50 k_114 k_1644 (by decide +kernel) ⟨Nat.le_of_ble_eq_true rfl, Nat.le_of_ble_eq_true rfl⟩ 0 11 rfl rfl (rfl) hl.1 rfl (Nat.le_of_ble_eq_true rfl) dX11_unit_41 (fun u H locs hw hP hD hS => ?_)
                obtain ⟨hG314, hw⟩ := hw
                obtain ⟨v315, f316, w317, g318⟩ := u
                obtain ⟨kV_v315, kF_f316, hIv315, hCf316, hRf316, hk0_v315, hk3_v315, hk4_v315, hk5_v315, hk8_v315, hk9_v315, hk10_v315, hk13_v315, hk14_v315, hk15_v315, hk17_v315, hk18_v315, hk24_v315, hk25_v315, hk35_v315, hk36_v315, hk38_v315, hk39_v315, pv319, pv320, pv321, kq322, kq323, kq324⟩ := hw
                have hM_v315 : KV [1, 2, 3, 5, 6, 7, 8, 10, 11, 13, 14] v315 v := KV.tr kV_v315 hM_v1 rfl
                have hA_f316 : KF [2, 3, 6] f316 f := KF.tr kF_f316 hA_f1 rfl
                have hP : va_P (dC, dI) vwCl (YW cy y0 r v315 f316 w317 g318) H := hP
                have hD : va_D A (YW cy y0 r v315 f316 w317 g318) := hD
                have b3_v315 : 0 ≤ (v315 3).toInt ∧ (v315 3).toInt ≤ 1600 := YIb.b hIv315.1 3 (by decide)
                have b1_v315 : 0 ≤ (v315 1).toInt ∧ (v315 1).toInt ≤ 4 := YIb.b hIv315.1 1 (by decide)
                have pv319 : (v1 3).toInt ≤ (v315 3).toInt := pv319
                have pv320 : (v315 5).toInt = (v1 5).toInt ∨ (v1 3).toInt < (v315 3).toInt ∨ ¬ (v315 5).toInt = 59 := pv320
                have pv321 : 0 < (v315 1).toInt := pv321
                have hs2_f316 : f316 2 = (f 2) := kq322.trans hs2_f1
                have hs3_f316 : f316 3 = (f 3) := kq323.trans hs3_f1
                have hs6_f316 : f316 6 = (f1 6) := kq324
                have hUv315 : (v315 35).toInt + (v315 36).toInt ≤ 40 := hIv315.2
                have hq0_v315 : v315 0 = (v 0) := hk0_v315.trans hq0_v1
                have hq3_v315 : v315 3 = (v1 3) := hk3_v315
                have zq3_v315 := congrArg Int32.toInt hq3_v315
                have hq4_v315 : v315 4 = (v 4) := hk4_v315.trans hq4_v1
                have hq5_v315 : v315 5 = (v1 5) := hk5_v315
                have zq5_v315 := congrArg Int32.toInt hq5_v315
                have hq8_v315 : v315 8 = (v 8) := hk8_v315.trans hq8_v1
                have zq8_v315 := congrArg Int32.toInt hq8_v315
                have hq9_v315 : v315 9 = (v 9) := hk9_v315.trans hq9_v1
                have hq10_v315 : v315 10 = (v1 10) := hk10_v315
                have zq10_v315 := congrArg Int32.toInt hq10_v315
                have hq13_v315 : v315 13 = (v1 13) := hk13_v315
                have zq13_v315 := congrArg Int32.toInt hq13_v315
                have hq14_v315 : v315 14 = (v1 14) := hk14_v315
                have zq14_v315 := congrArg Int32.toInt hq14_v315
                have hq15_v315 : v315 15 = (v 15) := hk15_v315.trans hq15_v1
                have hq17_v315 : v315 17 = (v 17) := hk17_v315.trans hq17_v1
                have hq18_v315 : v315 18 = (v 18) := hk18_v315.trans hq18_v1
                have hq24_v315 : v315 24 = (v 24) := hk24_v315.trans hq24_v1
                have hq25_v315 : v315 25 = (v 25) := hk25_v315.trans hq25_v1
                have hq35_v315 : v315 35 = (v 35) := hk35_v315.trans hq35_v1
                have hq36_v315 : v315 36 = (v 36) := hk36_v315.trans hq36_v1
                have hq38_v315 : v315 38 = (v 38) := hk38_v315.trans hq38_v1
                have hq39_v315 : v315 39 = (v 39) := hk39_v315.trans hq39_v1
                have hGR : GR (v 3).toInt (v 5).toInt (v315 3).toInt (v315 5).toInt := GR.tr hGR (show GR (v1 3).toInt (v1 5).toInt (v315 3).toInt (v315 5).toInt from ⟨pv319, pv320⟩) (by first | with_reducible rfl | with_reducible assumption | rfl | omega) (by first | with_reducible rfl | with_reducible assumption | rfl | omega)
                clear pv320
                refine lv_aload_n hx hb dX11_unit_44 rfl (lv_at hl 1 rfl) ?_
                refine lv_bipush (v := 21) hx hb dX11_unit_45 (by decide) ?_
                refine cbVv (n := 1) (rest := []) hx hb hml hown hts hE hP hD hS hA (sY_X11_openUp_1 NF l dC dI cy y0 r 21 v315 f316 w317 g318 hIv315 hCf316 hRf316 (by have q1 : (21 : Int32).toInt = 21 := (by decide); show (v315 10).toInt ≤ 159; omega) (by have q1 : (21 : Int32).toInt = 21 := (by decide); show (v315 14).toInt ≤ 7; omega)) k_1680 k_1682 k_59 k_114 k_1683 (by decide +kernel) ⟨Nat.le_of_ble_eq_true rfl, Nat.le_of_ble_eq_true rfl⟩ 0 11 rfl rfl (rfl) hl.1 rfl (Nat.le_of_ble_eq_true rfl) dX11_unit_47 (fun u H locs hw hP hD hS => ?_)
                obtain ⟨hG325, hw⟩ := hw
                obtain ⟨v326, f327, w328, g329⟩ := u
                obtain ⟨kV_v326, kF_f327, hIv326, hCf327, hRf327, hk0_v326, hk1_v326, hk2_v326, hk4_v326, hk8_v326, hk9_v326, hk13_v326, hk15_v326, hk17_v326, hk18_v326, hk24_v326, hk25_v326, hk35_v326, hk36_v326, hk38_v326, hk39_v326, pv330, pv331, pg332, pg333, kq334, kq335⟩ := hw
                have hM_v326 : KV [1, 2, 3, 5, 6, 7, 8, 10, 11, 13, 14] v326 v := KV.tr kV_v326 hM_v315 rfl
                have hA_f327 : KF [2, 3, 6] f327 f := KF.tr kF_f327 hA_f316 rfl
                have hP : va_P (dC, dI) vwCl (YW cy y0 r v326 f327 w328 g329) H := hP
                have hD : va_D A (YW cy y0 r v326 f327 w328 g329) := hD
                have b10_v326 : 0 ≤ (v326 10).toInt ∧ (v326 10).toInt ≤ 160 := YIb.b hIv326.1 10 (by decide)
                have b14_v326 : 0 ≤ (v326 14).toInt ∧ (v326 14).toInt ≤ 8 := YIb.b hIv326.1 14 (by decide)
                have b3_v326 : 0 ≤ (v326 3).toInt ∧ (v326 3).toInt ≤ 1600 := YIb.b hIv326.1 3 (by decide)
                have pv330 : (v326 10).toInt = (v315 10).toInt + 1 := pv330
                have pv331 : (v326 14).toInt = (v315 14).toInt + 1 := pv331
                have pg332 : GR (v315 3).toInt (v315 5).toInt (v326 3).toInt (v326 5).toInt := pg332
                have pg333 : (f327 6) = upd (f316 6) ((v315 10).toInt).toNat 21 := pg333
                rw [hs6_f316] at pg333
                have hs2_f327 : f327 2 = (f 2) := kq334.trans hs2_f316
                have hs3_f327 : f327 3 = (f 3) := kq335.trans hs3_f316
                have hUv326 : (v326 35).toInt + (v326 36).toInt ≤ 40 := hIv326.2
                have hq0_v326 : v326 0 = (v 0) := hk0_v326.trans hq0_v315
                have hq1_v326 : v326 1 = (v315 1) := hk1_v326
                have zq1_v326 := congrArg Int32.toInt hq1_v326
                have hq4_v326 : v326 4 = (v 4) := hk4_v326.trans hq4_v315
                have hq8_v326 : v326 8 = (v 8) := hk8_v326.trans hq8_v315
                have zq8_v326 := congrArg Int32.toInt hq8_v326
                have hq9_v326 : v326 9 = (v 9) := hk9_v326.trans hq9_v315
                have hq13_v326 : v326 13 = (v1 13) := hk13_v326.trans hq13_v315
                have zq13_v326 := congrArg Int32.toInt hq13_v326
                have hq15_v326 : v326 15 = (v 15) := hk15_v326.trans hq15_v315
                have hq17_v326 : v326 17 = (v 17) := hk17_v326.trans hq17_v315
                have hq18_v326 : v326 18 = (v 18) := hk18_v326.trans hq18_v315
                have hq24_v326 : v326 24 = (v 24) := hk24_v326.trans hq24_v315
                have hq25_v326 : v326 25 = (v 25) := hk25_v326.trans hq25_v315
                have hq35_v326 : v326 35 = (v 35) := hk35_v326.trans hq35_v315
                have hq36_v326 : v326 36 = (v 36) := hk36_v326.trans hq36_v315
                have hq38_v326 : v326 38 = (v 38) := hk38_v326.trans hq38_v315
                have hq39_v326 : v326 39 = (v 39) := hk39_v326.trans hq39_v315
                have hGR : GR (v 3).toInt (v 5).toInt (v326 3).toInt (v326 5).toInt := GR.tr hGR (show GR (v315 3).toInt (v315 5).toInt (v326 3).toInt (v326 5).toInt from pg332) (by first | with_reducible rfl | with_reducible assumption | rfl | omega) (by first | with_reducible rfl | with_reducible assumption | rfl | omega)
                have hFK : FI 0 (v326 10).toInt (v326 14).toInt (v326 8).toInt (f327 6) (f 2) (f 3) := FI.push (hFJ (by omega)) pg333 (by omega) (by decide) (by first | with_reducible rfl | with_reducible assumption | rfl | omega) (by first | with_reducible rfl | with_reducible assumption | rfl | omega) (by first | with_reducible rfl | with_reducible assumption | rfl | omega)
                refine lv_goto (tgt := 2) hx hb dX11_unit_50 (by decide) ?_
                have rg336 := fb_rng l1_1
                exact ih1 l1_1 v326 f327 w328 g329 hIv326 hCf327 hRf327 hq0_v326 hq4_v326 hq8_v326 hq9_v326 hq15_v326 hq17_v326 hq18_v326 hq24_v326 hq25_v326 hq35_v326 hq36_v326 hq38_v326 hq39_v326 ((gsY_X11_unit_1_q22 c202 c203 hG296 hG299 c301 hG314 hG325).symm.trans hT1) ⟨show (0 : Int) ≤ l1_1.toInt by omega, show l1_1.toInt ≤ (1 : Int) by omega⟩ (by show IM0 (v326 1).toInt (FI 0 (v326 10).toInt (v326 14).toInt (v326 8).toInt (f327 6) (f327 2) (f327 3)); rw [hs2_f327, hs3_f327]; intro hz9; exact FI.cast hFK (by first | with_reducible rfl | with_reducible assumption | rfl | omega) (by first | with_reducible rfl | with_reducible assumption | rfl | omega) (by first | with_reducible rfl | with_reducible assumption | rfl | omega)) (by show NU (v326 1).toInt (v326 8).toInt (v326 10).toInt (v326 13).toInt (v326 14).toInt; exact NU.ab (by omega)) (by show GR (v 3).toInt (v 5).toInt (v326 3).toInt (v326 5).toInt; exact GR.cast hGR (by first | with_reducible rfl | with_reducible assumption | rfl | omega) (by first | with_reducible rfl | with_reducible assumption | rfl | omega)) (by show (v 13).toInt ≤ (v326 13).toInt; omega) hM_v326 hA_f327 hs2_f327 hs3_f327 (by show (2 * (9 - (v326 14).toInt) + l1_1.toInt).toNat < n1; omega) _ _ _ hP hD hS (lv_sub hl [0, 1] rfl)
            · skip
              subst g300
              refine lv_if_eq (tgt := 53) hx hb dX11_unit_27 (by decide) (fun _ => ?_) (fun c0 => absurd (by decide) c0)
              exact jp53 _ _ _ ((gsY_X11_unit_1_q23 c202 c203 hG296 hG299).symm.trans hT1) hP hD hS hl
          · skip
            subst g297
            refine lv_if_eq (tgt := 53) hx hb dX11_unit_20 (by decide) (fun _ => ?_) (fun c0 => absurd (by decide) c0)
            exact jp53 _ _ _ ((gsY_X11_unit_1_q24 c202 c203 hG296).symm.trans hT1) hP hD hS hl
  exact lp1 (4294967296 + NF) 1 v f w g hIv hCf hRf rfl rfl rfl rfl rfl rfl rfl rfl rfl rfl rfl rfl rfl gsY_X11_unit_1_q25.symm ⟨by decide, by decide⟩ (by show IM0 (v 1).toInt (FI 0 (v 10).toInt (v 14).toInt (v 8).toInt (f 6) (f 2) (f 3)); exact fun _ => hFI) (by show NU (v 1).toInt (v 8).toInt (v 10).toInt (v 13).toInt (v 14).toInt; exact NU.mk (by omega) (by omega) (by omega) (by omega)) (by show GR (v 3).toInt (v 5).toInt (v 3).toInt (v 5).toInt; exact GR.cast hGR (by first | with_reducible rfl | with_reducible assumption | rfl | omega) (by first | with_reducible rfl | with_reducible assumption | rfl | omega)) (by show (v 13).toInt ≤ (v 13).toInt; omega) hM_v hA_f rfl rfl (by have q1 : (1 : Int32).toInt = 1 := (by decide); have qr0 := fb_rng (v 14); show (2 * (9 - (v 14).toInt) + (1 : Int32).toInt).toNat < 4294967296 + NF; omega) _ _ _ hP hD hS (lv_sub hl [0, 1] rfl)
