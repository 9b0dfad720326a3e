set_option maxHeartbeats 4000000 in
set_option maxRecDepth 100000 in
theorem sY_X11_formula_1 (l : Launch) (dC : Nat → ClassId) (dI : Nat → Nat → Nat) (cy : Nat → ClassId) (y0 : Nat) (r : Nat → Nat)  (v : Nat → Int32) (f : Nat → Nat → Int32) (w : Int64) (g : Nat → Int64) (hIv : YI v) (hCf : YC f) (hRf : progOK (f 4) (f 5) (v 9).toInt.toNat)  : ctV l (dC, dI) cy yX11_formula cX11_formula 3 5 146 0 0 ((Nat → Int32) × (Nat → Nat → Int32) × (Int64) × (Nat → Int64)) [.ref y0] (YW cy y0 r v f w g) (fun u => YI u.1 ∧ YC u.2.1 ∧ progOK (u.2.1 4) (u.2.1 5) (u.1 9).toInt.toNat ∧ u.1 0 = v 0 ∧ u.1 4 = v 4 ∧ u.1 9 = v 9 ∧ u.1 17 = v 17 ∧ u.1 18 = v 18 ∧ u.1 24 = v 24 ∧ u.1 25 = v 25 ∧ u.1 35 = v 35 ∧ u.1 36 = v 36 ∧ u.1 38 = v 38 ∧ u.1 39 = v 39 ∧ (GR (v 3).toInt (v 5).toInt (u.1 3).toInt (u.1 5).toInt) ∧ ((u.1 1).toInt = 0 → progOK (u.2.1 2) (u.2.1 3) ((u.1 8).toInt).toNat)) (fun u => YW cy y0 r u.1 u.2.1 u.2.2.1 u.2.2.2) := by
  refine ctV_of (by decide) (Nat.le_of_ble_eq_true rfl) (fun p e s m below meth c A ls Q hx hb hml hts hown hnm hE hP hD hA hl ret => ?_)
  have hUv : (v 35).toInt + (v 36).toInt ≤ 40 := hIv.2
  have b1_v : (0 : Int) ≤ (v 1).toInt ∧ (v 1).toInt ≤ 4 := YIb.b hIv.1 1 (by decide)
  have b3_v : (0 : Int) ≤ (v 3).toInt ∧ (v 3).toInt ≤ 1600 := YIb.b hIv.1 3 (by decide)
  have b8_v : (0 : Int) ≤ (v 8).toInt ∧ (v 8).toInt ≤ 320 := YIb.b hIv.1 8 (by decide)
  have b10_v : (0 : Int) ≤ (v 10).toInt ∧ (v 10).toInt ≤ 160 := YIb.b hIv.1 10 (by decide)
  have b13_v : (0 : Int) ≤ (v 13).toInt ∧ (v 13).toInt ≤ 31 := YIb.b hIv.1 13 (by decide)
  have b14_v : (0 : Int) ≤ (v 14).toInt ∧ (v 14).toInt ≤ 8 := YIb.b hIv.1 14 (by decide)
  have hGR : GR (v 3).toInt (v 5).toInt (v 3).toInt (v 5).toInt := GR.refl _ _
  have hown : s.vm.findClass RX11 = some m.cls := hown
  have hS : va_S A s.heap s.heap [] := va_S.rf
  have hl : lv_has ls 3 [(0, .ref y0)] := hl
  refine lv_aload_n hx hb dX11_formula_0 rfl (lv_at hl 0 rfl) ?_
  refine cbVv (n := 0) (rest := []) hx hb hml hown hts hE hP hD hS hA (sY_X11_token_1 l dC dI cy y0 r  v f w g hIv hCf hRf ) k_1579 k_1581 k_42 k_114 k_1582 (by decide +kernel) ⟨Nat.le_of_ble_eq_true rfl, Nat.le_of_ble_eq_true rfl⟩ 0 11 rfl rfl (rfl) hl.1 rfl (Nat.le_of_ble_eq_true rfl) dX11_formula_1 (fun u H locs hw hP hD hS => ?_)
  obtain ⟨v1, f2, w3, g4⟩ := u
  obtain ⟨hIv1, hCf2, hRf2, hk0_v1, hk1_v1, hk4_v1, hk8_v1, hk9_v1, hk10_v1, hk13_v1, hk14_v1, hk15_v1, hk17_v1, hk18_v1, hk24_v1, hk25_v1, hk35_v1, hk36_v1, hk38_v1, hk39_v1, pv5, pv6, kq7, kq8, kq9⟩ := hw
  have hP : va_P (dC, dI) vwCl (YW cy y0 r v1 f2 w3 g4) H := hP
  have hD : va_D A (YW cy y0 r v1 f2 w3 g4) := hD
  have b3_v1 : 0 ≤ (v1 3).toInt ∧ (v1 3).toInt ≤ 1600 := YIb.b hIv1.1 3 (by decide)
  have pv5 : (v 3).toInt ≤ (v1 3).toInt := pv5
  have pv6 : (v1 5).toInt = (v 5).toInt ∨ (v 3).toInt < (v1 3).toInt ∨ ¬ (v1 5).toInt = 59 := pv6
  have hs2_f2 : f2 2 = (f 2) := kq7
  have hs3_f2 : f2 3 = (f 3) := kq8
  have hs6_f2 : f2 6 = (f 6) := kq9
  have hUv1 : (v1 35).toInt + (v1 36).toInt ≤ 40 := hIv1.2
  have hq0_v1 : v1 0 = (v 0) := hk0_v1
  have hq1_v1 : v1 1 = (v 1) := hk1_v1
  have zq1_v1 := congrArg Int32.toInt hq1_v1
  have hq4_v1 : v1 4 = (v 4) := hk4_v1
  have hq8_v1 : v1 8 = (v 8) := hk8_v1
  have zq8_v1 := congrArg Int32.toInt hq8_v1
  have hq9_v1 : v1 9 = (v 9) := hk9_v1
  have hq10_v1 : v1 10 = (v 10) := hk10_v1
  have zq10_v1 := congrArg Int32.toInt hq10_v1
  have hq13_v1 : v1 13 = (v 13) := hk13_v1
  have zq13_v1 := congrArg Int32.toInt hq13_v1
  have hq14_v1 : v1 14 = (v 14) := hk14_v1
  have zq14_v1 := congrArg Int32.toInt hq14_v1
  have hq15_v1 : v1 15 = (v 15) := hk15_v1
  have hq17_v1 : v1 17 = (v 17) := hk17_v1
  have hq18_v1 : v1 18 = (v 18) := hk18_v1
  have hq24_v1 : v1 24 = (v 24) := hk24_v1
  have hq25_v1 : v1 25 = (v 25) := hk25_v1
  have hq35_v1 : v1 35 = (v 35) := hk35_v1
  have hq36_v1 : v1 36 = (v 36) := hk36_v1
  have hq38_v1 : v1 38 = (v 38) := hk38_v1
  have hq39_v1 : v1 39 = (v 39) := hk39_v1
  have hGR : GR (v 3).toInt (v 5).toInt (v1 3).toInt (v1 5).toInt := GR.tr hGR (show GR (v 3).toInt (v 5).toInt (v1 3).toInt (v1 5).toInt from ⟨pv5, pv6⟩) (by first | rfl | assumption | omega) (by first | rfl | assumption | omega)
  clear pv6
  refine lv_aload_n hx hb dX11_formula_4 rfl (lv_at hl 0 rfl) ?_
  refine lv_iconst (v := 1) hx hb dX11_formula_5 (by decide) ?_
  refine va_put (D := (dC, dI)) (ci := 11) (v := .int 1) (ty := tyX11 24) (C := RX11) (T := TX11) (N := 79) hx hb hts inB_11 tyX11 tyX11_ok nmX11 hown hE.1 hP hD hS 0 rfl rfl 24 (by decide) (hts _ k_1344) (fun _ h9 => h9) rfl (tyX11_ok 24 (by decide)) rfl rfl (Nat.le_of_ble_eq_true rfl) dX11_formula_6 (fun H locs hP hD hS => ?_)
  have hP : va_P (dC, dI) vwCl (YW cy y0 r (upd v1 15 1) f2 w3 g4) H := hP
  have hD : va_D A (YW cy y0 r (upd v1 15 1) f2 w3 g4) := hD
  refine lv_aload_n hx hb dX11_formula_9 rfl (lv_at hl 0 rfl) ?_
  refine lv_iconst (v := 0) hx hb dX11_formula_10 (by decide) ?_
  refine va_put (D := (dC, dI)) (ci := 11) (v := .int 0) (ty := tyX11 17) (C := RX11) (T := TX11) (N := 79) hx hb hts inB_11 tyX11 tyX11_ok nmX11 hown hE.1 hP hD hS 0 rfl rfl 17 (by decide) (hts _ k_1337) (fun _ h9 => h9) rfl (tyX11_ok 17 (by decide)) rfl rfl (Nat.le_of_ble_eq_true rfl) dX11_formula_11 (fun H locs hP hD hS => ?_)
  have hP : va_P (dC, dI) vwCl (YW cy y0 r (upd (upd v1 15 1) 8 0) f2 w3 g4) H := hP
  have hD : va_D A (YW cy y0 r (upd (upd v1 15 1) 8 0) f2 w3 g4) := hD
  refine lv_aload_n hx hb dX11_formula_14 rfl (lv_at hl 0 rfl) ?_
  refine lv_iconst (v := 0) hx hb dX11_formula_15 (by decide) ?_
  refine va_put (D := (dC, dI)) (ci := 11) (v := .int 0) (ty := tyX11 19) (C := RX11) (T := TX11) (N := 79) hx hb hts inB_11 tyX11 tyX11_ok nmX11 hown hE.1 hP hD hS 0 rfl rfl 19 (by decide) (hts _ k_1339) (fun _ h9 => h9) rfl (tyX11_ok 19 (by decide)) rfl rfl (Nat.le_of_ble_eq_true rfl) dX11_formula_16 (fun H locs hP hD hS => ?_)
  have hP : va_P (dC, dI) vwCl (YW cy y0 r (upd (upd (upd v1 15 1) 8 0) 10 0) f2 w3 g4) H := hP
  have hD : va_D A (YW cy y0 r (upd (upd (upd v1 15 1) 8 0) 10 0) f2 w3 g4) := hD
  refine lv_aload_n hx hb dX11_formula_19 rfl (lv_at hl 0 rfl) ?_
  refine lv_iconst (v := 0) hx hb dX11_formula_20 (by decide) ?_
  refine va_put (D := (dC, dI)) (ci := 11) (v := .int 0) (ty := tyX11 23) (C := RX11) (T := TX11) (N := 79) hx hb hts inB_11 tyX11 tyX11_ok nmX11 hown hE.1 hP hD hS 0 rfl rfl 23 (by decide) (hts _ k_1343) (fun _ h9 => h9) rfl (tyX11_ok 23 (by decide)) rfl rfl (Nat.le_of_ble_eq_true rfl) dX11_formula_21 (fun H locs hP hD hS => ?_)
  have hP : va_P (dC, dI) vwCl (YW cy y0 r (upd (upd (upd (upd v1 15 1) 8 0) 10 0) 14 0) f2 w3 g4) H := hP
  have hD : va_D A (YW cy y0 r (upd (upd (upd (upd v1 15 1) 8 0) 10 0) 14 0) f2 w3 g4) := hD
  refine lv_aload_n hx hb dX11_formula_24 rfl (lv_at hl 0 rfl) ?_
  refine lv_iconst (v := 0) hx hb dX11_formula_25 (by decide) ?_
  refine va_put (D := (dC, dI)) (ci := 11) (v := .int 0) (ty := tyX11 22) (C := RX11) (T := TX11) (N := 79) hx hb hts inB_11 tyX11 tyX11_ok nmX11 hown hE.1 hP hD hS 0 rfl rfl 22 (by decide) (hts _ k_1342) (fun _ h9 => h9) rfl (tyX11_ok 22 (by decide)) rfl rfl (Nat.le_of_ble_eq_true rfl) dX11_formula_26 (fun H locs hP hD hS => ?_)
  have hP : va_P (dC, dI) vwCl (YW cy y0 r (upd (upd (upd (upd (upd v1 15 1) 8 0) 10 0) 14 0) 13 0) f2 w3 g4) H := hP
  have hD : va_D A (YW cy y0 r (upd (upd (upd (upd (upd v1 15 1) 8 0) 10 0) 14 0) 13 0) f2 w3 g4) := hD
  refine lv_aload_n hx hb dX11_formula_29 rfl (lv_at hl 0 rfl) ?_
  refine cbVv (n := 0) (rest := []) hx hb hml hown hts hE hP hD hS hA (sY_X11_unit_1 l dC dI cy y0 r  (upd (upd (upd (upd (upd v1 15 1) 8 0) 10 0) 14 0) 13 0) f2 w3 g4 ⟨(YIb.upd (j := 13) (x := 0) (YIb.upd (j := 14) (x := 0) (YIb.upd (j := 10) (x := 0) (YIb.upd (j := 8) (x := 0) (YIb.upd (j := 15) (x := 1) hIv1.1 (by decide) (by decide)) (by decide) (by decide)) (by decide) (by decide)) (by decide) (by decide)) (by decide) (by decide)), hIv1.2⟩ hCf2 hRf2 (by have qc0 : (0 : Int32).toInt = 0 := (by decide); have qc1 : (1 : Int32).toInt = 1 := (by decide); show (0 : Int32).toInt + (0 : Int32).toInt ≤ 10 * (0 : Int32).toInt + 1; omega) (by have qc0 : (0 : Int32).toInt = 0 := (by decide); have qc1 : (1 : Int32).toInt = 1 := (by decide); show (0 : Int32).toInt ≤ (0 : Int32).toInt + (0 : Int32).toInt + 1; omega) (by have qc0 : (0 : Int32).toInt = 0 := (by decide); have qc1 : (1 : Int32).toInt = 1 := (by decide); show (0 : Int32).toInt ≤ 30; omega) (by have qc0 : (0 : Int32).toInt = 0 := (by decide); have qc1 : (1 : Int32).toInt = 1 := (by decide); show (0 : Int32).toInt ≤ 7; omega) (by have q0 : (0 : Int32).toInt = 0 := (by decide); have q1 : (1 : Int32).toInt = 1 := (by decide); show FI 0 (0 : Int32).toInt (0 : Int32).toInt (0 : Int32).toInt (f2 6) (f2 2) (f2 3); rw [hs6_f2, hs2_f2, hs3_f2]; exact FI.zero (by decide) (by decide) (by decide))) k_1669 k_1671 k_57 k_114 k_1672 (by decide +kernel) ⟨Nat.le_of_ble_eq_true rfl, Nat.le_of_ble_eq_true rfl⟩ 0 11 rfl rfl (rfl) hl.1 rfl (Nat.le_of_ble_eq_true rfl) dX11_formula_30 (fun u H locs hw hP hD hS => ?_)
  obtain ⟨v10, f11, w12, g13⟩ := u
  obtain ⟨hIv10, hCf11, hRf11, hk0_v10, hk4_v10, hk9_v10, hk15_v10, hk17_v10, hk18_v10, hk24_v10, hk25_v10, hk35_v10, hk36_v10, hk38_v10, hk39_v10, pg14, pg15, pg16, pg17⟩ := hw
  have hP : va_P (dC, dI) vwCl (YW cy y0 r v10 f11 w12 g13) H := hP
  have hD : va_D A (YW cy y0 r v10 f11 w12 g13) := hD
  have b3_v10 : 0 ≤ (v10 3).toInt ∧ (v10 3).toInt ≤ 1600 := YIb.b hIv10.1 3 (by decide)
  have b1_v10 : 0 ≤ (v10 1).toInt ∧ (v10 1).toInt ≤ 4 := YIb.b hIv10.1 1 (by decide)
  have b10_v10 : 0 ≤ (v10 10).toInt ∧ (v10 10).toInt ≤ 160 := YIb.b hIv10.1 10 (by decide)
  have b14_v10 : 0 ≤ (v10 14).toInt ∧ (v10 14).toInt ≤ 8 := YIb.b hIv10.1 14 (by decide)
  have b8_v10 : 0 ≤ (v10 8).toInt ∧ (v10 8).toInt ≤ 320 := YIb.b hIv10.1 8 (by decide)
  have b13_v10 : 0 ≤ (v10 13).toInt ∧ (v10 13).toInt ≤ 31 := YIb.b hIv10.1 13 (by decide)
  have pg14 : GR (v1 3).toInt (v1 5).toInt (v10 3).toInt (v10 5).toInt := pg14
  have pg15 : (v10 1).toInt = 0 → FI 1 (v10 10).toInt (v10 14).toInt (v10 8).toInt (f11 6) (f11 2) (f11 3) := pg15
  have pg16 : NB (v10 1).toInt (v10 8).toInt (v10 10).toInt (v10 13).toInt (v10 14).toInt := pg16
  have pg17 : UG (v10 1).toInt (0 : Int32).toInt (v10 13).toInt := pg17
  have hUv10 : (v10 35).toInt + (v10 36).toInt ≤ 40 := hIv10.2
  have hq0_v10 : v10 0 = (v 0) := hk0_v10.trans hq0_v1
  have hq4_v10 : v10 4 = (v 4) := hk4_v10.trans hq4_v1
  have hq9_v10 : v10 9 = (v 9) := hk9_v10.trans hq9_v1
  have hq15_v10 : v10 15 = 1 := hk15_v10
  have hq17_v10 : v10 17 = (v 17) := hk17_v10.trans hq17_v1
  have hq18_v10 : v10 18 = (v 18) := hk18_v10.trans hq18_v1
  have hq24_v10 : v10 24 = (v 24) := hk24_v10.trans hq24_v1
  have hq25_v10 : v10 25 = (v 25) := hk25_v10.trans hq25_v1
  have hq35_v10 : v10 35 = (v 35) := hk35_v10.trans hq35_v1
  have hq36_v10 : v10 36 = (v 36) := hk36_v10.trans hq36_v1
  have hq38_v10 : v10 38 = (v 38) := hk38_v10.trans hq38_v1
  have hq39_v10 : v10 39 = (v 39) := hk39_v10.trans hq39_v1
  have hGR : GR (v 3).toInt (v 5).toInt (v10 3).toInt (v10 5).toInt := GR.tr hGR (show GR (v1 3).toInt (v1 5).toInt (v10 3).toInt (v10 5).toInt from pg14) (by first | rfl | assumption | omega) (by first | rfl | assumption | omega)
  have hFJ := pg15
  have hNB := pg16
  refine lv_iconst (v := 1) hx hb dX11_formula_33 (by decide) ?_
  refine lv_istore_n (lv' := [(1, .int 1), (0, .ref y0)]) hx hb dX11_formula_34 rfl hl (by decide) rfl (fun ls hl => ?_)
  have lp18 : ∀ (n18 : Nat) (l1_18 : Int32) (v18 : Nat → Int32) (f18 : Nat → Nat → Int32) (w18 : Int64) (g18 : Nat → Int64), YI v18 → YC f18 → progOK (f18 4) (f18 5) (v18 9).toInt.toNat → v18 0 = (v 0) → v18 4 = (v 4) → v18 9 = (v 9) → v18 15 = 1 → v18 17 = (v 17) → v18 18 = (v 18) → v18 24 = (v 24) → v18 25 = (v 25) → v18 35 = (v 35) → v18 36 = (v 36) → v18 38 = (v 38) → v18 39 = (v 39) → ((0 : Int) ≤ l1_18.toInt ∧ l1_18.toInt ≤ 1) → ((v18 1).toInt = 0 → FI 1 (v18 10).toInt (v18 14).toInt (v18 8).toInt (f18 6) (f18 2) (f18 3)) → (NB (v18 1).toInt (v18 8).toInt (v18 10).toInt (v18 13).toInt (v18 14).toInt) → (GR (v 3).toInt (v 5).toInt (v18 3).toInt (v18 5).toInt) → (1 + 100 * (31 - (v18 13).toInt) + 2 * (v18 10).toInt + l1_18.toInt - 100000 * (v18 1).toInt).toNat < n18 → ∀ (H : Heap) (locs : List Loc) (ls : Array Slot), va_P (dC, dI) vwCl (YW cy y0 r v18 f18 w18 g18) H → va_D A (YW cy y0 r v18 f18 w18 g18) → va_S A s.heap H locs → lv_has ls 3 [(1, .int l1_18), (0, .ref y0)] → W p l e { frames := 5, cells := 0, slots := 0, locals := 146 } s m ([.ref y0] : List Value).toArray below meth c H locs 0 0 Q (F0 m 35 ls []) := by
    intro n18
    induction n18 with
    | zero => intro l1_18 v18 f18 w18 g18 hIv18 hCf18 hRf18 hq0_v18 hq4_v18 hq9_v18 hq15_v18 hq17_v18 hq18_v18 hq24_v18 hq25_v18 hq35_v18 hq36_v18 hq38_v18 hq39_v18 hr1_18 hx0_18 hx1_18 hx2_18 hm; exact absurd hm (Nat.not_lt_zero _)
    | succ n18 ih18 =>
      intro l1_18 v18 f18 w18 g18 hIv18 hCf18 hRf18 hq0_v18 hq4_v18 hq9_v18 hq15_v18 hq17_v18 hq18_v18 hq24_v18 hq25_v18 hq35_v18 hq36_v18 hq38_v18 hq39_v18 hr1_18 hx0_18 hx1_18 hx2_18 hm18 H locs ls hP hD hS hl
      clear b13_v10 b8_v10 b14_v10 b10_v10 b1_v10 b3_v10 zq14_v1 zq13_v1 zq10_v1 zq8_v1 zq1_v1 pv6 pv5 b3_v1
      have hUv18 : (v18 35).toInt + (v18 36).toInt ≤ 40 := hIv18.2
      have b1_v18 : 0 ≤ (v18 1).toInt ∧ (v18 1).toInt ≤ 4 := YIb.b hIv18.1 1 (by decide)
      have b10_v18 : 0 ≤ (v18 10).toInt ∧ (v18 10).toInt ≤ 160 := YIb.b hIv18.1 10 (by decide)
      have b14_v18 : 0 ≤ (v18 14).toInt ∧ (v18 14).toInt ≤ 8 := YIb.b hIv18.1 14 (by decide)
      have b8_v18 : 0 ≤ (v18 8).toInt ∧ (v18 8).toInt ≤ 320 := YIb.b hIv18.1 8 (by decide)
      have b13_v18 : 0 ≤ (v18 13).toInt ∧ (v18 13).toInt ≤ 31 := YIb.b hIv18.1 13 (by decide)
      have b3_v18 : 0 ≤ (v18 3).toInt ∧ (v18 3).toInt ≤ 1600 := YIb.b hIv18.1 3 (by decide)
      have hFJ := hx0_18
      have hNB := hx1_18
      have hGR := hx2_18
      refine lv_iload_n hx hb dX11_formula_35 rfl (lv_at hl 0 rfl) ?_
      have jp162 : ∀ (H : Heap) (locs : List Loc) (ls : Array Slot), va_P (dC, dI) vwCl (YW cy y0 r v18 f18 w18 g18) H → va_D A (YW cy y0 r v18 f18 w18 g18) → va_S A s.heap H locs → lv_has ls 3 [(1, .int l1_18), (0, .ref y0)] → W p l e { frames := 5, cells := 0, slots := 0, locals := 146 } s m ([.ref y0] : List Value).toArray below meth c H locs 0 0 Q (F0 m 162 ls []) := by
        intro H locs ls hP hD hS hl
        have jp181 : ∀ (H : Heap) (locs : List Loc) (ls : Array Slot), va_P (dC, dI) vwCl (YW cy y0 r v18 f18 w18 g18) H → va_D A (YW cy y0 r v18 f18 w18 g18) → va_S A s.heap H locs → lv_has ls 3 [(1, .int l1_18), (0, .ref y0)] → W p l e { frames := 5, cells := 0, slots := 0, locals := 146 } s m ([.ref y0] : List Value).toArray below meth c H locs 0 0 Q (F0 m 181 ls []) := by
          intro H locs ls hP hD hS hl
          refine lv_aload_n hx hb dX11_formula_181 rfl (lv_at hl 1 rfl) ?_
          refine va_get (D := (dC, dI)) (ci := 11) (v := .int (v18 1)) (C := RX11) (T := TX11) (N := 79) hx hb hts inB_11 hown hE.1 hP 0 rfl rfl 2 (by decide) (hts _ k_1322) (fun _ h9 => h9) rfl dX11_formula_182 ?_
          refine lv_if_ne (tgt := 193) hx hb dX11_formula_185 (by decide) (fun c19 => ?_) (fun c19 => ?_)
          · skip
            have zc19 : ¬ ((v18 1).toInt = 0) := by rw [fa_eq, show (0 : Int32).toInt = 0 from by decide] at c19; exact c19
            exact ret (v18, f18, w18, g18) _ _ _ _ _ _ ⟨hIv18, hCf18, hRf18, hq0_v18, hq4_v18, hq9_v18, hq17_v18, hq18_v18, hq24_v18, hq25_v18, hq35_v18, hq36_v18, hq38_v18, hq39_v18, (by show GR (v 3).toInt (v 5).toInt (v18 3).toInt (v18 5).toInt; exact GR.cast hGR (by first | rfl | assumption | omega) (by first | rfl | assumption | omega)), (by show (v18 1).toInt = 0 → progOK (f18 2) (f18 3) ((v18 8).toInt).toNat; intro hz9; exfalso; omega)⟩ hP hD hS dX11_formula_193 (Nat.le_refl _) (Nat.le_refl _)
          · skip
            have zc19 : (v18 1).toInt = 0 := by rw [fa_eq, show (0 : Int32).toInt = 0 from by decide] at c19; exact c19
            obtain ⟨hn1, hn2, hn3, hn4⟩ := hNB (by omega)
            refine lv_aload_n hx hb dX11_formula_188 rfl (lv_at hl 1 rfl) ?_
            refine lv_iconst (v := 0) hx hb dX11_formula_189 (by decide) ?_
            refine cbVv (n := 1) (rest := []) hx hb hml hown hts hE hP hD hS hA (sY_X11_close_1 l dC dI cy y0 r 0 v18 f18 w18 g18 hIv18 hCf18 hRf18 ⟨by decide, by decide⟩ (by have q1 : (0 : Int32).toInt = 0 := (by decide); show (v18 8).toInt + (v18 10).toInt ≤ 310; omega) (by show FI 1 (v18 10).toInt (v18 14).toInt (v18 8).toInt (f18 6) (f18 2) (f18 3); exact FI.cast (hFJ (by omega)) (by first | rfl | assumption | omega) (by first | rfl | assumption | omega) (by first | rfl | assumption | omega))) k_1708 k_1710 k_66 k_114 k_1711 (by decide +kernel) ⟨Nat.le_of_ble_eq_true rfl, Nat.le_of_ble_eq_true rfl⟩ 0 11 rfl rfl (rfl) hl.1 rfl (Nat.le_of_ble_eq_true rfl) dX11_formula_190 (fun u H locs hw hP hD hS => ?_)
            obtain ⟨v20, f21, w22, g23⟩ := u
            obtain ⟨hIv20, hCf21, hRf21, hk0_v20, hk1_v20, hk3_v20, hk4_v20, hk5_v20, hk9_v20, hk13_v20, hk15_v20, hk17_v20, hk18_v20, hk24_v20, hk25_v20, hk35_v20, hk36_v20, hk38_v20, hk39_v20, pv24, pv25, pv26, pv27, pg28, pg29, pg30, kq31⟩ := hw
            have hP : va_P (dC, dI) vwCl (YW cy y0 r v20 f21 w22 g23) H := hP
            have hD : va_D A (YW cy y0 r v20 f21 w22 g23) := hD
            have b8_v20 : 0 ≤ (v20 8).toInt ∧ (v20 8).toInt ≤ 320 := YIb.b hIv20.1 8 (by decide)
            have b10_v20 : 0 ≤ (v20 10).toInt ∧ (v20 10).toInt ≤ 160 := YIb.b hIv20.1 10 (by decide)
            have b14_v20 : 0 ≤ (v20 14).toInt ∧ (v20 14).toInt ≤ 8 := YIb.b hIv20.1 14 (by decide)
            have pv24 : (v20 8).toInt + (v20 10).toInt = (v18 8).toInt + (v18 10).toInt := pv24
            have pv25 : (v20 10).toInt - (v20 14).toInt ≤ (v18 10).toInt - (v18 14).toInt := pv25
            have pv26 : (v20 10).toInt ≤ (v18 10).toInt := pv26
            have pv27 : (v20 14).toInt ≤ (v18 14).toInt := pv27
            have pg28 : FI 1 (v20 10).toInt (v20 14).toInt (v20 8).toInt (f21 6) (f21 2) (f21 3) := pg28
            have pg29 : ∀ k, k < ((v18 10).toInt).toNat → (f18 6) k = 20 → k < ((v20 10).toInt).toNat := pg29
            have pg30 : 0 < (0 : Int32).toInt ∨ (v20 10).toInt = 0 ∨ (f21 6) ((v20 10).toInt - 1).toNat = 20 := pg30
            have hs6_f21 : f21 6 = (f18 6) := kq31
            rw [hs6_f21] at pg28
            rw [hs6_f21] at pg30
            have hUv20 : (v20 35).toInt + (v20 36).toInt ≤ 40 := hIv20.2
            have hq0_v20 : v20 0 = (v 0) := hk0_v20.trans hq0_v18
            have hq1_v20 : v20 1 = (v18 1) := hk1_v20
            have zq1_v20 := congrArg Int32.toInt hq1_v20
            have hq3_v20 : v20 3 = (v18 3) := hk3_v20
            have zq3_v20 := congrArg Int32.toInt hq3_v20
            have hq4_v20 : v20 4 = (v 4) := hk4_v20.trans hq4_v18
            have hq5_v20 : v20 5 = (v18 5) := hk5_v20
            have zq5_v20 := congrArg Int32.toInt hq5_v20
            have hq9_v20 : v20 9 = (v 9) := hk9_v20.trans hq9_v18
            have hq13_v20 : v20 13 = (v18 13) := hk13_v20
            have zq13_v20 := congrArg Int32.toInt hq13_v20
            have hq15_v20 : v20 15 = 1 := hk15_v20.trans hq15_v18
            have hq17_v20 : v20 17 = (v 17) := hk17_v20.trans hq17_v18
            have hq18_v20 : v20 18 = (v 18) := hk18_v20.trans hq18_v18
            have hq24_v20 : v20 24 = (v 24) := hk24_v20.trans hq24_v18
            have hq25_v20 : v20 25 = (v 25) := hk25_v20.trans hq25_v18
            have hq35_v20 : v20 35 = (v 35) := hk35_v20.trans hq35_v18
            have hq36_v20 : v20 36 = (v 36) := hk36_v20.trans hq36_v18
            have hq38_v20 : v20 38 = (v 38) := hk38_v20.trans hq38_v18
            have hq39_v20 : v20 39 = (v 39) := hk39_v20.trans hq39_v18
            have hFK := pg28
            exact ret (v20, f21, w22, g23) _ _ _ _ _ _ ⟨hIv20, hCf21, hRf21, (hk0_v20.trans hq0_v18), (hk4_v20.trans hq4_v18), (hk9_v20.trans hq9_v18), (hk17_v20.trans hq17_v18), (hk18_v20.trans hq18_v18), (hk24_v20.trans hq24_v18), (hk25_v20.trans hq25_v18), (hk35_v20.trans hq35_v18), (hk36_v20.trans hq36_v18), (hk38_v20.trans hq38_v18), (hk39_v20.trans hq39_v18), (by show GR (v 3).toInt (v 5).toInt (v20 3).toInt (v20 5).toInt; exact GR.cast hGR (by first | rfl | assumption | omega) (by first | rfl | assumption | omega)), (by show (v20 1).toInt = 0 → progOK (f21 2) (f21 3) ((v20 8).toInt).toNat; intro hz9; exact FI.prog hFK (by omega))⟩ hP hD hS dX11_formula_193 (Nat.le_refl _) (Nat.le_refl _)
        refine lv_aload_n hx hb dX11_formula_162 rfl (lv_at hl 1 rfl) ?_
        refine va_get (D := (dC, dI)) (ci := 11) (v := .int (v18 1)) (C := RX11) (T := TX11) (N := 79) hx hb hts inB_11 hown hE.1 hP 0 rfl rfl 2 (by decide) (hts _ k_1322) (fun _ h9 => h9) rfl dX11_formula_163 ?_
        refine lv_if_ne (tgt := 181) hx hb dX11_formula_166 (by decide) (fun c32 => ?_) (fun c32 => ?_)
        · skip
          have zc32 : ¬ ((v18 1).toInt = 0) := by rw [fa_eq, show (0 : Int32).toInt = 0 from by decide] at c32; exact c32
          exact jp181 _ _ _ hP hD hS hl
        · skip
          have zc32 : (v18 1).toInt = 0 := by rw [fa_eq, show (0 : Int32).toInt = 0 from by decide] at c32; exact c32
          refine lv_aload_n hx hb dX11_formula_169 rfl (lv_at hl 1 rfl) ?_
          refine cbVi (n := 0) (rest := []) hx hb hml hown hts hE hP hD hS hA (sY_X11_hasBracket_1 l dC dI cy y0 r  v18 f18 w18 g18 hIv18 hCf18 hRf18 ) k_1704 k_1706 k_65 k_114 k_1707 (by decide +kernel) ⟨Nat.le_of_ble_eq_true rfl, Nat.le_of_ble_eq_true rfl⟩ 0 11 rfl rfl (rfl) hl.1 rfl (Nat.le_of_ble_eq_true rfl) dX11_formula_170 (fun r33 u H locs hw hP hD hS => ?_)
          rcases hw with ⟨g34, g34_0⟩ | ⟨g34⟩
          · skip
            subst g34
            have hBr := g34_0
            refine lv_if_eq (tgt := 181) hx hb dX11_formula_173 (by decide) (fun c0 => absurd c0 (by decide)) (fun _ => ?_)
            refine lv_aload_n hx hb dX11_formula_176 rfl (lv_at hl 1 rfl) ?_
            refine lv_iconst (v := 2) hx hb dX11_formula_177 (by decide) ?_
            refine cbVv (n := 1) (rest := []) hx hb hml hown hts hE hP hD hS hA (sY_X11_wrong_1 l dC dI cy y0 r 2 v18 f18 w18 g18 hIv18 hCf18 hRf18 ⟨by decide, by decide⟩) k_1641 k_1643 k_50 k_114 k_1644 (by decide +kernel) ⟨Nat.le_of_ble_eq_true rfl, Nat.le_of_ble_eq_true rfl⟩ 0 11 rfl rfl (rfl) hl.1 rfl (Nat.le_of_ble_eq_true rfl) dX11_formula_178 (fun u H locs hw hP hD hS => ?_)
            obtain ⟨v35, f36, w37, g38⟩ := u
            obtain ⟨hIv35, hCf36, hRf36, hk0_v35, hk3_v35, hk4_v35, hk5_v35, hk8_v35, hk9_v35, hk10_v35, hk13_v35, hk14_v35, hk15_v35, hk17_v35, hk18_v35, hk24_v35, hk25_v35, hk35_v35, hk36_v35, hk38_v35, hk39_v35, pv39, pv40, pv41, kq42, kq43, kq44⟩ := hw
            have hP : va_P (dC, dI) vwCl (YW cy y0 r v35 f36 w37 g38) H := hP
            have hD : va_D A (YW cy y0 r v35 f36 w37 g38) := hD
            have b3_v35 : 0 ≤ (v35 3).toInt ∧ (v35 3).toInt ≤ 1600 := YIb.b hIv35.1 3 (by decide)
            have b1_v35 : 0 ≤ (v35 1).toInt ∧ (v35 1).toInt ≤ 4 := YIb.b hIv35.1 1 (by decide)
            have pv39 : (v18 3).toInt ≤ (v35 3).toInt := pv39
            have pv40 : (v35 5).toInt = (v18 5).toInt ∨ (v18 3).toInt < (v35 3).toInt ∨ ¬ (v35 5).toInt = 59 := pv40
            have pv41 : 0 < (v35 1).toInt := pv41
            have hs2_f36 : f36 2 = (f18 2) := kq42
            have hs3_f36 : f36 3 = (f18 3) := kq43
            have hs6_f36 : f36 6 = (f18 6) := kq44
            have hUv35 : (v35 35).toInt + (v35 36).toInt ≤ 40 := hIv35.2
            have hq0_v35 : v35 0 = (v 0) := hk0_v35.trans hq0_v18
            have hq3_v35 : v35 3 = (v18 3) := hk3_v35
            have zq3_v35 := congrArg Int32.toInt hq3_v35
            have hq4_v35 : v35 4 = (v 4) := hk4_v35.trans hq4_v18
            have hq5_v35 : v35 5 = (v18 5) := hk5_v35
            have zq5_v35 := congrArg Int32.toInt hq5_v35
            have hq8_v35 : v35 8 = (v18 8) := hk8_v35
            have zq8_v35 := congrArg Int32.toInt hq8_v35
            have hq9_v35 : v35 9 = (v 9) := hk9_v35.trans hq9_v18
            have hq10_v35 : v35 10 = (v18 10) := hk10_v35
            have zq10_v35 := congrArg Int32.toInt hq10_v35
            have hq13_v35 : v35 13 = (v18 13) := hk13_v35
            have zq13_v35 := congrArg Int32.toInt hq13_v35
            have hq14_v35 : v35 14 = (v18 14) := hk14_v35
            have zq14_v35 := congrArg Int32.toInt hq14_v35
            have hq15_v35 : v35 15 = 1 := hk15_v35.trans hq15_v18
            have hq17_v35 : v35 17 = (v 17) := hk17_v35.trans hq17_v18
            have hq18_v35 : v35 18 = (v 18) := hk18_v35.trans hq18_v18
            have hq24_v35 : v35 24 = (v 24) := hk24_v35.trans hq24_v18
            have hq25_v35 : v35 25 = (v 25) := hk25_v35.trans hq25_v18
            have hq35_v35 : v35 35 = (v 35) := hk35_v35.trans hq35_v18
            have hq36_v35 : v35 36 = (v 36) := hk36_v35.trans hq36_v18
            have hq38_v35 : v35 38 = (v 38) := hk38_v35.trans hq38_v18
            have hq39_v35 : v35 39 = (v 39) := hk39_v35.trans hq39_v18
            have hGR : GR (v 3).toInt (v 5).toInt (v35 3).toInt (v35 5).toInt := GR.tr hGR (show GR (v18 3).toInt (v18 5).toInt (v35 3).toInt (v35 5).toInt from ⟨pv39, pv40⟩) (by first | rfl | assumption | omega) (by first | rfl | assumption | omega)
            clear pv40
            refine lv_aload_n hx hb dX11_formula_181 rfl (lv_at hl 1 rfl) ?_
            refine va_get (D := (dC, dI)) (ci := 11) (v := .int (v35 1)) (C := RX11) (T := TX11) (N := 79) hx hb hts inB_11 hown hE.1 hP 0 rfl rfl 2 (by decide) (hts _ k_1322) (fun _ h9 => h9) rfl dX11_formula_182 ?_
            have b1_v35 : 0 ≤ (v35 1).toInt ∧ (v35 1).toInt ≤ 4 := YIb.b hIv35.1 1 (by decide)
            refine lv_if_ne (tgt := 193) hx hb dX11_formula_185 (by decide) (fun c45 => ?_) (fun c45 => ?_)
            · skip
              have zc45 : ¬ ((v35 1).toInt = 0) := by rw [fa_eq, show (0 : Int32).toInt = 0 from by decide] at c45; exact c45
              exact ret (v35, f36, w37, g38) _ _ _ _ _ _ ⟨hIv35, hCf36, hRf36, (hk0_v35.trans hq0_v18), (hk4_v35.trans hq4_v18), (hk9_v35.trans hq9_v18), (hk17_v35.trans hq17_v18), (hk18_v35.trans hq18_v18), (hk24_v35.trans hq24_v18), (hk25_v35.trans hq25_v18), (hk35_v35.trans hq35_v18), (hk36_v35.trans hq36_v18), (hk38_v35.trans hq38_v18), (hk39_v35.trans hq39_v18), (by show GR (v 3).toInt (v 5).toInt (v35 3).toInt (v35 5).toInt; exact GR.cast hGR (by first | rfl | assumption | omega) (by first | rfl | assumption | omega)), (by show (v35 1).toInt = 0 → progOK (f36 2) (f36 3) ((v35 8).toInt).toNat; rw [hs2_f36, hs3_f36]; intro hz9; exfalso; omega)⟩ hP hD hS dX11_formula_193 (Nat.le_refl _) (Nat.le_refl _)
            · skip
              have zc45 : (v35 1).toInt = 0 := by rw [fa_eq, show (0 : Int32).toInt = 0 from by decide] at c45; exact c45
              obtain ⟨hn1, hn2, hn3, hn4⟩ := hNB (by omega)
              refine lv_aload_n hx hb dX11_formula_188 rfl (lv_at hl 1 rfl) ?_
              refine lv_iconst (v := 0) hx hb dX11_formula_189 (by decide) ?_
              refine cbVv (n := 1) (rest := []) hx hb hml hown hts hE hP hD hS hA (sY_X11_close_1 l dC dI cy y0 r 0 v35 f36 w37 g38 hIv35 hCf36 hRf36 ⟨by decide, by decide⟩ (by have q1 : (0 : Int32).toInt = 0 := (by decide); show (v35 8).toInt + (v35 10).toInt ≤ 310; omega) (by show FI 1 (v35 10).toInt (v35 14).toInt (v35 8).toInt (f36 6) (f36 2) (f36 3); rw [hs6_f36, hs2_f36, hs3_f36]; exact FI.cast (hFJ (by omega)) (by first | rfl | assumption | omega) (by first | rfl | assumption | omega) (by first | rfl | assumption | omega))) k_1708 k_1710 k_66 k_114 k_1711 (by decide +kernel) ⟨Nat.le_of_ble_eq_true rfl, Nat.le_of_ble_eq_true rfl⟩ 0 11 rfl rfl (rfl) hl.1 rfl (Nat.le_of_ble_eq_true rfl) dX11_formula_190 (fun u H locs hw hP hD hS => ?_)
              obtain ⟨v46, f47, w48, g49⟩ := u
              obtain ⟨hIv46, hCf47, hRf47, hk0_v46, hk1_v46, hk3_v46, hk4_v46, hk5_v46, hk9_v46, hk13_v46, hk15_v46, hk17_v46, hk18_v46, hk24_v46, hk25_v46, hk35_v46, hk36_v46, hk38_v46, hk39_v46, pv50, pv51, pv52, pv53, pg54, pg55, pg56, kq57⟩ := hw
              have hP : va_P (dC, dI) vwCl (YW cy y0 r v46 f47 w48 g49) H := hP
              have hD : va_D A (YW cy y0 r v46 f47 w48 g49) := hD
              have b8_v46 : 0 ≤ (v46 8).toInt ∧ (v46 8).toInt ≤ 320 := YIb.b hIv46.1 8 (by decide)
              have b10_v46 : 0 ≤ (v46 10).toInt ∧ (v46 10).toInt ≤ 160 := YIb.b hIv46.1 10 (by decide)
              have b14_v46 : 0 ≤ (v46 14).toInt ∧ (v46 14).toInt ≤ 8 := YIb.b hIv46.1 14 (by decide)
              have pv50 : (v46 8).toInt + (v46 10).toInt = (v35 8).toInt + (v35 10).toInt := pv50
              have pv51 : (v46 10).toInt - (v46 14).toInt ≤ (v35 10).toInt - (v35 14).toInt := pv51
              have pv52 : (v46 10).toInt ≤ (v35 10).toInt := pv52
              have pv53 : (v46 14).toInt ≤ (v35 14).toInt := pv53
              have pg54 : FI 1 (v46 10).toInt (v46 14).toInt (v46 8).toInt (f47 6) (f47 2) (f47 3) := pg54
              have pg55 : ∀ k, k < ((v35 10).toInt).toNat → (f36 6) k = 20 → k < ((v46 10).toInt).toNat := pg55
              rw [hs6_f36] at pg55
              have pg56 : 0 < (0 : Int32).toInt ∨ (v46 10).toInt = 0 ∨ (f47 6) ((v46 10).toInt - 1).toNat = 20 := pg56
              have hs6_f47 : f47 6 = (f18 6) := kq57.trans hs6_f36
              rw [hs6_f47] at pg54
              rw [hs6_f47] at pg56
              have hUv46 : (v46 35).toInt + (v46 36).toInt ≤ 40 := hIv46.2
              have hq0_v46 : v46 0 = (v 0) := hk0_v46.trans hq0_v35
              have hq1_v46 : v46 1 = (v35 1) := hk1_v46
              have zq1_v46 := congrArg Int32.toInt hq1_v46
              have hq3_v46 : v46 3 = (v18 3) := hk3_v46.trans hq3_v35
              have zq3_v46 := congrArg Int32.toInt hq3_v46
              have hq4_v46 : v46 4 = (v 4) := hk4_v46.trans hq4_v35
              have hq5_v46 : v46 5 = (v18 5) := hk5_v46.trans hq5_v35
              have zq5_v46 := congrArg Int32.toInt hq5_v46
              have hq9_v46 : v46 9 = (v 9) := hk9_v46.trans hq9_v35
              have hq13_v46 : v46 13 = (v18 13) := hk13_v46.trans hq13_v35
              have zq13_v46 := congrArg Int32.toInt hq13_v46
              have hq15_v46 : v46 15 = 1 := hk15_v46.trans hq15_v35
              have hq17_v46 : v46 17 = (v 17) := hk17_v46.trans hq17_v35
              have hq18_v46 : v46 18 = (v 18) := hk18_v46.trans hq18_v35
              have hq24_v46 : v46 24 = (v 24) := hk24_v46.trans hq24_v35
              have hq25_v46 : v46 25 = (v 25) := hk25_v46.trans hq25_v35
              have hq35_v46 : v46 35 = (v 35) := hk35_v46.trans hq35_v35
              have hq36_v46 : v46 36 = (v 36) := hk36_v46.trans hq36_v35
              have hq38_v46 : v46 38 = (v 38) := hk38_v46.trans hq38_v35
              have hq39_v46 : v46 39 = (v 39) := hk39_v46.trans hq39_v35
              have hFK := pg54
              exact ret (v46, f47, w48, g49) _ _ _ _ _ _ ⟨hIv46, hCf47, hRf47, (hk0_v46.trans (hk0_v35.trans hq0_v18)), (hk4_v46.trans (hk4_v35.trans hq4_v18)), (hk9_v46.trans (hk9_v35.trans hq9_v18)), (hk17_v46.trans (hk17_v35.trans hq17_v18)), (hk18_v46.trans (hk18_v35.trans hq18_v18)), (hk24_v46.trans (hk24_v35.trans hq24_v18)), (hk25_v46.trans (hk25_v35.trans hq25_v18)), (hk35_v46.trans (hk35_v35.trans hq35_v18)), (hk36_v46.trans (hk36_v35.trans hq36_v18)), (hk38_v46.trans (hk38_v35.trans hq38_v18)), (hk39_v46.trans (hk39_v35.trans hq39_v18)), (by show GR (v 3).toInt (v 5).toInt (v46 3).toInt (v46 5).toInt; exact GR.cast hGR (by first | rfl | assumption | omega) (by first | rfl | assumption | omega)), (by show (v46 1).toInt = 0 → progOK (f47 2) (f47 3) ((v46 8).toInt).toNat; intro hz9; exact FI.prog hFK (by omega))⟩ hP hD hS dX11_formula_193 (Nat.le_refl _) (Nat.le_refl _)
          · skip
            subst g34
            refine lv_if_eq (tgt := 181) hx hb dX11_formula_173 (by decide) (fun _ => ?_) (fun c0 => absurd (by decide) c0)
            exact jp181 _ _ _ hP hD hS hl
      refine lv_if_eq (tgt := 162) hx hb dX11_formula_36 (by decide) (fun c58 => ?_) (fun c58 => ?_)
      · skip
        have zc58 : l1_18.toInt = 0 := by rw [fa_eq, show (0 : Int32).toInt = 0 from by decide] at c58; exact c58
        exact jp162 _ _ _ hP hD hS hl
      · skip
        have zc58 : ¬ (l1_18.toInt = 0) := by rw [fa_eq, show (0 : Int32).toInt = 0 from by decide] at c58; exact c58
        refine lv_aload_n hx hb dX11_formula_39 rfl (lv_at hl 1 rfl) ?_
        refine va_get (D := (dC, dI)) (ci := 11) (v := .int (v18 1)) (C := RX11) (T := TX11) (N := 79) hx hb hts inB_11 hown hE.1 hP 0 rfl rfl 2 (by decide) (hts _ k_1322) (fun _ h9 => h9) rfl dX11_formula_40 ?_
        refine lv_if_ne (tgt := 162) hx hb dX11_formula_43 (by decide) (fun c59 => ?_) (fun c59 => ?_)
        · skip
          have zc59 : ¬ ((v18 1).toInt = 0) := by rw [fa_eq, show (0 : Int32).toInt = 0 from by decide] at c59; exact c59
          exact jp162 _ _ _ hP hD hS hl
        · skip
          have zc59 : (v18 1).toInt = 0 := by rw [fa_eq, show (0 : Int32).toInt = 0 from by decide] at c59; exact c59
          obtain ⟨hn1, hn2, hn3, hn4⟩ := hNB (by omega)
          refine lv_aload_n hx hb dX11_formula_46 rfl (lv_at hl 1 rfl) ?_
          refine cbVi (n := 0) (rest := []) hx hb hml hown hts hE hP hD hS hA (sY_X11_sign_1 l dC dI cy y0 r  v18 f18 w18 g18 hIv18 hCf18 hRf18 ) k_1700 k_1702 k_64 k_114 k_1703 (by decide +kernel) ⟨Nat.le_of_ble_eq_true rfl, Nat.le_of_ble_eq_true rfl⟩ 0 11 rfl rfl (rfl) hl.1 rfl (Nat.le_of_ble_eq_true rfl) dX11_formula_47 (fun r60 u H locs hw hP hD hS => ?_)
          obtain ⟨pp61, hw⟩ := hw
          have pp61 : r60.toInt = 0 ∨ 37 ≤ r60.toInt := pp61
          have hSG : SG r60.toInt := pp61
          clear pp61
          refine lv_istore_n (lv' := [(2, .int r60), (1, .int l1_18), (0, .ref y0)]) hx hb dX11_formula_50 rfl hl (by decide) rfl (fun ls hl => ?_)
          have jp157 : ∀ (H : Heap) (locs : List Loc) (ls : Array Slot), va_P (dC, dI) vwCl (YW cy y0 r v18 f18 w18 g18) H → va_D A (YW cy y0 r v18 f18 w18 g18) → va_S A s.heap H locs → lv_has ls 3 [(2, .int r60), (1, .int l1_18), (0, .ref y0)] → W p l e { frames := 5, cells := 0, slots := 0, locals := 146 } s m ([.ref y0] : List Value).toArray below meth c H locs 0 0 Q (F0 m 157 ls []) := by
            intro H locs ls hP hD hS hl
            refine lv_iconst (v := 0) hx hb dX11_formula_157 (by decide) ?_
            refine lv_istore_n (lv' := [(1, .int 0), (2, .int r60), (0, .ref y0)]) hx hb dX11_formula_158 rfl hl (by decide) rfl (fun ls hl => ?_)
            refine lv_goto (tgt := 35) hx hb dX11_formula_159 (by decide) ?_
            exact ih18 0 v18 f18 w18 g18 hIv18 hCf18 hRf18 hq0_v18 hq4_v18 hq9_v18 hq15_v18 hq17_v18 hq18_v18 hq24_v18 hq25_v18 hq35_v18 hq36_v18 hq38_v18 hq39_v18 ⟨by decide, by decide⟩ (by show (v18 1).toInt = 0 → FI 1 (v18 10).toInt (v18 14).toInt (v18 8).toInt (f18 6) (f18 2) (f18 3); intro hz9; exact FI.cast (hFJ (by omega)) (by first | rfl | assumption | omega) (by first | rfl | assumption | omega) (by first | rfl | assumption | omega)) (by show NB (v18 1).toInt (v18 8).toInt (v18 10).toInt (v18 13).toInt (v18 14).toInt; exact NB.mk (by omega) (by omega) (by omega) (by omega)) (by show GR (v 3).toInt (v 5).toInt (v18 3).toInt (v18 5).toInt; exact GR.cast hGR (by first | rfl | assumption | omega) (by first | rfl | assumption | omega)) (by have q1 : (0 : Int32).toInt = 0 := (by decide); show (1 + 100 * (31 - (v18 13).toInt) + 2 * (v18 10).toInt + (0 : Int32).toInt - 100000 * (v18 1).toInt).toNat < n18; omega) _ _ _ hP hD hS (lv_sub hl [0, 2] rfl)
          have jp99 : ∀ (H : Heap) (locs : List Loc) (ls : Array Slot), va_P (dC, dI) vwCl (YW cy y0 r v18 f18 w18 g18) H → va_D A (YW cy y0 r v18 f18 w18 g18) → va_S A s.heap H locs → lv_has ls 3 [(2, .int r60), (1, .int l1_18), (0, .ref y0)] → W p l e { frames := 5, cells := 0, slots := 0, locals := 146 } s m ([.ref y0] : List Value).toArray below meth c H locs 0 0 Q (F0 m 99 ls []) := by
            intro H locs ls hP hD hS hl
            refine lv_iload_n hx hb dX11_formula_99 rfl (lv_at hl 0 rfl) ?_
            refine lv_if_eq (tgt := 157) hx hb dX11_formula_100 (by decide) (fun c62 => ?_) (fun c62 => ?_)
            · skip
              have zc62 : r60.toInt = 0 := by rw [fa_eq, show (0 : Int32).toInt = 0 from by decide] at c62; exact c62
              exact jp157 _ _ _ hP hD hS hl
            · skip
              have zc62 : ¬ (r60.toInt = 0) := by rw [fa_eq, show (0 : Int32).toInt = 0 from by decide] at c62; exact c62
              have jp118 : ∀ (H : Heap) (locs : List Loc) (ls : Array Slot), va_P (dC, dI) vwCl (YW cy y0 r v18 f18 w18 g18) H → va_D A (YW cy y0 r v18 f18 w18 g18) → va_S A s.heap H locs → lv_has ls 3 [(2, .int r60), (1, .int l1_18), (0, .ref y0)] → W p l e { frames := 5, cells := 0, slots := 0, locals := 146 } s m ([.ref y0] : List Value).toArray below meth c H locs 0 0 Q (F0 m 118 ls []) := by
                intro H locs ls hP hD hS hl
                refine lv_aload_n hx hb dX11_formula_118 rfl (lv_at hl 2 rfl) ?_
                refine lv_iload_n hx hb dX11_formula_119 rfl (lv_at hl 0 rfl) ?_
                refine cbSi (n := 1) (rest := [.ref y0]) hx hb hml hown hts hE hP hD hS hA (sY_X11_tight_1 l dC dI cy y0 r r60 v18 f18 w18 g18 hIv18 hCf18 hRf18 ) k_1677 k_1678 k_114 k_1679 (by decide +kernel) ⟨Nat.le_of_ble_eq_true rfl, Nat.le_of_ble_eq_true rfl⟩ (rfl) hl.1 rfl (Nat.le_of_ble_eq_true rfl) dX11_formula_120 (fun r63 u H locs hw hP hD hS => ?_)
                refine cbVv (n := 1) (rest := []) hx hb hml hown hts hE hP hD hS hA (sY_X11_close_1 l dC dI cy y0 r r63 v18 f18 w18 g18 hIv18 hCf18 hRf18 ⟨show (0 : Int) ≤ r63.toInt by omega, show r63.toInt ≤ (6 : Int) by omega⟩ (by show (v18 8).toInt + (v18 10).toInt ≤ 310; omega) (by show FI 1 (v18 10).toInt (v18 14).toInt (v18 8).toInt (f18 6) (f18 2) (f18 3); exact FI.cast (hFJ (by omega)) (by first | rfl | assumption | omega) (by first | rfl | assumption | omega) (by first | rfl | assumption | omega))) k_1708 k_1710 k_66 k_114 k_1711 (by decide +kernel) ⟨Nat.le_of_ble_eq_true rfl, Nat.le_of_ble_eq_true rfl⟩ 0 11 rfl rfl (rfl) hl.1 rfl (Nat.le_of_ble_eq_true rfl) dX11_formula_123 (fun u H locs hw hP hD hS => ?_)
                obtain ⟨v64, f65, w66, g67⟩ := u
                obtain ⟨hIv64, hCf65, hRf65, hk0_v64, hk1_v64, hk3_v64, hk4_v64, hk5_v64, hk9_v64, hk13_v64, hk15_v64, hk17_v64, hk18_v64, hk24_v64, hk25_v64, hk35_v64, hk36_v64, hk38_v64, hk39_v64, pv68, pv69, pv70, pv71, pg72, pg73, pg74, kq75⟩ := hw
                have hP : va_P (dC, dI) vwCl (YW cy y0 r v64 f65 w66 g67) H := hP
                have hD : va_D A (YW cy y0 r v64 f65 w66 g67) := hD
                have b8_v64 : 0 ≤ (v64 8).toInt ∧ (v64 8).toInt ≤ 320 := YIb.b hIv64.1 8 (by decide)
                have b10_v64 : 0 ≤ (v64 10).toInt ∧ (v64 10).toInt ≤ 160 := YIb.b hIv64.1 10 (by decide)
                have b14_v64 : 0 ≤ (v64 14).toInt ∧ (v64 14).toInt ≤ 8 := YIb.b hIv64.1 14 (by decide)
                have pv68 : (v64 8).toInt + (v64 10).toInt = (v18 8).toInt + (v18 10).toInt := pv68
                have pv69 : (v64 10).toInt - (v64 14).toInt ≤ (v18 10).toInt - (v18 14).toInt := pv69
                have pv70 : (v64 10).toInt ≤ (v18 10).toInt := pv70
                have pv71 : (v64 14).toInt ≤ (v18 14).toInt := pv71
                have pg72 : FI 1 (v64 10).toInt (v64 14).toInt (v64 8).toInt (f65 6) (f65 2) (f65 3) := pg72
                have pg73 : ∀ k, k < ((v18 10).toInt).toNat → (f18 6) k = 20 → k < ((v64 10).toInt).toNat := pg73
                have pg74 : 0 < r63.toInt ∨ (v64 10).toInt = 0 ∨ (f65 6) ((v64 10).toInt - 1).toNat = 20 := pg74
                have hs6_f65 : f65 6 = (f18 6) := kq75
                rw [hs6_f65] at pg72
                rw [hs6_f65] at pg74
                have hUv64 : (v64 35).toInt + (v64 36).toInt ≤ 40 := hIv64.2
                have hq0_v64 : v64 0 = (v 0) := hk0_v64.trans hq0_v18
                have hq1_v64 : v64 1 = (v18 1) := hk1_v64
                have zq1_v64 := congrArg Int32.toInt hq1_v64
                have hq3_v64 : v64 3 = (v18 3) := hk3_v64
                have zq3_v64 := congrArg Int32.toInt hq3_v64
                have hq4_v64 : v64 4 = (v 4) := hk4_v64.trans hq4_v18
                have hq5_v64 : v64 5 = (v18 5) := hk5_v64
                have zq5_v64 := congrArg Int32.toInt hq5_v64
                have hq9_v64 : v64 9 = (v 9) := hk9_v64.trans hq9_v18
                have hq13_v64 : v64 13 = (v18 13) := hk13_v64
                have zq13_v64 := congrArg Int32.toInt hq13_v64
                have hq15_v64 : v64 15 = 1 := hk15_v64.trans hq15_v18
                have hq17_v64 : v64 17 = (v 17) := hk17_v64.trans hq17_v18
                have hq18_v64 : v64 18 = (v 18) := hk18_v64.trans hq18_v18
                have hq24_v64 : v64 24 = (v 24) := hk24_v64.trans hq24_v18
                have hq25_v64 : v64 25 = (v 25) := hk25_v64.trans hq25_v18
                have hq35_v64 : v64 35 = (v 35) := hk35_v64.trans hq35_v18
                have hq36_v64 : v64 36 = (v 36) := hk36_v64.trans hq36_v18
                have hq38_v64 : v64 38 = (v 38) := hk38_v64.trans hq38_v18
                have hq39_v64 : v64 39 = (v 39) := hk39_v64.trans hq39_v18
                have hFK := pg72
                refine lv_aload_n hx hb dX11_formula_126 rfl (lv_at hl 2 rfl) ?_
                refine va_get (D := (dC, dI)) (ci := 11) (v := .ref (r 15)) (C := RX11) (T := TX11) (N := 79) hx hb hts inB_11 hown hE.1 hP 0 rfl rfl 15 (by decide) (hts _ k_1335) (fun _ h9 => h9) rfl dX11_formula_127 ?_
                refine lv_aload_n hx hb dX11_formula_130 rfl (lv_at hl 2 rfl) ?_
                refine va_get (D := (dC, dI)) (ci := 11) (v := .int (v64 10)) (C := RX11) (T := TX11) (N := 79) hx hb hts inB_11 hown hE.1 hP 0 rfl rfl 19 (by decide) (hts _ k_1339) (fun _ h9 => h9) rfl dX11_formula_131 ?_
                have b10_v64 : 0 ≤ (v64 10).toInt ∧ (v64 10).toInt ≤ 160 := YIb.b hIv64.1 10 (by decide)
                refine lv_iload_n hx hb dX11_formula_134 rfl (lv_at hl 0 rfl) ?_
                refine stI hx hb hE hP hD hS 7 rfl (vp_in_iff.mpr ⟨by omega, by omega⟩) rfl dX11_formula_135 (fun H locs hP hD hS => ?_)
                obtain ⟨f76, ef76, hP, hD⟩ : ∃ fz9, fz9 = upd2 f65 6 (upd (f65 6) (v64 10).toNatClampNeg r60) ∧ va_P (dC, dI) vwCl (YW cy y0 r v64 fz9 w66 g67) H ∧ va_D A (YW cy y0 r v64 fz9 w66 g67) := ⟨_, rfl, hP, hD⟩
                have hCf76 : YC f76 := by rw [ef76]; exact hCf65
                have hRf76 : progOK (f76 4) (f76 5) (v64 9).toInt.toNat := by rw [ef76]; exact hRf65
                have hs2_f76 : f76 2 = (f65 2) := by rw [ef76]; exact rfl
                have hs3_f76 : f76 3 = (f65 3) := by rw [ef76]; exact rfl
                have hs6_f76 : f76 6 = (upd (f18 6) ((v64 10).toInt.toNat) r60) := by rw [ef76]; show upd (f65 6) ((v64 10).toInt.toNat) r60 = _; rw [hs6_f65]
                refine lv_aload_n hx hb dX11_formula_136 rfl (lv_at hl 2 rfl) ?_
                refine lv_dup hx hb dX11_formula_137 rfl ?_
                refine va_get (D := (dC, dI)) (ci := 11) (v := .int (v64 10)) (C := RX11) (T := TX11) (N := 79) hx hb hts inB_11 hown hE.1 hP 0 rfl rfl 19 (by decide) (hts _ k_1339) (fun _ h9 => h9) rfl dX11_formula_138 ?_
                refine lv_iconst (v := 1) hx hb dX11_formula_141 (by decide) ?_
                refine lv_iadd hx hb dX11_formula_142 ?_
                refine lv_topi (fun t77 et77 => ?_)
                have rg78 := fb_rng (v64 10)
                have zt77 : t77.toInt = (v64 10).toInt + 1 := by rw [et77]; exact add_i rfl (by decide) (by omega) (by omega)
                refine va_put (D := (dC, dI)) (ci := 11) (v := .int t77) (ty := tyX11 19) (C := RX11) (T := TX11) (N := 79) hx hb hts inB_11 tyX11 tyX11_ok nmX11 hown hE.1 hP hD hS 0 rfl rfl 19 (by decide) (hts _ k_1339) (fun _ h9 => h9) rfl (tyX11_ok 19 (by decide)) rfl rfl (Nat.le_of_ble_eq_true rfl) dX11_formula_143 (fun H locs hP hD hS => ?_)
                have hP : va_P (dC, dI) vwCl (YW cy y0 r (upd v64 10 t77) f76 w66 g67) H := hP
                have hD : va_D A (YW cy y0 r (upd v64 10 t77) f76 w66 g67) := hD
                refine lv_aload_n hx hb dX11_formula_146 rfl (lv_at hl 2 rfl) ?_
                refine cbVv (n := 0) (rest := []) hx hb hml hown hts hE hP hD hS hA (sY_X11_token_1 l dC dI cy y0 r  (upd v64 10 t77) f76 w66 g67 ⟨(YIb.upd (j := 10) (x := t77) hIv64.1 (show (0 : Int) ≤ t77.toInt by omega) (show t77.toInt ≤ (160 : Int) by omega)), hIv64.2⟩ hCf76 hRf76 ) k_1579 k_1581 k_42 k_114 k_1582 (by decide +kernel) ⟨Nat.le_of_ble_eq_true rfl, Nat.le_of_ble_eq_true rfl⟩ 0 11 rfl rfl (rfl) hl.1 rfl (Nat.le_of_ble_eq_true rfl) dX11_formula_147 (fun u H locs hw hP hD hS => ?_)
                obtain ⟨v79, f80, w81, g82⟩ := u
                obtain ⟨hIv79, hCf80, hRf80, hk0_v79, hk1_v79, hk4_v79, hk8_v79, hk9_v79, hk10_v79, hk13_v79, hk14_v79, hk15_v79, hk17_v79, hk18_v79, hk24_v79, hk25_v79, hk35_v79, hk36_v79, hk38_v79, hk39_v79, pv83, pv84, kq85, kq86, kq87⟩ := hw
                have hP : va_P (dC, dI) vwCl (YW cy y0 r v79 f80 w81 g82) H := hP
                have hD : va_D A (YW cy y0 r v79 f80 w81 g82) := hD
                have b3_v79 : 0 ≤ (v79 3).toInt ∧ (v79 3).toInt ≤ 1600 := YIb.b hIv79.1 3 (by decide)
                have pv83 : (v64 3).toInt ≤ (v79 3).toInt := pv83
                have pv84 : (v79 5).toInt = (v64 5).toInt ∨ (v64 3).toInt < (v79 3).toInt ∨ ¬ (v79 5).toInt = 59 := pv84
                have hs2_f80 : f80 2 = (f65 2) := kq85.trans hs2_f76
                have hs3_f80 : f80 3 = (f65 3) := kq86.trans hs3_f76
                have hs6_f80 : f80 6 = (upd (f18 6) ((v64 10).toInt.toNat) r60) := kq87.trans hs6_f76
                have hUv79 : (v79 35).toInt + (v79 36).toInt ≤ 40 := hIv79.2
                have hq0_v79 : v79 0 = (v 0) := hk0_v79.trans hq0_v64
                have hq1_v79 : v79 1 = (v18 1) := hk1_v79.trans hq1_v64
                have zq1_v79 := congrArg Int32.toInt hq1_v79
                have hq4_v79 : v79 4 = (v 4) := hk4_v79.trans hq4_v64
                have hq8_v79 : v79 8 = (v64 8) := hk8_v79
                have zq8_v79 := congrArg Int32.toInt hq8_v79
                have hq9_v79 : v79 9 = (v 9) := hk9_v79.trans hq9_v64
                have hq10_v79 : v79 10 = t77 := hk10_v79
                have zq10_v79 := congrArg Int32.toInt hq10_v79
                have hq13_v79 : v79 13 = (v18 13) := hk13_v79.trans hq13_v64
                have zq13_v79 := congrArg Int32.toInt hq13_v79
                have hq14_v79 : v79 14 = (v64 14) := hk14_v79
                have zq14_v79 := congrArg Int32.toInt hq14_v79
                have hq15_v79 : v79 15 = 1 := hk15_v79.trans hq15_v64
                have hq17_v79 : v79 17 = (v 17) := hk17_v79.trans hq17_v64
                have hq18_v79 : v79 18 = (v 18) := hk18_v79.trans hq18_v64
                have hq24_v79 : v79 24 = (v 24) := hk24_v79.trans hq24_v64
                have hq25_v79 : v79 25 = (v 25) := hk25_v79.trans hq25_v64
                have hq35_v79 : v79 35 = (v 35) := hk35_v79.trans hq35_v64
                have hq36_v79 : v79 36 = (v 36) := hk36_v79.trans hq36_v64
                have hq38_v79 : v79 38 = (v 38) := hk38_v79.trans hq38_v64
                have hq39_v79 : v79 39 = (v 39) := hk39_v79.trans hq39_v64
                have hGR : GR (v 3).toInt (v 5).toInt (v79 3).toInt (v79 5).toInt := GR.tr hGR (show GR (v64 3).toInt (v64 5).toInt (v79 3).toInt (v79 5).toInt from ⟨pv83, pv84⟩) (by first | rfl | assumption | omega) (by first | rfl | assumption | omega)
                clear pv84
                refine lv_aload_n hx hb dX11_formula_150 rfl (lv_at hl 2 rfl) ?_
                refine cbVv (n := 0) (rest := []) hx hb hml hown hts hE hP hD hS hA (sY_X11_unit_1 l dC dI cy y0 r  v79 f80 w81 g82 hIv79 hCf80 hRf80 (by show (v79 8).toInt + (v79 10).toInt ≤ 10 * (v79 13).toInt + 1; omega) (by show (v79 10).toInt ≤ (v79 14).toInt + (v79 13).toInt + 1; omega) (by show (v79 13).toInt ≤ 30; omega) (by show (v79 14).toInt ≤ 7; omega) (by show FI 0 (v79 10).toInt (v79 14).toInt (v79 8).toInt (f80 6) (f80 2) (f80 3); rw [hs6_f80, hs2_f80, hs3_f80]; exact FI.sign hFK rfl (by omega) (hSG.n20 (by first | assumption | omega)) (hSG.n21 (by first | assumption | omega)) (by first | rfl | assumption | omega) (by first | rfl | assumption | omega) (by first | rfl | assumption | omega))) k_1669 k_1671 k_57 k_114 k_1672 (by decide +kernel) ⟨Nat.le_of_ble_eq_true rfl, Nat.le_of_ble_eq_true rfl⟩ 0 11 rfl rfl (rfl) hl.1 rfl (Nat.le_of_ble_eq_true rfl) dX11_formula_151 (fun u H locs hw hP hD hS => ?_)
                obtain ⟨v88, f89, w90, g91⟩ := u
                obtain ⟨hIv88, hCf89, hRf89, hk0_v88, hk4_v88, hk9_v88, hk15_v88, hk17_v88, hk18_v88, hk24_v88, hk25_v88, hk35_v88, hk36_v88, hk38_v88, hk39_v88, pg92, pg93, pg94, pg95⟩ := hw
                have hP : va_P (dC, dI) vwCl (YW cy y0 r v88 f89 w90 g91) H := hP
                have hD : va_D A (YW cy y0 r v88 f89 w90 g91) := hD
                have b3_v88 : 0 ≤ (v88 3).toInt ∧ (v88 3).toInt ≤ 1600 := YIb.b hIv88.1 3 (by decide)
                have b1_v88 : 0 ≤ (v88 1).toInt ∧ (v88 1).toInt ≤ 4 := YIb.b hIv88.1 1 (by decide)
                have b10_v88 : 0 ≤ (v88 10).toInt ∧ (v88 10).toInt ≤ 160 := YIb.b hIv88.1 10 (by decide)
                have b14_v88 : 0 ≤ (v88 14).toInt ∧ (v88 14).toInt ≤ 8 := YIb.b hIv88.1 14 (by decide)
                have b8_v88 : 0 ≤ (v88 8).toInt ∧ (v88 8).toInt ≤ 320 := YIb.b hIv88.1 8 (by decide)
                have b13_v88 : 0 ≤ (v88 13).toInt ∧ (v88 13).toInt ≤ 31 := YIb.b hIv88.1 13 (by decide)
                have pg92 : GR (v79 3).toInt (v79 5).toInt (v88 3).toInt (v88 5).toInt := pg92
                have pg93 : (v88 1).toInt = 0 → FI 1 (v88 10).toInt (v88 14).toInt (v88 8).toInt (f89 6) (f89 2) (f89 3) := pg93
                have pg94 : NB (v88 1).toInt (v88 8).toInt (v88 10).toInt (v88 13).toInt (v88 14).toInt := pg94
                have pg95 : UG (v88 1).toInt (v79 13).toInt (v88 13).toInt := pg95
                have hUv88 : (v88 35).toInt + (v88 36).toInt ≤ 40 := hIv88.2
                have hq0_v88 : v88 0 = (v 0) := hk0_v88.trans hq0_v79
                have hq4_v88 : v88 4 = (v 4) := hk4_v88.trans hq4_v79
                have hq9_v88 : v88 9 = (v 9) := hk9_v88.trans hq9_v79
                have hq15_v88 : v88 15 = 1 := hk15_v88.trans hq15_v79
                have hq17_v88 : v88 17 = (v 17) := hk17_v88.trans hq17_v79
                have hq18_v88 : v88 18 = (v 18) := hk18_v88.trans hq18_v79
                have hq24_v88 : v88 24 = (v 24) := hk24_v88.trans hq24_v79
                have hq25_v88 : v88 25 = (v 25) := hk25_v88.trans hq25_v79
                have hq35_v88 : v88 35 = (v 35) := hk35_v88.trans hq35_v79
                have hq36_v88 : v88 36 = (v 36) := hk36_v88.trans hq36_v79
                have hq38_v88 : v88 38 = (v 38) := hk38_v88.trans hq38_v79
                have hq39_v88 : v88 39 = (v 39) := hk39_v88.trans hq39_v79
                have hGR : GR (v 3).toInt (v 5).toInt (v88 3).toInt (v88 5).toInt := GR.tr hGR (show GR (v79 3).toInt (v79 5).toInt (v88 3).toInt (v88 5).toInt from pg92) (by first | rfl | assumption | omega) (by first | rfl | assumption | omega)
                have hFJ := pg93
                have hNB := pg94
                have hug := UG.or pg95 pg94 (by omega)
                refine lv_goto (tgt := 159) hx hb dX11_formula_154 (by decide) ?_
                refine lv_goto (tgt := 35) hx hb dX11_formula_159 (by decide) ?_
                have rg96 := fb_rng l1_18
                exact ih18 l1_18 v88 f89 w90 g91 hIv88 hCf89 hRf89 hq0_v88 hq4_v88 hq9_v88 hq15_v88 hq17_v88 hq18_v88 hq24_v88 hq25_v88 hq35_v88 hq36_v88 hq38_v88 hq39_v88 ⟨show (0 : Int) ≤ l1_18.toInt by omega, show l1_18.toInt ≤ (1 : Int) by omega⟩ (by show (v88 1).toInt = 0 → FI 1 (v88 10).toInt (v88 14).toInt (v88 8).toInt (f89 6) (f89 2) (f89 3); intro hz9; exact FI.cast (hFJ (by omega)) (by first | rfl | assumption | omega) (by first | rfl | assumption | omega) (by first | rfl | assumption | omega)) (by show NB (v88 1).toInt (v88 8).toInt (v88 10).toInt (v88 13).toInt (v88 14).toInt; exact NB.cast hNB (by first | rfl | assumption | omega) (by first | rfl | assumption | omega) (by first | rfl | assumption | omega) (by first | rfl | assumption | omega) (by first | rfl | assumption | omega)) (by show GR (v 3).toInt (v 5).toInt (v88 3).toInt (v88 5).toInt; exact GR.cast hGR (by first | rfl | assumption | omega) (by first | rfl | assumption | omega)) (by show (1 + 100 * (31 - (v88 13).toInt) + 2 * (v88 10).toInt + l1_18.toInt - 100000 * (v88 1).toInt).toNat < n18; exact msF (by omega) hug (by omega) (by omega) (by omega) (by omega) (by omega) (by omega)) _ _ _ hP hD hS (lv_sub hl [1, 2] rfl)
              refine lv_iload_n hx hb dX11_formula_103 rfl (lv_at hl 0 rfl) ?_
              refine cbSi (n := 1) (rest := []) hx hb hml hown hts hE hP hD hS hA (sY_X11_tight_1 l dC dI cy y0 r r60 v18 f18 w18 g18 hIv18 hCf18 hRf18 ) k_1677 k_1678 k_114 k_1679 (by decide +kernel) ⟨Nat.le_of_ble_eq_true rfl, Nat.le_of_ble_eq_true rfl⟩ (rfl) hl.1 rfl (Nat.le_of_ble_eq_true rfl) dX11_formula_104 (fun r97 u H locs hw hP hD hS => ?_)
              refine lv_iconst (v := 4) hx hb dX11_formula_107 (by decide) ?_
              refine lv_icmp_ne (tgt := 118) hx hb dX11_formula_108 (by decide) (fun c98 => ?_) (fun c98 => ?_)
              · skip
                have zc98 : ¬ (r97.toInt = 4) := by rw [fa_eq, show (4 : Int32).toInt = 4 from by decide] at c98; exact c98
                exact jp118 _ _ _ hP hD hS hl
              · skip
                have zc98 : r97.toInt = 4 := by rw [fa_eq, show (4 : Int32).toInt = 4 from by decide] at c98; exact c98
                refine lv_aload_n hx hb dX11_formula_111 rfl (lv_at hl 2 rfl) ?_
                refine cbVi (n := 0) (rest := []) hx hb hml hown hts hE hP hD hS hA (sY_X11_hasRelation_1 l dC dI cy y0 r  v18 f18 w18 g18 hIv18 hCf18 hRf18 ) k_1712 k_1714 k_67 k_114 k_1715 (by decide +kernel) ⟨Nat.le_of_ble_eq_true rfl, Nat.le_of_ble_eq_true rfl⟩ 0 11 rfl rfl (rfl) hl.1 rfl (Nat.le_of_ble_eq_true rfl) dX11_formula_112 (fun r99 u H locs hw hP hD hS => ?_)
                rcases hw with ⟨g100⟩ | ⟨g100⟩
                · skip
                  subst g100
                  refine lv_if_ne (tgt := 157) hx hb dX11_formula_115 (by decide) (fun _ => ?_) (fun c0 => absurd c0 (by decide))
                  exact jp157 _ _ _ hP hD hS hl
                · skip
                  subst g100
                  refine lv_if_ne (tgt := 157) hx hb dX11_formula_115 (by decide) (fun c0 => absurd (by decide) c0) (fun _ => ?_)
                  exact jp118 _ _ _ hP hD hS hl
          refine lv_aload_n hx hb dX11_formula_51 rfl (lv_at hl 2 rfl) ?_
          refine va_get (D := (dC, dI)) (ci := 11) (v := .int (v18 5)) (C := RX11) (T := TX11) (N := 79) hx hb hts inB_11 hown hE.1 hP 0 rfl rfl 6 (by decide) (hts _ k_1326) (fun _ h9 => h9) rfl dX11_formula_52 ?_
          refine lv_bipush (v := 41) hx hb dX11_formula_55 (by decide) ?_
          refine lv_icmp_ne (tgt := 99) hx hb dX11_formula_57 (by decide) (fun c101 => ?_) (fun c101 => ?_)
          · skip
            have zc101 : ¬ ((v18 5).toInt = 41) := by rw [fa_eq, show (41 : Int32).toInt = 41 from by decide] at c101; exact c101
            exact jp99 _ _ _ hP hD hS hl
          · skip
            have zc101 : (v18 5).toInt = 41 := by rw [fa_eq, show (41 : Int32).toInt = 41 from by decide] at c101; exact c101
            refine lv_aload_n hx hb dX11_formula_60 rfl (lv_at hl 2 rfl) ?_
            refine cbVi (n := 0) (rest := []) hx hb hml hown hts hE hP hD hS hA (sY_X11_hasBracket_1 l dC dI cy y0 r  v18 f18 w18 g18 hIv18 hCf18 hRf18 ) k_1704 k_1706 k_65 k_114 k_1707 (by decide +kernel) ⟨Nat.le_of_ble_eq_true rfl, Nat.le_of_ble_eq_true rfl⟩ 0 11 rfl rfl (rfl) hl.1 rfl (Nat.le_of_ble_eq_true rfl) dX11_formula_61 (fun r102 u H locs hw hP hD hS => ?_)
            rcases hw with ⟨g103, g103_0⟩ | ⟨g103⟩
            · skip
              subst g103
              have hBr := g103_0
              refine lv_if_eq (tgt := 99) hx hb dX11_formula_64 (by decide) (fun c0 => absurd c0 (by decide)) (fun _ => ?_)
              refine lv_aload_n hx hb dX11_formula_67 rfl (lv_at hl 2 rfl) ?_
              refine lv_iconst (v := 0) hx hb dX11_formula_68 (by decide) ?_
              refine cbVv (n := 1) (rest := []) hx hb hml hown hts hE hP hD hS hA (sY_X11_close_1 l dC dI cy y0 r 0 v18 f18 w18 g18 hIv18 hCf18 hRf18 ⟨by decide, by decide⟩ (by have q1 : (0 : Int32).toInt = 0 := (by decide); show (v18 8).toInt + (v18 10).toInt ≤ 310; omega) (by show FI 1 (v18 10).toInt (v18 14).toInt (v18 8).toInt (f18 6) (f18 2) (f18 3); exact FI.cast (hFJ (by omega)) (by first | rfl | assumption | omega) (by first | rfl | assumption | omega) (by first | rfl | assumption | omega))) k_1708 k_1710 k_66 k_114 k_1711 (by decide +kernel) ⟨Nat.le_of_ble_eq_true rfl, Nat.le_of_ble_eq_true rfl⟩ 0 11 rfl rfl (rfl) hl.1 rfl (Nat.le_of_ble_eq_true rfl) dX11_formula_69 (fun u H locs hw hP hD hS => ?_)
              obtain ⟨v104, f105, w106, g107⟩ := u
              obtain ⟨hIv104, hCf105, hRf105, hk0_v104, hk1_v104, hk3_v104, hk4_v104, hk5_v104, hk9_v104, hk13_v104, hk15_v104, hk17_v104, hk18_v104, hk24_v104, hk25_v104, hk35_v104, hk36_v104, hk38_v104, hk39_v104, pv108, pv109, pv110, pv111, pg112, pg113, pg114, kq115⟩ := hw
              have hP : va_P (dC, dI) vwCl (YW cy y0 r v104 f105 w106 g107) H := hP
              have hD : va_D A (YW cy y0 r v104 f105 w106 g107) := hD
              have b8_v104 : 0 ≤ (v104 8).toInt ∧ (v104 8).toInt ≤ 320 := YIb.b hIv104.1 8 (by decide)
              have b10_v104 : 0 ≤ (v104 10).toInt ∧ (v104 10).toInt ≤ 160 := YIb.b hIv104.1 10 (by decide)
              have b14_v104 : 0 ≤ (v104 14).toInt ∧ (v104 14).toInt ≤ 8 := YIb.b hIv104.1 14 (by decide)
              have pv108 : (v104 8).toInt + (v104 10).toInt = (v18 8).toInt + (v18 10).toInt := pv108
              have pv109 : (v104 10).toInt - (v104 14).toInt ≤ (v18 10).toInt - (v18 14).toInt := pv109
              have pv110 : (v104 10).toInt ≤ (v18 10).toInt := pv110
              have pv111 : (v104 14).toInt ≤ (v18 14).toInt := pv111
              have pg112 : FI 1 (v104 10).toInt (v104 14).toInt (v104 8).toInt (f105 6) (f105 2) (f105 3) := pg112
              have pg113 : ∀ k, k < ((v18 10).toInt).toNat → (f18 6) k = 20 → k < ((v104 10).toInt).toNat := pg113
              have pg114 : 0 < (0 : Int32).toInt ∨ (v104 10).toInt = 0 ∨ (f105 6) ((v104 10).toInt - 1).toNat = 20 := pg114
              have hs6_f105 : f105 6 = (f18 6) := kq115
              rw [hs6_f105] at pg112
              rw [hs6_f105] at pg114
              have hUv104 : (v104 35).toInt + (v104 36).toInt ≤ 40 := hIv104.2
              have hq0_v104 : v104 0 = (v 0) := hk0_v104.trans hq0_v18
              have hq1_v104 : v104 1 = (v18 1) := hk1_v104
              have zq1_v104 := congrArg Int32.toInt hq1_v104
              have hq3_v104 : v104 3 = (v18 3) := hk3_v104
              have zq3_v104 := congrArg Int32.toInt hq3_v104
              have hq4_v104 : v104 4 = (v 4) := hk4_v104.trans hq4_v18
              have hq5_v104 : v104 5 = (v18 5) := hk5_v104
              have zq5_v104 := congrArg Int32.toInt hq5_v104
              have hq9_v104 : v104 9 = (v 9) := hk9_v104.trans hq9_v18
              have hq13_v104 : v104 13 = (v18 13) := hk13_v104
              have zq13_v104 := congrArg Int32.toInt hq13_v104
              have hq15_v104 : v104 15 = 1 := hk15_v104.trans hq15_v18
              have hq17_v104 : v104 17 = (v 17) := hk17_v104.trans hq17_v18
              have hq18_v104 : v104 18 = (v 18) := hk18_v104.trans hq18_v18
              have hq24_v104 : v104 24 = (v 24) := hk24_v104.trans hq24_v18
              have hq25_v104 : v104 25 = (v 25) := hk25_v104.trans hq25_v18
              have hq35_v104 : v104 35 = (v 35) := hk35_v104.trans hq35_v18
              have hq36_v104 : v104 36 = (v 36) := hk36_v104.trans hq36_v18
              have hq38_v104 : v104 38 = (v 38) := hk38_v104.trans hq38_v18
              have hq39_v104 : v104 39 = (v 39) := hk39_v104.trans hq39_v18
              have hop : 1 ≤ (v104 10).toInt := by obtain ⟨k9, h91, h92⟩ := hBr; have := pg113 k9 h91 h92; omega
              have htp : (f18 6) ((v104 10).toInt - 1).toNat = 20 := by rcases pg114 with h9 | h9 | h9; exact absurd h9 (by decide); omega; exact h9
              have hFK : FI 1 ((v104 10).toInt - 1) ((v104 14).toInt - 1) (v104 8).toInt (f18 6) (f105 2) (f105 3) := FI.pop pg112 htp (by omega)
              have hdp : 0 ≤ (v104 14).toInt - 1 := FI.nn hFK
              refine lv_aload_n hx hb dX11_formula_72 rfl (lv_at hl 2 rfl) ?_
              refine lv_dup hx hb dX11_formula_73 rfl ?_
              refine va_get (D := (dC, dI)) (ci := 11) (v := .int (v104 10)) (C := RX11) (T := TX11) (N := 79) hx hb hts inB_11 hown hE.1 hP 0 rfl rfl 19 (by decide) (hts _ k_1339) (fun _ h9 => h9) rfl dX11_formula_74 ?_
              have b10_v104 : 0 ≤ (v104 10).toInt ∧ (v104 10).toInt ≤ 160 := YIb.b hIv104.1 10 (by decide)
              refine lv_iconst (v := 1) hx hb dX11_formula_77 (by decide) ?_
              refine lv_isub hx hb dX11_formula_78 ?_
              refine lv_topi (fun t116 et116 => ?_)
              have rg117 := fb_rng (v104 10)
              have zt116 : t116.toInt = (v104 10).toInt - 1 := by rw [et116]; exact sub_i rfl (by decide) (by omega) (by omega)
              refine va_put (D := (dC, dI)) (ci := 11) (v := .int t116) (ty := tyX11 19) (C := RX11) (T := TX11) (N := 79) hx hb hts inB_11 tyX11 tyX11_ok nmX11 hown hE.1 hP hD hS 0 rfl rfl 19 (by decide) (hts _ k_1339) (fun _ h9 => h9) rfl (tyX11_ok 19 (by decide)) rfl rfl (Nat.le_of_ble_eq_true rfl) dX11_formula_79 (fun H locs hP hD hS => ?_)
              have hP : va_P (dC, dI) vwCl (YW cy y0 r (upd v104 10 t116) f105 w106 g107) H := hP
              have hD : va_D A (YW cy y0 r (upd v104 10 t116) f105 w106 g107) := hD
              refine lv_aload_n hx hb dX11_formula_82 rfl (lv_at hl 2 rfl) ?_
              refine lv_dup hx hb dX11_formula_83 rfl ?_
              refine va_get (D := (dC, dI)) (ci := 11) (v := .int (v104 14)) (C := RX11) (T := TX11) (N := 79) hx hb hts inB_11 hown hE.1 hP 0 rfl rfl 23 (by decide) (hts _ k_1343) (fun _ h9 => h9) rfl dX11_formula_84 ?_
              have b14_v104 : 0 ≤ (v104 14).toInt ∧ (v104 14).toInt ≤ 8 := YIb.b hIv104.1 14 (by decide)
              refine lv_iconst (v := 1) hx hb dX11_formula_87 (by decide) ?_
              refine lv_isub hx hb dX11_formula_88 ?_
              refine lv_topi (fun t118 et118 => ?_)
              have rg119 := fb_rng (v104 14)
              have zt118 : t118.toInt = (v104 14).toInt - 1 := by rw [et118]; exact sub_i rfl (by decide) (by omega) (by omega)
              refine va_put (D := (dC, dI)) (ci := 11) (v := .int t118) (ty := tyX11 23) (C := RX11) (T := TX11) (N := 79) hx hb hts inB_11 tyX11 tyX11_ok nmX11 hown hE.1 hP hD hS 0 rfl rfl 23 (by decide) (hts _ k_1343) (fun _ h9 => h9) rfl (tyX11_ok 23 (by decide)) rfl rfl (Nat.le_of_ble_eq_true rfl) dX11_formula_89 (fun H locs hP hD hS => ?_)
              have hP : va_P (dC, dI) vwCl (YW cy y0 r (upd (upd v104 10 t116) 14 t118) f105 w106 g107) H := hP
              have hD : va_D A (YW cy y0 r (upd (upd v104 10 t116) 14 t118) f105 w106 g107) := hD
              refine lv_aload_n hx hb dX11_formula_92 rfl (lv_at hl 2 rfl) ?_
              refine cbVv (n := 0) (rest := []) hx hb hml hown hts hE hP hD hS hA (sY_X11_token_1 l dC dI cy y0 r  (upd (upd v104 10 t116) 14 t118) f105 w106 g107 ⟨(YIb.upd (j := 14) (x := t118) (YIb.upd (j := 10) (x := t116) hIv104.1 (show (0 : Int) ≤ t116.toInt by omega) (show t116.toInt ≤ (160 : Int) by omega)) (show (0 : Int) ≤ t118.toInt by omega) (show t118.toInt ≤ (8 : Int) by omega)), hIv104.2⟩ hCf105 hRf105 ) k_1579 k_1581 k_42 k_114 k_1582 (by decide +kernel) ⟨Nat.le_of_ble_eq_true rfl, Nat.le_of_ble_eq_true rfl⟩ 0 11 rfl rfl (rfl) hl.1 rfl (Nat.le_of_ble_eq_true rfl) dX11_formula_93 (fun u H locs hw hP hD hS => ?_)
              obtain ⟨v120, f121, w122, g123⟩ := u
              obtain ⟨hIv120, hCf121, hRf121, hk0_v120, hk1_v120, hk4_v120, hk8_v120, hk9_v120, hk10_v120, hk13_v120, hk14_v120, hk15_v120, hk17_v120, hk18_v120, hk24_v120, hk25_v120, hk35_v120, hk36_v120, hk38_v120, hk39_v120, pv124, pv125, kq126, kq127, kq128⟩ := hw
              have hP : va_P (dC, dI) vwCl (YW cy y0 r v120 f121 w122 g123) H := hP
              have hD : va_D A (YW cy y0 r v120 f121 w122 g123) := hD
              have b3_v120 : 0 ≤ (v120 3).toInt ∧ (v120 3).toInt ≤ 1600 := YIb.b hIv120.1 3 (by decide)
              have pv124 : (v104 3).toInt ≤ (v120 3).toInt := pv124
              have pv125 : (v120 5).toInt = (v104 5).toInt ∨ (v104 3).toInt < (v120 3).toInt ∨ ¬ (v120 5).toInt = 59 := pv125
              have hs2_f121 : f121 2 = (f105 2) := kq126
              have hs3_f121 : f121 3 = (f105 3) := kq127
              have hs6_f121 : f121 6 = (f18 6) := kq128.trans hs6_f105
              have hUv120 : (v120 35).toInt + (v120 36).toInt ≤ 40 := hIv120.2
              have hq0_v120 : v120 0 = (v 0) := hk0_v120.trans hq0_v104
              have hq1_v120 : v120 1 = (v18 1) := hk1_v120.trans hq1_v104
              have zq1_v120 := congrArg Int32.toInt hq1_v120
              have hq4_v120 : v120 4 = (v 4) := hk4_v120.trans hq4_v104
              have hq8_v120 : v120 8 = (v104 8) := hk8_v120
              have zq8_v120 := congrArg Int32.toInt hq8_v120
              have hq9_v120 : v120 9 = (v 9) := hk9_v120.trans hq9_v104
              have hq10_v120 : v120 10 = t116 := hk10_v120
              have zq10_v120 := congrArg Int32.toInt hq10_v120
              have hq13_v120 : v120 13 = (v18 13) := hk13_v120.trans hq13_v104
              have zq13_v120 := congrArg Int32.toInt hq13_v120
              have hq14_v120 : v120 14 = t118 := hk14_v120
              have zq14_v120 := congrArg Int32.toInt hq14_v120
              have hq15_v120 : v120 15 = 1 := hk15_v120.trans hq15_v104
              have hq17_v120 : v120 17 = (v 17) := hk17_v120.trans hq17_v104
              have hq18_v120 : v120 18 = (v 18) := hk18_v120.trans hq18_v104
              have hq24_v120 : v120 24 = (v 24) := hk24_v120.trans hq24_v104
              have hq25_v120 : v120 25 = (v 25) := hk25_v120.trans hq25_v104
              have hq35_v120 : v120 35 = (v 35) := hk35_v120.trans hq35_v104
              have hq36_v120 : v120 36 = (v 36) := hk36_v120.trans hq36_v104
              have hq38_v120 : v120 38 = (v 38) := hk38_v120.trans hq38_v104
              have hq39_v120 : v120 39 = (v 39) := hk39_v120.trans hq39_v104
              have hGR : GR (v 3).toInt (v 5).toInt (v120 3).toInt (v120 5).toInt := GR.tr hGR (show GR (v104 3).toInt (v104 5).toInt (v120 3).toInt (v120 5).toInt from ⟨pv124, pv125⟩) (by first | rfl | assumption | omega) (by first | rfl | assumption | omega)
              clear pv125
              refine lv_goto (tgt := 159) hx hb dX11_formula_96 (by decide) ?_
              refine lv_goto (tgt := 35) hx hb dX11_formula_159 (by decide) ?_
              have rg129 := fb_rng l1_18
              exact ih18 l1_18 v120 f121 w122 g123 hIv120 hCf121 hRf121 hq0_v120 hq4_v120 hq9_v120 hq15_v120 hq17_v120 hq18_v120 hq24_v120 hq25_v120 hq35_v120 hq36_v120 hq38_v120 hq39_v120 ⟨show (0 : Int) ≤ l1_18.toInt by omega, show l1_18.toInt ≤ (1 : Int) by omega⟩ (by show (v120 1).toInt = 0 → FI 1 (v120 10).toInt (v120 14).toInt (v120 8).toInt (f121 6) (f121 2) (f121 3); rw [hs6_f121, hs2_f121, hs3_f121]; intro hz9; exact FI.cast hFK (by first | rfl | assumption | omega) (by first | rfl | assumption | omega) (by first | rfl | assumption | omega)) (by show NB (v120 1).toInt (v120 8).toInt (v120 10).toInt (v120 13).toInt (v120 14).toInt; exact NB.mk (by omega) (by omega) (by omega) (by omega)) (by show GR (v 3).toInt (v 5).toInt (v120 3).toInt (v120 5).toInt; exact GR.cast hGR (by first | rfl | assumption | omega) (by first | rfl | assumption | omega)) (by show (1 + 100 * (31 - (v120 13).toInt) + 2 * (v120 10).toInt + l1_18.toInt - 100000 * (v120 1).toInt).toNat < n18; omega) _ _ _ hP hD hS (lv_sub hl [1, 2] rfl)
            · skip
              subst g103
              refine lv_if_eq (tgt := 99) hx hb dX11_formula_64 (by decide) (fun _ => ?_) (fun c0 => absurd (by decide) c0)
              exact jp99 _ _ _ hP hD hS hl
  exact lp18 _ 1 v10 f11 w12 g13 hIv10 hCf11 hRf11 hq0_v10 hq4_v10 hq9_v10 hq15_v10 hq17_v10 hq18_v10 hq24_v10 hq25_v10 hq35_v10 hq36_v10 hq38_v10 hq39_v10 ⟨by decide, by decide⟩ (by show (v10 1).toInt = 0 → FI 1 (v10 10).toInt (v10 14).toInt (v10 8).toInt (f11 6) (f11 2) (f11 3); intro hz9; exact FI.cast (hFJ (by omega)) (by first | rfl | assumption | omega) (by first | rfl | assumption | omega) (by first | rfl | assumption | omega)) (by show NB (v10 1).toInt (v10 8).toInt (v10 10).toInt (v10 13).toInt (v10 14).toInt; exact NB.cast hNB (by first | rfl | assumption | omega) (by first | rfl | assumption | omega) (by first | rfl | assumption | omega) (by first | rfl | assumption | omega) (by first | rfl | assumption | omega)) (by show GR (v 3).toInt (v 5).toInt (v10 3).toInt (v10 5).toInt; exact GR.cast hGR (by first | rfl | assumption | omega) (by first | rfl | assumption | omega)) (Nat.lt_succ_self _) _ _ _ hP hD hS (lv_sub hl [0, 1] rfl)
set_option maxHeartbeats 4000000 in
set_option maxRecDepth 100000 in
theorem sY_X11_isOwn_1 (l : Launch) (dC : Nat → ClassId) (dI : Nat → Nat → Nat) (cy : Nat → ClassId) (y0 : Nat) (r : Nat → Nat)  (v : Nat → Int32) (f : Nat → Nat → Int32) (w : Int64) (g : Nat → Int64) (hIv : YI v) (hCf : YC f) (hRf : progOK (f 4) (f 5) (v 9).toInt.toNat)  : ctI l (dC, dI) cy yX11_isOwn cX11_isOwn 1 .boolean 1 60 0 0 Unit [.ref y0] (YW cy y0 r v f w g) (fun r u => ((r = 1) ∨ (r = 0))) (fun u => YW cy y0 r v f w g) := by
  refine ctI_of (by decide) (Nat.le_of_ble_eq_true rfl) (fun p e s m below meth c A ls Q hx hb hml hts hown hE hP hD hA hl ret => ?_)
  have hUv : (v 35).toInt + (v 36).toInt ≤ 40 := hIv.2
  have hown : s.vm.findClass RX11 = some m.cls := hown
  have hS : va_S A s.heap s.heap [] := va_S.rf
  have hl : lv_has ls 1 [(0, .ref y0)] := hl
  refine lv_aload_n hx hb dX11_isOwn_0 rfl (lv_at hl 0 rfl) ?_
  refine va_get (D := (dC, dI)) (ci := 11) (v := .long w) (C := RX11) (T := TX11) (N := 79) hx hb hts inB_11 hown hE.1 hP 0 rfl rfl 9 (by decide) (hts _ k_1329) (fun _ h9 => h9) rfl dX11_isOwn_1 ?_
  refine lv_ldc2 (v := 7168366) hx hb hown (hts _ k_1600) dX11_isOwn_4 ?_
  refine W.lcmp hx hb dX11_isOwn_7 ?_
  refine lv_topi (fun t1 et1 => ?_)
  refine lv_if_eq (tgt := 231) hx hb dX11_isOwn_8 (by decide) (fun c2 => ?_) (fun c2 => ?_)
  · skip
    have zc2 : t1.toInt = 0 := by rw [fa_eq, show (0 : Int32).toInt = 0 from by decide] at c2; exact c2
    refine lv_iconst (v := 1) hx hb dX11_isOwn_231 (by decide) ?_
    refine lv_goto (tgt := 236) hx hb dX11_isOwn_232 (by decide) ?_
    exact ret 1 () _ _ _ _ _ _ rfl (Or.inl rfl) hP hD hS dX11_isOwn_236 (Nat.le_refl _) (Nat.le_refl _)
  · skip
    have zc2 : ¬ (t1.toInt = 0) := by rw [fa_eq, show (0 : Int32).toInt = 0 from by decide] at c2; exact c2
    refine lv_aload_n hx hb dX11_isOwn_11 rfl (lv_at hl 0 rfl) ?_
    refine va_get (D := (dC, dI)) (ci := 11) (v := .long w) (C := RX11) (T := TX11) (N := 79) hx hb hts inB_11 hown hE.1 hP 0 rfl rfl 9 (by decide) (hts _ k_1329) (fun _ h9 => h9) rfl dX11_isOwn_12 ?_
    refine lv_ldc2 (v := 1952541804) hx hb hown (hts _ k_1621) dX11_isOwn_15 ?_
    refine W.lcmp hx hb dX11_isOwn_18 ?_
    refine lv_topi (fun t3 et3 => ?_)
    refine lv_if_eq (tgt := 231) hx hb dX11_isOwn_19 (by decide) (fun c4 => ?_) (fun c4 => ?_)
    · skip
      have zc4 : t3.toInt = 0 := by rw [fa_eq, show (0 : Int32).toInt = 0 from by decide] at c4; exact c4
      refine lv_iconst (v := 1) hx hb dX11_isOwn_231 (by decide) ?_
      refine lv_goto (tgt := 236) hx hb dX11_isOwn_232 (by decide) ?_
      exact ret 1 () _ _ _ _ _ _ rfl (Or.inl rfl) hP hD hS dX11_isOwn_236 (Nat.le_refl _) (Nat.le_refl _)
    · skip
      have zc4 : ¬ (t3.toInt = 0) := by rw [fa_eq, show (0 : Int32).toInt = 0 from by decide] at c4; exact c4
      refine lv_aload_n hx hb dX11_isOwn_22 rfl (lv_at hl 0 rfl) ?_
      refine va_get (D := (dC, dI)) (ci := 11) (v := .long w) (C := RX11) (T := TX11) (N := 79) hx hb hts inB_11 hown hE.1 hP 0 rfl rfl 9 (by decide) (hts _ k_1329) (fun _ h9 => h9) rfl dX11_isOwn_23 ?_
      refine lv_ldc2 (v := 2003395685) hx hb hown (hts _ k_1622) dX11_isOwn_26 ?_
      refine W.lcmp hx hb dX11_isOwn_29 ?_
      refine lv_topi (fun t5 et5 => ?_)
      refine lv_if_eq (tgt := 231) hx hb dX11_isOwn_30 (by decide) (fun c6 => ?_) (fun c6 => ?_)
      · skip
        have zc6 : t5.toInt = 0 := by rw [fa_eq, show (0 : Int32).toInt = 0 from by decide] at c6; exact c6
        refine lv_iconst (v := 1) hx hb dX11_isOwn_231 (by decide) ?_
        refine lv_goto (tgt := 236) hx hb dX11_isOwn_232 (by decide) ?_
        exact ret 1 () _ _ _ _ _ _ rfl (Or.inl rfl) hP hD hS dX11_isOwn_236 (Nat.le_refl _) (Nat.le_refl _)
      · skip
        have zc6 : ¬ (t5.toInt = 0) := by rw [fa_eq, show (0 : Int32).toInt = 0 from by decide] at c6; exact c6
        refine lv_aload_n hx hb dX11_isOwn_33 rfl (lv_at hl 0 rfl) ?_
        refine va_get (D := (dC, dI)) (ci := 11) (v := .long w) (C := RX11) (T := TX11) (N := 79) hx hb hts inB_11 hown hE.1 hP 0 rfl rfl 9 (by decide) (hts _ k_1329) (fun _ h9 => h9) rfl dX11_isOwn_34 ?_
        refine lv_ldc2 (v := 444301539187) hx hb hown (hts _ k_1623) dX11_isOwn_37 ?_
        refine W.lcmp hx hb dX11_isOwn_40 ?_
        refine lv_topi (fun t7 et7 => ?_)
        refine lv_if_eq (tgt := 231) hx hb dX11_isOwn_41 (by decide) (fun c8 => ?_) (fun c8 => ?_)
        · skip
          have zc8 : t7.toInt = 0 := by rw [fa_eq, show (0 : Int32).toInt = 0 from by decide] at c8; exact c8
          refine lv_iconst (v := 1) hx hb dX11_isOwn_231 (by decide) ?_
          refine lv_goto (tgt := 236) hx hb dX11_isOwn_232 (by decide) ?_
          exact ret 1 () _ _ _ _ _ _ rfl (Or.inl rfl) hP hD hS dX11_isOwn_236 (Nat.le_refl _) (Nat.le_refl _)
        · skip
          have zc8 : ¬ (t7.toInt = 0) := by rw [fa_eq, show (0 : Int32).toInt = 0 from by decide] at c8; exact c8
          refine lv_aload_n hx hb dX11_isOwn_44 rfl (lv_at hl 0 rfl) ?_
          refine va_get (D := (dC, dI)) (ci := 11) (v := .long w) (C := RX11) (T := TX11) (N := 79) hx hb hts inB_11 hown hE.1 hP 0 rfl rfl 9 (by decide) (hts _ k_1329) (fun _ h9 => h9) rfl dX11_isOwn_45 ?_
          refine lv_ldc2 (v := 1668243828) hx hb hown (hts _ k_1624) dX11_isOwn_48 ?_
          refine W.lcmp hx hb dX11_isOwn_51 ?_
          refine lv_topi (fun t9 et9 => ?_)
          refine lv_if_eq (tgt := 231) hx hb dX11_isOwn_52 (by decide) (fun c10 => ?_) (fun c10 => ?_)
          · skip
            have zc10 : t9.toInt = 0 := by rw [fa_eq, show (0 : Int32).toInt = 0 from by decide] at c10; exact c10
            refine lv_iconst (v := 1) hx hb dX11_isOwn_231 (by decide) ?_
            refine lv_goto (tgt := 236) hx hb dX11_isOwn_232 (by decide) ?_
            exact ret 1 () _ _ _ _ _ _ rfl (Or.inl rfl) hP hD hS dX11_isOwn_236 (Nat.le_refl _) (Nat.le_refl _)
          · skip
            have zc10 : ¬ (t9.toInt = 0) := by rw [fa_eq, show (0 : Int32).toInt = 0 from by decide] at c10; exact c10
            refine lv_aload_n hx hb dX11_isOwn_55 rfl (lv_at hl 0 rfl) ?_
            refine va_get (D := (dC, dI)) (ci := 11) (v := .long w) (C := RX11) (T := TX11) (N := 79) hx hb hts inB_11 hown hE.1 hP 0 rfl rfl 9 (by decide) (hts _ k_1329) (fun _ h9 => h9) rfl dX11_isOwn_56 ?_
            refine lv_ldc2 (v := 1936023917) hx hb hown (hts _ k_1625) dX11_isOwn_59 ?_
            refine W.lcmp hx hb dX11_isOwn_62 ?_
            refine lv_topi (fun t11 et11 => ?_)
            refine lv_if_eq (tgt := 231) hx hb dX11_isOwn_63 (by decide) (fun c12 => ?_) (fun c12 => ?_)
            · skip
              have zc12 : t11.toInt = 0 := by rw [fa_eq, show (0 : Int32).toInt = 0 from by decide] at c12; exact c12
              refine lv_iconst (v := 1) hx hb dX11_isOwn_231 (by decide) ?_
              refine lv_goto (tgt := 236) hx hb dX11_isOwn_232 (by decide) ?_
              exact ret 1 () _ _ _ _ _ _ rfl (Or.inl rfl) hP hD hS dX11_isOwn_236 (Nat.le_refl _) (Nat.le_refl _)
            · skip
              have zc12 : ¬ (t11.toInt = 0) := by rw [fa_eq, show (0 : Int32).toInt = 0 from by decide] at c12; exact c12
              refine lv_aload_n hx hb dX11_isOwn_66 rfl (lv_at hl 0 rfl) ?_
              refine va_get (D := (dC, dI)) (ci := 11) (v := .long w) (C := RX11) (T := TX11) (N := 79) hx hb hts inB_11 hown hE.1 hP 0 rfl rfl 9 (by decide) (hts _ k_1329) (fun _ h9 => h9) rfl dX11_isOwn_67 ?_
              refine lv_ldc2 (v := 2003792494) hx hb hown (hts _ k_1626) dX11_isOwn_70 ?_
              refine W.lcmp hx hb dX11_isOwn_73 ?_
              refine lv_topi (fun t13 et13 => ?_)
              refine lv_if_eq (tgt := 231) hx hb dX11_isOwn_74 (by decide) (fun c14 => ?_) (fun c14 => ?_)
              · skip
                have zc14 : t13.toInt = 0 := by rw [fa_eq, show (0 : Int32).toInt = 0 from by decide] at c14; exact c14
                refine lv_iconst (v := 1) hx hb dX11_isOwn_231 (by decide) ?_
                refine lv_goto (tgt := 236) hx hb dX11_isOwn_232 (by decide) ?_
                exact ret 1 () _ _ _ _ _ _ rfl (Or.inl rfl) hP hD hS dX11_isOwn_236 (Nat.le_refl _) (Nat.le_refl _)
              · skip
                have zc14 : ¬ (t13.toInt = 0) := by rw [fa_eq, show (0 : Int32).toInt = 0 from by decide] at c14; exact c14
                refine lv_aload_n hx hb dX11_isOwn_77 rfl (lv_at hl 0 rfl) ?_
                refine va_get (D := (dC, dI)) (ci := 11) (v := .long w) (C := RX11) (T := TX11) (N := 79) hx hb hts inB_11 hown hE.1 hP 0 rfl rfl 9 (by decide) (hts _ k_1329) (fun _ h9 => h9) rfl dX11_isOwn_78 ?_
                refine lv_ldc2 (v := 6909036) hx hb hown (hts _ k_1627) dX11_isOwn_81 ?_
                refine W.lcmp hx hb dX11_isOwn_84 ?_
                refine lv_topi (fun t15 et15 => ?_)
                refine lv_if_eq (tgt := 231) hx hb dX11_isOwn_85 (by decide) (fun c16 => ?_) (fun c16 => ?_)
                · skip
                  have zc16 : t15.toInt = 0 := by rw [fa_eq, show (0 : Int32).toInt = 0 from by decide] at c16; exact c16
                  refine lv_iconst (v := 1) hx hb dX11_isOwn_231 (by decide) ?_
                  refine lv_goto (tgt := 236) hx hb dX11_isOwn_232 (by decide) ?_
                  exact ret 1 () _ _ _ _ _ _ rfl (Or.inl rfl) hP hD hS dX11_isOwn_236 (Nat.le_refl _) (Nat.le_refl _)
                · skip
                  have zc16 : ¬ (t15.toInt = 0) := by rw [fa_eq, show (0 : Int32).toInt = 0 from by decide] at c16; exact c16
                  refine lv_aload_n hx hb dX11_isOwn_88 rfl (lv_at hl 0 rfl) ?_
                  refine va_get (D := (dC, dI)) (ci := 11) (v := .long w) (C := RX11) (T := TX11) (N := 79) hx hb hts inB_11 hown hE.1 hP 0 rfl rfl 9 (by decide) (hts _ k_1329) (fun _ h9 => h9) rfl dX11_isOwn_89 ?_
                  refine lv_ldc2 (v := 1700885369) hx hb hown (hts _ k_1628) dX11_isOwn_92 ?_
                  refine W.lcmp hx hb dX11_isOwn_95 ?_
                  refine lv_topi (fun t17 et17 => ?_)
                  refine lv_if_eq (tgt := 231) hx hb dX11_isOwn_96 (by decide) (fun c18 => ?_) (fun c18 => ?_)
                  · skip
                    have zc18 : t17.toInt = 0 := by rw [fa_eq, show (0 : Int32).toInt = 0 from by decide] at c18; exact c18
                    refine lv_iconst (v := 1) hx hb dX11_isOwn_231 (by decide) ?_
                    refine lv_goto (tgt := 236) hx hb dX11_isOwn_232 (by decide) ?_
                    exact ret 1 () _ _ _ _ _ _ rfl (Or.inl rfl) hP hD hS dX11_isOwn_236 (Nat.le_refl _) (Nat.le_refl _)
                  · skip
                    have zc18 : ¬ (t17.toInt = 0) := by rw [fa_eq, show (0 : Int32).toInt = 0 from by decide] at c18; exact c18
                    refine lv_aload_n hx hb dX11_isOwn_99 rfl (lv_at hl 0 rfl) ?_
                    refine va_get (D := (dC, dI)) (ci := 11) (v := .long w) (C := RX11) (T := TX11) (N := 79) hx hb hts inB_11 hown hE.1 hP 0 rfl rfl 9 (by decide) (hts _ k_1329) (fun _ h9 => h9) rfl dX11_isOwn_100 ?_
                    refine lv_ldc2 (v := 1651469428) hx hb hown (hts _ k_1629) dX11_isOwn_103 ?_
                    refine W.lcmp hx hb dX11_isOwn_106 ?_
                    refine lv_topi (fun t19 et19 => ?_)
                    refine lv_if_eq (tgt := 231) hx hb dX11_isOwn_107 (by decide) (fun c20 => ?_) (fun c20 => ?_)
                    · skip
                      have zc20 : t19.toInt = 0 := by rw [fa_eq, show (0 : Int32).toInt = 0 from by decide] at c20; exact c20
                      refine lv_iconst (v := 1) hx hb dX11_isOwn_231 (by decide) ?_
                      refine lv_goto (tgt := 236) hx hb dX11_isOwn_232 (by decide) ?_
                      exact ret 1 () _ _ _ _ _ _ rfl (Or.inl rfl) hP hD hS dX11_isOwn_236 (Nat.le_refl _) (Nat.le_refl _)
                    · skip
                      have zc20 : ¬ (t19.toInt = 0) := by rw [fa_eq, show (0 : Int32).toInt = 0 from by decide] at c20; exact c20
                      refine lv_aload_n hx hb dX11_isOwn_110 rfl (lv_at hl 0 rfl) ?_
                      refine va_get (D := (dC, dI)) (ci := 11) (v := .long w) (C := RX11) (T := TX11) (N := 79) hx hb hts inB_11 hown hE.1 hP 0 rfl rfl 9 (by decide) (hts _ k_1329) (fun _ h9 => h9) rfl dX11_isOwn_111 ?_
                      refine lv_ldc2 (v := 1818848101) hx hb hown (hts _ k_1630) dX11_isOwn_114 ?_
                      refine W.lcmp hx hb dX11_isOwn_117 ?_
                      refine lv_topi (fun t21 et21 => ?_)
                      refine lv_if_eq (tgt := 231) hx hb dX11_isOwn_118 (by decide) (fun c22 => ?_) (fun c22 => ?_)
                      · skip
                        have zc22 : t21.toInt = 0 := by rw [fa_eq, show (0 : Int32).toInt = 0 from by decide] at c22; exact c22
                        refine lv_iconst (v := 1) hx hb dX11_isOwn_231 (by decide) ?_
                        refine lv_goto (tgt := 236) hx hb dX11_isOwn_232 (by decide) ?_
                        exact ret 1 () _ _ _ _ _ _ rfl (Or.inl rfl) hP hD hS dX11_isOwn_236 (Nat.le_refl _) (Nat.le_refl _)
                      · skip
                        have zc22 : ¬ (t21.toInt = 0) := by rw [fa_eq, show (0 : Int32).toInt = 0 from by decide] at c22; exact c22
                        refine lv_aload_n hx hb dX11_isOwn_121 rfl (lv_at hl 0 rfl) ?_
                        refine va_get (D := (dC, dI)) (ci := 11) (v := .long w) (C := RX11) (T := TX11) (N := 79) hx hb hts inB_11 hown hE.1 hP 0 rfl rfl 9 (by decide) (hts _ k_1329) (fun _ h9 => h9) rfl dX11_isOwn_122 ?_
                        refine lv_ldc2 (v := 1918986606) hx hb hown (hts _ k_1631) dX11_isOwn_125 ?_
                        refine W.lcmp hx hb dX11_isOwn_128 ?_
                        refine lv_topi (fun t23 et23 => ?_)
                        refine lv_if_eq (tgt := 231) hx hb dX11_isOwn_129 (by decide) (fun c24 => ?_) (fun c24 => ?_)
                        · skip
                          have zc24 : t23.toInt = 0 := by rw [fa_eq, show (0 : Int32).toInt = 0 from by decide] at c24; exact c24
                          refine lv_iconst (v := 1) hx hb dX11_isOwn_231 (by decide) ?_
                          refine lv_goto (tgt := 236) hx hb dX11_isOwn_232 (by decide) ?_
                          exact ret 1 () _ _ _ _ _ _ rfl (Or.inl rfl) hP hD hS dX11_isOwn_236 (Nat.le_refl _) (Nat.le_refl _)
                        · skip
                          have zc24 : ¬ (t23.toInt = 0) := by rw [fa_eq, show (0 : Int32).toInt = 0 from by decide] at c24; exact c24
                          refine lv_aload_n hx hb dX11_isOwn_132 rfl (lv_at hl 0 rfl) ?_
                          refine va_get (D := (dC, dI)) (ci := 11) (v := .long w) (C := RX11) (T := TX11) (N := 79) hx hb hts inB_11 hown hE.1 hP 0 rfl rfl 9 (by decide) (hts _ k_1329) (fun _ h9 => h9) rfl dX11_isOwn_133 ?_
                          refine lv_ldc2 (v := 1685217655) hx hb hown (hts _ k_1632) dX11_isOwn_136 ?_
                          refine W.lcmp hx hb dX11_isOwn_139 ?_
                          refine lv_topi (fun t25 et25 => ?_)
                          refine lv_if_eq (tgt := 231) hx hb dX11_isOwn_140 (by decide) (fun c26 => ?_) (fun c26 => ?_)
                          · skip
                            have zc26 : t25.toInt = 0 := by rw [fa_eq, show (0 : Int32).toInt = 0 from by decide] at c26; exact c26
                            refine lv_iconst (v := 1) hx hb dX11_isOwn_231 (by decide) ?_
                            refine lv_goto (tgt := 236) hx hb dX11_isOwn_232 (by decide) ?_
                            exact ret 1 () _ _ _ _ _ _ rfl (Or.inl rfl) hP hD hS dX11_isOwn_236 (Nat.le_refl _) (Nat.le_refl _)
                          · skip
                            have zc26 : ¬ (t25.toInt = 0) := by rw [fa_eq, show (0 : Int32).toInt = 0 from by decide] at c26; exact c26
                            refine lv_aload_n hx hb dX11_isOwn_143 rfl (lv_at hl 0 rfl) ?_
                            refine va_get (D := (dC, dI)) (ci := 11) (v := .long w) (C := RX11) (T := TX11) (N := 79) hx hb hts inB_11 hown hE.1 hP 0 rfl rfl 9 (by decide) (hts _ k_1329) (fun _ h9 => h9) rfl dX11_isOwn_144 ?_
                            refine lv_ldc2 (v := 499984590964) hx hb hown (hts _ k_1633) dX11_isOwn_147 ?_
                            refine W.lcmp hx hb dX11_isOwn_150 ?_
                            refine lv_topi (fun t27 et27 => ?_)
                            refine lv_if_eq (tgt := 231) hx hb dX11_isOwn_151 (by decide) (fun c28 => ?_) (fun c28 => ?_)
                            · skip
                              have zc28 : t27.toInt = 0 := by rw [fa_eq, show (0 : Int32).toInt = 0 from by decide] at c28; exact c28
                              refine lv_iconst (v := 1) hx hb dX11_isOwn_231 (by decide) ?_
                              refine lv_goto (tgt := 236) hx hb dX11_isOwn_232 (by decide) ?_
                              exact ret 1 () _ _ _ _ _ _ rfl (Or.inl rfl) hP hD hS dX11_isOwn_236 (Nat.le_refl _) (Nat.le_refl _)
                            · skip
                              have zc28 : ¬ (t27.toInt = 0) := by rw [fa_eq, show (0 : Int32).toInt = 0 from by decide] at c28; exact c28
                              refine lv_aload_n hx hb dX11_isOwn_154 rfl (lv_at hl 0 rfl) ?_
                              refine va_get (D := (dC, dI)) (ci := 11) (v := .long w) (C := RX11) (T := TX11) (N := 79) hx hb hts inB_11 hown hE.1 hP 0 rfl rfl 9 (by decide) (hts _ k_1329) (fun _ h9 => h9) rfl dX11_isOwn_155 ?_
                              refine lv_ldc2 (v := 465726042981) hx hb hown (hts _ k_1634) dX11_isOwn_158 ?_
                              refine W.lcmp hx hb dX11_isOwn_161 ?_
                              refine lv_topi (fun t29 et29 => ?_)
                              refine lv_if_eq (tgt := 231) hx hb dX11_isOwn_162 (by decide) (fun c30 => ?_) (fun c30 => ?_)
                              · skip
                                have zc30 : t29.toInt = 0 := by rw [fa_eq, show (0 : Int32).toInt = 0 from by decide] at c30; exact c30
                                refine lv_iconst (v := 1) hx hb dX11_isOwn_231 (by decide) ?_
                                refine lv_goto (tgt := 236) hx hb dX11_isOwn_232 (by decide) ?_
                                exact ret 1 () _ _ _ _ _ _ rfl (Or.inl rfl) hP hD hS dX11_isOwn_236 (Nat.le_refl _) (Nat.le_refl _)
                              · skip
                                have zc30 : ¬ (t29.toInt = 0) := by rw [fa_eq, show (0 : Int32).toInt = 0 from by decide] at c30; exact c30
                                refine lv_aload_n hx hb dX11_isOwn_165 rfl (lv_at hl 0 rfl) ?_
                                refine va_get (D := (dC, dI)) (ci := 11) (v := .long w) (C := RX11) (T := TX11) (N := 79) hx hb hts inB_11 hown hE.1 hP 0 rfl rfl 9 (by decide) (hts _ k_1329) (fun _ h9 => h9) rfl dX11_isOwn_166 ?_
                                refine lv_ldc2 (v := 495673373300) hx hb hown (hts _ k_1635) dX11_isOwn_169 ?_
                                refine W.lcmp hx hb dX11_isOwn_172 ?_
                                refine lv_topi (fun t31 et31 => ?_)
                                refine lv_if_eq (tgt := 231) hx hb dX11_isOwn_173 (by decide) (fun c32 => ?_) (fun c32 => ?_)
                                · skip
                                  have zc32 : t31.toInt = 0 := by rw [fa_eq, show (0 : Int32).toInt = 0 from by decide] at c32; exact c32
                                  refine lv_iconst (v := 1) hx hb dX11_isOwn_231 (by decide) ?_
                                  refine lv_goto (tgt := 236) hx hb dX11_isOwn_232 (by decide) ?_
                                  exact ret 1 () _ _ _ _ _ _ rfl (Or.inl rfl) hP hD hS dX11_isOwn_236 (Nat.le_refl _) (Nat.le_refl _)
                                · skip
                                  have zc32 : ¬ (t31.toInt = 0) := by rw [fa_eq, show (0 : Int32).toInt = 0 from by decide] at c32; exact c32
                                  refine lv_aload_n hx hb dX11_isOwn_176 rfl (lv_at hl 0 rfl) ?_
                                  refine va_get (D := (dC, dI)) (ci := 11) (v := .long w) (C := RX11) (T := TX11) (N := 79) hx hb hts inB_11 hown hE.1 hP 0 rfl rfl 9 (by decide) (hts _ k_1329) (fun _ h9 => h9) rfl dX11_isOwn_177 ?_
                                  refine lv_ldc2 (v := 1819242087) hx hb hown (hts _ k_1636) dX11_isOwn_180 ?_
                                  refine W.lcmp hx hb dX11_isOwn_183 ?_
                                  refine lv_topi (fun t33 et33 => ?_)
                                  refine lv_if_eq (tgt := 231) hx hb dX11_isOwn_184 (by decide) (fun c34 => ?_) (fun c34 => ?_)
                                  · skip
                                    have zc34 : t33.toInt = 0 := by rw [fa_eq, show (0 : Int32).toInt = 0 from by decide] at c34; exact c34
                                    refine lv_iconst (v := 1) hx hb dX11_isOwn_231 (by decide) ?_
                                    refine lv_goto (tgt := 236) hx hb dX11_isOwn_232 (by decide) ?_
                                    exact ret 1 () _ _ _ _ _ _ rfl (Or.inl rfl) hP hD hS dX11_isOwn_236 (Nat.le_refl _) (Nat.le_refl _)
                                  · skip
                                    have zc34 : ¬ (t33.toInt = 0) := by rw [fa_eq, show (0 : Int32).toInt = 0 from by decide] at c34; exact c34
                                    refine lv_aload_n hx hb dX11_isOwn_187 rfl (lv_at hl 0 rfl) ?_
                                    refine va_get (D := (dC, dI)) (ci := 11) (v := .long w) (C := RX11) (T := TX11) (N := 79) hx hb hts inB_11 hown hE.1 hP 0 rfl rfl 9 (by decide) (hts _ k_1329) (fun _ h9 => h9) rfl dX11_isOwn_188 ?_
                                    refine lv_ldc2 (v := 6578553) hx hb hown (hts _ k_1637) dX11_isOwn_191 ?_
                                    refine W.lcmp hx hb dX11_isOwn_194 ?_
                                    refine lv_topi (fun t35 et35 => ?_)
                                    refine lv_if_eq (tgt := 231) hx hb dX11_isOwn_195 (by decide) (fun c36 => ?_) (fun c36 => ?_)
                                    · skip
                                      have zc36 : t35.toInt = 0 := by rw [fa_eq, show (0 : Int32).toInt = 0 from by decide] at c36; exact c36
                                      refine lv_iconst (v := 1) hx hb dX11_isOwn_231 (by decide) ?_
                                      refine lv_goto (tgt := 236) hx hb dX11_isOwn_232 (by decide) ?_
                                      exact ret 1 () _ _ _ _ _ _ rfl (Or.inl rfl) hP hD hS dX11_isOwn_236 (Nat.le_refl _) (Nat.le_refl _)
                                    · skip
                                      have zc36 : ¬ (t35.toInt = 0) := by rw [fa_eq, show (0 : Int32).toInt = 0 from by decide] at c36; exact c36
                                      refine lv_aload_n hx hb dX11_isOwn_198 rfl (lv_at hl 0 rfl) ?_
                                      refine va_get (D := (dC, dI)) (ci := 11) (v := .long w) (C := RX11) (T := TX11) (N := 79) hx hb hts inB_11 hown hE.1 hP 0 rfl rfl 9 (by decide) (hts _ k_1329) (fun _ h9 => h9) rfl dX11_isOwn_199 ?_
                                      refine lv_ldc2 (v := 6385252) hx hb hown (hts _ k_1638) dX11_isOwn_202 ?_
                                      refine W.lcmp hx hb dX11_isOwn_205 ?_
                                      refine lv_topi (fun t37 et37 => ?_)
                                      refine lv_if_eq (tgt := 231) hx hb dX11_isOwn_206 (by decide) (fun c38 => ?_) (fun c38 => ?_)
                                      · skip
                                        have zc38 : t37.toInt = 0 := by rw [fa_eq, show (0 : Int32).toInt = 0 from by decide] at c38; exact c38
                                        refine lv_iconst (v := 1) hx hb dX11_isOwn_231 (by decide) ?_
                                        refine lv_goto (tgt := 236) hx hb dX11_isOwn_232 (by decide) ?_
                                        exact ret 1 () _ _ _ _ _ _ rfl (Or.inl rfl) hP hD hS dX11_isOwn_236 (Nat.le_refl _) (Nat.le_refl _)
                                      · skip
                                        have zc38 : ¬ (t37.toInt = 0) := by rw [fa_eq, show (0 : Int32).toInt = 0 from by decide] at c38; exact c38
                                        refine lv_aload_n hx hb dX11_isOwn_209 rfl (lv_at hl 0 rfl) ?_
                                        refine va_get (D := (dC, dI)) (ci := 11) (v := .long w) (C := RX11) (T := TX11) (N := 79) hx hb hts inB_11 hown hE.1 hP 0 rfl rfl 9 (by decide) (hts _ k_1329) (fun _ h9 => h9) rfl dX11_isOwn_210 ?_
                                        refine lv_ldc2 (v := 28530) hx hb hown (hts _ k_1639) dX11_isOwn_213 ?_
                                        refine W.lcmp hx hb dX11_isOwn_216 ?_
                                        refine lv_topi (fun t39 et39 => ?_)
                                        refine lv_if_eq (tgt := 231) hx hb dX11_isOwn_217 (by decide) (fun c40 => ?_) (fun c40 => ?_)
                                        · skip
                                          have zc40 : t39.toInt = 0 := by rw [fa_eq, show (0 : Int32).toInt = 0 from by decide] at c40; exact c40
                                          refine lv_iconst (v := 1) hx hb dX11_isOwn_231 (by decide) ?_
                                          refine lv_goto (tgt := 236) hx hb dX11_isOwn_232 (by decide) ?_
                                          exact ret 1 () _ _ _ _ _ _ rfl (Or.inl rfl) hP hD hS dX11_isOwn_236 (Nat.le_refl _) (Nat.le_refl _)
                                        · skip
                                          have zc40 : ¬ (t39.toInt = 0) := by rw [fa_eq, show (0 : Int32).toInt = 0 from by decide] at c40; exact c40
                                          refine lv_aload_n hx hb dX11_isOwn_220 rfl (lv_at hl 0 rfl) ?_
                                          refine va_get (D := (dC, dI)) (ci := 11) (v := .long w) (C := RX11) (T := TX11) (N := 79) hx hb hts inB_11 hown hE.1 hP 0 rfl rfl 9 (by decide) (hts _ k_1329) (fun _ h9 => h9) rfl dX11_isOwn_221 ?_
                                          refine lv_ldc2 (v := 7237492) hx hb hown (hts _ k_1640) dX11_isOwn_224 ?_
                                          refine W.lcmp hx hb dX11_isOwn_227 ?_
                                          refine lv_topi (fun t41 et41 => ?_)
                                          refine lv_if_ne (tgt := 235) hx hb dX11_isOwn_228 (by decide) (fun c42 => ?_) (fun c42 => ?_)
                                          · skip
                                            have zc42 : ¬ (t41.toInt = 0) := by rw [fa_eq, show (0 : Int32).toInt = 0 from by decide] at c42; exact c42
                                            refine lv_iconst (v := 0) hx hb dX11_isOwn_235 (by decide) ?_
                                            exact ret 0 () _ _ _ _ _ _ rfl (Or.inr rfl) hP hD hS dX11_isOwn_236 (Nat.le_refl _) (Nat.le_refl _)
                                          · skip
                                            have zc42 : t41.toInt = 0 := by rw [fa_eq, show (0 : Int32).toInt = 0 from by decide] at c42; exact c42
                                            refine lv_iconst (v := 1) hx hb dX11_isOwn_231 (by decide) ?_
                                            refine lv_goto (tgt := 236) hx hb dX11_isOwn_232 (by decide) ?_
                                            exact ret 1 () _ _ _ _ _ _ rfl (Or.inl rfl) hP hD hS dX11_isOwn_236 (Nat.le_refl _) (Nat.le_refl _)
set_option maxHeartbeats 4000000 in
set_option maxRecDepth 100000 in
theorem sY_X11_isName_1 (l : Launch) (dC : Nat → ClassId) (dI : Nat → Nat → Nat) (cy : Nat → ClassId) (y0 : Nat) (r : Nat → Nat)  (v : Nat → Int32) (f : Nat → Nat → Int32) (w : Int64) (g : Nat → Int64) (hIv : YI v) (hCf : YC f) (hRf : progOK (f 4) (f 5) (v 9).toInt.toNat)  : ctI l (dC, dI) cy yX11_isName cX11_isName 1 .boolean 2 80 0 0 Unit [.ref y0] (YW cy y0 r v f w g) (fun r u => ((r = 1) ∨ (r = 0))) (fun u => YW cy y0 r v f w g) := by
  refine ctI_of (by decide) (Nat.le_of_ble_eq_true rfl) (fun p e s m below meth c A ls Q hx hb hml hts hown hE hP hD hA hl ret => ?_)
  have hUv : (v 35).toInt + (v 36).toInt ≤ 40 := hIv.2
  have hown : s.vm.findClass RX11 = some m.cls := hown
  have hS : va_S A s.heap s.heap [] := va_S.rf
  have hl : lv_has ls 1 [(0, .ref y0)] := hl
  refine lv_aload_n hx hb dX11_isName_0 rfl (lv_at hl 0 rfl) ?_
  refine va_get (D := (dC, dI)) (ci := 11) (v := .int (v 5)) (C := RX11) (T := TX11) (N := 79) hx hb hts inB_11 hown hE.1 hP 0 rfl rfl 6 (by decide) (hts _ k_1326) (fun _ h9 => h9) rfl dX11_isName_1 ?_
  refine lv_iconst (v := 1) hx hb dX11_isName_4 (by decide) ?_
  refine lv_icmp_ne (tgt := 19) hx hb dX11_isName_5 (by decide) (fun c1 => ?_) (fun c1 => ?_)
  · skip
    have zc1 : ¬ ((v 5).toInt = 1) := by rw [fa_eq, show (1 : Int32).toInt = 1 from by decide] at c1; exact c1
    refine lv_iconst (v := 0) hx hb dX11_isName_19 (by decide) ?_
    exact ret 0 () _ _ _ _ _ _ rfl (Or.inr rfl) hP hD hS dX11_isName_20 (Nat.le_refl _) (Nat.le_refl _)
  · skip
    have zc1 : (v 5).toInt = 1 := by rw [fa_eq, show (1 : Int32).toInt = 1 from by decide] at c1; exact c1
    refine lv_aload_n hx hb dX11_isName_8 rfl (lv_at hl 0 rfl) ?_
    refine cbVi (n := 0) (rest := []) hx hb hml hown hts hE hP hD hS hA (sY_X11_isOwn_1 l dC dI cy y0 r  v f w g hIv hCf hRf ) k_1617 k_1619 k_49 k_114 k_1620 (by decide +kernel) ⟨Nat.le_of_ble_eq_true rfl, Nat.le_of_ble_eq_true rfl⟩ 0 11 rfl rfl (rfl) hl.1 rfl (Nat.le_of_ble_eq_true rfl) dX11_isName_9 (fun r2 u H locs hw hP hD hS => ?_)
    rcases hw with ⟨g3⟩ | ⟨g3⟩
    · skip
      subst g3
      refine lv_if_ne (tgt := 19) hx hb dX11_isName_12 (by decide) (fun _ => ?_) (fun c0 => absurd c0 (by decide))
      refine lv_iconst (v := 0) hx hb dX11_isName_19 (by decide) ?_
      exact ret 0 () _ _ _ _ _ _ rfl (Or.inr rfl) hP hD hS dX11_isName_20 (Nat.le_refl _) (Nat.le_refl _)
    · skip
      subst g3
      refine lv_if_ne (tgt := 19) hx hb dX11_isName_12 (by decide) (fun c0 => absurd (by decide) c0) (fun _ => ?_)
      refine lv_iconst (v := 1) hx hb dX11_isName_15 (by decide) ?_
      refine lv_goto (tgt := 20) hx hb dX11_isName_16 (by decide) ?_
      exact ret 1 () _ _ _ _ _ _ rfl (Or.inl rfl) hP hD hS dX11_isName_20 (Nat.le_refl _) (Nat.le_refl _)
set_option maxHeartbeats 4000000 in
set_option maxRecDepth 100000 in
theorem sY_X11_newName_1 (l : Launch) (dC : Nat → ClassId) (dI : Nat → Nat → Nat) (cy : Nat → ClassId) (y0 : Nat) (r : Nat → Nat) (p1 : Int32) (p2 : Int32) (v : Nat → Int32) (f : Nat → Nat → Int32) (w : Int64) (g : Nat → Int64) (hIv : YI v) (hCf : YC f) (hRf : progOK (f 4) (f 5) (v 9).toInt.toNat) (hp1 : (0 : Int) ≤ p1.toInt ∧ p1.toInt ≤ 6) (hp2 : (0 : Int) ≤ p2.toInt ∧ p2.toInt ≤ 5) : ctV l (dC, dI) cy yX11_newName cX11_newName 4 3 103 0 0 ((Nat → Int32) × (Nat → Nat → Int32) × (Int64) × (Nat → Int64)) [.ref y0, .int p1, .int p2] (YW cy y0 r v f w g) (fun u => YI u.1 ∧ YC u.2.1 ∧ progOK (u.2.1 4) (u.2.1 5) (u.1 9).toInt.toNat ∧ u.1 0 = v 0 ∧ u.1 4 = v 4 ∧ u.1 8 = v 8 ∧ u.1 9 = v 9 ∧ u.1 10 = v 10 ∧ u.1 13 = v 13 ∧ u.1 14 = v 14 ∧ u.1 15 = v 15 ∧ u.1 17 = v 17 ∧ u.1 18 = v 18 ∧ u.1 24 = v 24 ∧ u.1 25 = v 25 ∧ u.1 35 = v 35 ∧ u.1 36 = v 36 ∧ u.1 38 = v 38 ∧ u.1 39 = v 39 ∧ ((v 3).toInt ≤ (u.1 3).toInt) ∧ ((u.1 5).toInt = (v 5).toInt ∨ (v 3).toInt < (u.1 3).toInt ∨ ¬ (u.1 5).toInt = 59) ∧ u.2.1 2 = f 2 ∧ u.2.1 3 = f 3 ∧ u.2.1 6 = f 6) (fun u => YW cy y0 r u.1 u.2.1 u.2.2.1 u.2.2.2) := by
  refine ctV_of (by decide) (Nat.le_of_ble_eq_true rfl) (fun p e s m below meth c A ls Q hx hb hml hts hown hnm hE hP hD hA hl ret => ?_)
  have hUv : (v 35).toInt + (v 36).toInt ≤ 40 := hIv.2
  have b0_v : (0 : Int) ≤ (v 0).toInt ∧ (v 0).toInt ≤ 1600 := YIb.b hIv.1 0 (by decide)
  have b1_v : (0 : Int) ≤ (v 1).toInt ∧ (v 1).toInt ≤ 4 := YIb.b hIv.1 1 (by decide)
  have b8_v : (0 : Int) ≤ (v 8).toInt ∧ (v 8).toInt ≤ 320 := YIb.b hIv.1 8 (by decide)
  have b10_v : (0 : Int) ≤ (v 10).toInt ∧ (v 10).toInt ≤ 160 := YIb.b hIv.1 10 (by decide)
  have b13_v : (0 : Int) ≤ (v 13).toInt ∧ (v 13).toInt ≤ 31 := YIb.b hIv.1 13 (by decide)
  have b14_v : (0 : Int) ≤ (v 14).toInt ∧ (v 14).toInt ≤ 8 := YIb.b hIv.1 14 (by decide)
  have b15_v : (0 : Int) ≤ (v 15).toInt ∧ (v 15).toInt ≤ 1 := YIb.b hIv.1 15 (by decide)
  have b17_v : (0 : Int) ≤ (v 17).toInt ∧ (v 17).toInt ≤ 6 := YIb.b hIv.1 17 (by decide)
  have b18_v : (0 : Int) ≤ (v 18).toInt ∧ (v 18).toInt ≤ 6 := YIb.b hIv.1 18 (by decide)
  have hown : s.vm.findClass RX11 = some m.cls := hown
  have hS : va_S A s.heap s.heap [] := va_S.rf
  have hl : lv_has ls 4 [(0, .ref y0), (1, .int p1), (2, .int p2)] := hl
  refine lv_aload_n hx hb dX11_newName_0 rfl (lv_at hl 0 rfl) ?_
  refine cbVv (n := 0) (rest := []) hx hb hml hown hts hE hP hD hS hA (sY_X11_token_1 l dC dI cy y0 r  v f w g hIv hCf hRf ) k_1579 k_1581 k_42 k_114 k_1582 (by decide +kernel) ⟨Nat.le_of_ble_eq_true rfl, Nat.le_of_ble_eq_true rfl⟩ 0 11 rfl rfl (rfl) hl.1 rfl (Nat.le_of_ble_eq_true rfl) dX11_newName_1 (fun u H locs hw hP hD hS => ?_)
  obtain ⟨v1, f2, w3, g4⟩ := u
  obtain ⟨hIv1, hCf2, hRf2, hk0_v1, hk1_v1, hk4_v1, hk8_v1, hk9_v1, hk10_v1, hk13_v1, hk14_v1, hk15_v1, hk17_v1, hk18_v1, hk24_v1, hk25_v1, hk35_v1, hk36_v1, hk38_v1, hk39_v1, pv5, pv6, kq7, kq8, kq9⟩ := hw
  have hP : va_P (dC, dI) vwCl (YW cy y0 r v1 f2 w3 g4) H := hP
  have hD : va_D A (YW cy y0 r v1 f2 w3 g4) := hD
  have b3_v1 : 0 ≤ (v1 3).toInt ∧ (v1 3).toInt ≤ 1600 := YIb.b hIv1.1 3 (by decide)
  have pv5 : (v 3).toInt ≤ (v1 3).toInt := pv5
  have pv6 : (v1 5).toInt = (v 5).toInt ∨ (v 3).toInt < (v1 3).toInt ∨ ¬ (v1 5).toInt = 59 := pv6
  have hs2_f2 : f2 2 = (f 2) := kq7
  have hs3_f2 : f2 3 = (f 3) := kq8
  have hs6_f2 : f2 6 = (f 6) := kq9
  have hUv1 : (v1 35).toInt + (v1 36).toInt ≤ 40 := hIv1.2
  have hq0_v1 : v1 0 = (v 0) := hk0_v1
  have zq0_v1 := congrArg Int32.toInt hq0_v1
  have hq1_v1 : v1 1 = (v 1) := hk1_v1
  have zq1_v1 := congrArg Int32.toInt hq1_v1
  have hq4_v1 : v1 4 = (v 4) := hk4_v1
  have zq4_v1 := congrArg Int32.toInt hq4_v1
  have hq8_v1 : v1 8 = (v 8) := hk8_v1
  have zq8_v1 := congrArg Int32.toInt hq8_v1
  have hq9_v1 : v1 9 = (v 9) := hk9_v1
  have zq9_v1 := congrArg Int32.toInt hq9_v1
  have hq10_v1 : v1 10 = (v 10) := hk10_v1
  have zq10_v1 := congrArg Int32.toInt hq10_v1
  have hq13_v1 : v1 13 = (v 13) := hk13_v1
  have zq13_v1 := congrArg Int32.toInt hq13_v1
  have hq14_v1 : v1 14 = (v 14) := hk14_v1
  have zq14_v1 := congrArg Int32.toInt hq14_v1
  have hq15_v1 : v1 15 = (v 15) := hk15_v1
  have zq15_v1 := congrArg Int32.toInt hq15_v1
  have hq17_v1 : v1 17 = (v 17) := hk17_v1
  have zq17_v1 := congrArg Int32.toInt hq17_v1
  have hq18_v1 : v1 18 = (v 18) := hk18_v1
  have zq18_v1 := congrArg Int32.toInt hq18_v1
  have hq24_v1 : v1 24 = (v 24) := hk24_v1
  have hq25_v1 : v1 25 = (v 25) := hk25_v1
  have hq35_v1 : v1 35 = (v 35) := hk35_v1
  have zq35_v1 := congrArg Int32.toInt hq35_v1
  have hq36_v1 : v1 36 = (v 36) := hk36_v1
  have zq36_v1 := congrArg Int32.toInt hq36_v1
  have hq38_v1 : v1 38 = (v 38) := hk38_v1
  have hq39_v1 : v1 39 = (v 39) := hk39_v1
  refine lv_aload_n hx hb dX11_newName_4 rfl (lv_at hl 0 rfl) ?_
  refine cbVi (n := 0) (rest := []) hx hb hml hown hts hE hP hD hS hA (sY_X11_isName_1 l dC dI cy y0 r  v1 f2 w3 g4 hIv1 hCf2 hRf2 ) k_1613 k_1615 k_48 k_114 k_1616 (by decide +kernel) ⟨Nat.le_of_ble_eq_true rfl, Nat.le_of_ble_eq_true rfl⟩ 0 11 rfl rfl (rfl) hl.1 rfl (Nat.le_of_ble_eq_true rfl) dX11_newName_5 (fun r10 u H locs hw hP hD hS => ?_)
  rcases hw with ⟨g11⟩ | ⟨g11⟩
  · skip
    subst g11
    refine lv_if_ne (tgt := 16) hx hb dX11_newName_8 (by decide) (fun _ => ?_) (fun c0 => absurd c0 (by decide))
    refine lv_iconst (v := 0) hx hb dX11_newName_16 (by decide) ?_
    refine lv_istore_n (lv' := [(3, .int 0), (0, .ref y0), (1, .int p1), (2, .int p2)]) hx hb dX11_newName_17 rfl hl (by decide) rfl (fun ls hl => ?_)
    have lp12 : ∀ (n12 : Nat) (l3_12 : Int32) (v12 : Nat → Int32) (f12 : Nat → Nat → Int32) (w12 : Int64) (g12 : Nat → Int64), YI v12 → YC f12 → progOK (f12 4) (f12 5) (v12 9).toInt.toNat → v12 0 = (v 0) → v12 3 = (v1 3) → v12 4 = (v 4) → v12 5 = (v1 5) → v12 8 = (v 8) → v12 9 = (v 9) → v12 10 = (v 10) → v12 13 = (v 13) → v12 14 = (v 14) → v12 15 = (v 15) → v12 17 = (v 17) → v12 18 = (v 18) → v12 24 = (v 24) → v12 25 = (v 25) → v12 35 = (v 35) → v12 36 = (v 36) → v12 38 = (v 38) → v12 39 = (v 39) → ((0 : Int) ≤ l3_12.toInt ∧ l3_12.toInt ≤ 2147483647) → f12 2 = (f 2) → f12 3 = (f 3) → f12 6 = (f 6) → (2147483647 - l3_12.toInt).toNat < n12 → ∀ (H : Heap) (locs : List Loc) (ls : Array Slot), va_P (dC, dI) vwCl (YW cy y0 r v12 f12 w12 g12) H → va_D A (YW cy y0 r v12 f12 w12 g12) → va_S A s.heap H locs → lv_has ls 4 [(3, .int l3_12), (0, .ref y0), (1, .int p1), (2, .int p2)] → W p l e { frames := 3, cells := 0, slots := 0, locals := 103 } s m ([.ref y0, .int p1, .int p2] : List Value).toArray below meth c H locs 0 0 Q (F0 m 18 ls []) := by
      intro n12
      induction n12 with
      | zero => intro l3_12 v12 f12 w12 g12 hIv12 hCf12 hRf12 hq0_v12 hq3_v12 hq4_v12 hq5_v12 hq8_v12 hq9_v12 hq10_v12 hq13_v12 hq14_v12 hq15_v12 hq17_v12 hq18_v12 hq24_v12 hq25_v12 hq35_v12 hq36_v12 hq38_v12 hq39_v12 hr3_12 hs2_f12 hs3_f12 hs6_f12 hm; exact absurd hm (Nat.not_lt_zero _)
      | succ n12 ih12 =>
        intro l3_12 v12 f12 w12 g12 hIv12 hCf12 hRf12 hq0_v12 hq3_v12 hq4_v12 hq5_v12 hq8_v12 hq9_v12 hq10_v12 hq13_v12 hq14_v12 hq15_v12 hq17_v12 hq18_v12 hq24_v12 hq25_v12 hq35_v12 hq36_v12 hq38_v12 hq39_v12 hr3_12 hs2_f12 hs3_f12 hs6_f12 hm12 H locs ls hP hD hS hl
        have hUv12 : (v12 35).toInt + (v12 36).toInt ≤ 40 := hIv12.2
        have zq0_v12 := congrArg Int32.toInt hq0_v12
        have zq3_v12 := congrArg Int32.toInt hq3_v12
        have zq4_v12 := congrArg Int32.toInt hq4_v12
        have zq5_v12 := congrArg Int32.toInt hq5_v12
        have zq8_v12 := congrArg Int32.toInt hq8_v12
        have zq9_v12 := congrArg Int32.toInt hq9_v12
        have zq10_v12 := congrArg Int32.toInt hq10_v12
        have zq13_v12 := congrArg Int32.toInt hq13_v12
        have zq14_v12 := congrArg Int32.toInt hq14_v12
        have zq15_v12 := congrArg Int32.toInt hq15_v12
        have zq17_v12 := congrArg Int32.toInt hq17_v12
        have zq18_v12 := congrArg Int32.toInt hq18_v12
        have zq35_v12 := congrArg Int32.toInt hq35_v12
        have zq36_v12 := congrArg Int32.toInt hq36_v12
        refine lv_iload_n hx hb dX11_newName_18 rfl (lv_at hl 0 rfl) ?_
        refine lv_iload_n hx hb dX11_newName_19 rfl (lv_at hl 3 rfl) ?_
        refine lv_icmp_ge (tgt := 57) hx hb dX11_newName_20 (by decide) (fun c13 => ?_) (fun c13 => ?_)
        · skip
          have zc13 : p2.toInt ≤ l3_12.toInt := by rw [fa_le] at c13; exact c13
          have rg14 := fb_rng l3_12
          have rg15 := fb_rng p2
          refine lv_aload_n hx hb dX11_newName_57 rfl (lv_at hl 1 rfl) ?_
          refine va_get (D := (dC, dI)) (ci := 11) (v := .int (v12 1)) (C := RX11) (T := TX11) (N := 79) hx hb hts inB_11 hown hE.1 hP 0 rfl rfl 2 (by decide) (hts _ k_1322) (fun _ h9 => h9) rfl dX11_newName_58 ?_
          have b1_v12 : 0 ≤ (v12 1).toInt ∧ (v12 1).toInt ≤ 4 := YIb.b hIv12.1 1 (by decide)
          refine lv_if_le (tgt := 65) hx hb dX11_newName_61 (by decide) (fun c16 => ?_) (fun c16 => ?_)
          · skip
            have zc16 : (v12 1).toInt ≤ 0 := by rw [fa_le, show (0 : Int32).toInt = 0 from by decide] at c16; exact c16
            refine lv_aload_n hx hb dX11_newName_65 rfl (lv_at hl 1 rfl) ?_
            refine va_get (D := (dC, dI)) (ci := 11) (v := .ref (r 10)) (C := RX11) (T := TX11) (N := 79) hx hb hts inB_11 hown hE.1 hP 0 rfl rfl 10 (by decide) (hts _ k_1330) (fun _ h9 => h9) rfl dX11_newName_66 ?_
            refine lv_iload_n hx hb dX11_newName_69 rfl (lv_at hl 2 rfl) ?_
            refine lv_iload_n hx hb dX11_newName_70 rfl (lv_at hl 3 rfl) ?_
            refine lv_iadd hx hb dX11_newName_71 ?_
            refine lv_topi (fun t17 et17 => ?_)
            have rg18 := fb_rng p1
            have zt17 : t17.toInt = p1.toInt + p2.toInt := by rw [et17]; exact add_i rfl rfl (by omega) (by omega)
            refine lv_aload_n hx hb dX11_newName_72 rfl (lv_at hl 1 rfl) ?_
            refine va_get (D := (dC, dI)) (ci := 11) (v := .long w12) (C := RX11) (T := TX11) (N := 79) hx hb hts inB_11 hown hE.1 hP 0 rfl rfl 9 (by decide) (hts _ k_1329) (fun _ h9 => h9) rfl dX11_newName_73 ?_
            refine va_last hx hb hE.1 hP hD hS 2 2 rfl rfl (vp_in_iff.mpr ⟨by omega, by omega⟩) dX11_newName_76 (fun H locs hP hD hS => ?_)
            obtain ⟨g19, hP, hD⟩ : ∃ fz9, va_P (dC, dI) vwCl (YW cy y0 r v12 f12 w12 fz9) H ∧ va_D A (YW cy y0 r v12 f12 w12 fz9) := ⟨_, hP, hD⟩
            refine lv_aload_n hx hb dX11_newName_77 rfl (lv_at hl 1 rfl) ?_
            refine cbVv (n := 0) (rest := []) hx hb hml hown hts hE hP hD hS hA (sY_X11_token_1 l dC dI cy y0 r  v12 f12 w12 g19 hIv12 hCf12 hRf12 ) k_1579 k_1581 k_42 k_114 k_1582 (by decide +kernel) ⟨Nat.le_of_ble_eq_true rfl, Nat.le_of_ble_eq_true rfl⟩ 0 11 rfl rfl (rfl) hl.1 rfl (Nat.le_of_ble_eq_true rfl) dX11_newName_78 (fun u H locs hw hP hD hS => ?_)
            obtain ⟨v20, f21, w22, g23⟩ := u
            obtain ⟨hIv20, hCf21, hRf21, hk0_v20, hk1_v20, hk4_v20, hk8_v20, hk9_v20, hk10_v20, hk13_v20, hk14_v20, hk15_v20, hk17_v20, hk18_v20, hk24_v20, hk25_v20, hk35_v20, hk36_v20, hk38_v20, hk39_v20, pv24, pv25, kq26, kq27, kq28⟩ := hw
            have hP : va_P (dC, dI) vwCl (YW cy y0 r v20 f21 w22 g23) H := hP
            have hD : va_D A (YW cy y0 r v20 f21 w22 g23) := hD
            have b3_v20 : 0 ≤ (v20 3).toInt ∧ (v20 3).toInt ≤ 1600 := YIb.b hIv20.1 3 (by decide)
            have pv24 : (v12 3).toInt ≤ (v20 3).toInt := pv24
            have pv25 : (v20 5).toInt = (v12 5).toInt ∨ (v12 3).toInt < (v20 3).toInt ∨ ¬ (v20 5).toInt = 59 := pv25
            have hs2_f21 : f21 2 = (f 2) := kq26.trans hs2_f12
            have hs3_f21 : f21 3 = (f 3) := kq27.trans hs3_f12
            have hs6_f21 : f21 6 = (f 6) := kq28.trans hs6_f12
            have hUv20 : (v20 35).toInt + (v20 36).toInt ≤ 40 := hIv20.2
            have hq0_v20 : v20 0 = (v 0) := hk0_v20.trans hq0_v12
            have zq0_v20 := congrArg Int32.toInt hq0_v20
            have hq1_v20 : v20 1 = (v12 1) := hk1_v20
            have zq1_v20 := congrArg Int32.toInt hq1_v20
            have hq4_v20 : v20 4 = (v 4) := hk4_v20.trans hq4_v12
            have zq4_v20 := congrArg Int32.toInt hq4_v20
            have hq8_v20 : v20 8 = (v 8) := hk8_v20.trans hq8_v12
            have zq8_v20 := congrArg Int32.toInt hq8_v20
            have hq9_v20 : v20 9 = (v 9) := hk9_v20.trans hq9_v12
            have zq9_v20 := congrArg Int32.toInt hq9_v20
            have hq10_v20 : v20 10 = (v 10) := hk10_v20.trans hq10_v12
            have zq10_v20 := congrArg Int32.toInt hq10_v20
            have hq13_v20 : v20 13 = (v 13) := hk13_v20.trans hq13_v12
            have zq13_v20 := congrArg Int32.toInt hq13_v20
            have hq14_v20 : v20 14 = (v 14) := hk14_v20.trans hq14_v12
            have zq14_v20 := congrArg Int32.toInt hq14_v20
            have hq15_v20 : v20 15 = (v 15) := hk15_v20.trans hq15_v12
            have zq15_v20 := congrArg Int32.toInt hq15_v20
            have hq17_v20 : v20 17 = (v 17) := hk17_v20.trans hq17_v12
            have zq17_v20 := congrArg Int32.toInt hq17_v20
            have hq18_v20 : v20 18 = (v 18) := hk18_v20.trans hq18_v12
            have zq18_v20 := congrArg Int32.toInt hq18_v20
            have hq24_v20 : v20 24 = (v 24) := hk24_v20.trans hq24_v12
            have hq25_v20 : v20 25 = (v 25) := hk25_v20.trans hq25_v12
            have hq35_v20 : v20 35 = (v 35) := hk35_v20.trans hq35_v12
            have zq35_v20 := congrArg Int32.toInt hq35_v20
            have hq36_v20 : v20 36 = (v 36) := hk36_v20.trans hq36_v12
            have zq36_v20 := congrArg Int32.toInt hq36_v20
            have hq38_v20 : v20 38 = (v 38) := hk38_v20.trans hq38_v12
            have hq39_v20 : v20 39 = (v 39) := hk39_v20.trans hq39_v12
            exact ret (v20, f21, w22, g23) _ _ _ _ _ _ ⟨hIv20, hCf21, hRf21, (hk0_v20.trans hq0_v12), (hk4_v20.trans hq4_v12), (hk8_v20.trans hq8_v12), (hk9_v20.trans hq9_v12), (hk10_v20.trans hq10_v12), (hk13_v20.trans hq13_v12), (hk14_v20.trans hq14_v12), (hk15_v20.trans hq15_v12), (hk17_v20.trans hq17_v12), (hk18_v20.trans hq18_v12), (hk24_v20.trans hq24_v12), (hk25_v20.trans hq25_v12), (hk35_v20.trans hq35_v12), (hk36_v20.trans hq36_v12), (hk38_v20.trans hq38_v12), (hk39_v20.trans hq39_v12), (by show (v 3).toInt ≤ (v20 3).toInt; omega), (by show (v20 5).toInt = (v 5).toInt ∨ (v 3).toInt < (v20 3).toInt ∨ ¬ (v20 5).toInt = 59; omega), hs2_f21, hs3_f21, hs6_f21⟩ hP hD hS dX11_newName_81 (Nat.le_refl _) (Nat.le_refl _)
          · skip
            have zc16 : ¬ ((v12 1).toInt ≤ 0) := by rw [fa_le, show (0 : Int32).toInt = 0 from by decide] at c16; exact c16
            exact ret (v12, f12, w12, g12) _ _ _ _ _ _ ⟨hIv12, hCf12, hRf12, hq0_v12, hq4_v12, hq8_v12, hq9_v12, hq10_v12, hq13_v12, hq14_v12, hq15_v12, hq17_v12, hq18_v12, hq24_v12, hq25_v12, hq35_v12, hq36_v12, hq38_v12, hq39_v12, (by show (v 3).toInt ≤ (v12 3).toInt; omega), (by show (v12 5).toInt = (v 5).toInt ∨ (v 3).toInt < (v12 3).toInt ∨ ¬ (v12 5).toInt = 59; omega), hs2_f12, hs3_f12, hs6_f12⟩ hP hD hS dX11_newName_64 (Nat.le_refl _) (Nat.le_refl _)
        · skip
          have zc13 : ¬ (p2.toInt ≤ l3_12.toInt) := by rw [fa_le] at c13; exact c13
          have rg29 := fb_rng l3_12
          have rg30 := fb_rng p2
          refine lv_aload_n hx hb dX11_newName_23 rfl (lv_at hl 1 rfl) ?_
          refine va_get (D := (dC, dI)) (ci := 11) (v := .int (v12 1)) (C := RX11) (T := TX11) (N := 79) hx hb hts inB_11 hown hE.1 hP 0 rfl rfl 2 (by decide) (hts _ k_1322) (fun _ h9 => h9) rfl dX11_newName_24 ?_
          have b1_v12 : 0 ≤ (v12 1).toInt ∧ (v12 1).toInt ≤ 4 := YIb.b hIv12.1 1 (by decide)
          refine lv_if_ne (tgt := 57) hx hb dX11_newName_27 (by decide) (fun c31 => ?_) (fun c31 => ?_)
          · skip
            have zc31 : ¬ ((v12 1).toInt = 0) := by rw [fa_eq, show (0 : Int32).toInt = 0 from by decide] at c31; exact c31
            refine lv_aload_n hx hb dX11_newName_57 rfl (lv_at hl 1 rfl) ?_
            refine va_get (D := (dC, dI)) (ci := 11) (v := .int (v12 1)) (C := RX11) (T := TX11) (N := 79) hx hb hts inB_11 hown hE.1 hP 0 rfl rfl 2 (by decide) (hts _ k_1322) (fun _ h9 => h9) rfl dX11_newName_58 ?_
            refine lv_if_le (tgt := 65) hx hb dX11_newName_61 (by decide) (fun c32 => ?_) (fun c32 => ?_)
            · skip
              have zc32 : (v12 1).toInt ≤ 0 := by rw [fa_le, show (0 : Int32).toInt = 0 from by decide] at c32; exact c32
              refine lv_aload_n hx hb dX11_newName_65 rfl (lv_at hl 1 rfl) ?_
              refine va_get (D := (dC, dI)) (ci := 11) (v := .ref (r 10)) (C := RX11) (T := TX11) (N := 79) hx hb hts inB_11 hown hE.1 hP 0 rfl rfl 10 (by decide) (hts _ k_1330) (fun _ h9 => h9) rfl dX11_newName_66 ?_
              refine lv_iload_n hx hb dX11_newName_69 rfl (lv_at hl 2 rfl) ?_
              refine lv_iload_n hx hb dX11_newName_70 rfl (lv_at hl 3 rfl) ?_
              refine lv_iadd hx hb dX11_newName_71 ?_
              refine lv_topi (fun t33 et33 => ?_)
              have rg34 := fb_rng p1
              have zt33 : t33.toInt = p1.toInt + p2.toInt := by rw [et33]; exact add_i rfl rfl (by omega) (by omega)
              refine lv_aload_n hx hb dX11_newName_72 rfl (lv_at hl 1 rfl) ?_
              refine va_get (D := (dC, dI)) (ci := 11) (v := .long w12) (C := RX11) (T := TX11) (N := 79) hx hb hts inB_11 hown hE.1 hP 0 rfl rfl 9 (by decide) (hts _ k_1329) (fun _ h9 => h9) rfl dX11_newName_73 ?_
              refine va_last hx hb hE.1 hP hD hS 2 2 rfl rfl (vp_in_iff.mpr ⟨by omega, by omega⟩) dX11_newName_76 (fun H locs hP hD hS => ?_)
              obtain ⟨g35, hP, hD⟩ : ∃ fz9, va_P (dC, dI) vwCl (YW cy y0 r v12 f12 w12 fz9) H ∧ va_D A (YW cy y0 r v12 f12 w12 fz9) := ⟨_, hP, hD⟩
              refine lv_aload_n hx hb dX11_newName_77 rfl (lv_at hl 1 rfl) ?_
              refine cbVv (n := 0) (rest := []) hx hb hml hown hts hE hP hD hS hA (sY_X11_token_1 l dC dI cy y0 r  v12 f12 w12 g35 hIv12 hCf12 hRf12 ) k_1579 k_1581 k_42 k_114 k_1582 (by decide +kernel) ⟨Nat.le_of_ble_eq_true rfl, Nat.le_of_ble_eq_true rfl⟩ 0 11 rfl rfl (rfl) hl.1 rfl (Nat.le_of_ble_eq_true rfl) dX11_newName_78 (fun u H locs hw hP hD hS => ?_)
              obtain ⟨v36, f37, w38, g39⟩ := u
              obtain ⟨hIv36, hCf37, hRf37, hk0_v36, hk1_v36, hk4_v36, hk8_v36, hk9_v36, hk10_v36, hk13_v36, hk14_v36, hk15_v36, hk17_v36, hk18_v36, hk24_v36, hk25_v36, hk35_v36, hk36_v36, hk38_v36, hk39_v36, pv40, pv41, kq42, kq43, kq44⟩ := hw
              have hP : va_P (dC, dI) vwCl (YW cy y0 r v36 f37 w38 g39) H := hP
              have hD : va_D A (YW cy y0 r v36 f37 w38 g39) := hD
              have b3_v36 : 0 ≤ (v36 3).toInt ∧ (v36 3).toInt ≤ 1600 := YIb.b hIv36.1 3 (by decide)
              have pv40 : (v12 3).toInt ≤ (v36 3).toInt := pv40
              have pv41 : (v36 5).toInt = (v12 5).toInt ∨ (v12 3).toInt < (v36 3).toInt ∨ ¬ (v36 5).toInt = 59 := pv41
              have hs2_f37 : f37 2 = (f 2) := kq42.trans hs2_f12
              have hs3_f37 : f37 3 = (f 3) := kq43.trans hs3_f12
              have hs6_f37 : f37 6 = (f 6) := kq44.trans hs6_f12
              have hUv36 : (v36 35).toInt + (v36 36).toInt ≤ 40 := hIv36.2
              have hq0_v36 : v36 0 = (v 0) := hk0_v36.trans hq0_v12
              have zq0_v36 := congrArg Int32.toInt hq0_v36
              have hq1_v36 : v36 1 = (v12 1) := hk1_v36
              have zq1_v36 := congrArg Int32.toInt hq1_v36
              have hq4_v36 : v36 4 = (v 4) := hk4_v36.trans hq4_v12
              have zq4_v36 := congrArg Int32.toInt hq4_v36
              have hq8_v36 : v36 8 = (v 8) := hk8_v36.trans hq8_v12
              have zq8_v36 := congrArg Int32.toInt hq8_v36
              have hq9_v36 : v36 9 = (v 9) := hk9_v36.trans hq9_v12
              have zq9_v36 := congrArg Int32.toInt hq9_v36
              have hq10_v36 : v36 10 = (v 10) := hk10_v36.trans hq10_v12
              have zq10_v36 := congrArg Int32.toInt hq10_v36
              have hq13_v36 : v36 13 = (v 13) := hk13_v36.trans hq13_v12
              have zq13_v36 := congrArg Int32.toInt hq13_v36
              have hq14_v36 : v36 14 = (v 14) := hk14_v36.trans hq14_v12
              have zq14_v36 := congrArg Int32.toInt hq14_v36
              have hq15_v36 : v36 15 = (v 15) := hk15_v36.trans hq15_v12
              have zq15_v36 := congrArg Int32.toInt hq15_v36
              have hq17_v36 : v36 17 = (v 17) := hk17_v36.trans hq17_v12
              have zq17_v36 := congrArg Int32.toInt hq17_v36
              have hq18_v36 : v36 18 = (v 18) := hk18_v36.trans hq18_v12
              have zq18_v36 := congrArg Int32.toInt hq18_v36
              have hq24_v36 : v36 24 = (v 24) := hk24_v36.trans hq24_v12
              have hq25_v36 : v36 25 = (v 25) := hk25_v36.trans hq25_v12
              have hq35_v36 : v36 35 = (v 35) := hk35_v36.trans hq35_v12
              have zq35_v36 := congrArg Int32.toInt hq35_v36
              have hq36_v36 : v36 36 = (v 36) := hk36_v36.trans hq36_v12
              have zq36_v36 := congrArg Int32.toInt hq36_v36
              have hq38_v36 : v36 38 = (v 38) := hk38_v36.trans hq38_v12
              have hq39_v36 : v36 39 = (v 39) := hk39_v36.trans hq39_v12
              exact ret (v36, f37, w38, g39) _ _ _ _ _ _ ⟨hIv36, hCf37, hRf37, (hk0_v36.trans hq0_v12), (hk4_v36.trans hq4_v12), (hk8_v36.trans hq8_v12), (hk9_v36.trans hq9_v12), (hk10_v36.trans hq10_v12), (hk13_v36.trans hq13_v12), (hk14_v36.trans hq14_v12), (hk15_v36.trans hq15_v12), (hk17_v36.trans hq17_v12), (hk18_v36.trans hq18_v12), (hk24_v36.trans hq24_v12), (hk25_v36.trans hq25_v12), (hk35_v36.trans hq35_v12), (hk36_v36.trans hq36_v12), (hk38_v36.trans hq38_v12), (hk39_v36.trans hq39_v12), (by show (v 3).toInt ≤ (v36 3).toInt; omega), (by show (v36 5).toInt = (v 5).toInt ∨ (v 3).toInt < (v36 3).toInt ∨ ¬ (v36 5).toInt = 59; omega), hs2_f37, hs3_f37, hs6_f37⟩ hP hD hS dX11_newName_81 (Nat.le_refl _) (Nat.le_refl _)
            · skip
              have zc32 : ¬ ((v12 1).toInt ≤ 0) := by rw [fa_le, show (0 : Int32).toInt = 0 from by decide] at c32; exact c32
              exact ret (v12, f12, w12, g12) _ _ _ _ _ _ ⟨hIv12, hCf12, hRf12, hq0_v12, hq4_v12, hq8_v12, hq9_v12, hq10_v12, hq13_v12, hq14_v12, hq15_v12, hq17_v12, hq18_v12, hq24_v12, hq25_v12, hq35_v12, hq36_v12, hq38_v12, hq39_v12, (by show (v 3).toInt ≤ (v12 3).toInt; omega), (by show (v12 5).toInt = (v 5).toInt ∨ (v 3).toInt < (v12 3).toInt ∨ ¬ (v12 5).toInt = 59; omega), hs2_f12, hs3_f12, hs6_f12⟩ hP hD hS dX11_newName_64 (Nat.le_refl _) (Nat.le_refl _)
          · skip
            have zc31 : (v12 1).toInt = 0 := by rw [fa_eq, show (0 : Int32).toInt = 0 from by decide] at c31; exact c31
            refine lv_aload_n hx hb dX11_newName_30 rfl (lv_at hl 1 rfl) ?_
            refine va_get (D := (dC, dI)) (ci := 11) (v := .ref (r 10)) (C := RX11) (T := TX11) (N := 79) hx hb hts inB_11 hown hE.1 hP 0 rfl rfl 10 (by decide) (hts _ k_1330) (fun _ h9 => h9) rfl dX11_newName_31 ?_
            refine lv_iload_n hx hb dX11_newName_34 rfl (lv_at hl 2 rfl) ?_
            refine lv_iload_n hx hb dX11_newName_35 rfl (lv_at hl 0 rfl) ?_
            refine lv_iadd hx hb dX11_newName_36 ?_
            refine lv_topi (fun t45 et45 => ?_)
            have rg46 := fb_rng p1
            have zt45 : t45.toInt = p1.toInt + l3_12.toInt := by rw [et45]; exact add_i rfl rfl (by omega) (by omega)
            refine va_lald hx hb hE.1 hP 2 2 rfl rfl (vp_in_iff.mpr ⟨by omega, by omega⟩) dX11_newName_37 ?_
            refine lv_topl (fun j47 ej47 => ?_)
            refine lv_aload_n hx hb dX11_newName_38 rfl (lv_at hl 1 rfl) ?_
            refine va_get (D := (dC, dI)) (ci := 11) (v := .long w12) (C := RX11) (T := TX11) (N := 79) hx hb hts inB_11 hown hE.1 hP 0 rfl rfl 9 (by decide) (hts _ k_1329) (fun _ h9 => h9) rfl dX11_newName_39 ?_
            refine W.lcmp hx hb dX11_newName_42 ?_
            refine lv_topi (fun t48 et48 => ?_)
            refine lv_if_ne (tgt := 51) hx hb dX11_newName_43 (by decide) (fun c49 => ?_) (fun c49 => ?_)
            · skip
              have zc49 : ¬ (t48.toInt = 0) := by rw [fa_eq, show (0 : Int32).toInt = 0 from by decide] at c49; exact c49
              obtain ⟨t50, et50⟩ : ∃ y : Int32, y = l3_12 + 1 := ⟨_, rfl⟩
              have zt50 : t50.toInt = l3_12.toInt + 1 := by rw [et50]; exact add_i rfl (by decide) (by omega) (by omega)
              refine lv_iinc (v := t50) (lv' := [(3, .int t50), (0, .ref y0), (1, .int p1), (2, .int p2)]) hx hb dX11_newName_51 hl (k := 0) rfl (by rw [et50]; rfl) (by decide) rfl (fun ls hl => ?_)
              refine lv_goto (tgt := 18) hx hb dX11_newName_54 (by decide) ?_
              have rg51 := fb_rng t50
              exact ih12 t50 v12 f12 w12 g12 hIv12 hCf12 hRf12 hq0_v12 hq3_v12 hq4_v12 hq5_v12 hq8_v12 hq9_v12 hq10_v12 hq13_v12 hq14_v12 hq15_v12 hq17_v12 hq18_v12 hq24_v12 hq25_v12 hq35_v12 hq36_v12 hq38_v12 hq39_v12 ⟨show (0 : Int) ≤ t50.toInt by omega, show t50.toInt ≤ (2147483647 : Int) by omega⟩ hs2_f12 hs3_f12 hs6_f12 (by show (2147483647 - t50.toInt).toNat < n12; omega) _ _ _ hP hD hS (lv_sub hl [0, 1, 2, 3] rfl)
            · skip
              have zc49 : t48.toInt = 0 := by rw [fa_eq, show (0 : Int32).toInt = 0 from by decide] at c49; exact c49
              refine lv_aload_n hx hb dX11_newName_46 rfl (lv_at hl 1 rfl) ?_
              refine lv_iconst (v := 3) hx hb dX11_newName_47 (by decide) ?_
              refine cbVv (n := 1) (rest := []) hx hb hml hown hts hE hP hD hS hA (sY_X11_wrong_1 l dC dI cy y0 r 3 v12 f12 w12 g12 hIv12 hCf12 hRf12 ⟨by decide, by decide⟩) k_1641 k_1643 k_50 k_114 k_1644 (by decide +kernel) ⟨Nat.le_of_ble_eq_true rfl, Nat.le_of_ble_eq_true rfl⟩ 0 11 rfl rfl (rfl) hl.1 rfl (Nat.le_of_ble_eq_true rfl) dX11_newName_48 (fun u H locs hw hP hD hS => ?_)
              obtain ⟨v52, f53, w54, g55⟩ := u
              obtain ⟨hIv52, hCf53, hRf53, hk0_v52, hk3_v52, hk4_v52, hk5_v52, hk8_v52, hk9_v52, hk10_v52, hk13_v52, hk14_v52, hk15_v52, hk17_v52, hk18_v52, hk24_v52, hk25_v52, hk35_v52, hk36_v52, hk38_v52, hk39_v52, pv56, pv57, pv58, kq59, kq60, kq61⟩ := hw
              have hP : va_P (dC, dI) vwCl (YW cy y0 r v52 f53 w54 g55) H := hP
              have hD : va_D A (YW cy y0 r v52 f53 w54 g55) := hD
              have b3_v52 : 0 ≤ (v52 3).toInt ∧ (v52 3).toInt ≤ 1600 := YIb.b hIv52.1 3 (by decide)
              have b1_v52 : 0 ≤ (v52 1).toInt ∧ (v52 1).toInt ≤ 4 := YIb.b hIv52.1 1 (by decide)
              have pv56 : (v12 3).toInt ≤ (v52 3).toInt := pv56
              have pv57 : (v52 5).toInt = (v12 5).toInt ∨ (v12 3).toInt < (v52 3).toInt ∨ ¬ (v52 5).toInt = 59 := pv57
              have pv58 : 0 < (v52 1).toInt := pv58
              have hs2_f53 : f53 2 = (f 2) := kq59.trans hs2_f12
              have hs3_f53 : f53 3 = (f 3) := kq60.trans hs3_f12
              have hs6_f53 : f53 6 = (f 6) := kq61.trans hs6_f12
              have hUv52 : (v52 35).toInt + (v52 36).toInt ≤ 40 := hIv52.2
              have hq0_v52 : v52 0 = (v 0) := hk0_v52.trans hq0_v12
              have zq0_v52 := congrArg Int32.toInt hq0_v52
              have hq3_v52 : v52 3 = (v1 3) := hk3_v52.trans hq3_v12
              have zq3_v52 := congrArg Int32.toInt hq3_v52
              have hq4_v52 : v52 4 = (v 4) := hk4_v52.trans hq4_v12
              have zq4_v52 := congrArg Int32.toInt hq4_v52
              have hq5_v52 : v52 5 = (v1 5) := hk5_v52.trans hq5_v12
              have zq5_v52 := congrArg Int32.toInt hq5_v52
              have hq8_v52 : v52 8 = (v 8) := hk8_v52.trans hq8_v12
              have zq8_v52 := congrArg Int32.toInt hq8_v52
              have hq9_v52 : v52 9 = (v 9) := hk9_v52.trans hq9_v12
              have zq9_v52 := congrArg Int32.toInt hq9_v52
              have hq10_v52 : v52 10 = (v 10) := hk10_v52.trans hq10_v12
              have zq10_v52 := congrArg Int32.toInt hq10_v52
              have hq13_v52 : v52 13 = (v 13) := hk13_v52.trans hq13_v12
              have zq13_v52 := congrArg Int32.toInt hq13_v52
              have hq14_v52 : v52 14 = (v 14) := hk14_v52.trans hq14_v12
              have zq14_v52 := congrArg Int32.toInt hq14_v52
              have hq15_v52 : v52 15 = (v 15) := hk15_v52.trans hq15_v12
              have zq15_v52 := congrArg Int32.toInt hq15_v52
              have hq17_v52 : v52 17 = (v 17) := hk17_v52.trans hq17_v12
              have zq17_v52 := congrArg Int32.toInt hq17_v52
              have hq18_v52 : v52 18 = (v 18) := hk18_v52.trans hq18_v12
              have zq18_v52 := congrArg Int32.toInt hq18_v52
              have hq24_v52 : v52 24 = (v 24) := hk24_v52.trans hq24_v12
              have hq25_v52 : v52 25 = (v 25) := hk25_v52.trans hq25_v12
              have hq35_v52 : v52 35 = (v 35) := hk35_v52.trans hq35_v12
              have zq35_v52 := congrArg Int32.toInt hq35_v52
              have hq36_v52 : v52 36 = (v 36) := hk36_v52.trans hq36_v12
              have zq36_v52 := congrArg Int32.toInt hq36_v52
              have hq38_v52 : v52 38 = (v 38) := hk38_v52.trans hq38_v12
              have hq39_v52 : v52 39 = (v 39) := hk39_v52.trans hq39_v12
              obtain ⟨t62, et62⟩ : ∃ y : Int32, y = l3_12 + 1 := ⟨_, rfl⟩
              have zt62 : t62.toInt = l3_12.toInt + 1 := by rw [et62]; exact add_i rfl (by decide) (by omega) (by omega)
              refine lv_iinc (v := t62) (lv' := [(3, .int t62), (0, .ref y0), (1, .int p1), (2, .int p2)]) hx hb dX11_newName_51 hl (k := 0) rfl (by rw [et62]; rfl) (by decide) rfl (fun ls hl => ?_)
              refine lv_goto (tgt := 18) hx hb dX11_newName_54 (by decide) ?_
              have rg63 := fb_rng t62
              exact ih12 t62 v52 f53 w54 g55 hIv52 hCf53 hRf53 hq0_v52 hq3_v52 hq4_v52 hq5_v52 hq8_v52 hq9_v52 hq10_v52 hq13_v52 hq14_v52 hq15_v52 hq17_v52 hq18_v52 hq24_v52 hq25_v52 hq35_v52 hq36_v52 hq38_v52 hq39_v52 ⟨show (0 : Int) ≤ t62.toInt by omega, show t62.toInt ≤ (2147483647 : Int) by omega⟩ hs2_f53 hs3_f53 hs6_f53 (by show (2147483647 - t62.toInt).toNat < n12; omega) _ _ _ hP hD hS (lv_sub hl [0, 1, 2, 3] rfl)
    exact lp12 _ 0 v1 f2 w3 g4 hIv1 hCf2 hRf2 hq0_v1 rfl hq4_v1 rfl hq8_v1 hq9_v1 hq10_v1 hq13_v1 hq14_v1 hq15_v1 hq17_v1 hq18_v1 hq24_v1 hq25_v1 hq35_v1 hq36_v1 hq38_v1 hq39_v1 ⟨by decide, by decide⟩ hs2_f2 hs3_f2 hs6_f2 (Nat.lt_succ_self _) _ _ _ hP hD hS (lv_sub hl [0, 1, 2, 3] rfl)
  · skip
    subst g11
    refine lv_if_ne (tgt := 16) hx hb dX11_newName_8 (by decide) (fun c0 => absurd (by decide) c0) (fun _ => ?_)
    refine lv_aload_n hx hb dX11_newName_11 rfl (lv_at hl 0 rfl) ?_
    refine lv_iconst (v := 2) hx hb dX11_newName_12 (by decide) ?_
    refine cbVv (n := 1) (rest := []) hx hb hml hown hts hE hP hD hS hA (sY_X11_wrong_1 l dC dI cy y0 r 2 v1 f2 w3 g4 hIv1 hCf2 hRf2 ⟨by decide, by decide⟩) k_1641 k_1643 k_50 k_114 k_1644 (by decide +kernel) ⟨Nat.le_of_ble_eq_true rfl, Nat.le_of_ble_eq_true rfl⟩ 0 11 rfl rfl (rfl) hl.1 rfl (Nat.le_of_ble_eq_true rfl) dX11_newName_13 (fun u H locs hw hP hD hS => ?_)
    obtain ⟨v64, f65, w66, g67⟩ := u
    obtain ⟨hIv64, hCf65, hRf65, hk0_v64, hk3_v64, hk4_v64, hk5_v64, hk8_v64, hk9_v64, hk10_v64, hk13_v64, hk14_v64, hk15_v64, hk17_v64, hk18_v64, hk24_v64, hk25_v64, hk35_v64, hk36_v64, hk38_v64, hk39_v64, pv68, pv69, pv70, kq71, kq72, kq73⟩ := hw
    have hP : va_P (dC, dI) vwCl (YW cy y0 r v64 f65 w66 g67) H := hP
    have hD : va_D A (YW cy y0 r v64 f65 w66 g67) := hD
    have b3_v64 : 0 ≤ (v64 3).toInt ∧ (v64 3).toInt ≤ 1600 := YIb.b hIv64.1 3 (by decide)
    have b1_v64 : 0 ≤ (v64 1).toInt ∧ (v64 1).toInt ≤ 4 := YIb.b hIv64.1 1 (by decide)
    have pv68 : (v1 3).toInt ≤ (v64 3).toInt := pv68
    have pv69 : (v64 5).toInt = (v1 5).toInt ∨ (v1 3).toInt < (v64 3).toInt ∨ ¬ (v64 5).toInt = 59 := pv69
    have pv70 : 0 < (v64 1).toInt := pv70
    have hs2_f65 : f65 2 = (f 2) := kq71.trans hs2_f2
    have hs3_f65 : f65 3 = (f 3) := kq72.trans hs3_f2
    have hs6_f65 : f65 6 = (f 6) := kq73.trans hs6_f2
    have hUv64 : (v64 35).toInt + (v64 36).toInt ≤ 40 := hIv64.2
    have hq0_v64 : v64 0 = (v 0) := hk0_v64.trans hq0_v1
    have zq0_v64 := congrArg Int32.toInt hq0_v64
    have hq3_v64 : v64 3 = (v1 3) := hk3_v64
    have zq3_v64 := congrArg Int32.toInt hq3_v64
    have hq4_v64 : v64 4 = (v 4) := hk4_v64.trans hq4_v1
    have zq4_v64 := congrArg Int32.toInt hq4_v64
    have hq5_v64 : v64 5 = (v1 5) := hk5_v64
    have zq5_v64 := congrArg Int32.toInt hq5_v64
    have hq8_v64 : v64 8 = (v 8) := hk8_v64.trans hq8_v1
    have zq8_v64 := congrArg Int32.toInt hq8_v64
    have hq9_v64 : v64 9 = (v 9) := hk9_v64.trans hq9_v1
    have zq9_v64 := congrArg Int32.toInt hq9_v64
    have hq10_v64 : v64 10 = (v 10) := hk10_v64.trans hq10_v1
    have zq10_v64 := congrArg Int32.toInt hq10_v64
    have hq13_v64 : v64 13 = (v 13) := hk13_v64.trans hq13_v1
    have zq13_v64 := congrArg Int32.toInt hq13_v64
    have hq14_v64 : v64 14 = (v 14) := hk14_v64.trans hq14_v1
    have zq14_v64 := congrArg Int32.toInt hq14_v64
    have hq15_v64 : v64 15 = (v 15) := hk15_v64.trans hq15_v1
    have zq15_v64 := congrArg Int32.toInt hq15_v64
    have hq17_v64 : v64 17 = (v 17) := hk17_v64.trans hq17_v1
    have zq17_v64 := congrArg Int32.toInt hq17_v64
    have hq18_v64 : v64 18 = (v 18) := hk18_v64.trans hq18_v1
    have zq18_v64 := congrArg Int32.toInt hq18_v64
    have hq24_v64 : v64 24 = (v 24) := hk24_v64.trans hq24_v1
    have hq25_v64 : v64 25 = (v 25) := hk25_v64.trans hq25_v1
    have hq35_v64 : v64 35 = (v 35) := hk35_v64.trans hq35_v1
    have zq35_v64 := congrArg Int32.toInt hq35_v64
    have hq36_v64 : v64 36 = (v 36) := hk36_v64.trans hq36_v1
    have zq36_v64 := congrArg Int32.toInt hq36_v64
    have hq38_v64 : v64 38 = (v 38) := hk38_v64.trans hq38_v1
    have hq39_v64 : v64 39 = (v 39) := hk39_v64.trans hq39_v1
    refine lv_iconst (v := 0) hx hb dX11_newName_16 (by decide) ?_
    refine lv_istore_n (lv' := [(3, .int 0), (0, .ref y0), (1, .int p1), (2, .int p2)]) hx hb dX11_newName_17 rfl hl (by decide) rfl (fun ls hl => ?_)
    have lp74 : ∀ (n74 : Nat) (l3_74 : Int32) (v74 : Nat → Int32) (f74 : Nat → Nat → Int32) (w74 : Int64) (g74 : Nat → Int64), YI v74 → YC f74 → progOK (f74 4) (f74 5) (v74 9).toInt.toNat → v74 0 = (v 0) → v74 3 = (v1 3) → v74 4 = (v 4) → v74 5 = (v1 5) → v74 8 = (v 8) → v74 9 = (v 9) → v74 10 = (v 10) → v74 13 = (v 13) → v74 14 = (v 14) → v74 15 = (v 15) → v74 17 = (v 17) → v74 18 = (v 18) → v74 24 = (v 24) → v74 25 = (v 25) → v74 35 = (v 35) → v74 36 = (v 36) → v74 38 = (v 38) → v74 39 = (v 39) → ((0 : Int) ≤ l3_74.toInt ∧ l3_74.toInt ≤ 2147483647) → f74 2 = (f 2) → f74 3 = (f 3) → f74 6 = (f 6) → (2147483647 - l3_74.toInt).toNat < n74 → ∀ (H : Heap) (locs : List Loc) (ls : Array Slot), va_P (dC, dI) vwCl (YW cy y0 r v74 f74 w74 g74) H → va_D A (YW cy y0 r v74 f74 w74 g74) → va_S A s.heap H locs → lv_has ls 4 [(3, .int l3_74), (0, .ref y0), (1, .int p1), (2, .int p2)] → W p l e { frames := 3, cells := 0, slots := 0, locals := 103 } s m ([.ref y0, .int p1, .int p2] : List Value).toArray below meth c H locs 0 0 Q (F0 m 18 ls []) := by
      intro n74
      induction n74 with
      | zero => intro l3_74 v74 f74 w74 g74 hIv74 hCf74 hRf74 hq0_v74 hq3_v74 hq4_v74 hq5_v74 hq8_v74 hq9_v74 hq10_v74 hq13_v74 hq14_v74 hq15_v74 hq17_v74 hq18_v74 hq24_v74 hq25_v74 hq35_v74 hq36_v74 hq38_v74 hq39_v74 hr3_74 hs2_f74 hs3_f74 hs6_f74 hm; exact absurd hm (Nat.not_lt_zero _)
      | succ n74 ih74 =>
        intro l3_74 v74 f74 w74 g74 hIv74 hCf74 hRf74 hq0_v74 hq3_v74 hq4_v74 hq5_v74 hq8_v74 hq9_v74 hq10_v74 hq13_v74 hq14_v74 hq15_v74 hq17_v74 hq18_v74 hq24_v74 hq25_v74 hq35_v74 hq36_v74 hq38_v74 hq39_v74 hr3_74 hs2_f74 hs3_f74 hs6_f74 hm74 H locs ls hP hD hS hl
        have hUv74 : (v74 35).toInt + (v74 36).toInt ≤ 40 := hIv74.2
        have zq0_v74 := congrArg Int32.toInt hq0_v74
        have zq3_v74 := congrArg Int32.toInt hq3_v74
        have zq4_v74 := congrArg Int32.toInt hq4_v74
        have zq5_v74 := congrArg Int32.toInt hq5_v74
        have zq8_v74 := congrArg Int32.toInt hq8_v74
        have zq9_v74 := congrArg Int32.toInt hq9_v74
        have zq10_v74 := congrArg Int32.toInt hq10_v74
        have zq13_v74 := congrArg Int32.toInt hq13_v74
        have zq14_v74 := congrArg Int32.toInt hq14_v74
        have zq15_v74 := congrArg Int32.toInt hq15_v74
        have zq17_v74 := congrArg Int32.toInt hq17_v74
        have zq18_v74 := congrArg Int32.toInt hq18_v74
        have zq35_v74 := congrArg Int32.toInt hq35_v74
        have zq36_v74 := congrArg Int32.toInt hq36_v74
        refine lv_iload_n hx hb dX11_newName_18 rfl (lv_at hl 0 rfl) ?_
        refine lv_iload_n hx hb dX11_newName_19 rfl (lv_at hl 3 rfl) ?_
        refine lv_icmp_ge (tgt := 57) hx hb dX11_newName_20 (by decide) (fun c75 => ?_) (fun c75 => ?_)
        · skip
          have zc75 : p2.toInt ≤ l3_74.toInt := by rw [fa_le] at c75; exact c75
          have rg76 := fb_rng l3_74
          have rg77 := fb_rng p2
          refine lv_aload_n hx hb dX11_newName_57 rfl (lv_at hl 1 rfl) ?_
          refine va_get (D := (dC, dI)) (ci := 11) (v := .int (v74 1)) (C := RX11) (T := TX11) (N := 79) hx hb hts inB_11 hown hE.1 hP 0 rfl rfl 2 (by decide) (hts _ k_1322) (fun _ h9 => h9) rfl dX11_newName_58 ?_
          have b1_v74 : 0 ≤ (v74 1).toInt ∧ (v74 1).toInt ≤ 4 := YIb.b hIv74.1 1 (by decide)
          refine lv_if_le (tgt := 65) hx hb dX11_newName_61 (by decide) (fun c78 => ?_) (fun c78 => ?_)
          · skip
            have zc78 : (v74 1).toInt ≤ 0 := by rw [fa_le, show (0 : Int32).toInt = 0 from by decide] at c78; exact c78
            refine lv_aload_n hx hb dX11_newName_65 rfl (lv_at hl 1 rfl) ?_
            refine va_get (D := (dC, dI)) (ci := 11) (v := .ref (r 10)) (C := RX11) (T := TX11) (N := 79) hx hb hts inB_11 hown hE.1 hP 0 rfl rfl 10 (by decide) (hts _ k_1330) (fun _ h9 => h9) rfl dX11_newName_66 ?_
            refine lv_iload_n hx hb dX11_newName_69 rfl (lv_at hl 2 rfl) ?_
            refine lv_iload_n hx hb dX11_newName_70 rfl (lv_at hl 3 rfl) ?_
            refine lv_iadd hx hb dX11_newName_71 ?_
            refine lv_topi (fun t79 et79 => ?_)
            have rg80 := fb_rng p1
            have zt79 : t79.toInt = p1.toInt + p2.toInt := by rw [et79]; exact add_i rfl rfl (by omega) (by omega)
            refine lv_aload_n hx hb dX11_newName_72 rfl (lv_at hl 1 rfl) ?_
            refine va_get (D := (dC, dI)) (ci := 11) (v := .long w74) (C := RX11) (T := TX11) (N := 79) hx hb hts inB_11 hown hE.1 hP 0 rfl rfl 9 (by decide) (hts _ k_1329) (fun _ h9 => h9) rfl dX11_newName_73 ?_
            refine va_last hx hb hE.1 hP hD hS 2 2 rfl rfl (vp_in_iff.mpr ⟨by omega, by omega⟩) dX11_newName_76 (fun H locs hP hD hS => ?_)
            obtain ⟨g81, hP, hD⟩ : ∃ fz9, va_P (dC, dI) vwCl (YW cy y0 r v74 f74 w74 fz9) H ∧ va_D A (YW cy y0 r v74 f74 w74 fz9) := ⟨_, hP, hD⟩
            refine lv_aload_n hx hb dX11_newName_77 rfl (lv_at hl 1 rfl) ?_
            refine cbVv (n := 0) (rest := []) hx hb hml hown hts hE hP hD hS hA (sY_X11_token_1 l dC dI cy y0 r  v74 f74 w74 g81 hIv74 hCf74 hRf74 ) k_1579 k_1581 k_42 k_114 k_1582 (by decide +kernel) ⟨Nat.le_of_ble_eq_true rfl, Nat.le_of_ble_eq_true rfl⟩ 0 11 rfl rfl (rfl) hl.1 rfl (Nat.le_of_ble_eq_true rfl) dX11_newName_78 (fun u H locs hw hP hD hS => ?_)
            obtain ⟨v82, f83, w84, g85⟩ := u
            obtain ⟨hIv82, hCf83, hRf83, hk0_v82, hk1_v82, hk4_v82, hk8_v82, hk9_v82, hk10_v82, hk13_v82, hk14_v82, hk15_v82, hk17_v82, hk18_v82, hk24_v82, hk25_v82, hk35_v82, hk36_v82, hk38_v82, hk39_v82, pv86, pv87, kq88, kq89, kq90⟩ := hw
            have hP : va_P (dC, dI) vwCl (YW cy y0 r v82 f83 w84 g85) H := hP
            have hD : va_D A (YW cy y0 r v82 f83 w84 g85) := hD
            have b3_v82 : 0 ≤ (v82 3).toInt ∧ (v82 3).toInt ≤ 1600 := YIb.b hIv82.1 3 (by decide)
            have pv86 : (v74 3).toInt ≤ (v82 3).toInt := pv86
            have pv87 : (v82 5).toInt = (v74 5).toInt ∨ (v74 3).toInt < (v82 3).toInt ∨ ¬ (v82 5).toInt = 59 := pv87
            have hs2_f83 : f83 2 = (f 2) := kq88.trans hs2_f74
            have hs3_f83 : f83 3 = (f 3) := kq89.trans hs3_f74
            have hs6_f83 : f83 6 = (f 6) := kq90.trans hs6_f74
            have hUv82 : (v82 35).toInt + (v82 36).toInt ≤ 40 := hIv82.2
            have hq0_v82 : v82 0 = (v 0) := hk0_v82.trans hq0_v74
            have zq0_v82 := congrArg Int32.toInt hq0_v82
            have hq1_v82 : v82 1 = (v74 1) := hk1_v82
            have zq1_v82 := congrArg Int32.toInt hq1_v82
            have hq4_v82 : v82 4 = (v 4) := hk4_v82.trans hq4_v74
            have zq4_v82 := congrArg Int32.toInt hq4_v82
            have hq8_v82 : v82 8 = (v 8) := hk8_v82.trans hq8_v74
            have zq8_v82 := congrArg Int32.toInt hq8_v82
            have hq9_v82 : v82 9 = (v 9) := hk9_v82.trans hq9_v74
            have zq9_v82 := congrArg Int32.toInt hq9_v82
            have hq10_v82 : v82 10 = (v 10) := hk10_v82.trans hq10_v74
            have zq10_v82 := congrArg Int32.toInt hq10_v82
            have hq13_v82 : v82 13 = (v 13) := hk13_v82.trans hq13_v74
            have zq13_v82 := congrArg Int32.toInt hq13_v82
            have hq14_v82 : v82 14 = (v 14) := hk14_v82.trans hq14_v74
            have zq14_v82 := congrArg Int32.toInt hq14_v82
            have hq15_v82 : v82 15 = (v 15) := hk15_v82.trans hq15_v74
            have zq15_v82 := congrArg Int32.toInt hq15_v82
            have hq17_v82 : v82 17 = (v 17) := hk17_v82.trans hq17_v74
            have zq17_v82 := congrArg Int32.toInt hq17_v82
            have hq18_v82 : v82 18 = (v 18) := hk18_v82.trans hq18_v74
            have zq18_v82 := congrArg Int32.toInt hq18_v82
            have hq24_v82 : v82 24 = (v 24) := hk24_v82.trans hq24_v74
            have hq25_v82 : v82 25 = (v 25) := hk25_v82.trans hq25_v74
            have hq35_v82 : v82 35 = (v 35) := hk35_v82.trans hq35_v74
            have zq35_v82 := congrArg Int32.toInt hq35_v82
            have hq36_v82 : v82 36 = (v 36) := hk36_v82.trans hq36_v74
            have zq36_v82 := congrArg Int32.toInt hq36_v82
            have hq38_v82 : v82 38 = (v 38) := hk38_v82.trans hq38_v74
            have hq39_v82 : v82 39 = (v 39) := hk39_v82.trans hq39_v74
            exact ret (v82, f83, w84, g85) _ _ _ _ _ _ ⟨hIv82, hCf83, hRf83, (hk0_v82.trans hq0_v74), (hk4_v82.trans hq4_v74), (hk8_v82.trans hq8_v74), (hk9_v82.trans hq9_v74), (hk10_v82.trans hq10_v74), (hk13_v82.trans hq13_v74), (hk14_v82.trans hq14_v74), (hk15_v82.trans hq15_v74), (hk17_v82.trans hq17_v74), (hk18_v82.trans hq18_v74), (hk24_v82.trans hq24_v74), (hk25_v82.trans hq25_v74), (hk35_v82.trans hq35_v74), (hk36_v82.trans hq36_v74), (hk38_v82.trans hq38_v74), (hk39_v82.trans hq39_v74), (by show (v 3).toInt ≤ (v82 3).toInt; omega), (by show (v82 5).toInt = (v 5).toInt ∨ (v 3).toInt < (v82 3).toInt ∨ ¬ (v82 5).toInt = 59; omega), hs2_f83, hs3_f83, hs6_f83⟩ hP hD hS dX11_newName_81 (Nat.le_refl _) (Nat.le_refl _)
          · skip
            have zc78 : ¬ ((v74 1).toInt ≤ 0) := by rw [fa_le, show (0 : Int32).toInt = 0 from by decide] at c78; exact c78
            exact ret (v74, f74, w74, g74) _ _ _ _ _ _ ⟨hIv74, hCf74, hRf74, hq0_v74, hq4_v74, hq8_v74, hq9_v74, hq10_v74, hq13_v74, hq14_v74, hq15_v74, hq17_v74, hq18_v74, hq24_v74, hq25_v74, hq35_v74, hq36_v74, hq38_v74, hq39_v74, (by show (v 3).toInt ≤ (v74 3).toInt; omega), (by show (v74 5).toInt = (v 5).toInt ∨ (v 3).toInt < (v74 3).toInt ∨ ¬ (v74 5).toInt = 59; omega), hs2_f74, hs3_f74, hs6_f74⟩ hP hD hS dX11_newName_64 (Nat.le_refl _) (Nat.le_refl _)
        · skip
          have zc75 : ¬ (p2.toInt ≤ l3_74.toInt) := by rw [fa_le] at c75; exact c75
          have rg91 := fb_rng l3_74
          have rg92 := fb_rng p2
          refine lv_aload_n hx hb dX11_newName_23 rfl (lv_at hl 1 rfl) ?_
          refine va_get (D := (dC, dI)) (ci := 11) (v := .int (v74 1)) (C := RX11) (T := TX11) (N := 79) hx hb hts inB_11 hown hE.1 hP 0 rfl rfl 2 (by decide) (hts _ k_1322) (fun _ h9 => h9) rfl dX11_newName_24 ?_
          have b1_v74 : 0 ≤ (v74 1).toInt ∧ (v74 1).toInt ≤ 4 := YIb.b hIv74.1 1 (by decide)
          refine lv_if_ne (tgt := 57) hx hb dX11_newName_27 (by decide) (fun c93 => ?_) (fun c93 => ?_)
          · skip
            have zc93 : ¬ ((v74 1).toInt = 0) := by rw [fa_eq, show (0 : Int32).toInt = 0 from by decide] at c93; exact c93
            refine lv_aload_n hx hb dX11_newName_57 rfl (lv_at hl 1 rfl) ?_
            refine va_get (D := (dC, dI)) (ci := 11) (v := .int (v74 1)) (C := RX11) (T := TX11) (N := 79) hx hb hts inB_11 hown hE.1 hP 0 rfl rfl 2 (by decide) (hts _ k_1322) (fun _ h9 => h9) rfl dX11_newName_58 ?_
            refine lv_if_le (tgt := 65) hx hb dX11_newName_61 (by decide) (fun c94 => ?_) (fun c94 => ?_)
            · skip
              have zc94 : (v74 1).toInt ≤ 0 := by rw [fa_le, show (0 : Int32).toInt = 0 from by decide] at c94; exact c94
              refine lv_aload_n hx hb dX11_newName_65 rfl (lv_at hl 1 rfl) ?_
              refine va_get (D := (dC, dI)) (ci := 11) (v := .ref (r 10)) (C := RX11) (T := TX11) (N := 79) hx hb hts inB_11 hown hE.1 hP 0 rfl rfl 10 (by decide) (hts _ k_1330) (fun _ h9 => h9) rfl dX11_newName_66 ?_
              refine lv_iload_n hx hb dX11_newName_69 rfl (lv_at hl 2 rfl) ?_
              refine lv_iload_n hx hb dX11_newName_70 rfl (lv_at hl 3 rfl) ?_
              refine lv_iadd hx hb dX11_newName_71 ?_
              refine lv_topi (fun t95 et95 => ?_)
              have rg96 := fb_rng p1
              have zt95 : t95.toInt = p1.toInt + p2.toInt := by rw [et95]; exact add_i rfl rfl (by omega) (by omega)
              refine lv_aload_n hx hb dX11_newName_72 rfl (lv_at hl 1 rfl) ?_
              refine va_get (D := (dC, dI)) (ci := 11) (v := .long w74) (C := RX11) (T := TX11) (N := 79) hx hb hts inB_11 hown hE.1 hP 0 rfl rfl 9 (by decide) (hts _ k_1329) (fun _ h9 => h9) rfl dX11_newName_73 ?_
              refine va_last hx hb hE.1 hP hD hS 2 2 rfl rfl (vp_in_iff.mpr ⟨by omega, by omega⟩) dX11_newName_76 (fun H locs hP hD hS => ?_)
              obtain ⟨g97, hP, hD⟩ : ∃ fz9, va_P (dC, dI) vwCl (YW cy y0 r v74 f74 w74 fz9) H ∧ va_D A (YW cy y0 r v74 f74 w74 fz9) := ⟨_, hP, hD⟩
              refine lv_aload_n hx hb dX11_newName_77 rfl (lv_at hl 1 rfl) ?_
              refine cbVv (n := 0) (rest := []) hx hb hml hown hts hE hP hD hS hA (sY_X11_token_1 l dC dI cy y0 r  v74 f74 w74 g97 hIv74 hCf74 hRf74 ) k_1579 k_1581 k_42 k_114 k_1582 (by decide +kernel) ⟨Nat.le_of_ble_eq_true rfl, Nat.le_of_ble_eq_true rfl⟩ 0 11 rfl rfl (rfl) hl.1 rfl (Nat.le_of_ble_eq_true rfl) dX11_newName_78 (fun u H locs hw hP hD hS => ?_)
              obtain ⟨v98, f99, w100, g101⟩ := u
              obtain ⟨hIv98, hCf99, hRf99, hk0_v98, hk1_v98, hk4_v98, hk8_v98, hk9_v98, hk10_v98, hk13_v98, hk14_v98, hk15_v98, hk17_v98, hk18_v98, hk24_v98, hk25_v98, hk35_v98, hk36_v98, hk38_v98, hk39_v98, pv102, pv103, kq104, kq105, kq106⟩ := hw
              have hP : va_P (dC, dI) vwCl (YW cy y0 r v98 f99 w100 g101) H := hP
              have hD : va_D A (YW cy y0 r v98 f99 w100 g101) := hD
              have b3_v98 : 0 ≤ (v98 3).toInt ∧ (v98 3).toInt ≤ 1600 := YIb.b hIv98.1 3 (by decide)
              have pv102 : (v74 3).toInt ≤ (v98 3).toInt := pv102
              have pv103 : (v98 5).toInt = (v74 5).toInt ∨ (v74 3).toInt < (v98 3).toInt ∨ ¬ (v98 5).toInt = 59 := pv103
              have hs2_f99 : f99 2 = (f 2) := kq104.trans hs2_f74
              have hs3_f99 : f99 3 = (f 3) := kq105.trans hs3_f74
              have hs6_f99 : f99 6 = (f 6) := kq106.trans hs6_f74
              have hUv98 : (v98 35).toInt + (v98 36).toInt ≤ 40 := hIv98.2
              have hq0_v98 : v98 0 = (v 0) := hk0_v98.trans hq0_v74
              have zq0_v98 := congrArg Int32.toInt hq0_v98
              have hq1_v98 : v98 1 = (v74 1) := hk1_v98
              have zq1_v98 := congrArg Int32.toInt hq1_v98
              have hq4_v98 : v98 4 = (v 4) := hk4_v98.trans hq4_v74
              have zq4_v98 := congrArg Int32.toInt hq4_v98
              have hq8_v98 : v98 8 = (v 8) := hk8_v98.trans hq8_v74
              have zq8_v98 := congrArg Int32.toInt hq8_v98
              have hq9_v98 : v98 9 = (v 9) := hk9_v98.trans hq9_v74
              have zq9_v98 := congrArg Int32.toInt hq9_v98
              have hq10_v98 : v98 10 = (v 10) := hk10_v98.trans hq10_v74
              have zq10_v98 := congrArg Int32.toInt hq10_v98
              have hq13_v98 : v98 13 = (v 13) := hk13_v98.trans hq13_v74
              have zq13_v98 := congrArg Int32.toInt hq13_v98
              have hq14_v98 : v98 14 = (v 14) := hk14_v98.trans hq14_v74
              have zq14_v98 := congrArg Int32.toInt hq14_v98
              have hq15_v98 : v98 15 = (v 15) := hk15_v98.trans hq15_v74
              have zq15_v98 := congrArg Int32.toInt hq15_v98
              have hq17_v98 : v98 17 = (v 17) := hk17_v98.trans hq17_v74
              have zq17_v98 := congrArg Int32.toInt hq17_v98
              have hq18_v98 : v98 18 = (v 18) := hk18_v98.trans hq18_v74
              have zq18_v98 := congrArg Int32.toInt hq18_v98
              have hq24_v98 : v98 24 = (v 24) := hk24_v98.trans hq24_v74
              have hq25_v98 : v98 25 = (v 25) := hk25_v98.trans hq25_v74
              have hq35_v98 : v98 35 = (v 35) := hk35_v98.trans hq35_v74
              have zq35_v98 := congrArg Int32.toInt hq35_v98
              have hq36_v98 : v98 36 = (v 36) := hk36_v98.trans hq36_v74
              have zq36_v98 := congrArg Int32.toInt hq36_v98
              have hq38_v98 : v98 38 = (v 38) := hk38_v98.trans hq38_v74
              have hq39_v98 : v98 39 = (v 39) := hk39_v98.trans hq39_v74
              exact ret (v98, f99, w100, g101) _ _ _ _ _ _ ⟨hIv98, hCf99, hRf99, (hk0_v98.trans hq0_v74), (hk4_v98.trans hq4_v74), (hk8_v98.trans hq8_v74), (hk9_v98.trans hq9_v74), (hk10_v98.trans hq10_v74), (hk13_v98.trans hq13_v74), (hk14_v98.trans hq14_v74), (hk15_v98.trans hq15_v74), (hk17_v98.trans hq17_v74), (hk18_v98.trans hq18_v74), (hk24_v98.trans hq24_v74), (hk25_v98.trans hq25_v74), (hk35_v98.trans hq35_v74), (hk36_v98.trans hq36_v74), (hk38_v98.trans hq38_v74), (hk39_v98.trans hq39_v74), (by show (v 3).toInt ≤ (v98 3).toInt; omega), (by show (v98 5).toInt = (v 5).toInt ∨ (v 3).toInt < (v98 3).toInt ∨ ¬ (v98 5).toInt = 59; omega), hs2_f99, hs3_f99, hs6_f99⟩ hP hD hS dX11_newName_81 (Nat.le_refl _) (Nat.le_refl _)
            · skip
              have zc94 : ¬ ((v74 1).toInt ≤ 0) := by rw [fa_le, show (0 : Int32).toInt = 0 from by decide] at c94; exact c94
              exact ret (v74, f74, w74, g74) _ _ _ _ _ _ ⟨hIv74, hCf74, hRf74, hq0_v74, hq4_v74, hq8_v74, hq9_v74, hq10_v74, hq13_v74, hq14_v74, hq15_v74, hq17_v74, hq18_v74, hq24_v74, hq25_v74, hq35_v74, hq36_v74, hq38_v74, hq39_v74, (by show (v 3).toInt ≤ (v74 3).toInt; omega), (by show (v74 5).toInt = (v 5).toInt ∨ (v 3).toInt < (v74 3).toInt ∨ ¬ (v74 5).toInt = 59; omega), hs2_f74, hs3_f74, hs6_f74⟩ hP hD hS dX11_newName_64 (Nat.le_refl _) (Nat.le_refl _)
          · skip
            have zc93 : (v74 1).toInt = 0 := by rw [fa_eq, show (0 : Int32).toInt = 0 from by decide] at c93; exact c93
            refine lv_aload_n hx hb dX11_newName_30 rfl (lv_at hl 1 rfl) ?_
            refine va_get (D := (dC, dI)) (ci := 11) (v := .ref (r 10)) (C := RX11) (T := TX11) (N := 79) hx hb hts inB_11 hown hE.1 hP 0 rfl rfl 10 (by decide) (hts _ k_1330) (fun _ h9 => h9) rfl dX11_newName_31 ?_
            refine lv_iload_n hx hb dX11_newName_34 rfl (lv_at hl 2 rfl) ?_
            refine lv_iload_n hx hb dX11_newName_35 rfl (lv_at hl 0 rfl) ?_
            refine lv_iadd hx hb dX11_newName_36 ?_
            refine lv_topi (fun t107 et107 => ?_)
            have rg108 := fb_rng p1
            have zt107 : t107.toInt = p1.toInt + l3_74.toInt := by rw [et107]; exact add_i rfl rfl (by omega) (by omega)
            refine va_lald hx hb hE.1 hP 2 2 rfl rfl (vp_in_iff.mpr ⟨by omega, by omega⟩) dX11_newName_37 ?_
            refine lv_topl (fun j109 ej109 => ?_)
            refine lv_aload_n hx hb dX11_newName_38 rfl (lv_at hl 1 rfl) ?_
            refine va_get (D := (dC, dI)) (ci := 11) (v := .long w74) (C := RX11) (T := TX11) (N := 79) hx hb hts inB_11 hown hE.1 hP 0 rfl rfl 9 (by decide) (hts _ k_1329) (fun _ h9 => h9) rfl dX11_newName_39 ?_
            refine W.lcmp hx hb dX11_newName_42 ?_
            refine lv_topi (fun t110 et110 => ?_)
            refine lv_if_ne (tgt := 51) hx hb dX11_newName_43 (by decide) (fun c111 => ?_) (fun c111 => ?_)
            · skip
              have zc111 : ¬ (t110.toInt = 0) := by rw [fa_eq, show (0 : Int32).toInt = 0 from by decide] at c111; exact c111
              obtain ⟨t112, et112⟩ : ∃ y : Int32, y = l3_74 + 1 := ⟨_, rfl⟩
              have zt112 : t112.toInt = l3_74.toInt + 1 := by rw [et112]; exact add_i rfl (by decide) (by omega) (by omega)
              refine lv_iinc (v := t112) (lv' := [(3, .int t112), (0, .ref y0), (1, .int p1), (2, .int p2)]) hx hb dX11_newName_51 hl (k := 0) rfl (by rw [et112]; rfl) (by decide) rfl (fun ls hl => ?_)
              refine lv_goto (tgt := 18) hx hb dX11_newName_54 (by decide) ?_
              have rg113 := fb_rng t112
              exact ih74 t112 v74 f74 w74 g74 hIv74 hCf74 hRf74 hq0_v74 hq3_v74 hq4_v74 hq5_v74 hq8_v74 hq9_v74 hq10_v74 hq13_v74 hq14_v74 hq15_v74 hq17_v74 hq18_v74 hq24_v74 hq25_v74 hq35_v74 hq36_v74 hq38_v74 hq39_v74 ⟨show (0 : Int) ≤ t112.toInt by omega, show t112.toInt ≤ (2147483647 : Int) by omega⟩ hs2_f74 hs3_f74 hs6_f74 (by show (2147483647 - t112.toInt).toNat < n74; omega) _ _ _ hP hD hS (lv_sub hl [0, 1, 2, 3] rfl)
            · skip
              have zc111 : t110.toInt = 0 := by rw [fa_eq, show (0 : Int32).toInt = 0 from by decide] at c111; exact c111
              refine lv_aload_n hx hb dX11_newName_46 rfl (lv_at hl 1 rfl) ?_
              refine lv_iconst (v := 3) hx hb dX11_newName_47 (by decide) ?_
              refine cbVv (n := 1) (rest := []) hx hb hml hown hts hE hP hD hS hA (sY_X11_wrong_1 l dC dI cy y0 r 3 v74 f74 w74 g74 hIv74 hCf74 hRf74 ⟨by decide, by decide⟩) k_1641 k_1643 k_50 k_114 k_1644 (by decide +kernel) ⟨Nat.le_of_ble_eq_true rfl, Nat.le_of_ble_eq_true rfl⟩ 0 11 rfl rfl (rfl) hl.1 rfl (Nat.le_of_ble_eq_true rfl) dX11_newName_48 (fun u H locs hw hP hD hS => ?_)
              obtain ⟨v114, f115, w116, g117⟩ := u
              obtain ⟨hIv114, hCf115, hRf115, hk0_v114, hk3_v114, hk4_v114, hk5_v114, hk8_v114, hk9_v114, hk10_v114, hk13_v114, hk14_v114, hk15_v114, hk17_v114, hk18_v114, hk24_v114, hk25_v114, hk35_v114, hk36_v114, hk38_v114, hk39_v114, pv118, pv119, pv120, kq121, kq122, kq123⟩ := hw
              have hP : va_P (dC, dI) vwCl (YW cy y0 r v114 f115 w116 g117) H := hP
              have hD : va_D A (YW cy y0 r v114 f115 w116 g117) := hD
              have b3_v114 : 0 ≤ (v114 3).toInt ∧ (v114 3).toInt ≤ 1600 := YIb.b hIv114.1 3 (by decide)
              have b1_v114 : 0 ≤ (v114 1).toInt ∧ (v114 1).toInt ≤ 4 := YIb.b hIv114.1 1 (by decide)
              have pv118 : (v74 3).toInt ≤ (v114 3).toInt := pv118
              have pv119 : (v114 5).toInt = (v74 5).toInt ∨ (v74 3).toInt < (v114 3).toInt ∨ ¬ (v114 5).toInt = 59 := pv119
              have pv120 : 0 < (v114 1).toInt := pv120
              have hs2_f115 : f115 2 = (f 2) := kq121.trans hs2_f74
              have hs3_f115 : f115 3 = (f 3) := kq122.trans hs3_f74
              have hs6_f115 : f115 6 = (f 6) := kq123.trans hs6_f74
              have hUv114 : (v114 35).toInt + (v114 36).toInt ≤ 40 := hIv114.2
              have hq0_v114 : v114 0 = (v 0) := hk0_v114.trans hq0_v74
              have zq0_v114 := congrArg Int32.toInt hq0_v114
              have hq3_v114 : v114 3 = (v1 3) := hk3_v114.trans hq3_v74
              have zq3_v114 := congrArg Int32.toInt hq3_v114
              have hq4_v114 : v114 4 = (v 4) := hk4_v114.trans hq4_v74
              have zq4_v114 := congrArg Int32.toInt hq4_v114
              have hq5_v114 : v114 5 = (v1 5) := hk5_v114.trans hq5_v74
              have zq5_v114 := congrArg Int32.toInt hq5_v114
              have hq8_v114 : v114 8 = (v 8) := hk8_v114.trans hq8_v74
              have zq8_v114 := congrArg Int32.toInt hq8_v114
              have hq9_v114 : v114 9 = (v 9) := hk9_v114.trans hq9_v74
              have zq9_v114 := congrArg Int32.toInt hq9_v114
              have hq10_v114 : v114 10 = (v 10) := hk10_v114.trans hq10_v74
              have zq10_v114 := congrArg Int32.toInt hq10_v114
              have hq13_v114 : v114 13 = (v 13) := hk13_v114.trans hq13_v74
              have zq13_v114 := congrArg Int32.toInt hq13_v114
              have hq14_v114 : v114 14 = (v 14) := hk14_v114.trans hq14_v74
              have zq14_v114 := congrArg Int32.toInt hq14_v114
              have hq15_v114 : v114 15 = (v 15) := hk15_v114.trans hq15_v74
              have zq15_v114 := congrArg Int32.toInt hq15_v114
              have hq17_v114 : v114 17 = (v 17) := hk17_v114.trans hq17_v74
              have zq17_v114 := congrArg Int32.toInt hq17_v114
              have hq18_v114 : v114 18 = (v 18) := hk18_v114.trans hq18_v74
              have zq18_v114 := congrArg Int32.toInt hq18_v114
              have hq24_v114 : v114 24 = (v 24) := hk24_v114.trans hq24_v74
              have hq25_v114 : v114 25 = (v 25) := hk25_v114.trans hq25_v74
              have hq35_v114 : v114 35 = (v 35) := hk35_v114.trans hq35_v74
              have zq35_v114 := congrArg Int32.toInt hq35_v114
              have hq36_v114 : v114 36 = (v 36) := hk36_v114.trans hq36_v74
              have zq36_v114 := congrArg Int32.toInt hq36_v114
              have hq38_v114 : v114 38 = (v 38) := hk38_v114.trans hq38_v74
              have hq39_v114 : v114 39 = (v 39) := hk39_v114.trans hq39_v74
              obtain ⟨t124, et124⟩ : ∃ y : Int32, y = l3_74 + 1 := ⟨_, rfl⟩
              have zt124 : t124.toInt = l3_74.toInt + 1 := by rw [et124]; exact add_i rfl (by decide) (by omega) (by omega)
              refine lv_iinc (v := t124) (lv' := [(3, .int t124), (0, .ref y0), (1, .int p1), (2, .int p2)]) hx hb dX11_newName_51 hl (k := 0) rfl (by rw [et124]; rfl) (by decide) rfl (fun ls hl => ?_)
              refine lv_goto (tgt := 18) hx hb dX11_newName_54 (by decide) ?_
              have rg125 := fb_rng t124
              exact ih74 t124 v114 f115 w116 g117 hIv114 hCf115 hRf115 hq0_v114 hq3_v114 hq4_v114 hq5_v114 hq8_v114 hq9_v114 hq10_v114 hq13_v114 hq14_v114 hq15_v114 hq17_v114 hq18_v114 hq24_v114 hq25_v114 hq35_v114 hq36_v114 hq38_v114 hq39_v114 ⟨show (0 : Int) ≤ t124.toInt by omega, show t124.toInt ≤ (2147483647 : Int) by omega⟩ hs2_f115 hs3_f115 hs6_f115 (by show (2147483647 - t124.toInt).toNat < n74; omega) _ _ _ hP hD hS (lv_sub hl [0, 1, 2, 3] rfl)
    exact lp74 _ 0 v64 f65 w66 g67 hIv64 hCf65 hRf65 hq0_v64 hq3_v64 hq4_v64 hq5_v64 hq8_v64 hq9_v64 hq10_v64 hq13_v64 hq14_v64 hq15_v64 hq17_v64 hq18_v64 hq24_v64 hq25_v64 hq35_v64 hq36_v64 hq38_v64 hq39_v64 ⟨by decide, by decide⟩ hs2_f65 hs3_f65 hs6_f65 (Nat.lt_succ_self _) _ _ _ hP hD hS (lv_sub hl [0, 1, 2, 3] rfl)
