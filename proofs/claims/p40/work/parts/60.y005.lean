set_option maxHeartbeats 4000000 in
set_option maxRecDepth 100000 in
theorem sY_X11_formula_1 (NF : Nat) (l : Launch) (dC : Nat → ClassId) (dI : Nat → Nat → Nat) (cy : Nat → ClassId) (y0 : Nat) (r : Nat → Nat)  (v : Nat → Int32) (f : Nat → Nat → Int32) (w : Int64) (g : Nat → Int64) (hIv : YI v) (hCf : YC f) (hRf : progOK (f 4) (f 5) (v 9).toInt.toNat)  : ctV l (dC, dI) cy yX11_formula cX11_formula 3 5 146 0 0 ((Nat → Int32) × (Nat → Nat → Int32) × (Int64) × (Nat → Int64)) [.ref y0] (YW cy y0 r v f w g) (fun u => gsY_X11_formula_1 NF v f w g = u ∧ KV [1, 2, 3, 5, 6, 7, 8, 10, 11, 13, 14, 15] u.1 v ∧ KF [2, 3, 6] u.2.1 f ∧ YI u.1 ∧ YC u.2.1 ∧ progOK (u.2.1 4) (u.2.1 5) (u.1 9).toInt.toNat ∧ u.1 0 = v 0 ∧ u.1 4 = v 4 ∧ u.1 9 = v 9 ∧ u.1 17 = v 17 ∧ u.1 18 = v 18 ∧ u.1 24 = v 24 ∧ u.1 25 = v 25 ∧ u.1 35 = v 35 ∧ u.1 36 = v 36 ∧ u.1 38 = v 38 ∧ u.1 39 = v 39 ∧ (GR (v 3).toInt (v 5).toInt (u.1 3).toInt (u.1 5).toInt) ∧ (IM0 (u.1 1).toInt (progOK (u.2.1 2) (u.2.1 3) ((u.1 8).toInt).toNat))) (fun u => YW cy y0 r u.1 u.2.1 u.2.2.1 u.2.2.2) := by
  refine ctV_of (by decide) (Nat.le_of_ble_eq_true rfl) (fun p e s m below meth c A ls Q hx hb hml hts hown hnm hE hP hD hA hl ret => ?_)
  have hUv : (v 35).toInt + (v 36).toInt ≤ 40 := hIv.2
  have hM_v : KV [1, 2, 3, 5, 6, 7, 8, 10, 11, 13, 14, 15] v v := fun _ _ => rfl
  have hA_f : KF [2, 3, 6] f f := fun _ _ => rfl
  have b1_v : (0 : Int) ≤ (v 1).toInt ∧ (v 1).toInt ≤ 4 := YIb.b hIv.1 1 (by decide)
  have b3_v : (0 : Int) ≤ (v 3).toInt ∧ (v 3).toInt ≤ 1600 := YIb.b hIv.1 3 (by decide)
  have b8_v : (0 : Int) ≤ (v 8).toInt ∧ (v 8).toInt ≤ 320 := YIb.b hIv.1 8 (by decide)
  have b10_v : (0 : Int) ≤ (v 10).toInt ∧ (v 10).toInt ≤ 160 := YIb.b hIv.1 10 (by decide)
  have b13_v : (0 : Int) ≤ (v 13).toInt ∧ (v 13).toInt ≤ 31 := YIb.b hIv.1 13 (by decide)
  have b14_v : (0 : Int) ≤ (v 14).toInt ∧ (v 14).toInt ≤ 8 := YIb.b hIv.1 14 (by decide)
  have hGR : GR (v 3).toInt (v 5).toInt (v 3).toInt (v 5).toInt := GR.refl _ _
  have hown : s.vm.findClass RX11 = some m.cls := hown
  have hS : va_S A s.heap s.heap [] := va_S.rf
  have hl : lv_has ls 3 [(0, .ref y0)] := hl
  refine lv_aload_n hx hb dX11_formula_0 rfl (lv_at hl 0 rfl) ?_
  refine cbVv (n := 0) (rest := []) hx hb hml hown hts hE hP hD hS hA (sY_X11_token_1 NF l dC dI cy y0 r  v f w g hIv hCf hRf ) k_1579 k_1581 k_42 k_114 k_1582 (by decide +kernel) ⟨Nat.le_of_ble_eq_true rfl, Nat.le_of_ble_eq_true rfl⟩ 0 11 rfl rfl (rfl) hl.1 rfl (Nat.le_of_ble_eq_true rfl) dX11_formula_1 (fun u H locs hw hP hD hS => ?_)
  obtain ⟨hG1, hw⟩ := hw
  obtain ⟨v2, f3, w4, g5⟩ := u
  obtain ⟨kV_v2, kF_f3, hIv2, hCf3, hRf3, hk0_v2, hk1_v2, hk2_v2, hk4_v2, hk8_v2, hk9_v2, hk10_v2, hk13_v2, hk14_v2, hk15_v2, hk17_v2, hk18_v2, hk24_v2, hk25_v2, hk35_v2, hk36_v2, hk38_v2, hk39_v2, pv6, pv7, kq8, kq9, kq10⟩ := hw
  have hM_v2 : KV [1, 2, 3, 5, 6, 7, 8, 10, 11, 13, 14, 15] v2 v := KV.tr kV_v2 hM_v (by decide +kernel)
  have hA_f3 : KF [2, 3, 6] f3 f := KF.tr kF_f3 hA_f rfl
  have hP : va_P (dC, dI) vwCl (YW cy y0 r v2 f3 w4 g5) H := hP
  have hD : va_D A (YW cy y0 r v2 f3 w4 g5) := hD
  have b3_v2 : 0 ≤ (v2 3).toInt ∧ (v2 3).toInt ≤ 1600 := YIb.b hIv2.1 3 (by decide)
  have pv6 : (v 3).toInt ≤ (v2 3).toInt := pv6
  have pv7 : (v2 5).toInt = (v 5).toInt ∨ (v 3).toInt < (v2 3).toInt ∨ ¬ (v2 5).toInt = 59 := pv7
  have hs2_f3 : f3 2 = (f 2) := kq8
  have hs3_f3 : f3 3 = (f 3) := kq9
  have hs6_f3 : f3 6 = (f 6) := kq10
  have hUv2 : (v2 35).toInt + (v2 36).toInt ≤ 40 := hIv2.2
  have hq0_v2 : v2 0 = (v 0) := hk0_v2
  have hq1_v2 : v2 1 = (v 1) := hk1_v2
  have zq1_v2 := congrArg Int32.toInt hq1_v2
  have hq4_v2 : v2 4 = (v 4) := hk4_v2
  have hq8_v2 : v2 8 = (v 8) := hk8_v2
  have zq8_v2 := congrArg Int32.toInt hq8_v2
  have hq9_v2 : v2 9 = (v 9) := hk9_v2
  have hq10_v2 : v2 10 = (v 10) := hk10_v2
  have zq10_v2 := congrArg Int32.toInt hq10_v2
  have hq13_v2 : v2 13 = (v 13) := hk13_v2
  have zq13_v2 := congrArg Int32.toInt hq13_v2
  have hq14_v2 : v2 14 = (v 14) := hk14_v2
  have zq14_v2 := congrArg Int32.toInt hq14_v2
  have hq17_v2 : v2 17 = (v 17) := hk17_v2
  have hq18_v2 : v2 18 = (v 18) := hk18_v2
  have hq24_v2 : v2 24 = (v 24) := hk24_v2
  have hq25_v2 : v2 25 = (v 25) := hk25_v2
  have hq35_v2 : v2 35 = (v 35) := hk35_v2
  have hq36_v2 : v2 36 = (v 36) := hk36_v2
  have hq38_v2 : v2 38 = (v 38) := hk38_v2
  have hq39_v2 : v2 39 = (v 39) := hk39_v2
  have hGR : GR (v 3).toInt (v 5).toInt (v2 3).toInt (v2 5).toInt := GR.tr hGR (show GR (v 3).toInt (v 5).toInt (v2 3).toInt (v2 5).toInt from ⟨pv6, pv7⟩) (by first | with_reducible rfl | with_reducible assumption | rfl | omega) (by first | with_reducible rfl | with_reducible assumption | rfl | omega)
  clear pv7
  refine lv_aload_n hx hb dX11_formula_4 rfl (lv_at hl 0 rfl) ?_
  refine lv_iconst (v := 1) hx hb dX11_formula_5 (by decide) ?_
  refine va_put (D := (dC, dI)) (ci := 11) (v := .int 1) (ty := tyX11 24) (C := RX11) (T := TX11) (N := 79) hx hb hts inB_11 tyX11 tyX11_ok nmX11 hown hE.1 hP hD hS 0 rfl rfl 24 (by decide) (hts _ k_1344) (fun _ h9 => h9) rfl (tyX11_ok 24 (by decide)) rfl rfl (Nat.le_of_ble_eq_true rfl) dX11_formula_6 (fun H locs hP hD hS => ?_)
  have hP : va_P (dC, dI) vwCl (YW cy y0 r (upd v2 15 1) f3 w4 g5) H := hP
  have hD : va_D A (YW cy y0 r (upd v2 15 1) f3 w4 g5) := hD
  refine lv_aload_n hx hb dX11_formula_9 rfl (lv_at hl 0 rfl) ?_
  refine lv_iconst (v := 0) hx hb dX11_formula_10 (by decide) ?_
  refine va_put (D := (dC, dI)) (ci := 11) (v := .int 0) (ty := tyX11 17) (C := RX11) (T := TX11) (N := 79) hx hb hts inB_11 tyX11 tyX11_ok nmX11 hown hE.1 hP hD hS 0 rfl rfl 17 (by decide) (hts _ k_1337) (fun _ h9 => h9) rfl (tyX11_ok 17 (by decide)) rfl rfl (Nat.le_of_ble_eq_true rfl) dX11_formula_11 (fun H locs hP hD hS => ?_)
  have hP : va_P (dC, dI) vwCl (YW cy y0 r (upd (upd v2 15 1) 8 0) f3 w4 g5) H := hP
  have hD : va_D A (YW cy y0 r (upd (upd v2 15 1) 8 0) f3 w4 g5) := hD
  refine lv_aload_n hx hb dX11_formula_14 rfl (lv_at hl 0 rfl) ?_
  refine lv_iconst (v := 0) hx hb dX11_formula_15 (by decide) ?_
  refine va_put (D := (dC, dI)) (ci := 11) (v := .int 0) (ty := tyX11 19) (C := RX11) (T := TX11) (N := 79) hx hb hts inB_11 tyX11 tyX11_ok nmX11 hown hE.1 hP hD hS 0 rfl rfl 19 (by decide) (hts _ k_1339) (fun _ h9 => h9) rfl (tyX11_ok 19 (by decide)) rfl rfl (Nat.le_of_ble_eq_true rfl) dX11_formula_16 (fun H locs hP hD hS => ?_)
  have hP : va_P (dC, dI) vwCl (YW cy y0 r (upd (upd (upd v2 15 1) 8 0) 10 0) f3 w4 g5) H := hP
  have hD : va_D A (YW cy y0 r (upd (upd (upd v2 15 1) 8 0) 10 0) f3 w4 g5) := hD
  refine lv_aload_n hx hb dX11_formula_19 rfl (lv_at hl 0 rfl) ?_
  refine lv_iconst (v := 0) hx hb dX11_formula_20 (by decide) ?_
  refine va_put (D := (dC, dI)) (ci := 11) (v := .int 0) (ty := tyX11 23) (C := RX11) (T := TX11) (N := 79) hx hb hts inB_11 tyX11 tyX11_ok nmX11 hown hE.1 hP hD hS 0 rfl rfl 23 (by decide) (hts _ k_1343) (fun _ h9 => h9) rfl (tyX11_ok 23 (by decide)) rfl rfl (Nat.le_of_ble_eq_true rfl) dX11_formula_21 (fun H locs hP hD hS => ?_)
  have hP : va_P (dC, dI) vwCl (YW cy y0 r (upd (upd (upd (upd v2 15 1) 8 0) 10 0) 14 0) f3 w4 g5) H := hP
  have hD : va_D A (YW cy y0 r (upd (upd (upd (upd v2 15 1) 8 0) 10 0) 14 0) f3 w4 g5) := hD
  refine lv_aload_n hx hb dX11_formula_24 rfl (lv_at hl 0 rfl) ?_
  refine lv_iconst (v := 0) hx hb dX11_formula_25 (by decide) ?_
  refine va_put (D := (dC, dI)) (ci := 11) (v := .int 0) (ty := tyX11 22) (C := RX11) (T := TX11) (N := 79) hx hb hts inB_11 tyX11 tyX11_ok nmX11 hown hE.1 hP hD hS 0 rfl rfl 22 (by decide) (hts _ k_1342) (fun _ h9 => h9) rfl (tyX11_ok 22 (by decide)) rfl rfl (Nat.le_of_ble_eq_true rfl) dX11_formula_26 (fun H locs hP hD hS => ?_)
  have hP : va_P (dC, dI) vwCl (YW cy y0 r (upd (upd (upd (upd (upd v2 15 1) 8 0) 10 0) 14 0) 13 0) f3 w4 g5) H := hP
  have hD : va_D A (YW cy y0 r (upd (upd (upd (upd (upd v2 15 1) 8 0) 10 0) 14 0) 13 0) f3 w4 g5) := hD
  refine lv_aload_n hx hb dX11_formula_29 rfl (lv_at hl 0 rfl) ?_
  refine cbVv (n := 0) (rest := []) hx hb hml hown hts hE hP hD hS hA (sY_X11_unit_1 NF l dC dI cy y0 r  (upd (upd (upd (upd (upd v2 15 1) 8 0) 10 0) 14 0) 13 0) f3 w4 g5 ⟨(YIb.upd (j := 13) (x := 0) (YIb.upd (j := 14) (x := 0) (YIb.upd (j := 10) (x := 0) (YIb.upd (j := 8) (x := 0) (YIb.upd (j := 15) (x := 1) hIv2.1 (by decide) (by decide)) (by decide) (by decide)) (by decide) (by decide)) (by decide) (by decide)) (by decide) (by decide)), hIv2.2⟩ hCf3 hRf3 (by have qc0 : (0 : Int32).toInt = 0 := (by decide); have qc1 : (1 : Int32).toInt = 1 := (by decide); show (0 : Int32).toInt + (0 : Int32).toInt ≤ 10 * (0 : Int32).toInt + 1; omega) (by have qc0 : (0 : Int32).toInt = 0 := (by decide); have qc1 : (1 : Int32).toInt = 1 := (by decide); show (0 : Int32).toInt ≤ (0 : Int32).toInt + (0 : Int32).toInt + 1; omega) (by have qc0 : (0 : Int32).toInt = 0 := (by decide); have qc1 : (1 : Int32).toInt = 1 := (by decide); show (0 : Int32).toInt ≤ 30; omega) (by have qc0 : (0 : Int32).toInt = 0 := (by decide); have qc1 : (1 : Int32).toInt = 1 := (by decide); show (0 : Int32).toInt ≤ 7; omega) (by have q0 : (0 : Int32).toInt = 0 := (by decide); have q1 : (1 : Int32).toInt = 1 := (by decide); show FI 0 (0 : Int32).toInt (0 : Int32).toInt (0 : Int32).toInt (f3 6) (f3 2) (f3 3); rw [hs6_f3, hs2_f3, hs3_f3]; exact FI.zero (by decide) (by decide) (by decide))) k_1669 k_1671 k_57 k_114 k_1672 (by decide +kernel) ⟨Nat.le_of_ble_eq_true rfl, Nat.le_of_ble_eq_true rfl⟩ 0 11 rfl rfl (rfl) hl.1 rfl (Nat.le_of_ble_eq_true rfl) dX11_formula_30 (fun u H locs hw hP hD hS => ?_)
  obtain ⟨hG11, hw⟩ := hw
  obtain ⟨v12, f13, w14, g15⟩ := u
  obtain ⟨kV_v12, kF_f13, hIv12, hCf13, hRf13, hk0_v12, hk4_v12, hk9_v12, hk15_v12, hk17_v12, hk18_v12, hk24_v12, hk25_v12, hk35_v12, hk36_v12, hk38_v12, hk39_v12, pg16, pg17, pg18, pg19⟩ := hw
  have hM_v12 : KV [1, 2, 3, 5, 6, 7, 8, 10, 11, 13, 14, 15] v12 v := KV.tr kV_v12 (KV.up (j := 13) (x := 0) (KV.up (j := 14) (x := 0) (KV.up (j := 10) (x := 0) (KV.up (j := 8) (x := 0) (KV.up (j := 15) (x := 1) hM_v2 (by decide +kernel)) (by decide +kernel)) (by decide +kernel)) (by decide +kernel)) (by decide +kernel)) (by decide +kernel)
  have hA_f13 : KF [2, 3, 6] f13 f := KF.tr kF_f13 hA_f3 rfl
  have hP : va_P (dC, dI) vwCl (YW cy y0 r v12 f13 w14 g15) H := hP
  have hD : va_D A (YW cy y0 r v12 f13 w14 g15) := hD
  have b3_v12 : 0 ≤ (v12 3).toInt ∧ (v12 3).toInt ≤ 1600 := YIb.b hIv12.1 3 (by decide)
  have b1_v12 : 0 ≤ (v12 1).toInt ∧ (v12 1).toInt ≤ 4 := YIb.b hIv12.1 1 (by decide)
  have b10_v12 : 0 ≤ (v12 10).toInt ∧ (v12 10).toInt ≤ 160 := YIb.b hIv12.1 10 (by decide)
  have b14_v12 : 0 ≤ (v12 14).toInt ∧ (v12 14).toInt ≤ 8 := YIb.b hIv12.1 14 (by decide)
  have b8_v12 : 0 ≤ (v12 8).toInt ∧ (v12 8).toInt ≤ 320 := YIb.b hIv12.1 8 (by decide)
  have b13_v12 : 0 ≤ (v12 13).toInt ∧ (v12 13).toInt ≤ 31 := YIb.b hIv12.1 13 (by decide)
  have pg16 : GR (v2 3).toInt (v2 5).toInt (v12 3).toInt (v12 5).toInt := pg16
  have pg17 : IM0 (v12 1).toInt (FI 1 (v12 10).toInt (v12 14).toInt (v12 8).toInt (f13 6) (f13 2) (f13 3)) := pg17
  have pg18 : NB (v12 1).toInt (v12 8).toInt (v12 10).toInt (v12 13).toInt (v12 14).toInt := pg18
  have pg19 : UG (v12 1).toInt (0 : Int32).toInt (v12 13).toInt := pg19
  have hUv12 : (v12 35).toInt + (v12 36).toInt ≤ 40 := hIv12.2
  have hq0_v12 : v12 0 = (v 0) := hk0_v12.trans hq0_v2
  have hq4_v12 : v12 4 = (v 4) := hk4_v12.trans hq4_v2
  have hq9_v12 : v12 9 = (v 9) := hk9_v12.trans hq9_v2
  have hq15_v12 : v12 15 = 1 := hk15_v12
  have hq17_v12 : v12 17 = (v 17) := hk17_v12.trans hq17_v2
  have hq18_v12 : v12 18 = (v 18) := hk18_v12.trans hq18_v2
  have hq24_v12 : v12 24 = (v 24) := hk24_v12.trans hq24_v2
  have hq25_v12 : v12 25 = (v 25) := hk25_v12.trans hq25_v2
  have hq35_v12 : v12 35 = (v 35) := hk35_v12.trans hq35_v2
  have hq36_v12 : v12 36 = (v 36) := hk36_v12.trans hq36_v2
  have hq38_v12 : v12 38 = (v 38) := hk38_v12.trans hq38_v2
  have hq39_v12 : v12 39 = (v 39) := hk39_v12.trans hq39_v2
  have hGR : GR (v 3).toInt (v 5).toInt (v12 3).toInt (v12 5).toInt := GR.tr hGR (show GR (v2 3).toInt (v2 5).toInt (v12 3).toInt (v12 5).toInt from pg16) (by first | with_reducible rfl | with_reducible assumption | rfl | omega) (by first | with_reducible rfl | with_reducible assumption | rfl | omega)
  have hFJ := pg17
  have hNB := pg18
  refine lv_iconst (v := 1) hx hb dX11_formula_33 (by decide) ?_
  refine lv_istore_n (lv' := [(1, .int 1), (0, .ref y0)]) hx hb dX11_formula_34 rfl hl (by decide) rfl (fun ls hl => ?_)
  have lp20 : ∀ (n20 : Nat) (l1_20 : Int32) (v20 : Nat → Int32) (f20 : Nat → Nat → Int32) (w20 : Int64) (g20 : Nat → Int64), YI v20 → YC f20 → progOK (f20 4) (f20 5) (v20 9).toInt.toNat → v20 0 = (v 0) → v20 4 = (v 4) → v20 9 = (v 9) → v20 15 = 1 → v20 17 = (v 17) → v20 18 = (v 18) → v20 24 = (v 24) → v20 25 = (v 25) → v20 35 = (v 35) → v20 36 = (v 36) → v20 38 = (v 38) → v20 39 = (v 39) → gsY_X11_formula_1_L20 NF n20 l1_20 v20 f20 w20 g20 = (gsY_X11_formula_1 NF v f w g) → ((0 : Int) ≤ l1_20.toInt ∧ l1_20.toInt ≤ 1) → (IM0 (v20 1).toInt (FI 1 (v20 10).toInt (v20 14).toInt (v20 8).toInt (f20 6) (f20 2) (f20 3))) → (NB (v20 1).toInt (v20 8).toInt (v20 10).toInt (v20 13).toInt (v20 14).toInt) → (GR (v 3).toInt (v 5).toInt (v20 3).toInt (v20 5).toInt) → KV [1, 2, 3, 5, 6, 7, 8, 10, 11, 13, 14, 15] v20 v → KF [2, 3, 6] f20 f → (1 + 100 * (31 - (v20 13).toInt) + 2 * (v20 10).toInt + l1_20.toInt - 100000 * (v20 1).toInt).toNat < n20 → ∀ (H : Heap) (locs : List Loc) (ls : Array Slot), va_P (dC, dI) vwCl (YW cy y0 r v20 f20 w20 g20) H → va_D A (YW cy y0 r v20 f20 w20 g20) → va_S A s.heap H locs → lv_has ls 3 [(1, .int l1_20), (0, .ref y0)] → W p l e { frames := 5, cells := 0, slots := 0, locals := 146 } s m ([.ref y0] : List Value).toArray below meth c H locs 0 0 Q (F0 m 35 ls []) := by
    intro n20
    induction n20 with
    | zero => intro l1_20 v20 f20 w20 g20 hIv20 hCf20 hRf20 hq0_v20 hq4_v20 hq9_v20 hq15_v20 hq17_v20 hq18_v20 hq24_v20 hq25_v20 hq35_v20 hq36_v20 hq38_v20 hq39_v20 hT20 hr1_20 hx0_20 hx1_20 hx2_20 hM_v20 hA_f20 hm; exact absurd hm (Nat.not_lt_zero _)
    | succ n20 ih20 =>
      intro l1_20 v20 f20 w20 g20 hIv20 hCf20 hRf20 hq0_v20 hq4_v20 hq9_v20 hq15_v20 hq17_v20 hq18_v20 hq24_v20 hq25_v20 hq35_v20 hq36_v20 hq38_v20 hq39_v20 hT20 hr1_20 hx0_20 hx1_20 hx2_20 hM_v20 hA_f20 hm20 H locs ls hP hD hS hl
      clear b13_v12 b8_v12 b14_v12 b10_v12 b1_v12 b3_v12 zq14_v2 zq13_v2 zq10_v2 zq8_v2 zq1_v2 pv7 pv6 b3_v2
      have hUv20 : (v20 35).toInt + (v20 36).toInt ≤ 40 := hIv20.2
      have b1_v20 : 0 ≤ (v20 1).toInt ∧ (v20 1).toInt ≤ 4 := YIb.b hIv20.1 1 (by decide)
      have b10_v20 : 0 ≤ (v20 10).toInt ∧ (v20 10).toInt ≤ 160 := YIb.b hIv20.1 10 (by decide)
      have b14_v20 : 0 ≤ (v20 14).toInt ∧ (v20 14).toInt ≤ 8 := YIb.b hIv20.1 14 (by decide)
      have b8_v20 : 0 ≤ (v20 8).toInt ∧ (v20 8).toInt ≤ 320 := YIb.b hIv20.1 8 (by decide)
      have b13_v20 : 0 ≤ (v20 13).toInt ∧ (v20 13).toInt ≤ 31 := YIb.b hIv20.1 13 (by decide)
      have b3_v20 : 0 ≤ (v20 3).toInt ∧ (v20 3).toInt ≤ 1600 := YIb.b hIv20.1 3 (by decide)
      have hFJ := hx0_20
      have hNB := hx1_20
      have hGR := hx2_20
      refine lv_iload_n hx hb dX11_formula_35 rfl (lv_at hl 0 rfl) ?_
      have jp162 : ∀ (H : Heap) (locs : List Loc) (ls : Array Slot), gsY_X11_formula_1_J21 NF f20 g20 v20 w20 = (gsY_X11_formula_1 NF v f w g) → va_P (dC, dI) vwCl (YW cy y0 r v20 f20 w20 g20) H → va_D A (YW cy y0 r v20 f20 w20 g20) → va_S A s.heap H locs → lv_has ls 3 [(1, .int l1_20), (0, .ref y0)] → W p l e { frames := 5, cells := 0, slots := 0, locals := 146 } s m ([.ref y0] : List Value).toArray below meth c H locs 0 0 Q (F0 m 162 ls []) := by
        intro H locs ls hT21 hP hD hS hl
        have jp181 : ∀ (H : Heap) (locs : List Loc) (ls : Array Slot), gsY_X11_formula_1_J22 NF f20 g20 v20 w20 = (gsY_X11_formula_1 NF v f w g) → va_P (dC, dI) vwCl (YW cy y0 r v20 f20 w20 g20) H → va_D A (YW cy y0 r v20 f20 w20 g20) → va_S A s.heap H locs → lv_has ls 3 [(1, .int l1_20), (0, .ref y0)] → W p l e { frames := 5, cells := 0, slots := 0, locals := 146 } s m ([.ref y0] : List Value).toArray below meth c H locs 0 0 Q (F0 m 181 ls []) := by
          intro H locs ls hT22 hP hD hS hl
          refine lv_aload_n hx hb dX11_formula_181 rfl (lv_at hl 1 rfl) ?_
          refine va_get (D := (dC, dI)) (ci := 11) (v := .int (v20 1)) (C := RX11) (T := TX11) (N := 79) hx hb hts inB_11 hown hE.1 hP 0 rfl rfl 2 (by decide) (hts _ k_1322) (fun _ h9 => h9) rfl dX11_formula_182 ?_
          refine lv_if_ne (tgt := 193) hx hb dX11_formula_185 (by decide) (fun c23 => ?_) (fun c23 => ?_)
          · skip
            have zc23 : ¬ ((v20 1).toInt = 0) := by rw [fa_eq, show (0 : Int32).toInt = 0 from by decide] at c23; exact c23
            exact ret (v20, f20, w20, g20) _ _ _ _ _ _ ⟨(hT22.symm.trans (gsY_X11_formula_1_q0 c23)), hM_v20, hA_f20, hIv20, hCf20, hRf20, hq0_v20, hq4_v20, hq9_v20, hq17_v20, hq18_v20, hq24_v20, hq25_v20, hq35_v20, hq36_v20, hq38_v20, hq39_v20, (by show GR (v 3).toInt (v 5).toInt (v20 3).toInt (v20 5).toInt; exact GR.cast hGR (by first | with_reducible rfl | with_reducible assumption | rfl | omega) (by first | with_reducible rfl | with_reducible assumption | rfl | omega)), (by show IM0 (v20 1).toInt (progOK (f20 2) (f20 3) ((v20 8).toInt).toNat); intro hz9; exfalso; omega)⟩ hP hD hS dX11_formula_193 (Nat.le_refl _) (Nat.le_refl _)
          · skip
            have zc23 : (v20 1).toInt = 0 := by rw [fa_eq, show (0 : Int32).toInt = 0 from by decide] at c23; exact c23
            obtain ⟨hn1, hn2, hn3, hn4⟩ := hNB (by omega)
            refine lv_aload_n hx hb dX11_formula_188 rfl (lv_at hl 1 rfl) ?_
            refine lv_iconst (v := 0) hx hb dX11_formula_189 (by decide) ?_
            refine cbVv (n := 1) (rest := []) hx hb hml hown hts hE hP hD hS hA (sY_X11_close_1 NF l dC dI cy y0 r 0 v20 f20 w20 g20 hIv20 hCf20 hRf20 ⟨by decide, by decide⟩ (by have q1 : (0 : Int32).toInt = 0 := (by decide); show (v20 8).toInt + (v20 10).toInt ≤ 310; omega) (by show FI 1 (v20 10).toInt (v20 14).toInt (v20 8).toInt (f20 6) (f20 2) (f20 3); exact FI.cast (hFJ (by omega)) (by first | with_reducible rfl | with_reducible assumption | rfl | omega) (by first | with_reducible rfl | with_reducible assumption | rfl | omega) (by first | with_reducible rfl | with_reducible assumption | rfl | omega))) k_1708 k_1710 k_66 k_114 k_1711 (by decide +kernel) ⟨Nat.le_of_ble_eq_true rfl, Nat.le_of_ble_eq_true rfl⟩ 0 11 rfl rfl (rfl) hl.1 rfl (Nat.le_of_ble_eq_true rfl) dX11_formula_190 (fun u H locs hw hP hD hS => ?_)
            obtain ⟨hG24, hw⟩ := hw
            obtain ⟨v25, f26, w27, g28⟩ := u
            obtain ⟨kV_v25, kF_f26, hIv25, hCf26, hRf26, hk0_v25, hk1_v25, hk2_v25, hk3_v25, hk4_v25, hk5_v25, hk9_v25, hk13_v25, hk15_v25, hk17_v25, hk18_v25, hk24_v25, hk25_v25, hk35_v25, hk36_v25, hk38_v25, hk39_v25, pv29, pv30, pv31, pv32, pg33, pg34, pg35, kq36⟩ := hw
            have hM_v25 : KV [1, 2, 3, 5, 6, 7, 8, 10, 11, 13, 14, 15] v25 v := KV.tr kV_v25 hM_v20 (by decide +kernel)
            have hA_f26 : KF [2, 3, 6] f26 f := KF.tr kF_f26 hA_f20 rfl
            have hP : va_P (dC, dI) vwCl (YW cy y0 r v25 f26 w27 g28) H := hP
            have hD : va_D A (YW cy y0 r v25 f26 w27 g28) := hD
            have b8_v25 : 0 ≤ (v25 8).toInt ∧ (v25 8).toInt ≤ 320 := YIb.b hIv25.1 8 (by decide)
            have b10_v25 : 0 ≤ (v25 10).toInt ∧ (v25 10).toInt ≤ 160 := YIb.b hIv25.1 10 (by decide)
            have b14_v25 : 0 ≤ (v25 14).toInt ∧ (v25 14).toInt ≤ 8 := YIb.b hIv25.1 14 (by decide)
            have pv29 : (v25 8).toInt + (v25 10).toInt = (v20 8).toInt + (v20 10).toInt := pv29
            have pv30 : (v25 10).toInt - (v25 14).toInt ≤ (v20 10).toInt - (v20 14).toInt := pv30
            have pv31 : (v25 10).toInt ≤ (v20 10).toInt := pv31
            have pv32 : (v25 14).toInt ≤ (v20 14).toInt := pv32
            have pg33 : FI 1 (v25 10).toInt (v25 14).toInt (v25 8).toInt (f26 6) (f26 2) (f26 3) := pg33
            have pg34 : ∀ k, k < ((v20 10).toInt).toNat → (f20 6) k = 20 → k < ((v25 10).toInt).toNat := pg34
            have pg35 : 0 < (0 : Int32).toInt ∨ (v25 10).toInt = 0 ∨ (f26 6) ((v25 10).toInt - 1).toNat = 20 := pg35
            have hs6_f26 : f26 6 = (f20 6) := kq36
            rw [hs6_f26] at pg33
            rw [hs6_f26] at pg35
            have hUv25 : (v25 35).toInt + (v25 36).toInt ≤ 40 := hIv25.2
            have hq1_v25 : v25 1 = (v20 1) := hk1_v25
            have zq1_v25 := congrArg Int32.toInt hq1_v25
            have hq3_v25 : v25 3 = (v20 3) := hk3_v25
            have zq3_v25 := congrArg Int32.toInt hq3_v25
            have hq5_v25 : v25 5 = (v20 5) := hk5_v25
            have zq5_v25 := congrArg Int32.toInt hq5_v25
            have hq13_v25 : v25 13 = (v20 13) := hk13_v25
            have zq13_v25 := congrArg Int32.toInt hq13_v25
            have hFK := pg33
            clear pg35
            exact ret (v25, f26, w27, g28) _ _ _ _ _ _ ⟨(hT22.symm.trans (gsY_X11_formula_1_q1 c23 hG24)), hM_v25, hA_f26, hIv25, hCf26, hRf26, (hk0_v25.trans hq0_v20), (hk4_v25.trans hq4_v20), (hk9_v25.trans hq9_v20), (hk17_v25.trans hq17_v20), (hk18_v25.trans hq18_v20), (hk24_v25.trans hq24_v20), (hk25_v25.trans hq25_v20), (hk35_v25.trans hq35_v20), (hk36_v25.trans hq36_v20), (hk38_v25.trans hq38_v20), (hk39_v25.trans hq39_v20), (by show GR (v 3).toInt (v 5).toInt (v25 3).toInt (v25 5).toInt; exact GR.cast hGR (by first | with_reducible rfl | with_reducible assumption | rfl | omega) (by first | with_reducible rfl | with_reducible assumption | rfl | omega)), (by show IM0 (v25 1).toInt (progOK (f26 2) (f26 3) ((v25 8).toInt).toNat); intro hz9; exact FI.prog hFK (by omega))⟩ hP hD hS dX11_formula_193 (Nat.le_refl _) (Nat.le_refl _)
        revert jp181
        intro jp181
        refine lv_aload_n hx hb dX11_formula_162 rfl (lv_at hl 1 rfl) ?_
        refine va_get (D := (dC, dI)) (ci := 11) (v := .int (v20 1)) (C := RX11) (T := TX11) (N := 79) hx hb hts inB_11 hown hE.1 hP 0 rfl rfl 2 (by decide) (hts _ k_1322) (fun _ h9 => h9) rfl dX11_formula_163 ?_
        refine lv_if_ne (tgt := 181) hx hb dX11_formula_166 (by decide) (fun c37 => ?_) (fun c37 => ?_)
        · skip
          have zc37 : ¬ ((v20 1).toInt = 0) := by rw [fa_eq, show (0 : Int32).toInt = 0 from by decide] at c37; exact c37
          exact jp181 _ _ _ ((gsY_X11_formula_1_q2 c37).symm.trans hT21) hP hD hS hl
        · skip
          have zc37 : (v20 1).toInt = 0 := by rw [fa_eq, show (0 : Int32).toInt = 0 from by decide] at c37; exact c37
          refine lv_aload_n hx hb dX11_formula_169 rfl (lv_at hl 1 rfl) ?_
          refine cbVi (n := 0) (rest := []) hx hb hml hown hts hE hP hD hS hA (sY_X11_hasBracket_1 NF l dC dI cy y0 r  v20 f20 w20 g20 hIv20 hCf20 hRf20 ) k_1704 k_1706 k_65 k_114 k_1707 (by decide +kernel) ⟨Nat.le_of_ble_eq_true rfl, Nat.le_of_ble_eq_true rfl⟩ 0 11 rfl rfl (rfl) hl.1 rfl (Nat.le_of_ble_eq_true rfl) dX11_formula_170 (fun r38 u H locs hw hP hD hS => ?_)
          obtain ⟨hG39, hw⟩ := hw
          rcases hw with ⟨g40, g40_0⟩ | ⟨g40⟩
          · skip
            subst g40
            have hBr := g40_0
            refine lv_if_eq (tgt := 181) hx hb dX11_formula_173 (by decide) (fun c0 => absurd c0 (by decide)) (fun _ => ?_)
            refine lv_aload_n hx hb dX11_formula_176 rfl (lv_at hl 1 rfl) ?_
            refine lv_iconst (v := 2) hx hb dX11_formula_177 (by decide) ?_
            refine cbVv (n := 1) (rest := []) hx hb hml hown hts hE hP hD hS hA (sY_X11_wrong_1 NF l dC dI cy y0 r 2 v20 f20 w20 g20 hIv20 hCf20 hRf20 ⟨by decide, by decide⟩) k_1641 k_1643 k_50 k_114 k_1644 (by decide +kernel) ⟨Nat.le_of_ble_eq_true rfl, Nat.le_of_ble_eq_true rfl⟩ 0 11 rfl rfl (rfl) hl.1 rfl (Nat.le_of_ble_eq_true rfl) dX11_formula_178 (fun u H locs hw hP hD hS => ?_)
            obtain ⟨hG41, hw⟩ := hw
            obtain ⟨v42, f43, w44, g45⟩ := u
            obtain ⟨kV_v42, kF_f43, hIv42, hCf43, hRf43, hk0_v42, hk3_v42, hk4_v42, hk5_v42, hk8_v42, hk9_v42, hk10_v42, hk13_v42, hk14_v42, hk15_v42, hk17_v42, hk18_v42, hk24_v42, hk25_v42, hk35_v42, hk36_v42, hk38_v42, hk39_v42, pv46, pv47, pv48, kq49, kq50, kq51⟩ := hw
            have hM_v42 : KV [1, 2, 3, 5, 6, 7, 8, 10, 11, 13, 14, 15] v42 v := KV.tr kV_v42 hM_v20 (by decide +kernel)
            have hA_f43 : KF [2, 3, 6] f43 f := KF.tr kF_f43 hA_f20 rfl
            have hP : va_P (dC, dI) vwCl (YW cy y0 r v42 f43 w44 g45) H := hP
            have hD : va_D A (YW cy y0 r v42 f43 w44 g45) := hD
            have b3_v42 : 0 ≤ (v42 3).toInt ∧ (v42 3).toInt ≤ 1600 := YIb.b hIv42.1 3 (by decide)
            have b1_v42 : 0 ≤ (v42 1).toInt ∧ (v42 1).toInt ≤ 4 := YIb.b hIv42.1 1 (by decide)
            have pv46 : (v20 3).toInt ≤ (v42 3).toInt := pv46
            have pv47 : (v42 5).toInt = (v20 5).toInt ∨ (v20 3).toInt < (v42 3).toInt ∨ ¬ (v42 5).toInt = 59 := pv47
            have pv48 : 0 < (v42 1).toInt := pv48
            have hs2_f43 : f43 2 = (f20 2) := kq49
            have hs3_f43 : f43 3 = (f20 3) := kq50
            have hs6_f43 : f43 6 = (f20 6) := kq51
            have hUv42 : (v42 35).toInt + (v42 36).toInt ≤ 40 := hIv42.2
            have hq3_v42 : v42 3 = (v20 3) := hk3_v42
            have zq3_v42 := congrArg Int32.toInt hq3_v42
            have hq5_v42 : v42 5 = (v20 5) := hk5_v42
            have zq5_v42 := congrArg Int32.toInt hq5_v42
            have hq8_v42 : v42 8 = (v20 8) := hk8_v42
            have zq8_v42 := congrArg Int32.toInt hq8_v42
            have hq10_v42 : v42 10 = (v20 10) := hk10_v42
            have zq10_v42 := congrArg Int32.toInt hq10_v42
            have hq13_v42 : v42 13 = (v20 13) := hk13_v42
            have zq13_v42 := congrArg Int32.toInt hq13_v42
            have hq14_v42 : v42 14 = (v20 14) := hk14_v42
            have zq14_v42 := congrArg Int32.toInt hq14_v42
            have hGR : GR (v 3).toInt (v 5).toInt (v42 3).toInt (v42 5).toInt := GR.tr hGR (show GR (v20 3).toInt (v20 5).toInt (v42 3).toInt (v42 5).toInt from ⟨pv46, pv47⟩) (by first | with_reducible rfl | with_reducible assumption | rfl | omega) (by first | with_reducible rfl | with_reducible assumption | rfl | omega)
            clear pv47
            refine lv_aload_n hx hb dX11_formula_181 rfl (lv_at hl 1 rfl) ?_
            refine va_get (D := (dC, dI)) (ci := 11) (v := .int (v42 1)) (C := RX11) (T := TX11) (N := 79) hx hb hts inB_11 hown hE.1 hP 0 rfl rfl 2 (by decide) (hts _ k_1322) (fun _ h9 => h9) rfl dX11_formula_182 ?_
            have b1_v42 : 0 ≤ (v42 1).toInt ∧ (v42 1).toInt ≤ 4 := YIb.b hIv42.1 1 (by decide)
            refine lv_if_ne (tgt := 193) hx hb dX11_formula_185 (by decide) (fun c52 => ?_) (fun c52 => ?_)
            · skip
              have zc52 : ¬ ((v42 1).toInt = 0) := by rw [fa_eq, show (0 : Int32).toInt = 0 from by decide] at c52; exact c52
              exact ret (v42, f43, w44, g45) _ _ _ _ _ _ ⟨(hT21.symm.trans (gsY_X11_formula_1_q3 c37 hG39 hG41 c52)), hM_v42, hA_f43, hIv42, hCf43, hRf43, (hk0_v42.trans hq0_v20), (hk4_v42.trans hq4_v20), (hk9_v42.trans hq9_v20), (hk17_v42.trans hq17_v20), (hk18_v42.trans hq18_v20), (hk24_v42.trans hq24_v20), (hk25_v42.trans hq25_v20), (hk35_v42.trans hq35_v20), (hk36_v42.trans hq36_v20), (hk38_v42.trans hq38_v20), (hk39_v42.trans hq39_v20), (by show GR (v 3).toInt (v 5).toInt (v42 3).toInt (v42 5).toInt; exact GR.cast hGR (by first | with_reducible rfl | with_reducible assumption | rfl | omega) (by first | with_reducible rfl | with_reducible assumption | rfl | omega)), (by show IM0 (v42 1).toInt (progOK (f43 2) (f43 3) ((v42 8).toInt).toNat); rw [hs2_f43, hs3_f43]; intro hz9; exfalso; omega)⟩ hP hD hS dX11_formula_193 (Nat.le_refl _) (Nat.le_refl _)
            · skip
              have zc52 : (v42 1).toInt = 0 := by rw [fa_eq, show (0 : Int32).toInt = 0 from by decide] at c52; exact c52
              obtain ⟨hn1, hn2, hn3, hn4⟩ := hNB (by omega)
              refine lv_aload_n hx hb dX11_formula_188 rfl (lv_at hl 1 rfl) ?_
              refine lv_iconst (v := 0) hx hb dX11_formula_189 (by decide) ?_
              refine cbVv (n := 1) (rest := []) hx hb hml hown hts hE hP hD hS hA (sY_X11_close_1 NF l dC dI cy y0 r 0 v42 f43 w44 g45 hIv42 hCf43 hRf43 ⟨by decide, by decide⟩ (by have q1 : (0 : Int32).toInt = 0 := (by decide); show (v42 8).toInt + (v42 10).toInt ≤ 310; omega) (by show FI 1 (v42 10).toInt (v42 14).toInt (v42 8).toInt (f43 6) (f43 2) (f43 3); rw [hs6_f43, hs2_f43, hs3_f43]; exact FI.cast (hFJ (by omega)) (by first | with_reducible rfl | with_reducible assumption | rfl | omega) (by first | with_reducible rfl | with_reducible assumption | rfl | omega) (by first | with_reducible rfl | with_reducible assumption | rfl | omega))) k_1708 k_1710 k_66 k_114 k_1711 (by decide +kernel) ⟨Nat.le_of_ble_eq_true rfl, Nat.le_of_ble_eq_true rfl⟩ 0 11 rfl rfl (rfl) hl.1 rfl (Nat.le_of_ble_eq_true rfl) dX11_formula_190 (fun u H locs hw hP hD hS => ?_)
              obtain ⟨hG53, hw⟩ := hw
              obtain ⟨v54, f55, w56, g57⟩ := u
              obtain ⟨kV_v54, kF_f55, hIv54, hCf55, hRf55, hk0_v54, hk1_v54, hk2_v54, hk3_v54, hk4_v54, hk5_v54, hk9_v54, hk13_v54, hk15_v54, hk17_v54, hk18_v54, hk24_v54, hk25_v54, hk35_v54, hk36_v54, hk38_v54, hk39_v54, pv58, pv59, pv60, pv61, pg62, pg63, pg64, kq65⟩ := hw
              have hM_v54 : KV [1, 2, 3, 5, 6, 7, 8, 10, 11, 13, 14, 15] v54 v := KV.tr kV_v54 hM_v42 (by decide +kernel)
              have hA_f55 : KF [2, 3, 6] f55 f := KF.tr kF_f55 hA_f43 rfl
              have hP : va_P (dC, dI) vwCl (YW cy y0 r v54 f55 w56 g57) H := hP
              have hD : va_D A (YW cy y0 r v54 f55 w56 g57) := hD
              have b8_v54 : 0 ≤ (v54 8).toInt ∧ (v54 8).toInt ≤ 320 := YIb.b hIv54.1 8 (by decide)
              have b10_v54 : 0 ≤ (v54 10).toInt ∧ (v54 10).toInt ≤ 160 := YIb.b hIv54.1 10 (by decide)
              have b14_v54 : 0 ≤ (v54 14).toInt ∧ (v54 14).toInt ≤ 8 := YIb.b hIv54.1 14 (by decide)
              have pv58 : (v54 8).toInt + (v54 10).toInt = (v42 8).toInt + (v42 10).toInt := pv58
              have pv59 : (v54 10).toInt - (v54 14).toInt ≤ (v42 10).toInt - (v42 14).toInt := pv59
              have pv60 : (v54 10).toInt ≤ (v42 10).toInt := pv60
              have pv61 : (v54 14).toInt ≤ (v42 14).toInt := pv61
              have pg62 : FI 1 (v54 10).toInt (v54 14).toInt (v54 8).toInt (f55 6) (f55 2) (f55 3) := pg62
              have pg63 : ∀ k, k < ((v42 10).toInt).toNat → (f43 6) k = 20 → k < ((v54 10).toInt).toNat := pg63
              rw [hs6_f43] at pg63
              have pg64 : 0 < (0 : Int32).toInt ∨ (v54 10).toInt = 0 ∨ (f55 6) ((v54 10).toInt - 1).toNat = 20 := pg64
              have hs6_f55 : f55 6 = (f20 6) := kq65.trans hs6_f43
              rw [hs6_f55] at pg62
              rw [hs6_f55] at pg64
              have hUv54 : (v54 35).toInt + (v54 36).toInt ≤ 40 := hIv54.2
              have hq1_v54 : v54 1 = (v42 1) := hk1_v54
              have zq1_v54 := congrArg Int32.toInt hq1_v54
              have hq3_v54 : v54 3 = (v20 3) := hk3_v54.trans hq3_v42
              have zq3_v54 := congrArg Int32.toInt hq3_v54
              have hq5_v54 : v54 5 = (v20 5) := hk5_v54.trans hq5_v42
              have zq5_v54 := congrArg Int32.toInt hq5_v54
              have hq13_v54 : v54 13 = (v20 13) := hk13_v54.trans hq13_v42
              have zq13_v54 := congrArg Int32.toInt hq13_v54
              have hFK := pg62
              clear pg64
              exact ret (v54, f55, w56, g57) _ _ _ _ _ _ ⟨(hT21.symm.trans (gsY_X11_formula_1_q4 c37 hG39 hG41 c52 hG53)), hM_v54, hA_f55, hIv54, hCf55, hRf55, (hk0_v54.trans (hk0_v42.trans hq0_v20)), (hk4_v54.trans (hk4_v42.trans hq4_v20)), (hk9_v54.trans (hk9_v42.trans hq9_v20)), (hk17_v54.trans (hk17_v42.trans hq17_v20)), (hk18_v54.trans (hk18_v42.trans hq18_v20)), (hk24_v54.trans (hk24_v42.trans hq24_v20)), (hk25_v54.trans (hk25_v42.trans hq25_v20)), (hk35_v54.trans (hk35_v42.trans hq35_v20)), (hk36_v54.trans (hk36_v42.trans hq36_v20)), (hk38_v54.trans (hk38_v42.trans hq38_v20)), (hk39_v54.trans (hk39_v42.trans hq39_v20)), (by show GR (v 3).toInt (v 5).toInt (v54 3).toInt (v54 5).toInt; exact GR.cast hGR (by first | with_reducible rfl | with_reducible assumption | rfl | omega) (by first | with_reducible rfl | with_reducible assumption | rfl | omega)), (by show IM0 (v54 1).toInt (progOK (f55 2) (f55 3) ((v54 8).toInt).toNat); intro hz9; exact FI.prog hFK (by omega))⟩ hP hD hS dX11_formula_193 (Nat.le_refl _) (Nat.le_refl _)
          · skip
            subst g40
            refine lv_if_eq (tgt := 181) hx hb dX11_formula_173 (by decide) (fun _ => ?_) (fun c0 => absurd (by decide) c0)
            exact jp181 _ _ _ ((gsY_X11_formula_1_q5 c37 hG39).symm.trans hT21) hP hD hS hl
      revert jp162
      intro jp162
      refine lv_if_eq (tgt := 162) hx hb dX11_formula_36 (by decide) (fun c66 => ?_) (fun c66 => ?_)
      · skip
        have zc66 : l1_20.toInt = 0 := by rw [fa_eq, show (0 : Int32).toInt = 0 from by decide] at c66; exact c66
        exact jp162 _ _ _ ((gsY_X11_formula_1_q6 c66).symm.trans hT20) hP hD hS hl
      · skip
        have zc66 : ¬ (l1_20.toInt = 0) := by rw [fa_eq, show (0 : Int32).toInt = 0 from by decide] at c66; exact c66
        refine lv_aload_n hx hb dX11_formula_39 rfl (lv_at hl 1 rfl) ?_
        refine va_get (D := (dC, dI)) (ci := 11) (v := .int (v20 1)) (C := RX11) (T := TX11) (N := 79) hx hb hts inB_11 hown hE.1 hP 0 rfl rfl 2 (by decide) (hts _ k_1322) (fun _ h9 => h9) rfl dX11_formula_40 ?_
        refine lv_if_ne (tgt := 162) hx hb dX11_formula_43 (by decide) (fun c67 => ?_) (fun c67 => ?_)
        · skip
          have zc67 : ¬ ((v20 1).toInt = 0) := by rw [fa_eq, show (0 : Int32).toInt = 0 from by decide] at c67; exact c67
          exact jp162 _ _ _ ((gsY_X11_formula_1_q7 c66 c67).symm.trans hT20) hP hD hS hl
        · skip
          have zc67 : (v20 1).toInt = 0 := by rw [fa_eq, show (0 : Int32).toInt = 0 from by decide] at c67; exact c67
          obtain ⟨hn1, hn2, hn3, hn4⟩ := hNB (by omega)
          refine lv_aload_n hx hb dX11_formula_46 rfl (lv_at hl 1 rfl) ?_
          refine cbVi (n := 0) (rest := []) hx hb hml hown hts hE hP hD hS hA (sY_X11_sign_1 NF l dC dI cy y0 r  v20 f20 w20 g20 hIv20 hCf20 hRf20 ) k_1700 k_1702 k_64 k_114 k_1703 (by decide +kernel) ⟨Nat.le_of_ble_eq_true rfl, Nat.le_of_ble_eq_true rfl⟩ 0 11 rfl rfl (rfl) hl.1 rfl (Nat.le_of_ble_eq_true rfl) dX11_formula_47 (fun r68 u H locs hw hP hD hS => ?_)
          obtain ⟨hG69, hw⟩ := hw
          obtain ⟨pp70, hw⟩ := hw
          have pp70 : r68.toInt = 0 ∨ 37 ≤ r68.toInt := pp70
          have hSG : SG r68.toInt := pp70
          clear pp70
          refine lv_istore_n (lv' := [(2, .int r68), (1, .int l1_20), (0, .ref y0)]) hx hb dX11_formula_50 rfl hl (by decide) rfl (fun ls hl => ?_)
          have jp157 : ∀ (H : Heap) (locs : List Loc) (ls : Array Slot), gsY_X11_formula_1_J71 NF f20 g20 v20 w20 (fun z0 z1 z2 z3 z4 => gsY_X11_formula_1_L20 NF n20 z0 z1 z2 z3 z4) = (gsY_X11_formula_1 NF v f w g) → va_P (dC, dI) vwCl (YW cy y0 r v20 f20 w20 g20) H → va_D A (YW cy y0 r v20 f20 w20 g20) → va_S A s.heap H locs → lv_has ls 3 [(2, .int r68), (1, .int l1_20), (0, .ref y0)] → W p l e { frames := 5, cells := 0, slots := 0, locals := 146 } s m ([.ref y0] : List Value).toArray below meth c H locs 0 0 Q (F0 m 157 ls []) := by
            intro H locs ls hT71 hP hD hS hl
            refine lv_iconst (v := 0) hx hb dX11_formula_157 (by decide) ?_
            refine lv_istore_n (lv' := [(1, .int 0), (2, .int r68), (0, .ref y0)]) hx hb dX11_formula_158 rfl hl (by decide) rfl (fun ls hl => ?_)
            refine lv_goto (tgt := 35) hx hb dX11_formula_159 (by decide) ?_
            exact ih20 0 v20 f20 w20 g20 hIv20 hCf20 hRf20 hq0_v20 hq4_v20 hq9_v20 hq15_v20 hq17_v20 hq18_v20 hq24_v20 hq25_v20 hq35_v20 hq36_v20 hq38_v20 hq39_v20 (gsY_X11_formula_1_q8.symm.trans hT71) ⟨by decide, by decide⟩ (by show IM0 (v20 1).toInt (FI 1 (v20 10).toInt (v20 14).toInt (v20 8).toInt (f20 6) (f20 2) (f20 3)); intro hz9; exact FI.cast (hFJ (by omega)) (by first | with_reducible rfl | with_reducible assumption | rfl | omega) (by first | with_reducible rfl | with_reducible assumption | rfl | omega) (by first | with_reducible rfl | with_reducible assumption | rfl | omega)) (by show NB (v20 1).toInt (v20 8).toInt (v20 10).toInt (v20 13).toInt (v20 14).toInt; exact NB.mk (by omega) (by omega) (by omega) (by omega)) (by show GR (v 3).toInt (v 5).toInt (v20 3).toInt (v20 5).toInt; exact GR.cast hGR (by first | with_reducible rfl | with_reducible assumption | rfl | omega) (by first | with_reducible rfl | with_reducible assumption | rfl | omega)) hM_v20 hA_f20 (by have q1 : (0 : Int32).toInt = 0 := (by decide); show (1 + 100 * (31 - (v20 13).toInt) + 2 * (v20 10).toInt + (0 : Int32).toInt - 100000 * (v20 1).toInt).toNat < n20; omega) _ _ _ hP hD hS (lv_sub hl [0, 2] rfl)
          revert jp157
          intro jp157
          have jp99 : ∀ (H : Heap) (locs : List Loc) (ls : Array Slot), gsY_X11_formula_1_J72 NF f20 g20 l1_20 v20 w20 r68 (fun z0 z1 z2 z3 z4 => gsY_X11_formula_1_L20 NF n20 z0 z1 z2 z3 z4) = (gsY_X11_formula_1 NF v f w g) → va_P (dC, dI) vwCl (YW cy y0 r v20 f20 w20 g20) H → va_D A (YW cy y0 r v20 f20 w20 g20) → va_S A s.heap H locs → lv_has ls 3 [(2, .int r68), (1, .int l1_20), (0, .ref y0)] → W p l e { frames := 5, cells := 0, slots := 0, locals := 146 } s m ([.ref y0] : List Value).toArray below meth c H locs 0 0 Q (F0 m 99 ls []) := by
            intro H locs ls hT72 hP hD hS hl
            refine lv_iload_n hx hb dX11_formula_99 rfl (lv_at hl 0 rfl) ?_
            refine lv_if_eq (tgt := 157) hx hb dX11_formula_100 (by decide) (fun c73 => ?_) (fun c73 => ?_)
            · skip
              have zc73 : r68.toInt = 0 := by rw [fa_eq, show (0 : Int32).toInt = 0 from by decide] at c73; exact c73
              exact jp157 _ _ _ ((gsY_X11_formula_1_q9 c73).symm.trans hT72) hP hD hS hl
            · skip
              have zc73 : ¬ (r68.toInt = 0) := by rw [fa_eq, show (0 : Int32).toInt = 0 from by decide] at c73; exact c73
              have jp118 : ∀ (H : Heap) (locs : List Loc) (ls : Array Slot), gsY_X11_formula_1_J74 NF f20 g20 l1_20 v20 w20 r68 (fun z0 z1 z2 z3 z4 => gsY_X11_formula_1_L20 NF n20 z0 z1 z2 z3 z4) = (gsY_X11_formula_1 NF v f w g) → va_P (dC, dI) vwCl (YW cy y0 r v20 f20 w20 g20) H → va_D A (YW cy y0 r v20 f20 w20 g20) → va_S A s.heap H locs → lv_has ls 3 [(2, .int r68), (1, .int l1_20), (0, .ref y0)] → W p l e { frames := 5, cells := 0, slots := 0, locals := 146 } s m ([.ref y0] : List Value).toArray below meth c H locs 0 0 Q (F0 m 118 ls []) := by
                intro H locs ls hT74 hP hD hS hl
                refine lv_aload_n hx hb dX11_formula_118 rfl (lv_at hl 2 rfl) ?_
                refine lv_iload_n hx hb dX11_formula_119 rfl (lv_at hl 0 rfl) ?_
                refine cbSi (n := 1) (rest := [.ref y0]) hx hb hml hown hts hE hP hD hS hA (sY_X11_tight_1 NF l dC dI cy y0 r r68 v20 f20 w20 g20 hIv20 hCf20 hRf20 ) k_1677 k_1678 k_114 k_1679 (by decide +kernel) ⟨Nat.le_of_ble_eq_true rfl, Nat.le_of_ble_eq_true rfl⟩ (rfl) hl.1 rfl (Nat.le_of_ble_eq_true rfl) dX11_formula_120 (fun r75 u H locs hw hP hD hS => ?_)
                obtain ⟨hG76, hw⟩ := hw
                refine cbVv (n := 1) (rest := []) hx hb hml hown hts hE hP hD hS hA (sY_X11_close_1 NF l dC dI cy y0 r r75 v20 f20 w20 g20 hIv20 hCf20 hRf20 ⟨show (0 : Int) ≤ r75.toInt by omega, show r75.toInt ≤ (6 : Int) by omega⟩ (by show (v20 8).toInt + (v20 10).toInt ≤ 310; omega) (by show FI 1 (v20 10).toInt (v20 14).toInt (v20 8).toInt (f20 6) (f20 2) (f20 3); exact FI.cast (hFJ (by omega)) (by first | with_reducible rfl | with_reducible assumption | rfl | omega) (by first | with_reducible rfl | with_reducible assumption | rfl | omega) (by first | with_reducible rfl | with_reducible assumption | rfl | omega))) k_1708 k_1710 k_66 k_114 k_1711 (by decide +kernel) ⟨Nat.le_of_ble_eq_true rfl, Nat.le_of_ble_eq_true rfl⟩ 0 11 rfl rfl (rfl) hl.1 rfl (Nat.le_of_ble_eq_true rfl) dX11_formula_123 (fun u H locs hw hP hD hS => ?_)
                obtain ⟨hG77, hw⟩ := hw
                obtain ⟨v78, f79, w80, g81⟩ := u
                obtain ⟨kV_v78, kF_f79, hIv78, hCf79, hRf79, hk0_v78, hk1_v78, hk2_v78, hk3_v78, hk4_v78, hk5_v78, hk9_v78, hk13_v78, hk15_v78, hk17_v78, hk18_v78, hk24_v78, hk25_v78, hk35_v78, hk36_v78, hk38_v78, hk39_v78, pv82, pv83, pv84, pv85, pg86, pg87, pg88, kq89⟩ := hw
                have hM_v78 : KV [1, 2, 3, 5, 6, 7, 8, 10, 11, 13, 14, 15] v78 v := KV.tr kV_v78 hM_v20 (by decide +kernel)
                have hA_f79 : KF [2, 3, 6] f79 f := KF.tr kF_f79 hA_f20 rfl
                have hP : va_P (dC, dI) vwCl (YW cy y0 r v78 f79 w80 g81) H := hP
                have hD : va_D A (YW cy y0 r v78 f79 w80 g81) := hD
                have b8_v78 : 0 ≤ (v78 8).toInt ∧ (v78 8).toInt ≤ 320 := YIb.b hIv78.1 8 (by decide)
                have b10_v78 : 0 ≤ (v78 10).toInt ∧ (v78 10).toInt ≤ 160 := YIb.b hIv78.1 10 (by decide)
                have b14_v78 : 0 ≤ (v78 14).toInt ∧ (v78 14).toInt ≤ 8 := YIb.b hIv78.1 14 (by decide)
                have pv82 : (v78 8).toInt + (v78 10).toInt = (v20 8).toInt + (v20 10).toInt := pv82
                have pv83 : (v78 10).toInt - (v78 14).toInt ≤ (v20 10).toInt - (v20 14).toInt := pv83
                have pv84 : (v78 10).toInt ≤ (v20 10).toInt := pv84
                have pv85 : (v78 14).toInt ≤ (v20 14).toInt := pv85
                have pg86 : FI 1 (v78 10).toInt (v78 14).toInt (v78 8).toInt (f79 6) (f79 2) (f79 3) := pg86
                have pg87 : ∀ k, k < ((v20 10).toInt).toNat → (f20 6) k = 20 → k < ((v78 10).toInt).toNat := pg87
                have pg88 : 0 < r75.toInt ∨ (v78 10).toInt = 0 ∨ (f79 6) ((v78 10).toInt - 1).toNat = 20 := pg88
                have hs6_f79 : f79 6 = (f20 6) := kq89
                rw [hs6_f79] at pg86
                rw [hs6_f79] at pg88
                have hUv78 : (v78 35).toInt + (v78 36).toInt ≤ 40 := hIv78.2
                have hq0_v78 : v78 0 = (v 0) := hk0_v78.trans hq0_v20
                have hq1_v78 : v78 1 = (v20 1) := hk1_v78
                have zq1_v78 := congrArg Int32.toInt hq1_v78
                have hq3_v78 : v78 3 = (v20 3) := hk3_v78
                have zq3_v78 := congrArg Int32.toInt hq3_v78
                have hq4_v78 : v78 4 = (v 4) := hk4_v78.trans hq4_v20
                have hq5_v78 : v78 5 = (v20 5) := hk5_v78
                have zq5_v78 := congrArg Int32.toInt hq5_v78
                have hq9_v78 : v78 9 = (v 9) := hk9_v78.trans hq9_v20
                have hq13_v78 : v78 13 = (v20 13) := hk13_v78
                have zq13_v78 := congrArg Int32.toInt hq13_v78
                have hq15_v78 : v78 15 = 1 := hk15_v78.trans hq15_v20
                have hq17_v78 : v78 17 = (v 17) := hk17_v78.trans hq17_v20
                have hq18_v78 : v78 18 = (v 18) := hk18_v78.trans hq18_v20
                have hq24_v78 : v78 24 = (v 24) := hk24_v78.trans hq24_v20
                have hq25_v78 : v78 25 = (v 25) := hk25_v78.trans hq25_v20
                have hq35_v78 : v78 35 = (v 35) := hk35_v78.trans hq35_v20
                have hq36_v78 : v78 36 = (v 36) := hk36_v78.trans hq36_v20
                have hq38_v78 : v78 38 = (v 38) := hk38_v78.trans hq38_v20
                have hq39_v78 : v78 39 = (v 39) := hk39_v78.trans hq39_v20
                have hFK := pg86
                clear pg88
                refine lv_aload_n hx hb dX11_formula_126 rfl (lv_at hl 2 rfl) ?_
                refine va_get (D := (dC, dI)) (ci := 11) (v := .ref (r 15)) (C := RX11) (T := TX11) (N := 79) hx hb hts inB_11 hown hE.1 hP 0 rfl rfl 15 (by decide) (hts _ k_1335) (fun _ h9 => h9) rfl dX11_formula_127 ?_
                refine lv_aload_n hx hb dX11_formula_130 rfl (lv_at hl 2 rfl) ?_
                refine va_get (D := (dC, dI)) (ci := 11) (v := .int (v78 10)) (C := RX11) (T := TX11) (N := 79) hx hb hts inB_11 hown hE.1 hP 0 rfl rfl 19 (by decide) (hts _ k_1339) (fun _ h9 => h9) rfl dX11_formula_131 ?_
                have b10_v78 : 0 ≤ (v78 10).toInt ∧ (v78 10).toInt ≤ 160 := YIb.b hIv78.1 10 (by decide)
                refine lv_iload_n hx hb dX11_formula_134 rfl (lv_at hl 0 rfl) ?_
                refine stI hx hb hE hP hD hS 7 rfl (vp_in_iff.mpr ⟨by omega, by omega⟩) rfl dX11_formula_135 (fun H locs hP hD hS => ?_)
                obtain ⟨f90, ef90, hP, hD⟩ : ∃ fz9, fz9 = upd2 f79 6 (upd (f79 6) (v78 10).toNatClampNeg r68) ∧ va_P (dC, dI) vwCl (YW cy y0 r v78 fz9 w80 g81) H ∧ va_D A (YW cy y0 r v78 fz9 w80 g81) := ⟨_, rfl, hP, hD⟩
                have hCf90 : YC f90 := by rw [ef90]; exact hCf79
                have hRf90 : progOK (f90 4) (f90 5) (v78 9).toInt.toNat := by rw [ef90]; exact hRf79
                have hs2_f90 : f90 2 = (f79 2) := by rw [ef90]; exact rfl
                have hs3_f90 : f90 3 = (f79 3) := by rw [ef90]; exact rfl
                have hs6_f90 : f90 6 = (upd (f20 6) ((v78 10).toInt.toNat) r68) := by rw [ef90]; show upd (f79 6) ((v78 10).toInt.toNat) r68 = _; rw [hs6_f79]
                have hA_f90 : KF [2, 3, 6] f90 f := by rw [ef90]; exact KF.up hA_f79 rfl
                refine lv_aload_n hx hb dX11_formula_136 rfl (lv_at hl 2 rfl) ?_
                refine lv_dup hx hb dX11_formula_137 rfl ?_
                refine va_get (D := (dC, dI)) (ci := 11) (v := .int (v78 10)) (C := RX11) (T := TX11) (N := 79) hx hb hts inB_11 hown hE.1 hP 0 rfl rfl 19 (by decide) (hts _ k_1339) (fun _ h9 => h9) rfl dX11_formula_138 ?_
                refine lv_iconst (v := 1) hx hb dX11_formula_141 (by decide) ?_
                refine lv_iadd hx hb dX11_formula_142 ?_
                refine lv_topi (fun t91 et91 => ?_)
                have rg92 := fb_rng (v78 10)
                have zt91 : t91.toInt = (v78 10).toInt + 1 := by rw [et91]; exact add_i rfl (by decide) (by omega) (by omega)
                refine va_put (D := (dC, dI)) (ci := 11) (v := .int t91) (ty := tyX11 19) (C := RX11) (T := TX11) (N := 79) hx hb hts inB_11 tyX11 tyX11_ok nmX11 hown hE.1 hP hD hS 0 rfl rfl 19 (by decide) (hts _ k_1339) (fun _ h9 => h9) rfl (tyX11_ok 19 (by decide)) rfl rfl (Nat.le_of_ble_eq_true rfl) dX11_formula_143 (fun H locs hP hD hS => ?_)
                have hP : va_P (dC, dI) vwCl (YW cy y0 r (upd v78 10 t91) f90 w80 g81) H := hP
                have hD : va_D A (YW cy y0 r (upd v78 10 t91) f90 w80 g81) := hD
                refine lv_aload_n hx hb dX11_formula_146 rfl (lv_at hl 2 rfl) ?_
                refine cbVv (n := 0) (rest := []) hx hb hml hown hts hE hP hD hS hA (sY_X11_token_1 NF l dC dI cy y0 r  (upd v78 10 t91) f90 w80 g81 ⟨(YIb.upd (j := 10) (x := t91) hIv78.1 (show (0 : Int) ≤ t91.toInt by omega) (show t91.toInt ≤ (160 : Int) by omega)), hIv78.2⟩ hCf90 hRf90 ) k_1579 k_1581 k_42 k_114 k_1582 (by decide +kernel) ⟨Nat.le_of_ble_eq_true rfl, Nat.le_of_ble_eq_true rfl⟩ 0 11 rfl rfl (rfl) hl.1 rfl (Nat.le_of_ble_eq_true rfl) dX11_formula_147 (fun u H locs hw hP hD hS => ?_)
                obtain ⟨hG93, hw⟩ := hw
                obtain ⟨v94, f95, w96, g97⟩ := u
                obtain ⟨kV_v94, kF_f95, hIv94, hCf95, hRf95, hk0_v94, hk1_v94, hk2_v94, hk4_v94, hk8_v94, hk9_v94, hk10_v94, hk13_v94, hk14_v94, hk15_v94, hk17_v94, hk18_v94, hk24_v94, hk25_v94, hk35_v94, hk36_v94, hk38_v94, hk39_v94, pv98, pv99, kq100, kq101, kq102⟩ := hw
                have hM_v94 : KV [1, 2, 3, 5, 6, 7, 8, 10, 11, 13, 14, 15] v94 v := KV.tr kV_v94 (KV.up (j := 10) (x := t91) hM_v78 (by decide +kernel)) (by decide +kernel)
                have hA_f95 : KF [2, 3, 6] f95 f := KF.tr kF_f95 hA_f90 rfl
                have hP : va_P (dC, dI) vwCl (YW cy y0 r v94 f95 w96 g97) H := hP
                have hD : va_D A (YW cy y0 r v94 f95 w96 g97) := hD
                have b3_v94 : 0 ≤ (v94 3).toInt ∧ (v94 3).toInt ≤ 1600 := YIb.b hIv94.1 3 (by decide)
                have pv98 : (v78 3).toInt ≤ (v94 3).toInt := pv98
                have pv99 : (v94 5).toInt = (v78 5).toInt ∨ (v78 3).toInt < (v94 3).toInt ∨ ¬ (v94 5).toInt = 59 := pv99
                have hs2_f95 : f95 2 = (f79 2) := kq100.trans hs2_f90
                have hs3_f95 : f95 3 = (f79 3) := kq101.trans hs3_f90
                have hs6_f95 : f95 6 = (upd (f20 6) ((v78 10).toInt.toNat) r68) := kq102.trans hs6_f90
                have hUv94 : (v94 35).toInt + (v94 36).toInt ≤ 40 := hIv94.2
                have hq0_v94 : v94 0 = (v 0) := hk0_v94.trans hq0_v78
                have hq1_v94 : v94 1 = (v20 1) := hk1_v94.trans hq1_v78
                have zq1_v94 := congrArg Int32.toInt hq1_v94
                have hq4_v94 : v94 4 = (v 4) := hk4_v94.trans hq4_v78
                have hq8_v94 : v94 8 = (v78 8) := hk8_v94
                have zq8_v94 := congrArg Int32.toInt hq8_v94
                have hq9_v94 : v94 9 = (v 9) := hk9_v94.trans hq9_v78
                have hq10_v94 : v94 10 = t91 := hk10_v94
                have zq10_v94 := congrArg Int32.toInt hq10_v94
                have hq13_v94 : v94 13 = (v20 13) := hk13_v94.trans hq13_v78
                have zq13_v94 := congrArg Int32.toInt hq13_v94
                have hq14_v94 : v94 14 = (v78 14) := hk14_v94
                have zq14_v94 := congrArg Int32.toInt hq14_v94
                have hq15_v94 : v94 15 = 1 := hk15_v94.trans hq15_v78
                have hq17_v94 : v94 17 = (v 17) := hk17_v94.trans hq17_v78
                have hq18_v94 : v94 18 = (v 18) := hk18_v94.trans hq18_v78
                have hq24_v94 : v94 24 = (v 24) := hk24_v94.trans hq24_v78
                have hq25_v94 : v94 25 = (v 25) := hk25_v94.trans hq25_v78
                have hq35_v94 : v94 35 = (v 35) := hk35_v94.trans hq35_v78
                have hq36_v94 : v94 36 = (v 36) := hk36_v94.trans hq36_v78
                have hq38_v94 : v94 38 = (v 38) := hk38_v94.trans hq38_v78
                have hq39_v94 : v94 39 = (v 39) := hk39_v94.trans hq39_v78
                have hGR : GR (v 3).toInt (v 5).toInt (v94 3).toInt (v94 5).toInt := GR.tr hGR (show GR (v78 3).toInt (v78 5).toInt (v94 3).toInt (v94 5).toInt from ⟨pv98, pv99⟩) (by first | with_reducible rfl | with_reducible assumption | rfl | omega) (by first | with_reducible rfl | with_reducible assumption | rfl | omega)
                clear pv99
                refine lv_aload_n hx hb dX11_formula_150 rfl (lv_at hl 2 rfl) ?_
                refine cbVv (n := 0) (rest := []) hx hb hml hown hts hE hP hD hS hA (sY_X11_unit_1 NF l dC dI cy y0 r  v94 f95 w96 g97 hIv94 hCf95 hRf95 (by show (v94 8).toInt + (v94 10).toInt ≤ 10 * (v94 13).toInt + 1; omega) (by show (v94 10).toInt ≤ (v94 14).toInt + (v94 13).toInt + 1; omega) (by show (v94 13).toInt ≤ 30; omega) (by show (v94 14).toInt ≤ 7; omega) (by show FI 0 (v94 10).toInt (v94 14).toInt (v94 8).toInt (f95 6) (f95 2) (f95 3); rw [hs6_f95, hs2_f95, hs3_f95]; exact FI.sign hFK rfl (by omega) (hSG.n20 (by first | assumption | omega)) (hSG.n21 (by first | assumption | omega)) (by first | with_reducible rfl | with_reducible assumption | rfl | omega) (by first | with_reducible rfl | with_reducible assumption | rfl | omega) (by first | with_reducible rfl | with_reducible assumption | rfl | omega))) k_1669 k_1671 k_57 k_114 k_1672 (by decide +kernel) ⟨Nat.le_of_ble_eq_true rfl, Nat.le_of_ble_eq_true rfl⟩ 0 11 rfl rfl (rfl) hl.1 rfl (Nat.le_of_ble_eq_true rfl) dX11_formula_151 (fun u H locs hw hP hD hS => ?_)
                obtain ⟨hG103, hw⟩ := hw
                obtain ⟨v104, f105, w106, g107⟩ := u
                obtain ⟨kV_v104, kF_f105, hIv104, hCf105, hRf105, hk0_v104, hk4_v104, hk9_v104, hk15_v104, hk17_v104, hk18_v104, hk24_v104, hk25_v104, hk35_v104, hk36_v104, hk38_v104, hk39_v104, pg108, pg109, pg110, pg111⟩ := hw
                have hM_v104 : KV [1, 2, 3, 5, 6, 7, 8, 10, 11, 13, 14, 15] v104 v := KV.tr kV_v104 hM_v94 (by decide +kernel)
                have hA_f105 : KF [2, 3, 6] f105 f := KF.tr kF_f105 hA_f95 rfl
                have hP : va_P (dC, dI) vwCl (YW cy y0 r v104 f105 w106 g107) H := hP
                have hD : va_D A (YW cy y0 r v104 f105 w106 g107) := hD
                have b3_v104 : 0 ≤ (v104 3).toInt ∧ (v104 3).toInt ≤ 1600 := YIb.b hIv104.1 3 (by decide)
                have b1_v104 : 0 ≤ (v104 1).toInt ∧ (v104 1).toInt ≤ 4 := YIb.b hIv104.1 1 (by decide)
                have b10_v104 : 0 ≤ (v104 10).toInt ∧ (v104 10).toInt ≤ 160 := YIb.b hIv104.1 10 (by decide)
                have b14_v104 : 0 ≤ (v104 14).toInt ∧ (v104 14).toInt ≤ 8 := YIb.b hIv104.1 14 (by decide)
                have b8_v104 : 0 ≤ (v104 8).toInt ∧ (v104 8).toInt ≤ 320 := YIb.b hIv104.1 8 (by decide)
                have b13_v104 : 0 ≤ (v104 13).toInt ∧ (v104 13).toInt ≤ 31 := YIb.b hIv104.1 13 (by decide)
                have pg108 : GR (v94 3).toInt (v94 5).toInt (v104 3).toInt (v104 5).toInt := pg108
                have pg109 : IM0 (v104 1).toInt (FI 1 (v104 10).toInt (v104 14).toInt (v104 8).toInt (f105 6) (f105 2) (f105 3)) := pg109
                have pg110 : NB (v104 1).toInt (v104 8).toInt (v104 10).toInt (v104 13).toInt (v104 14).toInt := pg110
                have pg111 : UG (v104 1).toInt (v94 13).toInt (v104 13).toInt := pg111
                have hUv104 : (v104 35).toInt + (v104 36).toInt ≤ 40 := hIv104.2
                have hq0_v104 : v104 0 = (v 0) := hk0_v104.trans hq0_v94
                have hq4_v104 : v104 4 = (v 4) := hk4_v104.trans hq4_v94
                have hq9_v104 : v104 9 = (v 9) := hk9_v104.trans hq9_v94
                have hq15_v104 : v104 15 = 1 := hk15_v104.trans hq15_v94
                have hq17_v104 : v104 17 = (v 17) := hk17_v104.trans hq17_v94
                have hq18_v104 : v104 18 = (v 18) := hk18_v104.trans hq18_v94
                have hq24_v104 : v104 24 = (v 24) := hk24_v104.trans hq24_v94
                have hq25_v104 : v104 25 = (v 25) := hk25_v104.trans hq25_v94
                have hq35_v104 : v104 35 = (v 35) := hk35_v104.trans hq35_v94
                have hq36_v104 : v104 36 = (v 36) := hk36_v104.trans hq36_v94
                have hq38_v104 : v104 38 = (v 38) := hk38_v104.trans hq38_v94
                have hq39_v104 : v104 39 = (v 39) := hk39_v104.trans hq39_v94
                have hGR : GR (v 3).toInt (v 5).toInt (v104 3).toInt (v104 5).toInt := GR.tr hGR (show GR (v94 3).toInt (v94 5).toInt (v104 3).toInt (v104 5).toInt from pg108) (by first | with_reducible rfl | with_reducible assumption | rfl | omega) (by first | with_reducible rfl | with_reducible assumption | rfl | omega)
                have hFJ := pg109
                have hNB := pg110
                have hug := UG.or pg111 pg110 (by omega)
                refine lv_goto (tgt := 159) hx hb dX11_formula_154 (by decide) ?_
                refine lv_goto (tgt := 35) hx hb dX11_formula_159 (by decide) ?_
                have rg112 := fb_rng l1_20
                exact ih20 l1_20 v104 f105 w106 g107 hIv104 hCf105 hRf105 hq0_v104 hq4_v104 hq9_v104 hq15_v104 hq17_v104 hq18_v104 hq24_v104 hq25_v104 hq35_v104 hq36_v104 hq38_v104 hq39_v104 ((gsY_X11_formula_1_q10 hG76.symm hG77 ef90 et91 hG93 hG103).symm.trans hT74) ⟨show (0 : Int) ≤ l1_20.toInt by omega, show l1_20.toInt ≤ (1 : Int) by omega⟩ (by show IM0 (v104 1).toInt (FI 1 (v104 10).toInt (v104 14).toInt (v104 8).toInt (f105 6) (f105 2) (f105 3)); intro hz9; exact FI.cast (hFJ (by omega)) (by first | with_reducible rfl | with_reducible assumption | rfl | omega) (by first | with_reducible rfl | with_reducible assumption | rfl | omega) (by first | with_reducible rfl | with_reducible assumption | rfl | omega)) (by show NB (v104 1).toInt (v104 8).toInt (v104 10).toInt (v104 13).toInt (v104 14).toInt; exact NB.cast hNB (by first | with_reducible rfl | with_reducible assumption | rfl | omega) (by first | with_reducible rfl | with_reducible assumption | rfl | omega) (by first | with_reducible rfl | with_reducible assumption | rfl | omega) (by first | with_reducible rfl | with_reducible assumption | rfl | omega) (by first | with_reducible rfl | with_reducible assumption | rfl | omega)) (by show GR (v 3).toInt (v 5).toInt (v104 3).toInt (v104 5).toInt; exact GR.cast hGR (by first | with_reducible rfl | with_reducible assumption | rfl | omega) (by first | with_reducible rfl | with_reducible assumption | rfl | omega)) hM_v104 hA_f105 (by show (1 + 100 * (31 - (v104 13).toInt) + 2 * (v104 10).toInt + l1_20.toInt - 100000 * (v104 1).toInt).toNat < n20; exact msF (by omega) hug (by omega) (by omega) (by omega) (by omega) (by omega) (by omega)) _ _ _ hP hD hS (lv_sub hl [1, 2] rfl)
              revert jp118
              intro jp118
              refine lv_iload_n hx hb dX11_formula_103 rfl (lv_at hl 0 rfl) ?_
              refine cbSi (n := 1) (rest := []) hx hb hml hown hts hE hP hD hS hA (sY_X11_tight_1 NF l dC dI cy y0 r r68 v20 f20 w20 g20 hIv20 hCf20 hRf20 ) k_1677 k_1678 k_114 k_1679 (by decide +kernel) ⟨Nat.le_of_ble_eq_true rfl, Nat.le_of_ble_eq_true rfl⟩ (rfl) hl.1 rfl (Nat.le_of_ble_eq_true rfl) dX11_formula_104 (fun r113 u H locs hw hP hD hS => ?_)
              obtain ⟨hG114, hw⟩ := hw
              refine lv_iconst (v := 4) hx hb dX11_formula_107 (by decide) ?_
              refine lv_icmp_ne (tgt := 118) hx hb dX11_formula_108 (by decide) (fun c115 => ?_) (fun c115 => ?_)
              · skip
                have zc115 : ¬ (r113.toInt = 4) := by rw [fa_eq, show (4 : Int32).toInt = 4 from by decide] at c115; exact c115
                exact jp118 _ _ _ ((gsY_X11_formula_1_q11 c73 hG114.symm c115).symm.trans hT72) hP hD hS hl
              · skip
                have zc115 : r113.toInt = 4 := by rw [fa_eq, show (4 : Int32).toInt = 4 from by decide] at c115; exact c115
                refine lv_aload_n hx hb dX11_formula_111 rfl (lv_at hl 2 rfl) ?_
                refine cbVi (n := 0) (rest := []) hx hb hml hown hts hE hP hD hS hA (sY_X11_hasRelation_1 NF l dC dI cy y0 r  v20 f20 w20 g20 hIv20 hCf20 hRf20 ) k_1712 k_1714 k_67 k_114 k_1715 (by decide +kernel) ⟨Nat.le_of_ble_eq_true rfl, Nat.le_of_ble_eq_true rfl⟩ 0 11 rfl rfl (rfl) hl.1 rfl (Nat.le_of_ble_eq_true rfl) dX11_formula_112 (fun r116 u H locs hw hP hD hS => ?_)
                obtain ⟨hG117, hw⟩ := hw
                rcases hw with ⟨g118⟩ | ⟨g118⟩
                · skip
                  subst g118
                  refine lv_if_ne (tgt := 157) hx hb dX11_formula_115 (by decide) (fun _ => ?_) (fun c0 => absurd c0 (by decide))
                  exact jp157 _ _ _ ((gsY_X11_formula_1_q12 c73 hG114.symm c115 hG117).symm.trans hT72) hP hD hS hl
                · skip
                  subst g118
                  refine lv_if_ne (tgt := 157) hx hb dX11_formula_115 (by decide) (fun c0 => absurd (by decide) c0) (fun _ => ?_)
                  exact jp118 _ _ _ ((gsY_X11_formula_1_q13 c73 hG114.symm c115 hG117).symm.trans hT72) hP hD hS hl
          revert jp99
          intro jp99
          refine lv_aload_n hx hb dX11_formula_51 rfl (lv_at hl 2 rfl) ?_
          refine va_get (D := (dC, dI)) (ci := 11) (v := .int (v20 5)) (C := RX11) (T := TX11) (N := 79) hx hb hts inB_11 hown hE.1 hP 0 rfl rfl 6 (by decide) (hts _ k_1326) (fun _ h9 => h9) rfl dX11_formula_52 ?_
          refine lv_bipush (v := 41) hx hb dX11_formula_55 (by decide) ?_
          refine lv_icmp_ne (tgt := 99) hx hb dX11_formula_57 (by decide) (fun c119 => ?_) (fun c119 => ?_)
          · skip
            have zc119 : ¬ ((v20 5).toInt = 41) := by rw [fa_eq, show (41 : Int32).toInt = 41 from by decide] at c119; exact c119
            exact jp99 _ _ _ ((gsY_X11_formula_1_q14 c66 c67 hG69.symm c119).symm.trans hT20) hP hD hS hl
          · skip
            have zc119 : (v20 5).toInt = 41 := by rw [fa_eq, show (41 : Int32).toInt = 41 from by decide] at c119; exact c119
            refine lv_aload_n hx hb dX11_formula_60 rfl (lv_at hl 2 rfl) ?_
            refine cbVi (n := 0) (rest := []) hx hb hml hown hts hE hP hD hS hA (sY_X11_hasBracket_1 NF l dC dI cy y0 r  v20 f20 w20 g20 hIv20 hCf20 hRf20 ) k_1704 k_1706 k_65 k_114 k_1707 (by decide +kernel) ⟨Nat.le_of_ble_eq_true rfl, Nat.le_of_ble_eq_true rfl⟩ 0 11 rfl rfl (rfl) hl.1 rfl (Nat.le_of_ble_eq_true rfl) dX11_formula_61 (fun r120 u H locs hw hP hD hS => ?_)
            obtain ⟨hG121, hw⟩ := hw
            rcases hw with ⟨g122, g122_0⟩ | ⟨g122⟩
            · skip
              subst g122
              have hBr := g122_0
              refine lv_if_eq (tgt := 99) hx hb dX11_formula_64 (by decide) (fun c0 => absurd c0 (by decide)) (fun _ => ?_)
              refine lv_aload_n hx hb dX11_formula_67 rfl (lv_at hl 2 rfl) ?_
              refine lv_iconst (v := 0) hx hb dX11_formula_68 (by decide) ?_
              refine cbVv (n := 1) (rest := []) hx hb hml hown hts hE hP hD hS hA (sY_X11_close_1 NF l dC dI cy y0 r 0 v20 f20 w20 g20 hIv20 hCf20 hRf20 ⟨by decide, by decide⟩ (by have q1 : (0 : Int32).toInt = 0 := (by decide); show (v20 8).toInt + (v20 10).toInt ≤ 310; omega) (by show FI 1 (v20 10).toInt (v20 14).toInt (v20 8).toInt (f20 6) (f20 2) (f20 3); exact FI.cast (hFJ (by omega)) (by first | with_reducible rfl | with_reducible assumption | rfl | omega) (by first | with_reducible rfl | with_reducible assumption | rfl | omega) (by first | with_reducible rfl | with_reducible assumption | rfl | omega))) k_1708 k_1710 k_66 k_114 k_1711 (by decide +kernel) ⟨Nat.le_of_ble_eq_true rfl, Nat.le_of_ble_eq_true rfl⟩ 0 11 rfl rfl (rfl) hl.1 rfl (Nat.le_of_ble_eq_true rfl) dX11_formula_69 (fun u H locs hw hP hD hS => ?_)
              obtain ⟨hG123, hw⟩ := hw
              obtain ⟨v124, f125, w126, g127⟩ := u
              obtain ⟨kV_v124, kF_f125, hIv124, hCf125, hRf125, hk0_v124, hk1_v124, hk2_v124, hk3_v124, hk4_v124, hk5_v124, hk9_v124, hk13_v124, hk15_v124, hk17_v124, hk18_v124, hk24_v124, hk25_v124, hk35_v124, hk36_v124, hk38_v124, hk39_v124, pv128, pv129, pv130, pv131, pg132, pg133, pg134, kq135⟩ := hw
              have hM_v124 : KV [1, 2, 3, 5, 6, 7, 8, 10, 11, 13, 14, 15] v124 v := KV.tr kV_v124 hM_v20 (by decide +kernel)
              have hA_f125 : KF [2, 3, 6] f125 f := KF.tr kF_f125 hA_f20 rfl
              have hP : va_P (dC, dI) vwCl (YW cy y0 r v124 f125 w126 g127) H := hP
              have hD : va_D A (YW cy y0 r v124 f125 w126 g127) := hD
              have b8_v124 : 0 ≤ (v124 8).toInt ∧ (v124 8).toInt ≤ 320 := YIb.b hIv124.1 8 (by decide)
              have b10_v124 : 0 ≤ (v124 10).toInt ∧ (v124 10).toInt ≤ 160 := YIb.b hIv124.1 10 (by decide)
              have b14_v124 : 0 ≤ (v124 14).toInt ∧ (v124 14).toInt ≤ 8 := YIb.b hIv124.1 14 (by decide)
              have pv128 : (v124 8).toInt + (v124 10).toInt = (v20 8).toInt + (v20 10).toInt := pv128
              have pv129 : (v124 10).toInt - (v124 14).toInt ≤ (v20 10).toInt - (v20 14).toInt := pv129
              have pv130 : (v124 10).toInt ≤ (v20 10).toInt := pv130
              have pv131 : (v124 14).toInt ≤ (v20 14).toInt := pv131
              have pg132 : FI 1 (v124 10).toInt (v124 14).toInt (v124 8).toInt (f125 6) (f125 2) (f125 3) := pg132
              have pg133 : ∀ k, k < ((v20 10).toInt).toNat → (f20 6) k = 20 → k < ((v124 10).toInt).toNat := pg133
              have pg134 : 0 < (0 : Int32).toInt ∨ (v124 10).toInt = 0 ∨ (f125 6) ((v124 10).toInt - 1).toNat = 20 := pg134
              have hs6_f125 : f125 6 = (f20 6) := kq135
              rw [hs6_f125] at pg132
              rw [hs6_f125] at pg134
              have hUv124 : (v124 35).toInt + (v124 36).toInt ≤ 40 := hIv124.2
              have hq0_v124 : v124 0 = (v 0) := hk0_v124.trans hq0_v20
              have hq1_v124 : v124 1 = (v20 1) := hk1_v124
              have zq1_v124 := congrArg Int32.toInt hq1_v124
              have hq3_v124 : v124 3 = (v20 3) := hk3_v124
              have zq3_v124 := congrArg Int32.toInt hq3_v124
              have hq4_v124 : v124 4 = (v 4) := hk4_v124.trans hq4_v20
              have hq5_v124 : v124 5 = (v20 5) := hk5_v124
              have zq5_v124 := congrArg Int32.toInt hq5_v124
              have hq9_v124 : v124 9 = (v 9) := hk9_v124.trans hq9_v20
              have hq13_v124 : v124 13 = (v20 13) := hk13_v124
              have zq13_v124 := congrArg Int32.toInt hq13_v124
              have hq15_v124 : v124 15 = 1 := hk15_v124.trans hq15_v20
              have hq17_v124 : v124 17 = (v 17) := hk17_v124.trans hq17_v20
              have hq18_v124 : v124 18 = (v 18) := hk18_v124.trans hq18_v20
              have hq24_v124 : v124 24 = (v 24) := hk24_v124.trans hq24_v20
              have hq25_v124 : v124 25 = (v 25) := hk25_v124.trans hq25_v20
              have hq35_v124 : v124 35 = (v 35) := hk35_v124.trans hq35_v20
              have hq36_v124 : v124 36 = (v 36) := hk36_v124.trans hq36_v20
              have hq38_v124 : v124 38 = (v 38) := hk38_v124.trans hq38_v20
              have hq39_v124 : v124 39 = (v 39) := hk39_v124.trans hq39_v20
              have hop : 1 ≤ (v124 10).toInt := by obtain ⟨k9, h91, h92⟩ := hBr; have := pg133 k9 h91 h92; omega
              have htp : (f20 6) ((v124 10).toInt - 1).toNat = 20 := by rcases pg134 with h9 | h9 | h9; exact absurd h9 (by decide); omega; exact h9
              have hFK : FI 1 ((v124 10).toInt - 1) ((v124 14).toInt - 1) (v124 8).toInt (f20 6) (f125 2) (f125 3) := FI.pop pg132 htp (by omega)
              have hdp : 0 ≤ (v124 14).toInt - 1 := FI.nn hFK
              clear pg134
              refine lv_aload_n hx hb dX11_formula_72 rfl (lv_at hl 2 rfl) ?_
              refine lv_dup hx hb dX11_formula_73 rfl ?_
              refine va_get (D := (dC, dI)) (ci := 11) (v := .int (v124 10)) (C := RX11) (T := TX11) (N := 79) hx hb hts inB_11 hown hE.1 hP 0 rfl rfl 19 (by decide) (hts _ k_1339) (fun _ h9 => h9) rfl dX11_formula_74 ?_
              have b10_v124 : 0 ≤ (v124 10).toInt ∧ (v124 10).toInt ≤ 160 := YIb.b hIv124.1 10 (by decide)
              refine lv_iconst (v := 1) hx hb dX11_formula_77 (by decide) ?_
              refine lv_isub hx hb dX11_formula_78 ?_
              refine lv_topi (fun t136 et136 => ?_)
              have rg137 := fb_rng (v124 10)
              have zt136 : t136.toInt = (v124 10).toInt - 1 := by rw [et136]; exact sub_i rfl (by decide) (by omega) (by omega)
              refine va_put (D := (dC, dI)) (ci := 11) (v := .int t136) (ty := tyX11 19) (C := RX11) (T := TX11) (N := 79) hx hb hts inB_11 tyX11 tyX11_ok nmX11 hown hE.1 hP hD hS 0 rfl rfl 19 (by decide) (hts _ k_1339) (fun _ h9 => h9) rfl (tyX11_ok 19 (by decide)) rfl rfl (Nat.le_of_ble_eq_true rfl) dX11_formula_79 (fun H locs hP hD hS => ?_)
              have hP : va_P (dC, dI) vwCl (YW cy y0 r (upd v124 10 t136) f125 w126 g127) H := hP
              have hD : va_D A (YW cy y0 r (upd v124 10 t136) f125 w126 g127) := hD
              refine lv_aload_n hx hb dX11_formula_82 rfl (lv_at hl 2 rfl) ?_
              refine lv_dup hx hb dX11_formula_83 rfl ?_
              refine va_get (D := (dC, dI)) (ci := 11) (v := .int (v124 14)) (C := RX11) (T := TX11) (N := 79) hx hb hts inB_11 hown hE.1 hP 0 rfl rfl 23 (by decide) (hts _ k_1343) (fun _ h9 => h9) rfl dX11_formula_84 ?_
              have b14_v124 : 0 ≤ (v124 14).toInt ∧ (v124 14).toInt ≤ 8 := YIb.b hIv124.1 14 (by decide)
              refine lv_iconst (v := 1) hx hb dX11_formula_87 (by decide) ?_
              refine lv_isub hx hb dX11_formula_88 ?_
              refine lv_topi (fun t138 et138 => ?_)
              have rg139 := fb_rng (v124 14)
              have zt138 : t138.toInt = (v124 14).toInt - 1 := by rw [et138]; exact sub_i rfl (by decide) (by omega) (by omega)
              refine va_put (D := (dC, dI)) (ci := 11) (v := .int t138) (ty := tyX11 23) (C := RX11) (T := TX11) (N := 79) hx hb hts inB_11 tyX11 tyX11_ok nmX11 hown hE.1 hP hD hS 0 rfl rfl 23 (by decide) (hts _ k_1343) (fun _ h9 => h9) rfl (tyX11_ok 23 (by decide)) rfl rfl (Nat.le_of_ble_eq_true rfl) dX11_formula_89 (fun H locs hP hD hS => ?_)
              have hP : va_P (dC, dI) vwCl (YW cy y0 r (upd (upd v124 10 t136) 14 t138) f125 w126 g127) H := hP
              have hD : va_D A (YW cy y0 r (upd (upd v124 10 t136) 14 t138) f125 w126 g127) := hD
              refine lv_aload_n hx hb dX11_formula_92 rfl (lv_at hl 2 rfl) ?_
              refine cbVv (n := 0) (rest := []) hx hb hml hown hts hE hP hD hS hA (sY_X11_token_1 NF l dC dI cy y0 r  (upd (upd v124 10 t136) 14 t138) f125 w126 g127 ⟨(YIb.upd (j := 14) (x := t138) (YIb.upd (j := 10) (x := t136) hIv124.1 (show (0 : Int) ≤ t136.toInt by omega) (show t136.toInt ≤ (160 : Int) by omega)) (show (0 : Int) ≤ t138.toInt by omega) (show t138.toInt ≤ (8 : Int) by omega)), hIv124.2⟩ hCf125 hRf125 ) k_1579 k_1581 k_42 k_114 k_1582 (by decide +kernel) ⟨Nat.le_of_ble_eq_true rfl, Nat.le_of_ble_eq_true rfl⟩ 0 11 rfl rfl (rfl) hl.1 rfl (Nat.le_of_ble_eq_true rfl) dX11_formula_93 (fun u H locs hw hP hD hS => ?_)
              obtain ⟨hG140, hw⟩ := hw
              obtain ⟨v141, f142, w143, g144⟩ := u
              obtain ⟨kV_v141, kF_f142, hIv141, hCf142, hRf142, hk0_v141, hk1_v141, hk2_v141, hk4_v141, hk8_v141, hk9_v141, hk10_v141, hk13_v141, hk14_v141, hk15_v141, hk17_v141, hk18_v141, hk24_v141, hk25_v141, hk35_v141, hk36_v141, hk38_v141, hk39_v141, pv145, pv146, kq147, kq148, kq149⟩ := hw
              have hM_v141 : KV [1, 2, 3, 5, 6, 7, 8, 10, 11, 13, 14, 15] v141 v := KV.tr kV_v141 (KV.up (j := 14) (x := t138) (KV.up (j := 10) (x := t136) hM_v124 (by decide +kernel)) (by decide +kernel)) (by decide +kernel)
              have hA_f142 : KF [2, 3, 6] f142 f := KF.tr kF_f142 hA_f125 rfl
              have hP : va_P (dC, dI) vwCl (YW cy y0 r v141 f142 w143 g144) H := hP
              have hD : va_D A (YW cy y0 r v141 f142 w143 g144) := hD
              have b3_v141 : 0 ≤ (v141 3).toInt ∧ (v141 3).toInt ≤ 1600 := YIb.b hIv141.1 3 (by decide)
              have pv145 : (v124 3).toInt ≤ (v141 3).toInt := pv145
              have pv146 : (v141 5).toInt = (v124 5).toInt ∨ (v124 3).toInt < (v141 3).toInt ∨ ¬ (v141 5).toInt = 59 := pv146
              have hs2_f142 : f142 2 = (f125 2) := kq147
              have hs3_f142 : f142 3 = (f125 3) := kq148
              have hs6_f142 : f142 6 = (f20 6) := kq149.trans hs6_f125
              have hUv141 : (v141 35).toInt + (v141 36).toInt ≤ 40 := hIv141.2
              have hq0_v141 : v141 0 = (v 0) := hk0_v141.trans hq0_v124
              have hq1_v141 : v141 1 = (v20 1) := hk1_v141.trans hq1_v124
              have zq1_v141 := congrArg Int32.toInt hq1_v141
              have hq4_v141 : v141 4 = (v 4) := hk4_v141.trans hq4_v124
              have hq8_v141 : v141 8 = (v124 8) := hk8_v141
              have zq8_v141 := congrArg Int32.toInt hq8_v141
              have hq9_v141 : v141 9 = (v 9) := hk9_v141.trans hq9_v124
              have hq10_v141 : v141 10 = t136 := hk10_v141
              have zq10_v141 := congrArg Int32.toInt hq10_v141
              have hq13_v141 : v141 13 = (v20 13) := hk13_v141.trans hq13_v124
              have zq13_v141 := congrArg Int32.toInt hq13_v141
              have hq14_v141 : v141 14 = t138 := hk14_v141
              have zq14_v141 := congrArg Int32.toInt hq14_v141
              have hq15_v141 : v141 15 = 1 := hk15_v141.trans hq15_v124
              have hq17_v141 : v141 17 = (v 17) := hk17_v141.trans hq17_v124
              have hq18_v141 : v141 18 = (v 18) := hk18_v141.trans hq18_v124
              have hq24_v141 : v141 24 = (v 24) := hk24_v141.trans hq24_v124
              have hq25_v141 : v141 25 = (v 25) := hk25_v141.trans hq25_v124
              have hq35_v141 : v141 35 = (v 35) := hk35_v141.trans hq35_v124
              have hq36_v141 : v141 36 = (v 36) := hk36_v141.trans hq36_v124
              have hq38_v141 : v141 38 = (v 38) := hk38_v141.trans hq38_v124
              have hq39_v141 : v141 39 = (v 39) := hk39_v141.trans hq39_v124
              have hGR : GR (v 3).toInt (v 5).toInt (v141 3).toInt (v141 5).toInt := GR.tr hGR (show GR (v124 3).toInt (v124 5).toInt (v141 3).toInt (v141 5).toInt from ⟨pv145, pv146⟩) (by first | with_reducible rfl | with_reducible assumption | rfl | omega) (by first | with_reducible rfl | with_reducible assumption | rfl | omega)
              clear pv146
              refine lv_goto (tgt := 159) hx hb dX11_formula_96 (by decide) ?_
              refine lv_goto (tgt := 35) hx hb dX11_formula_159 (by decide) ?_
              have rg150 := fb_rng l1_20
              exact ih20 l1_20 v141 f142 w143 g144 hIv141 hCf142 hRf142 hq0_v141 hq4_v141 hq9_v141 hq15_v141 hq17_v141 hq18_v141 hq24_v141 hq25_v141 hq35_v141 hq36_v141 hq38_v141 hq39_v141 ((gsY_X11_formula_1_q15 c66 c67 hG69.symm c119 hG121 hG123 et136 et138 hG140).symm.trans hT20) ⟨show (0 : Int) ≤ l1_20.toInt by omega, show l1_20.toInt ≤ (1 : Int) by omega⟩ (by show IM0 (v141 1).toInt (FI 1 (v141 10).toInt (v141 14).toInt (v141 8).toInt (f142 6) (f142 2) (f142 3)); rw [hs6_f142, hs2_f142, hs3_f142]; intro hz9; exact FI.cast hFK (by first | with_reducible rfl | with_reducible assumption | rfl | omega) (by first | with_reducible rfl | with_reducible assumption | rfl | omega) (by first | with_reducible rfl | with_reducible assumption | rfl | omega)) (by show NB (v141 1).toInt (v141 8).toInt (v141 10).toInt (v141 13).toInt (v141 14).toInt; exact NB.mk (by omega) (by omega) (by omega) (by omega)) (by show GR (v 3).toInt (v 5).toInt (v141 3).toInt (v141 5).toInt; exact GR.cast hGR (by first | with_reducible rfl | with_reducible assumption | rfl | omega) (by first | with_reducible rfl | with_reducible assumption | rfl | omega)) hM_v141 hA_f142 (by show (1 + 100 * (31 - (v141 13).toInt) + 2 * (v141 10).toInt + l1_20.toInt - 100000 * (v141 1).toInt).toNat < n20; omega) _ _ _ hP hD hS (lv_sub hl [1, 2] rfl)
            · skip
              subst g122
              refine lv_if_eq (tgt := 99) hx hb dX11_formula_64 (by decide) (fun _ => ?_) (fun c0 => absurd (by decide) c0)
              exact jp99 _ _ _ ((gsY_X11_formula_1_q16 c66 c67 hG69.symm c119 hG121).symm.trans hT20) hP hD hS hl
  exact lp20 (4294967296 + NF) 1 v12 f13 w14 g15 hIv12 hCf13 hRf13 hq0_v12 hq4_v12 hq9_v12 hq15_v12 hq17_v12 hq18_v12 hq24_v12 hq25_v12 hq35_v12 hq36_v12 hq38_v12 hq39_v12 (gsY_X11_formula_1_q17 hG1 hG11).symm ⟨by decide, by decide⟩ (by show IM0 (v12 1).toInt (FI 1 (v12 10).toInt (v12 14).toInt (v12 8).toInt (f13 6) (f13 2) (f13 3)); intro hz9; exact FI.cast (hFJ (by omega)) (by first | with_reducible rfl | with_reducible assumption | rfl | omega) (by first | with_reducible rfl | with_reducible assumption | rfl | omega) (by first | with_reducible rfl | with_reducible assumption | rfl | omega)) (by show NB (v12 1).toInt (v12 8).toInt (v12 10).toInt (v12 13).toInt (v12 14).toInt; exact NB.cast hNB (by first | with_reducible rfl | with_reducible assumption | rfl | omega) (by first | with_reducible rfl | with_reducible assumption | rfl | omega) (by first | with_reducible rfl | with_reducible assumption | rfl | omega) (by first | with_reducible rfl | with_reducible assumption | rfl | omega) (by first | with_reducible rfl | with_reducible assumption | rfl | omega)) (by show GR (v 3).toInt (v 5).toInt (v12 3).toInt (v12 5).toInt; exact GR.cast hGR (by first | with_reducible rfl | with_reducible assumption | rfl | omega) (by first | with_reducible rfl | with_reducible assumption | rfl | omega)) hM_v12 hA_f13 (by have q1 : (1 : Int32).toInt = 1 := (by decide); have qr0 := fb_rng (v12 1); have qr1 := fb_rng (v12 10); have qr2 := fb_rng (v12 13); show (1 + 100 * (31 - (v12 13).toInt) + 2 * (v12 10).toInt + (1 : Int32).toInt - 100000 * (v12 1).toInt).toNat < 4294967296 + NF; omega) _ _ _ hP hD hS (lv_sub hl [0, 1] rfl)
set_option maxHeartbeats 4000000 in
set_option maxRecDepth 100000 in
theorem sY_X11_isOwn_1 (NF : Nat) (l : Launch) (dC : Nat → ClassId) (dI : Nat → Nat → Nat) (cy : Nat → ClassId) (y0 : Nat) (r : Nat → Nat)  (v : Nat → Int32) (f : Nat → Nat → Int32) (w : Int64) (g : Nat → Int64) (hIv : YI v) (hCf : YC f) (hRf : progOK (f 4) (f 5) (v 9).toInt.toNat)  : ctI l (dC, dI) cy yX11_isOwn cX11_isOwn 1 .boolean 1 60 0 0 Unit [.ref y0] (YW cy y0 r v f w g) (fun r u => gsY_X11_isOwn_1 NF v f w g = r ∧ ((r = 1) ∨ (r = 0))) (fun u => YW cy y0 r v f w g) := by
  refine ctI_of (by decide) (Nat.le_of_ble_eq_true rfl) (fun p e s m below meth c A ls Q hx hb hml hts hown hE hP hD hA hl ret => ?_)
  have hUv : (v 35).toInt + (v 36).toInt ≤ 40 := hIv.2
  have hown : s.vm.findClass RX11 = some m.cls := hown
  have hS : va_S A s.heap s.heap [] := va_S.rf
  have hl : lv_has ls 1 [(0, .ref y0)] := hl
  refine lv_aload_n hx hb dX11_isOwn_0 rfl (lv_at hl 0 rfl) ?_
  refine va_get (D := (dC, dI)) (ci := 11) (v := .long w) (C := RX11) (T := TX11) (N := 79) hx hb hts inB_11 hown hE.1 hP 0 rfl rfl 9 (by decide) (hts _ k_1329) (fun _ h9 => h9) rfl dX11_isOwn_1 ?_
  refine lv_ldc2 (v := 7168366) hx hb hown (hts _ k_1600) dX11_isOwn_4 ?_
  refine W.lcmp hx hb dX11_isOwn_7 ?_
  refine lv_topi (fun t1 et1 => ?_)
  refine lv_if_eq (tgt := 231) hx hb dX11_isOwn_8 (by decide) (fun c2 => ?_) (fun c2 => ?_)
  · skip
    have zc2 : t1.toInt = 0 := by rw [fa_eq, show (0 : Int32).toInt = 0 from by decide] at c2; exact c2
    refine lv_iconst (v := 1) hx hb dX11_isOwn_231 (by decide) ?_
    refine lv_goto (tgt := 236) hx hb dX11_isOwn_232 (by decide) ?_
    exact ret 1 () _ _ _ _ _ _ rfl ⟨(gsY_X11_isOwn_1_q0 et1 c2), (Or.inl rfl)⟩ hP hD hS dX11_isOwn_236 (Nat.le_refl _) (Nat.le_refl _)
  · skip
    have zc2 : ¬ (t1.toInt = 0) := by rw [fa_eq, show (0 : Int32).toInt = 0 from by decide] at c2; exact c2
    refine lv_aload_n hx hb dX11_isOwn_11 rfl (lv_at hl 0 rfl) ?_
    refine va_get (D := (dC, dI)) (ci := 11) (v := .long w) (C := RX11) (T := TX11) (N := 79) hx hb hts inB_11 hown hE.1 hP 0 rfl rfl 9 (by decide) (hts _ k_1329) (fun _ h9 => h9) rfl dX11_isOwn_12 ?_
    refine lv_ldc2 (v := 1952541804) hx hb hown (hts _ k_1621) dX11_isOwn_15 ?_
    refine W.lcmp hx hb dX11_isOwn_18 ?_
    refine lv_topi (fun t3 et3 => ?_)
    refine lv_if_eq (tgt := 231) hx hb dX11_isOwn_19 (by decide) (fun c4 => ?_) (fun c4 => ?_)
    · skip
      have zc4 : t3.toInt = 0 := by rw [fa_eq, show (0 : Int32).toInt = 0 from by decide] at c4; exact c4
      refine lv_iconst (v := 1) hx hb dX11_isOwn_231 (by decide) ?_
      refine lv_goto (tgt := 236) hx hb dX11_isOwn_232 (by decide) ?_
      exact ret 1 () _ _ _ _ _ _ rfl ⟨(gsY_X11_isOwn_1_q1 et1 c2 et3 c4), (Or.inl rfl)⟩ hP hD hS dX11_isOwn_236 (Nat.le_refl _) (Nat.le_refl _)
    · skip
      have zc4 : ¬ (t3.toInt = 0) := by rw [fa_eq, show (0 : Int32).toInt = 0 from by decide] at c4; exact c4
      refine lv_aload_n hx hb dX11_isOwn_22 rfl (lv_at hl 0 rfl) ?_
      refine va_get (D := (dC, dI)) (ci := 11) (v := .long w) (C := RX11) (T := TX11) (N := 79) hx hb hts inB_11 hown hE.1 hP 0 rfl rfl 9 (by decide) (hts _ k_1329) (fun _ h9 => h9) rfl dX11_isOwn_23 ?_
      refine lv_ldc2 (v := 2003395685) hx hb hown (hts _ k_1622) dX11_isOwn_26 ?_
      refine W.lcmp hx hb dX11_isOwn_29 ?_
      refine lv_topi (fun t5 et5 => ?_)
      refine lv_if_eq (tgt := 231) hx hb dX11_isOwn_30 (by decide) (fun c6 => ?_) (fun c6 => ?_)
      · skip
        have zc6 : t5.toInt = 0 := by rw [fa_eq, show (0 : Int32).toInt = 0 from by decide] at c6; exact c6
        refine lv_iconst (v := 1) hx hb dX11_isOwn_231 (by decide) ?_
        refine lv_goto (tgt := 236) hx hb dX11_isOwn_232 (by decide) ?_
        exact ret 1 () _ _ _ _ _ _ rfl ⟨(gsY_X11_isOwn_1_q2 et1 c2 et3 c4 et5 c6), (Or.inl rfl)⟩ hP hD hS dX11_isOwn_236 (Nat.le_refl _) (Nat.le_refl _)
      · skip
        have zc6 : ¬ (t5.toInt = 0) := by rw [fa_eq, show (0 : Int32).toInt = 0 from by decide] at c6; exact c6
        refine lv_aload_n hx hb dX11_isOwn_33 rfl (lv_at hl 0 rfl) ?_
        refine va_get (D := (dC, dI)) (ci := 11) (v := .long w) (C := RX11) (T := TX11) (N := 79) hx hb hts inB_11 hown hE.1 hP 0 rfl rfl 9 (by decide) (hts _ k_1329) (fun _ h9 => h9) rfl dX11_isOwn_34 ?_
        refine lv_ldc2 (v := 444301539187) hx hb hown (hts _ k_1623) dX11_isOwn_37 ?_
        refine W.lcmp hx hb dX11_isOwn_40 ?_
        refine lv_topi (fun t7 et7 => ?_)
        refine lv_if_eq (tgt := 231) hx hb dX11_isOwn_41 (by decide) (fun c8 => ?_) (fun c8 => ?_)
        · skip
          have zc8 : t7.toInt = 0 := by rw [fa_eq, show (0 : Int32).toInt = 0 from by decide] at c8; exact c8
          refine lv_iconst (v := 1) hx hb dX11_isOwn_231 (by decide) ?_
          refine lv_goto (tgt := 236) hx hb dX11_isOwn_232 (by decide) ?_
          exact ret 1 () _ _ _ _ _ _ rfl ⟨(gsY_X11_isOwn_1_q3 et1 c2 et3 c4 et5 c6 et7 c8), (Or.inl rfl)⟩ hP hD hS dX11_isOwn_236 (Nat.le_refl _) (Nat.le_refl _)
        · skip
          have zc8 : ¬ (t7.toInt = 0) := by rw [fa_eq, show (0 : Int32).toInt = 0 from by decide] at c8; exact c8
          refine lv_aload_n hx hb dX11_isOwn_44 rfl (lv_at hl 0 rfl) ?_
          refine va_get (D := (dC, dI)) (ci := 11) (v := .long w) (C := RX11) (T := TX11) (N := 79) hx hb hts inB_11 hown hE.1 hP 0 rfl rfl 9 (by decide) (hts _ k_1329) (fun _ h9 => h9) rfl dX11_isOwn_45 ?_
          refine lv_ldc2 (v := 1668243828) hx hb hown (hts _ k_1624) dX11_isOwn_48 ?_
          refine W.lcmp hx hb dX11_isOwn_51 ?_
          refine lv_topi (fun t9 et9 => ?_)
          refine lv_if_eq (tgt := 231) hx hb dX11_isOwn_52 (by decide) (fun c10 => ?_) (fun c10 => ?_)
          · skip
            have zc10 : t9.toInt = 0 := by rw [fa_eq, show (0 : Int32).toInt = 0 from by decide] at c10; exact c10
            refine lv_iconst (v := 1) hx hb dX11_isOwn_231 (by decide) ?_
            refine lv_goto (tgt := 236) hx hb dX11_isOwn_232 (by decide) ?_
            exact ret 1 () _ _ _ _ _ _ rfl ⟨(gsY_X11_isOwn_1_q4 et1 c2 et3 c4 et5 c6 et7 c8 et9 c10), (Or.inl rfl)⟩ hP hD hS dX11_isOwn_236 (Nat.le_refl _) (Nat.le_refl _)
          · skip
            have zc10 : ¬ (t9.toInt = 0) := by rw [fa_eq, show (0 : Int32).toInt = 0 from by decide] at c10; exact c10
            refine lv_aload_n hx hb dX11_isOwn_55 rfl (lv_at hl 0 rfl) ?_
            refine va_get (D := (dC, dI)) (ci := 11) (v := .long w) (C := RX11) (T := TX11) (N := 79) hx hb hts inB_11 hown hE.1 hP 0 rfl rfl 9 (by decide) (hts _ k_1329) (fun _ h9 => h9) rfl dX11_isOwn_56 ?_
            refine lv_ldc2 (v := 1936023917) hx hb hown (hts _ k_1625) dX11_isOwn_59 ?_
            refine W.lcmp hx hb dX11_isOwn_62 ?_
            refine lv_topi (fun t11 et11 => ?_)
            refine lv_if_eq (tgt := 231) hx hb dX11_isOwn_63 (by decide) (fun c12 => ?_) (fun c12 => ?_)
            · skip
              have zc12 : t11.toInt = 0 := by rw [fa_eq, show (0 : Int32).toInt = 0 from by decide] at c12; exact c12
              refine lv_iconst (v := 1) hx hb dX11_isOwn_231 (by decide) ?_
              refine lv_goto (tgt := 236) hx hb dX11_isOwn_232 (by decide) ?_
              exact ret 1 () _ _ _ _ _ _ rfl ⟨(gsY_X11_isOwn_1_q5 et1 c2 et3 c4 et5 c6 et7 c8 et9 c10 et11 c12), (Or.inl rfl)⟩ hP hD hS dX11_isOwn_236 (Nat.le_refl _) (Nat.le_refl _)
            · skip
              have zc12 : ¬ (t11.toInt = 0) := by rw [fa_eq, show (0 : Int32).toInt = 0 from by decide] at c12; exact c12
              refine lv_aload_n hx hb dX11_isOwn_66 rfl (lv_at hl 0 rfl) ?_
              refine va_get (D := (dC, dI)) (ci := 11) (v := .long w) (C := RX11) (T := TX11) (N := 79) hx hb hts inB_11 hown hE.1 hP 0 rfl rfl 9 (by decide) (hts _ k_1329) (fun _ h9 => h9) rfl dX11_isOwn_67 ?_
              refine lv_ldc2 (v := 2003792494) hx hb hown (hts _ k_1626) dX11_isOwn_70 ?_
              refine W.lcmp hx hb dX11_isOwn_73 ?_
              refine lv_topi (fun t13 et13 => ?_)
              refine lv_if_eq (tgt := 231) hx hb dX11_isOwn_74 (by decide) (fun c14 => ?_) (fun c14 => ?_)
              · skip
                have zc14 : t13.toInt = 0 := by rw [fa_eq, show (0 : Int32).toInt = 0 from by decide] at c14; exact c14
                refine lv_iconst (v := 1) hx hb dX11_isOwn_231 (by decide) ?_
                refine lv_goto (tgt := 236) hx hb dX11_isOwn_232 (by decide) ?_
                exact ret 1 () _ _ _ _ _ _ rfl ⟨(gsY_X11_isOwn_1_q6 et1 c2 et3 c4 et5 c6 et7 c8 et9 c10 et11 c12 et13 c14), (Or.inl rfl)⟩ hP hD hS dX11_isOwn_236 (Nat.le_refl _) (Nat.le_refl _)
              · skip
                have zc14 : ¬ (t13.toInt = 0) := by rw [fa_eq, show (0 : Int32).toInt = 0 from by decide] at c14; exact c14
                refine lv_aload_n hx hb dX11_isOwn_77 rfl (lv_at hl 0 rfl) ?_
                refine va_get (D := (dC, dI)) (ci := 11) (v := .long w) (C := RX11) (T := TX11) (N := 79) hx hb hts inB_11 hown hE.1 hP 0 rfl rfl 9 (by decide) (hts _ k_1329) (fun _ h9 => h9) rfl dX11_isOwn_78 ?_
                refine lv_ldc2 (v := 6909036) hx hb hown (hts _ k_1627) dX11_isOwn_81 ?_
                refine W.lcmp hx hb dX11_isOwn_84 ?_
                refine lv_topi (fun t15 et15 => ?_)
                refine lv_if_eq (tgt := 231) hx hb dX11_isOwn_85 (by decide) (fun c16 => ?_) (fun c16 => ?_)
                · skip
                  have zc16 : t15.toInt = 0 := by rw [fa_eq, show (0 : Int32).toInt = 0 from by decide] at c16; exact c16
                  refine lv_iconst (v := 1) hx hb dX11_isOwn_231 (by decide) ?_
                  refine lv_goto (tgt := 236) hx hb dX11_isOwn_232 (by decide) ?_
                  exact ret 1 () _ _ _ _ _ _ rfl ⟨(gsY_X11_isOwn_1_q7 et1 c2 et3 c4 et5 c6 et7 c8 et9 c10 et11 c12 et13 c14 et15 c16), (Or.inl rfl)⟩ hP hD hS dX11_isOwn_236 (Nat.le_refl _) (Nat.le_refl _)
                · skip
                  have zc16 : ¬ (t15.toInt = 0) := by rw [fa_eq, show (0 : Int32).toInt = 0 from by decide] at c16; exact c16
                  refine lv_aload_n hx hb dX11_isOwn_88 rfl (lv_at hl 0 rfl) ?_
                  refine va_get (D := (dC, dI)) (ci := 11) (v := .long w) (C := RX11) (T := TX11) (N := 79) hx hb hts inB_11 hown hE.1 hP 0 rfl rfl 9 (by decide) (hts _ k_1329) (fun _ h9 => h9) rfl dX11_isOwn_89 ?_
                  refine lv_ldc2 (v := 1700885369) hx hb hown (hts _ k_1628) dX11_isOwn_92 ?_
                  refine W.lcmp hx hb dX11_isOwn_95 ?_
                  refine lv_topi (fun t17 et17 => ?_)
                  refine lv_if_eq (tgt := 231) hx hb dX11_isOwn_96 (by decide) (fun c18 => ?_) (fun c18 => ?_)
                  · skip
                    have zc18 : t17.toInt = 0 := by rw [fa_eq, show (0 : Int32).toInt = 0 from by decide] at c18; exact c18
                    refine lv_iconst (v := 1) hx hb dX11_isOwn_231 (by decide) ?_
                    refine lv_goto (tgt := 236) hx hb dX11_isOwn_232 (by decide) ?_
                    exact ret 1 () _ _ _ _ _ _ rfl ⟨(gsY_X11_isOwn_1_q8 et1 c2 et3 c4 et5 c6 et7 c8 et9 c10 et11 c12 et13 c14 et15 c16 et17 c18), (Or.inl rfl)⟩ hP hD hS dX11_isOwn_236 (Nat.le_refl _) (Nat.le_refl _)
                  · skip
                    have zc18 : ¬ (t17.toInt = 0) := by rw [fa_eq, show (0 : Int32).toInt = 0 from by decide] at c18; exact c18
                    refine lv_aload_n hx hb dX11_isOwn_99 rfl (lv_at hl 0 rfl) ?_
                    refine va_get (D := (dC, dI)) (ci := 11) (v := .long w) (C := RX11) (T := TX11) (N := 79) hx hb hts inB_11 hown hE.1 hP 0 rfl rfl 9 (by decide) (hts _ k_1329) (fun _ h9 => h9) rfl dX11_isOwn_100 ?_
                    refine lv_ldc2 (v := 1651469428) hx hb hown (hts _ k_1629) dX11_isOwn_103 ?_
                    refine W.lcmp hx hb dX11_isOwn_106 ?_
                    refine lv_topi (fun t19 et19 => ?_)
                    refine lv_if_eq (tgt := 231) hx hb dX11_isOwn_107 (by decide) (fun c20 => ?_) (fun c20 => ?_)
                    · skip
                      have zc20 : t19.toInt = 0 := by rw [fa_eq, show (0 : Int32).toInt = 0 from by decide] at c20; exact c20
                      refine lv_iconst (v := 1) hx hb dX11_isOwn_231 (by decide) ?_
                      refine lv_goto (tgt := 236) hx hb dX11_isOwn_232 (by decide) ?_
                      exact ret 1 () _ _ _ _ _ _ rfl ⟨(gsY_X11_isOwn_1_q9 et1 c2 et3 c4 et5 c6 et7 c8 et9 c10 et11 c12 et13 c14 et15 c16 et17 c18 et19 c20), (Or.inl rfl)⟩ hP hD hS dX11_isOwn_236 (Nat.le_refl _) (Nat.le_refl _)
                    · skip
                      have zc20 : ¬ (t19.toInt = 0) := by rw [fa_eq, show (0 : Int32).toInt = 0 from by decide] at c20; exact c20
                      refine lv_aload_n hx hb dX11_isOwn_110 rfl (lv_at hl 0 rfl) ?_
                      refine va_get (D := (dC, dI)) (ci := 11) (v := .long w) (C := RX11) (T := TX11) (N := 79) hx hb hts inB_11 hown hE.1 hP 0 rfl rfl 9 (by decide) (hts _ k_1329) (fun _ h9 => h9) rfl dX11_isOwn_111 ?_
                      refine lv_ldc2 (v := 1818848101) hx hb hown (hts _ k_1630) dX11_isOwn_114 ?_
                      refine W.lcmp hx hb dX11_isOwn_117 ?_
                      refine lv_topi (fun t21 et21 => ?_)
                      refine lv_if_eq (tgt := 231) hx hb dX11_isOwn_118 (by decide) (fun c22 => ?_) (fun c22 => ?_)
                      · skip
                        have zc22 : t21.toInt = 0 := by rw [fa_eq, show (0 : Int32).toInt = 0 from by decide] at c22; exact c22
                        refine lv_iconst (v := 1) hx hb dX11_isOwn_231 (by decide) ?_
                        refine lv_goto (tgt := 236) hx hb dX11_isOwn_232 (by decide) ?_
                        exact ret 1 () _ _ _ _ _ _ rfl ⟨(gsY_X11_isOwn_1_q10 et1 c2 et3 c4 et5 c6 et7 c8 et9 c10 et11 c12 et13 c14 et15 c16 et17 c18 et19 c20 et21 c22), (Or.inl rfl)⟩ hP hD hS dX11_isOwn_236 (Nat.le_refl _) (Nat.le_refl _)
                      · skip
                        have zc22 : ¬ (t21.toInt = 0) := by rw [fa_eq, show (0 : Int32).toInt = 0 from by decide] at c22; exact c22
                        refine lv_aload_n hx hb dX11_isOwn_121 rfl (lv_at hl 0 rfl) ?_
                        refine va_get (D := (dC, dI)) (ci := 11) (v := .long w) (C := RX11) (T := TX11) (N := 79) hx hb hts inB_11 hown hE.1 hP 0 rfl rfl 9 (by decide) (hts _ k_1329) (fun _ h9 => h9) rfl dX11_isOwn_122 ?_
                        refine lv_ldc2 (v := 1918986606) hx hb hown (hts _ k_1631) dX11_isOwn_125 ?_
                        refine W.lcmp hx hb dX11_isOwn_128 ?_
                        refine lv_topi (fun t23 et23 => ?_)
                        refine lv_if_eq (tgt := 231) hx hb dX11_isOwn_129 (by decide) (fun c24 => ?_) (fun c24 => ?_)
                        · skip
                          have zc24 : t23.toInt = 0 := by rw [fa_eq, show (0 : Int32).toInt = 0 from by decide] at c24; exact c24
                          refine lv_iconst (v := 1) hx hb dX11_isOwn_231 (by decide) ?_
                          refine lv_goto (tgt := 236) hx hb dX11_isOwn_232 (by decide) ?_
                          exact ret 1 () _ _ _ _ _ _ rfl ⟨(gsY_X11_isOwn_1_q11 et1 c2 et3 c4 et5 c6 et7 c8 et9 c10 et11 c12 et13 c14 et15 c16 et17 c18 et19 c20 et21 c22 et23 c24), (Or.inl rfl)⟩ hP hD hS dX11_isOwn_236 (Nat.le_refl _) (Nat.le_refl _)
                        · skip
                          have zc24 : ¬ (t23.toInt = 0) := by rw [fa_eq, show (0 : Int32).toInt = 0 from by decide] at c24; exact c24
                          refine lv_aload_n hx hb dX11_isOwn_132 rfl (lv_at hl 0 rfl) ?_
                          refine va_get (D := (dC, dI)) (ci := 11) (v := .long w) (C := RX11) (T := TX11) (N := 79) hx hb hts inB_11 hown hE.1 hP 0 rfl rfl 9 (by decide) (hts _ k_1329) (fun _ h9 => h9) rfl dX11_isOwn_133 ?_
                          refine lv_ldc2 (v := 1685217655) hx hb hown (hts _ k_1632) dX11_isOwn_136 ?_
                          refine W.lcmp hx hb dX11_isOwn_139 ?_
                          refine lv_topi (fun t25 et25 => ?_)
                          refine lv_if_eq (tgt := 231) hx hb dX11_isOwn_140 (by decide) (fun c26 => ?_) (fun c26 => ?_)
                          · skip
                            have zc26 : t25.toInt = 0 := by rw [fa_eq, show (0 : Int32).toInt = 0 from by decide] at c26; exact c26
                            refine lv_iconst (v := 1) hx hb dX11_isOwn_231 (by decide) ?_
                            refine lv_goto (tgt := 236) hx hb dX11_isOwn_232 (by decide) ?_
                            exact ret 1 () _ _ _ _ _ _ rfl ⟨(gsY_X11_isOwn_1_q12 et1 c2 et3 c4 et5 c6 et7 c8 et9 c10 et11 c12 et13 c14 et15 c16 et17 c18 et19 c20 et21 c22 et23 c24 et25 c26), (Or.inl rfl)⟩ hP hD hS dX11_isOwn_236 (Nat.le_refl _) (Nat.le_refl _)
                          · skip
                            have zc26 : ¬ (t25.toInt = 0) := by rw [fa_eq, show (0 : Int32).toInt = 0 from by decide] at c26; exact c26
                            refine lv_aload_n hx hb dX11_isOwn_143 rfl (lv_at hl 0 rfl) ?_
                            refine va_get (D := (dC, dI)) (ci := 11) (v := .long w) (C := RX11) (T := TX11) (N := 79) hx hb hts inB_11 hown hE.1 hP 0 rfl rfl 9 (by decide) (hts _ k_1329) (fun _ h9 => h9) rfl dX11_isOwn_144 ?_
                            refine lv_ldc2 (v := 499984590964) hx hb hown (hts _ k_1633) dX11_isOwn_147 ?_
                            refine W.lcmp hx hb dX11_isOwn_150 ?_
                            refine lv_topi (fun t27 et27 => ?_)
                            refine lv_if_eq (tgt := 231) hx hb dX11_isOwn_151 (by decide) (fun c28 => ?_) (fun c28 => ?_)
                            · skip
                              have zc28 : t27.toInt = 0 := by rw [fa_eq, show (0 : Int32).toInt = 0 from by decide] at c28; exact c28
                              refine lv_iconst (v := 1) hx hb dX11_isOwn_231 (by decide) ?_
                              refine lv_goto (tgt := 236) hx hb dX11_isOwn_232 (by decide) ?_
                              exact ret 1 () _ _ _ _ _ _ rfl ⟨(gsY_X11_isOwn_1_q13 et1 c2 et3 c4 et5 c6 et7 c8 et9 c10 et11 c12 et13 c14 et15 c16 et17 c18 et19 c20 et21 c22 et23 c24 et25 c26 et27 c28), (Or.inl rfl)⟩ hP hD hS dX11_isOwn_236 (Nat.le_refl _) (Nat.le_refl _)
                            · skip
                              have zc28 : ¬ (t27.toInt = 0) := by rw [fa_eq, show (0 : Int32).toInt = 0 from by decide] at c28; exact c28
                              refine lv_aload_n hx hb dX11_isOwn_154 rfl (lv_at hl 0 rfl) ?_
                              refine va_get (D := (dC, dI)) (ci := 11) (v := .long w) (C := RX11) (T := TX11) (N := 79) hx hb hts inB_11 hown hE.1 hP 0 rfl rfl 9 (by decide) (hts _ k_1329) (fun _ h9 => h9) rfl dX11_isOwn_155 ?_
                              refine lv_ldc2 (v := 465726042981) hx hb hown (hts _ k_1634) dX11_isOwn_158 ?_
                              refine W.lcmp hx hb dX11_isOwn_161 ?_
                              refine lv_topi (fun t29 et29 => ?_)
                              refine lv_if_eq (tgt := 231) hx hb dX11_isOwn_162 (by decide) (fun c30 => ?_) (fun c30 => ?_)
                              · skip
                                have zc30 : t29.toInt = 0 := by rw [fa_eq, show (0 : Int32).toInt = 0 from by decide] at c30; exact c30
                                refine lv_iconst (v := 1) hx hb dX11_isOwn_231 (by decide) ?_
                                refine lv_goto (tgt := 236) hx hb dX11_isOwn_232 (by decide) ?_
                                exact ret 1 () _ _ _ _ _ _ rfl ⟨(gsY_X11_isOwn_1_q14 et1 c2 et3 c4 et5 c6 et7 c8 et9 c10 et11 c12 et13 c14 et15 c16 et17 c18 et19 c20 et21 c22 et23 c24 et25 c26 et27 c28 et29 c30), (Or.inl rfl)⟩ hP hD hS dX11_isOwn_236 (Nat.le_refl _) (Nat.le_refl _)
                              · skip
                                have zc30 : ¬ (t29.toInt = 0) := by rw [fa_eq, show (0 : Int32).toInt = 0 from by decide] at c30; exact c30
                                refine lv_aload_n hx hb dX11_isOwn_165 rfl (lv_at hl 0 rfl) ?_
                                refine va_get (D := (dC, dI)) (ci := 11) (v := .long w) (C := RX11) (T := TX11) (N := 79) hx hb hts inB_11 hown hE.1 hP 0 rfl rfl 9 (by decide) (hts _ k_1329) (fun _ h9 => h9) rfl dX11_isOwn_166 ?_
                                refine lv_ldc2 (v := 495673373300) hx hb hown (hts _ k_1635) dX11_isOwn_169 ?_
                                refine W.lcmp hx hb dX11_isOwn_172 ?_
                                refine lv_topi (fun t31 et31 => ?_)
                                refine lv_if_eq (tgt := 231) hx hb dX11_isOwn_173 (by decide) (fun c32 => ?_) (fun c32 => ?_)
                                · skip
                                  have zc32 : t31.toInt = 0 := by rw [fa_eq, show (0 : Int32).toInt = 0 from by decide] at c32; exact c32
                                  refine lv_iconst (v := 1) hx hb dX11_isOwn_231 (by decide) ?_
                                  refine lv_goto (tgt := 236) hx hb dX11_isOwn_232 (by decide) ?_
                                  exact ret 1 () _ _ _ _ _ _ rfl ⟨(gsY_X11_isOwn_1_q15 et1 c2 et3 c4 et5 c6 et7 c8 et9 c10 et11 c12 et13 c14 et15 c16 et17 c18 et19 c20 et21 c22 et23 c24 et25 c26 et27 c28 et29 c30 et31 c32), (Or.inl rfl)⟩ hP hD hS dX11_isOwn_236 (Nat.le_refl _) (Nat.le_refl _)
                                · skip
                                  have zc32 : ¬ (t31.toInt = 0) := by rw [fa_eq, show (0 : Int32).toInt = 0 from by decide] at c32; exact c32
                                  refine lv_aload_n hx hb dX11_isOwn_176 rfl (lv_at hl 0 rfl) ?_
                                  refine va_get (D := (dC, dI)) (ci := 11) (v := .long w) (C := RX11) (T := TX11) (N := 79) hx hb hts inB_11 hown hE.1 hP 0 rfl rfl 9 (by decide) (hts _ k_1329) (fun _ h9 => h9) rfl dX11_isOwn_177 ?_
                                  refine lv_ldc2 (v := 1819242087) hx hb hown (hts _ k_1636) dX11_isOwn_180 ?_
                                  refine W.lcmp hx hb dX11_isOwn_183 ?_
                                  refine lv_topi (fun t33 et33 => ?_)
                                  refine lv_if_eq (tgt := 231) hx hb dX11_isOwn_184 (by decide) (fun c34 => ?_) (fun c34 => ?_)
                                  · skip
                                    have zc34 : t33.toInt = 0 := by rw [fa_eq, show (0 : Int32).toInt = 0 from by decide] at c34; exact c34
                                    refine lv_iconst (v := 1) hx hb dX11_isOwn_231 (by decide) ?_
                                    refine lv_goto (tgt := 236) hx hb dX11_isOwn_232 (by decide) ?_
                                    exact ret 1 () _ _ _ _ _ _ rfl ⟨(gsY_X11_isOwn_1_q16 et1 c2 et3 c4 et5 c6 et7 c8 et9 c10 et11 c12 et13 c14 et15 c16 et17 c18 et19 c20 et21 c22 et23 c24 et25 c26 et27 c28 et29 c30 et31 c32 et33 c34), (Or.inl rfl)⟩ hP hD hS dX11_isOwn_236 (Nat.le_refl _) (Nat.le_refl _)
                                  · skip
                                    have zc34 : ¬ (t33.toInt = 0) := by rw [fa_eq, show (0 : Int32).toInt = 0 from by decide] at c34; exact c34
                                    refine lv_aload_n hx hb dX11_isOwn_187 rfl (lv_at hl 0 rfl) ?_
                                    refine va_get (D := (dC, dI)) (ci := 11) (v := .long w) (C := RX11) (T := TX11) (N := 79) hx hb hts inB_11 hown hE.1 hP 0 rfl rfl 9 (by decide) (hts _ k_1329) (fun _ h9 => h9) rfl dX11_isOwn_188 ?_
                                    refine lv_ldc2 (v := 6578553) hx hb hown (hts _ k_1637) dX11_isOwn_191 ?_
                                    refine W.lcmp hx hb dX11_isOwn_194 ?_
                                    refine lv_topi (fun t35 et35 => ?_)
                                    refine lv_if_eq (tgt := 231) hx hb dX11_isOwn_195 (by decide) (fun c36 => ?_) (fun c36 => ?_)
                                    · skip
                                      have zc36 : t35.toInt = 0 := by rw [fa_eq, show (0 : Int32).toInt = 0 from by decide] at c36; exact c36
                                      refine lv_iconst (v := 1) hx hb dX11_isOwn_231 (by decide) ?_
                                      refine lv_goto (tgt := 236) hx hb dX11_isOwn_232 (by decide) ?_
                                      exact ret 1 () _ _ _ _ _ _ rfl ⟨(gsY_X11_isOwn_1_q17 et1 c2 et3 c4 et5 c6 et7 c8 et9 c10 et11 c12 et13 c14 et15 c16 et17 c18 et19 c20 et21 c22 et23 c24 et25 c26 et27 c28 et29 c30 et31 c32 et33 c34 et35 c36), (Or.inl rfl)⟩ hP hD hS dX11_isOwn_236 (Nat.le_refl _) (Nat.le_refl _)
                                    · skip
                                      have zc36 : ¬ (t35.toInt = 0) := by rw [fa_eq, show (0 : Int32).toInt = 0 from by decide] at c36; exact c36
                                      refine lv_aload_n hx hb dX11_isOwn_198 rfl (lv_at hl 0 rfl) ?_
                                      refine va_get (D := (dC, dI)) (ci := 11) (v := .long w) (C := RX11) (T := TX11) (N := 79) hx hb hts inB_11 hown hE.1 hP 0 rfl rfl 9 (by decide) (hts _ k_1329) (fun _ h9 => h9) rfl dX11_isOwn_199 ?_
                                      refine lv_ldc2 (v := 6385252) hx hb hown (hts _ k_1638) dX11_isOwn_202 ?_
                                      refine W.lcmp hx hb dX11_isOwn_205 ?_
                                      refine lv_topi (fun t37 et37 => ?_)
                                      refine lv_if_eq (tgt := 231) hx hb dX11_isOwn_206 (by decide) (fun c38 => ?_) (fun c38 => ?_)
                                      · skip
                                        have zc38 : t37.toInt = 0 := by rw [fa_eq, show (0 : Int32).toInt = 0 from by decide] at c38; exact c38
                                        refine lv_iconst (v := 1) hx hb dX11_isOwn_231 (by decide) ?_
                                        refine lv_goto (tgt := 236) hx hb dX11_isOwn_232 (by decide) ?_
                                        exact ret 1 () _ _ _ _ _ _ rfl ⟨(gsY_X11_isOwn_1_q18 et1 c2 et3 c4 et5 c6 et7 c8 et9 c10 et11 c12 et13 c14 et15 c16 et17 c18 et19 c20 et21 c22 et23 c24 et25 c26 et27 c28 et29 c30 et31 c32 et33 c34 et35 c36 et37 c38), (Or.inl rfl)⟩ hP hD hS dX11_isOwn_236 (Nat.le_refl _) (Nat.le_refl _)
                                      · skip
                                        have zc38 : ¬ (t37.toInt = 0) := by rw [fa_eq, show (0 : Int32).toInt = 0 from by decide] at c38; exact c38
                                        refine lv_aload_n hx hb dX11_isOwn_209 rfl (lv_at hl 0 rfl) ?_
                                        refine va_get (D := (dC, dI)) (ci := 11) (v := .long w) (C := RX11) (T := TX11) (N := 79) hx hb hts inB_11 hown hE.1 hP 0 rfl rfl 9 (by decide) (hts _ k_1329) (fun _ h9 => h9) rfl dX11_isOwn_210 ?_
                                        refine lv_ldc2 (v := 28530) hx hb hown (hts _ k_1639) dX11_isOwn_213 ?_
                                        refine W.lcmp hx hb dX11_isOwn_216 ?_
                                        refine lv_topi (fun t39 et39 => ?_)
                                        refine lv_if_eq (tgt := 231) hx hb dX11_isOwn_217 (by decide) (fun c40 => ?_) (fun c40 => ?_)
                                        · skip
                                          have zc40 : t39.toInt = 0 := by rw [fa_eq, show (0 : Int32).toInt = 0 from by decide] at c40; exact c40
                                          refine lv_iconst (v := 1) hx hb dX11_isOwn_231 (by decide) ?_
                                          refine lv_goto (tgt := 236) hx hb dX11_isOwn_232 (by decide) ?_
                                          exact ret 1 () _ _ _ _ _ _ rfl ⟨(gsY_X11_isOwn_1_q19 et1 c2 et3 c4 et5 c6 et7 c8 et9 c10 et11 c12 et13 c14 et15 c16 et17 c18 et19 c20 et21 c22 et23 c24 et25 c26 et27 c28 et29 c30 et31 c32 et33 c34 et35 c36 et37 c38 et39 c40), (Or.inl rfl)⟩ hP hD hS dX11_isOwn_236 (Nat.le_refl _) (Nat.le_refl _)
                                        · skip
                                          have zc40 : ¬ (t39.toInt = 0) := by rw [fa_eq, show (0 : Int32).toInt = 0 from by decide] at c40; exact c40
                                          refine lv_aload_n hx hb dX11_isOwn_220 rfl (lv_at hl 0 rfl) ?_
                                          refine va_get (D := (dC, dI)) (ci := 11) (v := .long w) (C := RX11) (T := TX11) (N := 79) hx hb hts inB_11 hown hE.1 hP 0 rfl rfl 9 (by decide) (hts _ k_1329) (fun _ h9 => h9) rfl dX11_isOwn_221 ?_
                                          refine lv_ldc2 (v := 7237492) hx hb hown (hts _ k_1640) dX11_isOwn_224 ?_
                                          refine W.lcmp hx hb dX11_isOwn_227 ?_
                                          refine lv_topi (fun t41 et41 => ?_)
                                          refine lv_if_ne (tgt := 235) hx hb dX11_isOwn_228 (by decide) (fun c42 => ?_) (fun c42 => ?_)
                                          · skip
                                            have zc42 : ¬ (t41.toInt = 0) := by rw [fa_eq, show (0 : Int32).toInt = 0 from by decide] at c42; exact c42
                                            refine lv_iconst (v := 0) hx hb dX11_isOwn_235 (by decide) ?_
                                            exact ret 0 () _ _ _ _ _ _ rfl ⟨(gsY_X11_isOwn_1_q20 et1 c2 et3 c4 et5 c6 et7 c8 et9 c10 et11 c12 et13 c14 et15 c16 et17 c18 et19 c20 et21 c22 et23 c24 et25 c26 et27 c28 et29 c30 et31 c32 et33 c34 et35 c36 et37 c38 et39 c40 et41 c42), (Or.inr rfl)⟩ hP hD hS dX11_isOwn_236 (Nat.le_refl _) (Nat.le_refl _)
                                          · skip
                                            have zc42 : t41.toInt = 0 := by rw [fa_eq, show (0 : Int32).toInt = 0 from by decide] at c42; exact c42
                                            refine lv_iconst (v := 1) hx hb dX11_isOwn_231 (by decide) ?_
                                            refine lv_goto (tgt := 236) hx hb dX11_isOwn_232 (by decide) ?_
                                            exact ret 1 () _ _ _ _ _ _ rfl ⟨(gsY_X11_isOwn_1_q21 et1 c2 et3 c4 et5 c6 et7 c8 et9 c10 et11 c12 et13 c14 et15 c16 et17 c18 et19 c20 et21 c22 et23 c24 et25 c26 et27 c28 et29 c30 et31 c32 et33 c34 et35 c36 et37 c38 et39 c40 et41 c42), (Or.inl rfl)⟩ hP hD hS dX11_isOwn_236 (Nat.le_refl _) (Nat.le_refl _)
set_option maxHeartbeats 4000000 in
set_option maxRecDepth 100000 in
theorem sY_X11_isName_1 (NF : Nat) (l : Launch) (dC : Nat → ClassId) (dI : Nat → Nat → Nat) (cy : Nat → ClassId) (y0 : Nat) (r : Nat → Nat)  (v : Nat → Int32) (f : Nat → Nat → Int32) (w : Int64) (g : Nat → Int64) (hIv : YI v) (hCf : YC f) (hRf : progOK (f 4) (f 5) (v 9).toInt.toNat)  : ctI l (dC, dI) cy yX11_isName cX11_isName 1 .boolean 2 80 0 0 Unit [.ref y0] (YW cy y0 r v f w g) (fun r u => gsY_X11_isName_1 NF v f w g = r ∧ ((r = 1) ∨ (r = 0))) (fun u => YW cy y0 r v f w g) := by
  refine ctI_of (by decide) (Nat.le_of_ble_eq_true rfl) (fun p e s m below meth c A ls Q hx hb hml hts hown hE hP hD hA hl ret => ?_)
  have hUv : (v 35).toInt + (v 36).toInt ≤ 40 := hIv.2
  have hown : s.vm.findClass RX11 = some m.cls := hown
  have hS : va_S A s.heap s.heap [] := va_S.rf
  have hl : lv_has ls 1 [(0, .ref y0)] := hl
  refine lv_aload_n hx hb dX11_isName_0 rfl (lv_at hl 0 rfl) ?_
  refine va_get (D := (dC, dI)) (ci := 11) (v := .int (v 5)) (C := RX11) (T := TX11) (N := 79) hx hb hts inB_11 hown hE.1 hP 0 rfl rfl 6 (by decide) (hts _ k_1326) (fun _ h9 => h9) rfl dX11_isName_1 ?_
  refine lv_iconst (v := 1) hx hb dX11_isName_4 (by decide) ?_
  refine lv_icmp_ne (tgt := 19) hx hb dX11_isName_5 (by decide) (fun c1 => ?_) (fun c1 => ?_)
  · skip
    have zc1 : ¬ ((v 5).toInt = 1) := by rw [fa_eq, show (1 : Int32).toInt = 1 from by decide] at c1; exact c1
    refine lv_iconst (v := 0) hx hb dX11_isName_19 (by decide) ?_
    exact ret 0 () _ _ _ _ _ _ rfl ⟨(gsY_X11_isName_1_q0 c1), (Or.inr rfl)⟩ hP hD hS dX11_isName_20 (Nat.le_refl _) (Nat.le_refl _)
  · skip
    have zc1 : (v 5).toInt = 1 := by rw [fa_eq, show (1 : Int32).toInt = 1 from by decide] at c1; exact c1
    refine lv_aload_n hx hb dX11_isName_8 rfl (lv_at hl 0 rfl) ?_
    refine cbVi (n := 0) (rest := []) hx hb hml hown hts hE hP hD hS hA (sY_X11_isOwn_1 NF l dC dI cy y0 r  v f w g hIv hCf hRf ) k_1617 k_1619 k_49 k_114 k_1620 (by decide +kernel) ⟨Nat.le_of_ble_eq_true rfl, Nat.le_of_ble_eq_true rfl⟩ 0 11 rfl rfl (rfl) hl.1 rfl (Nat.le_of_ble_eq_true rfl) dX11_isName_9 (fun r2 u H locs hw hP hD hS => ?_)
    obtain ⟨hG3, hw⟩ := hw
    rcases hw with ⟨g4⟩ | ⟨g4⟩
    · skip
      subst g4
      refine lv_if_ne (tgt := 19) hx hb dX11_isName_12 (by decide) (fun _ => ?_) (fun c0 => absurd c0 (by decide))
      refine lv_iconst (v := 0) hx hb dX11_isName_19 (by decide) ?_
      exact ret 0 () _ _ _ _ _ _ rfl ⟨(gsY_X11_isName_1_q1 c1 hG3), (Or.inr rfl)⟩ hP hD hS dX11_isName_20 (Nat.le_refl _) (Nat.le_refl _)
    · skip
      subst g4
      refine lv_if_ne (tgt := 19) hx hb dX11_isName_12 (by decide) (fun c0 => absurd (by decide) c0) (fun _ => ?_)
      refine lv_iconst (v := 1) hx hb dX11_isName_15 (by decide) ?_
      refine lv_goto (tgt := 20) hx hb dX11_isName_16 (by decide) ?_
      exact ret 1 () _ _ _ _ _ _ rfl ⟨(gsY_X11_isName_1_q2 c1 hG3), (Or.inl rfl)⟩ hP hD hS dX11_isName_20 (Nat.le_refl _) (Nat.le_refl _)
