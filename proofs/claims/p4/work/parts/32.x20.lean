set_option maxHeartbeats 4000000 in
set_option maxRecDepth 100000 in
theorem sX_X8_fitsGrown_1 (l : Launch) (dC : Nat → ClassId) (dI : Nat → Nat → Nat) (cy : Nat → ClassId) (x0 : Nat) (x : Nat → Nat) (p1 : Int32) (p2 : Int32) (v : Nat → Int32) (f : Nat → Nat → Int32) (hIv : XI v)  : ctI l (dC, dI) cy yX8_fitsGrown cX8_fitsGrown 5 .boolean 3 111 0 0 ((Nat → Int32) × (Nat → Nat → Int32)) [.ref (x 35), .int p1, .int p2] (XW cy x0 x v f) (fun r u => u.2 0 = f 0 ∧ XI u.1 ∧ u.1 0 = v 0 ∧ u.1 1 = v 1 ∧ u.1 7 = v 7 ∧ u.1 8 = v 8 ∧ u.1 9 = v 9 ∧ u.1 10 = v 10 ∧ u.1 31 = v 31 ∧ u.1 32 = v 32 ∧ ((r = 1) ∨ (r = 0))) (fun u => XW cy x0 x u.1 u.2) := by
  refine ctI_of (by decide) (Nat.le_of_ble_eq_true rfl) (fun p e s m below meth c A ls Q hx hb hml hts hown hE hP hD hA hl ret => ?_)
  have ha0_f : f 0 = f 0 := rfl
  have hown : s.vm.findClass RX8 = some m.cls := hown
  have hS : va_S A s.heap s.heap [] := va_S.rf
  have hl : lv_has ls 5 [(0, .ref (x 35)), (1, .int p1), (2, .int p2)] := hl
  refine lv_bipush (v := 99) hx hb dX8_fitsGrown_0 (by decide) ?_
  refine lv_aload_n hx hb dX8_fitsGrown_2 rfl (lv_at hl 0 rfl) ?_
  refine va_get (D := (dC, dI)) (ci := 8) (v := .ref (x 26)) (C := RX8) (T := TX8) (N := 7) hx hb hts inB_8 hown hE.1 hP 36 rfl rfl 0 (by decide) (hts _ k_467) (fun _ h9 => h9) rfl dX8_fitsGrown_3 ?_
  refine lv_iconst (v := 1) hx hb dX8_fitsGrown_6 (by decide) ?_
  refine lv_iconst (v := 0) hx hb dX8_fitsGrown_7 (by decide) ?_
  refine cbVi (n := 2) (rest := [.int 99]) hx hb hml hown hts hE hP hD hS hA (sX_X7_manPart_1 0 l dC dI cy x0 x 1 0 v f hIv ) k_1260 k_303 k_304 k_104 k_305 (by decide +kernel) ⟨Nat.le_of_ble_eq_true rfl, Nat.le_of_ble_eq_true rfl⟩ 27 7 rfl rfl (rfl) hl.1 rfl (Nat.le_of_ble_eq_true rfl) dX8_fitsGrown_8 (fun r1 u H locs hw hP hD hS => ?_)
  have hG2 := hw
  refine lv_iload_n hx hb dX8_fitsGrown_11 rfl (lv_at hl 1 rfl) ?_
  refine lv_iload_n hx hb dX8_fitsGrown_12 rfl (lv_at hl 2 rfl) ?_
  refine lv_imul hx hb dX8_fitsGrown_13 ?_
  refine lv_topi (fun t3 et3 => ?_)
  refine lv_iadd hx hb dX8_fitsGrown_14 ?_
  refine lv_topi (fun t4 et4 => ?_)
  refine va_mmin hx hb (by rw [hml]; exact hl.1.symm) hown (hts _ k_1261) (hts _ k_643) (hts _ k_119) (hts _ k_644) (Nat.le_of_ble_eq_true rfl) (Nat.le_of_ble_eq_true rfl) (Nat.le_of_ble_eq_true rfl) (Nat.le_of_ble_eq_true rfl) dX8_fitsGrown_15 ?_
  refine lv_topi (fun t5 et5 => ?_)
  have zt5 : t5.toInt = min (99) (t4.toInt) := by rw [et5]; exact mmin_i (by decide) rfl
  refine lv_istore_n (lv' := [(3, .int t5), (0, .ref (x 35)), (1, .int p1), (2, .int p2)]) hx hb dX8_fitsGrown_18 rfl hl (by decide) rfl (fun ls hl => ?_)
  refine lv_bipush (v := 99) hx hb dX8_fitsGrown_19 (by decide) ?_
  refine lv_aload_n hx hb dX8_fitsGrown_21 rfl (lv_at hl 1 rfl) ?_
  refine va_get (D := (dC, dI)) (ci := 8) (v := .ref (x 26)) (C := RX8) (T := TX8) (N := 7) hx hb hts inB_8 hown hE.1 hP 36 rfl rfl 0 (by decide) (hts _ k_467) (fun _ h9 => h9) rfl dX8_fitsGrown_22 ?_
  refine lv_iconst (v := 3) hx hb dX8_fitsGrown_25 (by decide) ?_
  refine lv_iconst (v := 0) hx hb dX8_fitsGrown_26 (by decide) ?_
  refine cbVi (n := 2) (rest := [.int 99]) hx hb hml hown hts hE hP hD hS hA (sX_X7_coatPart_1 0 l dC dI cy x0 x 3 0 v f hIv ) k_1262 k_311 k_312 k_104 k_313 (by decide +kernel) ⟨Nat.le_of_ble_eq_true rfl, Nat.le_of_ble_eq_true rfl⟩ 27 7 rfl rfl (rfl) hl.1 rfl (Nat.le_of_ble_eq_true rfl) dX8_fitsGrown_27 (fun r6 u H locs hw hP hD hS => ?_)
  have hG7 := hw
  refine lv_iload_n hx hb dX8_fitsGrown_30 rfl (lv_at hl 3 rfl) ?_
  refine lv_iadd hx hb dX8_fitsGrown_31 ?_
  refine lv_topi (fun t8 et8 => ?_)
  refine va_mmin hx hb (by rw [hml]; exact hl.1.symm) hown (hts _ k_1261) (hts _ k_643) (hts _ k_119) (hts _ k_644) (Nat.le_of_ble_eq_true rfl) (Nat.le_of_ble_eq_true rfl) (Nat.le_of_ble_eq_true rfl) (Nat.le_of_ble_eq_true rfl) dX8_fitsGrown_32 ?_
  refine lv_topi (fun t9 et9 => ?_)
  have zt9 : t9.toInt = min (99) (t8.toInt) := by rw [et9]; exact mmin_i (by decide) rfl
  refine lv_istore (lv' := [(4, .int t9), (3, .int t5), (0, .ref (x 35)), (1, .int p1), (2, .int p2)]) hx hb dX8_fitsGrown_35 hl (by decide) rfl (fun ls hl => ?_)
  refine lv_aload_n hx hb dX8_fitsGrown_37 rfl (lv_at hl 2 rfl) ?_
  refine va_get (D := (dC, dI)) (ci := 8) (v := .ref (x 26)) (C := RX8) (T := TX8) (N := 7) hx hb hts inB_8 hown hE.1 hP 36 rfl rfl 0 (by decide) (hts _ k_467) (fun _ h9 => h9) rfl dX8_fitsGrown_38 ?_
  refine va_getN (D := (dC, dI)) (ci := 7) (v := .ref (x 15)) (C := RX7) (T := TX7) (N := 10) hx hb hts inB_7 hown hE.1 hP 27 rfl rfl 2 (by decide) (va_Nw.use rfl (hE.2 _ k_208)) (fun _ h9 => h9) rfl dX8_fitsGrown_41 ?_
  refine lv_aload_n hx hb dX8_fitsGrown_44 rfl (lv_at hl 2 rfl) ?_
  refine va_get (D := (dC, dI)) (ci := 8) (v := .ref (x 26)) (C := RX8) (T := TX8) (N := 7) hx hb hts inB_8 hown hE.1 hP 36 rfl rfl 0 (by decide) (hts _ k_467) (fun _ h9 => h9) rfl dX8_fitsGrown_45 ?_
  refine lv_iconst (v := 0) hx hb dX8_fitsGrown_48 (by decide) ?_
  refine lv_iconst (v := 0) hx hb dX8_fitsGrown_49 (by decide) ?_
  refine cbVi (n := 2) (rest := [.ref (x 15)]) hx hb hml hown hts hE hP hD hS hA (sX_X7_manPart_1 0 l dC dI cy x0 x 0 0 v f hIv ) k_1260 k_303 k_304 k_104 k_305 (by decide +kernel) ⟨Nat.le_of_ble_eq_true rfl, Nat.le_of_ble_eq_true rfl⟩ 27 7 rfl rfl (rfl) hl.1 rfl (Nat.le_of_ble_eq_true rfl) dX8_fitsGrown_50 (fun r10 u H locs hw hP hD hS => ?_)
  have hG11 := hw
  refine lv_iload_n hx hb dX8_fitsGrown_53 rfl (lv_at hl 1 rfl) ?_
  refine lv_aload_n hx hb dX8_fitsGrown_54 rfl (lv_at hl 2 rfl) ?_
  refine va_get (D := (dC, dI)) (ci := 8) (v := .ref (x 26)) (C := RX8) (T := TX8) (N := 7) hx hb hts inB_8 hown hE.1 hP 36 rfl rfl 0 (by decide) (hts _ k_467) (fun _ h9 => h9) rfl dX8_fitsGrown_55 ?_
  refine lv_iconst (v := 0) hx hb dX8_fitsGrown_58 (by decide) ?_
  refine lv_iconst (v := 0) hx hb dX8_fitsGrown_59 (by decide) ?_
  refine cbVi (n := 2) (rest := [.int t5, .int r10, .ref (x 15)]) hx hb hml hown hts hE hP hD hS hA (sX_X7_coatPart_1 0 l dC dI cy x0 x 0 0 v f hIv ) k_1262 k_311 k_312 k_104 k_313 (by decide +kernel) ⟨Nat.le_of_ble_eq_true rfl, Nat.le_of_ble_eq_true rfl⟩ 27 7 rfl rfl (rfl) hl.1 rfl (Nat.le_of_ble_eq_true rfl) dX8_fitsGrown_60 (fun r12 u H locs hw hP hD hS => ?_)
  have hG13 := hw
  refine lv_aload_n hx hb dX8_fitsGrown_63 rfl (lv_at hl 2 rfl) ?_
  refine va_get (D := (dC, dI)) (ci := 8) (v := .ref (x 26)) (C := RX8) (T := TX8) (N := 7) hx hb hts inB_8 hown hE.1 hP 36 rfl rfl 0 (by decide) (hts _ k_467) (fun _ h9 => h9) rfl dX8_fitsGrown_64 ?_
  refine lv_iconst (v := 1) hx hb dX8_fitsGrown_67 (by decide) ?_
  refine lv_iconst (v := 0) hx hb dX8_fitsGrown_68 (by decide) ?_
  refine cbVi (n := 2) (rest := [.int r12, .int t5, .int r10, .ref (x 15)]) hx hb hml hown hts hE hP hD hS hA (sX_X7_coatPart_1 0 l dC dI cy x0 x 1 0 v f hIv ) k_1262 k_311 k_312 k_104 k_313 (by decide +kernel) ⟨Nat.le_of_ble_eq_true rfl, Nat.le_of_ble_eq_true rfl⟩ 27 7 rfl rfl (rfl) hl.1 rfl (Nat.le_of_ble_eq_true rfl) dX8_fitsGrown_69 (fun r14 u H locs hw hP hD hS => ?_)
  have hG15 := hw
  refine lv_iload hx hb dX8_fitsGrown_72 (lv_at hl 0 rfl) ?_
  refine lv_iload_n hx hb dX8_fitsGrown_74 rfl (lv_at hl 4 rfl) ?_
  refine cbVi (n := 6) (rest := []) hx hb hml hown hts hE hP hD hS hA (sX_X4_worth_1 l dC dI cy x0 x r10 t5 r12 r14 t9 p2 v f hIv ) k_1263 k_836 k_837 k_105 k_838 (by decide +kernel) ⟨Nat.le_of_ble_eq_true rfl, Nat.le_of_ble_eq_true rfl⟩ 16 4 rfl rfl (rfl) hl.1 rfl (Nat.le_of_ble_eq_true rfl) dX8_fitsGrown_75 (fun r16 u H locs hw hP hD hS => ?_)
  obtain ⟨v17, f18⟩ := u
  obtain ⟨ka0_f18, hIv17, hk0_v17, hk1_v17, hk7_v17, hk8_v17, hk9_v17, hk10_v17, hk31_v17, hk32_v17⟩ := hw
  have ha0_f18 : f18 0 = f 0 := ka0_f18.trans ha0_f
  have hP : va_P (dC, dI) vwCl (XW cy x0 x v17 f18) H := hP
  have hD : va_D A (XW cy x0 x v17 f18) := hD
  have hq0_v17 : v17 0 = (v 0) := hk0_v17
  have hq1_v17 : v17 1 = (v 1) := hk1_v17
  have hq7_v17 : v17 7 = (v 7) := hk7_v17
  have hq8_v17 : v17 8 = (v 8) := hk8_v17
  have hq9_v17 : v17 9 = (v 9) := hk9_v17
  have hq10_v17 : v17 10 = (v 10) := hk10_v17
  have hq31_v17 : v17 31 = (v 31) := hk31_v17
  have hq32_v17 : v17 32 = (v 32) := hk32_v17
  refine lv_aload_n hx hb dX8_fitsGrown_78 rfl (lv_at hl 2 rfl) ?_
  refine va_get (D := (dC, dI)) (ci := 8) (v := .ref (x 26)) (C := RX8) (T := TX8) (N := 7) hx hb hts inB_8 hown hE.1 hP 36 rfl rfl 0 (by decide) (hts _ k_467) (fun _ h9 => h9) rfl dX8_fitsGrown_79 ?_
  refine va_getN (D := (dC, dI)) (ci := 7) (v := .int (v17 33)) (C := RX7) (T := TX7) (N := 10) hx hb hts inB_7 hown hE.1 hP 27 rfl rfl 5 (by decide) (va_Nw.use rfl (hE.2 _ k_231)) (fun _ h9 => h9) rfl dX8_fitsGrown_82 ?_
  refine lv_icmp_gt (tgt := 92) hx hb dX8_fitsGrown_85 (by decide) (fun c19 => ?_) (fun c19 => ?_)
  · skip
    have zc19 : (v17 33).toInt < r16.toInt := by rw [fa_lt] at c19; exact c19
    have rg20 := fb_rng r16
    have rg21 := fb_rng (v17 33)
    refine lv_iconst (v := 0) hx hb dX8_fitsGrown_92 (by decide) ?_
    exact ret 0 (v17, f18) _ _ _ _ _ _ rfl ⟨ha0_f18, hIv17, hk0_v17, hk1_v17, hk7_v17, hk8_v17, hk9_v17, hk10_v17, hk31_v17, hk32_v17, (Or.inr rfl)⟩ hP hD hS dX8_fitsGrown_93 (Nat.le_refl _) (Nat.le_refl _)
  · skip
    have zc19 : ¬ ((v17 33).toInt < r16.toInt) := by rw [fa_lt] at c19; exact c19
    have rg22 := fb_rng r16
    have rg23 := fb_rng (v17 33)
    refine lv_iconst (v := 1) hx hb dX8_fitsGrown_88 (by decide) ?_
    refine lv_goto (tgt := 93) hx hb dX8_fitsGrown_89 (by decide) ?_
    exact ret 1 (v17, f18) _ _ _ _ _ _ rfl ⟨ha0_f18, hIv17, hk0_v17, hk1_v17, hk7_v17, hk8_v17, hk9_v17, hk10_v17, hk31_v17, hk32_v17, (Or.inl rfl)⟩ hP hD hS dX8_fitsGrown_93 (Nat.le_refl _) (Nat.le_refl _)
set_option maxHeartbeats 4000000 in
set_option maxRecDepth 100000 in
theorem sX_X8_fittingBehind_1 (l : Launch) (dC : Nat → ClassId) (dI : Nat → Nat → Nat) (cy : Nat → ClassId) (x0 : Nat) (x : Nat → Nat) (p1 : Int32) (v : Nat → Int32) (f : Nat → Nat → Int32) (hIv : XI v)  : ctI l (dC, dI) cy yX8_fittingBehind cX8_fittingBehind 4 .int 4 135 0 0 ((Nat → Int32) × (Nat → Nat → Int32)) [.ref (x 35), .int p1] (XW cy x0 x v f) (fun r u => u.2 0 = f 0 ∧ XI u.1 ∧ u.1 0 = v 0 ∧ u.1 1 = v 1 ∧ u.1 7 = v 7 ∧ u.1 8 = v 8 ∧ u.1 9 = v 9 ∧ u.1 10 = v 10 ∧ u.1 31 = v 31 ∧ u.1 32 = v 32) (fun u => XW cy x0 x u.1 u.2) := by
  refine ctI_of (by decide) (Nat.le_of_ble_eq_true rfl) (fun p e s m below meth c A ls Q hx hb hml hts hown hE hP hD hA hl ret => ?_)
  have ha0_f : f 0 = f 0 := rfl
  have hown : s.vm.findClass RX8 = some m.cls := hown
  have hS : va_S A s.heap s.heap [] := va_S.rf
  have hl : lv_has ls 4 [(0, .ref (x 35)), (1, .int p1)] := hl
  refine lv_iload_n hx hb dX8_fittingBehind_0 rfl (lv_at hl 1 rfl) ?_
  refine lv_if_lt (tgt := 10) hx hb dX8_fittingBehind_1 (by decide) (fun c1 => ?_) (fun c1 => ?_)
  · skip
    have zc1 : p1.toInt < 0 := by rw [fa_lt, show (0 : Int32).toInt = 0 from by decide] at c1; exact c1
    refine lv_iconst (v := 0) hx hb dX8_fittingBehind_10 (by decide) ?_
    exact ret 0 (v, f) _ _ _ _ _ _ rfl ⟨ha0_f, hIv, rfl, rfl, rfl, rfl, rfl, rfl, rfl, rfl⟩ hP hD hS dX8_fittingBehind_11 (Nat.le_refl _) (Nat.le_refl _)
  · skip
    have zc1 : ¬ (p1.toInt < 0) := by rw [fa_lt, show (0 : Int32).toInt = 0 from by decide] at c1; exact c1
    refine lv_iload_n hx hb dX8_fittingBehind_4 rfl (lv_at hl 1 rfl) ?_
    refine lv_bipush (v := 20) hx hb dX8_fittingBehind_5 (by decide) ?_
    refine lv_icmp_le (tgt := 12) hx hb dX8_fittingBehind_7 (by decide) (fun c2 => ?_) (fun c2 => ?_)
    · skip
      have zc2 : p1.toInt ≤ 20 := by rw [fa_le, show (20 : Int32).toInt = 20 from by decide] at c2; exact c2
      refine lv_aload_n hx hb dX8_fittingBehind_12 rfl (lv_at hl 0 rfl) ?_
      refine va_get (D := (dC, dI)) (ci := 8) (v := .ref (x 40)) (C := RX8) (T := TX8) (N := 7) hx hb hts inB_8 hown hE.1 hP 36 rfl rfl 6 (by decide) (hts _ k_474) (fun _ h9 => h9) rfl dX8_fittingBehind_13 ?_
      refine lv_iload_n hx hb dX8_fittingBehind_16 rfl (lv_at hl 1 rfl) ?_
      refine ldI hx hb hE hP 41 rfl (vp_in_iff.mpr ⟨by omega, by omega⟩) rfl rfl dX8_fittingBehind_17 ?_
      refine lv_topi (fun t3 et3 => ?_)
      refine lv_iconst (v := (-1)) hx hb dX8_fittingBehind_18 (by decide) ?_
      refine lv_icmp_ne (tgt := 60) hx hb dX8_fittingBehind_19 (by decide) (fun c4 => ?_) (fun c4 => ?_)
      · skip
        have zc4 : ¬ (t3.toInt = (-1)) := by rw [fa_eq, show ((-1) : Int32).toInt = -1 from by decide] at c4; exact c4
        refine lv_aload_n hx hb dX8_fittingBehind_60 rfl (lv_at hl 0 rfl) ?_
        refine va_get (D := (dC, dI)) (ci := 8) (v := .ref (x 40)) (C := RX8) (T := TX8) (N := 7) hx hb hts inB_8 hown hE.1 hP 36 rfl rfl 6 (by decide) (hts _ k_474) (fun _ h9 => h9) rfl dX8_fittingBehind_61 ?_
        refine lv_iload_n hx hb dX8_fittingBehind_64 rfl (lv_at hl 1 rfl) ?_
        refine ldI hx hb hE hP 41 rfl (vp_in_iff.mpr ⟨by omega, by omega⟩) rfl rfl dX8_fittingBehind_65 ?_
        refine lv_topi (fun t5 et5 => ?_)
        exact ret t5 (v, f) _ _ _ _ _ _ rfl ⟨ha0_f, hIv, rfl, rfl, rfl, rfl, rfl, rfl, rfl, rfl⟩ hP hD hS dX8_fittingBehind_66 (Nat.le_refl _) (Nat.le_refl _)
      · skip
        have zc4 : t3.toInt = (-1) := by rw [fa_eq, show ((-1) : Int32).toInt = -1 from by decide] at c4; exact c4
        refine lv_iconst (v := 0) hx hb dX8_fittingBehind_22 (by decide) ?_
        refine lv_istore_n (lv' := [(2, .int 0), (0, .ref (x 35)), (1, .int p1)]) hx hb dX8_fittingBehind_23 rfl hl (by decide) rfl (fun ls hl => ?_)
        refine lv_iconst (v := 0) hx hb dX8_fittingBehind_24 (by decide) ?_
        refine lv_istore_n (lv' := [(3, .int 0), (2, .int 0), (0, .ref (x 35)), (1, .int p1)]) hx hb dX8_fittingBehind_25 rfl hl (by decide) rfl (fun ls hl => ?_)
        have lp6 : ∀ (n6 : Nat) (l2_6 : Int32) (l3_6 : Int32) (v6 : Nat → Int32) (f6 : Nat → Nat → Int32), XI v6 → v6 0 = (v 0) → v6 1 = (v 1) → v6 7 = (v 7) → v6 8 = (v 8) → v6 9 = (v 9) → v6 10 = (v 10) → v6 31 = (v 31) → v6 32 = (v 32) → ((0 : Int) ≤ l3_6.toInt ∧ l3_6.toInt ≤ 2147483647) → f6 0 = f 0 → (2147483647 - l3_6.toInt).toNat < n6 → ∀ (H : Heap) (locs : List Loc) (ls : Array Slot), va_P (dC, dI) vwCl (XW cy x0 x v6 f6) H → va_D A (XW cy x0 x v6 f6) → va_S A s.heap H locs → lv_has ls 4 [(3, .int l3_6), (2, .int l2_6), (0, .ref (x 35)), (1, .int p1)] → W p l e { frames := 4, cells := 0, slots := 0, locals := 135 } s m ([.ref (x 35), .int p1] : List Value).toArray below meth c H locs 0 0 Q (F0 m 26 ls []) := by
          intro n6
          induction n6 with
          | zero => intro l2_6 l3_6 v6 f6 hIv6 hq0_v6 hq1_v6 hq7_v6 hq8_v6 hq9_v6 hq10_v6 hq31_v6 hq32_v6 hr3_6 ha0_f6 hm; exact absurd hm (Nat.not_lt_zero _)
          | succ n6 ih6 =>
            intro l2_6 l3_6 v6 f6 hIv6 hq0_v6 hq1_v6 hq7_v6 hq8_v6 hq9_v6 hq10_v6 hq31_v6 hq32_v6 hr3_6 ha0_f6 hm6 H locs ls hP hD hS hl
            refine lv_iload_n hx hb dX8_fittingBehind_26 rfl (lv_at hl 0 rfl) ?_
            refine lv_bipush (v := 30) hx hb dX8_fittingBehind_27 (by decide) ?_
            refine lv_icmp_gt (tgt := 53) hx hb dX8_fittingBehind_29 (by decide) (fun c7 => ?_) (fun c7 => ?_)
            · skip
              have zc7 : 30 < l3_6.toInt := by rw [fa_lt, show (30 : Int32).toInt = 30 from by decide] at c7; exact c7
              refine lv_aload_n hx hb dX8_fittingBehind_53 rfl (lv_at hl 2 rfl) ?_
              refine va_get (D := (dC, dI)) (ci := 8) (v := .ref (x 40)) (C := RX8) (T := TX8) (N := 7) hx hb hts inB_8 hown hE.1 hP 36 rfl rfl 6 (by decide) (hts _ k_474) (fun _ h9 => h9) rfl dX8_fittingBehind_54 ?_
              refine lv_iload_n hx hb dX8_fittingBehind_57 rfl (lv_at hl 3 rfl) ?_
              refine lv_iload_n hx hb dX8_fittingBehind_58 rfl (lv_at hl 1 rfl) ?_
              refine stI hx hb hE hP hD hS 41 rfl (vp_in_iff.mpr ⟨by omega, by omega⟩) rfl dX8_fittingBehind_59 (fun H locs hP hD hS => ?_)
              obtain ⟨f8, ef8, hP, hD⟩ : ∃ fz9, fz9 = upd2 f6 27 (upd (f6 27) p1.toNatClampNeg l2_6) ∧ va_P (dC, dI) vwCl (XW cy x0 x v6 fz9) H ∧ va_D A (XW cy x0 x v6 fz9) := ⟨_, rfl, hP, hD⟩
              have ha0_f8 : f8 0 = f 0 := by rw [ef8]; exact ha0_f6
              refine lv_aload_n hx hb dX8_fittingBehind_60 rfl (lv_at hl 2 rfl) ?_
              refine va_get (D := (dC, dI)) (ci := 8) (v := .ref (x 40)) (C := RX8) (T := TX8) (N := 7) hx hb hts inB_8 hown hE.1 hP 36 rfl rfl 6 (by decide) (hts _ k_474) (fun _ h9 => h9) rfl dX8_fittingBehind_61 ?_
              refine lv_iload_n hx hb dX8_fittingBehind_64 rfl (lv_at hl 3 rfl) ?_
              refine ldI hx hb hE hP 41 rfl (vp_in_iff.mpr ⟨by omega, by omega⟩) rfl rfl dX8_fittingBehind_65 ?_
              refine lv_topi (fun t9 et9 => ?_)
              exact ret t9 (v6, f8) _ _ _ _ _ _ rfl ⟨ha0_f8, hIv6, (show v6 0 = v 0 from hq0_v6), (show v6 1 = v 1 from hq1_v6), (show v6 7 = v 7 from hq7_v6), (show v6 8 = v 8 from hq8_v6), (show v6 9 = v 9 from hq9_v6), (show v6 10 = v 10 from hq10_v6), (show v6 31 = v 31 from hq31_v6), (show v6 32 = v 32 from hq32_v6)⟩ hP hD hS dX8_fittingBehind_66 (Nat.le_refl _) (Nat.le_refl _)
            · skip
              have zc7 : ¬ (30 < l3_6.toInt) := by rw [fa_lt, show (30 : Int32).toInt = 30 from by decide] at c7; exact c7
              refine lv_aload_n hx hb dX8_fittingBehind_32 rfl (lv_at hl 2 rfl) ?_
              refine lv_iload_n hx hb dX8_fittingBehind_33 rfl (lv_at hl 0 rfl) ?_
              refine lv_iload_n hx hb dX8_fittingBehind_34 rfl (lv_at hl 3 rfl) ?_
              refine cbVi (n := 2) (rest := []) hx hb hml hown hts hE hP hD hS hA (sX_X8_fitsGrown_1 l dC dI cy x0 x l3_6 p1 v6 f6 hIv6 ) k_1256 k_1258 k_39 k_112 k_1259 (by decide +kernel) ⟨Nat.le_of_ble_eq_true rfl, Nat.le_of_ble_eq_true rfl⟩ 36 8 rfl rfl (rfl) hl.1 rfl (Nat.le_of_ble_eq_true rfl) dX8_fittingBehind_35 (fun r10 u H locs hw hP hD hS => ?_)
              obtain ⟨v11, f12⟩ := u
              obtain ⟨ka0_f12, hIv11, hk0_v11, hk1_v11, hk7_v11, hk8_v11, hk9_v11, hk10_v11, hk31_v11, hk32_v11, hw⟩ := hw
              have ha0_f12 : f12 0 = f 0 := ka0_f12.trans ha0_f6
              have hP : va_P (dC, dI) vwCl (XW cy x0 x v11 f12) H := hP
              have hD : va_D A (XW cy x0 x v11 f12) := hD
              have hq0_v11 : v11 0 = (v 0) := hk0_v11.trans hq0_v6
              have hq1_v11 : v11 1 = (v 1) := hk1_v11.trans hq1_v6
              have hq7_v11 : v11 7 = (v 7) := hk7_v11.trans hq7_v6
              have hq8_v11 : v11 8 = (v 8) := hk8_v11.trans hq8_v6
              have hq9_v11 : v11 9 = (v 9) := hk9_v11.trans hq9_v6
              have hq10_v11 : v11 10 = (v 10) := hk10_v11.trans hq10_v6
              have hq31_v11 : v11 31 = (v 31) := hk31_v11.trans hq31_v6
              have hq32_v11 : v11 32 = (v 32) := hk32_v11.trans hq32_v6
              rcases hw with ⟨g13⟩ | ⟨g13⟩
              · skip
                subst g13
                refine lv_if_eq (tgt := 47) hx hb dX8_fittingBehind_38 (by decide) (fun c0 => absurd c0 (by decide)) (fun _ => ?_)
                refine lv_iload_n hx hb dX8_fittingBehind_41 rfl (lv_at hl 1 rfl) ?_
                refine lv_iconst (v := 1) hx hb dX8_fittingBehind_42 (by decide) ?_
                refine lv_iload_n hx hb dX8_fittingBehind_43 rfl (lv_at hl 0 rfl) ?_
                refine lv_ishl hx hb dX8_fittingBehind_44 ?_
                refine lv_topi (fun t14 et14 => ?_)
                refine lv_ior hx hb dX8_fittingBehind_45 ?_
                refine lv_topi (fun t15 et15 => ?_)
                refine lv_istore_n (lv' := [(2, .int t15), (3, .int l3_6), (0, .ref (x 35)), (1, .int p1)]) hx hb dX8_fittingBehind_46 rfl hl (by decide) rfl (fun ls hl => ?_)
                obtain ⟨t16, et16⟩ : ∃ y : Int32, y = l3_6 + 1 := ⟨_, rfl⟩
                have rg17 := fb_rng l3_6
                have zt16 : t16.toInt = l3_6.toInt + 1 := by rw [et16]; exact add_i rfl (by decide) (by omega) (by omega)
                refine lv_iinc (v := t16) (lv' := [(3, .int t16), (2, .int t15), (0, .ref (x 35)), (1, .int p1)]) hx hb dX8_fittingBehind_47 hl (k := 1) rfl (by rw [et16]; rfl) (by decide) rfl (fun ls hl => ?_)
                refine lv_goto (tgt := 26) hx hb dX8_fittingBehind_50 (by decide) ?_
                have rg18 := fb_rng t16
                exact ih6 t15 t16 v11 f12 hIv11 hq0_v11 hq1_v11 hq7_v11 hq8_v11 hq9_v11 hq10_v11 hq31_v11 hq32_v11 ⟨show (0 : Int) ≤ t16.toInt by omega, show t16.toInt ≤ (2147483647 : Int) by omega⟩ ha0_f12 (by show (2147483647 - t16.toInt).toNat < n6; omega) _ _ _ hP hD hS (lv_sub hl [0, 1, 2, 3] rfl)
              · skip
                subst g13
                refine lv_if_eq (tgt := 47) hx hb dX8_fittingBehind_38 (by decide) (fun _ => ?_) (fun c0 => absurd (by decide) c0)
                obtain ⟨t19, et19⟩ : ∃ y : Int32, y = l3_6 + 1 := ⟨_, rfl⟩
                have rg20 := fb_rng l3_6
                have zt19 : t19.toInt = l3_6.toInt + 1 := by rw [et19]; exact add_i rfl (by decide) (by omega) (by omega)
                refine lv_iinc (v := t19) (lv' := [(3, .int t19), (2, .int l2_6), (0, .ref (x 35)), (1, .int p1)]) hx hb dX8_fittingBehind_47 hl (k := 0) rfl (by rw [et19]; rfl) (by decide) rfl (fun ls hl => ?_)
                refine lv_goto (tgt := 26) hx hb dX8_fittingBehind_50 (by decide) ?_
                have rg21 := fb_rng t19
                exact ih6 l2_6 t19 v11 f12 hIv11 hq0_v11 hq1_v11 hq7_v11 hq8_v11 hq9_v11 hq10_v11 hq31_v11 hq32_v11 ⟨show (0 : Int) ≤ t19.toInt by omega, show t19.toInt ≤ (2147483647 : Int) by omega⟩ ha0_f12 (by show (2147483647 - t19.toInt).toNat < n6; omega) _ _ _ hP hD hS (lv_sub hl [0, 1, 2, 3] rfl)
        exact lp6 _ 0 0 v f hIv rfl rfl rfl rfl rfl rfl rfl rfl ⟨by decide, by decide⟩ ha0_f (Nat.lt_succ_self _) _ _ _ hP hD hS (lv_sub hl [0, 1, 2, 3] rfl)
    · skip
      have zc2 : ¬ (p1.toInt ≤ 20) := by rw [fa_le, show (20 : Int32).toInt = 20 from by decide] at c2; exact c2
      refine lv_iconst (v := 0) hx hb dX8_fittingBehind_10 (by decide) ?_
      exact ret 0 (v, f) _ _ _ _ _ _ rfl ⟨ha0_f, hIv, rfl, rfl, rfl, rfl, rfl, rfl, rfl, rfl⟩ hP hD hS dX8_fittingBehind_11 (Nat.le_refl _) (Nat.le_refl _)
set_option maxHeartbeats 4000000 in
set_option maxRecDepth 100000 in
theorem sX_X8_growthsAt_1 (l : Launch) (dC : Nat → ClassId) (dI : Nat → Nat → Nat) (cy : Nat → ClassId) (x0 : Nat) (x : Nat → Nat) (p1 : Int32) (v : Nat → Int32) (f : Nat → Nat → Int32) (hIv : XI v)  : ctI l (dC, dI) cy yX8_growthsAt cX8_growthsAt 6 .int 5 158 0 0 ((Nat → Int32) × (Nat → Nat → Int32)) [.ref (x 35), .int p1] (XW cy x0 x v f) (fun r u => u.2 0 = f 0 ∧ XI u.1 ∧ u.1 0 = v 0 ∧ u.1 1 = v 1 ∧ u.1 7 = v 7 ∧ u.1 8 = v 8 ∧ u.1 9 = v 9 ∧ u.1 10 = v 10 ∧ u.1 31 = v 31 ∧ u.1 32 = v 32) (fun u => XW cy x0 x u.1 u.2) := by
  refine ctI_of (by decide) (Nat.le_of_ble_eq_true rfl) (fun p e s m below meth c A ls Q hx hb hml hts hown hE hP hD hA hl ret => ?_)
  have ha0_f : f 0 = f 0 := rfl
  have hown : s.vm.findClass RX8 = some m.cls := hown
  have hS : va_S A s.heap s.heap [] := va_S.rf
  have hl : lv_has ls 6 [(0, .ref (x 35)), (1, .int p1)] := hl
  refine lv_aload_n hx hb dX8_growthsAt_0 rfl (lv_at hl 0 rfl) ?_
  refine va_get (D := (dC, dI)) (ci := 8) (v := .ref (x 26)) (C := RX8) (T := TX8) (N := 7) hx hb hts inB_8 hown hE.1 hP 36 rfl rfl 0 (by decide) (hts _ k_467) (fun _ h9 => h9) rfl dX8_growthsAt_1 ?_
  refine va_getN (D := (dC, dI)) (ci := 7) (v := .int (v 31)) (C := RX7) (T := TX7) (N := 10) hx hb hts inB_7 hown hE.1 hP 27 rfl rfl 3 (by decide) (va_Nw.use rfl (hE.2 _ k_215)) (fun _ h9 => h9) rfl dX8_growthsAt_4 ?_
  have b31_v : 0 ≤ (v 31).toInt ∧ (v 31).toInt ≤ 6 := XI.b hIv 31 (by decide)
  refine lv_if_eq (tgt := 20) hx hb dX8_growthsAt_7 (by decide) (fun c1 => ?_) (fun c1 => ?_)
  · skip
    have zc1 : (v 31).toInt = 0 := by rw [fa_eq, show (0 : Int32).toInt = 0 from by decide] at c1; exact c1
    refine lv_iconst (v := 0) hx hb dX8_growthsAt_20 (by decide) ?_
    exact ret 0 (v, f) _ _ _ _ _ _ rfl ⟨ha0_f, hIv, rfl, rfl, rfl, rfl, rfl, rfl, rfl, rfl⟩ hP hD hS dX8_growthsAt_21 (Nat.le_refl _) (Nat.le_refl _)
  · skip
    have zc1 : ¬ ((v 31).toInt = 0) := by rw [fa_eq, show (0 : Int32).toInt = 0 from by decide] at c1; exact c1
    refine lv_aload_n hx hb dX8_growthsAt_10 rfl (lv_at hl 0 rfl) ?_
    refine va_get (D := (dC, dI)) (ci := 8) (v := .ref (x 26)) (C := RX8) (T := TX8) (N := 7) hx hb hts inB_8 hown hE.1 hP 36 rfl rfl 0 (by decide) (hts _ k_467) (fun _ h9 => h9) rfl dX8_growthsAt_11 ?_
    refine va_getN (D := (dC, dI)) (ci := 7) (v := .int (v 32)) (C := RX7) (T := TX7) (N := 10) hx hb hts inB_7 hown hE.1 hP 27 rfl rfl 4 (by decide) (va_Nw.use rfl (hE.2 _ k_221)) (fun _ h9 => h9) rfl dX8_growthsAt_14 ?_
    have b32_v : 0 ≤ (v 32).toInt ∧ (v 32).toInt ≤ 6 := XI.b hIv 32 (by decide)
    refine lv_if_ne (tgt := 22) hx hb dX8_growthsAt_17 (by decide) (fun c2 => ?_) (fun c2 => ?_)
    · skip
      have zc2 : ¬ ((v 32).toInt = 0) := by rw [fa_eq, show (0 : Int32).toInt = 0 from by decide] at c2; exact c2
      refine lv_ldc (v := 2147483647) hx hb hown (hts _ k_1251) dX8_growthsAt_22 ?_
      refine lv_istore_n (lv' := [(2, .int 2147483647), (0, .ref (x 35)), (1, .int p1)]) hx hb dX8_growthsAt_24 rfl hl (by decide) rfl (fun ls hl => ?_)
      refine lv_iconst (v := 0) hx hb dX8_growthsAt_25 (by decide) ?_
      refine lv_istore_n (lv' := [(3, .int 0), (2, .int 2147483647), (0, .ref (x 35)), (1, .int p1)]) hx hb dX8_growthsAt_26 rfl hl (by decide) rfl (fun ls hl => ?_)
      have lp3 : ∀ (n3 : Nat) (l2_3 : Int32) (l3_3 : Int32) (v3 : Nat → Int32) (f3 : Nat → Nat → Int32), XI v3 → v3 0 = (v 0) → v3 1 = (v 1) → v3 7 = (v 7) → v3 8 = (v 8) → v3 9 = (v 9) → v3 10 = (v 10) → v3 31 = (v 31) → v3 32 = (v 32) → ((0 : Int) ≤ l3_3.toInt ∧ l3_3.toInt ≤ 2147483647) → f3 0 = f 0 → (2147483647 - l3_3.toInt).toNat < n3 → ∀ (H : Heap) (locs : List Loc) (ls : Array Slot), va_P (dC, dI) vwCl (XW cy x0 x v3 f3) H → va_D A (XW cy x0 x v3 f3) → va_S A s.heap H locs → lv_has ls 6 [(3, .int l3_3), (2, .int l2_3), (0, .ref (x 35)), (1, .int p1)] → W p l e { frames := 5, cells := 0, slots := 0, locals := 158 } s m ([.ref (x 35), .int p1] : List Value).toArray below meth c H locs 0 0 Q (F0 m 27 ls []) := by
        intro n3
        induction n3 with
        | zero => intro l2_3 l3_3 v3 f3 hIv3 hq0_v3 hq1_v3 hq7_v3 hq8_v3 hq9_v3 hq10_v3 hq31_v3 hq32_v3 hr3_3 ha0_f3 hm; exact absurd hm (Nat.not_lt_zero _)
        | succ n3 ih3 =>
          intro l2_3 l3_3 v3 f3 hIv3 hq0_v3 hq1_v3 hq7_v3 hq8_v3 hq9_v3 hq10_v3 hq31_v3 hq32_v3 hr3_3 ha0_f3 hm3 H locs ls hP hD hS hl
          refine lv_iload_n hx hb dX8_growthsAt_27 rfl (lv_at hl 0 rfl) ?_
          refine lv_aload_n hx hb dX8_growthsAt_28 rfl (lv_at hl 2 rfl) ?_
          refine va_get (D := (dC, dI)) (ci := 8) (v := .int (v3 41)) (C := RX8) (T := TX8) (N := 7) hx hb hts inB_8 hown hE.1 hP 36 rfl rfl 5 (by decide) (hts _ k_472) (fun _ h9 => h9) rfl dX8_growthsAt_29 ?_
          have b41_v3 : 0 ≤ (v3 41).toInt ∧ (v3 41).toInt ≤ 30 := XI.b hIv3 41 (by decide)
          refine lv_icmp_ge (tgt := 122) hx hb dX8_growthsAt_32 (by decide) (fun c4 => ?_) (fun c4 => ?_)
          · skip
            have zc4 : (v3 41).toInt ≤ l3_3.toInt := by rw [fa_le] at c4; exact c4
            have rg5 := fb_rng l3_3
            have rg6 := fb_rng (v3 41)
            refine lv_iload_n hx hb dX8_growthsAt_122 rfl (lv_at hl 1 rfl) ?_
            exact ret l2_3 (v3, f3) _ _ _ _ _ _ rfl ⟨ha0_f3, hIv3, (show v3 0 = v 0 from hq0_v3), (show v3 1 = v 1 from hq1_v3), (show v3 7 = v 7 from hq7_v3), (show v3 8 = v 8 from hq8_v3), (show v3 9 = v 9 from hq9_v3), (show v3 10 = v 10 from hq10_v3), (show v3 31 = v 31 from hq31_v3), (show v3 32 = v 32 from hq32_v3)⟩ hP hD hS dX8_growthsAt_123 (Nat.le_refl _) (Nat.le_refl _)
          · skip
            have zc4 : ¬ ((v3 41).toInt ≤ l3_3.toInt) := by rw [fa_le] at c4; exact c4
            have rg7 := fb_rng l3_3
            have rg8 := fb_rng (v3 41)
            refine lv_iload_n hx hb dX8_growthsAt_35 rfl (lv_at hl 0 rfl) ?_
            refine lv_bipush (v := 30) hx hb dX8_growthsAt_36 (by decide) ?_
            refine lv_icmp_ge (tgt := 122) hx hb dX8_growthsAt_38 (by decide) (fun c9 => ?_) (fun c9 => ?_)
            · skip
              have zc9 : 30 ≤ l3_3.toInt := by rw [fa_le, show (30 : Int32).toInt = 30 from by decide] at c9; exact c9
              refine lv_iload_n hx hb dX8_growthsAt_122 rfl (lv_at hl 1 rfl) ?_
              exact ret l2_3 (v3, f3) _ _ _ _ _ _ rfl ⟨ha0_f3, hIv3, (show v3 0 = v 0 from hq0_v3), (show v3 1 = v 1 from hq1_v3), (show v3 7 = v 7 from hq7_v3), (show v3 8 = v 8 from hq8_v3), (show v3 9 = v 9 from hq9_v3), (show v3 10 = v 10 from hq10_v3), (show v3 31 = v 31 from hq31_v3), (show v3 32 = v 32 from hq32_v3)⟩ hP hD hS dX8_growthsAt_123 (Nat.le_refl _) (Nat.le_refl _)
            · skip
              have zc9 : ¬ (30 ≤ l3_3.toInt) := by rw [fa_le, show (30 : Int32).toInt = 30 from by decide] at c9; exact c9
              refine lv_aload_n hx hb dX8_growthsAt_41 rfl (lv_at hl 2 rfl) ?_
              refine va_get (D := (dC, dI)) (ci := 8) (v := .ref (x 39)) (C := RX8) (T := TX8) (N := 7) hx hb hts inB_8 hown hE.1 hP 36 rfl rfl 4 (by decide) (hts _ k_471) (fun _ h9 => h9) rfl dX8_growthsAt_42 ?_
              refine lv_iload_n hx hb dX8_growthsAt_45 rfl (lv_at hl 0 rfl) ?_
              refine ldI hx hb hE hP 40 rfl (vp_in_iff.mpr ⟨by omega, by omega⟩) rfl rfl dX8_growthsAt_46 ?_
              refine lv_topi (fun t10 et10 => ?_)
              refine lv_iconst (v := (-1)) hx hb dX8_growthsAt_47 (by decide) ?_
              refine lv_icmp_eq (tgt := 65) hx hb dX8_growthsAt_48 (by decide) (fun c11 => ?_) (fun c11 => ?_)
              · skip
                have zc11 : t10.toInt = (-1) := by rw [fa_eq, show ((-1) : Int32).toInt = -1 from by decide] at c11; exact c11
                refine lv_iconst (v := 0) hx hb dX8_growthsAt_65 (by decide) ?_
                refine lv_istore (lv' := [(4, .int 0), (3, .int l3_3), (2, .int l2_3), (0, .ref (x 35)), (1, .int p1)]) hx hb dX8_growthsAt_66 hl (by decide) rfl (fun ls hl => ?_)
                refine lv_aload_n hx hb dX8_growthsAt_68 rfl (lv_at hl 3 rfl) ?_
                refine va_get (D := (dC, dI)) (ci := 8) (v := .ref (x 38)) (C := RX8) (T := TX8) (N := 7) hx hb hts inB_8 hown hE.1 hP 36 rfl rfl 3 (by decide) (hts _ k_470) (fun _ h9 => h9) rfl dX8_growthsAt_69 ?_
                refine lv_iload_n hx hb dX8_growthsAt_72 rfl (lv_at hl 1 rfl) ?_
                refine ldI hx hb hE hP 39 rfl (vp_in_iff.mpr ⟨by omega, by omega⟩) rfl rfl dX8_growthsAt_73 ?_
                refine lv_topi (fun t12 et12 => ?_)
                refine lv_iload_n hx hb dX8_growthsAt_74 rfl (lv_at hl 4 rfl) ?_
                refine lv_icmp_gt (tgt := 116) hx hb dX8_growthsAt_75 (by decide) (fun c13 => ?_) (fun c13 => ?_)
                · skip
                  have zc13 : p1.toInt < t12.toInt := by rw [fa_lt] at c13; exact c13
                  have rg14 := fb_rng t12
                  have rg15 := fb_rng p1
                  obtain ⟨t16, et16⟩ : ∃ y : Int32, y = l3_3 + 1 := ⟨_, rfl⟩
                  have zt16 : t16.toInt = l3_3.toInt + 1 := by rw [et16]; exact add_i rfl (by decide) (by omega) (by omega)
                  refine lv_iinc (v := t16) (lv' := [(3, .int t16), (4, .int 0), (2, .int l2_3), (0, .ref (x 35)), (1, .int p1)]) hx hb dX8_growthsAt_116 hl (k := 1) rfl (by rw [et16]; rfl) (by decide) rfl (fun ls hl => ?_)
                  refine lv_goto (tgt := 27) hx hb dX8_growthsAt_119 (by decide) ?_
                  have rg17 := fb_rng t16
                  exact ih3 l2_3 t16 v3 f3 hIv3 hq0_v3 hq1_v3 hq7_v3 hq8_v3 hq9_v3 hq10_v3 hq31_v3 hq32_v3 ⟨show (0 : Int) ≤ t16.toInt by omega, show t16.toInt ≤ (2147483647 : Int) by omega⟩ ha0_f3 (by show (2147483647 - t16.toInt).toNat < n3; omega) _ _ _ hP hD hS (lv_sub hl [0, 2, 3, 4] rfl)
                · skip
                  have zc13 : ¬ (p1.toInt < t12.toInt) := by rw [fa_lt] at c13; exact c13
                  have rg18 := fb_rng t12
                  have rg19 := fb_rng p1
                  refine lv_iload hx hb dX8_growthsAt_78 (lv_at hl 0 rfl) ?_
                  refine lv_if_ne (tgt := 116) hx hb dX8_growthsAt_80 (by decide) (fun c0 => absurd (by decide) c0) (fun _ => ?_)
                  refine lv_aload_n hx hb dX8_growthsAt_83 rfl (lv_at hl 3 rfl) ?_
                  refine lv_aload_n hx hb dX8_growthsAt_84 rfl (lv_at hl 3 rfl) ?_
                  refine va_get (D := (dC, dI)) (ci := 8) (v := .ref (x 36)) (C := RX8) (T := TX8) (N := 7) hx hb hts inB_8 hown hE.1 hP 36 rfl rfl 1 (by decide) (hts _ k_468) (fun _ h9 => h9) rfl dX8_growthsAt_85 ?_
                  refine lv_iload_n hx hb dX8_growthsAt_88 rfl (lv_at hl 1 rfl) ?_
                  refine ldI hx hb hE hP 37 rfl (vp_in_iff.mpr ⟨by omega, by omega⟩) rfl rfl dX8_growthsAt_89 ?_
                  refine lv_topi (fun t20 et20 => ?_)
                  refine cbVi (n := 1) (rest := []) hx hb hml hown hts hE hP hD hS hA (sX_X8_fittingBehind_1 l dC dI cy x0 x t20 v3 f3 hIv3 ) k_1252 k_1254 k_38 k_112 k_1255 (by decide +kernel) ⟨Nat.le_of_ble_eq_true rfl, Nat.le_of_ble_eq_true rfl⟩ 36 8 rfl rfl (rfl) hl.1 rfl (Nat.le_of_ble_eq_true rfl) dX8_growthsAt_90 (fun r21 u H locs hw hP hD hS => ?_)
                  obtain ⟨v22, f23⟩ := u
                  obtain ⟨ka0_f23, hIv22, hk0_v22, hk1_v22, hk7_v22, hk8_v22, hk9_v22, hk10_v22, hk31_v22, hk32_v22⟩ := hw
                  have ha0_f23 : f23 0 = f 0 := ka0_f23.trans ha0_f3
                  have hP : va_P (dC, dI) vwCl (XW cy x0 x v22 f23) H := hP
                  have hD : va_D A (XW cy x0 x v22 f23) := hD
                  have hq0_v22 : v22 0 = (v 0) := hk0_v22.trans hq0_v3
                  have hq1_v22 : v22 1 = (v 1) := hk1_v22.trans hq1_v3
                  have hq7_v22 : v22 7 = (v 7) := hk7_v22.trans hq7_v3
                  have hq8_v22 : v22 8 = (v 8) := hk8_v22.trans hq8_v3
                  have hq9_v22 : v22 9 = (v 9) := hk9_v22.trans hq9_v3
                  have hq10_v22 : v22 10 = (v 10) := hk10_v22.trans hq10_v3
                  have hq31_v22 : v22 31 = (v 31) := hk31_v22.trans hq31_v3
                  have hq32_v22 : v22 32 = (v 32) := hk32_v22.trans hq32_v3
                  refine lv_istore (lv' := [(5, .int r21), (4, .int 0), (3, .int l3_3), (2, .int l2_3), (0, .ref (x 35)), (1, .int p1)]) hx hb dX8_growthsAt_93 hl (by decide) rfl (fun ls hl => ?_)
                  refine lv_iload_n hx hb dX8_growthsAt_95 rfl (lv_at hl 3 rfl) ?_
                  refine lv_aload_n hx hb dX8_growthsAt_96 rfl (lv_at hl 4 rfl) ?_
                  refine va_get (D := (dC, dI)) (ci := 8) (v := .ref (x 37)) (C := RX8) (T := TX8) (N := 7) hx hb hts inB_8 hown hE.1 hP 36 rfl rfl 2 (by decide) (hts _ k_469) (fun _ h9 => h9) rfl dX8_growthsAt_97 ?_
                  refine lv_iload_n hx hb dX8_growthsAt_100 rfl (lv_at hl 2 rfl) ?_
                  refine ldZ hx hb hE hP 38 rfl (vp_in_iff.mpr ⟨by omega, by omega⟩) rfl rfl dX8_growthsAt_101 ?_
                  refine lv_topi (fun t24 et24 => ?_)
                  refine lv_if_eq (tgt := 110) hx hb dX8_growthsAt_102 (by decide) (fun c25 => ?_) (fun c25 => ?_)
                  · skip
                    have zc25 : t24.toInt = 0 := by rw [fa_eq, show (0 : Int32).toInt = 0 from by decide] at c25; exact c25
                    refine lv_iload hx hb dX8_growthsAt_110 (lv_at hl 0 rfl) ?_
                    refine lv_iconst (v := (-1)) hx hb dX8_growthsAt_112 (by decide) ?_
                    refine lv_ixor hx hb dX8_growthsAt_113 ?_
                    refine lv_topi (fun t26 et26 => ?_)
                    refine lv_iand hx hb dX8_growthsAt_114 ?_
                    refine lv_topi (fun t27 et27 => ?_)
                    refine lv_istore_n (lv' := [(2, .int t27), (5, .int r21), (4, .int 0), (3, .int l3_3), (0, .ref (x 35)), (1, .int p1)]) hx hb dX8_growthsAt_115 rfl hl (by decide) rfl (fun ls hl => ?_)
                    obtain ⟨t28, et28⟩ : ∃ y : Int32, y = l3_3 + 1 := ⟨_, rfl⟩
                    have zt28 : t28.toInt = l3_3.toInt + 1 := by rw [et28]; exact add_i rfl (by decide) (by omega) (by omega)
                    refine lv_iinc (v := t28) (lv' := [(3, .int t28), (2, .int t27), (5, .int r21), (4, .int 0), (0, .ref (x 35)), (1, .int p1)]) hx hb dX8_growthsAt_116 hl (k := 3) rfl (by rw [et28]; rfl) (by decide) rfl (fun ls hl => ?_)
                    refine lv_goto (tgt := 27) hx hb dX8_growthsAt_119 (by decide) ?_
                    have rg29 := fb_rng t28
                    exact ih3 t27 t28 v22 f23 hIv22 hq0_v22 hq1_v22 hq7_v22 hq8_v22 hq9_v22 hq10_v22 hq31_v22 hq32_v22 ⟨show (0 : Int) ≤ t28.toInt by omega, show t28.toInt ≤ (2147483647 : Int) by omega⟩ ha0_f23 (by show (2147483647 - t28.toInt).toNat < n3; omega) _ _ _ hP hD hS (lv_sub hl [0, 1, 4, 5] rfl)
                  · skip
                    have zc25 : ¬ (t24.toInt = 0) := by rw [fa_eq, show (0 : Int32).toInt = 0 from by decide] at c25; exact c25
                    refine lv_iload hx hb dX8_growthsAt_105 (lv_at hl 0 rfl) ?_
                    refine lv_goto (tgt := 114) hx hb dX8_growthsAt_107 (by decide) ?_
                    refine lv_iand hx hb dX8_growthsAt_114 ?_
                    refine lv_topi (fun t30 et30 => ?_)
                    refine lv_istore_n (lv' := [(2, .int t30), (5, .int r21), (4, .int 0), (3, .int l3_3), (0, .ref (x 35)), (1, .int p1)]) hx hb dX8_growthsAt_115 rfl hl (by decide) rfl (fun ls hl => ?_)
                    obtain ⟨t31, et31⟩ : ∃ y : Int32, y = l3_3 + 1 := ⟨_, rfl⟩
                    have zt31 : t31.toInt = l3_3.toInt + 1 := by rw [et31]; exact add_i rfl (by decide) (by omega) (by omega)
                    refine lv_iinc (v := t31) (lv' := [(3, .int t31), (2, .int t30), (5, .int r21), (4, .int 0), (0, .ref (x 35)), (1, .int p1)]) hx hb dX8_growthsAt_116 hl (k := 3) rfl (by rw [et31]; rfl) (by decide) rfl (fun ls hl => ?_)
                    refine lv_goto (tgt := 27) hx hb dX8_growthsAt_119 (by decide) ?_
                    have rg32 := fb_rng t31
                    exact ih3 t30 t31 v22 f23 hIv22 hq0_v22 hq1_v22 hq7_v22 hq8_v22 hq9_v22 hq10_v22 hq31_v22 hq32_v22 ⟨show (0 : Int) ≤ t31.toInt by omega, show t31.toInt ≤ (2147483647 : Int) by omega⟩ ha0_f23 (by show (2147483647 - t31.toInt).toNat < n3; omega) _ _ _ hP hD hS (lv_sub hl [0, 1, 4, 5] rfl)
              · skip
                have zc11 : ¬ (t10.toInt = (-1)) := by rw [fa_eq, show ((-1) : Int32).toInt = -1 from by decide] at c11; exact c11
                refine lv_aload_n hx hb dX8_growthsAt_51 rfl (lv_at hl 2 rfl) ?_
                refine va_get (D := (dC, dI)) (ci := 8) (v := .ref (x 39)) (C := RX8) (T := TX8) (N := 7) hx hb hts inB_8 hown hE.1 hP 36 rfl rfl 4 (by decide) (hts _ k_471) (fun _ h9 => h9) rfl dX8_growthsAt_52 ?_
                refine lv_iload_n hx hb dX8_growthsAt_55 rfl (lv_at hl 0 rfl) ?_
                refine ldI hx hb hE hP 40 rfl (vp_in_iff.mpr ⟨by omega, by omega⟩) rfl rfl dX8_growthsAt_56 ?_
                refine lv_topi (fun t33 et33 => ?_)
                refine lv_iload_n hx hb dX8_growthsAt_57 rfl (lv_at hl 3 rfl) ?_
                refine lv_icmp_gt (tgt := 65) hx hb dX8_growthsAt_58 (by decide) (fun c34 => ?_) (fun c34 => ?_)
                · skip
                  have zc34 : p1.toInt < t33.toInt := by rw [fa_lt] at c34; exact c34
                  have rg35 := fb_rng t33
                  have rg36 := fb_rng p1
                  refine lv_iconst (v := 0) hx hb dX8_growthsAt_65 (by decide) ?_
                  refine lv_istore (lv' := [(4, .int 0), (3, .int l3_3), (2, .int l2_3), (0, .ref (x 35)), (1, .int p1)]) hx hb dX8_growthsAt_66 hl (by decide) rfl (fun ls hl => ?_)
                  refine lv_aload_n hx hb dX8_growthsAt_68 rfl (lv_at hl 3 rfl) ?_
                  refine va_get (D := (dC, dI)) (ci := 8) (v := .ref (x 38)) (C := RX8) (T := TX8) (N := 7) hx hb hts inB_8 hown hE.1 hP 36 rfl rfl 3 (by decide) (hts _ k_470) (fun _ h9 => h9) rfl dX8_growthsAt_69 ?_
                  refine lv_iload_n hx hb dX8_growthsAt_72 rfl (lv_at hl 1 rfl) ?_
                  refine ldI hx hb hE hP 39 rfl (vp_in_iff.mpr ⟨by omega, by omega⟩) rfl rfl dX8_growthsAt_73 ?_
                  refine lv_topi (fun t37 et37 => ?_)
                  refine lv_iload_n hx hb dX8_growthsAt_74 rfl (lv_at hl 4 rfl) ?_
                  refine lv_icmp_gt (tgt := 116) hx hb dX8_growthsAt_75 (by decide) (fun c38 => ?_) (fun c38 => ?_)
                  · skip
                    have zc38 : p1.toInt < t37.toInt := by rw [fa_lt] at c38; exact c38
                    have rg39 := fb_rng t37
                    obtain ⟨t40, et40⟩ : ∃ y : Int32, y = l3_3 + 1 := ⟨_, rfl⟩
                    have zt40 : t40.toInt = l3_3.toInt + 1 := by rw [et40]; exact add_i rfl (by decide) (by omega) (by omega)
                    refine lv_iinc (v := t40) (lv' := [(3, .int t40), (4, .int 0), (2, .int l2_3), (0, .ref (x 35)), (1, .int p1)]) hx hb dX8_growthsAt_116 hl (k := 1) rfl (by rw [et40]; rfl) (by decide) rfl (fun ls hl => ?_)
                    refine lv_goto (tgt := 27) hx hb dX8_growthsAt_119 (by decide) ?_
                    have rg41 := fb_rng t40
                    exact ih3 l2_3 t40 v3 f3 hIv3 hq0_v3 hq1_v3 hq7_v3 hq8_v3 hq9_v3 hq10_v3 hq31_v3 hq32_v3 ⟨show (0 : Int) ≤ t40.toInt by omega, show t40.toInt ≤ (2147483647 : Int) by omega⟩ ha0_f3 (by show (2147483647 - t40.toInt).toNat < n3; omega) _ _ _ hP hD hS (lv_sub hl [0, 2, 3, 4] rfl)
                  · skip
                    have zc38 : ¬ (p1.toInt < t37.toInt) := by rw [fa_lt] at c38; exact c38
                    have rg42 := fb_rng t37
                    refine lv_iload hx hb dX8_growthsAt_78 (lv_at hl 0 rfl) ?_
                    refine lv_if_ne (tgt := 116) hx hb dX8_growthsAt_80 (by decide) (fun c0 => absurd (by decide) c0) (fun _ => ?_)
                    refine lv_aload_n hx hb dX8_growthsAt_83 rfl (lv_at hl 3 rfl) ?_
                    refine lv_aload_n hx hb dX8_growthsAt_84 rfl (lv_at hl 3 rfl) ?_
                    refine va_get (D := (dC, dI)) (ci := 8) (v := .ref (x 36)) (C := RX8) (T := TX8) (N := 7) hx hb hts inB_8 hown hE.1 hP 36 rfl rfl 1 (by decide) (hts _ k_468) (fun _ h9 => h9) rfl dX8_growthsAt_85 ?_
                    refine lv_iload_n hx hb dX8_growthsAt_88 rfl (lv_at hl 1 rfl) ?_
                    refine ldI hx hb hE hP 37 rfl (vp_in_iff.mpr ⟨by omega, by omega⟩) rfl rfl dX8_growthsAt_89 ?_
                    refine lv_topi (fun t43 et43 => ?_)
                    refine cbVi (n := 1) (rest := []) hx hb hml hown hts hE hP hD hS hA (sX_X8_fittingBehind_1 l dC dI cy x0 x t43 v3 f3 hIv3 ) k_1252 k_1254 k_38 k_112 k_1255 (by decide +kernel) ⟨Nat.le_of_ble_eq_true rfl, Nat.le_of_ble_eq_true rfl⟩ 36 8 rfl rfl (rfl) hl.1 rfl (Nat.le_of_ble_eq_true rfl) dX8_growthsAt_90 (fun r44 u H locs hw hP hD hS => ?_)
                    obtain ⟨v45, f46⟩ := u
                    obtain ⟨ka0_f46, hIv45, hk0_v45, hk1_v45, hk7_v45, hk8_v45, hk9_v45, hk10_v45, hk31_v45, hk32_v45⟩ := hw
                    have ha0_f46 : f46 0 = f 0 := ka0_f46.trans ha0_f3
                    have hP : va_P (dC, dI) vwCl (XW cy x0 x v45 f46) H := hP
                    have hD : va_D A (XW cy x0 x v45 f46) := hD
                    have hq0_v45 : v45 0 = (v 0) := hk0_v45.trans hq0_v3
                    have hq1_v45 : v45 1 = (v 1) := hk1_v45.trans hq1_v3
                    have hq7_v45 : v45 7 = (v 7) := hk7_v45.trans hq7_v3
                    have hq8_v45 : v45 8 = (v 8) := hk8_v45.trans hq8_v3
                    have hq9_v45 : v45 9 = (v 9) := hk9_v45.trans hq9_v3
                    have hq10_v45 : v45 10 = (v 10) := hk10_v45.trans hq10_v3
                    have hq31_v45 : v45 31 = (v 31) := hk31_v45.trans hq31_v3
                    have hq32_v45 : v45 32 = (v 32) := hk32_v45.trans hq32_v3
                    refine lv_istore (lv' := [(5, .int r44), (4, .int 0), (3, .int l3_3), (2, .int l2_3), (0, .ref (x 35)), (1, .int p1)]) hx hb dX8_growthsAt_93 hl (by decide) rfl (fun ls hl => ?_)
                    refine lv_iload_n hx hb dX8_growthsAt_95 rfl (lv_at hl 3 rfl) ?_
                    refine lv_aload_n hx hb dX8_growthsAt_96 rfl (lv_at hl 4 rfl) ?_
                    refine va_get (D := (dC, dI)) (ci := 8) (v := .ref (x 37)) (C := RX8) (T := TX8) (N := 7) hx hb hts inB_8 hown hE.1 hP 36 rfl rfl 2 (by decide) (hts _ k_469) (fun _ h9 => h9) rfl dX8_growthsAt_97 ?_
                    refine lv_iload_n hx hb dX8_growthsAt_100 rfl (lv_at hl 2 rfl) ?_
                    refine ldZ hx hb hE hP 38 rfl (vp_in_iff.mpr ⟨by omega, by omega⟩) rfl rfl dX8_growthsAt_101 ?_
                    refine lv_topi (fun t47 et47 => ?_)
                    refine lv_if_eq (tgt := 110) hx hb dX8_growthsAt_102 (by decide) (fun c48 => ?_) (fun c48 => ?_)
                    · skip
                      have zc48 : t47.toInt = 0 := by rw [fa_eq, show (0 : Int32).toInt = 0 from by decide] at c48; exact c48
                      refine lv_iload hx hb dX8_growthsAt_110 (lv_at hl 0 rfl) ?_
                      refine lv_iconst (v := (-1)) hx hb dX8_growthsAt_112 (by decide) ?_
                      refine lv_ixor hx hb dX8_growthsAt_113 ?_
                      refine lv_topi (fun t49 et49 => ?_)
                      refine lv_iand hx hb dX8_growthsAt_114 ?_
                      refine lv_topi (fun t50 et50 => ?_)
                      refine lv_istore_n (lv' := [(2, .int t50), (5, .int r44), (4, .int 0), (3, .int l3_3), (0, .ref (x 35)), (1, .int p1)]) hx hb dX8_growthsAt_115 rfl hl (by decide) rfl (fun ls hl => ?_)
                      obtain ⟨t51, et51⟩ : ∃ y : Int32, y = l3_3 + 1 := ⟨_, rfl⟩
                      have zt51 : t51.toInt = l3_3.toInt + 1 := by rw [et51]; exact add_i rfl (by decide) (by omega) (by omega)
                      refine lv_iinc (v := t51) (lv' := [(3, .int t51), (2, .int t50), (5, .int r44), (4, .int 0), (0, .ref (x 35)), (1, .int p1)]) hx hb dX8_growthsAt_116 hl (k := 3) rfl (by rw [et51]; rfl) (by decide) rfl (fun ls hl => ?_)
                      refine lv_goto (tgt := 27) hx hb dX8_growthsAt_119 (by decide) ?_
                      have rg52 := fb_rng t51
                      exact ih3 t50 t51 v45 f46 hIv45 hq0_v45 hq1_v45 hq7_v45 hq8_v45 hq9_v45 hq10_v45 hq31_v45 hq32_v45 ⟨show (0 : Int) ≤ t51.toInt by omega, show t51.toInt ≤ (2147483647 : Int) by omega⟩ ha0_f46 (by show (2147483647 - t51.toInt).toNat < n3; omega) _ _ _ hP hD hS (lv_sub hl [0, 1, 4, 5] rfl)
                    · skip
                      have zc48 : ¬ (t47.toInt = 0) := by rw [fa_eq, show (0 : Int32).toInt = 0 from by decide] at c48; exact c48
                      refine lv_iload hx hb dX8_growthsAt_105 (lv_at hl 0 rfl) ?_
                      refine lv_goto (tgt := 114) hx hb dX8_growthsAt_107 (by decide) ?_
                      refine lv_iand hx hb dX8_growthsAt_114 ?_
                      refine lv_topi (fun t53 et53 => ?_)
                      refine lv_istore_n (lv' := [(2, .int t53), (5, .int r44), (4, .int 0), (3, .int l3_3), (0, .ref (x 35)), (1, .int p1)]) hx hb dX8_growthsAt_115 rfl hl (by decide) rfl (fun ls hl => ?_)
                      obtain ⟨t54, et54⟩ : ∃ y : Int32, y = l3_3 + 1 := ⟨_, rfl⟩
                      have zt54 : t54.toInt = l3_3.toInt + 1 := by rw [et54]; exact add_i rfl (by decide) (by omega) (by omega)
                      refine lv_iinc (v := t54) (lv' := [(3, .int t54), (2, .int t53), (5, .int r44), (4, .int 0), (0, .ref (x 35)), (1, .int p1)]) hx hb dX8_growthsAt_116 hl (k := 3) rfl (by rw [et54]; rfl) (by decide) rfl (fun ls hl => ?_)
                      refine lv_goto (tgt := 27) hx hb dX8_growthsAt_119 (by decide) ?_
                      have rg55 := fb_rng t54
                      exact ih3 t53 t54 v45 f46 hIv45 hq0_v45 hq1_v45 hq7_v45 hq8_v45 hq9_v45 hq10_v45 hq31_v45 hq32_v45 ⟨show (0 : Int) ≤ t54.toInt by omega, show t54.toInt ≤ (2147483647 : Int) by omega⟩ ha0_f46 (by show (2147483647 - t54.toInt).toNat < n3; omega) _ _ _ hP hD hS (lv_sub hl [0, 1, 4, 5] rfl)
                · skip
                  have zc34 : ¬ (p1.toInt < t33.toInt) := by rw [fa_lt] at c34; exact c34
                  have rg56 := fb_rng t33
                  have rg57 := fb_rng p1
                  refine lv_iconst (v := 1) hx hb dX8_growthsAt_61 (by decide) ?_
                  refine lv_goto (tgt := 66) hx hb dX8_growthsAt_62 (by decide) ?_
                  refine lv_istore (lv' := [(4, .int 1), (3, .int l3_3), (2, .int l2_3), (0, .ref (x 35)), (1, .int p1)]) hx hb dX8_growthsAt_66 hl (by decide) rfl (fun ls hl => ?_)
                  refine lv_aload_n hx hb dX8_growthsAt_68 rfl (lv_at hl 3 rfl) ?_
                  refine va_get (D := (dC, dI)) (ci := 8) (v := .ref (x 38)) (C := RX8) (T := TX8) (N := 7) hx hb hts inB_8 hown hE.1 hP 36 rfl rfl 3 (by decide) (hts _ k_470) (fun _ h9 => h9) rfl dX8_growthsAt_69 ?_
                  refine lv_iload_n hx hb dX8_growthsAt_72 rfl (lv_at hl 1 rfl) ?_
                  refine ldI hx hb hE hP 39 rfl (vp_in_iff.mpr ⟨by omega, by omega⟩) rfl rfl dX8_growthsAt_73 ?_
                  refine lv_topi (fun t58 et58 => ?_)
                  refine lv_iload_n hx hb dX8_growthsAt_74 rfl (lv_at hl 4 rfl) ?_
                  refine lv_icmp_gt (tgt := 116) hx hb dX8_growthsAt_75 (by decide) (fun c59 => ?_) (fun c59 => ?_)
                  · skip
                    have zc59 : p1.toInt < t58.toInt := by rw [fa_lt] at c59; exact c59
                    have rg60 := fb_rng t58
                    obtain ⟨t61, et61⟩ : ∃ y : Int32, y = l3_3 + 1 := ⟨_, rfl⟩
                    have zt61 : t61.toInt = l3_3.toInt + 1 := by rw [et61]; exact add_i rfl (by decide) (by omega) (by omega)
                    refine lv_iinc (v := t61) (lv' := [(3, .int t61), (4, .int 1), (2, .int l2_3), (0, .ref (x 35)), (1, .int p1)]) hx hb dX8_growthsAt_116 hl (k := 1) rfl (by rw [et61]; rfl) (by decide) rfl (fun ls hl => ?_)
                    refine lv_goto (tgt := 27) hx hb dX8_growthsAt_119 (by decide) ?_
                    have rg62 := fb_rng t61
                    exact ih3 l2_3 t61 v3 f3 hIv3 hq0_v3 hq1_v3 hq7_v3 hq8_v3 hq9_v3 hq10_v3 hq31_v3 hq32_v3 ⟨show (0 : Int) ≤ t61.toInt by omega, show t61.toInt ≤ (2147483647 : Int) by omega⟩ ha0_f3 (by show (2147483647 - t61.toInt).toNat < n3; omega) _ _ _ hP hD hS (lv_sub hl [0, 2, 3, 4] rfl)
                  · skip
                    have zc59 : ¬ (p1.toInt < t58.toInt) := by rw [fa_lt] at c59; exact c59
                    have rg63 := fb_rng t58
                    refine lv_iload hx hb dX8_growthsAt_78 (lv_at hl 0 rfl) ?_
                    refine lv_if_ne (tgt := 116) hx hb dX8_growthsAt_80 (by decide) (fun _ => ?_) (fun c0 => absurd c0 (by decide))
                    obtain ⟨t64, et64⟩ : ∃ y : Int32, y = l3_3 + 1 := ⟨_, rfl⟩
                    have zt64 : t64.toInt = l3_3.toInt + 1 := by rw [et64]; exact add_i rfl (by decide) (by omega) (by omega)
                    refine lv_iinc (v := t64) (lv' := [(3, .int t64), (4, .int 1), (2, .int l2_3), (0, .ref (x 35)), (1, .int p1)]) hx hb dX8_growthsAt_116 hl (k := 1) rfl (by rw [et64]; rfl) (by decide) rfl (fun ls hl => ?_)
                    refine lv_goto (tgt := 27) hx hb dX8_growthsAt_119 (by decide) ?_
                    have rg65 := fb_rng t64
                    exact ih3 l2_3 t64 v3 f3 hIv3 hq0_v3 hq1_v3 hq7_v3 hq8_v3 hq9_v3 hq10_v3 hq31_v3 hq32_v3 ⟨show (0 : Int) ≤ t64.toInt by omega, show t64.toInt ≤ (2147483647 : Int) by omega⟩ ha0_f3 (by show (2147483647 - t64.toInt).toNat < n3; omega) _ _ _ hP hD hS (lv_sub hl [0, 2, 3, 4] rfl)
      exact lp3 _ 2147483647 0 v f hIv rfl rfl rfl rfl rfl rfl rfl rfl ⟨by decide, by decide⟩ ha0_f (Nat.lt_succ_self _) _ _ _ hP hD hS (lv_sub hl [0, 1, 2, 3] rfl)
    · skip
      have zc2 : (v 32).toInt = 0 := by rw [fa_eq, show (0 : Int32).toInt = 0 from by decide] at c2; exact c2
      refine lv_iconst (v := 0) hx hb dX8_growthsAt_20 (by decide) ?_
      exact ret 0 (v, f) _ _ _ _ _ _ rfl ⟨ha0_f, hIv, rfl, rfl, rfl, rfl, rfl, rfl, rfl, rfl⟩ hP hD hS dX8_growthsAt_21 (Nat.le_refl _) (Nat.le_refl _)
set_option maxHeartbeats 4000000 in
set_option maxRecDepth 100000 in
theorem sX_X10_growths_1 (l : Launch) (dC : Nat → ClassId) (dI : Nat → Nat → Nat) (cy : Nat → ClassId) (x0 : Nat) (x : Nat → Nat) (p1 : Int32) (v : Nat → Int32) (f : Nat → Nat → Int32) (hIv : XI v)  : ctI l (dC, dI) cy yX10_growths cX10_growths 2 .int 6 183 0 0 ((Nat → Int32) × (Nat → Nat → Int32)) [.ref x0, .int p1] (XW cy x0 x v f) (fun r u => u.2 0 = f 0 ∧ XI u.1 ∧ u.1 0 = v 0 ∧ u.1 1 = v 1 ∧ u.1 7 = v 7 ∧ u.1 8 = v 8 ∧ u.1 9 = v 9 ∧ u.1 10 = v 10 ∧ u.1 31 = v 31 ∧ u.1 32 = v 32) (fun u => XW cy x0 x u.1 u.2) := by
  refine ctI_of (by decide) (Nat.le_of_ble_eq_true rfl) (fun p e s m below meth c A ls Q hx hb hml hts hown hE hP hD hA hl ret => ?_)
  have ha0_f : f 0 = f 0 := rfl
  have hown : s.vm.findClass RX10 = some m.cls := hown
  have hS : va_S A s.heap s.heap [] := va_S.rf
  have hl : lv_has ls 2 [(0, .ref x0), (1, .int p1)] := hl
  refine lv_aload_n hx hb dX10_growths_0 rfl (lv_at hl 0 rfl) ?_
  refine va_get (D := (dC, dI)) (ci := 10) (v := .ref (x 35)) (C := RX10) (T := TX10) (N := 10) hx hb hts inB_10 hown hE.1 hP 0 rfl rfl 8 (by decide) (hts _ k_499) (fun _ h9 => h9) rfl dX10_growths_1 ?_
  refine lv_iload_n hx hb dX10_growths_4 rfl (lv_at hl 1 rfl) ?_
  refine cbVi (n := 1) (rest := []) hx hb hml hown hts hE hP hD hS hA (sX_X8_growthsAt_1 l dC dI cy x0 x p1 v f hIv ) k_1247 k_1248 k_1249 k_112 k_1250 (by decide +kernel) ⟨Nat.le_of_ble_eq_true rfl, Nat.le_of_ble_eq_true rfl⟩ 36 8 rfl rfl (rfl) hl.1 rfl (Nat.le_of_ble_eq_true rfl) dX10_growths_5 (fun r1 u H locs hw hP hD hS => ?_)
  obtain ⟨v2, f3⟩ := u
  obtain ⟨ka0_f3, hIv2, hk0_v2, hk1_v2, hk7_v2, hk8_v2, hk9_v2, hk10_v2, hk31_v2, hk32_v2⟩ := hw
  have ha0_f3 : f3 0 = f 0 := ka0_f3.trans ha0_f
  have hP : va_P (dC, dI) vwCl (XW cy x0 x v2 f3) H := hP
  have hD : va_D A (XW cy x0 x v2 f3) := hD
  have hq0_v2 : v2 0 = (v 0) := hk0_v2
  have hq1_v2 : v2 1 = (v 1) := hk1_v2
  have hq7_v2 : v2 7 = (v 7) := hk7_v2
  have hq8_v2 : v2 8 = (v 8) := hk8_v2
  have hq9_v2 : v2 9 = (v 9) := hk9_v2
  have hq10_v2 : v2 10 = (v 10) := hk10_v2
  have hq31_v2 : v2 31 = (v 31) := hk31_v2
  have hq32_v2 : v2 32 = (v 32) := hk32_v2
  refine cbSi (n := 1) (rest := []) hx hb hml hown hts hE hP hD hS hA (sX_J6_bitCount_0f7a4_1 l dC dI cy x0 x r1 v2 f3 hIv2 ) k_1071 k_1043 k_121 k_1044 (by decide +kernel) ⟨Nat.le_of_ble_eq_true rfl, Nat.le_of_ble_eq_true rfl⟩ (rfl) hl.1 rfl (Nat.le_of_ble_eq_true rfl) dX10_growths_8 (fun r4 u H locs hw hP hD hS => ?_)
  exact ret r4 (v2, f3) _ _ _ _ _ _ rfl ⟨ha0_f3, hIv2, hk0_v2, hk1_v2, hk7_v2, hk8_v2, hk9_v2, hk10_v2, hk31_v2, hk32_v2⟩ hP hD hS dX10_growths_11 (Nat.le_refl _) (Nat.le_refl _)
set_option maxHeartbeats 4000000 in
set_option maxRecDepth 100000 in
theorem sX_J6_numberOfLeadingZeros_0f7a4_1 (l : Launch) (dC : Nat → ClassId) (dI : Nat → Nat → Nat) (cy : Nat → ClassId) (x0 : Nat) (x : Nat → Nat) (p0 : Int32) (v : Nat → Int32) (f : Nat → Nat → Int32) (hIv : XI v)  : ctI l (dC, dI) cy yJ6_numberOfLeadingZeros_0f7a4 cJ6_numberOfLeadingZeros_0f7a4 2 .int 1 60 0 0 Unit [.int p0] (XW cy x0 x v f) (fun r u => True) (fun u => XW cy x0 x v f) := by
  refine ctI_of (by decide) (Nat.le_of_ble_eq_true rfl) (fun p e s m below meth c A ls Q hx hb hml hts hown hE hP hD hA hl ret => ?_)
  have hown : s.vm.findClass RJ6 = some m.cls := hown
  have hS : va_S A s.heap s.heap [] := va_S.rf
  have hl : lv_has ls 2 [(0, .int p0)] := hl
  refine lv_iload_n hx hb dJ6_numberOfLeadingZeros_0f7a4_0 rfl (lv_at hl 0 rfl) ?_
  refine lv_if_gt (tgt := 15) hx hb dJ6_numberOfLeadingZeros_0f7a4_1 (by decide) (fun c1 => ?_) (fun c1 => ?_)
  · skip
    have zc1 : 0 < p0.toInt := by rw [fa_lt, show (0 : Int32).toInt = 0 from by decide] at c1; exact c1
    refine lv_bipush (v := 31) hx hb dJ6_numberOfLeadingZeros_0f7a4_15 (by decide) ?_
    refine lv_istore_n (lv' := [(1, .int 31), (0, .int p0)]) hx hb dJ6_numberOfLeadingZeros_0f7a4_17 rfl hl (by decide) rfl (fun ls hl => ?_)
    refine lv_iload_n hx hb dJ6_numberOfLeadingZeros_0f7a4_18 rfl (lv_at hl 1 rfl) ?_
    refine lv_ldcw (v := 65536) hx hb hown (hts _ k_1271) dJ6_numberOfLeadingZeros_0f7a4_19 ?_
    refine lv_icmp_lt (tgt := 33) hx hb dJ6_numberOfLeadingZeros_0f7a4_22 (by decide) (fun c2 => ?_) (fun c2 => ?_)
    · skip
      have zc2 : p0.toInt < 65536 := by rw [fa_lt, show (65536 : Int32).toInt = 65536 from by decide] at c2; exact c2
      refine lv_iload_n hx hb dJ6_numberOfLeadingZeros_0f7a4_33 rfl (lv_at hl 1 rfl) ?_
      refine lv_sipush (v := 256) hx hb dJ6_numberOfLeadingZeros_0f7a4_34 (by decide) ?_
      refine lv_icmp_lt (tgt := 48) hx hb dJ6_numberOfLeadingZeros_0f7a4_37 (by decide) (fun c3 => ?_) (fun c3 => ?_)
      · skip
        have zc3 : p0.toInt < 256 := by rw [fa_lt, show (256 : Int32).toInt = 256 from by decide] at c3; exact c3
        refine lv_iload_n hx hb dJ6_numberOfLeadingZeros_0f7a4_48 rfl (lv_at hl 1 rfl) ?_
        refine lv_bipush (v := 16) hx hb dJ6_numberOfLeadingZeros_0f7a4_49 (by decide) ?_
        refine lv_icmp_lt (tgt := 61) hx hb dJ6_numberOfLeadingZeros_0f7a4_51 (by decide) (fun c4 => ?_) (fun c4 => ?_)
        · skip
          have zc4 : p0.toInt < 16 := by rw [fa_lt, show (16 : Int32).toInt = 16 from by decide] at c4; exact c4
          refine lv_iload_n hx hb dJ6_numberOfLeadingZeros_0f7a4_61 rfl (lv_at hl 1 rfl) ?_
          refine lv_iconst (v := 4) hx hb dJ6_numberOfLeadingZeros_0f7a4_62 (by decide) ?_
          refine lv_icmp_lt (tgt := 73) hx hb dJ6_numberOfLeadingZeros_0f7a4_63 (by decide) (fun c5 => ?_) (fun c5 => ?_)
          · skip
            have zc5 : p0.toInt < 4 := by rw [fa_lt, show (4 : Int32).toInt = 4 from by decide] at c5; exact c5
            refine lv_iload_n hx hb dJ6_numberOfLeadingZeros_0f7a4_73 rfl (lv_at hl 0 rfl) ?_
            refine lv_iload_n hx hb dJ6_numberOfLeadingZeros_0f7a4_74 rfl (lv_at hl 1 rfl) ?_
            refine lv_iconst (v := 1) hx hb dJ6_numberOfLeadingZeros_0f7a4_75 (by decide) ?_
            refine lv_iushr hx hb dJ6_numberOfLeadingZeros_0f7a4_76 rfl ?_
            refine lv_topi (fun t6 et6 => ?_)
            refine lv_isub hx hb dJ6_numberOfLeadingZeros_0f7a4_77 ?_
            refine lv_topi (fun t7 et7 => ?_)
            exact ret t7 () _ _ _ _ _ _ rfl trivial hP hD hS dJ6_numberOfLeadingZeros_0f7a4_78 (Nat.le_refl _) (Nat.le_refl _)
          · skip
            have zc5 : ¬ (p0.toInt < 4) := by rw [fa_lt, show (4 : Int32).toInt = 4 from by decide] at c5; exact c5
            refine lv_iinc (v := 29) (lv' := [(1, .int 29), (0, .int p0)]) hx hb dJ6_numberOfLeadingZeros_0f7a4_66 hl (k := 0) rfl (by decide) (by decide) rfl (fun ls hl => ?_)
            refine lv_iload_n hx hb dJ6_numberOfLeadingZeros_0f7a4_69 rfl (lv_at hl 1 rfl) ?_
            refine lv_iconst (v := 2) hx hb dJ6_numberOfLeadingZeros_0f7a4_70 (by decide) ?_
            refine lv_iushr hx hb dJ6_numberOfLeadingZeros_0f7a4_71 rfl ?_
            refine lv_topi (fun t8 et8 => ?_)
            refine lv_istore_n (lv' := [(0, .int t8), (1, .int 29)]) hx hb dJ6_numberOfLeadingZeros_0f7a4_72 rfl hl (by decide) rfl (fun ls hl => ?_)
            refine lv_iload_n hx hb dJ6_numberOfLeadingZeros_0f7a4_73 rfl (lv_at hl 1 rfl) ?_
            refine lv_iload_n hx hb dJ6_numberOfLeadingZeros_0f7a4_74 rfl (lv_at hl 0 rfl) ?_
            refine lv_iconst (v := 1) hx hb dJ6_numberOfLeadingZeros_0f7a4_75 (by decide) ?_
            refine lv_iushr hx hb dJ6_numberOfLeadingZeros_0f7a4_76 rfl ?_
            refine lv_topi (fun t9 et9 => ?_)
            refine lv_isub hx hb dJ6_numberOfLeadingZeros_0f7a4_77 ?_
            refine lv_topi (fun t10 et10 => ?_)
            exact ret t10 () _ _ _ _ _ _ rfl trivial hP hD hS dJ6_numberOfLeadingZeros_0f7a4_78 (Nat.le_refl _) (Nat.le_refl _)
        · skip
          have zc4 : ¬ (p0.toInt < 16) := by rw [fa_lt, show (16 : Int32).toInt = 16 from by decide] at c4; exact c4
          refine lv_iinc (v := 27) (lv' := [(1, .int 27), (0, .int p0)]) hx hb dJ6_numberOfLeadingZeros_0f7a4_54 hl (k := 0) rfl (by decide) (by decide) rfl (fun ls hl => ?_)
          refine lv_iload_n hx hb dJ6_numberOfLeadingZeros_0f7a4_57 rfl (lv_at hl 1 rfl) ?_
          refine lv_iconst (v := 4) hx hb dJ6_numberOfLeadingZeros_0f7a4_58 (by decide) ?_
          refine lv_iushr hx hb dJ6_numberOfLeadingZeros_0f7a4_59 rfl ?_
          refine lv_topi (fun t11 et11 => ?_)
          refine lv_istore_n (lv' := [(0, .int t11), (1, .int 27)]) hx hb dJ6_numberOfLeadingZeros_0f7a4_60 rfl hl (by decide) rfl (fun ls hl => ?_)
          refine lv_iload_n hx hb dJ6_numberOfLeadingZeros_0f7a4_61 rfl (lv_at hl 0 rfl) ?_
          refine lv_iconst (v := 4) hx hb dJ6_numberOfLeadingZeros_0f7a4_62 (by decide) ?_
          refine lv_icmp_lt (tgt := 73) hx hb dJ6_numberOfLeadingZeros_0f7a4_63 (by decide) (fun c12 => ?_) (fun c12 => ?_)
          · skip
            have zc12 : t11.toInt < 4 := by rw [fa_lt, show (4 : Int32).toInt = 4 from by decide] at c12; exact c12
            refine lv_iload_n hx hb dJ6_numberOfLeadingZeros_0f7a4_73 rfl (lv_at hl 1 rfl) ?_
            refine lv_iload_n hx hb dJ6_numberOfLeadingZeros_0f7a4_74 rfl (lv_at hl 0 rfl) ?_
            refine lv_iconst (v := 1) hx hb dJ6_numberOfLeadingZeros_0f7a4_75 (by decide) ?_
            refine lv_iushr hx hb dJ6_numberOfLeadingZeros_0f7a4_76 rfl ?_
            refine lv_topi (fun t13 et13 => ?_)
            refine lv_isub hx hb dJ6_numberOfLeadingZeros_0f7a4_77 ?_
            refine lv_topi (fun t14 et14 => ?_)
            exact ret t14 () _ _ _ _ _ _ rfl trivial hP hD hS dJ6_numberOfLeadingZeros_0f7a4_78 (Nat.le_refl _) (Nat.le_refl _)
          · skip
            have zc12 : ¬ (t11.toInt < 4) := by rw [fa_lt, show (4 : Int32).toInt = 4 from by decide] at c12; exact c12
            refine lv_iinc (v := 25) (lv' := [(1, .int 25), (0, .int t11)]) hx hb dJ6_numberOfLeadingZeros_0f7a4_66 hl (k := 1) rfl (by decide) (by decide) rfl (fun ls hl => ?_)
            refine lv_iload_n hx hb dJ6_numberOfLeadingZeros_0f7a4_69 rfl (lv_at hl 1 rfl) ?_
            refine lv_iconst (v := 2) hx hb dJ6_numberOfLeadingZeros_0f7a4_70 (by decide) ?_
            refine lv_iushr hx hb dJ6_numberOfLeadingZeros_0f7a4_71 rfl ?_
            refine lv_topi (fun t15 et15 => ?_)
            refine lv_istore_n (lv' := [(0, .int t15), (1, .int 25)]) hx hb dJ6_numberOfLeadingZeros_0f7a4_72 rfl hl (by decide) rfl (fun ls hl => ?_)
            refine lv_iload_n hx hb dJ6_numberOfLeadingZeros_0f7a4_73 rfl (lv_at hl 1 rfl) ?_
            refine lv_iload_n hx hb dJ6_numberOfLeadingZeros_0f7a4_74 rfl (lv_at hl 0 rfl) ?_
            refine lv_iconst (v := 1) hx hb dJ6_numberOfLeadingZeros_0f7a4_75 (by decide) ?_
            refine lv_iushr hx hb dJ6_numberOfLeadingZeros_0f7a4_76 rfl ?_
            refine lv_topi (fun t16 et16 => ?_)
            refine lv_isub hx hb dJ6_numberOfLeadingZeros_0f7a4_77 ?_
            refine lv_topi (fun t17 et17 => ?_)
            exact ret t17 () _ _ _ _ _ _ rfl trivial hP hD hS dJ6_numberOfLeadingZeros_0f7a4_78 (Nat.le_refl _) (Nat.le_refl _)
      · skip
        have zc3 : ¬ (p0.toInt < 256) := by rw [fa_lt, show (256 : Int32).toInt = 256 from by decide] at c3; exact c3
        refine lv_iinc (v := 23) (lv' := [(1, .int 23), (0, .int p0)]) hx hb dJ6_numberOfLeadingZeros_0f7a4_40 hl (k := 0) rfl (by decide) (by decide) rfl (fun ls hl => ?_)
        refine lv_iload_n hx hb dJ6_numberOfLeadingZeros_0f7a4_43 rfl (lv_at hl 1 rfl) ?_
        refine lv_bipush (v := 8) hx hb dJ6_numberOfLeadingZeros_0f7a4_44 (by decide) ?_
        refine lv_iushr hx hb dJ6_numberOfLeadingZeros_0f7a4_46 rfl ?_
        refine lv_topi (fun t18 et18 => ?_)
        refine lv_istore_n (lv' := [(0, .int t18), (1, .int 23)]) hx hb dJ6_numberOfLeadingZeros_0f7a4_47 rfl hl (by decide) rfl (fun ls hl => ?_)
        refine lv_iload_n hx hb dJ6_numberOfLeadingZeros_0f7a4_48 rfl (lv_at hl 0 rfl) ?_
        refine lv_bipush (v := 16) hx hb dJ6_numberOfLeadingZeros_0f7a4_49 (by decide) ?_
        refine lv_icmp_lt (tgt := 61) hx hb dJ6_numberOfLeadingZeros_0f7a4_51 (by decide) (fun c19 => ?_) (fun c19 => ?_)
        · skip
          have zc19 : t18.toInt < 16 := by rw [fa_lt, show (16 : Int32).toInt = 16 from by decide] at c19; exact c19
          refine lv_iload_n hx hb dJ6_numberOfLeadingZeros_0f7a4_61 rfl (lv_at hl 0 rfl) ?_
          refine lv_iconst (v := 4) hx hb dJ6_numberOfLeadingZeros_0f7a4_62 (by decide) ?_
          refine lv_icmp_lt (tgt := 73) hx hb dJ6_numberOfLeadingZeros_0f7a4_63 (by decide) (fun c20 => ?_) (fun c20 => ?_)
          · skip
            have zc20 : t18.toInt < 4 := by rw [fa_lt, show (4 : Int32).toInt = 4 from by decide] at c20; exact c20
            refine lv_iload_n hx hb dJ6_numberOfLeadingZeros_0f7a4_73 rfl (lv_at hl 1 rfl) ?_
            refine lv_iload_n hx hb dJ6_numberOfLeadingZeros_0f7a4_74 rfl (lv_at hl 0 rfl) ?_
            refine lv_iconst (v := 1) hx hb dJ6_numberOfLeadingZeros_0f7a4_75 (by decide) ?_
            refine lv_iushr hx hb dJ6_numberOfLeadingZeros_0f7a4_76 rfl ?_
            refine lv_topi (fun t21 et21 => ?_)
            refine lv_isub hx hb dJ6_numberOfLeadingZeros_0f7a4_77 ?_
            refine lv_topi (fun t22 et22 => ?_)
            exact ret t22 () _ _ _ _ _ _ rfl trivial hP hD hS dJ6_numberOfLeadingZeros_0f7a4_78 (Nat.le_refl _) (Nat.le_refl _)
          · skip
            have zc20 : ¬ (t18.toInt < 4) := by rw [fa_lt, show (4 : Int32).toInt = 4 from by decide] at c20; exact c20
            refine lv_iinc (v := 21) (lv' := [(1, .int 21), (0, .int t18)]) hx hb dJ6_numberOfLeadingZeros_0f7a4_66 hl (k := 1) rfl (by decide) (by decide) rfl (fun ls hl => ?_)
            refine lv_iload_n hx hb dJ6_numberOfLeadingZeros_0f7a4_69 rfl (lv_at hl 1 rfl) ?_
            refine lv_iconst (v := 2) hx hb dJ6_numberOfLeadingZeros_0f7a4_70 (by decide) ?_
            refine lv_iushr hx hb dJ6_numberOfLeadingZeros_0f7a4_71 rfl ?_
            refine lv_topi (fun t23 et23 => ?_)
            refine lv_istore_n (lv' := [(0, .int t23), (1, .int 21)]) hx hb dJ6_numberOfLeadingZeros_0f7a4_72 rfl hl (by decide) rfl (fun ls hl => ?_)
            refine lv_iload_n hx hb dJ6_numberOfLeadingZeros_0f7a4_73 rfl (lv_at hl 1 rfl) ?_
            refine lv_iload_n hx hb dJ6_numberOfLeadingZeros_0f7a4_74 rfl (lv_at hl 0 rfl) ?_
            refine lv_iconst (v := 1) hx hb dJ6_numberOfLeadingZeros_0f7a4_75 (by decide) ?_
            refine lv_iushr hx hb dJ6_numberOfLeadingZeros_0f7a4_76 rfl ?_
            refine lv_topi (fun t24 et24 => ?_)
            refine lv_isub hx hb dJ6_numberOfLeadingZeros_0f7a4_77 ?_
            refine lv_topi (fun t25 et25 => ?_)
            exact ret t25 () _ _ _ _ _ _ rfl trivial hP hD hS dJ6_numberOfLeadingZeros_0f7a4_78 (Nat.le_refl _) (Nat.le_refl _)
        · skip
          have zc19 : ¬ (t18.toInt < 16) := by rw [fa_lt, show (16 : Int32).toInt = 16 from by decide] at c19; exact c19
          refine lv_iinc (v := 19) (lv' := [(1, .int 19), (0, .int t18)]) hx hb dJ6_numberOfLeadingZeros_0f7a4_54 hl (k := 1) rfl (by decide) (by decide) rfl (fun ls hl => ?_)
          refine lv_iload_n hx hb dJ6_numberOfLeadingZeros_0f7a4_57 rfl (lv_at hl 1 rfl) ?_
          refine lv_iconst (v := 4) hx hb dJ6_numberOfLeadingZeros_0f7a4_58 (by decide) ?_
          refine lv_iushr hx hb dJ6_numberOfLeadingZeros_0f7a4_59 rfl ?_
          refine lv_topi (fun t26 et26 => ?_)
          refine lv_istore_n (lv' := [(0, .int t26), (1, .int 19)]) hx hb dJ6_numberOfLeadingZeros_0f7a4_60 rfl hl (by decide) rfl (fun ls hl => ?_)
          refine lv_iload_n hx hb dJ6_numberOfLeadingZeros_0f7a4_61 rfl (lv_at hl 0 rfl) ?_
          refine lv_iconst (v := 4) hx hb dJ6_numberOfLeadingZeros_0f7a4_62 (by decide) ?_
          refine lv_icmp_lt (tgt := 73) hx hb dJ6_numberOfLeadingZeros_0f7a4_63 (by decide) (fun c27 => ?_) (fun c27 => ?_)
          · skip
            have zc27 : t26.toInt < 4 := by rw [fa_lt, show (4 : Int32).toInt = 4 from by decide] at c27; exact c27
            refine lv_iload_n hx hb dJ6_numberOfLeadingZeros_0f7a4_73 rfl (lv_at hl 1 rfl) ?_
            refine lv_iload_n hx hb dJ6_numberOfLeadingZeros_0f7a4_74 rfl (lv_at hl 0 rfl) ?_
            refine lv_iconst (v := 1) hx hb dJ6_numberOfLeadingZeros_0f7a4_75 (by decide) ?_
            refine lv_iushr hx hb dJ6_numberOfLeadingZeros_0f7a4_76 rfl ?_
            refine lv_topi (fun t28 et28 => ?_)
            refine lv_isub hx hb dJ6_numberOfLeadingZeros_0f7a4_77 ?_
            refine lv_topi (fun t29 et29 => ?_)
            exact ret t29 () _ _ _ _ _ _ rfl trivial hP hD hS dJ6_numberOfLeadingZeros_0f7a4_78 (Nat.le_refl _) (Nat.le_refl _)
          · skip
            have zc27 : ¬ (t26.toInt < 4) := by rw [fa_lt, show (4 : Int32).toInt = 4 from by decide] at c27; exact c27
            refine lv_iinc (v := 17) (lv' := [(1, .int 17), (0, .int t26)]) hx hb dJ6_numberOfLeadingZeros_0f7a4_66 hl (k := 1) rfl (by decide) (by decide) rfl (fun ls hl => ?_)
            refine lv_iload_n hx hb dJ6_numberOfLeadingZeros_0f7a4_69 rfl (lv_at hl 1 rfl) ?_
            refine lv_iconst (v := 2) hx hb dJ6_numberOfLeadingZeros_0f7a4_70 (by decide) ?_
            refine lv_iushr hx hb dJ6_numberOfLeadingZeros_0f7a4_71 rfl ?_
            refine lv_topi (fun t30 et30 => ?_)
            refine lv_istore_n (lv' := [(0, .int t30), (1, .int 17)]) hx hb dJ6_numberOfLeadingZeros_0f7a4_72 rfl hl (by decide) rfl (fun ls hl => ?_)
            refine lv_iload_n hx hb dJ6_numberOfLeadingZeros_0f7a4_73 rfl (lv_at hl 1 rfl) ?_
            refine lv_iload_n hx hb dJ6_numberOfLeadingZeros_0f7a4_74 rfl (lv_at hl 0 rfl) ?_
            refine lv_iconst (v := 1) hx hb dJ6_numberOfLeadingZeros_0f7a4_75 (by decide) ?_
            refine lv_iushr hx hb dJ6_numberOfLeadingZeros_0f7a4_76 rfl ?_
            refine lv_topi (fun t31 et31 => ?_)
            refine lv_isub hx hb dJ6_numberOfLeadingZeros_0f7a4_77 ?_
            refine lv_topi (fun t32 et32 => ?_)
            exact ret t32 () _ _ _ _ _ _ rfl trivial hP hD hS dJ6_numberOfLeadingZeros_0f7a4_78 (Nat.le_refl _) (Nat.le_refl _)
    · skip
      have zc2 : ¬ (p0.toInt < 65536) := by rw [fa_lt, show (65536 : Int32).toInt = 65536 from by decide] at c2; exact c2
      refine lv_iinc (v := 15) (lv' := [(1, .int 15), (0, .int p0)]) hx hb dJ6_numberOfLeadingZeros_0f7a4_25 hl (k := 0) rfl (by decide) (by decide) rfl (fun ls hl => ?_)
      refine lv_iload_n hx hb dJ6_numberOfLeadingZeros_0f7a4_28 rfl (lv_at hl 1 rfl) ?_
      refine lv_bipush (v := 16) hx hb dJ6_numberOfLeadingZeros_0f7a4_29 (by decide) ?_
      refine lv_iushr hx hb dJ6_numberOfLeadingZeros_0f7a4_31 rfl ?_
      refine lv_topi (fun t33 et33 => ?_)
      refine lv_istore_n (lv' := [(0, .int t33), (1, .int 15)]) hx hb dJ6_numberOfLeadingZeros_0f7a4_32 rfl hl (by decide) rfl (fun ls hl => ?_)
      refine lv_iload_n hx hb dJ6_numberOfLeadingZeros_0f7a4_33 rfl (lv_at hl 0 rfl) ?_
      refine lv_sipush (v := 256) hx hb dJ6_numberOfLeadingZeros_0f7a4_34 (by decide) ?_
      refine lv_icmp_lt (tgt := 48) hx hb dJ6_numberOfLeadingZeros_0f7a4_37 (by decide) (fun c34 => ?_) (fun c34 => ?_)
      · skip
        have zc34 : t33.toInt < 256 := by rw [fa_lt, show (256 : Int32).toInt = 256 from by decide] at c34; exact c34
        refine lv_iload_n hx hb dJ6_numberOfLeadingZeros_0f7a4_48 rfl (lv_at hl 0 rfl) ?_
        refine lv_bipush (v := 16) hx hb dJ6_numberOfLeadingZeros_0f7a4_49 (by decide) ?_
        refine lv_icmp_lt (tgt := 61) hx hb dJ6_numberOfLeadingZeros_0f7a4_51 (by decide) (fun c35 => ?_) (fun c35 => ?_)
        · skip
          have zc35 : t33.toInt < 16 := by rw [fa_lt, show (16 : Int32).toInt = 16 from by decide] at c35; exact c35
          refine lv_iload_n hx hb dJ6_numberOfLeadingZeros_0f7a4_61 rfl (lv_at hl 0 rfl) ?_
          refine lv_iconst (v := 4) hx hb dJ6_numberOfLeadingZeros_0f7a4_62 (by decide) ?_
          refine lv_icmp_lt (tgt := 73) hx hb dJ6_numberOfLeadingZeros_0f7a4_63 (by decide) (fun c36 => ?_) (fun c36 => ?_)
          · skip
            have zc36 : t33.toInt < 4 := by rw [fa_lt, show (4 : Int32).toInt = 4 from by decide] at c36; exact c36
            refine lv_iload_n hx hb dJ6_numberOfLeadingZeros_0f7a4_73 rfl (lv_at hl 1 rfl) ?_
            refine lv_iload_n hx hb dJ6_numberOfLeadingZeros_0f7a4_74 rfl (lv_at hl 0 rfl) ?_
            refine lv_iconst (v := 1) hx hb dJ6_numberOfLeadingZeros_0f7a4_75 (by decide) ?_
            refine lv_iushr hx hb dJ6_numberOfLeadingZeros_0f7a4_76 rfl ?_
            refine lv_topi (fun t37 et37 => ?_)
            refine lv_isub hx hb dJ6_numberOfLeadingZeros_0f7a4_77 ?_
            refine lv_topi (fun t38 et38 => ?_)
            exact ret t38 () _ _ _ _ _ _ rfl trivial hP hD hS dJ6_numberOfLeadingZeros_0f7a4_78 (Nat.le_refl _) (Nat.le_refl _)
          · skip
            have zc36 : ¬ (t33.toInt < 4) := by rw [fa_lt, show (4 : Int32).toInt = 4 from by decide] at c36; exact c36
            refine lv_iinc (v := 13) (lv' := [(1, .int 13), (0, .int t33)]) hx hb dJ6_numberOfLeadingZeros_0f7a4_66 hl (k := 1) rfl (by decide) (by decide) rfl (fun ls hl => ?_)
            refine lv_iload_n hx hb dJ6_numberOfLeadingZeros_0f7a4_69 rfl (lv_at hl 1 rfl) ?_
            refine lv_iconst (v := 2) hx hb dJ6_numberOfLeadingZeros_0f7a4_70 (by decide) ?_
            refine lv_iushr hx hb dJ6_numberOfLeadingZeros_0f7a4_71 rfl ?_
            refine lv_topi (fun t39 et39 => ?_)
            refine lv_istore_n (lv' := [(0, .int t39), (1, .int 13)]) hx hb dJ6_numberOfLeadingZeros_0f7a4_72 rfl hl (by decide) rfl (fun ls hl => ?_)
            refine lv_iload_n hx hb dJ6_numberOfLeadingZeros_0f7a4_73 rfl (lv_at hl 1 rfl) ?_
            refine lv_iload_n hx hb dJ6_numberOfLeadingZeros_0f7a4_74 rfl (lv_at hl 0 rfl) ?_
            refine lv_iconst (v := 1) hx hb dJ6_numberOfLeadingZeros_0f7a4_75 (by decide) ?_
            refine lv_iushr hx hb dJ6_numberOfLeadingZeros_0f7a4_76 rfl ?_
            refine lv_topi (fun t40 et40 => ?_)
            refine lv_isub hx hb dJ6_numberOfLeadingZeros_0f7a4_77 ?_
            refine lv_topi (fun t41 et41 => ?_)
            exact ret t41 () _ _ _ _ _ _ rfl trivial hP hD hS dJ6_numberOfLeadingZeros_0f7a4_78 (Nat.le_refl _) (Nat.le_refl _)
        · skip
          have zc35 : ¬ (t33.toInt < 16) := by rw [fa_lt, show (16 : Int32).toInt = 16 from by decide] at c35; exact c35
          refine lv_iinc (v := 11) (lv' := [(1, .int 11), (0, .int t33)]) hx hb dJ6_numberOfLeadingZeros_0f7a4_54 hl (k := 1) rfl (by decide) (by decide) rfl (fun ls hl => ?_)
          refine lv_iload_n hx hb dJ6_numberOfLeadingZeros_0f7a4_57 rfl (lv_at hl 1 rfl) ?_
          refine lv_iconst (v := 4) hx hb dJ6_numberOfLeadingZeros_0f7a4_58 (by decide) ?_
          refine lv_iushr hx hb dJ6_numberOfLeadingZeros_0f7a4_59 rfl ?_
          refine lv_topi (fun t42 et42 => ?_)
          refine lv_istore_n (lv' := [(0, .int t42), (1, .int 11)]) hx hb dJ6_numberOfLeadingZeros_0f7a4_60 rfl hl (by decide) rfl (fun ls hl => ?_)
          refine lv_iload_n hx hb dJ6_numberOfLeadingZeros_0f7a4_61 rfl (lv_at hl 0 rfl) ?_
          refine lv_iconst (v := 4) hx hb dJ6_numberOfLeadingZeros_0f7a4_62 (by decide) ?_
          refine lv_icmp_lt (tgt := 73) hx hb dJ6_numberOfLeadingZeros_0f7a4_63 (by decide) (fun c43 => ?_) (fun c43 => ?_)
          · skip
            have zc43 : t42.toInt < 4 := by rw [fa_lt, show (4 : Int32).toInt = 4 from by decide] at c43; exact c43
            refine lv_iload_n hx hb dJ6_numberOfLeadingZeros_0f7a4_73 rfl (lv_at hl 1 rfl) ?_
            refine lv_iload_n hx hb dJ6_numberOfLeadingZeros_0f7a4_74 rfl (lv_at hl 0 rfl) ?_
            refine lv_iconst (v := 1) hx hb dJ6_numberOfLeadingZeros_0f7a4_75 (by decide) ?_
            refine lv_iushr hx hb dJ6_numberOfLeadingZeros_0f7a4_76 rfl ?_
            refine lv_topi (fun t44 et44 => ?_)
            refine lv_isub hx hb dJ6_numberOfLeadingZeros_0f7a4_77 ?_
            refine lv_topi (fun t45 et45 => ?_)
            exact ret t45 () _ _ _ _ _ _ rfl trivial hP hD hS dJ6_numberOfLeadingZeros_0f7a4_78 (Nat.le_refl _) (Nat.le_refl _)
          · skip
            have zc43 : ¬ (t42.toInt < 4) := by rw [fa_lt, show (4 : Int32).toInt = 4 from by decide] at c43; exact c43
            refine lv_iinc (v := 9) (lv' := [(1, .int 9), (0, .int t42)]) hx hb dJ6_numberOfLeadingZeros_0f7a4_66 hl (k := 1) rfl (by decide) (by decide) rfl (fun ls hl => ?_)
            refine lv_iload_n hx hb dJ6_numberOfLeadingZeros_0f7a4_69 rfl (lv_at hl 1 rfl) ?_
            refine lv_iconst (v := 2) hx hb dJ6_numberOfLeadingZeros_0f7a4_70 (by decide) ?_
            refine lv_iushr hx hb dJ6_numberOfLeadingZeros_0f7a4_71 rfl ?_
            refine lv_topi (fun t46 et46 => ?_)
            refine lv_istore_n (lv' := [(0, .int t46), (1, .int 9)]) hx hb dJ6_numberOfLeadingZeros_0f7a4_72 rfl hl (by decide) rfl (fun ls hl => ?_)
            refine lv_iload_n hx hb dJ6_numberOfLeadingZeros_0f7a4_73 rfl (lv_at hl 1 rfl) ?_
            refine lv_iload_n hx hb dJ6_numberOfLeadingZeros_0f7a4_74 rfl (lv_at hl 0 rfl) ?_
            refine lv_iconst (v := 1) hx hb dJ6_numberOfLeadingZeros_0f7a4_75 (by decide) ?_
            refine lv_iushr hx hb dJ6_numberOfLeadingZeros_0f7a4_76 rfl ?_
            refine lv_topi (fun t47 et47 => ?_)
            refine lv_isub hx hb dJ6_numberOfLeadingZeros_0f7a4_77 ?_
            refine lv_topi (fun t48 et48 => ?_)
            exact ret t48 () _ _ _ _ _ _ rfl trivial hP hD hS dJ6_numberOfLeadingZeros_0f7a4_78 (Nat.le_refl _) (Nat.le_refl _)
      · skip
        have zc34 : ¬ (t33.toInt < 256) := by rw [fa_lt, show (256 : Int32).toInt = 256 from by decide] at c34; exact c34
        refine lv_iinc (v := 7) (lv' := [(1, .int 7), (0, .int t33)]) hx hb dJ6_numberOfLeadingZeros_0f7a4_40 hl (k := 1) rfl (by decide) (by decide) rfl (fun ls hl => ?_)
        refine lv_iload_n hx hb dJ6_numberOfLeadingZeros_0f7a4_43 rfl (lv_at hl 1 rfl) ?_
        refine lv_bipush (v := 8) hx hb dJ6_numberOfLeadingZeros_0f7a4_44 (by decide) ?_
        refine lv_iushr hx hb dJ6_numberOfLeadingZeros_0f7a4_46 rfl ?_
        refine lv_topi (fun t49 et49 => ?_)
        refine lv_istore_n (lv' := [(0, .int t49), (1, .int 7)]) hx hb dJ6_numberOfLeadingZeros_0f7a4_47 rfl hl (by decide) rfl (fun ls hl => ?_)
        refine lv_iload_n hx hb dJ6_numberOfLeadingZeros_0f7a4_48 rfl (lv_at hl 0 rfl) ?_
        refine lv_bipush (v := 16) hx hb dJ6_numberOfLeadingZeros_0f7a4_49 (by decide) ?_
        refine lv_icmp_lt (tgt := 61) hx hb dJ6_numberOfLeadingZeros_0f7a4_51 (by decide) (fun c50 => ?_) (fun c50 => ?_)
        · skip
          have zc50 : t49.toInt < 16 := by rw [fa_lt, show (16 : Int32).toInt = 16 from by decide] at c50; exact c50
          refine lv_iload_n hx hb dJ6_numberOfLeadingZeros_0f7a4_61 rfl (lv_at hl 0 rfl) ?_
          refine lv_iconst (v := 4) hx hb dJ6_numberOfLeadingZeros_0f7a4_62 (by decide) ?_
          refine lv_icmp_lt (tgt := 73) hx hb dJ6_numberOfLeadingZeros_0f7a4_63 (by decide) (fun c51 => ?_) (fun c51 => ?_)
          · skip
            have zc51 : t49.toInt < 4 := by rw [fa_lt, show (4 : Int32).toInt = 4 from by decide] at c51; exact c51
            refine lv_iload_n hx hb dJ6_numberOfLeadingZeros_0f7a4_73 rfl (lv_at hl 1 rfl) ?_
            refine lv_iload_n hx hb dJ6_numberOfLeadingZeros_0f7a4_74 rfl (lv_at hl 0 rfl) ?_
            refine lv_iconst (v := 1) hx hb dJ6_numberOfLeadingZeros_0f7a4_75 (by decide) ?_
            refine lv_iushr hx hb dJ6_numberOfLeadingZeros_0f7a4_76 rfl ?_
            refine lv_topi (fun t52 et52 => ?_)
            refine lv_isub hx hb dJ6_numberOfLeadingZeros_0f7a4_77 ?_
            refine lv_topi (fun t53 et53 => ?_)
            exact ret t53 () _ _ _ _ _ _ rfl trivial hP hD hS dJ6_numberOfLeadingZeros_0f7a4_78 (Nat.le_refl _) (Nat.le_refl _)
          · skip
            have zc51 : ¬ (t49.toInt < 4) := by rw [fa_lt, show (4 : Int32).toInt = 4 from by decide] at c51; exact c51
            refine lv_iinc (v := 5) (lv' := [(1, .int 5), (0, .int t49)]) hx hb dJ6_numberOfLeadingZeros_0f7a4_66 hl (k := 1) rfl (by decide) (by decide) rfl (fun ls hl => ?_)
            refine lv_iload_n hx hb dJ6_numberOfLeadingZeros_0f7a4_69 rfl (lv_at hl 1 rfl) ?_
            refine lv_iconst (v := 2) hx hb dJ6_numberOfLeadingZeros_0f7a4_70 (by decide) ?_
            refine lv_iushr hx hb dJ6_numberOfLeadingZeros_0f7a4_71 rfl ?_
            refine lv_topi (fun t54 et54 => ?_)
            refine lv_istore_n (lv' := [(0, .int t54), (1, .int 5)]) hx hb dJ6_numberOfLeadingZeros_0f7a4_72 rfl hl (by decide) rfl (fun ls hl => ?_)
            refine lv_iload_n hx hb dJ6_numberOfLeadingZeros_0f7a4_73 rfl (lv_at hl 1 rfl) ?_
            refine lv_iload_n hx hb dJ6_numberOfLeadingZeros_0f7a4_74 rfl (lv_at hl 0 rfl) ?_
            refine lv_iconst (v := 1) hx hb dJ6_numberOfLeadingZeros_0f7a4_75 (by decide) ?_
            refine lv_iushr hx hb dJ6_numberOfLeadingZeros_0f7a4_76 rfl ?_
            refine lv_topi (fun t55 et55 => ?_)
            refine lv_isub hx hb dJ6_numberOfLeadingZeros_0f7a4_77 ?_
            refine lv_topi (fun t56 et56 => ?_)
            exact ret t56 () _ _ _ _ _ _ rfl trivial hP hD hS dJ6_numberOfLeadingZeros_0f7a4_78 (Nat.le_refl _) (Nat.le_refl _)
        · skip
          have zc50 : ¬ (t49.toInt < 16) := by rw [fa_lt, show (16 : Int32).toInt = 16 from by decide] at c50; exact c50
          refine lv_iinc (v := 3) (lv' := [(1, .int 3), (0, .int t49)]) hx hb dJ6_numberOfLeadingZeros_0f7a4_54 hl (k := 1) rfl (by decide) (by decide) rfl (fun ls hl => ?_)
          refine lv_iload_n hx hb dJ6_numberOfLeadingZeros_0f7a4_57 rfl (lv_at hl 1 rfl) ?_
          refine lv_iconst (v := 4) hx hb dJ6_numberOfLeadingZeros_0f7a4_58 (by decide) ?_
          refine lv_iushr hx hb dJ6_numberOfLeadingZeros_0f7a4_59 rfl ?_
          refine lv_topi (fun t57 et57 => ?_)
          refine lv_istore_n (lv' := [(0, .int t57), (1, .int 3)]) hx hb dJ6_numberOfLeadingZeros_0f7a4_60 rfl hl (by decide) rfl (fun ls hl => ?_)
          refine lv_iload_n hx hb dJ6_numberOfLeadingZeros_0f7a4_61 rfl (lv_at hl 0 rfl) ?_
          refine lv_iconst (v := 4) hx hb dJ6_numberOfLeadingZeros_0f7a4_62 (by decide) ?_
          refine lv_icmp_lt (tgt := 73) hx hb dJ6_numberOfLeadingZeros_0f7a4_63 (by decide) (fun c58 => ?_) (fun c58 => ?_)
          · skip
            have zc58 : t57.toInt < 4 := by rw [fa_lt, show (4 : Int32).toInt = 4 from by decide] at c58; exact c58
            refine lv_iload_n hx hb dJ6_numberOfLeadingZeros_0f7a4_73 rfl (lv_at hl 1 rfl) ?_
            refine lv_iload_n hx hb dJ6_numberOfLeadingZeros_0f7a4_74 rfl (lv_at hl 0 rfl) ?_
            refine lv_iconst (v := 1) hx hb dJ6_numberOfLeadingZeros_0f7a4_75 (by decide) ?_
            refine lv_iushr hx hb dJ6_numberOfLeadingZeros_0f7a4_76 rfl ?_
            refine lv_topi (fun t59 et59 => ?_)
            refine lv_isub hx hb dJ6_numberOfLeadingZeros_0f7a4_77 ?_
            refine lv_topi (fun t60 et60 => ?_)
            exact ret t60 () _ _ _ _ _ _ rfl trivial hP hD hS dJ6_numberOfLeadingZeros_0f7a4_78 (Nat.le_refl _) (Nat.le_refl _)
          · skip
            have zc58 : ¬ (t57.toInt < 4) := by rw [fa_lt, show (4 : Int32).toInt = 4 from by decide] at c58; exact c58
            refine lv_iinc (v := 1) (lv' := [(1, .int 1), (0, .int t57)]) hx hb dJ6_numberOfLeadingZeros_0f7a4_66 hl (k := 1) rfl (by decide) (by decide) rfl (fun ls hl => ?_)
            refine lv_iload_n hx hb dJ6_numberOfLeadingZeros_0f7a4_69 rfl (lv_at hl 1 rfl) ?_
            refine lv_iconst (v := 2) hx hb dJ6_numberOfLeadingZeros_0f7a4_70 (by decide) ?_
            refine lv_iushr hx hb dJ6_numberOfLeadingZeros_0f7a4_71 rfl ?_
            refine lv_topi (fun t61 et61 => ?_)
            refine lv_istore_n (lv' := [(0, .int t61), (1, .int 1)]) hx hb dJ6_numberOfLeadingZeros_0f7a4_72 rfl hl (by decide) rfl (fun ls hl => ?_)
            refine lv_iload_n hx hb dJ6_numberOfLeadingZeros_0f7a4_73 rfl (lv_at hl 1 rfl) ?_
            refine lv_iload_n hx hb dJ6_numberOfLeadingZeros_0f7a4_74 rfl (lv_at hl 0 rfl) ?_
            refine lv_iconst (v := 1) hx hb dJ6_numberOfLeadingZeros_0f7a4_75 (by decide) ?_
            refine lv_iushr hx hb dJ6_numberOfLeadingZeros_0f7a4_76 rfl ?_
            refine lv_topi (fun t62 et62 => ?_)
            refine lv_isub hx hb dJ6_numberOfLeadingZeros_0f7a4_77 ?_
            refine lv_topi (fun t63 et63 => ?_)
            exact ret t63 () _ _ _ _ _ _ rfl trivial hP hD hS dJ6_numberOfLeadingZeros_0f7a4_78 (Nat.le_refl _) (Nat.le_refl _)
  · skip
    have zc1 : ¬ (0 < p0.toInt) := by rw [fa_lt, show (0 : Int32).toInt = 0 from by decide] at c1; exact c1
    refine lv_iload_n hx hb dJ6_numberOfLeadingZeros_0f7a4_4 rfl (lv_at hl 0 rfl) ?_
    refine lv_if_ne (tgt := 13) hx hb dJ6_numberOfLeadingZeros_0f7a4_5 (by decide) (fun c64 => ?_) (fun c64 => ?_)
    · skip
      have zc64 : ¬ (p0.toInt = 0) := by rw [fa_eq, show (0 : Int32).toInt = 0 from by decide] at c64; exact c64
      refine lv_iconst (v := 0) hx hb dJ6_numberOfLeadingZeros_0f7a4_13 (by decide) ?_
      exact ret 0 () _ _ _ _ _ _ rfl trivial hP hD hS dJ6_numberOfLeadingZeros_0f7a4_14 (Nat.le_refl _) (Nat.le_refl _)
    · skip
      have zc64 : p0.toInt = 0 := by rw [fa_eq, show (0 : Int32).toInt = 0 from by decide] at c64; exact c64
      refine lv_bipush (v := 32) hx hb dJ6_numberOfLeadingZeros_0f7a4_8 (by decide) ?_
      refine lv_goto (tgt := 14) hx hb dJ6_numberOfLeadingZeros_0f7a4_10 (by decide) ?_
      exact ret 32 () _ _ _ _ _ _ rfl trivial hP hD hS dJ6_numberOfLeadingZeros_0f7a4_14 (Nat.le_refl _) (Nat.le_refl _)
set_option maxHeartbeats 4000000 in
set_option maxRecDepth 100000 in
theorem sX_J6_numberOfTrailingZeros_0f7a4_1 (l : Launch) (dC : Nat → ClassId) (dI : Nat → Nat → Nat) (cy : Nat → ClassId) (x0 : Nat) (x : Nat → Nat) (p0 : Int32) (v : Nat → Int32) (f : Nat → Nat → Int32) (hIv : XI v)  : ctI l (dC, dI) cy yJ6_numberOfTrailingZeros_0f7a4 cJ6_numberOfTrailingZeros_0f7a4 2 .int 1 60 0 0 Unit [.int p0] (XW cy x0 x v f) (fun r u => True) (fun u => XW cy x0 x v f) := by
  refine ctI_of (by decide) (Nat.le_of_ble_eq_true rfl) (fun p e s m below meth c A ls Q hx hb hml hts hown hE hP hD hA hl ret => ?_)
  have hown : s.vm.findClass RJ6 = some m.cls := hown
  have hS : va_S A s.heap s.heap [] := va_S.rf
  have hl : lv_has ls 2 [(0, .int p0)] := hl
  refine lv_iload_n hx hb dJ6_numberOfTrailingZeros_0f7a4_0 rfl (lv_at hl 0 rfl) ?_
  refine lv_iconst (v := (-1)) hx hb dJ6_numberOfTrailingZeros_0f7a4_1 (by decide) ?_
  refine lv_ixor hx hb dJ6_numberOfTrailingZeros_0f7a4_2 ?_
  refine lv_topi (fun t1 et1 => ?_)
  refine lv_iload_n hx hb dJ6_numberOfTrailingZeros_0f7a4_3 rfl (lv_at hl 0 rfl) ?_
  refine lv_iconst (v := 1) hx hb dJ6_numberOfTrailingZeros_0f7a4_4 (by decide) ?_
  refine lv_isub hx hb dJ6_numberOfTrailingZeros_0f7a4_5 ?_
  refine lv_topi (fun t2 et2 => ?_)
  refine lv_iand hx hb dJ6_numberOfTrailingZeros_0f7a4_6 ?_
  refine lv_topi (fun t3 et3 => ?_)
  refine lv_istore_n (lv' := [(0, .int t3)]) hx hb dJ6_numberOfTrailingZeros_0f7a4_7 rfl hl (by decide) rfl (fun ls hl => ?_)
  refine lv_iload_n hx hb dJ6_numberOfTrailingZeros_0f7a4_8 rfl (lv_at hl 0 rfl) ?_
  refine lv_if_gt (tgt := 17) hx hb dJ6_numberOfTrailingZeros_0f7a4_9 (by decide) (fun c4 => ?_) (fun c4 => ?_)
  · skip
    have zc4 : 0 < t3.toInt := by rw [fa_lt, show (0 : Int32).toInt = 0 from by decide] at c4; exact c4
    refine lv_iconst (v := 1) hx hb dJ6_numberOfTrailingZeros_0f7a4_17 (by decide) ?_
    refine lv_istore_n (lv' := [(1, .int 1), (0, .int t3)]) hx hb dJ6_numberOfTrailingZeros_0f7a4_18 rfl hl (by decide) rfl (fun ls hl => ?_)
    refine lv_iload_n hx hb dJ6_numberOfTrailingZeros_0f7a4_19 rfl (lv_at hl 1 rfl) ?_
    refine lv_ldcw (v := 65536) hx hb hown (hts _ k_1271) dJ6_numberOfTrailingZeros_0f7a4_20 ?_
    refine lv_icmp_le (tgt := 34) hx hb dJ6_numberOfTrailingZeros_0f7a4_23 (by decide) (fun c5 => ?_) (fun c5 => ?_)
    · skip
      have zc5 : t3.toInt ≤ 65536 := by rw [fa_le, show (65536 : Int32).toInt = 65536 from by decide] at c5; exact c5
      refine lv_iload_n hx hb dJ6_numberOfTrailingZeros_0f7a4_34 rfl (lv_at hl 1 rfl) ?_
      refine lv_sipush (v := 256) hx hb dJ6_numberOfTrailingZeros_0f7a4_35 (by decide) ?_
      refine lv_icmp_le (tgt := 49) hx hb dJ6_numberOfTrailingZeros_0f7a4_38 (by decide) (fun c6 => ?_) (fun c6 => ?_)
      · skip
        have zc6 : t3.toInt ≤ 256 := by rw [fa_le, show (256 : Int32).toInt = 256 from by decide] at c6; exact c6
        refine lv_iload_n hx hb dJ6_numberOfTrailingZeros_0f7a4_49 rfl (lv_at hl 1 rfl) ?_
        refine lv_bipush (v := 16) hx hb dJ6_numberOfTrailingZeros_0f7a4_50 (by decide) ?_
        refine lv_icmp_le (tgt := 62) hx hb dJ6_numberOfTrailingZeros_0f7a4_52 (by decide) (fun c7 => ?_) (fun c7 => ?_)
        · skip
          have zc7 : t3.toInt ≤ 16 := by rw [fa_le, show (16 : Int32).toInt = 16 from by decide] at c7; exact c7
          refine lv_iload_n hx hb dJ6_numberOfTrailingZeros_0f7a4_62 rfl (lv_at hl 1 rfl) ?_
          refine lv_iconst (v := 4) hx hb dJ6_numberOfTrailingZeros_0f7a4_63 (by decide) ?_
          refine lv_icmp_le (tgt := 74) hx hb dJ6_numberOfTrailingZeros_0f7a4_64 (by decide) (fun c8 => ?_) (fun c8 => ?_)
          · skip
            have zc8 : t3.toInt ≤ 4 := by rw [fa_le, show (4 : Int32).toInt = 4 from by decide] at c8; exact c8
            refine lv_iload_n hx hb dJ6_numberOfTrailingZeros_0f7a4_74 rfl (lv_at hl 0 rfl) ?_
            refine lv_iload_n hx hb dJ6_numberOfTrailingZeros_0f7a4_75 rfl (lv_at hl 1 rfl) ?_
            refine lv_iconst (v := 1) hx hb dJ6_numberOfTrailingZeros_0f7a4_76 (by decide) ?_
            refine lv_iushr hx hb dJ6_numberOfTrailingZeros_0f7a4_77 rfl ?_
            refine lv_topi (fun t9 et9 => ?_)
            refine lv_iadd hx hb dJ6_numberOfTrailingZeros_0f7a4_78 ?_
            refine lv_topi (fun t10 et10 => ?_)
            exact ret t10 () _ _ _ _ _ _ rfl trivial hP hD hS dJ6_numberOfTrailingZeros_0f7a4_79 (Nat.le_refl _) (Nat.le_refl _)
          · skip
            have zc8 : ¬ (t3.toInt ≤ 4) := by rw [fa_le, show (4 : Int32).toInt = 4 from by decide] at c8; exact c8
            refine lv_iinc (v := 3) (lv' := [(1, .int 3), (0, .int t3)]) hx hb dJ6_numberOfTrailingZeros_0f7a4_67 hl (k := 0) rfl (by decide) (by decide) rfl (fun ls hl => ?_)
            refine lv_iload_n hx hb dJ6_numberOfTrailingZeros_0f7a4_70 rfl (lv_at hl 1 rfl) ?_
            refine lv_iconst (v := 2) hx hb dJ6_numberOfTrailingZeros_0f7a4_71 (by decide) ?_
            refine lv_iushr hx hb dJ6_numberOfTrailingZeros_0f7a4_72 rfl ?_
            refine lv_topi (fun t11 et11 => ?_)
            refine lv_istore_n (lv' := [(0, .int t11), (1, .int 3)]) hx hb dJ6_numberOfTrailingZeros_0f7a4_73 rfl hl (by decide) rfl (fun ls hl => ?_)
            refine lv_iload_n hx hb dJ6_numberOfTrailingZeros_0f7a4_74 rfl (lv_at hl 1 rfl) ?_
            refine lv_iload_n hx hb dJ6_numberOfTrailingZeros_0f7a4_75 rfl (lv_at hl 0 rfl) ?_
            refine lv_iconst (v := 1) hx hb dJ6_numberOfTrailingZeros_0f7a4_76 (by decide) ?_
            refine lv_iushr hx hb dJ6_numberOfTrailingZeros_0f7a4_77 rfl ?_
            refine lv_topi (fun t12 et12 => ?_)
            refine lv_iadd hx hb dJ6_numberOfTrailingZeros_0f7a4_78 ?_
            refine lv_topi (fun t13 et13 => ?_)
            exact ret t13 () _ _ _ _ _ _ rfl trivial hP hD hS dJ6_numberOfTrailingZeros_0f7a4_79 (Nat.le_refl _) (Nat.le_refl _)
        · skip
          have zc7 : ¬ (t3.toInt ≤ 16) := by rw [fa_le, show (16 : Int32).toInt = 16 from by decide] at c7; exact c7
          refine lv_iinc (v := 5) (lv' := [(1, .int 5), (0, .int t3)]) hx hb dJ6_numberOfTrailingZeros_0f7a4_55 hl (k := 0) rfl (by decide) (by decide) rfl (fun ls hl => ?_)
          refine lv_iload_n hx hb dJ6_numberOfTrailingZeros_0f7a4_58 rfl (lv_at hl 1 rfl) ?_
          refine lv_iconst (v := 4) hx hb dJ6_numberOfTrailingZeros_0f7a4_59 (by decide) ?_
          refine lv_iushr hx hb dJ6_numberOfTrailingZeros_0f7a4_60 rfl ?_
          refine lv_topi (fun t14 et14 => ?_)
          refine lv_istore_n (lv' := [(0, .int t14), (1, .int 5)]) hx hb dJ6_numberOfTrailingZeros_0f7a4_61 rfl hl (by decide) rfl (fun ls hl => ?_)
          refine lv_iload_n hx hb dJ6_numberOfTrailingZeros_0f7a4_62 rfl (lv_at hl 0 rfl) ?_
          refine lv_iconst (v := 4) hx hb dJ6_numberOfTrailingZeros_0f7a4_63 (by decide) ?_
          refine lv_icmp_le (tgt := 74) hx hb dJ6_numberOfTrailingZeros_0f7a4_64 (by decide) (fun c15 => ?_) (fun c15 => ?_)
          · skip
            have zc15 : t14.toInt ≤ 4 := by rw [fa_le, show (4 : Int32).toInt = 4 from by decide] at c15; exact c15
            refine lv_iload_n hx hb dJ6_numberOfTrailingZeros_0f7a4_74 rfl (lv_at hl 1 rfl) ?_
            refine lv_iload_n hx hb dJ6_numberOfTrailingZeros_0f7a4_75 rfl (lv_at hl 0 rfl) ?_
            refine lv_iconst (v := 1) hx hb dJ6_numberOfTrailingZeros_0f7a4_76 (by decide) ?_
            refine lv_iushr hx hb dJ6_numberOfTrailingZeros_0f7a4_77 rfl ?_
            refine lv_topi (fun t16 et16 => ?_)
            refine lv_iadd hx hb dJ6_numberOfTrailingZeros_0f7a4_78 ?_
            refine lv_topi (fun t17 et17 => ?_)
            exact ret t17 () _ _ _ _ _ _ rfl trivial hP hD hS dJ6_numberOfTrailingZeros_0f7a4_79 (Nat.le_refl _) (Nat.le_refl _)
          · skip
            have zc15 : ¬ (t14.toInt ≤ 4) := by rw [fa_le, show (4 : Int32).toInt = 4 from by decide] at c15; exact c15
            refine lv_iinc (v := 7) (lv' := [(1, .int 7), (0, .int t14)]) hx hb dJ6_numberOfTrailingZeros_0f7a4_67 hl (k := 1) rfl (by decide) (by decide) rfl (fun ls hl => ?_)
            refine lv_iload_n hx hb dJ6_numberOfTrailingZeros_0f7a4_70 rfl (lv_at hl 1 rfl) ?_
            refine lv_iconst (v := 2) hx hb dJ6_numberOfTrailingZeros_0f7a4_71 (by decide) ?_
            refine lv_iushr hx hb dJ6_numberOfTrailingZeros_0f7a4_72 rfl ?_
            refine lv_topi (fun t18 et18 => ?_)
            refine lv_istore_n (lv' := [(0, .int t18), (1, .int 7)]) hx hb dJ6_numberOfTrailingZeros_0f7a4_73 rfl hl (by decide) rfl (fun ls hl => ?_)
            refine lv_iload_n hx hb dJ6_numberOfTrailingZeros_0f7a4_74 rfl (lv_at hl 1 rfl) ?_
            refine lv_iload_n hx hb dJ6_numberOfTrailingZeros_0f7a4_75 rfl (lv_at hl 0 rfl) ?_
            refine lv_iconst (v := 1) hx hb dJ6_numberOfTrailingZeros_0f7a4_76 (by decide) ?_
            refine lv_iushr hx hb dJ6_numberOfTrailingZeros_0f7a4_77 rfl ?_
            refine lv_topi (fun t19 et19 => ?_)
            refine lv_iadd hx hb dJ6_numberOfTrailingZeros_0f7a4_78 ?_
            refine lv_topi (fun t20 et20 => ?_)
            exact ret t20 () _ _ _ _ _ _ rfl trivial hP hD hS dJ6_numberOfTrailingZeros_0f7a4_79 (Nat.le_refl _) (Nat.le_refl _)
      · skip
        have zc6 : ¬ (t3.toInt ≤ 256) := by rw [fa_le, show (256 : Int32).toInt = 256 from by decide] at c6; exact c6
        refine lv_iinc (v := 9) (lv' := [(1, .int 9), (0, .int t3)]) hx hb dJ6_numberOfTrailingZeros_0f7a4_41 hl (k := 0) rfl (by decide) (by decide) rfl (fun ls hl => ?_)
        refine lv_iload_n hx hb dJ6_numberOfTrailingZeros_0f7a4_44 rfl (lv_at hl 1 rfl) ?_
        refine lv_bipush (v := 8) hx hb dJ6_numberOfTrailingZeros_0f7a4_45 (by decide) ?_
        refine lv_iushr hx hb dJ6_numberOfTrailingZeros_0f7a4_47 rfl ?_
        refine lv_topi (fun t21 et21 => ?_)
        refine lv_istore_n (lv' := [(0, .int t21), (1, .int 9)]) hx hb dJ6_numberOfTrailingZeros_0f7a4_48 rfl hl (by decide) rfl (fun ls hl => ?_)
        refine lv_iload_n hx hb dJ6_numberOfTrailingZeros_0f7a4_49 rfl (lv_at hl 0 rfl) ?_
        refine lv_bipush (v := 16) hx hb dJ6_numberOfTrailingZeros_0f7a4_50 (by decide) ?_
        refine lv_icmp_le (tgt := 62) hx hb dJ6_numberOfTrailingZeros_0f7a4_52 (by decide) (fun c22 => ?_) (fun c22 => ?_)
        · skip
          have zc22 : t21.toInt ≤ 16 := by rw [fa_le, show (16 : Int32).toInt = 16 from by decide] at c22; exact c22
          refine lv_iload_n hx hb dJ6_numberOfTrailingZeros_0f7a4_62 rfl (lv_at hl 0 rfl) ?_
          refine lv_iconst (v := 4) hx hb dJ6_numberOfTrailingZeros_0f7a4_63 (by decide) ?_
          refine lv_icmp_le (tgt := 74) hx hb dJ6_numberOfTrailingZeros_0f7a4_64 (by decide) (fun c23 => ?_) (fun c23 => ?_)
          · skip
            have zc23 : t21.toInt ≤ 4 := by rw [fa_le, show (4 : Int32).toInt = 4 from by decide] at c23; exact c23
            refine lv_iload_n hx hb dJ6_numberOfTrailingZeros_0f7a4_74 rfl (lv_at hl 1 rfl) ?_
            refine lv_iload_n hx hb dJ6_numberOfTrailingZeros_0f7a4_75 rfl (lv_at hl 0 rfl) ?_
            refine lv_iconst (v := 1) hx hb dJ6_numberOfTrailingZeros_0f7a4_76 (by decide) ?_
            refine lv_iushr hx hb dJ6_numberOfTrailingZeros_0f7a4_77 rfl ?_
            refine lv_topi (fun t24 et24 => ?_)
            refine lv_iadd hx hb dJ6_numberOfTrailingZeros_0f7a4_78 ?_
            refine lv_topi (fun t25 et25 => ?_)
            exact ret t25 () _ _ _ _ _ _ rfl trivial hP hD hS dJ6_numberOfTrailingZeros_0f7a4_79 (Nat.le_refl _) (Nat.le_refl _)
          · skip
            have zc23 : ¬ (t21.toInt ≤ 4) := by rw [fa_le, show (4 : Int32).toInt = 4 from by decide] at c23; exact c23
            refine lv_iinc (v := 11) (lv' := [(1, .int 11), (0, .int t21)]) hx hb dJ6_numberOfTrailingZeros_0f7a4_67 hl (k := 1) rfl (by decide) (by decide) rfl (fun ls hl => ?_)
            refine lv_iload_n hx hb dJ6_numberOfTrailingZeros_0f7a4_70 rfl (lv_at hl 1 rfl) ?_
            refine lv_iconst (v := 2) hx hb dJ6_numberOfTrailingZeros_0f7a4_71 (by decide) ?_
            refine lv_iushr hx hb dJ6_numberOfTrailingZeros_0f7a4_72 rfl ?_
            refine lv_topi (fun t26 et26 => ?_)
            refine lv_istore_n (lv' := [(0, .int t26), (1, .int 11)]) hx hb dJ6_numberOfTrailingZeros_0f7a4_73 rfl hl (by decide) rfl (fun ls hl => ?_)
            refine lv_iload_n hx hb dJ6_numberOfTrailingZeros_0f7a4_74 rfl (lv_at hl 1 rfl) ?_
            refine lv_iload_n hx hb dJ6_numberOfTrailingZeros_0f7a4_75 rfl (lv_at hl 0 rfl) ?_
            refine lv_iconst (v := 1) hx hb dJ6_numberOfTrailingZeros_0f7a4_76 (by decide) ?_
            refine lv_iushr hx hb dJ6_numberOfTrailingZeros_0f7a4_77 rfl ?_
            refine lv_topi (fun t27 et27 => ?_)
            refine lv_iadd hx hb dJ6_numberOfTrailingZeros_0f7a4_78 ?_
            refine lv_topi (fun t28 et28 => ?_)
            exact ret t28 () _ _ _ _ _ _ rfl trivial hP hD hS dJ6_numberOfTrailingZeros_0f7a4_79 (Nat.le_refl _) (Nat.le_refl _)
        · skip
          have zc22 : ¬ (t21.toInt ≤ 16) := by rw [fa_le, show (16 : Int32).toInt = 16 from by decide] at c22; exact c22
          refine lv_iinc (v := 13) (lv' := [(1, .int 13), (0, .int t21)]) hx hb dJ6_numberOfTrailingZeros_0f7a4_55 hl (k := 1) rfl (by decide) (by decide) rfl (fun ls hl => ?_)
          refine lv_iload_n hx hb dJ6_numberOfTrailingZeros_0f7a4_58 rfl (lv_at hl 1 rfl) ?_
          refine lv_iconst (v := 4) hx hb dJ6_numberOfTrailingZeros_0f7a4_59 (by decide) ?_
          refine lv_iushr hx hb dJ6_numberOfTrailingZeros_0f7a4_60 rfl ?_
          refine lv_topi (fun t29 et29 => ?_)
          refine lv_istore_n (lv' := [(0, .int t29), (1, .int 13)]) hx hb dJ6_numberOfTrailingZeros_0f7a4_61 rfl hl (by decide) rfl (fun ls hl => ?_)
          refine lv_iload_n hx hb dJ6_numberOfTrailingZeros_0f7a4_62 rfl (lv_at hl 0 rfl) ?_
          refine lv_iconst (v := 4) hx hb dJ6_numberOfTrailingZeros_0f7a4_63 (by decide) ?_
          refine lv_icmp_le (tgt := 74) hx hb dJ6_numberOfTrailingZeros_0f7a4_64 (by decide) (fun c30 => ?_) (fun c30 => ?_)
          · skip
            have zc30 : t29.toInt ≤ 4 := by rw [fa_le, show (4 : Int32).toInt = 4 from by decide] at c30; exact c30
            refine lv_iload_n hx hb dJ6_numberOfTrailingZeros_0f7a4_74 rfl (lv_at hl 1 rfl) ?_
            refine lv_iload_n hx hb dJ6_numberOfTrailingZeros_0f7a4_75 rfl (lv_at hl 0 rfl) ?_
            refine lv_iconst (v := 1) hx hb dJ6_numberOfTrailingZeros_0f7a4_76 (by decide) ?_
            refine lv_iushr hx hb dJ6_numberOfTrailingZeros_0f7a4_77 rfl ?_
            refine lv_topi (fun t31 et31 => ?_)
            refine lv_iadd hx hb dJ6_numberOfTrailingZeros_0f7a4_78 ?_
            refine lv_topi (fun t32 et32 => ?_)
            exact ret t32 () _ _ _ _ _ _ rfl trivial hP hD hS dJ6_numberOfTrailingZeros_0f7a4_79 (Nat.le_refl _) (Nat.le_refl _)
          · skip
            have zc30 : ¬ (t29.toInt ≤ 4) := by rw [fa_le, show (4 : Int32).toInt = 4 from by decide] at c30; exact c30
            refine lv_iinc (v := 15) (lv' := [(1, .int 15), (0, .int t29)]) hx hb dJ6_numberOfTrailingZeros_0f7a4_67 hl (k := 1) rfl (by decide) (by decide) rfl (fun ls hl => ?_)
            refine lv_iload_n hx hb dJ6_numberOfTrailingZeros_0f7a4_70 rfl (lv_at hl 1 rfl) ?_
            refine lv_iconst (v := 2) hx hb dJ6_numberOfTrailingZeros_0f7a4_71 (by decide) ?_
            refine lv_iushr hx hb dJ6_numberOfTrailingZeros_0f7a4_72 rfl ?_
            refine lv_topi (fun t33 et33 => ?_)
            refine lv_istore_n (lv' := [(0, .int t33), (1, .int 15)]) hx hb dJ6_numberOfTrailingZeros_0f7a4_73 rfl hl (by decide) rfl (fun ls hl => ?_)
            refine lv_iload_n hx hb dJ6_numberOfTrailingZeros_0f7a4_74 rfl (lv_at hl 1 rfl) ?_
            refine lv_iload_n hx hb dJ6_numberOfTrailingZeros_0f7a4_75 rfl (lv_at hl 0 rfl) ?_
            refine lv_iconst (v := 1) hx hb dJ6_numberOfTrailingZeros_0f7a4_76 (by decide) ?_
            refine lv_iushr hx hb dJ6_numberOfTrailingZeros_0f7a4_77 rfl ?_
            refine lv_topi (fun t34 et34 => ?_)
            refine lv_iadd hx hb dJ6_numberOfTrailingZeros_0f7a4_78 ?_
            refine lv_topi (fun t35 et35 => ?_)
            exact ret t35 () _ _ _ _ _ _ rfl trivial hP hD hS dJ6_numberOfTrailingZeros_0f7a4_79 (Nat.le_refl _) (Nat.le_refl _)
    · skip
      have zc5 : ¬ (t3.toInt ≤ 65536) := by rw [fa_le, show (65536 : Int32).toInt = 65536 from by decide] at c5; exact c5
      refine lv_iinc (v := 17) (lv' := [(1, .int 17), (0, .int t3)]) hx hb dJ6_numberOfTrailingZeros_0f7a4_26 hl (k := 0) rfl (by decide) (by decide) rfl (fun ls hl => ?_)
      refine lv_iload_n hx hb dJ6_numberOfTrailingZeros_0f7a4_29 rfl (lv_at hl 1 rfl) ?_
      refine lv_bipush (v := 16) hx hb dJ6_numberOfTrailingZeros_0f7a4_30 (by decide) ?_
      refine lv_iushr hx hb dJ6_numberOfTrailingZeros_0f7a4_32 rfl ?_
      refine lv_topi (fun t36 et36 => ?_)
      refine lv_istore_n (lv' := [(0, .int t36), (1, .int 17)]) hx hb dJ6_numberOfTrailingZeros_0f7a4_33 rfl hl (by decide) rfl (fun ls hl => ?_)
      refine lv_iload_n hx hb dJ6_numberOfTrailingZeros_0f7a4_34 rfl (lv_at hl 0 rfl) ?_
      refine lv_sipush (v := 256) hx hb dJ6_numberOfTrailingZeros_0f7a4_35 (by decide) ?_
      refine lv_icmp_le (tgt := 49) hx hb dJ6_numberOfTrailingZeros_0f7a4_38 (by decide) (fun c37 => ?_) (fun c37 => ?_)
      · skip
        have zc37 : t36.toInt ≤ 256 := by rw [fa_le, show (256 : Int32).toInt = 256 from by decide] at c37; exact c37
        refine lv_iload_n hx hb dJ6_numberOfTrailingZeros_0f7a4_49 rfl (lv_at hl 0 rfl) ?_
        refine lv_bipush (v := 16) hx hb dJ6_numberOfTrailingZeros_0f7a4_50 (by decide) ?_
        refine lv_icmp_le (tgt := 62) hx hb dJ6_numberOfTrailingZeros_0f7a4_52 (by decide) (fun c38 => ?_) (fun c38 => ?_)
        · skip
          have zc38 : t36.toInt ≤ 16 := by rw [fa_le, show (16 : Int32).toInt = 16 from by decide] at c38; exact c38
          refine lv_iload_n hx hb dJ6_numberOfTrailingZeros_0f7a4_62 rfl (lv_at hl 0 rfl) ?_
          refine lv_iconst (v := 4) hx hb dJ6_numberOfTrailingZeros_0f7a4_63 (by decide) ?_
          refine lv_icmp_le (tgt := 74) hx hb dJ6_numberOfTrailingZeros_0f7a4_64 (by decide) (fun c39 => ?_) (fun c39 => ?_)
          · skip
            have zc39 : t36.toInt ≤ 4 := by rw [fa_le, show (4 : Int32).toInt = 4 from by decide] at c39; exact c39
            refine lv_iload_n hx hb dJ6_numberOfTrailingZeros_0f7a4_74 rfl (lv_at hl 1 rfl) ?_
            refine lv_iload_n hx hb dJ6_numberOfTrailingZeros_0f7a4_75 rfl (lv_at hl 0 rfl) ?_
            refine lv_iconst (v := 1) hx hb dJ6_numberOfTrailingZeros_0f7a4_76 (by decide) ?_
            refine lv_iushr hx hb dJ6_numberOfTrailingZeros_0f7a4_77 rfl ?_
            refine lv_topi (fun t40 et40 => ?_)
            refine lv_iadd hx hb dJ6_numberOfTrailingZeros_0f7a4_78 ?_
            refine lv_topi (fun t41 et41 => ?_)
            exact ret t41 () _ _ _ _ _ _ rfl trivial hP hD hS dJ6_numberOfTrailingZeros_0f7a4_79 (Nat.le_refl _) (Nat.le_refl _)
          · skip
            have zc39 : ¬ (t36.toInt ≤ 4) := by rw [fa_le, show (4 : Int32).toInt = 4 from by decide] at c39; exact c39
            refine lv_iinc (v := 19) (lv' := [(1, .int 19), (0, .int t36)]) hx hb dJ6_numberOfTrailingZeros_0f7a4_67 hl (k := 1) rfl (by decide) (by decide) rfl (fun ls hl => ?_)
            refine lv_iload_n hx hb dJ6_numberOfTrailingZeros_0f7a4_70 rfl (lv_at hl 1 rfl) ?_
            refine lv_iconst (v := 2) hx hb dJ6_numberOfTrailingZeros_0f7a4_71 (by decide) ?_
            refine lv_iushr hx hb dJ6_numberOfTrailingZeros_0f7a4_72 rfl ?_
            refine lv_topi (fun t42 et42 => ?_)
            refine lv_istore_n (lv' := [(0, .int t42), (1, .int 19)]) hx hb dJ6_numberOfTrailingZeros_0f7a4_73 rfl hl (by decide) rfl (fun ls hl => ?_)
            refine lv_iload_n hx hb dJ6_numberOfTrailingZeros_0f7a4_74 rfl (lv_at hl 1 rfl) ?_
            refine lv_iload_n hx hb dJ6_numberOfTrailingZeros_0f7a4_75 rfl (lv_at hl 0 rfl) ?_
            refine lv_iconst (v := 1) hx hb dJ6_numberOfTrailingZeros_0f7a4_76 (by decide) ?_
            refine lv_iushr hx hb dJ6_numberOfTrailingZeros_0f7a4_77 rfl ?_
            refine lv_topi (fun t43 et43 => ?_)
            refine lv_iadd hx hb dJ6_numberOfTrailingZeros_0f7a4_78 ?_
            refine lv_topi (fun t44 et44 => ?_)
            exact ret t44 () _ _ _ _ _ _ rfl trivial hP hD hS dJ6_numberOfTrailingZeros_0f7a4_79 (Nat.le_refl _) (Nat.le_refl _)
        · skip
          have zc38 : ¬ (t36.toInt ≤ 16) := by rw [fa_le, show (16 : Int32).toInt = 16 from by decide] at c38; exact c38
          refine lv_iinc (v := 21) (lv' := [(1, .int 21), (0, .int t36)]) hx hb dJ6_numberOfTrailingZeros_0f7a4_55 hl (k := 1) rfl (by decide) (by decide) rfl (fun ls hl => ?_)
          refine lv_iload_n hx hb dJ6_numberOfTrailingZeros_0f7a4_58 rfl (lv_at hl 1 rfl) ?_
          refine lv_iconst (v := 4) hx hb dJ6_numberOfTrailingZeros_0f7a4_59 (by decide) ?_
          refine lv_iushr hx hb dJ6_numberOfTrailingZeros_0f7a4_60 rfl ?_
          refine lv_topi (fun t45 et45 => ?_)
          refine lv_istore_n (lv' := [(0, .int t45), (1, .int 21)]) hx hb dJ6_numberOfTrailingZeros_0f7a4_61 rfl hl (by decide) rfl (fun ls hl => ?_)
          refine lv_iload_n hx hb dJ6_numberOfTrailingZeros_0f7a4_62 rfl (lv_at hl 0 rfl) ?_
          refine lv_iconst (v := 4) hx hb dJ6_numberOfTrailingZeros_0f7a4_63 (by decide) ?_
          refine lv_icmp_le (tgt := 74) hx hb dJ6_numberOfTrailingZeros_0f7a4_64 (by decide) (fun c46 => ?_) (fun c46 => ?_)
          · skip
            have zc46 : t45.toInt ≤ 4 := by rw [fa_le, show (4 : Int32).toInt = 4 from by decide] at c46; exact c46
            refine lv_iload_n hx hb dJ6_numberOfTrailingZeros_0f7a4_74 rfl (lv_at hl 1 rfl) ?_
            refine lv_iload_n hx hb dJ6_numberOfTrailingZeros_0f7a4_75 rfl (lv_at hl 0 rfl) ?_
            refine lv_iconst (v := 1) hx hb dJ6_numberOfTrailingZeros_0f7a4_76 (by decide) ?_
            refine lv_iushr hx hb dJ6_numberOfTrailingZeros_0f7a4_77 rfl ?_
            refine lv_topi (fun t47 et47 => ?_)
            refine lv_iadd hx hb dJ6_numberOfTrailingZeros_0f7a4_78 ?_
            refine lv_topi (fun t48 et48 => ?_)
            exact ret t48 () _ _ _ _ _ _ rfl trivial hP hD hS dJ6_numberOfTrailingZeros_0f7a4_79 (Nat.le_refl _) (Nat.le_refl _)
          · skip
            have zc46 : ¬ (t45.toInt ≤ 4) := by rw [fa_le, show (4 : Int32).toInt = 4 from by decide] at c46; exact c46
            refine lv_iinc (v := 23) (lv' := [(1, .int 23), (0, .int t45)]) hx hb dJ6_numberOfTrailingZeros_0f7a4_67 hl (k := 1) rfl (by decide) (by decide) rfl (fun ls hl => ?_)
            refine lv_iload_n hx hb dJ6_numberOfTrailingZeros_0f7a4_70 rfl (lv_at hl 1 rfl) ?_
            refine lv_iconst (v := 2) hx hb dJ6_numberOfTrailingZeros_0f7a4_71 (by decide) ?_
            refine lv_iushr hx hb dJ6_numberOfTrailingZeros_0f7a4_72 rfl ?_
            refine lv_topi (fun t49 et49 => ?_)
            refine lv_istore_n (lv' := [(0, .int t49), (1, .int 23)]) hx hb dJ6_numberOfTrailingZeros_0f7a4_73 rfl hl (by decide) rfl (fun ls hl => ?_)
            refine lv_iload_n hx hb dJ6_numberOfTrailingZeros_0f7a4_74 rfl (lv_at hl 1 rfl) ?_
            refine lv_iload_n hx hb dJ6_numberOfTrailingZeros_0f7a4_75 rfl (lv_at hl 0 rfl) ?_
            refine lv_iconst (v := 1) hx hb dJ6_numberOfTrailingZeros_0f7a4_76 (by decide) ?_
            refine lv_iushr hx hb dJ6_numberOfTrailingZeros_0f7a4_77 rfl ?_
            refine lv_topi (fun t50 et50 => ?_)
            refine lv_iadd hx hb dJ6_numberOfTrailingZeros_0f7a4_78 ?_
            refine lv_topi (fun t51 et51 => ?_)
            exact ret t51 () _ _ _ _ _ _ rfl trivial hP hD hS dJ6_numberOfTrailingZeros_0f7a4_79 (Nat.le_refl _) (Nat.le_refl _)
      · skip
        have zc37 : ¬ (t36.toInt ≤ 256) := by rw [fa_le, show (256 : Int32).toInt = 256 from by decide] at c37; exact c37
        refine lv_iinc (v := 25) (lv' := [(1, .int 25), (0, .int t36)]) hx hb dJ6_numberOfTrailingZeros_0f7a4_41 hl (k := 1) rfl (by decide) (by decide) rfl (fun ls hl => ?_)
        refine lv_iload_n hx hb dJ6_numberOfTrailingZeros_0f7a4_44 rfl (lv_at hl 1 rfl) ?_
        refine lv_bipush (v := 8) hx hb dJ6_numberOfTrailingZeros_0f7a4_45 (by decide) ?_
        refine lv_iushr hx hb dJ6_numberOfTrailingZeros_0f7a4_47 rfl ?_
        refine lv_topi (fun t52 et52 => ?_)
        refine lv_istore_n (lv' := [(0, .int t52), (1, .int 25)]) hx hb dJ6_numberOfTrailingZeros_0f7a4_48 rfl hl (by decide) rfl (fun ls hl => ?_)
        refine lv_iload_n hx hb dJ6_numberOfTrailingZeros_0f7a4_49 rfl (lv_at hl 0 rfl) ?_
        refine lv_bipush (v := 16) hx hb dJ6_numberOfTrailingZeros_0f7a4_50 (by decide) ?_
        refine lv_icmp_le (tgt := 62) hx hb dJ6_numberOfTrailingZeros_0f7a4_52 (by decide) (fun c53 => ?_) (fun c53 => ?_)
        · skip
          have zc53 : t52.toInt ≤ 16 := by rw [fa_le, show (16 : Int32).toInt = 16 from by decide] at c53; exact c53
          refine lv_iload_n hx hb dJ6_numberOfTrailingZeros_0f7a4_62 rfl (lv_at hl 0 rfl) ?_
          refine lv_iconst (v := 4) hx hb dJ6_numberOfTrailingZeros_0f7a4_63 (by decide) ?_
          refine lv_icmp_le (tgt := 74) hx hb dJ6_numberOfTrailingZeros_0f7a4_64 (by decide) (fun c54 => ?_) (fun c54 => ?_)
          · skip
            have zc54 : t52.toInt ≤ 4 := by rw [fa_le, show (4 : Int32).toInt = 4 from by decide] at c54; exact c54
            refine lv_iload_n hx hb dJ6_numberOfTrailingZeros_0f7a4_74 rfl (lv_at hl 1 rfl) ?_
            refine lv_iload_n hx hb dJ6_numberOfTrailingZeros_0f7a4_75 rfl (lv_at hl 0 rfl) ?_
            refine lv_iconst (v := 1) hx hb dJ6_numberOfTrailingZeros_0f7a4_76 (by decide) ?_
            refine lv_iushr hx hb dJ6_numberOfTrailingZeros_0f7a4_77 rfl ?_
            refine lv_topi (fun t55 et55 => ?_)
            refine lv_iadd hx hb dJ6_numberOfTrailingZeros_0f7a4_78 ?_
            refine lv_topi (fun t56 et56 => ?_)
            exact ret t56 () _ _ _ _ _ _ rfl trivial hP hD hS dJ6_numberOfTrailingZeros_0f7a4_79 (Nat.le_refl _) (Nat.le_refl _)
          · skip
            have zc54 : ¬ (t52.toInt ≤ 4) := by rw [fa_le, show (4 : Int32).toInt = 4 from by decide] at c54; exact c54
            refine lv_iinc (v := 27) (lv' := [(1, .int 27), (0, .int t52)]) hx hb dJ6_numberOfTrailingZeros_0f7a4_67 hl (k := 1) rfl (by decide) (by decide) rfl (fun ls hl => ?_)
            refine lv_iload_n hx hb dJ6_numberOfTrailingZeros_0f7a4_70 rfl (lv_at hl 1 rfl) ?_
            refine lv_iconst (v := 2) hx hb dJ6_numberOfTrailingZeros_0f7a4_71 (by decide) ?_
            refine lv_iushr hx hb dJ6_numberOfTrailingZeros_0f7a4_72 rfl ?_
            refine lv_topi (fun t57 et57 => ?_)
            refine lv_istore_n (lv' := [(0, .int t57), (1, .int 27)]) hx hb dJ6_numberOfTrailingZeros_0f7a4_73 rfl hl (by decide) rfl (fun ls hl => ?_)
            refine lv_iload_n hx hb dJ6_numberOfTrailingZeros_0f7a4_74 rfl (lv_at hl 1 rfl) ?_
            refine lv_iload_n hx hb dJ6_numberOfTrailingZeros_0f7a4_75 rfl (lv_at hl 0 rfl) ?_
            refine lv_iconst (v := 1) hx hb dJ6_numberOfTrailingZeros_0f7a4_76 (by decide) ?_
            refine lv_iushr hx hb dJ6_numberOfTrailingZeros_0f7a4_77 rfl ?_
            refine lv_topi (fun t58 et58 => ?_)
            refine lv_iadd hx hb dJ6_numberOfTrailingZeros_0f7a4_78 ?_
            refine lv_topi (fun t59 et59 => ?_)
            exact ret t59 () _ _ _ _ _ _ rfl trivial hP hD hS dJ6_numberOfTrailingZeros_0f7a4_79 (Nat.le_refl _) (Nat.le_refl _)
        · skip
          have zc53 : ¬ (t52.toInt ≤ 16) := by rw [fa_le, show (16 : Int32).toInt = 16 from by decide] at c53; exact c53
          refine lv_iinc (v := 29) (lv' := [(1, .int 29), (0, .int t52)]) hx hb dJ6_numberOfTrailingZeros_0f7a4_55 hl (k := 1) rfl (by decide) (by decide) rfl (fun ls hl => ?_)
          refine lv_iload_n hx hb dJ6_numberOfTrailingZeros_0f7a4_58 rfl (lv_at hl 1 rfl) ?_
          refine lv_iconst (v := 4) hx hb dJ6_numberOfTrailingZeros_0f7a4_59 (by decide) ?_
          refine lv_iushr hx hb dJ6_numberOfTrailingZeros_0f7a4_60 rfl ?_
          refine lv_topi (fun t60 et60 => ?_)
          refine lv_istore_n (lv' := [(0, .int t60), (1, .int 29)]) hx hb dJ6_numberOfTrailingZeros_0f7a4_61 rfl hl (by decide) rfl (fun ls hl => ?_)
          refine lv_iload_n hx hb dJ6_numberOfTrailingZeros_0f7a4_62 rfl (lv_at hl 0 rfl) ?_
          refine lv_iconst (v := 4) hx hb dJ6_numberOfTrailingZeros_0f7a4_63 (by decide) ?_
          refine lv_icmp_le (tgt := 74) hx hb dJ6_numberOfTrailingZeros_0f7a4_64 (by decide) (fun c61 => ?_) (fun c61 => ?_)
          · skip
            have zc61 : t60.toInt ≤ 4 := by rw [fa_le, show (4 : Int32).toInt = 4 from by decide] at c61; exact c61
            refine lv_iload_n hx hb dJ6_numberOfTrailingZeros_0f7a4_74 rfl (lv_at hl 1 rfl) ?_
            refine lv_iload_n hx hb dJ6_numberOfTrailingZeros_0f7a4_75 rfl (lv_at hl 0 rfl) ?_
            refine lv_iconst (v := 1) hx hb dJ6_numberOfTrailingZeros_0f7a4_76 (by decide) ?_
            refine lv_iushr hx hb dJ6_numberOfTrailingZeros_0f7a4_77 rfl ?_
            refine lv_topi (fun t62 et62 => ?_)
            refine lv_iadd hx hb dJ6_numberOfTrailingZeros_0f7a4_78 ?_
            refine lv_topi (fun t63 et63 => ?_)
            exact ret t63 () _ _ _ _ _ _ rfl trivial hP hD hS dJ6_numberOfTrailingZeros_0f7a4_79 (Nat.le_refl _) (Nat.le_refl _)
          · skip
            have zc61 : ¬ (t60.toInt ≤ 4) := by rw [fa_le, show (4 : Int32).toInt = 4 from by decide] at c61; exact c61
            refine lv_iinc (v := 31) (lv' := [(1, .int 31), (0, .int t60)]) hx hb dJ6_numberOfTrailingZeros_0f7a4_67 hl (k := 1) rfl (by decide) (by decide) rfl (fun ls hl => ?_)
            refine lv_iload_n hx hb dJ6_numberOfTrailingZeros_0f7a4_70 rfl (lv_at hl 1 rfl) ?_
            refine lv_iconst (v := 2) hx hb dJ6_numberOfTrailingZeros_0f7a4_71 (by decide) ?_
            refine lv_iushr hx hb dJ6_numberOfTrailingZeros_0f7a4_72 rfl ?_
            refine lv_topi (fun t64 et64 => ?_)
            refine lv_istore_n (lv' := [(0, .int t64), (1, .int 31)]) hx hb dJ6_numberOfTrailingZeros_0f7a4_73 rfl hl (by decide) rfl (fun ls hl => ?_)
            refine lv_iload_n hx hb dJ6_numberOfTrailingZeros_0f7a4_74 rfl (lv_at hl 1 rfl) ?_
            refine lv_iload_n hx hb dJ6_numberOfTrailingZeros_0f7a4_75 rfl (lv_at hl 0 rfl) ?_
            refine lv_iconst (v := 1) hx hb dJ6_numberOfTrailingZeros_0f7a4_76 (by decide) ?_
            refine lv_iushr hx hb dJ6_numberOfTrailingZeros_0f7a4_77 rfl ?_
            refine lv_topi (fun t65 et65 => ?_)
            refine lv_iadd hx hb dJ6_numberOfTrailingZeros_0f7a4_78 ?_
            refine lv_topi (fun t66 et66 => ?_)
            exact ret t66 () _ _ _ _ _ _ rfl trivial hP hD hS dJ6_numberOfTrailingZeros_0f7a4_79 (Nat.le_refl _) (Nat.le_refl _)
  · skip
    have zc4 : ¬ (0 < t3.toInt) := by rw [fa_lt, show (0 : Int32).toInt = 0 from by decide] at c4; exact c4
    refine lv_iload_n hx hb dJ6_numberOfTrailingZeros_0f7a4_12 rfl (lv_at hl 0 rfl) ?_
    refine lv_bipush (v := 32) hx hb dJ6_numberOfTrailingZeros_0f7a4_13 (by decide) ?_
    refine lv_iand hx hb dJ6_numberOfTrailingZeros_0f7a4_15 ?_
    refine lv_topi (fun t67 et67 => ?_)
    exact ret t67 () _ _ _ _ _ _ rfl trivial hP hD hS dJ6_numberOfTrailingZeros_0f7a4_16 (Nat.le_refl _) (Nat.le_refl _)
set_option maxHeartbeats 4000000 in
set_option maxRecDepth 100000 in
theorem sX_X10_sure_1 (l : Launch) (dC : Nat → ClassId) (dI : Nat → Nat → Nat) (cy : Nat → ClassId) (x0 : Nat) (x : Nat → Nat) (p1 : Int32) (p2 : Int32) (v : Nat → Int32) (f : Nat → Nat → Int32) (hIv : XI v)  : ctI l (dC, dI) cy yX10_sure cX10_sure 4 .int 6 183 0 0 ((Nat → Int32) × (Nat → Nat → Int32)) [.ref x0, .int p1, .int p2] (XW cy x0 x v f) (fun r u => u.2 0 = f 0 ∧ XI u.1 ∧ u.1 0 = v 0 ∧ u.1 1 = v 1 ∧ u.1 7 = v 7 ∧ u.1 8 = v 8 ∧ u.1 9 = v 9 ∧ u.1 10 = v 10 ∧ u.1 31 = v 31 ∧ u.1 32 = v 32) (fun u => XW cy x0 x u.1 u.2) := by
  refine ctI_of (by decide) (Nat.le_of_ble_eq_true rfl) (fun p e s m below meth c A ls Q hx hb hml hts hown hE hP hD hA hl ret => ?_)
  have ha0_f : f 0 = f 0 := rfl
  have hown : s.vm.findClass RX10 = some m.cls := hown
  have hS : va_S A s.heap s.heap [] := va_S.rf
  have hl : lv_has ls 4 [(0, .ref x0), (1, .int p1), (2, .int p2)] := hl
  refine lv_aload_n hx hb dX10_sure_0 rfl (lv_at hl 0 rfl) ?_
  refine va_get (D := (dC, dI)) (ci := 10) (v := .ref (x 35)) (C := RX10) (T := TX10) (N := 10) hx hb hts inB_10 hown hE.1 hP 0 rfl rfl 8 (by decide) (hts _ k_499) (fun _ h9 => h9) rfl dX10_sure_1 ?_
  refine lv_iload_n hx hb dX10_sure_4 rfl (lv_at hl 2 rfl) ?_
  refine cbVi (n := 1) (rest := []) hx hb hml hown hts hE hP hD hS hA (sX_X8_growthsAt_1 l dC dI cy x0 x p2 v f hIv ) k_1247 k_1248 k_1249 k_112 k_1250 (by decide +kernel) ⟨Nat.le_of_ble_eq_true rfl, Nat.le_of_ble_eq_true rfl⟩ 36 8 rfl rfl (rfl) hl.1 rfl (Nat.le_of_ble_eq_true rfl) dX10_sure_5 (fun r1 u H locs hw hP hD hS => ?_)
  obtain ⟨v2, f3⟩ := u
  obtain ⟨ka0_f3, hIv2, hk0_v2, hk1_v2, hk7_v2, hk8_v2, hk9_v2, hk10_v2, hk31_v2, hk32_v2⟩ := hw
  have ha0_f3 : f3 0 = f 0 := ka0_f3.trans ha0_f
  have hP : va_P (dC, dI) vwCl (XW cy x0 x v2 f3) H := hP
  have hD : va_D A (XW cy x0 x v2 f3) := hD
  have hq0_v2 : v2 0 = (v 0) := hk0_v2
  have hq1_v2 : v2 1 = (v 1) := hk1_v2
  have hq7_v2 : v2 7 = (v 7) := hk7_v2
  have hq8_v2 : v2 8 = (v 8) := hk8_v2
  have hq9_v2 : v2 9 = (v 9) := hk9_v2
  have hq10_v2 : v2 10 = (v 10) := hk10_v2
  have hq31_v2 : v2 31 = (v 31) := hk31_v2
  have hq32_v2 : v2 32 = (v 32) := hk32_v2
  refine lv_istore_n (lv' := [(3, .int r1), (0, .ref x0), (1, .int p1), (2, .int p2)]) hx hb dX10_sure_8 rfl hl (by decide) rfl (fun ls hl => ?_)
  refine lv_iload_n hx hb dX10_sure_9 rfl (lv_at hl 0 rfl) ?_
  refine lv_if_eq (tgt := 22) hx hb dX10_sure_10 (by decide) (fun c4 => ?_) (fun c4 => ?_)
  · skip
    have zc4 : r1.toInt = 0 := by rw [fa_eq, show (0 : Int32).toInt = 0 from by decide] at c4; exact c4
    refine lv_iconst (v := (-1)) hx hb dX10_sure_22 (by decide) ?_
    exact ret (-1) (v2, f3) _ _ _ _ _ _ rfl ⟨ha0_f3, hIv2, hk0_v2, hk1_v2, hk7_v2, hk8_v2, hk9_v2, hk10_v2, hk31_v2, hk32_v2⟩ hP hD hS dX10_sure_23 (Nat.le_refl _) (Nat.le_refl _)
  · skip
    have zc4 : ¬ (r1.toInt = 0) := by rw [fa_eq, show (0 : Int32).toInt = 0 from by decide] at c4; exact c4
    refine lv_iload_n hx hb dX10_sure_13 rfl (lv_at hl 2 rfl) ?_
    refine lv_if_lt (tgt := 22) hx hb dX10_sure_14 (by decide) (fun c5 => ?_) (fun c5 => ?_)
    · skip
      have zc5 : p1.toInt < 0 := by rw [fa_lt, show (0 : Int32).toInt = 0 from by decide] at c5; exact c5
      refine lv_iconst (v := (-1)) hx hb dX10_sure_22 (by decide) ?_
      exact ret (-1) (v2, f3) _ _ _ _ _ _ rfl ⟨ha0_f3, hIv2, hk0_v2, hk1_v2, hk7_v2, hk8_v2, hk9_v2, hk10_v2, hk31_v2, hk32_v2⟩ hP hD hS dX10_sure_23 (Nat.le_refl _) (Nat.le_refl _)
    · skip
      have zc5 : ¬ (p1.toInt < 0) := by rw [fa_lt, show (0 : Int32).toInt = 0 from by decide] at c5; exact c5
      refine lv_iload_n hx hb dX10_sure_17 rfl (lv_at hl 2 rfl) ?_
      refine lv_iconst (v := 1) hx hb dX10_sure_18 (by decide) ?_
      refine lv_icmp_le (tgt := 24) hx hb dX10_sure_19 (by decide) (fun c6 => ?_) (fun c6 => ?_)
      · skip
        have zc6 : p1.toInt ≤ 1 := by rw [fa_le, show (1 : Int32).toInt = 1 from by decide] at c6; exact c6
        refine lv_iload_n hx hb dX10_sure_24 rfl (lv_at hl 2 rfl) ?_
        refine lv_if_ne (tgt := 35) hx hb dX10_sure_25 (by decide) (fun c7 => ?_) (fun c7 => ?_)
        · skip
          have zc7 : ¬ (p1.toInt = 0) := by rw [fa_eq, show (0 : Int32).toInt = 0 from by decide] at c7; exact c7
          refine lv_bipush (v := 31) hx hb dX10_sure_35 (by decide) ?_
          refine lv_iload_n hx hb dX10_sure_37 rfl (lv_at hl 0 rfl) ?_
          refine cbSi (n := 1) (rest := [.int 31]) hx hb hml hown hts hE hP hD hS hA (sX_J6_numberOfLeadingZeros_0f7a4_1 l dC dI cy x0 x r1 v2 f3 hIv2 ) k_1272 k_1273 k_121 k_1274 (by decide +kernel) ⟨Nat.le_of_ble_eq_true rfl, Nat.le_of_ble_eq_true rfl⟩ (rfl) hl.1 rfl (Nat.le_of_ble_eq_true rfl) dX10_sure_38 (fun r8 u H locs hw hP hD hS => ?_)
          refine lv_isub hx hb dX10_sure_41 ?_
          refine lv_topi (fun t9 et9 => ?_)
          exact ret t9 (v2, f3) _ _ _ _ _ _ rfl ⟨ha0_f3, hIv2, hk0_v2, hk1_v2, hk7_v2, hk8_v2, hk9_v2, hk10_v2, hk31_v2, hk32_v2⟩ hP hD hS dX10_sure_42 (Nat.le_refl _) (Nat.le_refl _)
        · skip
          have zc7 : p1.toInt = 0 := by rw [fa_eq, show (0 : Int32).toInt = 0 from by decide] at c7; exact c7
          refine lv_iload_n hx hb dX10_sure_28 rfl (lv_at hl 0 rfl) ?_
          refine cbSi (n := 1) (rest := []) hx hb hml hown hts hE hP hD hS hA (sX_J6_numberOfTrailingZeros_0f7a4_1 l dC dI cy x0 x r1 v2 f3 hIv2 ) k_1268 k_1269 k_121 k_1270 (by decide +kernel) ⟨Nat.le_of_ble_eq_true rfl, Nat.le_of_ble_eq_true rfl⟩ (rfl) hl.1 rfl (Nat.le_of_ble_eq_true rfl) dX10_sure_29 (fun r10 u H locs hw hP hD hS => ?_)
          refine lv_goto (tgt := 42) hx hb dX10_sure_32 (by decide) ?_
          exact ret r10 (v2, f3) _ _ _ _ _ _ rfl ⟨ha0_f3, hIv2, hk0_v2, hk1_v2, hk7_v2, hk8_v2, hk9_v2, hk10_v2, hk31_v2, hk32_v2⟩ hP hD hS dX10_sure_42 (Nat.le_refl _) (Nat.le_refl _)
      · skip
        have zc6 : ¬ (p1.toInt ≤ 1) := by rw [fa_le, show (1 : Int32).toInt = 1 from by decide] at c6; exact c6
        refine lv_iconst (v := (-1)) hx hb dX10_sure_22 (by decide) ?_
        exact ret (-1) (v2, f3) _ _ _ _ _ _ rfl ⟨ha0_f3, hIv2, hk0_v2, hk1_v2, hk7_v2, hk8_v2, hk9_v2, hk10_v2, hk31_v2, hk32_v2⟩ hP hD hS dX10_sure_23 (Nat.le_refl _) (Nat.le_refl _)
