set_option maxHeartbeats 4000000 in
set_option maxRecDepth 100000 in
theorem sY_X11_lies_1 (l : Launch) (dC : Nat → ClassId) (dI : Nat → Nat → Nat) (cy : Nat → ClassId) (y0 : Nat) (r : Nat → Nat) (p1 : Int32) (v : Nat → Int32) (f : Nat → Nat → Int32) (w : Int64) (g : Nat → Int64) (hIv : YI v) (hCf : YC f) (hRf : progOK (f 4) (f 5) (v 9).toInt.toNat)  : ctI l (dC, dI) cy yX11_lies cX11_lies 2 .int 2 82 0 0 Unit [.ref y0, .int p1] (YW cy y0 r v f w g) (fun r u => True) (fun u => YW cy y0 r v f w g) := by
  refine ctI_of (by decide) (Nat.le_of_ble_eq_true rfl) (fun p e s m below meth c A ls Q hx hb hml hts hown hE hP hD hA hl ret => ?_)
  have hUv : (v 35).toInt + (v 36).toInt ≤ 40 := hIv.2
  have hown : s.vm.findClass RX11 = some m.cls := hown
  have hS : va_S A s.heap s.heap [] := va_S.rf
  have hl : lv_has ls 2 [(0, .ref y0), (1, .int p1)] := hl
  refine lv_iload_n hx hb dX11_lies_0 rfl (lv_at hl 1 rfl) ?_
  refine lv_iconst (v := 0) hx hb dX11_lies_1 (by decide) ?_
  refine lv_aload_n hx hb dX11_lies_2 rfl (lv_at hl 0 rfl) ?_
  refine va_get (D := (dC, dI)) (ci := 11) (v := .int (v 37)) (C := RX11) (T := TX11) (N := 79) hx hb hts inB_11 hown hE.1 hP 0 rfl rfl 67 (by decide) (hts _ k_1387) (fun _ h9 => h9) rfl dX11_lies_3 ?_
  have b37_v : 0 ≤ (v 37).toInt ∧ (v 37).toInt ≤ 6 := YIb.b hIv.1 37 (by decide)
  refine lv_iconst (v := 1) hx hb dX11_lies_6 (by decide) ?_
  refine lv_isub hx hb dX11_lies_7 ?_
  refine lv_topi (fun t1 et1 => ?_)
  have rg2 := fb_rng (v 37)
  have zt1 : t1.toInt = (v 37).toInt - 1 := by rw [et1]; exact sub_i rfl (by decide) (by omega) (by omega)
  have lt3 : (0 : Int32).toInt = 0 := by decide
  refine cbSi (n := 3) (rest := []) hx hb hml hown hts hE hP hD hS hA (sY_X11_isIn_1 l dC dI cy y0 r p1 0 t1 v f w g hIv hCf hRf ) k_1736 k_1737 k_114 k_1738 (by decide +kernel) ⟨Nat.le_of_ble_eq_true rfl, Nat.le_of_ble_eq_true rfl⟩ (rfl) hl.1 rfl (Nat.le_of_ble_eq_true rfl) dX11_lies_8 (fun r4 u H locs hw hP hD hS => ?_)
  rcases hw with ⟨g5, g5_0, g5_1⟩ | ⟨g5⟩
  · skip
    subst g5
    refine lv_if_eq (tgt := 23) hx hb dX11_lies_11 (by decide) (fun c0 => absurd c0 (by decide)) (fun _ => ?_)
    refine lv_aload_n hx hb dX11_lies_14 rfl (lv_at hl 0 rfl) ?_
    refine va_get (D := (dC, dI)) (ci := 11) (v := .ref (r 64)) (C := RX11) (T := TX11) (N := 79) hx hb hts inB_11 hown hE.1 hP 0 rfl rfl 64 (by decide) (hts _ k_1384) (fun _ h9 => h9) rfl dX11_lies_15 ?_
    refine lv_iload_n hx hb dX11_lies_18 rfl (lv_at hl 1 rfl) ?_
    refine ldI hx hb hE hP 27 rfl (vp_in_iff.mpr ⟨by omega, by omega⟩) rfl rfl dX11_lies_19 ?_
    refine lv_topi (fun t6 et6 => ?_)
    refine lv_goto (tgt := 25) hx hb dX11_lies_20 (by decide) ?_
    exact ret t6 () _ _ _ _ _ _ rfl trivial hP hD hS dX11_lies_25 (Nat.le_refl _) (Nat.le_refl _)
  · skip
    subst g5
    refine lv_if_eq (tgt := 23) hx hb dX11_lies_11 (by decide) (fun _ => ?_) (fun c0 => absurd (by decide) c0)
    refine lv_bipush (v := (-2)) hx hb dX11_lies_23 (by decide) ?_
    exact ret (-2) () _ _ _ _ _ _ rfl trivial hP hD hS dX11_lies_25 (Nat.le_refl _) (Nat.le_refl _)
set_option maxHeartbeats 4000000 in
set_option maxRecDepth 100000 in
theorem sY_X11_seen_1 (l : Launch) (dC : Nat → ClassId) (dI : Nat → Nat → Nat) (cy : Nat → ClassId) (y0 : Nat) (r : Nat → Nat) (p1 : Int32) (p2 : Int32) (v : Nat → Int32) (f : Nat → Nat → Int32) (w : Int64) (g : Nat → Int64) (hIv : YI v) (hCf : YC f) (hRf : progOK (f 4) (f 5) (v 9).toInt.toNat)  : ctI l (dC, dI) cy yX11_seen cX11_seen 3 .int 2 82 0 0 ((Nat → Int32) × (Nat → Nat → Int32) × (Int64) × (Nat → Int64)) [.ref y0, .int p1, .int p2] (YW cy y0 r v f w g) (fun r u => YI u.1 ∧ YC u.2.1 ∧ progOK (u.2.1 4) (u.2.1 5) (u.1 9).toInt.toNat ∧ u.1 0 = v 0 ∧ u.1 1 = v 1 ∧ u.1 3 = v 3 ∧ u.1 4 = v 4 ∧ u.1 5 = v 5 ∧ u.1 8 = v 8 ∧ u.1 9 = v 9 ∧ u.1 10 = v 10 ∧ u.1 13 = v 13 ∧ u.1 14 = v 14 ∧ u.1 15 = v 15 ∧ u.1 17 = v 17 ∧ u.1 18 = v 18 ∧ u.1 24 = v 24 ∧ u.1 25 = v 25 ∧ u.1 35 = v 35 ∧ u.1 36 = v 36 ∧ u.1 39 = v 39) (fun u => YW cy y0 r u.1 u.2.1 u.2.2.1 u.2.2.2) := by
  refine ctI_of (by decide) (Nat.le_of_ble_eq_true rfl) (fun p e s m below meth c A ls Q hx hb hml hts hown hE hP hD hA hl ret => ?_)
  have hUv : (v 35).toInt + (v 36).toInt ≤ 40 := hIv.2
  have hown : s.vm.findClass RX11 = some m.cls := hown
  have hS : va_S A s.heap s.heap [] := va_S.rf
  have hl : lv_has ls 3 [(0, .ref y0), (1, .int p1), (2, .int p2)] := hl
  refine lv_iload_n hx hb dX11_seen_0 rfl (lv_at hl 1 rfl) ?_
  refine lv_iconst (v := 0) hx hb dX11_seen_1 (by decide) ?_
  refine lv_bipush (v := 20) hx hb dX11_seen_2 (by decide) ?_
  have lt1 : (0 : Int32).toInt = 0 := by decide
  have lt2 : (20 : Int32).toInt = 20 := by decide
  refine cbSi (n := 3) (rest := []) hx hb hml hown hts hE hP hD hS hA (sY_X11_isIn_1 l dC dI cy y0 r p1 0 20 v f w g hIv hCf hRf ) k_1736 k_1737 k_114 k_1738 (by decide +kernel) ⟨Nat.le_of_ble_eq_true rfl, Nat.le_of_ble_eq_true rfl⟩ (rfl) hl.1 rfl (Nat.le_of_ble_eq_true rfl) dX11_seen_4 (fun r3 u H locs hw hP hD hS => ?_)
  rcases hw with ⟨g4, g4_0, g4_1⟩ | ⟨g4⟩
  · skip
    subst g4
    refine lv_if_eq (tgt := 33) hx hb dX11_seen_7 (by decide) (fun c0 => absurd c0 (by decide)) (fun _ => ?_)
    refine lv_aload_n hx hb dX11_seen_10 rfl (lv_at hl 0 rfl) ?_
    refine va_get (D := (dC, dI)) (ci := 11) (v := .int (v 24)) (C := RX11) (T := TX11) (N := 79) hx hb hts inB_11 hown hE.1 hP 0 rfl rfl 48 (by decide) (hts _ k_1368) (fun _ h9 => h9) rfl dX11_seen_11 ?_
    have b24_v : 0 ≤ (v 24).toInt ∧ (v 24).toInt ≤ 6 := YIb.b hIv.1 24 (by decide)
    refine lv_if_eq (tgt := 33) hx hb dX11_seen_14 (by decide) (fun c5 => ?_) (fun c5 => ?_)
    · skip
      have zc5 : (v 24).toInt = 0 := by rw [fa_eq, show (0 : Int32).toInt = 0 from by decide] at c5; exact c5
      refine lv_iconst (v := (-1)) hx hb dX11_seen_33 (by decide) ?_
      exact ret (-1) (v, f, w, g) _ _ _ _ _ _ rfl ⟨hIv, hCf, hRf, rfl, rfl, rfl, rfl, rfl, rfl, rfl, rfl, rfl, rfl, rfl, rfl, rfl, rfl, rfl, rfl, rfl, rfl⟩ hP hD hS dX11_seen_34 (Nat.le_refl _) (Nat.le_refl _)
    · skip
      have zc5 : ¬ ((v 24).toInt = 0) := by rw [fa_eq, show (0 : Int32).toInt = 0 from by decide] at c5; exact c5
      refine lv_aload_n hx hb dX11_seen_17 rfl (lv_at hl 0 rfl) ?_
      refine va_get (D := (dC, dI)) (ci := 11) (v := .int (v 25)) (C := RX11) (T := TX11) (N := 79) hx hb hts inB_11 hown hE.1 hP 0 rfl rfl 49 (by decide) (hts _ k_1369) (fun _ h9 => h9) rfl dX11_seen_18 ?_
      have b25_v : 0 ≤ (v 25).toInt ∧ (v 25).toInt ≤ 6 := YIb.b hIv.1 25 (by decide)
      refine lv_if_eq (tgt := 33) hx hb dX11_seen_21 (by decide) (fun c6 => ?_) (fun c6 => ?_)
      · skip
        have zc6 : (v 25).toInt = 0 := by rw [fa_eq, show (0 : Int32).toInt = 0 from by decide] at c6; exact c6
        refine lv_iconst (v := (-1)) hx hb dX11_seen_33 (by decide) ?_
        exact ret (-1) (v, f, w, g) _ _ _ _ _ _ rfl ⟨hIv, hCf, hRf, rfl, rfl, rfl, rfl, rfl, rfl, rfl, rfl, rfl, rfl, rfl, rfl, rfl, rfl, rfl, rfl, rfl, rfl⟩ hP hD hS dX11_seen_34 (Nat.le_refl _) (Nat.le_refl _)
      · skip
        have zc6 : ¬ ((v 25).toInt = 0) := by rw [fa_eq, show (0 : Int32).toInt = 0 from by decide] at c6; exact c6
        refine lv_aload_n hx hb dX11_seen_24 rfl (lv_at hl 0 rfl) ?_
        refine va_get (D := (dC, dI)) (ci := 11) (v := .int (v 38)) (C := RX11) (T := TX11) (N := 79) hx hb hts inB_11 hown hE.1 hP 0 rfl rfl 73 (by decide) (hts _ k_1393) (fun _ h9 => h9) rfl dX11_seen_25 ?_
        have b38_v : 0 ≤ (v 38).toInt ∧ (v 38).toInt ≤ 30 := YIb.b hIv.1 38 (by decide)
        refine lv_bipush (v := 30) hx hb dX11_seen_28 (by decide) ?_
        refine lv_icmp_ne (tgt := 35) hx hb dX11_seen_30 (by decide) (fun c7 => ?_) (fun c7 => ?_)
        · skip
          have zc7 : ¬ ((v 38).toInt = 30) := by rw [fa_eq, show (30 : Int32).toInt = 30 from by decide] at c7; exact c7
          refine lv_aload_n hx hb dX11_seen_35 rfl (lv_at hl 0 rfl) ?_
          refine va_get (D := (dC, dI)) (ci := 11) (v := .ref (r 69)) (C := RX11) (T := TX11) (N := 79) hx hb hts inB_11 hown hE.1 hP 0 rfl rfl 69 (by decide) (hts _ k_1389) (fun _ h9 => h9) rfl dX11_seen_36 ?_
          refine lv_aload_n hx hb dX11_seen_39 rfl (lv_at hl 0 rfl) ?_
          refine va_get (D := (dC, dI)) (ci := 11) (v := .int (v 38)) (C := RX11) (T := TX11) (N := 79) hx hb hts inB_11 hown hE.1 hP 0 rfl rfl 73 (by decide) (hts _ k_1393) (fun _ h9 => h9) rfl dX11_seen_40 ?_
          refine lv_iload_n hx hb dX11_seen_43 rfl (lv_at hl 1 rfl) ?_
          refine stI hx hb hE hP hD hS 31 rfl (vp_in_iff.mpr ⟨by omega, by omega⟩) rfl dX11_seen_44 (fun H locs hP hD hS => ?_)
          obtain ⟨f8, ef8, hP, hD⟩ : ∃ fz9, fz9 = upd2 f 30 (upd (f 30) (v 38).toNatClampNeg p1) ∧ va_P (dC, dI) vwCl (YW cy y0 r v fz9 w g) H ∧ va_D A (YW cy y0 r v fz9 w g) := ⟨_, rfl, hP, hD⟩
          have hCf8 : YC f8 := by rw [ef8]; exact ⟨hCf.1, hCf.2.1, hCf.2.2.1, hCf.2.2.2.1, (rng_st hCf.2.2.2.2.1 (by show 0 ≤ p1.toInt ∧ p1.toInt ≤ 20; omega)), hCf.2.2.2.2.2⟩
          have hRf8 : progOK (f8 4) (f8 5) (v 9).toInt.toNat := by rw [ef8]; exact hRf
          refine lv_aload_n hx hb dX11_seen_45 rfl (lv_at hl 0 rfl) ?_
          refine va_get (D := (dC, dI)) (ci := 11) (v := .ref (r 72)) (C := RX11) (T := TX11) (N := 79) hx hb hts inB_11 hown hE.1 hP 0 rfl rfl 72 (by decide) (hts _ k_1392) (fun _ h9 => h9) rfl dX11_seen_46 ?_
          refine lv_aload_n hx hb dX11_seen_49 rfl (lv_at hl 0 rfl) ?_
          refine va_get (D := (dC, dI)) (ci := 11) (v := .int (v 38)) (C := RX11) (T := TX11) (N := 79) hx hb hts inB_11 hown hE.1 hP 0 rfl rfl 73 (by decide) (hts _ k_1393) (fun _ h9 => h9) rfl dX11_seen_50 ?_
          refine lv_iload_n hx hb dX11_seen_53 rfl (lv_at hl 2 rfl) ?_
          refine stZ hx hb hE hP hD hS 34 rfl (vp_in_iff.mpr ⟨by omega, by omega⟩) rfl dX11_seen_54 (fun H locs hP hD hS => ?_)
          obtain ⟨f9, ef9, hP, hD⟩ : ∃ fz9, fz9 = upd2 f8 33 (upd (f8 33) (v 38).toNatClampNeg (vp_nar .boolean p2)) ∧ va_P (dC, dI) vwCl (YW cy y0 r v fz9 w g) H ∧ va_D A (YW cy y0 r v fz9 w g) := ⟨_, rfl, hP, hD⟩
          have hCf9 : YC f9 := by rw [ef9]; exact hCf8
          have hRf9 : progOK (f9 4) (f9 5) (v 9).toInt.toNat := by rw [ef9]; exact hRf8
          refine lv_aload_n hx hb dX11_seen_55 rfl (lv_at hl 0 rfl) ?_
          refine va_get (D := (dC, dI)) (ci := 11) (v := .ref (r 70)) (C := RX11) (T := TX11) (N := 79) hx hb hts inB_11 hown hE.1 hP 0 rfl rfl 70 (by decide) (hts _ k_1390) (fun _ h9 => h9) rfl dX11_seen_56 ?_
          refine lv_aload_n hx hb dX11_seen_59 rfl (lv_at hl 0 rfl) ?_
          refine va_get (D := (dC, dI)) (ci := 11) (v := .int (v 38)) (C := RX11) (T := TX11) (N := 79) hx hb hts inB_11 hown hE.1 hP 0 rfl rfl 73 (by decide) (hts _ k_1393) (fun _ h9 => h9) rfl dX11_seen_60 ?_
          refine lv_aload_n hx hb dX11_seen_63 rfl (lv_at hl 0 rfl) ?_
          refine va_get (D := (dC, dI)) (ci := 11) (v := .int (v 39)) (C := RX11) (T := TX11) (N := 79) hx hb hts inB_11 hown hE.1 hP 0 rfl rfl 74 (by decide) (hts _ k_1394) (fun _ h9 => h9) rfl dX11_seen_64 ?_
          have b39_v : 0 ≤ (v 39).toInt ∧ (v 39).toInt ≤ 100000 := YIb.b hIv.1 39 (by decide)
          refine stI hx hb hE hP hD hS 32 rfl (vp_in_iff.mpr ⟨by omega, by omega⟩) rfl dX11_seen_67 (fun H locs hP hD hS => ?_)
          obtain ⟨f10, ef10, hP, hD⟩ : ∃ fz9, fz9 = upd2 f9 31 (upd (f9 31) (v 38).toNatClampNeg (v 39)) ∧ va_P (dC, dI) vwCl (YW cy y0 r v fz9 w g) H ∧ va_D A (YW cy y0 r v fz9 w g) := ⟨_, rfl, hP, hD⟩
          have hCf10 : YC f10 := by rw [ef10]; exact hCf9
          have hRf10 : progOK (f10 4) (f10 5) (v 9).toInt.toNat := by rw [ef10]; exact hRf9
          refine lv_aload_n hx hb dX11_seen_68 rfl (lv_at hl 0 rfl) ?_
          refine va_get (D := (dC, dI)) (ci := 11) (v := .ref (r 71)) (C := RX11) (T := TX11) (N := 79) hx hb hts inB_11 hown hE.1 hP 0 rfl rfl 71 (by decide) (hts _ k_1391) (fun _ h9 => h9) rfl dX11_seen_69 ?_
          refine lv_aload_n hx hb dX11_seen_72 rfl (lv_at hl 0 rfl) ?_
          refine va_get (D := (dC, dI)) (ci := 11) (v := .int (v 38)) (C := RX11) (T := TX11) (N := 79) hx hb hts inB_11 hown hE.1 hP 0 rfl rfl 73 (by decide) (hts _ k_1393) (fun _ h9 => h9) rfl dX11_seen_73 ?_
          refine lv_iconst (v := (-1)) hx hb dX11_seen_76 (by decide) ?_
          refine stI hx hb hE hP hD hS 33 rfl (vp_in_iff.mpr ⟨by omega, by omega⟩) rfl dX11_seen_77 (fun H locs hP hD hS => ?_)
          obtain ⟨f11, ef11, hP, hD⟩ : ∃ fz9, fz9 = upd2 f10 32 (upd (f10 32) (v 38).toNatClampNeg (-1)) ∧ va_P (dC, dI) vwCl (YW cy y0 r v fz9 w g) H ∧ va_D A (YW cy y0 r v fz9 w g) := ⟨_, rfl, hP, hD⟩
          have hCf11 : YC f11 := by rw [ef11]; exact hCf10
          have hRf11 : progOK (f11 4) (f11 5) (v 9).toInt.toNat := by rw [ef11]; exact hRf10
          refine lv_aload_n hx hb dX11_seen_78 rfl (lv_at hl 0 rfl) ?_
          refine lv_dup hx hb dX11_seen_79 rfl ?_
          refine va_get (D := (dC, dI)) (ci := 11) (v := .int (v 38)) (C := RX11) (T := TX11) (N := 79) hx hb hts inB_11 hown hE.1 hP 0 rfl rfl 73 (by decide) (hts _ k_1393) (fun _ h9 => h9) rfl dX11_seen_80 ?_
          refine lv_iconst (v := 1) hx hb dX11_seen_83 (by decide) ?_
          refine lv_iadd hx hb dX11_seen_84 ?_
          refine lv_topi (fun t12 et12 => ?_)
          have rg13 := fb_rng (v 38)
          have zt12 : t12.toInt = (v 38).toInt + 1 := by rw [et12]; exact add_i rfl (by decide) (by omega) (by omega)
          refine va_put (D := (dC, dI)) (ci := 11) (v := .int t12) (ty := tyX11 73) (C := RX11) (T := TX11) (N := 79) hx hb hts inB_11 tyX11 tyX11_ok nmX11 hown hE.1 hP hD hS 0 rfl rfl 73 (by decide) (hts _ k_1393) (fun _ h9 => h9) rfl (tyX11_ok 73 (by decide)) rfl rfl (Nat.le_of_ble_eq_true rfl) dX11_seen_85 (fun H locs hP hD hS => ?_)
          have hP : va_P (dC, dI) vwCl (YW cy y0 r (upd v 38 t12) f11 w g) H := hP
          have hD : va_D A (YW cy y0 r (upd v 38 t12) f11 w g) := hD
          refine lv_aload_n hx hb dX11_seen_88 rfl (lv_at hl 0 rfl) ?_
          refine va_get (D := (dC, dI)) (ci := 11) (v := .int t12) (C := RX11) (T := TX11) (N := 79) hx hb hts inB_11 hown hE.1 hP 0 rfl rfl 73 (by decide) (hts _ k_1393) (fun _ h9 => h9) rfl dX11_seen_89 ?_
          refine lv_iconst (v := 1) hx hb dX11_seen_92 (by decide) ?_
          refine lv_isub hx hb dX11_seen_93 ?_
          refine lv_topi (fun t14 et14 => ?_)
          have rg15 := fb_rng t12
          have zt14 : t14.toInt = t12.toInt - 1 := by rw [et14]; exact sub_i rfl (by decide) (by omega) (by omega)
          exact ret t14 ((upd v 38 t12), f11, w, g) _ _ _ _ _ _ rfl ⟨⟨(YIb.upd (j := 38) (x := t12) hIv.1 (show (0 : Int) ≤ t12.toInt by omega) (show t12.toInt ≤ (30 : Int) by omega)), hIv.2⟩, hCf11, hRf11, rfl, rfl, rfl, rfl, rfl, rfl, rfl, rfl, rfl, rfl, rfl, rfl, rfl, rfl, rfl, rfl, rfl, rfl⟩ hP hD hS dX11_seen_94 (Nat.le_refl _) (Nat.le_refl _)
        · skip
          have zc7 : (v 38).toInt = 30 := by rw [fa_eq, show (30 : Int32).toInt = 30 from by decide] at c7; exact c7
          refine lv_iconst (v := (-1)) hx hb dX11_seen_33 (by decide) ?_
          exact ret (-1) (v, f, w, g) _ _ _ _ _ _ rfl ⟨hIv, hCf, hRf, rfl, rfl, rfl, rfl, rfl, rfl, rfl, rfl, rfl, rfl, rfl, rfl, rfl, rfl, rfl, rfl, rfl, rfl⟩ hP hD hS dX11_seen_34 (Nat.le_refl _) (Nat.le_refl _)
  · skip
    subst g4
    refine lv_if_eq (tgt := 33) hx hb dX11_seen_7 (by decide) (fun _ => ?_) (fun c0 => absurd (by decide) c0)
    refine lv_iconst (v := (-1)) hx hb dX11_seen_33 (by decide) ?_
    exact ret (-1) (v, f, w, g) _ _ _ _ _ _ rfl ⟨hIv, hCf, hRf, rfl, rfl, rfl, rfl, rfl, rfl, rfl, rfl, rfl, rfl, rfl, rfl, rfl, rfl, rfl, rfl, rfl, rfl⟩ hP hD hS dX11_seen_34 (Nat.le_refl _) (Nat.le_refl _)
set_option maxHeartbeats 4000000 in
set_option maxRecDepth 100000 in
theorem sY_X11_untell_1 (l : Launch) (dC : Nat → ClassId) (dI : Nat → Nat → Nat) (cy : Nat → ClassId) (y0 : Nat) (r : Nat → Nat) (p1 : Int32) (v : Nat → Int32) (f : Nat → Nat → Int32) (w : Int64) (g : Nat → Int64) (hIv : YI v) (hCf : YC f) (hRf : progOK (f 4) (f 5) (v 9).toInt.toNat)  : ctI l (dC, dI) cy yX11_untell cX11_untell 2 .boolean 2 82 0 0 ((Nat → Int32) × (Nat → Nat → Int32) × (Int64) × (Nat → Int64)) [.ref y0, .int p1] (YW cy y0 r v f w g) (fun r u => YI u.1 ∧ YC u.2.1 ∧ progOK (u.2.1 4) (u.2.1 5) (u.1 9).toInt.toNat ∧ u.1 0 = v 0 ∧ u.1 1 = v 1 ∧ u.1 3 = v 3 ∧ u.1 4 = v 4 ∧ u.1 5 = v 5 ∧ u.1 8 = v 8 ∧ u.1 9 = v 9 ∧ u.1 10 = v 10 ∧ u.1 13 = v 13 ∧ u.1 14 = v 14 ∧ u.1 15 = v 15 ∧ u.1 17 = v 17 ∧ u.1 18 = v 18 ∧ u.1 24 = v 24 ∧ u.1 25 = v 25 ∧ u.1 35 = v 35 ∧ u.1 36 = v 36 ∧ u.1 38 = v 38 ∧ u.1 39 = v 39 ∧ ((r = 1) ∨ (r = 0))) (fun u => YW cy y0 r u.1 u.2.1 u.2.2.1 u.2.2.2) := by
  refine ctI_of (by decide) (Nat.le_of_ble_eq_true rfl) (fun p e s m below meth c A ls Q hx hb hml hts hown hE hP hD hA hl ret => ?_)
  have hUv : (v 35).toInt + (v 36).toInt ≤ 40 := hIv.2
  have hown : s.vm.findClass RX11 = some m.cls := hown
  have hS : va_S A s.heap s.heap [] := va_S.rf
  have hl : lv_has ls 2 [(0, .ref y0), (1, .int p1)] := hl
  refine lv_iload_n hx hb dX11_untell_0 rfl (lv_at hl 1 rfl) ?_
  refine lv_iconst (v := 0) hx hb dX11_untell_1 (by decide) ?_
  refine lv_aload_n hx hb dX11_untell_2 rfl (lv_at hl 0 rfl) ?_
  refine va_get (D := (dC, dI)) (ci := 11) (v := .int (v 38)) (C := RX11) (T := TX11) (N := 79) hx hb hts inB_11 hown hE.1 hP 0 rfl rfl 73 (by decide) (hts _ k_1393) (fun _ h9 => h9) rfl dX11_untell_3 ?_
  have b38_v : 0 ≤ (v 38).toInt ∧ (v 38).toInt ≤ 30 := YIb.b hIv.1 38 (by decide)
  refine lv_iconst (v := 1) hx hb dX11_untell_6 (by decide) ?_
  refine lv_isub hx hb dX11_untell_7 ?_
  refine lv_topi (fun t1 et1 => ?_)
  have rg2 := fb_rng (v 38)
  have zt1 : t1.toInt = (v 38).toInt - 1 := by rw [et1]; exact sub_i rfl (by decide) (by omega) (by omega)
  have lt3 : (0 : Int32).toInt = 0 := by decide
  refine cbSi (n := 3) (rest := []) hx hb hml hown hts hE hP hD hS hA (sY_X11_isIn_1 l dC dI cy y0 r p1 0 t1 v f w g hIv hCf hRf ) k_1736 k_1737 k_114 k_1738 (by decide +kernel) ⟨Nat.le_of_ble_eq_true rfl, Nat.le_of_ble_eq_true rfl⟩ (rfl) hl.1 rfl (Nat.le_of_ble_eq_true rfl) dX11_untell_8 (fun r4 u H locs hw hP hD hS => ?_)
  rcases hw with ⟨g5, g5_0, g5_1⟩ | ⟨g5⟩
  · skip
    subst g5
    refine lv_if_eq (tgt := 23) hx hb dX11_untell_11 (by decide) (fun c0 => absurd c0 (by decide)) (fun _ => ?_)
    refine lv_aload_n hx hb dX11_untell_14 rfl (lv_at hl 0 rfl) ?_
    refine va_get (D := (dC, dI)) (ci := 11) (v := .ref (r 71)) (C := RX11) (T := TX11) (N := 79) hx hb hts inB_11 hown hE.1 hP 0 rfl rfl 71 (by decide) (hts _ k_1391) (fun _ h9 => h9) rfl dX11_untell_15 ?_
    refine lv_iload_n hx hb dX11_untell_18 rfl (lv_at hl 1 rfl) ?_
    refine ldI hx hb hE hP 33 rfl (vp_in_iff.mpr ⟨by omega, by omega⟩) rfl rfl dX11_untell_19 ?_
    refine lv_topi (fun t6 et6 => ?_)
    refine lv_if_lt (tgt := 25) hx hb dX11_untell_20 (by decide) (fun c7 => ?_) (fun c7 => ?_)
    · skip
      have zc7 : t6.toInt < 0 := by rw [fa_lt, show (0 : Int32).toInt = 0 from by decide] at c7; exact c7
      refine lv_aload_n hx hb dX11_untell_25 rfl (lv_at hl 0 rfl) ?_
      refine va_get (D := (dC, dI)) (ci := 11) (v := .ref (r 71)) (C := RX11) (T := TX11) (N := 79) hx hb hts inB_11 hown hE.1 hP 0 rfl rfl 71 (by decide) (hts _ k_1391) (fun _ h9 => h9) rfl dX11_untell_26 ?_
      refine lv_iload_n hx hb dX11_untell_29 rfl (lv_at hl 1 rfl) ?_
      refine lv_aload_n hx hb dX11_untell_30 rfl (lv_at hl 0 rfl) ?_
      refine va_get (D := (dC, dI)) (ci := 11) (v := .int (v 39)) (C := RX11) (T := TX11) (N := 79) hx hb hts inB_11 hown hE.1 hP 0 rfl rfl 74 (by decide) (hts _ k_1394) (fun _ h9 => h9) rfl dX11_untell_31 ?_
      have b39_v : 0 ≤ (v 39).toInt ∧ (v 39).toInt ≤ 100000 := YIb.b hIv.1 39 (by decide)
      refine stI hx hb hE hP hD hS 33 rfl (vp_in_iff.mpr ⟨by omega, by omega⟩) rfl dX11_untell_34 (fun H locs hP hD hS => ?_)
      obtain ⟨f8, ef8, hP, hD⟩ : ∃ fz9, fz9 = upd2 f 32 (upd (f 32) p1.toNatClampNeg (v 39)) ∧ va_P (dC, dI) vwCl (YW cy y0 r v fz9 w g) H ∧ va_D A (YW cy y0 r v fz9 w g) := ⟨_, rfl, hP, hD⟩
      have hCf8 : YC f8 := by rw [ef8]; exact hCf
      have hRf8 : progOK (f8 4) (f8 5) (v 9).toInt.toNat := by rw [ef8]; exact hRf
      refine lv_iconst (v := 1) hx hb dX11_untell_35 (by decide) ?_
      exact ret 1 (v, f8, w, g) _ _ _ _ _ _ rfl ⟨hIv, hCf8, hRf8, rfl, rfl, rfl, rfl, rfl, rfl, rfl, rfl, rfl, rfl, rfl, rfl, rfl, rfl, rfl, rfl, rfl, rfl, rfl, (Or.inl rfl)⟩ hP hD hS dX11_untell_36 (Nat.le_refl _) (Nat.le_refl _)
    · skip
      have zc7 : ¬ (t6.toInt < 0) := by rw [fa_lt, show (0 : Int32).toInt = 0 from by decide] at c7; exact c7
      refine lv_iconst (v := 0) hx hb dX11_untell_23 (by decide) ?_
      exact ret 0 (v, f, w, g) _ _ _ _ _ _ rfl ⟨hIv, hCf, hRf, rfl, rfl, rfl, rfl, rfl, rfl, rfl, rfl, rfl, rfl, rfl, rfl, rfl, rfl, rfl, rfl, rfl, rfl, rfl, (Or.inr rfl)⟩ hP hD hS dX11_untell_24 (Nat.le_refl _) (Nat.le_refl _)
  · skip
    subst g5
    refine lv_if_eq (tgt := 23) hx hb dX11_untell_11 (by decide) (fun _ => ?_) (fun c0 => absurd (by decide) c0)
    refine lv_iconst (v := 0) hx hb dX11_untell_23 (by decide) ?_
    exact ret 0 (v, f, w, g) _ _ _ _ _ _ rfl ⟨hIv, hCf, hRf, rfl, rfl, rfl, rfl, rfl, rfl, rfl, rfl, rfl, rfl, rfl, rfl, rfl, rfl, rfl, rfl, rfl, rfl, rfl, (Or.inr rfl)⟩ hP hD hS dX11_untell_24 (Nat.le_refl _) (Nat.le_refl _)
set_option maxHeartbeats 4000000 in
set_option maxRecDepth 100000 in
theorem sY_X11_later_1 (l : Launch) (dC : Nat → ClassId) (dI : Nat → Nat → Nat) (cy : Nat → ClassId) (y0 : Nat) (r : Nat → Nat) (p1 : Int32) (v : Nat → Int32) (f : Nat → Nat → Int32) (w : Int64) (g : Nat → Int64) (hIv : YI v) (hCf : YC f) (hRf : progOK (f 4) (f 5) (v 9).toInt.toNat)  : ctI l (dC, dI) cy yX11_later cX11_later 2 .int 1 60 0 0 ((Nat → Int32) × (Nat → Nat → Int32) × (Int64) × (Nat → Int64)) [.ref y0, .int p1] (YW cy y0 r v f w g) (fun r u => YI u.1 ∧ YC u.2.1 ∧ progOK (u.2.1 4) (u.2.1 5) (u.1 9).toInt.toNat ∧ u.1 0 = v 0 ∧ u.1 1 = v 1 ∧ u.1 3 = v 3 ∧ u.1 4 = v 4 ∧ u.1 5 = v 5 ∧ u.1 8 = v 8 ∧ u.1 9 = v 9 ∧ u.1 10 = v 10 ∧ u.1 13 = v 13 ∧ u.1 14 = v 14 ∧ u.1 15 = v 15 ∧ u.1 17 = v 17 ∧ u.1 18 = v 18 ∧ u.1 24 = v 24 ∧ u.1 25 = v 25 ∧ u.1 35 = v 35 ∧ u.1 36 = v 36 ∧ u.1 38 = v 38) (fun u => YW cy y0 r u.1 u.2.1 u.2.2.1 u.2.2.2) := by
  refine ctI_of (by decide) (Nat.le_of_ble_eq_true rfl) (fun p e s m below meth c A ls Q hx hb hml hts hown hE hP hD hA hl ret => ?_)
  have hUv : (v 35).toInt + (v 36).toInt ≤ 40 := hIv.2
  have hown : s.vm.findClass RX11 = some m.cls := hown
  have hS : va_S A s.heap s.heap [] := va_S.rf
  have hl : lv_has ls 2 [(0, .ref y0), (1, .int p1)] := hl
  refine lv_iload_n hx hb dX11_later_0 rfl (lv_at hl 1 rfl) ?_
  refine lv_if_lt (tgt := 23) hx hb dX11_later_1 (by decide) (fun c1 => ?_) (fun c1 => ?_)
  · skip
    have zc1 : p1.toInt < 0 := by rw [fa_lt, show (0 : Int32).toInt = 0 from by decide] at c1; exact c1
    refine lv_iconst (v := (-1)) hx hb dX11_later_23 (by decide) ?_
    exact ret (-1) (v, f, w, g) _ _ _ _ _ _ rfl ⟨hIv, hCf, hRf, rfl, rfl, rfl, rfl, rfl, rfl, rfl, rfl, rfl, rfl, rfl, rfl, rfl, rfl, rfl, rfl, rfl, rfl⟩ hP hD hS dX11_later_24 (Nat.le_refl _) (Nat.le_refl _)
  · skip
    have zc1 : ¬ (p1.toInt < 0) := by rw [fa_lt, show (0 : Int32).toInt = 0 from by decide] at c1; exact c1
    refine lv_iload_n hx hb dX11_later_4 rfl (lv_at hl 1 rfl) ?_
    refine lv_sipush (v := 1000) hx hb dX11_later_5 (by decide) ?_
    refine lv_icmp_gt (tgt := 23) hx hb dX11_later_8 (by decide) (fun c2 => ?_) (fun c2 => ?_)
    · skip
      have zc2 : 1000 < p1.toInt := by rw [fa_lt, show (1000 : Int32).toInt = 1000 from by decide] at c2; exact c2
      refine lv_iconst (v := (-1)) hx hb dX11_later_23 (by decide) ?_
      exact ret (-1) (v, f, w, g) _ _ _ _ _ _ rfl ⟨hIv, hCf, hRf, rfl, rfl, rfl, rfl, rfl, rfl, rfl, rfl, rfl, rfl, rfl, rfl, rfl, rfl, rfl, rfl, rfl, rfl⟩ hP hD hS dX11_later_24 (Nat.le_refl _) (Nat.le_refl _)
    · skip
      have zc2 : ¬ (1000 < p1.toInt) := by rw [fa_lt, show (1000 : Int32).toInt = 1000 from by decide] at c2; exact c2
      refine lv_aload_n hx hb dX11_later_11 rfl (lv_at hl 0 rfl) ?_
      refine va_get (D := (dC, dI)) (ci := 11) (v := .int (v 39)) (C := RX11) (T := TX11) (N := 79) hx hb hts inB_11 hown hE.1 hP 0 rfl rfl 74 (by decide) (hts _ k_1394) (fun _ h9 => h9) rfl dX11_later_12 ?_
      have b39_v : 0 ≤ (v 39).toInt ∧ (v 39).toInt ≤ 100000 := YIb.b hIv.1 39 (by decide)
      refine lv_iload_n hx hb dX11_later_15 rfl (lv_at hl 1 rfl) ?_
      refine lv_iadd hx hb dX11_later_16 ?_
      refine lv_topi (fun t3 et3 => ?_)
      have rg4 := fb_rng (v 39)
      have rg5 := fb_rng p1
      have zt3 : t3.toInt = (v 39).toInt + p1.toInt := by rw [et3]; exact add_i rfl rfl (by omega) (by omega)
      refine lv_ldcw (v := 100000) hx hb hown (hts _ k_2019) dX11_later_17 ?_
      refine lv_icmp_le (tgt := 25) hx hb dX11_later_20 (by decide) (fun c6 => ?_) (fun c6 => ?_)
      · skip
        have zc6 : t3.toInt ≤ 100000 := by rw [fa_le, show (100000 : Int32).toInt = 100000 from by decide] at c6; exact c6
        refine lv_aload_n hx hb dX11_later_25 rfl (lv_at hl 0 rfl) ?_
        refine lv_dup hx hb dX11_later_26 rfl ?_
        refine va_get (D := (dC, dI)) (ci := 11) (v := .int (v 39)) (C := RX11) (T := TX11) (N := 79) hx hb hts inB_11 hown hE.1 hP 0 rfl rfl 74 (by decide) (hts _ k_1394) (fun _ h9 => h9) rfl dX11_later_27 ?_
        refine lv_iload_n hx hb dX11_later_30 rfl (lv_at hl 1 rfl) ?_
        refine lv_iadd hx hb dX11_later_31 ?_
        refine tI (y := t3) et3.symm ?_
        refine va_put (D := (dC, dI)) (ci := 11) (v := .int t3) (ty := tyX11 74) (C := RX11) (T := TX11) (N := 79) hx hb hts inB_11 tyX11 tyX11_ok nmX11 hown hE.1 hP hD hS 0 rfl rfl 74 (by decide) (hts _ k_1394) (fun _ h9 => h9) rfl (tyX11_ok 74 (by decide)) rfl rfl (Nat.le_of_ble_eq_true rfl) dX11_later_32 (fun H locs hP hD hS => ?_)
        have hP : va_P (dC, dI) vwCl (YW cy y0 r (upd v 39 t3) f w g) H := hP
        have hD : va_D A (YW cy y0 r (upd v 39 t3) f w g) := hD
        refine lv_aload_n hx hb dX11_later_35 rfl (lv_at hl 0 rfl) ?_
        refine va_get (D := (dC, dI)) (ci := 11) (v := .int t3) (C := RX11) (T := TX11) (N := 79) hx hb hts inB_11 hown hE.1 hP 0 rfl rfl 74 (by decide) (hts _ k_1394) (fun _ h9 => h9) rfl dX11_later_36 ?_
        exact ret t3 ((upd v 39 t3), f, w, g) _ _ _ _ _ _ rfl ⟨⟨(YIb.upd (j := 39) (x := t3) hIv.1 (show (0 : Int) ≤ t3.toInt by omega) (show t3.toInt ≤ (100000 : Int) by omega)), hIv.2⟩, hCf, hRf, rfl, rfl, rfl, rfl, rfl, rfl, rfl, rfl, rfl, rfl, rfl, rfl, rfl, rfl, rfl, rfl, rfl, rfl⟩ hP hD hS dX11_later_39 (Nat.le_refl _) (Nat.le_refl _)
      · skip
        have zc6 : ¬ (t3.toInt ≤ 100000) := by rw [fa_le, show (100000 : Int32).toInt = 100000 from by decide] at c6; exact c6
        refine lv_iconst (v := (-1)) hx hb dX11_later_23 (by decide) ?_
        exact ret (-1) (v, f, w, g) _ _ _ _ _ _ rfl ⟨hIv, hCf, hRf, rfl, rfl, rfl, rfl, rfl, rfl, rfl, rfl, rfl, rfl, rfl, rfl, rfl, rfl, rfl, rfl, rfl, rfl⟩ hP hD hS dX11_later_24 (Nat.le_refl _) (Nat.le_refl _)
set_option maxHeartbeats 4000000 in
set_option maxRecDepth 100000 in
theorem sY_X11_fitsGrowth_1 (l : Launch) (dC : Nat → ClassId) (dI : Nat → Nat → Nat) (cy : Nat → ClassId) (y0 : Nat) (r : Nat → Nat) (p1 : Int32) (p2 : Int32) (v : Nat → Int32) (f : Nat → Nat → Int32) (w : Int64) (g : Nat → Int64) (hIv : YI v) (hCf : YC f) (hRf : progOK (f 4) (f 5) (v 9).toInt.toNat) (hp1 : (0 : Int) ≤ p1.toInt ∧ p1.toInt ≤ 30) : ctI l (dC, dI) cy yX11_fitsGrowth cX11_fitsGrowth 5 .boolean 1 60 0 0 Unit [.ref y0, .int p1, .int p2] (YW cy y0 r v f w g) (fun r u => ((r = 1) ∨ (r = 0))) (fun u => YW cy y0 r v f w g) := by
  refine ctI_of (by decide) (Nat.le_of_ble_eq_true rfl) (fun p e s m below meth c A ls Q hx hb hml hts hown hE hP hD hA hl ret => ?_)
  have hUv : (v 35).toInt + (v 36).toInt ≤ 40 := hIv.2
  have hown : s.vm.findClass RX11 = some m.cls := hown
  have hS : va_S A s.heap s.heap [] := va_S.rf
  have hl : lv_has ls 5 [(0, .ref y0), (1, .int p1), (2, .int p2)] := hl
  refine lv_iconst (v := 1) hx hb dX11_fitsGrowth_0 (by decide) ?_
  refine lv_istore_n (lv' := [(3, .int 1), (0, .ref y0), (1, .int p1), (2, .int p2)]) hx hb dX11_fitsGrowth_1 rfl hl (by decide) rfl (fun ls hl => ?_)
  refine lv_iconst (v := 0) hx hb dX11_fitsGrowth_2 (by decide) ?_
  refine lv_istore (lv' := [(4, .int 0), (3, .int 1), (0, .ref y0), (1, .int p1), (2, .int p2)]) hx hb dX11_fitsGrowth_3 hl (by decide) rfl (fun ls hl => ?_)
  have lp1 : ∀ (n1 : Nat) (l3_1 : Int32) (l4_1 : Int32), ((0 : Int) ≤ l3_1.toInt ∧ l3_1.toInt ≤ 1) → ((0 : Int) ≤ l4_1.toInt ∧ l4_1.toInt ≤ 2147483647) → (2147483647 - l4_1.toInt).toNat < n1 → ∀ (H : Heap) (locs : List Loc) (ls : Array Slot), va_P (dC, dI) vwCl (YW cy y0 r v f w g) H → va_D A (YW cy y0 r v f w g) → va_S A s.heap H locs → lv_has ls 5 [(4, .int l4_1), (3, .int l3_1), (0, .ref y0), (1, .int p1), (2, .int p2)] → W p l e { frames := 1, cells := 0, slots := 0, locals := 60 } s m ([.ref y0, .int p1, .int p2] : List Value).toArray below meth c H locs 0 0 Q (F0 m 5 ls []) := by
    intro n1
    induction n1 with
    | zero => intro l3_1 l4_1 hr3_1 hr4_1 hm; exact absurd hm (Nat.not_lt_zero _)
    | succ n1 ih1 =>
      intro l3_1 l4_1 hr3_1 hr4_1 hm1 H locs ls hP hD hS hl
      refine lv_iload hx hb dX11_fitsGrowth_5 (lv_at hl 0 rfl) ?_
      refine lv_aload_n hx hb dX11_fitsGrowth_7 rfl (lv_at hl 2 rfl) ?_
      refine va_get (D := (dC, dI)) (ci := 11) (v := .int (v 38)) (C := RX11) (T := TX11) (N := 79) hx hb hts inB_11 hown hE.1 hP 0 rfl rfl 73 (by decide) (hts _ k_1393) (fun _ h9 => h9) rfl dX11_fitsGrowth_8 ?_
      have b38_v : 0 ≤ (v 38).toInt ∧ (v 38).toInt ≤ 30 := YIb.b hIv.1 38 (by decide)
      refine lv_icmp_ge (tgt := 92) hx hb dX11_fitsGrowth_11 (by decide) (fun c2 => ?_) (fun c2 => ?_)
      · skip
        have zc2 : (v 38).toInt ≤ l4_1.toInt := by rw [fa_le] at c2; exact c2
        have rg3 := fb_rng l4_1
        have rg4 := fb_rng (v 38)
        refine lv_iload_n hx hb dX11_fitsGrowth_92 rfl (lv_at hl 1 rfl) ?_
        rcases b01 (x := l3_1) (by omega) (by omega) with h5 | h5
        · skip
          refine tI (y := 1) h5 ?_
          exact ret 1 () _ _ _ _ _ _ rfl (Or.inl rfl) hP hD hS dX11_fitsGrowth_93 (Nat.le_refl _) (Nat.le_refl _)
        · skip
          refine tI (y := 0) h5 ?_
          exact ret 0 () _ _ _ _ _ _ rfl (Or.inr rfl) hP hD hS dX11_fitsGrowth_93 (Nat.le_refl _) (Nat.le_refl _)
      · skip
        have zc2 : ¬ ((v 38).toInt ≤ l4_1.toInt) := by rw [fa_le] at c2; exact c2
        have rg6 := fb_rng l4_1
        have rg7 := fb_rng (v 38)
        refine lv_iload_n hx hb dX11_fitsGrowth_14 rfl (lv_at hl 1 rfl) ?_
        refine lv_if_eq (tgt := 92) hx hb dX11_fitsGrowth_15 (by decide) (fun c8 => ?_) (fun c8 => ?_)
        · skip
          have zc8 : l3_1.toInt = 0 := by rw [fa_eq, show (0 : Int32).toInt = 0 from by decide] at c8; exact c8
          refine lv_iload_n hx hb dX11_fitsGrowth_92 rfl (lv_at hl 1 rfl) ?_
          rcases b01 (x := l3_1) (by omega) (by omega) with h9 | h9
          · skip
            refine tI (y := 1) h9 ?_
            exact ret 1 () _ _ _ _ _ _ rfl (Or.inl rfl) hP hD hS dX11_fitsGrowth_93 (Nat.le_refl _) (Nat.le_refl _)
          · skip
            refine tI (y := 0) h9 ?_
            exact ret 0 () _ _ _ _ _ _ rfl (Or.inr rfl) hP hD hS dX11_fitsGrowth_93 (Nat.le_refl _) (Nat.le_refl _)
        · skip
          have zc8 : ¬ (l3_1.toInt = 0) := by rw [fa_eq, show (0 : Int32).toInt = 0 from by decide] at c8; exact c8
          refine lv_aload_n hx hb dX11_fitsGrowth_18 rfl (lv_at hl 2 rfl) ?_
          refine va_get (D := (dC, dI)) (ci := 11) (v := .ref (r 70)) (C := RX11) (T := TX11) (N := 79) hx hb hts inB_11 hown hE.1 hP 0 rfl rfl 70 (by decide) (hts _ k_1390) (fun _ h9 => h9) rfl dX11_fitsGrowth_19 ?_
          refine lv_iload hx hb dX11_fitsGrowth_22 (lv_at hl 0 rfl) ?_
          refine ldI hx hb hE hP 32 rfl (vp_in_iff.mpr ⟨by omega, by omega⟩) rfl rfl dX11_fitsGrowth_24 ?_
          refine lv_topi (fun t10 et10 => ?_)
          refine lv_iload_n hx hb dX11_fitsGrowth_25 rfl (lv_at hl 4 rfl) ?_
          refine lv_icmp_gt (tgt := 86) hx hb dX11_fitsGrowth_26 (by decide) (fun c11 => ?_) (fun c11 => ?_)
          · skip
            have zc11 : p2.toInt < t10.toInt := by rw [fa_lt] at c11; exact c11
            have rg12 := fb_rng t10
            have rg13 := fb_rng p2
            obtain ⟨t14, et14⟩ : ∃ y : Int32, y = l4_1 + 1 := ⟨_, rfl⟩
            have zt14 : t14.toInt = l4_1.toInt + 1 := by rw [et14]; exact add_i rfl (by decide) (by omega) (by omega)
            refine lv_iinc (v := t14) (lv' := [(4, .int t14), (3, .int l3_1), (0, .ref y0), (1, .int p1), (2, .int p2)]) hx hb dX11_fitsGrowth_86 hl (k := 0) rfl (by rw [et14]; rfl) (by decide) rfl (fun ls hl => ?_)
            refine lv_goto (tgt := 5) hx hb dX11_fitsGrowth_89 (by decide) ?_
            have rg15 := fb_rng l3_1
            have rg16 := fb_rng t14
            exact ih1 l3_1 t14 ⟨show (0 : Int) ≤ l3_1.toInt by omega, show l3_1.toInt ≤ (1 : Int) by omega⟩ ⟨show (0 : Int) ≤ t14.toInt by omega, show t14.toInt ≤ (2147483647 : Int) by omega⟩ (by show (2147483647 - t14.toInt).toNat < n1; omega) _ _ _ hP hD hS (lv_sub hl [0, 1, 2, 3, 4] rfl)
          · skip
            have zc11 : ¬ (p2.toInt < t10.toInt) := by rw [fa_lt] at c11; exact c11
            have rg17 := fb_rng t10
            have rg18 := fb_rng p2
            refine lv_aload_n hx hb dX11_fitsGrowth_29 rfl (lv_at hl 2 rfl) ?_
            refine va_get (D := (dC, dI)) (ci := 11) (v := .ref (r 71)) (C := RX11) (T := TX11) (N := 79) hx hb hts inB_11 hown hE.1 hP 0 rfl rfl 71 (by decide) (hts _ k_1391) (fun _ h9 => h9) rfl dX11_fitsGrowth_30 ?_
            refine lv_iload hx hb dX11_fitsGrowth_33 (lv_at hl 0 rfl) ?_
            refine ldI hx hb hE hP 33 rfl (vp_in_iff.mpr ⟨by omega, by omega⟩) rfl rfl dX11_fitsGrowth_35 ?_
            refine lv_topi (fun t19 et19 => ?_)
            refine lv_if_lt (tgt := 53) hx hb dX11_fitsGrowth_36 (by decide) (fun c20 => ?_) (fun c20 => ?_)
            · skip
              have zc20 : t19.toInt < 0 := by rw [fa_lt, show (0 : Int32).toInt = 0 from by decide] at c20; exact c20
              refine lv_aload_n hx hb dX11_fitsGrowth_53 rfl (lv_at hl 2 rfl) ?_
              refine va_get (D := (dC, dI)) (ci := 11) (v := .ref (r 75)) (C := RX11) (T := TX11) (N := 79) hx hb hts inB_11 hown hE.1 hP 0 rfl rfl 75 (by decide) (hts _ k_1395) (fun _ h9 => h9) rfl dX11_fitsGrowth_54 ?_
              refine lv_bipush (v := 21) hx hb dX11_fitsGrowth_57 (by decide) ?_
              refine lv_iload_n hx hb dX11_fitsGrowth_59 rfl (lv_at hl 3 rfl) ?_
              refine lv_imul hx hb dX11_fitsGrowth_60 ?_
              refine lv_topi (fun t21 et21 => ?_)
              have rg22 := fb_rng p1
              have zt21 : t21.toInt = 21 * p1.toInt := by rw [et21]; exact mul_i (by decide) rfl (by omega) (by omega)
              refine lv_aload_n hx hb dX11_fitsGrowth_61 rfl (lv_at hl 2 rfl) ?_
              refine va_get (D := (dC, dI)) (ci := 11) (v := .ref (r 69)) (C := RX11) (T := TX11) (N := 79) hx hb hts inB_11 hown hE.1 hP 0 rfl rfl 69 (by decide) (hts _ k_1389) (fun _ h9 => h9) rfl dX11_fitsGrowth_62 ?_
              refine lv_iload hx hb dX11_fitsGrowth_65 (lv_at hl 0 rfl) ?_
              refine ldI hx hb hE hP 31 rfl (vp_in_iff.mpr ⟨by omega, by omega⟩) rfl rfl dX11_fitsGrowth_67 ?_
              refine lv_topi (fun t23 et23 => ?_)
              have zt23 : 0 ≤ t23.toInt ∧ t23.toInt ≤ 20 := by rw [et23]; exact hCf.2.2.2.2.1 l4_1.toInt.toNat (show l4_1.toInt.toNat < 30 by omega)
              refine lv_iadd hx hb dX11_fitsGrowth_68 ?_
              refine lv_topi (fun t24 et24 => ?_)
              have rg25 := fb_rng t21
              have rg26 := fb_rng t23
              have zt24 : t24.toInt = t21.toInt + t23.toInt := by rw [et24]; exact add_i rfl rfl (by omega) (by omega)
              refine ldZ hx hb hE hP 35 rfl (vp_in_iff.mpr ⟨by omega, by omega⟩) rfl rfl dX11_fitsGrowth_69 ?_
              refine lv_topi (fun t27 et27 => ?_)
              refine lv_aload_n hx hb dX11_fitsGrowth_70 rfl (lv_at hl 2 rfl) ?_
              refine va_get (D := (dC, dI)) (ci := 11) (v := .ref (r 72)) (C := RX11) (T := TX11) (N := 79) hx hb hts inB_11 hown hE.1 hP 0 rfl rfl 72 (by decide) (hts _ k_1392) (fun _ h9 => h9) rfl dX11_fitsGrowth_71 ?_
              refine lv_iload hx hb dX11_fitsGrowth_74 (lv_at hl 0 rfl) ?_
              refine ldZ hx hb hE hP 34 rfl (vp_in_iff.mpr ⟨by omega, by omega⟩) rfl rfl dX11_fitsGrowth_76 ?_
              refine lv_topi (fun t28 et28 => ?_)
              refine lv_icmp_ne (tgt := 84) hx hb dX11_fitsGrowth_77 (by decide) (fun c29 => ?_) (fun c29 => ?_)
              · skip
                have zc29 : ¬ (t27.toInt = t28.toInt) := by rw [fa_eq] at c29; exact c29
                have rg30 := fb_rng t27
                have rg31 := fb_rng t28
                refine lv_iconst (v := 0) hx hb dX11_fitsGrowth_84 (by decide) ?_
                refine lv_istore_n (lv' := [(3, .int 0), (4, .int l4_1), (0, .ref y0), (1, .int p1), (2, .int p2)]) hx hb dX11_fitsGrowth_85 rfl hl (by decide) rfl (fun ls hl => ?_)
                obtain ⟨t32, et32⟩ : ∃ y : Int32, y = l4_1 + 1 := ⟨_, rfl⟩
                have zt32 : t32.toInt = l4_1.toInt + 1 := by rw [et32]; exact add_i rfl (by decide) (by omega) (by omega)
                refine lv_iinc (v := t32) (lv' := [(4, .int t32), (3, .int 0), (0, .ref y0), (1, .int p1), (2, .int p2)]) hx hb dX11_fitsGrowth_86 hl (k := 1) rfl (by rw [et32]; rfl) (by decide) rfl (fun ls hl => ?_)
                refine lv_goto (tgt := 5) hx hb dX11_fitsGrowth_89 (by decide) ?_
                have rg33 := fb_rng t32
                exact ih1 0 t32 ⟨by decide, by decide⟩ ⟨show (0 : Int) ≤ t32.toInt by omega, show t32.toInt ≤ (2147483647 : Int) by omega⟩ (by show (2147483647 - t32.toInt).toNat < n1; omega) _ _ _ hP hD hS (lv_sub hl [0, 1, 2, 3, 4] rfl)
              · skip
                have zc29 : t27.toInt = t28.toInt := by rw [fa_eq] at c29; exact c29
                have rg34 := fb_rng t27
                have rg35 := fb_rng t28
                refine lv_iconst (v := 1) hx hb dX11_fitsGrowth_80 (by decide) ?_
                refine lv_goto (tgt := 85) hx hb dX11_fitsGrowth_81 (by decide) ?_
                refine lv_istore_n (lv' := [(3, .int 1), (4, .int l4_1), (0, .ref y0), (1, .int p1), (2, .int p2)]) hx hb dX11_fitsGrowth_85 rfl hl (by decide) rfl (fun ls hl => ?_)
                obtain ⟨t36, et36⟩ : ∃ y : Int32, y = l4_1 + 1 := ⟨_, rfl⟩
                have zt36 : t36.toInt = l4_1.toInt + 1 := by rw [et36]; exact add_i rfl (by decide) (by omega) (by omega)
                refine lv_iinc (v := t36) (lv' := [(4, .int t36), (3, .int 1), (0, .ref y0), (1, .int p1), (2, .int p2)]) hx hb dX11_fitsGrowth_86 hl (k := 1) rfl (by rw [et36]; rfl) (by decide) rfl (fun ls hl => ?_)
                refine lv_goto (tgt := 5) hx hb dX11_fitsGrowth_89 (by decide) ?_
                have rg37 := fb_rng t36
                exact ih1 1 t36 ⟨by decide, by decide⟩ ⟨show (0 : Int) ≤ t36.toInt by omega, show t36.toInt ≤ (2147483647 : Int) by omega⟩ (by show (2147483647 - t36.toInt).toNat < n1; omega) _ _ _ hP hD hS (lv_sub hl [0, 1, 2, 3, 4] rfl)
            · skip
              have zc20 : ¬ (t19.toInt < 0) := by rw [fa_lt, show (0 : Int32).toInt = 0 from by decide] at c20; exact c20
              refine lv_aload_n hx hb dX11_fitsGrowth_39 rfl (lv_at hl 2 rfl) ?_
              refine va_get (D := (dC, dI)) (ci := 11) (v := .ref (r 71)) (C := RX11) (T := TX11) (N := 79) hx hb hts inB_11 hown hE.1 hP 0 rfl rfl 71 (by decide) (hts _ k_1391) (fun _ h9 => h9) rfl dX11_fitsGrowth_40 ?_
              refine lv_iload hx hb dX11_fitsGrowth_43 (lv_at hl 0 rfl) ?_
              refine ldI hx hb hE hP 33 rfl (vp_in_iff.mpr ⟨by omega, by omega⟩) rfl rfl dX11_fitsGrowth_45 ?_
              refine tI (y := t19) et19.symm ?_
              refine lv_iload_n hx hb dX11_fitsGrowth_46 rfl (lv_at hl 4 rfl) ?_
              refine lv_icmp_gt (tgt := 53) hx hb dX11_fitsGrowth_47 (by decide) (fun c38 => ?_) (fun c38 => ?_)
              · skip
                have zc38 : p2.toInt < t19.toInt := by rw [fa_lt] at c38; exact c38
                have rg39 := fb_rng t19
                refine lv_aload_n hx hb dX11_fitsGrowth_53 rfl (lv_at hl 2 rfl) ?_
                refine va_get (D := (dC, dI)) (ci := 11) (v := .ref (r 75)) (C := RX11) (T := TX11) (N := 79) hx hb hts inB_11 hown hE.1 hP 0 rfl rfl 75 (by decide) (hts _ k_1395) (fun _ h9 => h9) rfl dX11_fitsGrowth_54 ?_
                refine lv_bipush (v := 21) hx hb dX11_fitsGrowth_57 (by decide) ?_
                refine lv_iload_n hx hb dX11_fitsGrowth_59 rfl (lv_at hl 3 rfl) ?_
                refine lv_imul hx hb dX11_fitsGrowth_60 ?_
                refine lv_topi (fun t40 et40 => ?_)
                have rg41 := fb_rng p1
                have zt40 : t40.toInt = 21 * p1.toInt := by rw [et40]; exact mul_i (by decide) rfl (by omega) (by omega)
                refine lv_aload_n hx hb dX11_fitsGrowth_61 rfl (lv_at hl 2 rfl) ?_
                refine va_get (D := (dC, dI)) (ci := 11) (v := .ref (r 69)) (C := RX11) (T := TX11) (N := 79) hx hb hts inB_11 hown hE.1 hP 0 rfl rfl 69 (by decide) (hts _ k_1389) (fun _ h9 => h9) rfl dX11_fitsGrowth_62 ?_
                refine lv_iload hx hb dX11_fitsGrowth_65 (lv_at hl 0 rfl) ?_
                refine ldI hx hb hE hP 31 rfl (vp_in_iff.mpr ⟨by omega, by omega⟩) rfl rfl dX11_fitsGrowth_67 ?_
                refine lv_topi (fun t42 et42 => ?_)
                have zt42 : 0 ≤ t42.toInt ∧ t42.toInt ≤ 20 := by rw [et42]; exact hCf.2.2.2.2.1 l4_1.toInt.toNat (show l4_1.toInt.toNat < 30 by omega)
                refine lv_iadd hx hb dX11_fitsGrowth_68 ?_
                refine lv_topi (fun t43 et43 => ?_)
                have rg44 := fb_rng t40
                have rg45 := fb_rng t42
                have zt43 : t43.toInt = t40.toInt + t42.toInt := by rw [et43]; exact add_i rfl rfl (by omega) (by omega)
                refine ldZ hx hb hE hP 35 rfl (vp_in_iff.mpr ⟨by omega, by omega⟩) rfl rfl dX11_fitsGrowth_69 ?_
                refine lv_topi (fun t46 et46 => ?_)
                refine lv_aload_n hx hb dX11_fitsGrowth_70 rfl (lv_at hl 2 rfl) ?_
                refine va_get (D := (dC, dI)) (ci := 11) (v := .ref (r 72)) (C := RX11) (T := TX11) (N := 79) hx hb hts inB_11 hown hE.1 hP 0 rfl rfl 72 (by decide) (hts _ k_1392) (fun _ h9 => h9) rfl dX11_fitsGrowth_71 ?_
                refine lv_iload hx hb dX11_fitsGrowth_74 (lv_at hl 0 rfl) ?_
                refine ldZ hx hb hE hP 34 rfl (vp_in_iff.mpr ⟨by omega, by omega⟩) rfl rfl dX11_fitsGrowth_76 ?_
                refine lv_topi (fun t47 et47 => ?_)
                refine lv_icmp_ne (tgt := 84) hx hb dX11_fitsGrowth_77 (by decide) (fun c48 => ?_) (fun c48 => ?_)
                · skip
                  have zc48 : ¬ (t46.toInt = t47.toInt) := by rw [fa_eq] at c48; exact c48
                  have rg49 := fb_rng t46
                  have rg50 := fb_rng t47
                  refine lv_iconst (v := 0) hx hb dX11_fitsGrowth_84 (by decide) ?_
                  refine lv_istore_n (lv' := [(3, .int 0), (4, .int l4_1), (0, .ref y0), (1, .int p1), (2, .int p2)]) hx hb dX11_fitsGrowth_85 rfl hl (by decide) rfl (fun ls hl => ?_)
                  obtain ⟨t51, et51⟩ : ∃ y : Int32, y = l4_1 + 1 := ⟨_, rfl⟩
                  have zt51 : t51.toInt = l4_1.toInt + 1 := by rw [et51]; exact add_i rfl (by decide) (by omega) (by omega)
                  refine lv_iinc (v := t51) (lv' := [(4, .int t51), (3, .int 0), (0, .ref y0), (1, .int p1), (2, .int p2)]) hx hb dX11_fitsGrowth_86 hl (k := 1) rfl (by rw [et51]; rfl) (by decide) rfl (fun ls hl => ?_)
                  refine lv_goto (tgt := 5) hx hb dX11_fitsGrowth_89 (by decide) ?_
                  have rg52 := fb_rng t51
                  exact ih1 0 t51 ⟨by decide, by decide⟩ ⟨show (0 : Int) ≤ t51.toInt by omega, show t51.toInt ≤ (2147483647 : Int) by omega⟩ (by show (2147483647 - t51.toInt).toNat < n1; omega) _ _ _ hP hD hS (lv_sub hl [0, 1, 2, 3, 4] rfl)
                · skip
                  have zc48 : t46.toInt = t47.toInt := by rw [fa_eq] at c48; exact c48
                  have rg53 := fb_rng t46
                  have rg54 := fb_rng t47
                  refine lv_iconst (v := 1) hx hb dX11_fitsGrowth_80 (by decide) ?_
                  refine lv_goto (tgt := 85) hx hb dX11_fitsGrowth_81 (by decide) ?_
                  refine lv_istore_n (lv' := [(3, .int 1), (4, .int l4_1), (0, .ref y0), (1, .int p1), (2, .int p2)]) hx hb dX11_fitsGrowth_85 rfl hl (by decide) rfl (fun ls hl => ?_)
                  obtain ⟨t55, et55⟩ : ∃ y : Int32, y = l4_1 + 1 := ⟨_, rfl⟩
                  have zt55 : t55.toInt = l4_1.toInt + 1 := by rw [et55]; exact add_i rfl (by decide) (by omega) (by omega)
                  refine lv_iinc (v := t55) (lv' := [(4, .int t55), (3, .int 1), (0, .ref y0), (1, .int p1), (2, .int p2)]) hx hb dX11_fitsGrowth_86 hl (k := 1) rfl (by rw [et55]; rfl) (by decide) rfl (fun ls hl => ?_)
                  refine lv_goto (tgt := 5) hx hb dX11_fitsGrowth_89 (by decide) ?_
                  have rg56 := fb_rng t55
                  exact ih1 1 t55 ⟨by decide, by decide⟩ ⟨show (0 : Int) ≤ t55.toInt by omega, show t55.toInt ≤ (2147483647 : Int) by omega⟩ (by show (2147483647 - t55.toInt).toNat < n1; omega) _ _ _ hP hD hS (lv_sub hl [0, 1, 2, 3, 4] rfl)
              · skip
                have zc38 : ¬ (p2.toInt < t19.toInt) := by rw [fa_lt] at c38; exact c38
                have rg57 := fb_rng t19
                refine lv_goto (tgt := 86) hx hb dX11_fitsGrowth_50 (by decide) ?_
                obtain ⟨t58, et58⟩ : ∃ y : Int32, y = l4_1 + 1 := ⟨_, rfl⟩
                have zt58 : t58.toInt = l4_1.toInt + 1 := by rw [et58]; exact add_i rfl (by decide) (by omega) (by omega)
                refine lv_iinc (v := t58) (lv' := [(4, .int t58), (3, .int l3_1), (0, .ref y0), (1, .int p1), (2, .int p2)]) hx hb dX11_fitsGrowth_86 hl (k := 0) rfl (by rw [et58]; rfl) (by decide) rfl (fun ls hl => ?_)
                refine lv_goto (tgt := 5) hx hb dX11_fitsGrowth_89 (by decide) ?_
                have rg59 := fb_rng l3_1
                have rg60 := fb_rng t58
                exact ih1 l3_1 t58 ⟨show (0 : Int) ≤ l3_1.toInt by omega, show l3_1.toInt ≤ (1 : Int) by omega⟩ ⟨show (0 : Int) ≤ t58.toInt by omega, show t58.toInt ≤ (2147483647 : Int) by omega⟩ (by show (2147483647 - t58.toInt).toNat < n1; omega) _ _ _ hP hD hS (lv_sub hl [0, 1, 2, 3, 4] rfl)
  exact lp1 _ 1 0 ⟨by decide, by decide⟩ ⟨by decide, by decide⟩ (Nat.lt_succ_self _) _ _ _ hP hD hS (lv_sub hl [0, 1, 2, 3, 4] rfl)
set_option maxHeartbeats 4000000 in
set_option maxRecDepth 100000 in
theorem sY_X11_layGrowths_1 (l : Launch) (dC : Nat → ClassId) (dI : Nat → Nat → Nat) (cy : Nat → ClassId) (y0 : Nat) (r : Nat → Nat) (p1 : Int32) (v : Nat → Int32) (f : Nat → Nat → Int32) (w : Int64) (g : Nat → Int64) (hIv : YI v) (hCf : YC f) (hRf : progOK (f 4) (f 5) (v 9).toInt.toNat)  : ctI l (dC, dI) cy yX11_layGrowths cX11_layGrowths 5 .int 5 148 0 0 ((Nat → Int32) × (Nat → Nat → Int32) × (Int64) × (Nat → Int64)) [.ref y0, .int p1] (YW cy y0 r v f w g) (fun r u => YI u.1 ∧ YC u.2.1 ∧ progOK (u.2.1 4) (u.2.1 5) (u.1 9).toInt.toNat ∧ u.1 0 = v 0 ∧ u.1 1 = v 1 ∧ u.1 3 = v 3 ∧ u.1 4 = v 4 ∧ u.1 5 = v 5 ∧ u.1 8 = v 8 ∧ u.1 9 = v 9 ∧ u.1 10 = v 10 ∧ u.1 13 = v 13 ∧ u.1 14 = v 14 ∧ u.1 15 = v 15 ∧ u.1 17 = v 17 ∧ u.1 18 = v 18 ∧ u.1 24 = v 24 ∧ u.1 25 = v 25 ∧ u.1 35 = v 35 ∧ u.1 36 = v 36 ∧ u.1 38 = v 38 ∧ u.1 39 = v 39) (fun u => YW cy y0 r u.1 u.2.1 u.2.2.1 u.2.2.2) := by
  refine ctI_of (by decide) (Nat.le_of_ble_eq_true rfl) (fun p e s m below meth c A ls Q hx hb hml hts hown hE hP hD hA hl ret => ?_)
  have hUv : (v 35).toInt + (v 36).toInt ≤ 40 := hIv.2
  have hown : s.vm.findClass RX11 = some m.cls := hown
  have hS : va_S A s.heap s.heap [] := va_S.rf
  have hl : lv_has ls 5 [(0, .ref y0), (1, .int p1)] := hl
  refine lv_iconst (v := 0) hx hb dX11_layGrowths_0 (by decide) ?_
  refine lv_istore_n (lv' := [(2, .int 0), (0, .ref y0), (1, .int p1)]) hx hb dX11_layGrowths_1 rfl hl (by decide) rfl (fun ls hl => ?_)
  refine lv_iconst (v := 0) hx hb dX11_layGrowths_2 (by decide) ?_
  refine lv_istore_n (lv' := [(3, .int 0), (2, .int 0), (0, .ref y0), (1, .int p1)]) hx hb dX11_layGrowths_3 rfl hl (by decide) rfl (fun ls hl => ?_)
  have lp1 : ∀ (n1 : Nat) (l2_1 : Int32) (l3_1 : Int32) (v1 : Nat → Int32) (f1 : Nat → Nat → Int32) (w1 : Int64) (g1 : Nat → Int64), YI v1 → YC f1 → progOK (f1 4) (f1 5) (v1 9).toInt.toNat → v1 0 = (v 0) → v1 1 = (v 1) → v1 3 = (v 3) → v1 4 = (v 4) → v1 5 = (v 5) → v1 8 = (v 8) → v1 9 = (v 9) → v1 10 = (v 10) → v1 13 = (v 13) → v1 14 = (v 14) → v1 15 = (v 15) → v1 17 = (v 17) → v1 18 = (v 18) → v1 24 = (v 24) → v1 25 = (v 25) → v1 35 = (v 35) → v1 36 = (v 36) → v1 38 = (v 38) → v1 39 = (v 39) → ((0 : Int) ≤ l3_1.toInt ∧ l3_1.toInt ≤ 2147483647) → (2147483647 - l3_1.toInt).toNat < n1 → ∀ (H : Heap) (locs : List Loc) (ls : Array Slot), va_P (dC, dI) vwCl (YW cy y0 r v1 f1 w1 g1) H → va_D A (YW cy y0 r v1 f1 w1 g1) → va_S A s.heap H locs → lv_has ls 5 [(3, .int l3_1), (2, .int l2_1), (0, .ref y0), (1, .int p1)] → W p l e { frames := 5, cells := 0, slots := 0, locals := 148 } s m ([.ref y0, .int p1] : List Value).toArray below meth c H locs 0 0 Q (F0 m 4 ls []) := by
    intro n1
    induction n1 with
    | zero => intro l2_1 l3_1 v1 f1 w1 g1 hIv1 hCf1 hRf1 hq0_v1 hq1_v1 hq3_v1 hq4_v1 hq5_v1 hq8_v1 hq9_v1 hq10_v1 hq13_v1 hq14_v1 hq15_v1 hq17_v1 hq18_v1 hq24_v1 hq25_v1 hq35_v1 hq36_v1 hq38_v1 hq39_v1 hr3_1 hm; exact absurd hm (Nat.not_lt_zero _)
    | succ n1 ih1 =>
      intro l2_1 l3_1 v1 f1 w1 g1 hIv1 hCf1 hRf1 hq0_v1 hq1_v1 hq3_v1 hq4_v1 hq5_v1 hq8_v1 hq9_v1 hq10_v1 hq13_v1 hq14_v1 hq15_v1 hq17_v1 hq18_v1 hq24_v1 hq25_v1 hq35_v1 hq36_v1 hq38_v1 hq39_v1 hr3_1 hm1 H locs ls hP hD hS hl
      have hUv1 : (v1 35).toInt + (v1 36).toInt ≤ 40 := hIv1.2
      have zq3_v1 := congrArg Int32.toInt hq3_v1
      have zq4_v1 := congrArg Int32.toInt hq4_v1
      have zq5_v1 := congrArg Int32.toInt hq5_v1
      have zq9_v1 := congrArg Int32.toInt hq9_v1
      have zq35_v1 := congrArg Int32.toInt hq35_v1
      have zq36_v1 := congrArg Int32.toInt hq36_v1
      refine lv_iload_n hx hb dX11_layGrowths_4 rfl (lv_at hl 0 rfl) ?_
      refine lv_bipush (v := 30) hx hb dX11_layGrowths_5 (by decide) ?_
      refine lv_icmp_gt (tgt := 143) hx hb dX11_layGrowths_7 (by decide) (fun c2 => ?_) (fun c2 => ?_)
      · skip
        have zc2 : 30 < l3_1.toInt := by rw [fa_lt, show (30 : Int32).toInt = 30 from by decide] at c2; exact c2
        refine lv_iload_n hx hb dX11_layGrowths_143 rfl (lv_at hl 1 rfl) ?_
        exact ret l2_1 (v1, f1, w1, g1) _ _ _ _ _ _ rfl ⟨hIv1, hCf1, hRf1, (show v1 0 = v 0 from hq0_v1), (show v1 1 = v 1 from hq1_v1), (show v1 3 = v 3 from hq3_v1), (show v1 4 = v 4 from hq4_v1), (show v1 5 = v 5 from hq5_v1), (show v1 8 = v 8 from hq8_v1), (show v1 9 = v 9 from hq9_v1), (show v1 10 = v 10 from hq10_v1), (show v1 13 = v 13 from hq13_v1), (show v1 14 = v 14 from hq14_v1), (show v1 15 = v 15 from hq15_v1), (show v1 17 = v 17 from hq17_v1), (show v1 18 = v 18 from hq18_v1), (show v1 24 = v 24 from hq24_v1), (show v1 25 = v 25 from hq25_v1), (show v1 35 = v 35 from hq35_v1), (show v1 36 = v 36 from hq36_v1), (show v1 38 = v 38 from hq38_v1), (show v1 39 = v 39 from hq39_v1)⟩ hP hD hS dX11_layGrowths_144 (Nat.le_refl _) (Nat.le_refl _)
      · skip
        have zc2 : ¬ (30 < l3_1.toInt) := by rw [fa_lt, show (30 : Int32).toInt = 30 from by decide] at c2; exact c2
        refine lv_aload_n hx hb dX11_layGrowths_10 rfl (lv_at hl 2 rfl) ?_
        refine va_get (D := (dC, dI)) (ci := 11) (v := .int (v1 24)) (C := RX11) (T := TX11) (N := 79) hx hb hts inB_11 hown hE.1 hP 0 rfl rfl 48 (by decide) (hts _ k_1368) (fun _ h9 => h9) rfl dX11_layGrowths_11 ?_
        refine tI (y := (v 24)) hq24_v1 ?_
        have b24_v : 0 ≤ (v 24).toInt ∧ (v 24).toInt ≤ 6 := YIb.b hIv.1 24 (by decide)
        refine lv_if_le (tgt := 143) hx hb dX11_layGrowths_14 (by decide) (fun c3 => ?_) (fun c3 => ?_)
        · skip
          have zc3 : (v 24).toInt ≤ 0 := by rw [fa_le, show (0 : Int32).toInt = 0 from by decide] at c3; exact c3
          refine lv_iload_n hx hb dX11_layGrowths_143 rfl (lv_at hl 1 rfl) ?_
          exact ret l2_1 (v1, f1, w1, g1) _ _ _ _ _ _ rfl ⟨hIv1, hCf1, hRf1, (show v1 0 = v 0 from hq0_v1), (show v1 1 = v 1 from hq1_v1), (show v1 3 = v 3 from hq3_v1), (show v1 4 = v 4 from hq4_v1), (show v1 5 = v 5 from hq5_v1), (show v1 8 = v 8 from hq8_v1), (show v1 9 = v 9 from hq9_v1), (show v1 10 = v 10 from hq10_v1), (show v1 13 = v 13 from hq13_v1), (show v1 14 = v 14 from hq14_v1), (show v1 15 = v 15 from hq15_v1), (show v1 17 = v 17 from hq17_v1), (show v1 18 = v 18 from hq18_v1), (show v1 24 = v 24 from hq24_v1), (show v1 25 = v 25 from hq25_v1), (show v1 35 = v 35 from hq35_v1), (show v1 36 = v 36 from hq36_v1), (show v1 38 = v 38 from hq38_v1), (show v1 39 = v 39 from hq39_v1)⟩ hP hD hS dX11_layGrowths_144 (Nat.le_refl _) (Nat.le_refl _)
        · skip
          have zc3 : ¬ ((v 24).toInt ≤ 0) := by rw [fa_le, show (0 : Int32).toInt = 0 from by decide] at c3; exact c3
          refine lv_aload_n hx hb dX11_layGrowths_17 rfl (lv_at hl 2 rfl) ?_
          refine va_get (D := (dC, dI)) (ci := 11) (v := .int (v1 25)) (C := RX11) (T := TX11) (N := 79) hx hb hts inB_11 hown hE.1 hP 0 rfl rfl 49 (by decide) (hts _ k_1369) (fun _ h9 => h9) rfl dX11_layGrowths_18 ?_
          refine tI (y := (v 25)) hq25_v1 ?_
          have b25_v : 0 ≤ (v 25).toInt ∧ (v 25).toInt ≤ 6 := YIb.b hIv.1 25 (by decide)
          refine lv_if_le (tgt := 143) hx hb dX11_layGrowths_21 (by decide) (fun c4 => ?_) (fun c4 => ?_)
          · skip
            have zc4 : (v 25).toInt ≤ 0 := by rw [fa_le, show (0 : Int32).toInt = 0 from by decide] at c4; exact c4
            refine lv_iload_n hx hb dX11_layGrowths_143 rfl (lv_at hl 1 rfl) ?_
            exact ret l2_1 (v1, f1, w1, g1) _ _ _ _ _ _ rfl ⟨hIv1, hCf1, hRf1, (show v1 0 = v 0 from hq0_v1), (show v1 1 = v 1 from hq1_v1), (show v1 3 = v 3 from hq3_v1), (show v1 4 = v 4 from hq4_v1), (show v1 5 = v 5 from hq5_v1), (show v1 8 = v 8 from hq8_v1), (show v1 9 = v 9 from hq9_v1), (show v1 10 = v 10 from hq10_v1), (show v1 13 = v 13 from hq13_v1), (show v1 14 = v 14 from hq14_v1), (show v1 15 = v 15 from hq15_v1), (show v1 17 = v 17 from hq17_v1), (show v1 18 = v 18 from hq18_v1), (show v1 24 = v 24 from hq24_v1), (show v1 25 = v 25 from hq25_v1), (show v1 35 = v 35 from hq35_v1), (show v1 36 = v 36 from hq36_v1), (show v1 38 = v 38 from hq38_v1), (show v1 39 = v 39 from hq39_v1)⟩ hP hD hS dX11_layGrowths_144 (Nat.le_refl _) (Nat.le_refl _)
          · skip
            have zc4 : ¬ ((v 25).toInt ≤ 0) := by rw [fa_le, show (0 : Int32).toInt = 0 from by decide] at c4; exact c4
            refine lv_aload_n hx hb dX11_layGrowths_24 rfl (lv_at hl 2 rfl) ?_
            refine cbVv (n := 0) (rest := []) hx hb hml hown hts hE hP hD hS hA (sY_X11_begin_1 l dC dI cy y0 r  v1 f1 w1 g1 hIv1 hCf1 hRf1 ) k_1716 k_1718 k_68 k_114 k_1719 (by decide +kernel) ⟨Nat.le_of_ble_eq_true rfl, Nat.le_of_ble_eq_true rfl⟩ 0 11 rfl rfl (rfl) hl.1 rfl (Nat.le_of_ble_eq_true rfl) dX11_layGrowths_25 (fun u H locs hw hP hD hS => ?_)
            obtain ⟨v5, f6, w7, g8⟩ := u
            obtain ⟨hIv5, hCf6, hRf6, hk0_v5, hk1_v5, hk3_v5, hk4_v5, hk5_v5, hk8_v5, hk9_v5, hk10_v5, hk13_v5, hk14_v5, hk15_v5, hk17_v5, hk18_v5, hk24_v5, hk25_v5, hk35_v5, hk36_v5, hk38_v5, hk39_v5⟩ := hw
            have hP : va_P (dC, dI) vwCl (YW cy y0 r v5 f6 w7 g8) H := hP
            have hD : va_D A (YW cy y0 r v5 f6 w7 g8) := hD
            have hUv5 : (v5 35).toInt + (v5 36).toInt ≤ 40 := hIv5.2
            have hq0_v5 : v5 0 = (v 0) := hk0_v5.trans hq0_v1
            have hq1_v5 : v5 1 = (v 1) := hk1_v5.trans hq1_v1
            have hq3_v5 : v5 3 = (v 3) := hk3_v5.trans hq3_v1
            have zq3_v5 := congrArg Int32.toInt hq3_v5
            have hq4_v5 : v5 4 = (v 4) := hk4_v5.trans hq4_v1
            have zq4_v5 := congrArg Int32.toInt hq4_v5
            have hq5_v5 : v5 5 = (v 5) := hk5_v5.trans hq5_v1
            have zq5_v5 := congrArg Int32.toInt hq5_v5
            have hq8_v5 : v5 8 = (v 8) := hk8_v5.trans hq8_v1
            have hq9_v5 : v5 9 = (v 9) := hk9_v5.trans hq9_v1
            have zq9_v5 := congrArg Int32.toInt hq9_v5
            have hq10_v5 : v5 10 = (v 10) := hk10_v5.trans hq10_v1
            have hq13_v5 : v5 13 = (v 13) := hk13_v5.trans hq13_v1
            have hq14_v5 : v5 14 = (v 14) := hk14_v5.trans hq14_v1
            have hq15_v5 : v5 15 = (v 15) := hk15_v5.trans hq15_v1
            have hq17_v5 : v5 17 = (v 17) := hk17_v5.trans hq17_v1
            have hq18_v5 : v5 18 = (v 18) := hk18_v5.trans hq18_v1
            have hq24_v5 : v5 24 = (v 24) := hk24_v5.trans hq24_v1
            have hq25_v5 : v5 25 = (v 25) := hk25_v5.trans hq25_v1
            have hq35_v5 : v5 35 = (v 35) := hk35_v5.trans hq35_v1
            have zq35_v5 := congrArg Int32.toInt hq35_v5
            have hq36_v5 : v5 36 = (v 36) := hk36_v5.trans hq36_v1
            have zq36_v5 := congrArg Int32.toInt hq36_v5
            have hq38_v5 : v5 38 = (v 38) := hk38_v5.trans hq38_v1
            have hq39_v5 : v5 39 = (v 39) := hk39_v5.trans hq39_v1
            refine lv_iconst (v := 0) hx hb dX11_layGrowths_28 (by decide) ?_
            refine lv_istore (lv' := [(4, .int 0), (3, .int l3_1), (2, .int l2_1), (0, .ref y0), (1, .int p1)]) hx hb dX11_layGrowths_29 hl (by decide) rfl (fun ls hl => ?_)
            have lp9 : ∀ (n9 : Nat) (l4_9 : Int32) (v9 : Nat → Int32) (f9 : Nat → Nat → Int32) (w9 : Int64) (g9 : Nat → Int64), YI v9 → YC f9 → progOK (f9 4) (f9 5) (v9 9).toInt.toNat → v9 0 = (v 0) → v9 1 = (v 1) → v9 3 = (v 3) → v9 4 = (v 4) → v9 5 = (v 5) → v9 8 = (v 8) → v9 9 = (v 9) → v9 10 = (v 10) → v9 13 = (v 13) → v9 14 = (v 14) → v9 15 = (v 15) → v9 17 = (v 17) → v9 18 = (v 18) → v9 24 = (v 24) → v9 25 = (v 25) → v9 35 = (v 35) → v9 36 = (v 36) → v9 38 = (v 38) → v9 39 = (v 39) → ((0 : Int) ≤ l4_9.toInt ∧ l4_9.toInt ≤ 2147483647) → (2147483647 - l4_9.toInt).toNat < n9 → ∀ (H : Heap) (locs : List Loc) (ls : Array Slot), va_P (dC, dI) vwCl (YW cy y0 r v9 f9 w9 g9) H → va_D A (YW cy y0 r v9 f9 w9 g9) → va_S A s.heap H locs → lv_has ls 5 [(4, .int l4_9), (3, .int l3_1), (2, .int l2_1), (0, .ref y0), (1, .int p1)] → W p l e { frames := 5, cells := 0, slots := 0, locals := 148 } s m ([.ref y0, .int p1] : List Value).toArray below meth c H locs 0 0 Q (F0 m 31 ls []) := by
              intro n9
              induction n9 with
              | zero => intro l4_9 v9 f9 w9 g9 hIv9 hCf9 hRf9 hq0_v9 hq1_v9 hq3_v9 hq4_v9 hq5_v9 hq8_v9 hq9_v9 hq10_v9 hq13_v9 hq14_v9 hq15_v9 hq17_v9 hq18_v9 hq24_v9 hq25_v9 hq35_v9 hq36_v9 hq38_v9 hq39_v9 hr4_9 hm; exact absurd hm (Nat.not_lt_zero _)
              | succ n9 ih9 =>
                intro l4_9 v9 f9 w9 g9 hIv9 hCf9 hRf9 hq0_v9 hq1_v9 hq3_v9 hq4_v9 hq5_v9 hq8_v9 hq9_v9 hq10_v9 hq13_v9 hq14_v9 hq15_v9 hq17_v9 hq18_v9 hq24_v9 hq25_v9 hq35_v9 hq36_v9 hq38_v9 hq39_v9 hr4_9 hm9 H locs ls hP hD hS hl
                have hUv9 : (v9 35).toInt + (v9 36).toInt ≤ 40 := hIv9.2
                have zq3_v9 := congrArg Int32.toInt hq3_v9
                have zq4_v9 := congrArg Int32.toInt hq4_v9
                have zq5_v9 := congrArg Int32.toInt hq5_v9
                have zq9_v9 := congrArg Int32.toInt hq9_v9
                have zq35_v9 := congrArg Int32.toInt hq35_v9
                have zq36_v9 := congrArg Int32.toInt hq36_v9
                refine lv_iload hx hb dX11_layGrowths_31 (lv_at hl 0 rfl) ?_
                refine lv_bipush (v := 20) hx hb dX11_layGrowths_33 (by decide) ?_
                refine lv_icmp_gt (tgt := 113) hx hb dX11_layGrowths_35 (by decide) (fun c10 => ?_) (fun c10 => ?_)
                · skip
                  have zc10 : 20 < l4_9.toInt := by rw [fa_lt, show (20 : Int32).toInt = 20 from by decide] at c10; exact c10
                  refine lv_aload_n hx hb dX11_layGrowths_113 rfl (lv_at hl 3 rfl) ?_
                  refine va_get (D := (dC, dI)) (ci := 11) (v := .ref (r 76)) (C := RX11) (T := TX11) (N := 79) hx hb hts inB_11 hown hE.1 hP 0 rfl rfl 76 (by decide) (hts _ k_1396) (fun _ h9 => h9) rfl dX11_layGrowths_114 ?_
                  refine lv_iload_n hx hb dX11_layGrowths_117 rfl (lv_at hl 1 rfl) ?_
                  refine lv_aload_n hx hb dX11_layGrowths_118 rfl (lv_at hl 3 rfl) ?_
                  refine lv_iload_n hx hb dX11_layGrowths_119 rfl (lv_at hl 1 rfl) ?_
                  refine lv_iload_n hx hb dX11_layGrowths_120 rfl (lv_at hl 4 rfl) ?_
                  refine cbVi (n := 2) (rest := [.int l3_1, .ref (r 76)]) hx hb hml hown hts hE hP hD hS hA (sY_X11_fitsGrowth_1 l dC dI cy y0 r l3_1 p1 v9 f9 w9 g9 hIv9 hCf9 hRf9 ⟨show (0 : Int) ≤ l3_1.toInt by omega, show l3_1.toInt ≤ (30 : Int) by omega⟩) k_2028 k_2030 k_98 k_114 k_2031 (by decide +kernel) ⟨Nat.le_of_ble_eq_true rfl, Nat.le_of_ble_eq_true rfl⟩ 0 11 rfl rfl (rfl) hl.1 rfl (Nat.le_of_ble_eq_true rfl) dX11_layGrowths_121 (fun r11 u H locs hw hP hD hS => ?_)
                  rcases hw with ⟨g12⟩ | ⟨g12⟩
                  · skip
                    subst g12
                    refine stZ hx hb hE hP hD hS 36 rfl (vp_in_iff.mpr ⟨by omega, by omega⟩) rfl dX11_layGrowths_124 (fun H locs hP hD hS => ?_)
                    obtain ⟨f13, ef13, hP, hD⟩ : ∃ fz9, fz9 = upd2 f9 35 (upd (f9 35) l3_1.toNatClampNeg (vp_nar .boolean 1)) ∧ va_P (dC, dI) vwCl (YW cy y0 r v9 fz9 w9 g9) H ∧ va_D A (YW cy y0 r v9 fz9 w9 g9) := ⟨_, rfl, hP, hD⟩
                    have hCf13 : YC f13 := by rw [ef13]; exact hCf9
                    have hRf13 : progOK (f13 4) (f13 5) (v9 9).toInt.toNat := by rw [ef13]; exact hRf9
                    refine lv_iload_n hx hb dX11_layGrowths_125 rfl (lv_at hl 2 rfl) ?_
                    refine lv_aload_n hx hb dX11_layGrowths_126 rfl (lv_at hl 3 rfl) ?_
                    refine va_get (D := (dC, dI)) (ci := 11) (v := .ref (r 76)) (C := RX11) (T := TX11) (N := 79) hx hb hts inB_11 hown hE.1 hP 0 rfl rfl 76 (by decide) (hts _ k_1396) (fun _ h9 => h9) rfl dX11_layGrowths_127 ?_
                    refine lv_iload_n hx hb dX11_layGrowths_130 rfl (lv_at hl 1 rfl) ?_
                    refine ldZ hx hb hE hP 36 rfl (vp_in_iff.mpr ⟨by omega, by omega⟩) rfl rfl dX11_layGrowths_131 ?_
                    refine lv_topi (fun t14 et14 => ?_)
                    refine cbSi (n := 1) (rest := [.int l2_1]) hx hb hml hown hts hE hP hD hS hA (sY_X11_truth_1 l dC dI cy y0 r t14 v9 f13 w9 g9 hIv9 hCf13 hRf13 ) k_1761 k_1762 k_114 k_1763 (by decide +kernel) ⟨Nat.le_of_ble_eq_true rfl, Nat.le_of_ble_eq_true rfl⟩ (rfl) hl.1 rfl (Nat.le_of_ble_eq_true rfl) dX11_layGrowths_132 (fun r15 u H locs hw hP hD hS => ?_)
                    refine lv_iadd hx hb dX11_layGrowths_135 ?_
                    refine lv_topi (fun t16 et16 => ?_)
                    refine lv_istore_n (lv' := [(2, .int t16), (4, .int l4_9), (3, .int l3_1), (0, .ref y0), (1, .int p1)]) hx hb dX11_layGrowths_136 rfl hl (by decide) rfl (fun ls hl => ?_)
                    obtain ⟨t17, et17⟩ : ∃ y : Int32, y = l3_1 + 1 := ⟨_, rfl⟩
                    have rg18 := fb_rng l3_1
                    have zt17 : t17.toInt = l3_1.toInt + 1 := by rw [et17]; exact add_i rfl (by decide) (by omega) (by omega)
                    refine lv_iinc (v := t17) (lv' := [(3, .int t17), (2, .int t16), (4, .int l4_9), (0, .ref y0), (1, .int p1)]) hx hb dX11_layGrowths_137 hl (k := 2) rfl (by rw [et17]; rfl) (by decide) rfl (fun ls hl => ?_)
                    refine lv_goto (tgt := 4) hx hb dX11_layGrowths_140 (by decide) ?_
                    have rg19 := fb_rng t17
                    exact ih1 t16 t17 v9 f13 w9 g9 hIv9 hCf13 hRf13 hq0_v9 hq1_v9 hq3_v9 hq4_v9 hq5_v9 hq8_v9 hq9_v9 hq10_v9 hq13_v9 hq14_v9 hq15_v9 hq17_v9 hq18_v9 hq24_v9 hq25_v9 hq35_v9 hq36_v9 hq38_v9 hq39_v9 ⟨show (0 : Int) ≤ t17.toInt by omega, show t17.toInt ≤ (2147483647 : Int) by omega⟩ (by show (2147483647 - t17.toInt).toNat < n1; omega) _ _ _ hP hD hS (lv_sub hl [0, 1, 3, 4] rfl)
                  · skip
                    subst g12
                    refine stZ hx hb hE hP hD hS 36 rfl (vp_in_iff.mpr ⟨by omega, by omega⟩) rfl dX11_layGrowths_124 (fun H locs hP hD hS => ?_)
                    obtain ⟨f20, ef20, hP, hD⟩ : ∃ fz9, fz9 = upd2 f9 35 (upd (f9 35) l3_1.toNatClampNeg (vp_nar .boolean 0)) ∧ va_P (dC, dI) vwCl (YW cy y0 r v9 fz9 w9 g9) H ∧ va_D A (YW cy y0 r v9 fz9 w9 g9) := ⟨_, rfl, hP, hD⟩
                    have hCf20 : YC f20 := by rw [ef20]; exact hCf9
                    have hRf20 : progOK (f20 4) (f20 5) (v9 9).toInt.toNat := by rw [ef20]; exact hRf9
                    refine lv_iload_n hx hb dX11_layGrowths_125 rfl (lv_at hl 2 rfl) ?_
                    refine lv_aload_n hx hb dX11_layGrowths_126 rfl (lv_at hl 3 rfl) ?_
                    refine va_get (D := (dC, dI)) (ci := 11) (v := .ref (r 76)) (C := RX11) (T := TX11) (N := 79) hx hb hts inB_11 hown hE.1 hP 0 rfl rfl 76 (by decide) (hts _ k_1396) (fun _ h9 => h9) rfl dX11_layGrowths_127 ?_
                    refine lv_iload_n hx hb dX11_layGrowths_130 rfl (lv_at hl 1 rfl) ?_
                    refine ldZ hx hb hE hP 36 rfl (vp_in_iff.mpr ⟨by omega, by omega⟩) rfl rfl dX11_layGrowths_131 ?_
                    refine lv_topi (fun t21 et21 => ?_)
                    refine cbSi (n := 1) (rest := [.int l2_1]) hx hb hml hown hts hE hP hD hS hA (sY_X11_truth_1 l dC dI cy y0 r t21 v9 f20 w9 g9 hIv9 hCf20 hRf20 ) k_1761 k_1762 k_114 k_1763 (by decide +kernel) ⟨Nat.le_of_ble_eq_true rfl, Nat.le_of_ble_eq_true rfl⟩ (rfl) hl.1 rfl (Nat.le_of_ble_eq_true rfl) dX11_layGrowths_132 (fun r22 u H locs hw hP hD hS => ?_)
                    refine lv_iadd hx hb dX11_layGrowths_135 ?_
                    refine lv_topi (fun t23 et23 => ?_)
                    refine lv_istore_n (lv' := [(2, .int t23), (4, .int l4_9), (3, .int l3_1), (0, .ref y0), (1, .int p1)]) hx hb dX11_layGrowths_136 rfl hl (by decide) rfl (fun ls hl => ?_)
                    obtain ⟨t24, et24⟩ : ∃ y : Int32, y = l3_1 + 1 := ⟨_, rfl⟩
                    have rg25 := fb_rng l3_1
                    have zt24 : t24.toInt = l3_1.toInt + 1 := by rw [et24]; exact add_i rfl (by decide) (by omega) (by omega)
                    refine lv_iinc (v := t24) (lv' := [(3, .int t24), (2, .int t23), (4, .int l4_9), (0, .ref y0), (1, .int p1)]) hx hb dX11_layGrowths_137 hl (k := 2) rfl (by rw [et24]; rfl) (by decide) rfl (fun ls hl => ?_)
                    refine lv_goto (tgt := 4) hx hb dX11_layGrowths_140 (by decide) ?_
                    have rg26 := fb_rng t24
                    exact ih1 t23 t24 v9 f20 w9 g9 hIv9 hCf20 hRf20 hq0_v9 hq1_v9 hq3_v9 hq4_v9 hq5_v9 hq8_v9 hq9_v9 hq10_v9 hq13_v9 hq14_v9 hq15_v9 hq17_v9 hq18_v9 hq24_v9 hq25_v9 hq35_v9 hq36_v9 hq38_v9 hq39_v9 ⟨show (0 : Int) ≤ t24.toInt by omega, show t24.toInt ≤ (2147483647 : Int) by omega⟩ (by show (2147483647 - t24.toInt).toNat < n1; omega) _ _ _ hP hD hS (lv_sub hl [0, 1, 3, 4] rfl)
                · skip
                  have zc10 : ¬ (20 < l4_9.toInt) := by rw [fa_lt, show (20 : Int32).toInt = 20 from by decide] at c10; exact c10
                  refine lv_aload_n hx hb dX11_layGrowths_38 rfl (lv_at hl 3 rfl) ?_
                  refine va_get (D := (dC, dI)) (ci := 11) (v := .ref (r 75)) (C := RX11) (T := TX11) (N := 79) hx hb hts inB_11 hown hE.1 hP 0 rfl rfl 75 (by decide) (hts _ k_1395) (fun _ h9 => h9) rfl dX11_layGrowths_39 ?_
                  refine lv_bipush (v := 21) hx hb dX11_layGrowths_42 (by decide) ?_
                  refine lv_iload_n hx hb dX11_layGrowths_44 rfl (lv_at hl 1 rfl) ?_
                  refine lv_imul hx hb dX11_layGrowths_45 ?_
                  refine lv_topi (fun t27 et27 => ?_)
                  have rg28 := fb_rng l3_1
                  have zt27 : t27.toInt = 21 * l3_1.toInt := by rw [et27]; exact mul_i (by decide) rfl (by omega) (by omega)
                  refine lv_iload hx hb dX11_layGrowths_46 (lv_at hl 0 rfl) ?_
                  refine lv_iadd hx hb dX11_layGrowths_48 ?_
                  refine lv_topi (fun t29 et29 => ?_)
                  have rg30 := fb_rng t27
                  have rg31 := fb_rng l4_9
                  have zt29 : t29.toInt = t27.toInt + l4_9.toInt := by rw [et29]; exact add_i rfl rfl (by omega) (by omega)
                  refine lv_aload_n hx hb dX11_layGrowths_49 rfl (lv_at hl 3 rfl) ?_
                  refine lv_iconst (v := 0) hx hb dX11_layGrowths_50 (by decide) ?_
                  refine lv_iconst (v := 0) hx hb dX11_layGrowths_51 (by decide) ?_
                  refine cbVi (n := 2) (rest := [.int t29, .ref (r 75)]) hx hb hml hown hts hE hP hD hS hA (sY_X11_fits_1 l dC dI cy y0 r 0 0 v9 f9 w9 g9 hIv9 hCf9 hRf9 ⟨by decide, by decide⟩ ⟨by decide, by decide⟩) k_1747 k_1749 k_73 k_114 k_1750 (by decide +kernel) ⟨Nat.le_of_ble_eq_true rfl, Nat.le_of_ble_eq_true rfl⟩ 0 11 rfl rfl (rfl) hl.1 rfl (Nat.le_of_ble_eq_true rfl) dX11_layGrowths_52 (fun r32 u H locs hw hP hD hS => ?_)
                  obtain ⟨v33, f34, w35, g36⟩ := u
                  obtain ⟨hIv33, hCf34, hRf34, hk0_v33, hk1_v33, hk3_v33, hk4_v33, hk5_v33, hk8_v33, hk9_v33, hk10_v33, hk13_v33, hk14_v33, hk15_v33, hk17_v33, hk18_v33, hk24_v33, hk25_v33, hk35_v33, hk36_v33, hk38_v33, hk39_v33, hw⟩ := hw
                  have hP : va_P (dC, dI) vwCl (YW cy y0 r v33 f34 w35 g36) H := hP
                  have hD : va_D A (YW cy y0 r v33 f34 w35 g36) := hD
                  have hUv33 : (v33 35).toInt + (v33 36).toInt ≤ 40 := hIv33.2
                  have hq0_v33 : v33 0 = (v 0) := hk0_v33.trans hq0_v9
                  have hq1_v33 : v33 1 = (v 1) := hk1_v33.trans hq1_v9
                  have hq3_v33 : v33 3 = (v 3) := hk3_v33.trans hq3_v9
                  have zq3_v33 := congrArg Int32.toInt hq3_v33
                  have hq4_v33 : v33 4 = (v 4) := hk4_v33.trans hq4_v9
                  have zq4_v33 := congrArg Int32.toInt hq4_v33
                  have hq5_v33 : v33 5 = (v 5) := hk5_v33.trans hq5_v9
                  have zq5_v33 := congrArg Int32.toInt hq5_v33
                  have hq8_v33 : v33 8 = (v 8) := hk8_v33.trans hq8_v9
                  have hq9_v33 : v33 9 = (v 9) := hk9_v33.trans hq9_v9
                  have zq9_v33 := congrArg Int32.toInt hq9_v33
                  have hq10_v33 : v33 10 = (v 10) := hk10_v33.trans hq10_v9
                  have hq13_v33 : v33 13 = (v 13) := hk13_v33.trans hq13_v9
                  have hq14_v33 : v33 14 = (v 14) := hk14_v33.trans hq14_v9
                  have hq15_v33 : v33 15 = (v 15) := hk15_v33.trans hq15_v9
                  have hq17_v33 : v33 17 = (v 17) := hk17_v33.trans hq17_v9
                  have hq18_v33 : v33 18 = (v 18) := hk18_v33.trans hq18_v9
                  have hq24_v33 : v33 24 = (v 24) := hk24_v33.trans hq24_v9
                  have hq25_v33 : v33 25 = (v 25) := hk25_v33.trans hq25_v9
                  have hq35_v33 : v33 35 = (v 35) := hk35_v33.trans hq35_v9
                  have zq35_v33 := congrArg Int32.toInt hq35_v33
                  have hq36_v33 : v33 36 = (v 36) := hk36_v33.trans hq36_v9
                  have zq36_v33 := congrArg Int32.toInt hq36_v33
                  have hq38_v33 : v33 38 = (v 38) := hk38_v33.trans hq38_v9
                  have hq39_v33 : v33 39 = (v 39) := hk39_v33.trans hq39_v9
                  rcases hw with ⟨g37⟩ | ⟨g37⟩
                  · skip
                    subst g37
                    refine stZ hx hb hE hP hD hS 35 rfl (vp_in_iff.mpr ⟨by omega, by omega⟩) rfl dX11_layGrowths_55 (fun H locs hP hD hS => ?_)
                    obtain ⟨f38, ef38, hP, hD⟩ : ∃ fz9, fz9 = upd2 f34 34 (upd (f34 34) t29.toNatClampNeg (vp_nar .boolean 1)) ∧ va_P (dC, dI) vwCl (YW cy y0 r v33 fz9 w35 g36) H ∧ va_D A (YW cy y0 r v33 fz9 w35 g36) := ⟨_, rfl, hP, hD⟩
                    have hCf38 : YC f38 := by rw [ef38]; exact hCf34
                    have hRf38 : progOK (f38 4) (f38 5) (v33 9).toInt.toNat := by rw [ef38]; exact hRf34
                    refine lv_aload_n hx hb dX11_layGrowths_56 rfl (lv_at hl 3 rfl) ?_
                    refine va_get (D := (dC, dI)) (ci := 11) (v := .ref (r 60)) (C := RX11) (T := TX11) (N := 79) hx hb hts inB_11 hown hE.1 hP 0 rfl rfl 60 (by decide) (hts _ k_1380) (fun _ h9 => h9) rfl dX11_layGrowths_57 ?_
                    refine lv_iconst (v := 0) hx hb dX11_layGrowths_60 (by decide) ?_
                    refine lv_bipush (v := 99) hx hb dX11_layGrowths_61 (by decide) ?_
                    refine lv_aload_n hx hb dX11_layGrowths_63 rfl (lv_at hl 3 rfl) ?_
                    refine va_get (D := (dC, dI)) (ci := 11) (v := .ref (r 60)) (C := RX11) (T := TX11) (N := 79) hx hb hts inB_11 hown hE.1 hP 0 rfl rfl 60 (by decide) (hts _ k_1380) (fun _ h9 => h9) rfl dX11_layGrowths_64 ?_
                    refine lv_iconst (v := 0) hx hb dX11_layGrowths_67 (by decide) ?_
                    refine ldI hx hb hE hP 25 rfl (vp_in_nI (n := 0) (by decide) (by decide)) rfl rfl dX11_layGrowths_68 ?_
                    refine lv_topi (fun t39 et39 => ?_)
                    have zt39 : 0 % 39 < 6 ∨ 12 ≤ 0 % 39 ∨ (-1 ≤ t39.toInt ∧ t39.toInt ≤ 5) := by rw [et39]; exact wear_ld hCf38.2.1 (show 0 < 39 by omega)
                    refine lv_iload_n hx hb dX11_layGrowths_69 rfl (lv_at hl 1 rfl) ?_
                    refine lv_iadd hx hb dX11_layGrowths_70 ?_
                    refine lv_topi (fun t40 et40 => ?_)
                    have lt41 : (99 : Int32).toInt = 99 := by decide
                    refine cbSi (n := 2) (rest := [.int 0, .ref (r 60)]) hx hb hml hown hts hE hP hD hS hA (sY_X11_lesser_1 l dC dI cy y0 r 99 t40 v33 f38 w35 g36 hIv33 hCf38 hRf38 ) k_1799 k_1800 k_114 k_1801 (by decide +kernel) ⟨Nat.le_of_ble_eq_true rfl, Nat.le_of_ble_eq_true rfl⟩ (rfl) hl.1 rfl (Nat.le_of_ble_eq_true rfl) dX11_layGrowths_71 (fun r42 u H locs hw hP hD hS => ?_)
                    obtain ⟨pp43, pp44⟩ := hw
                    have pp43 : r42.toInt ≤ (99 : Int32).toInt := pp43
                    have pp44 : r42.toInt ≤ t40.toInt := pp44
                    refine stI hx hb hE hP hD hS 25 rfl (vp_in_nI (n := 0) (by decide) (by decide)) rfl dX11_layGrowths_74 (fun H locs hP hD hS => ?_)
                    obtain ⟨f45, ef45, hP, hD⟩ : ∃ fz9, fz9 = upd2 f38 24 (upd (f38 24) (0 : Int32).toNatClampNeg r42) ∧ va_P (dC, dI) vwCl (YW cy y0 r v33 fz9 w35 g36) H ∧ va_D A (YW cy y0 r v33 fz9 w35 g36) := ⟨_, rfl, hP, hD⟩
                    have hCf45 : YC f45 := by rw [ef45]; exact ⟨hCf38.1, (wear_st hCf38.2.1 (by show 0 % 39 < 6 ∨ 12 ≤ 0 % 39 ∨ (-1 ≤ r42.toInt ∧ r42.toInt ≤ 5); omega)), hCf38.2.2.1, hCf38.2.2.2.1, hCf38.2.2.2.2.1, hCf38.2.2.2.2.2⟩
                    have hRf45 : progOK (f45 4) (f45 5) (v33 9).toInt.toNat := by rw [ef45]; exact hRf38
                    refine lv_aload_n hx hb dX11_layGrowths_75 rfl (lv_at hl 3 rfl) ?_
                    refine va_get (D := (dC, dI)) (ci := 11) (v := .ref (r 60)) (C := RX11) (T := TX11) (N := 79) hx hb hts inB_11 hown hE.1 hP 0 rfl rfl 60 (by decide) (hts _ k_1380) (fun _ h9 => h9) rfl dX11_layGrowths_76 ?_
                    refine lv_bipush (v := 30) hx hb dX11_layGrowths_79 (by decide) ?_
                    refine lv_bipush (v := 99) hx hb dX11_layGrowths_81 (by decide) ?_
                    refine lv_aload_n hx hb dX11_layGrowths_83 rfl (lv_at hl 3 rfl) ?_
                    refine va_get (D := (dC, dI)) (ci := 11) (v := .ref (r 60)) (C := RX11) (T := TX11) (N := 79) hx hb hts inB_11 hown hE.1 hP 0 rfl rfl 60 (by decide) (hts _ k_1380) (fun _ h9 => h9) rfl dX11_layGrowths_84 ?_
                    refine lv_bipush (v := 30) hx hb dX11_layGrowths_87 (by decide) ?_
                    refine ldI hx hb hE hP 25 rfl (vp_in_nI (n := 30) (by decide) (by decide)) rfl rfl dX11_layGrowths_89 ?_
                    refine lv_topi (fun t46 et46 => ?_)
                    have zt46 : 30 % 39 < 6 ∨ 12 ≤ 30 % 39 ∨ (-1 ≤ t46.toInt ∧ t46.toInt ≤ 5) := by rw [et46]; exact wear_ld hCf45.2.1 (show 30 < 39 by omega)
                    refine lv_iconst (v := 1) hx hb dX11_layGrowths_90 (by decide) ?_
                    refine lv_iadd hx hb dX11_layGrowths_91 ?_
                    refine lv_topi (fun t47 et47 => ?_)
                    refine cbSi (n := 2) (rest := [.int 30, .ref (r 60)]) hx hb hml hown hts hE hP hD hS hA (sY_X11_lesser_1 l dC dI cy y0 r 99 t47 v33 f45 w35 g36 hIv33 hCf45 hRf45 ) k_1799 k_1800 k_114 k_1801 (by decide +kernel) ⟨Nat.le_of_ble_eq_true rfl, Nat.le_of_ble_eq_true rfl⟩ (rfl) hl.1 rfl (Nat.le_of_ble_eq_true rfl) dX11_layGrowths_92 (fun r48 u H locs hw hP hD hS => ?_)
                    obtain ⟨pp49, pp50⟩ := hw
                    have pp49 : r48.toInt ≤ (99 : Int32).toInt := pp49
                    have pp50 : r48.toInt ≤ t47.toInt := pp50
                    refine stI hx hb hE hP hD hS 25 rfl (vp_in_nI (n := 30) (by decide) (by decide)) rfl dX11_layGrowths_95 (fun H locs hP hD hS => ?_)
                    obtain ⟨f51, ef51, hP, hD⟩ : ∃ fz9, fz9 = upd2 f45 24 (upd (f45 24) (30 : Int32).toNatClampNeg r48) ∧ va_P (dC, dI) vwCl (YW cy y0 r v33 fz9 w35 g36) H ∧ va_D A (YW cy y0 r v33 fz9 w35 g36) := ⟨_, rfl, hP, hD⟩
                    have hCf51 : YC f51 := by rw [ef51]; exact ⟨hCf45.1, (wear_st hCf45.2.1 (by show 30 % 39 < 6 ∨ 12 ≤ 30 % 39 ∨ (-1 ≤ r48.toInt ∧ r48.toInt ≤ 5); omega)), hCf45.2.2.1, hCf45.2.2.2.1, hCf45.2.2.2.2.1, hCf45.2.2.2.2.2⟩
                    have hRf51 : progOK (f51 4) (f51 5) (v33 9).toInt.toNat := by rw [ef51]; exact hRf45
                    refine lv_aload_n hx hb dX11_layGrowths_96 rfl (lv_at hl 3 rfl) ?_
                    refine va_get (D := (dC, dI)) (ci := 11) (v := .ref (r 60)) (C := RX11) (T := TX11) (N := 79) hx hb hts inB_11 hown hE.1 hP 0 rfl rfl 60 (by decide) (hts _ k_1380) (fun _ h9 => h9) rfl dX11_layGrowths_97 ?_
                    refine lv_bipush (v := 37) hx hb dX11_layGrowths_100 (by decide) ?_
                    refine lv_dup2_11 hx hb dX11_layGrowths_102 rfl rfl ?_
                    refine ldI hx hb hE hP 25 rfl (vp_in_nI (n := 37) (by decide) (by decide)) rfl rfl dX11_layGrowths_103 ?_
                    refine lv_topi (fun t52 et52 => ?_)
                    have zt52 : 37 % 39 < 6 ∨ 12 ≤ 37 % 39 ∨ (-1 ≤ t52.toInt ∧ t52.toInt ≤ 5) := by rw [et52]; exact wear_ld hCf51.2.1 (show 37 < 39 by omega)
                    refine lv_iconst (v := 1) hx hb dX11_layGrowths_104 (by decide) ?_
                    refine lv_iadd hx hb dX11_layGrowths_105 ?_
                    refine lv_topi (fun t53 et53 => ?_)
                    refine stI hx hb hE hP hD hS 25 rfl (vp_in_nI (n := 37) (by decide) (by decide)) rfl dX11_layGrowths_106 (fun H locs hP hD hS => ?_)
                    obtain ⟨f54, ef54, hP, hD⟩ : ∃ fz9, fz9 = upd2 f51 24 (upd (f51 24) (37 : Int32).toNatClampNeg t53) ∧ va_P (dC, dI) vwCl (YW cy y0 r v33 fz9 w35 g36) H ∧ va_D A (YW cy y0 r v33 fz9 w35 g36) := ⟨_, rfl, hP, hD⟩
                    have hCf54 : YC f54 := by rw [ef54]; exact ⟨hCf51.1, (wear_st hCf51.2.1 (by show 37 % 39 < 6 ∨ 12 ≤ 37 % 39 ∨ (-1 ≤ t53.toInt ∧ t53.toInt ≤ 5); omega)), hCf51.2.2.1, hCf51.2.2.2.1, hCf51.2.2.2.2.1, hCf51.2.2.2.2.2⟩
                    have hRf54 : progOK (f54 4) (f54 5) (v33 9).toInt.toNat := by rw [ef54]; exact hRf51
                    obtain ⟨t55, et55⟩ : ∃ y : Int32, y = l4_9 + 1 := ⟨_, rfl⟩
                    have zt55 : t55.toInt = l4_9.toInt + 1 := by rw [et55]; exact add_i rfl (by decide) (by omega) (by omega)
                    refine lv_iinc (v := t55) (lv' := [(4, .int t55), (3, .int l3_1), (2, .int l2_1), (0, .ref y0), (1, .int p1)]) hx hb dX11_layGrowths_107 hl (k := 0) rfl (by rw [et55]; rfl) (by decide) rfl (fun ls hl => ?_)
                    refine lv_goto (tgt := 31) hx hb dX11_layGrowths_110 (by decide) ?_
                    have rg56 := fb_rng t55
                    exact ih9 t55 v33 f54 w35 g36 hIv33 hCf54 hRf54 hq0_v33 hq1_v33 hq3_v33 hq4_v33 hq5_v33 hq8_v33 hq9_v33 hq10_v33 hq13_v33 hq14_v33 hq15_v33 hq17_v33 hq18_v33 hq24_v33 hq25_v33 hq35_v33 hq36_v33 hq38_v33 hq39_v33 ⟨show (0 : Int) ≤ t55.toInt by omega, show t55.toInt ≤ (2147483647 : Int) by omega⟩ (by show (2147483647 - t55.toInt).toNat < n9; omega) _ _ _ hP hD hS (lv_sub hl [0, 1, 2, 3, 4] rfl)
                  · skip
                    subst g37
                    refine stZ hx hb hE hP hD hS 35 rfl (vp_in_iff.mpr ⟨by omega, by omega⟩) rfl dX11_layGrowths_55 (fun H locs hP hD hS => ?_)
                    obtain ⟨f57, ef57, hP, hD⟩ : ∃ fz9, fz9 = upd2 f34 34 (upd (f34 34) t29.toNatClampNeg (vp_nar .boolean 0)) ∧ va_P (dC, dI) vwCl (YW cy y0 r v33 fz9 w35 g36) H ∧ va_D A (YW cy y0 r v33 fz9 w35 g36) := ⟨_, rfl, hP, hD⟩
                    have hCf57 : YC f57 := by rw [ef57]; exact hCf34
                    have hRf57 : progOK (f57 4) (f57 5) (v33 9).toInt.toNat := by rw [ef57]; exact hRf34
                    refine lv_aload_n hx hb dX11_layGrowths_56 rfl (lv_at hl 3 rfl) ?_
                    refine va_get (D := (dC, dI)) (ci := 11) (v := .ref (r 60)) (C := RX11) (T := TX11) (N := 79) hx hb hts inB_11 hown hE.1 hP 0 rfl rfl 60 (by decide) (hts _ k_1380) (fun _ h9 => h9) rfl dX11_layGrowths_57 ?_
                    refine lv_iconst (v := 0) hx hb dX11_layGrowths_60 (by decide) ?_
                    refine lv_bipush (v := 99) hx hb dX11_layGrowths_61 (by decide) ?_
                    refine lv_aload_n hx hb dX11_layGrowths_63 rfl (lv_at hl 3 rfl) ?_
                    refine va_get (D := (dC, dI)) (ci := 11) (v := .ref (r 60)) (C := RX11) (T := TX11) (N := 79) hx hb hts inB_11 hown hE.1 hP 0 rfl rfl 60 (by decide) (hts _ k_1380) (fun _ h9 => h9) rfl dX11_layGrowths_64 ?_
                    refine lv_iconst (v := 0) hx hb dX11_layGrowths_67 (by decide) ?_
                    refine ldI hx hb hE hP 25 rfl (vp_in_nI (n := 0) (by decide) (by decide)) rfl rfl dX11_layGrowths_68 ?_
                    refine lv_topi (fun t58 et58 => ?_)
                    have zt58 : 0 % 39 < 6 ∨ 12 ≤ 0 % 39 ∨ (-1 ≤ t58.toInt ∧ t58.toInt ≤ 5) := by rw [et58]; exact wear_ld hCf57.2.1 (show 0 < 39 by omega)
                    refine lv_iload_n hx hb dX11_layGrowths_69 rfl (lv_at hl 1 rfl) ?_
                    refine lv_iadd hx hb dX11_layGrowths_70 ?_
                    refine lv_topi (fun t59 et59 => ?_)
                    have lt60 : (99 : Int32).toInt = 99 := by decide
                    refine cbSi (n := 2) (rest := [.int 0, .ref (r 60)]) hx hb hml hown hts hE hP hD hS hA (sY_X11_lesser_1 l dC dI cy y0 r 99 t59 v33 f57 w35 g36 hIv33 hCf57 hRf57 ) k_1799 k_1800 k_114 k_1801 (by decide +kernel) ⟨Nat.le_of_ble_eq_true rfl, Nat.le_of_ble_eq_true rfl⟩ (rfl) hl.1 rfl (Nat.le_of_ble_eq_true rfl) dX11_layGrowths_71 (fun r61 u H locs hw hP hD hS => ?_)
                    obtain ⟨pp62, pp63⟩ := hw
                    have pp62 : r61.toInt ≤ (99 : Int32).toInt := pp62
                    have pp63 : r61.toInt ≤ t59.toInt := pp63
                    refine stI hx hb hE hP hD hS 25 rfl (vp_in_nI (n := 0) (by decide) (by decide)) rfl dX11_layGrowths_74 (fun H locs hP hD hS => ?_)
                    obtain ⟨f64, ef64, hP, hD⟩ : ∃ fz9, fz9 = upd2 f57 24 (upd (f57 24) (0 : Int32).toNatClampNeg r61) ∧ va_P (dC, dI) vwCl (YW cy y0 r v33 fz9 w35 g36) H ∧ va_D A (YW cy y0 r v33 fz9 w35 g36) := ⟨_, rfl, hP, hD⟩
                    have hCf64 : YC f64 := by rw [ef64]; exact ⟨hCf57.1, (wear_st hCf57.2.1 (by show 0 % 39 < 6 ∨ 12 ≤ 0 % 39 ∨ (-1 ≤ r61.toInt ∧ r61.toInt ≤ 5); omega)), hCf57.2.2.1, hCf57.2.2.2.1, hCf57.2.2.2.2.1, hCf57.2.2.2.2.2⟩
                    have hRf64 : progOK (f64 4) (f64 5) (v33 9).toInt.toNat := by rw [ef64]; exact hRf57
                    refine lv_aload_n hx hb dX11_layGrowths_75 rfl (lv_at hl 3 rfl) ?_
                    refine va_get (D := (dC, dI)) (ci := 11) (v := .ref (r 60)) (C := RX11) (T := TX11) (N := 79) hx hb hts inB_11 hown hE.1 hP 0 rfl rfl 60 (by decide) (hts _ k_1380) (fun _ h9 => h9) rfl dX11_layGrowths_76 ?_
                    refine lv_bipush (v := 30) hx hb dX11_layGrowths_79 (by decide) ?_
                    refine lv_bipush (v := 99) hx hb dX11_layGrowths_81 (by decide) ?_
                    refine lv_aload_n hx hb dX11_layGrowths_83 rfl (lv_at hl 3 rfl) ?_
                    refine va_get (D := (dC, dI)) (ci := 11) (v := .ref (r 60)) (C := RX11) (T := TX11) (N := 79) hx hb hts inB_11 hown hE.1 hP 0 rfl rfl 60 (by decide) (hts _ k_1380) (fun _ h9 => h9) rfl dX11_layGrowths_84 ?_
                    refine lv_bipush (v := 30) hx hb dX11_layGrowths_87 (by decide) ?_
                    refine ldI hx hb hE hP 25 rfl (vp_in_nI (n := 30) (by decide) (by decide)) rfl rfl dX11_layGrowths_89 ?_
                    refine lv_topi (fun t65 et65 => ?_)
                    have zt65 : 30 % 39 < 6 ∨ 12 ≤ 30 % 39 ∨ (-1 ≤ t65.toInt ∧ t65.toInt ≤ 5) := by rw [et65]; exact wear_ld hCf64.2.1 (show 30 < 39 by omega)
                    refine lv_iconst (v := 1) hx hb dX11_layGrowths_90 (by decide) ?_
                    refine lv_iadd hx hb dX11_layGrowths_91 ?_
                    refine lv_topi (fun t66 et66 => ?_)
                    refine cbSi (n := 2) (rest := [.int 30, .ref (r 60)]) hx hb hml hown hts hE hP hD hS hA (sY_X11_lesser_1 l dC dI cy y0 r 99 t66 v33 f64 w35 g36 hIv33 hCf64 hRf64 ) k_1799 k_1800 k_114 k_1801 (by decide +kernel) ⟨Nat.le_of_ble_eq_true rfl, Nat.le_of_ble_eq_true rfl⟩ (rfl) hl.1 rfl (Nat.le_of_ble_eq_true rfl) dX11_layGrowths_92 (fun r67 u H locs hw hP hD hS => ?_)
                    obtain ⟨pp68, pp69⟩ := hw
                    have pp68 : r67.toInt ≤ (99 : Int32).toInt := pp68
                    have pp69 : r67.toInt ≤ t66.toInt := pp69
                    refine stI hx hb hE hP hD hS 25 rfl (vp_in_nI (n := 30) (by decide) (by decide)) rfl dX11_layGrowths_95 (fun H locs hP hD hS => ?_)
                    obtain ⟨f70, ef70, hP, hD⟩ : ∃ fz9, fz9 = upd2 f64 24 (upd (f64 24) (30 : Int32).toNatClampNeg r67) ∧ va_P (dC, dI) vwCl (YW cy y0 r v33 fz9 w35 g36) H ∧ va_D A (YW cy y0 r v33 fz9 w35 g36) := ⟨_, rfl, hP, hD⟩
                    have hCf70 : YC f70 := by rw [ef70]; exact ⟨hCf64.1, (wear_st hCf64.2.1 (by show 30 % 39 < 6 ∨ 12 ≤ 30 % 39 ∨ (-1 ≤ r67.toInt ∧ r67.toInt ≤ 5); omega)), hCf64.2.2.1, hCf64.2.2.2.1, hCf64.2.2.2.2.1, hCf64.2.2.2.2.2⟩
                    have hRf70 : progOK (f70 4) (f70 5) (v33 9).toInt.toNat := by rw [ef70]; exact hRf64
                    refine lv_aload_n hx hb dX11_layGrowths_96 rfl (lv_at hl 3 rfl) ?_
                    refine va_get (D := (dC, dI)) (ci := 11) (v := .ref (r 60)) (C := RX11) (T := TX11) (N := 79) hx hb hts inB_11 hown hE.1 hP 0 rfl rfl 60 (by decide) (hts _ k_1380) (fun _ h9 => h9) rfl dX11_layGrowths_97 ?_
                    refine lv_bipush (v := 37) hx hb dX11_layGrowths_100 (by decide) ?_
                    refine lv_dup2_11 hx hb dX11_layGrowths_102 rfl rfl ?_
                    refine ldI hx hb hE hP 25 rfl (vp_in_nI (n := 37) (by decide) (by decide)) rfl rfl dX11_layGrowths_103 ?_
                    refine lv_topi (fun t71 et71 => ?_)
                    have zt71 : 37 % 39 < 6 ∨ 12 ≤ 37 % 39 ∨ (-1 ≤ t71.toInt ∧ t71.toInt ≤ 5) := by rw [et71]; exact wear_ld hCf70.2.1 (show 37 < 39 by omega)
                    refine lv_iconst (v := 1) hx hb dX11_layGrowths_104 (by decide) ?_
                    refine lv_iadd hx hb dX11_layGrowths_105 ?_
                    refine lv_topi (fun t72 et72 => ?_)
                    refine stI hx hb hE hP hD hS 25 rfl (vp_in_nI (n := 37) (by decide) (by decide)) rfl dX11_layGrowths_106 (fun H locs hP hD hS => ?_)
                    obtain ⟨f73, ef73, hP, hD⟩ : ∃ fz9, fz9 = upd2 f70 24 (upd (f70 24) (37 : Int32).toNatClampNeg t72) ∧ va_P (dC, dI) vwCl (YW cy y0 r v33 fz9 w35 g36) H ∧ va_D A (YW cy y0 r v33 fz9 w35 g36) := ⟨_, rfl, hP, hD⟩
                    have hCf73 : YC f73 := by rw [ef73]; exact ⟨hCf70.1, (wear_st hCf70.2.1 (by show 37 % 39 < 6 ∨ 12 ≤ 37 % 39 ∨ (-1 ≤ t72.toInt ∧ t72.toInt ≤ 5); omega)), hCf70.2.2.1, hCf70.2.2.2.1, hCf70.2.2.2.2.1, hCf70.2.2.2.2.2⟩
                    have hRf73 : progOK (f73 4) (f73 5) (v33 9).toInt.toNat := by rw [ef73]; exact hRf70
                    obtain ⟨t74, et74⟩ : ∃ y : Int32, y = l4_9 + 1 := ⟨_, rfl⟩
                    have zt74 : t74.toInt = l4_9.toInt + 1 := by rw [et74]; exact add_i rfl (by decide) (by omega) (by omega)
                    refine lv_iinc (v := t74) (lv' := [(4, .int t74), (3, .int l3_1), (2, .int l2_1), (0, .ref y0), (1, .int p1)]) hx hb dX11_layGrowths_107 hl (k := 0) rfl (by rw [et74]; rfl) (by decide) rfl (fun ls hl => ?_)
                    refine lv_goto (tgt := 31) hx hb dX11_layGrowths_110 (by decide) ?_
                    have rg75 := fb_rng t74
                    exact ih9 t74 v33 f73 w35 g36 hIv33 hCf73 hRf73 hq0_v33 hq1_v33 hq3_v33 hq4_v33 hq5_v33 hq8_v33 hq9_v33 hq10_v33 hq13_v33 hq14_v33 hq15_v33 hq17_v33 hq18_v33 hq24_v33 hq25_v33 hq35_v33 hq36_v33 hq38_v33 hq39_v33 ⟨show (0 : Int) ≤ t74.toInt by omega, show t74.toInt ≤ (2147483647 : Int) by omega⟩ (by show (2147483647 - t74.toInt).toNat < n9; omega) _ _ _ hP hD hS (lv_sub hl [0, 1, 2, 3, 4] rfl)
            exact lp9 _ 0 v5 f6 w7 g8 hIv5 hCf6 hRf6 hq0_v5 hq1_v5 hq3_v5 hq4_v5 hq5_v5 hq8_v5 hq9_v5 hq10_v5 hq13_v5 hq14_v5 hq15_v5 hq17_v5 hq18_v5 hq24_v5 hq25_v5 hq35_v5 hq36_v5 hq38_v5 hq39_v5 ⟨by decide, by decide⟩ (Nat.lt_succ_self _) _ _ _ hP hD hS (lv_sub hl [0, 1, 2, 3, 4] rfl)
  exact lp1 _ 0 0 v f w g hIv hCf hRf rfl rfl rfl rfl rfl rfl rfl rfl rfl rfl rfl rfl rfl rfl rfl rfl rfl rfl rfl ⟨by decide, by decide⟩ (Nat.lt_succ_self _) _ _ _ hP hD hS (lv_sub hl [0, 1, 2, 3] rfl)
set_option maxHeartbeats 4000000 in
set_option maxRecDepth 100000 in
theorem sY_X11_growths_1 (l : Launch) (dC : Nat → ClassId) (dI : Nat → Nat → Nat) (cy : Nat → ClassId) (y0 : Nat) (r : Nat → Nat) (p1 : Int32) (v : Nat → Int32) (f : Nat → Nat → Int32) (w : Int64) (g : Nat → Int64) (hIv : YI v) (hCf : YC f) (hRf : progOK (f 4) (f 5) (v 9).toInt.toNat)  : ctI l (dC, dI) cy yX11_growths cX11_growths 2 .int 6 172 0 0 ((Nat → Int32) × (Nat → Nat → Int32) × (Int64) × (Nat → Int64)) [.ref y0, .int p1] (YW cy y0 r v f w g) (fun r u => YI u.1 ∧ YC u.2.1 ∧ progOK (u.2.1 4) (u.2.1 5) (u.1 9).toInt.toNat ∧ u.1 0 = v 0 ∧ u.1 1 = v 1 ∧ u.1 3 = v 3 ∧ u.1 4 = v 4 ∧ u.1 5 = v 5 ∧ u.1 8 = v 8 ∧ u.1 9 = v 9 ∧ u.1 10 = v 10 ∧ u.1 13 = v 13 ∧ u.1 14 = v 14 ∧ u.1 15 = v 15 ∧ u.1 17 = v 17 ∧ u.1 18 = v 18 ∧ u.1 24 = v 24 ∧ u.1 25 = v 25 ∧ u.1 35 = v 35 ∧ u.1 36 = v 36 ∧ u.1 38 = v 38 ∧ u.1 39 = v 39) (fun u => YW cy y0 r u.1 u.2.1 u.2.2.1 u.2.2.2) := by
  refine ctI_of (by decide) (Nat.le_of_ble_eq_true rfl) (fun p e s m below meth c A ls Q hx hb hml hts hown hE hP hD hA hl ret => ?_)
  have hUv : (v 35).toInt + (v 36).toInt ≤ 40 := hIv.2
  have hown : s.vm.findClass RX11 = some m.cls := hown
  have hS : va_S A s.heap s.heap [] := va_S.rf
  have hl : lv_has ls 2 [(0, .ref y0), (1, .int p1)] := hl
  refine lv_aload_n hx hb dX11_growths_0 rfl (lv_at hl 0 rfl) ?_
  refine lv_iload_n hx hb dX11_growths_1 rfl (lv_at hl 1 rfl) ?_
  refine cbVi (n := 1) (rest := []) hx hb hml hown hts hE hP hD hS hA (sY_X11_layGrowths_1 l dC dI cy y0 r p1 v f w g hIv hCf hRf ) k_2024 k_2026 k_97 k_114 k_2027 (by decide +kernel) ⟨Nat.le_of_ble_eq_true rfl, Nat.le_of_ble_eq_true rfl⟩ 0 11 rfl rfl (rfl) hl.1 rfl (Nat.le_of_ble_eq_true rfl) dX11_growths_2 (fun r1 u H locs hw hP hD hS => ?_)
  obtain ⟨v2, f3, w4, g5⟩ := u
  obtain ⟨hIv2, hCf3, hRf3, hk0_v2, hk1_v2, hk3_v2, hk4_v2, hk5_v2, hk8_v2, hk9_v2, hk10_v2, hk13_v2, hk14_v2, hk15_v2, hk17_v2, hk18_v2, hk24_v2, hk25_v2, hk35_v2, hk36_v2, hk38_v2, hk39_v2⟩ := hw
  have hP : va_P (dC, dI) vwCl (YW cy y0 r v2 f3 w4 g5) H := hP
  have hD : va_D A (YW cy y0 r v2 f3 w4 g5) := hD
  have hUv2 : (v2 35).toInt + (v2 36).toInt ≤ 40 := hIv2.2
  have hq0_v2 : v2 0 = (v 0) := hk0_v2
  have hq1_v2 : v2 1 = (v 1) := hk1_v2
  have hq3_v2 : v2 3 = (v 3) := hk3_v2
  have zq3_v2 := congrArg Int32.toInt hq3_v2
  have hq4_v2 : v2 4 = (v 4) := hk4_v2
  have zq4_v2 := congrArg Int32.toInt hq4_v2
  have hq5_v2 : v2 5 = (v 5) := hk5_v2
  have zq5_v2 := congrArg Int32.toInt hq5_v2
  have hq8_v2 : v2 8 = (v 8) := hk8_v2
  have hq9_v2 : v2 9 = (v 9) := hk9_v2
  have zq9_v2 := congrArg Int32.toInt hq9_v2
  have hq10_v2 : v2 10 = (v 10) := hk10_v2
  have hq13_v2 : v2 13 = (v 13) := hk13_v2
  have hq14_v2 : v2 14 = (v 14) := hk14_v2
  have hq15_v2 : v2 15 = (v 15) := hk15_v2
  have hq17_v2 : v2 17 = (v 17) := hk17_v2
  have hq18_v2 : v2 18 = (v 18) := hk18_v2
  have hq24_v2 : v2 24 = (v 24) := hk24_v2
  have hq25_v2 : v2 25 = (v 25) := hk25_v2
  have hq35_v2 : v2 35 = (v 35) := hk35_v2
  have zq35_v2 := congrArg Int32.toInt hq35_v2
  have hq36_v2 : v2 36 = (v 36) := hk36_v2
  have zq36_v2 := congrArg Int32.toInt hq36_v2
  have hq38_v2 : v2 38 = (v 38) := hk38_v2
  have hq39_v2 : v2 39 = (v 39) := hk39_v2
  exact ret r1 (v2, f3, w4, g5) _ _ _ _ _ _ rfl ⟨hIv2, hCf3, hRf3, hk0_v2, hk1_v2, hk3_v2, hk4_v2, hk5_v2, hk8_v2, hk9_v2, hk10_v2, hk13_v2, hk14_v2, hk15_v2, hk17_v2, hk18_v2, hk24_v2, hk25_v2, hk35_v2, hk36_v2, hk38_v2, hk39_v2⟩ hP hD hS dX11_growths_5 (Nat.le_refl _) (Nat.le_refl _)
set_option maxHeartbeats 4000000 in
set_option maxRecDepth 100000 in
theorem sY_X11_sure_1 (l : Launch) (dC : Nat → ClassId) (dI : Nat → Nat → Nat) (cy : Nat → ClassId) (y0 : Nat) (r : Nat → Nat) (p1 : Int32) (p2 : Int32) (v : Nat → Int32) (f : Nat → Nat → Int32) (w : Int64) (g : Nat → Int64) (hIv : YI v) (hCf : YC f) (hRf : progOK (f 4) (f 5) (v 9).toInt.toNat)  : ctI l (dC, dI) cy yX11_sure cX11_sure 5 .int 6 172 0 0 ((Nat → Int32) × (Nat → Nat → Int32) × (Int64) × (Nat → Int64)) [.ref y0, .int p1, .int p2] (YW cy y0 r v f w g) (fun r u => YI u.1 ∧ YC u.2.1 ∧ progOK (u.2.1 4) (u.2.1 5) (u.1 9).toInt.toNat ∧ u.1 0 = v 0 ∧ u.1 1 = v 1 ∧ u.1 3 = v 3 ∧ u.1 4 = v 4 ∧ u.1 5 = v 5 ∧ u.1 8 = v 8 ∧ u.1 9 = v 9 ∧ u.1 10 = v 10 ∧ u.1 13 = v 13 ∧ u.1 14 = v 14 ∧ u.1 15 = v 15 ∧ u.1 17 = v 17 ∧ u.1 18 = v 18 ∧ u.1 24 = v 24 ∧ u.1 25 = v 25 ∧ u.1 35 = v 35 ∧ u.1 36 = v 36 ∧ u.1 38 = v 38 ∧ u.1 39 = v 39) (fun u => YW cy y0 r u.1 u.2.1 u.2.2.1 u.2.2.2) := by
  refine ctI_of (by decide) (Nat.le_of_ble_eq_true rfl) (fun p e s m below meth c A ls Q hx hb hml hts hown hE hP hD hA hl ret => ?_)
  have hUv : (v 35).toInt + (v 36).toInt ≤ 40 := hIv.2
  have hown : s.vm.findClass RX11 = some m.cls := hown
  have hS : va_S A s.heap s.heap [] := va_S.rf
  have hl : lv_has ls 5 [(0, .ref y0), (1, .int p1), (2, .int p2)] := hl
  refine lv_iload_n hx hb dX11_sure_0 rfl (lv_at hl 1 rfl) ?_
  refine lv_iconst (v := 0) hx hb dX11_sure_1 (by decide) ?_
  refine lv_iconst (v := 1) hx hb dX11_sure_2 (by decide) ?_
  have lt1 : (0 : Int32).toInt = 0 := by decide
  have lt2 : (1 : Int32).toInt = 1 := by decide
  refine cbSi (n := 3) (rest := []) hx hb hml hown hts hE hP hD hS hA (sY_X11_isIn_1 l dC dI cy y0 r p1 0 1 v f w g hIv hCf hRf ) k_1736 k_1737 k_114 k_1738 (by decide +kernel) ⟨Nat.le_of_ble_eq_true rfl, Nat.le_of_ble_eq_true rfl⟩ (rfl) hl.1 rfl (Nat.le_of_ble_eq_true rfl) dX11_sure_3 (fun r3 u H locs hw hP hD hS => ?_)
  rcases hw with ⟨g4, g4_0, g4_1⟩ | ⟨g4⟩
  · skip
    subst g4
    refine lv_if_eq (tgt := 17) hx hb dX11_sure_6 (by decide) (fun c0 => absurd c0 (by decide)) (fun _ => ?_)
    refine lv_aload_n hx hb dX11_sure_9 rfl (lv_at hl 0 rfl) ?_
    refine lv_iload_n hx hb dX11_sure_10 rfl (lv_at hl 2 rfl) ?_
    refine cbVi (n := 1) (rest := []) hx hb hml hown hts hE hP hD hS hA (sY_X11_layGrowths_1 l dC dI cy y0 r p2 v f w g hIv hCf hRf ) k_2024 k_2026 k_97 k_114 k_2027 (by decide +kernel) ⟨Nat.le_of_ble_eq_true rfl, Nat.le_of_ble_eq_true rfl⟩ 0 11 rfl rfl (rfl) hl.1 rfl (Nat.le_of_ble_eq_true rfl) dX11_sure_11 (fun r5 u H locs hw hP hD hS => ?_)
    obtain ⟨v6, f7, w8, g9⟩ := u
    obtain ⟨hIv6, hCf7, hRf7, hk0_v6, hk1_v6, hk3_v6, hk4_v6, hk5_v6, hk8_v6, hk9_v6, hk10_v6, hk13_v6, hk14_v6, hk15_v6, hk17_v6, hk18_v6, hk24_v6, hk25_v6, hk35_v6, hk36_v6, hk38_v6, hk39_v6⟩ := hw
    have hP : va_P (dC, dI) vwCl (YW cy y0 r v6 f7 w8 g9) H := hP
    have hD : va_D A (YW cy y0 r v6 f7 w8 g9) := hD
    have hUv6 : (v6 35).toInt + (v6 36).toInt ≤ 40 := hIv6.2
    have hq0_v6 : v6 0 = (v 0) := hk0_v6
    have hq1_v6 : v6 1 = (v 1) := hk1_v6
    have hq3_v6 : v6 3 = (v 3) := hk3_v6
    have zq3_v6 := congrArg Int32.toInt hq3_v6
    have hq4_v6 : v6 4 = (v 4) := hk4_v6
    have zq4_v6 := congrArg Int32.toInt hq4_v6
    have hq5_v6 : v6 5 = (v 5) := hk5_v6
    have zq5_v6 := congrArg Int32.toInt hq5_v6
    have hq8_v6 : v6 8 = (v 8) := hk8_v6
    have hq9_v6 : v6 9 = (v 9) := hk9_v6
    have zq9_v6 := congrArg Int32.toInt hq9_v6
    have hq10_v6 : v6 10 = (v 10) := hk10_v6
    have hq13_v6 : v6 13 = (v 13) := hk13_v6
    have hq14_v6 : v6 14 = (v 14) := hk14_v6
    have hq15_v6 : v6 15 = (v 15) := hk15_v6
    have hq17_v6 : v6 17 = (v 17) := hk17_v6
    have hq18_v6 : v6 18 = (v 18) := hk18_v6
    have hq24_v6 : v6 24 = (v 24) := hk24_v6
    have hq25_v6 : v6 25 = (v 25) := hk25_v6
    have hq35_v6 : v6 35 = (v 35) := hk35_v6
    have zq35_v6 := congrArg Int32.toInt hq35_v6
    have hq36_v6 : v6 36 = (v 36) := hk36_v6
    have zq36_v6 := congrArg Int32.toInt hq36_v6
    have hq38_v6 : v6 38 = (v 38) := hk38_v6
    have hq39_v6 : v6 39 = (v 39) := hk39_v6
    refine lv_if_ne (tgt := 19) hx hb dX11_sure_14 (by decide) (fun c10 => ?_) (fun c10 => ?_)
    · skip
      have zc10 : ¬ (r5.toInt = 0) := by rw [fa_eq, show (0 : Int32).toInt = 0 from by decide] at c10; exact c10
      refine lv_iconst (v := (-1)) hx hb dX11_sure_19 (by decide) ?_
      refine lv_istore_n (lv' := [(3, .int (-1)), (0, .ref y0), (1, .int p1), (2, .int p2)]) hx hb dX11_sure_20 rfl hl (by decide) rfl (fun ls hl => ?_)
      refine lv_iconst (v := 0) hx hb dX11_sure_21 (by decide) ?_
      refine lv_istore (lv' := [(4, .int 0), (3, .int (-1)), (0, .ref y0), (1, .int p1), (2, .int p2)]) hx hb dX11_sure_22 hl (by decide) rfl (fun ls hl => ?_)
      have lp11 : ∀ (n11 : Nat) (l3_11 : Int32) (l4_11 : Int32), ((0 : Int) ≤ l4_11.toInt ∧ l4_11.toInt ≤ 2147483647) → (2147483647 - l4_11.toInt).toNat < n11 → ∀ (H : Heap) (locs : List Loc) (ls : Array Slot), va_P (dC, dI) vwCl (YW cy y0 r v6 f7 w8 g9) H → va_D A (YW cy y0 r v6 f7 w8 g9) → va_S A s.heap H locs → lv_has ls 5 [(4, .int l4_11), (3, .int l3_11), (0, .ref y0), (1, .int p1), (2, .int p2)] → W p l e { frames := 6, cells := 0, slots := 0, locals := 172 } s m ([.ref y0, .int p1, .int p2] : List Value).toArray below meth c H locs 0 0 Q (F0 m 24 ls []) := by
        intro n11
        induction n11 with
        | zero => intro l3_11 l4_11 hr4_11 hm; exact absurd hm (Nat.not_lt_zero _)
        | succ n11 ih11 =>
          intro l3_11 l4_11 hr4_11 hm11 H locs ls hP hD hS hl
          refine lv_iload hx hb dX11_sure_24 (lv_at hl 0 rfl) ?_
          refine lv_bipush (v := 30) hx hb dX11_sure_26 (by decide) ?_
          refine lv_icmp_gt (tgt := 59) hx hb dX11_sure_28 (by decide) (fun c12 => ?_) (fun c12 => ?_)
          · skip
            have zc12 : 30 < l4_11.toInt := by rw [fa_lt, show (30 : Int32).toInt = 30 from by decide] at c12; exact c12
            refine lv_iload_n hx hb dX11_sure_59 rfl (lv_at hl 1 rfl) ?_
            exact ret l3_11 (v6, f7, w8, g9) _ _ _ _ _ _ rfl ⟨hIv6, hCf7, hRf7, hk0_v6, hk1_v6, hk3_v6, hk4_v6, hk5_v6, hk8_v6, hk9_v6, hk10_v6, hk13_v6, hk14_v6, hk15_v6, hk17_v6, hk18_v6, hk24_v6, hk25_v6, hk35_v6, hk36_v6, hk38_v6, hk39_v6⟩ hP hD hS dX11_sure_60 (Nat.le_refl _) (Nat.le_refl _)
          · skip
            have zc12 : ¬ (30 < l4_11.toInt) := by rw [fa_lt, show (30 : Int32).toInt = 30 from by decide] at c12; exact c12
            refine lv_aload_n hx hb dX11_sure_31 rfl (lv_at hl 2 rfl) ?_
            refine va_get (D := (dC, dI)) (ci := 11) (v := .ref (r 76)) (C := RX11) (T := TX11) (N := 79) hx hb hts inB_11 hown hE.1 hP 0 rfl rfl 76 (by decide) (hts _ k_1396) (fun _ h9 => h9) rfl dX11_sure_32 ?_
            refine lv_iload hx hb dX11_sure_35 (lv_at hl 0 rfl) ?_
            refine ldZ hx hb hE hP 36 rfl (vp_in_iff.mpr ⟨by omega, by omega⟩) rfl rfl dX11_sure_37 ?_
            refine lv_topi (fun t13 et13 => ?_)
            refine lv_if_eq (tgt := 53) hx hb dX11_sure_38 (by decide) (fun c14 => ?_) (fun c14 => ?_)
            · skip
              have zc14 : t13.toInt = 0 := by rw [fa_eq, show (0 : Int32).toInt = 0 from by decide] at c14; exact c14
              obtain ⟨t15, et15⟩ : ∃ y : Int32, y = l4_11 + 1 := ⟨_, rfl⟩
              have rg16 := fb_rng l4_11
              have zt15 : t15.toInt = l4_11.toInt + 1 := by rw [et15]; exact add_i rfl (by decide) (by omega) (by omega)
              refine lv_iinc (v := t15) (lv' := [(4, .int t15), (3, .int l3_11), (0, .ref y0), (1, .int p1), (2, .int p2)]) hx hb dX11_sure_53 hl (k := 0) rfl (by rw [et15]; rfl) (by decide) rfl (fun ls hl => ?_)
              refine lv_goto (tgt := 24) hx hb dX11_sure_56 (by decide) ?_
              have rg17 := fb_rng t15
              exact ih11 l3_11 t15 ⟨show (0 : Int) ≤ t15.toInt by omega, show t15.toInt ≤ (2147483647 : Int) by omega⟩ (by show (2147483647 - t15.toInt).toNat < n11; omega) _ _ _ hP hD hS (lv_sub hl [0, 1, 2, 3, 4] rfl)
            · skip
              have zc14 : ¬ (t13.toInt = 0) := by rw [fa_eq, show (0 : Int32).toInt = 0 from by decide] at c14; exact c14
              refine lv_iload_n hx hb dX11_sure_41 rfl (lv_at hl 1 rfl) ?_
              refine lv_if_lt (tgt := 50) hx hb dX11_sure_42 (by decide) (fun c18 => ?_) (fun c18 => ?_)
              · skip
                have zc18 : l3_11.toInt < 0 := by rw [fa_lt, show (0 : Int32).toInt = 0 from by decide] at c18; exact c18
                refine lv_iload hx hb dX11_sure_50 (lv_at hl 0 rfl) ?_
                refine lv_istore_n (lv' := [(3, .int l4_11), (4, .int l4_11), (0, .ref y0), (1, .int p1), (2, .int p2)]) hx hb dX11_sure_52 rfl hl (by decide) rfl (fun ls hl => ?_)
                obtain ⟨t19, et19⟩ : ∃ y : Int32, y = l4_11 + 1 := ⟨_, rfl⟩
                have rg20 := fb_rng l4_11
                have zt19 : t19.toInt = l4_11.toInt + 1 := by rw [et19]; exact add_i rfl (by decide) (by omega) (by omega)
                refine lv_iinc (v := t19) (lv' := [(4, .int t19), (3, .int l4_11), (0, .ref y0), (1, .int p1), (2, .int p2)]) hx hb dX11_sure_53 hl (k := 1) rfl (by rw [et19]; rfl) (by decide) rfl (fun ls hl => ?_)
                refine lv_goto (tgt := 24) hx hb dX11_sure_56 (by decide) ?_
                have rg21 := fb_rng t19
                exact ih11 l4_11 t19 ⟨show (0 : Int) ≤ t19.toInt by omega, show t19.toInt ≤ (2147483647 : Int) by omega⟩ (by show (2147483647 - t19.toInt).toNat < n11; omega) _ _ _ hP hD hS (lv_sub hl [0, 1, 2, 3, 4] rfl)
              · skip
                have zc18 : ¬ (l3_11.toInt < 0) := by rw [fa_lt, show (0 : Int32).toInt = 0 from by decide] at c18; exact c18
                refine lv_iload_n hx hb dX11_sure_45 rfl (lv_at hl 3 rfl) ?_
                refine lv_iconst (v := 1) hx hb dX11_sure_46 (by decide) ?_
                refine lv_icmp_ne (tgt := 53) hx hb dX11_sure_47 (by decide) (fun c22 => ?_) (fun c22 => ?_)
                · skip
                  have zc22 : ¬ (p1.toInt = 1) := by rw [fa_eq, show (1 : Int32).toInt = 1 from by decide] at c22; exact c22
                  obtain ⟨t23, et23⟩ : ∃ y : Int32, y = l4_11 + 1 := ⟨_, rfl⟩
                  have rg24 := fb_rng l4_11
                  have zt23 : t23.toInt = l4_11.toInt + 1 := by rw [et23]; exact add_i rfl (by decide) (by omega) (by omega)
                  refine lv_iinc (v := t23) (lv' := [(4, .int t23), (3, .int l3_11), (0, .ref y0), (1, .int p1), (2, .int p2)]) hx hb dX11_sure_53 hl (k := 0) rfl (by rw [et23]; rfl) (by decide) rfl (fun ls hl => ?_)
                  refine lv_goto (tgt := 24) hx hb dX11_sure_56 (by decide) ?_
                  have rg25 := fb_rng t23
                  exact ih11 l3_11 t23 ⟨show (0 : Int) ≤ t23.toInt by omega, show t23.toInt ≤ (2147483647 : Int) by omega⟩ (by show (2147483647 - t23.toInt).toNat < n11; omega) _ _ _ hP hD hS (lv_sub hl [0, 1, 2, 3, 4] rfl)
                · skip
                  have zc22 : p1.toInt = 1 := by rw [fa_eq, show (1 : Int32).toInt = 1 from by decide] at c22; exact c22
                  refine lv_iload hx hb dX11_sure_50 (lv_at hl 0 rfl) ?_
                  refine lv_istore_n (lv' := [(3, .int l4_11), (4, .int l4_11), (0, .ref y0), (1, .int p1), (2, .int p2)]) hx hb dX11_sure_52 rfl hl (by decide) rfl (fun ls hl => ?_)
                  obtain ⟨t26, et26⟩ : ∃ y : Int32, y = l4_11 + 1 := ⟨_, rfl⟩
                  have rg27 := fb_rng l4_11
                  have zt26 : t26.toInt = l4_11.toInt + 1 := by rw [et26]; exact add_i rfl (by decide) (by omega) (by omega)
                  refine lv_iinc (v := t26) (lv' := [(4, .int t26), (3, .int l4_11), (0, .ref y0), (1, .int p1), (2, .int p2)]) hx hb dX11_sure_53 hl (k := 1) rfl (by rw [et26]; rfl) (by decide) rfl (fun ls hl => ?_)
                  refine lv_goto (tgt := 24) hx hb dX11_sure_56 (by decide) ?_
                  have rg28 := fb_rng t26
                  exact ih11 l4_11 t26 ⟨show (0 : Int) ≤ t26.toInt by omega, show t26.toInt ≤ (2147483647 : Int) by omega⟩ (by show (2147483647 - t26.toInt).toNat < n11; omega) _ _ _ hP hD hS (lv_sub hl [0, 1, 2, 3, 4] rfl)
      exact lp11 _ (-1) 0 ⟨by decide, by decide⟩ (Nat.lt_succ_self _) _ _ _ hP hD hS (lv_sub hl [0, 1, 2, 3, 4] rfl)
    · skip
      have zc10 : r5.toInt = 0 := by rw [fa_eq, show (0 : Int32).toInt = 0 from by decide] at c10; exact c10
      refine lv_iconst (v := (-1)) hx hb dX11_sure_17 (by decide) ?_
      exact ret (-1) (v6, f7, w8, g9) _ _ _ _ _ _ rfl ⟨hIv6, hCf7, hRf7, hk0_v6, hk1_v6, hk3_v6, hk4_v6, hk5_v6, hk8_v6, hk9_v6, hk10_v6, hk13_v6, hk14_v6, hk15_v6, hk17_v6, hk18_v6, hk24_v6, hk25_v6, hk35_v6, hk36_v6, hk38_v6, hk39_v6⟩ hP hD hS dX11_sure_18 (Nat.le_refl _) (Nat.le_refl _)
  · skip
    subst g4
    refine lv_if_eq (tgt := 17) hx hb dX11_sure_6 (by decide) (fun _ => ?_) (fun c0 => absurd (by decide) c0)
    refine lv_iconst (v := (-1)) hx hb dX11_sure_17 (by decide) ?_
    exact ret (-1) (v, f, w, g) _ _ _ _ _ _ rfl ⟨hIv, hCf, hRf, rfl, rfl, rfl, rfl, rfl, rfl, rfl, rfl, rfl, rfl, rfl, rfl, rfl, rfl, rfl, rfl, rfl, rfl, rfl⟩ hP hD hS dX11_sure_18 (Nat.le_refl _) (Nat.le_refl _)
set_option maxHeartbeats 4000000 in
set_option maxRecDepth 100000 in
theorem sY_X11_leftBy_1 (l : Launch) (dC : Nat → ClassId) (dI : Nat → Nat → Nat) (cy : Nat → ClassId) (y0 : Nat) (r : Nat → Nat) (p1 : Int32) (p2 : Int32) (v : Nat → Int32) (f : Nat → Nat → Int32) (w : Int64) (g : Nat → Int64) (hIv : YI v) (hCf : YC f) (hRf : progOK (f 4) (f 5) (v 9).toInt.toNat) (hp1 : (0 : Int) ≤ p1.toInt ∧ p1.toInt ≤ 20) : ctI l (dC, dI) cy yX11_leftBy cX11_leftBy 5 .int 2 81 0 0 Unit [.ref y0, .int p1, .int p2] (YW cy y0 r v f w g) (fun r u => True) (fun u => YW cy y0 r v f w g) := by
  refine ctI_of (by decide) (Nat.le_of_ble_eq_true rfl) (fun p e s m below meth c A ls Q hx hb hml hts hown hE hP hD hA hl ret => ?_)
  have hUv : (v 35).toInt + (v 36).toInt ≤ 40 := hIv.2
  have hown : s.vm.findClass RX11 = some m.cls := hown
  have hS : va_S A s.heap s.heap [] := va_S.rf
  have hl : lv_has ls 5 [(0, .ref y0), (1, .int p1), (2, .int p2)] := hl
  refine lv_iconst (v := 0) hx hb dX11_leftBy_0 (by decide) ?_
  refine lv_istore_n (lv' := [(3, .int 0), (0, .ref y0), (1, .int p1), (2, .int p2)]) hx hb dX11_leftBy_1 rfl hl (by decide) rfl (fun ls hl => ?_)
  refine lv_iconst (v := 0) hx hb dX11_leftBy_2 (by decide) ?_
  refine lv_istore (lv' := [(4, .int 0), (3, .int 0), (0, .ref y0), (1, .int p1), (2, .int p2)]) hx hb dX11_leftBy_3 hl (by decide) rfl (fun ls hl => ?_)
  have lp1 : ∀ (n1 : Nat) (l3_1 : Int32) (l4_1 : Int32), ((0 : Int) ≤ l4_1.toInt ∧ l4_1.toInt ≤ 2147483647) → (2147483647 - l4_1.toInt).toNat < n1 → ∀ (H : Heap) (locs : List Loc) (ls : Array Slot), va_P (dC, dI) vwCl (YW cy y0 r v f w g) H → va_D A (YW cy y0 r v f w g) → va_S A s.heap H locs → lv_has ls 5 [(4, .int l4_1), (3, .int l3_1), (0, .ref y0), (1, .int p1), (2, .int p2)] → W p l e { frames := 2, cells := 0, slots := 0, locals := 81 } s m ([.ref y0, .int p1, .int p2] : List Value).toArray below meth c H locs 0 0 Q (F0 m 5 ls []) := by
    intro n1
    induction n1 with
    | zero => intro l3_1 l4_1 hr4_1 hm; exact absurd hm (Nat.not_lt_zero _)
    | succ n1 ih1 =>
      intro l3_1 l4_1 hr4_1 hm1 H locs ls hP hD hS hl
      refine lv_iload hx hb dX11_leftBy_5 (lv_at hl 0 rfl) ?_
      refine lv_bipush (v := 30) hx hb dX11_leftBy_7 (by decide) ?_
      refine lv_icmp_gt (tgt := 54) hx hb dX11_leftBy_9 (by decide) (fun c2 => ?_) (fun c2 => ?_)
      · skip
        have zc2 : 30 < l4_1.toInt := by rw [fa_lt, show (30 : Int32).toInt = 30 from by decide] at c2; exact c2
        refine lv_iload_n hx hb dX11_leftBy_54 rfl (lv_at hl 1 rfl) ?_
        refine lv_iload_n hx hb dX11_leftBy_55 rfl (lv_at hl 4 rfl) ?_
        refine lv_iload_n hx hb dX11_leftBy_56 rfl (lv_at hl 1 rfl) ?_
        refine lv_isub hx hb dX11_leftBy_57 ?_
        refine lv_topi (fun t3 et3 => ?_)
        refine cbSi (n := 2) (rest := []) hx hb hml hown hts hE hP hD hS hA (sY_X11_greater_1 l dC dI cy y0 r l3_1 t3 v f w g hIv hCf hRf ) k_1802 k_1803 k_114 k_1804 (by decide +kernel) ⟨Nat.le_of_ble_eq_true rfl, Nat.le_of_ble_eq_true rfl⟩ (rfl) hl.1 rfl (Nat.le_of_ble_eq_true rfl) dX11_leftBy_58 (fun r4 u H locs hw hP hD hS => ?_)
        exact ret r4 () _ _ _ _ _ _ rfl trivial hP hD hS dX11_leftBy_61 (Nat.le_refl _) (Nat.le_refl _)
      · skip
        have zc2 : ¬ (30 < l4_1.toInt) := by rw [fa_lt, show (30 : Int32).toInt = 30 from by decide] at c2; exact c2
        refine lv_iload_n hx hb dX11_leftBy_12 rfl (lv_at hl 1 rfl) ?_
        refine lv_aload_n hx hb dX11_leftBy_13 rfl (lv_at hl 2 rfl) ?_
        refine va_get (D := (dC, dI)) (ci := 11) (v := .ref (r 76)) (C := RX11) (T := TX11) (N := 79) hx hb hts inB_11 hown hE.1 hP 0 rfl rfl 76 (by decide) (hts _ k_1396) (fun _ h9 => h9) rfl dX11_leftBy_14 ?_
        refine lv_iload hx hb dX11_leftBy_17 (lv_at hl 0 rfl) ?_
        refine ldZ hx hb hE hP 36 rfl (vp_in_iff.mpr ⟨by omega, by omega⟩) rfl rfl dX11_leftBy_19 ?_
        refine lv_topi (fun t5 et5 => ?_)
        refine lv_if_eq (tgt := 42) hx hb dX11_leftBy_20 (by decide) (fun c6 => ?_) (fun c6 => ?_)
        · skip
          have zc6 : t5.toInt = 0 := by rw [fa_eq, show (0 : Int32).toInt = 0 from by decide] at c6; exact c6
          refine lv_iconst (v := 0) hx hb dX11_leftBy_42 (by decide) ?_
          have lt7 : (0 : Int32).toInt = 0 := by decide
          refine cbSi (n := 1) (rest := [.int l3_1]) hx hb hml hown hts hE hP hD hS hA (sY_X11_truth_1 l dC dI cy y0 r 0 v f w g hIv hCf hRf ) k_1761 k_1762 k_114 k_1763 (by decide +kernel) ⟨Nat.le_of_ble_eq_true rfl, Nat.le_of_ble_eq_true rfl⟩ (rfl) hl.1 rfl (Nat.le_of_ble_eq_true rfl) dX11_leftBy_43 (fun r8 u H locs hw hP hD hS => ?_)
          refine lv_iadd hx hb dX11_leftBy_46 ?_
          refine lv_topi (fun t9 et9 => ?_)
          refine lv_istore_n (lv' := [(3, .int t9), (4, .int l4_1), (0, .ref y0), (1, .int p1), (2, .int p2)]) hx hb dX11_leftBy_47 rfl hl (by decide) rfl (fun ls hl => ?_)
          obtain ⟨t10, et10⟩ : ∃ y : Int32, y = l4_1 + 1 := ⟨_, rfl⟩
          have rg11 := fb_rng l4_1
          have zt10 : t10.toInt = l4_1.toInt + 1 := by rw [et10]; exact add_i rfl (by decide) (by omega) (by omega)
          refine lv_iinc (v := t10) (lv' := [(4, .int t10), (3, .int t9), (0, .ref y0), (1, .int p1), (2, .int p2)]) hx hb dX11_leftBy_48 hl (k := 1) rfl (by rw [et10]; rfl) (by decide) rfl (fun ls hl => ?_)
          refine lv_goto (tgt := 5) hx hb dX11_leftBy_51 (by decide) ?_
          have rg12 := fb_rng t10
          exact ih1 t9 t10 ⟨show (0 : Int) ≤ t10.toInt by omega, show t10.toInt ≤ (2147483647 : Int) by omega⟩ (by show (2147483647 - t10.toInt).toNat < n1; omega) _ _ _ hP hD hS (lv_sub hl [0, 1, 2, 3, 4] rfl)
        · skip
          have zc6 : ¬ (t5.toInt = 0) := by rw [fa_eq, show (0 : Int32).toInt = 0 from by decide] at c6; exact c6
          refine lv_aload_n hx hb dX11_leftBy_23 rfl (lv_at hl 2 rfl) ?_
          refine va_get (D := (dC, dI)) (ci := 11) (v := .ref (r 75)) (C := RX11) (T := TX11) (N := 79) hx hb hts inB_11 hown hE.1 hP 0 rfl rfl 75 (by decide) (hts _ k_1395) (fun _ h9 => h9) rfl dX11_leftBy_24 ?_
          refine lv_bipush (v := 21) hx hb dX11_leftBy_27 (by decide) ?_
          refine lv_iload hx hb dX11_leftBy_29 (lv_at hl 0 rfl) ?_
          refine lv_imul hx hb dX11_leftBy_31 ?_
          refine lv_topi (fun t13 et13 => ?_)
          have rg14 := fb_rng l4_1
          have zt13 : t13.toInt = 21 * l4_1.toInt := by rw [et13]; exact mul_i (by decide) rfl (by omega) (by omega)
          refine lv_iload_n hx hb dX11_leftBy_32 rfl (lv_at hl 3 rfl) ?_
          refine lv_iadd hx hb dX11_leftBy_33 ?_
          refine lv_topi (fun t15 et15 => ?_)
          have rg16 := fb_rng t13
          have rg17 := fb_rng p1
          have zt15 : t15.toInt = t13.toInt + p1.toInt := by rw [et15]; exact add_i rfl rfl (by omega) (by omega)
          refine ldZ hx hb hE hP 35 rfl (vp_in_iff.mpr ⟨by omega, by omega⟩) rfl rfl dX11_leftBy_34 ?_
          refine lv_topi (fun t18 et18 => ?_)
          refine lv_if_eq (tgt := 42) hx hb dX11_leftBy_35 (by decide) (fun c19 => ?_) (fun c19 => ?_)
          · skip
            have zc19 : t18.toInt = 0 := by rw [fa_eq, show (0 : Int32).toInt = 0 from by decide] at c19; exact c19
            refine lv_iconst (v := 0) hx hb dX11_leftBy_42 (by decide) ?_
            have lt20 : (0 : Int32).toInt = 0 := by decide
            refine cbSi (n := 1) (rest := [.int l3_1]) hx hb hml hown hts hE hP hD hS hA (sY_X11_truth_1 l dC dI cy y0 r 0 v f w g hIv hCf hRf ) k_1761 k_1762 k_114 k_1763 (by decide +kernel) ⟨Nat.le_of_ble_eq_true rfl, Nat.le_of_ble_eq_true rfl⟩ (rfl) hl.1 rfl (Nat.le_of_ble_eq_true rfl) dX11_leftBy_43 (fun r21 u H locs hw hP hD hS => ?_)
            refine lv_iadd hx hb dX11_leftBy_46 ?_
            refine lv_topi (fun t22 et22 => ?_)
            refine lv_istore_n (lv' := [(3, .int t22), (4, .int l4_1), (0, .ref y0), (1, .int p1), (2, .int p2)]) hx hb dX11_leftBy_47 rfl hl (by decide) rfl (fun ls hl => ?_)
            obtain ⟨t23, et23⟩ : ∃ y : Int32, y = l4_1 + 1 := ⟨_, rfl⟩
            have zt23 : t23.toInt = l4_1.toInt + 1 := by rw [et23]; exact add_i rfl (by decide) (by omega) (by omega)
            refine lv_iinc (v := t23) (lv' := [(4, .int t23), (3, .int t22), (0, .ref y0), (1, .int p1), (2, .int p2)]) hx hb dX11_leftBy_48 hl (k := 1) rfl (by rw [et23]; rfl) (by decide) rfl (fun ls hl => ?_)
            refine lv_goto (tgt := 5) hx hb dX11_leftBy_51 (by decide) ?_
            have rg24 := fb_rng t23
            exact ih1 t22 t23 ⟨show (0 : Int) ≤ t23.toInt by omega, show t23.toInt ≤ (2147483647 : Int) by omega⟩ (by show (2147483647 - t23.toInt).toNat < n1; omega) _ _ _ hP hD hS (lv_sub hl [0, 1, 2, 3, 4] rfl)
          · skip
            have zc19 : ¬ (t18.toInt = 0) := by rw [fa_eq, show (0 : Int32).toInt = 0 from by decide] at c19; exact c19
            refine lv_iconst (v := 1) hx hb dX11_leftBy_38 (by decide) ?_
            refine lv_goto (tgt := 43) hx hb dX11_leftBy_39 (by decide) ?_
            have lt25 : (1 : Int32).toInt = 1 := by decide
            refine cbSi (n := 1) (rest := [.int l3_1]) hx hb hml hown hts hE hP hD hS hA (sY_X11_truth_1 l dC dI cy y0 r 1 v f w g hIv hCf hRf ) k_1761 k_1762 k_114 k_1763 (by decide +kernel) ⟨Nat.le_of_ble_eq_true rfl, Nat.le_of_ble_eq_true rfl⟩ (rfl) hl.1 rfl (Nat.le_of_ble_eq_true rfl) dX11_leftBy_43 (fun r26 u H locs hw hP hD hS => ?_)
            refine lv_iadd hx hb dX11_leftBy_46 ?_
            refine lv_topi (fun t27 et27 => ?_)
            refine lv_istore_n (lv' := [(3, .int t27), (4, .int l4_1), (0, .ref y0), (1, .int p1), (2, .int p2)]) hx hb dX11_leftBy_47 rfl hl (by decide) rfl (fun ls hl => ?_)
            obtain ⟨t28, et28⟩ : ∃ y : Int32, y = l4_1 + 1 := ⟨_, rfl⟩
            have zt28 : t28.toInt = l4_1.toInt + 1 := by rw [et28]; exact add_i rfl (by decide) (by omega) (by omega)
            refine lv_iinc (v := t28) (lv' := [(4, .int t28), (3, .int t27), (0, .ref y0), (1, .int p1), (2, .int p2)]) hx hb dX11_leftBy_48 hl (k := 1) rfl (by rw [et28]; rfl) (by decide) rfl (fun ls hl => ?_)
            refine lv_goto (tgt := 5) hx hb dX11_leftBy_51 (by decide) ?_
            have rg29 := fb_rng t28
            exact ih1 t27 t28 ⟨show (0 : Int) ≤ t28.toInt by omega, show t28.toInt ≤ (2147483647 : Int) by omega⟩ (by show (2147483647 - t28.toInt).toNat < n1; omega) _ _ _ hP hD hS (lv_sub hl [0, 1, 2, 3, 4] rfl)
  exact lp1 _ 0 0 ⟨by decide, by decide⟩ (Nat.lt_succ_self _) _ _ _ hP hD hS (lv_sub hl [0, 1, 2, 3, 4] rfl)
set_option maxHeartbeats 4000000 in
set_option maxRecDepth 100000 in
theorem sY_X11_ask_1 (l : Launch) (dC : Nat → ClassId) (dI : Nat → Nat → Nat) (cy : Nat → ClassId) (y0 : Nat) (r : Nat → Nat) (p1 : Int32) (p2 : Int32) (v : Nat → Int32) (f : Nat → Nat → Int32) (w : Int64) (g : Nat → Int64) (hIv : YI v) (hCf : YC f) (hRf : progOK (f 4) (f 5) (v 9).toInt.toNat)  : ctI l (dC, dI) cy yX11_ask cX11_ask 6 .int 6 172 0 0 ((Nat → Int32) × (Nat → Nat → Int32) × (Int64) × (Nat → Int64)) [.ref y0, .int p1, .int p2] (YW cy y0 r v f w g) (fun r u => YI u.1 ∧ YC u.2.1 ∧ progOK (u.2.1 4) (u.2.1 5) (u.1 9).toInt.toNat ∧ u.1 0 = v 0 ∧ u.1 1 = v 1 ∧ u.1 3 = v 3 ∧ u.1 4 = v 4 ∧ u.1 5 = v 5 ∧ u.1 8 = v 8 ∧ u.1 9 = v 9 ∧ u.1 10 = v 10 ∧ u.1 13 = v 13 ∧ u.1 14 = v 14 ∧ u.1 15 = v 15 ∧ u.1 17 = v 17 ∧ u.1 18 = v 18 ∧ u.1 24 = v 24 ∧ u.1 25 = v 25 ∧ u.1 35 = v 35 ∧ u.1 36 = v 36 ∧ u.1 38 = v 38 ∧ u.1 39 = v 39) (fun u => YW cy y0 r u.1 u.2.1 u.2.2.1 u.2.2.2) := by
  refine ctI_of (by decide) (Nat.le_of_ble_eq_true rfl) (fun p e s m below meth c A ls Q hx hb hml hts hown hE hP hD hA hl ret => ?_)
  have hUv : (v 35).toInt + (v 36).toInt ≤ 40 := hIv.2
  have hown : s.vm.findClass RX11 = some m.cls := hown
  have hS : va_S A s.heap s.heap [] := va_S.rf
  have hl : lv_has ls 6 [(0, .ref y0), (1, .int p1), (2, .int p2)] := hl
  refine lv_iload_n hx hb dX11_ask_0 rfl (lv_at hl 1 rfl) ?_
  refine lv_iconst (v := 0) hx hb dX11_ask_1 (by decide) ?_
  refine lv_iconst (v := 1) hx hb dX11_ask_2 (by decide) ?_
  have lt1 : (0 : Int32).toInt = 0 := by decide
  have lt2 : (1 : Int32).toInt = 1 := by decide
  refine cbSi (n := 3) (rest := []) hx hb hml hown hts hE hP hD hS hA (sY_X11_isIn_1 l dC dI cy y0 r p1 0 1 v f w g hIv hCf hRf ) k_1736 k_1737 k_114 k_1738 (by decide +kernel) ⟨Nat.le_of_ble_eq_true rfl, Nat.le_of_ble_eq_true rfl⟩ (rfl) hl.1 rfl (Nat.le_of_ble_eq_true rfl) dX11_ask_3 (fun r3 u H locs hw hP hD hS => ?_)
  rcases hw with ⟨g4, g4_0, g4_1⟩ | ⟨g4⟩
  · skip
    subst g4
    refine lv_if_ne (tgt := 11) hx hb dX11_ask_6 (by decide) (fun _ => ?_) (fun c0 => absurd c0 (by decide))
    refine lv_aload_n hx hb dX11_ask_11 rfl (lv_at hl 0 rfl) ?_
    refine lv_iload_n hx hb dX11_ask_12 rfl (lv_at hl 2 rfl) ?_
    refine cbVi (n := 1) (rest := []) hx hb hml hown hts hE hP hD hS hA (sY_X11_layGrowths_1 l dC dI cy y0 r p2 v f w g hIv hCf hRf ) k_2024 k_2026 k_97 k_114 k_2027 (by decide +kernel) ⟨Nat.le_of_ble_eq_true rfl, Nat.le_of_ble_eq_true rfl⟩ 0 11 rfl rfl (rfl) hl.1 rfl (Nat.le_of_ble_eq_true rfl) dX11_ask_13 (fun r5 u H locs hw hP hD hS => ?_)
    obtain ⟨v6, f7, w8, g9⟩ := u
    obtain ⟨hIv6, hCf7, hRf7, hk0_v6, hk1_v6, hk3_v6, hk4_v6, hk5_v6, hk8_v6, hk9_v6, hk10_v6, hk13_v6, hk14_v6, hk15_v6, hk17_v6, hk18_v6, hk24_v6, hk25_v6, hk35_v6, hk36_v6, hk38_v6, hk39_v6⟩ := hw
    have hP : va_P (dC, dI) vwCl (YW cy y0 r v6 f7 w8 g9) H := hP
    have hD : va_D A (YW cy y0 r v6 f7 w8 g9) := hD
    have hUv6 : (v6 35).toInt + (v6 36).toInt ≤ 40 := hIv6.2
    have hq0_v6 : v6 0 = (v 0) := hk0_v6
    have hq1_v6 : v6 1 = (v 1) := hk1_v6
    have hq3_v6 : v6 3 = (v 3) := hk3_v6
    have zq3_v6 := congrArg Int32.toInt hq3_v6
    have hq4_v6 : v6 4 = (v 4) := hk4_v6
    have zq4_v6 := congrArg Int32.toInt hq4_v6
    have hq5_v6 : v6 5 = (v 5) := hk5_v6
    have zq5_v6 := congrArg Int32.toInt hq5_v6
    have hq8_v6 : v6 8 = (v 8) := hk8_v6
    have hq9_v6 : v6 9 = (v 9) := hk9_v6
    have zq9_v6 := congrArg Int32.toInt hq9_v6
    have hq10_v6 : v6 10 = (v 10) := hk10_v6
    have hq13_v6 : v6 13 = (v 13) := hk13_v6
    have hq14_v6 : v6 14 = (v 14) := hk14_v6
    have hq15_v6 : v6 15 = (v 15) := hk15_v6
    have hq17_v6 : v6 17 = (v 17) := hk17_v6
    have hq18_v6 : v6 18 = (v 18) := hk18_v6
    have hq24_v6 : v6 24 = (v 24) := hk24_v6
    have hq25_v6 : v6 25 = (v 25) := hk25_v6
    have hq35_v6 : v6 35 = (v 35) := hk35_v6
    have zq35_v6 := congrArg Int32.toInt hq35_v6
    have hq36_v6 : v6 36 = (v 36) := hk36_v6
    have zq36_v6 := congrArg Int32.toInt hq36_v6
    have hq38_v6 : v6 38 = (v 38) := hk38_v6
    have hq39_v6 : v6 39 = (v 39) := hk39_v6
    refine lv_istore_n (lv' := [(3, .int r5), (0, .ref y0), (1, .int p1), (2, .int p2)]) hx hb dX11_ask_16 rfl hl (by decide) rfl (fun ls hl => ?_)
    refine lv_iload_n hx hb dX11_ask_17 rfl (lv_at hl 0 rfl) ?_
    refine lv_if_ne (tgt := 23) hx hb dX11_ask_18 (by decide) (fun c10 => ?_) (fun c10 => ?_)
    · skip
      have zc10 : ¬ (r5.toInt = 0) := by rw [fa_eq, show (0 : Int32).toInt = 0 from by decide] at c10; exact c10
      refine lv_iconst (v := 0) hx hb dX11_ask_23 (by decide) ?_
      refine lv_istore (lv' := [(4, .int 0), (3, .int r5), (0, .ref y0), (1, .int p1), (2, .int p2)]) hx hb dX11_ask_24 hl (by decide) rfl (fun ls hl => ?_)
      refine lv_iconst (v := 1) hx hb dX11_ask_26 (by decide) ?_
      refine lv_istore (lv' := [(5, .int 1), (4, .int 0), (3, .int r5), (0, .ref y0), (1, .int p1), (2, .int p2)]) hx hb dX11_ask_27 hl (by decide) rfl (fun ls hl => ?_)
      have lp11 : ∀ (n11 : Nat) (l4_11 : Int32) (l5_11 : Int32), ((0 : Int) ≤ l4_11.toInt ∧ l4_11.toInt ≤ 20) → ((1 : Int) ≤ l5_11.toInt ∧ l5_11.toInt ≤ 2147483647) → (2147483647 - l5_11.toInt).toNat < n11 → ∀ (H : Heap) (locs : List Loc) (ls : Array Slot), va_P (dC, dI) vwCl (YW cy y0 r v6 f7 w8 g9) H → va_D A (YW cy y0 r v6 f7 w8 g9) → va_S A s.heap H locs → lv_has ls 6 [(5, .int l5_11), (4, .int l4_11), (3, .int r5), (0, .ref y0), (1, .int p1), (2, .int p2)] → W p l e { frames := 6, cells := 0, slots := 0, locals := 172 } s m ([.ref y0, .int p1, .int p2] : List Value).toArray below meth c H locs 0 0 Q (F0 m 29 ls []) := by
        intro n11
        induction n11 with
        | zero => intro l4_11 l5_11 hr4_11 hr5_11 hm; exact absurd hm (Nat.not_lt_zero _)
        | succ n11 ih11 =>
          intro l4_11 l5_11 hr4_11 hr5_11 hm11 H locs ls hP hD hS hl
          refine lv_iload hx hb dX11_ask_29 (lv_at hl 0 rfl) ?_
          refine lv_bipush (v := 20) hx hb dX11_ask_31 (by decide) ?_
          refine lv_icmp_gt (tgt := 68) hx hb dX11_ask_33 (by decide) (fun c12 => ?_) (fun c12 => ?_)
          · skip
            have zc12 : 20 < l5_11.toInt := by rw [fa_lt, show (20 : Int32).toInt = 20 from by decide] at c12; exact c12
            refine lv_iload_n hx hb dX11_ask_68 rfl (lv_at hl 4 rfl) ?_
            refine lv_if_ne (tgt := 77) hx hb dX11_ask_69 (by decide) (fun c13 => ?_) (fun c13 => ?_)
            · skip
              have zc13 : ¬ (p1.toInt = 0) := by rw [fa_eq, show (0 : Int32).toInt = 0 from by decide] at c13; exact c13
              refine lv_aload_n hx hb dX11_ask_77 rfl (lv_at hl 3 rfl) ?_
              refine lv_iload hx hb dX11_ask_78 (lv_at hl 1 rfl) ?_
              refine lv_iload_n hx hb dX11_ask_80 rfl (lv_at hl 2 rfl) ?_
              refine cbVi (n := 2) (rest := []) hx hb hml hown hts hE hP hD hS hA (sY_X11_leftBy_1 l dC dI cy y0 r l4_11 r5 v6 f7 w8 g9 hIv6 hCf7 hRf7 ⟨show (0 : Int) ≤ l4_11.toInt by omega, show l4_11.toInt ≤ (20 : Int) by omega⟩) k_2040 k_2042 k_99 k_114 k_2043 (by decide +kernel) ⟨Nat.le_of_ble_eq_true rfl, Nat.le_of_ble_eq_true rfl⟩ 0 11 rfl rfl (rfl) hl.1 rfl (Nat.le_of_ble_eq_true rfl) dX11_ask_81 (fun r14 u H locs hw hP hD hS => ?_)
              exact ret r14 (v6, f7, w8, g9) _ _ _ _ _ _ rfl ⟨hIv6, hCf7, hRf7, hk0_v6, hk1_v6, hk3_v6, hk4_v6, hk5_v6, hk8_v6, hk9_v6, hk10_v6, hk13_v6, hk14_v6, hk15_v6, hk17_v6, hk18_v6, hk24_v6, hk25_v6, hk35_v6, hk36_v6, hk38_v6, hk39_v6⟩ hP hD hS dX11_ask_84 (Nat.le_refl _) (Nat.le_refl _)
            · skip
              have zc13 : p1.toInt = 0 := by rw [fa_eq, show (0 : Int32).toInt = 0 from by decide] at c13; exact c13
              refine lv_iload hx hb dX11_ask_72 (lv_at hl 1 rfl) ?_
              refine lv_goto (tgt := 84) hx hb dX11_ask_74 (by decide) ?_
              exact ret l4_11 (v6, f7, w8, g9) _ _ _ _ _ _ rfl ⟨hIv6, hCf7, hRf7, hk0_v6, hk1_v6, hk3_v6, hk4_v6, hk5_v6, hk8_v6, hk9_v6, hk10_v6, hk13_v6, hk14_v6, hk15_v6, hk17_v6, hk18_v6, hk24_v6, hk25_v6, hk35_v6, hk36_v6, hk38_v6, hk39_v6⟩ hP hD hS dX11_ask_84 (Nat.le_refl _) (Nat.le_refl _)
          · skip
            have zc12 : ¬ (20 < l5_11.toInt) := by rw [fa_lt, show (20 : Int32).toInt = 20 from by decide] at c12; exact c12
            refine lv_aload_n hx hb dX11_ask_36 rfl (lv_at hl 3 rfl) ?_
            refine lv_iload hx hb dX11_ask_37 (lv_at hl 0 rfl) ?_
            refine lv_iload_n hx hb dX11_ask_39 rfl (lv_at hl 2 rfl) ?_
            refine cbVi (n := 2) (rest := []) hx hb hml hown hts hE hP hD hS hA (sY_X11_leftBy_1 l dC dI cy y0 r l5_11 r5 v6 f7 w8 g9 hIv6 hCf7 hRf7 ⟨show (0 : Int) ≤ l5_11.toInt by omega, show l5_11.toInt ≤ (20 : Int) by omega⟩) k_2040 k_2042 k_99 k_114 k_2043 (by decide +kernel) ⟨Nat.le_of_ble_eq_true rfl, Nat.le_of_ble_eq_true rfl⟩ 0 11 rfl rfl (rfl) hl.1 rfl (Nat.le_of_ble_eq_true rfl) dX11_ask_40 (fun r15 u H locs hw hP hD hS => ?_)
            refine lv_aload_n hx hb dX11_ask_43 rfl (lv_at hl 3 rfl) ?_
            refine lv_iload hx hb dX11_ask_44 (lv_at hl 1 rfl) ?_
            refine lv_iload_n hx hb dX11_ask_46 rfl (lv_at hl 2 rfl) ?_
            refine cbVi (n := 2) (rest := [.int r15]) hx hb hml hown hts hE hP hD hS hA (sY_X11_leftBy_1 l dC dI cy y0 r l4_11 r5 v6 f7 w8 g9 hIv6 hCf7 hRf7 ⟨show (0 : Int) ≤ l4_11.toInt by omega, show l4_11.toInt ≤ (20 : Int) by omega⟩) k_2040 k_2042 k_99 k_114 k_2043 (by decide +kernel) ⟨Nat.le_of_ble_eq_true rfl, Nat.le_of_ble_eq_true rfl⟩ 0 11 rfl rfl (rfl) hl.1 rfl (Nat.le_of_ble_eq_true rfl) dX11_ask_47 (fun r16 u H locs hw hP hD hS => ?_)
            refine lv_icmp_ge (tgt := 58) hx hb dX11_ask_50 (by decide) (fun c17 => ?_) (fun c17 => ?_)
            · skip
              have zc17 : r16.toInt ≤ r15.toInt := by rw [fa_le] at c17; exact c17
              have rg18 := fb_rng r15
              have rg19 := fb_rng r16
              refine lv_iload hx hb dX11_ask_58 (lv_at hl 1 rfl) ?_
              refine lv_istore (lv' := [(4, .int l4_11), (5, .int l5_11), (3, .int r5), (0, .ref y0), (1, .int p1), (2, .int p2)]) hx hb dX11_ask_60 hl (by decide) rfl (fun ls hl => ?_)
              obtain ⟨t20, et20⟩ : ∃ y : Int32, y = l5_11 + 1 := ⟨_, rfl⟩
              have rg21 := fb_rng l5_11
              have zt20 : t20.toInt = l5_11.toInt + 1 := by rw [et20]; exact add_i rfl (by decide) (by omega) (by omega)
              refine lv_iinc (v := t20) (lv' := [(5, .int t20), (4, .int l4_11), (3, .int r5), (0, .ref y0), (1, .int p1), (2, .int p2)]) hx hb dX11_ask_62 hl (k := 1) rfl (by rw [et20]; rfl) (by decide) rfl (fun ls hl => ?_)
              refine lv_goto (tgt := 29) hx hb dX11_ask_65 (by decide) ?_
              have rg22 := fb_rng l4_11
              have rg23 := fb_rng t20
              exact ih11 l4_11 t20 ⟨show (0 : Int) ≤ l4_11.toInt by omega, show l4_11.toInt ≤ (20 : Int) by omega⟩ ⟨show (1 : Int) ≤ t20.toInt by omega, show t20.toInt ≤ (2147483647 : Int) by omega⟩ (by show (2147483647 - t20.toInt).toNat < n11; omega) _ _ _ hP hD hS (lv_sub hl [0, 1, 2, 3, 4, 5] rfl)
            · skip
              have zc17 : ¬ (r16.toInt ≤ r15.toInt) := by rw [fa_le] at c17; exact c17
              have rg24 := fb_rng r15
              have rg25 := fb_rng r16
              refine lv_iload hx hb dX11_ask_53 (lv_at hl 0 rfl) ?_
              refine lv_goto (tgt := 60) hx hb dX11_ask_55 (by decide) ?_
              refine lv_istore (lv' := [(4, .int l5_11), (5, .int l5_11), (3, .int r5), (0, .ref y0), (1, .int p1), (2, .int p2)]) hx hb dX11_ask_60 hl (by decide) rfl (fun ls hl => ?_)
              obtain ⟨t26, et26⟩ : ∃ y : Int32, y = l5_11 + 1 := ⟨_, rfl⟩
              have rg27 := fb_rng l5_11
              have zt26 : t26.toInt = l5_11.toInt + 1 := by rw [et26]; exact add_i rfl (by decide) (by omega) (by omega)
              refine lv_iinc (v := t26) (lv' := [(5, .int t26), (4, .int l5_11), (3, .int r5), (0, .ref y0), (1, .int p1), (2, .int p2)]) hx hb dX11_ask_62 hl (k := 1) rfl (by rw [et26]; rfl) (by decide) rfl (fun ls hl => ?_)
              refine lv_goto (tgt := 29) hx hb dX11_ask_65 (by decide) ?_
              have rg28 := fb_rng t26
              exact ih11 l5_11 t26 ⟨show (0 : Int) ≤ l5_11.toInt by omega, show l5_11.toInt ≤ (20 : Int) by omega⟩ ⟨show (1 : Int) ≤ t26.toInt by omega, show t26.toInt ≤ (2147483647 : Int) by omega⟩ (by show (2147483647 - t26.toInt).toNat < n11; omega) _ _ _ hP hD hS (lv_sub hl [0, 1, 2, 3, 4, 5] rfl)
      exact lp11 _ 0 1 ⟨by decide, by decide⟩ ⟨by decide, by decide⟩ (Nat.lt_succ_self _) _ _ _ hP hD hS (lv_sub hl [0, 1, 2, 3, 4, 5] rfl)
    · skip
      have zc10 : r5.toInt = 0 := by rw [fa_eq, show (0 : Int32).toInt = 0 from by decide] at c10; exact c10
      refine lv_iconst (v := (-1)) hx hb dX11_ask_21 (by decide) ?_
      exact ret (-1) (v6, f7, w8, g9) _ _ _ _ _ _ rfl ⟨hIv6, hCf7, hRf7, hk0_v6, hk1_v6, hk3_v6, hk4_v6, hk5_v6, hk8_v6, hk9_v6, hk10_v6, hk13_v6, hk14_v6, hk15_v6, hk17_v6, hk18_v6, hk24_v6, hk25_v6, hk35_v6, hk36_v6, hk38_v6, hk39_v6⟩ hP hD hS dX11_ask_22 (Nat.le_refl _) (Nat.le_refl _)
  · skip
    subst g4
    refine lv_if_ne (tgt := 11) hx hb dX11_ask_6 (by decide) (fun c0 => absurd (by decide) c0) (fun _ => ?_)
    refine lv_iconst (v := (-1)) hx hb dX11_ask_9 (by decide) ?_
    exact ret (-1) (v, f, w, g) _ _ _ _ _ _ rfl ⟨hIv, hCf, hRf, rfl, rfl, rfl, rfl, rfl, rfl, rfl, rfl, rfl, rfl, rfl, rfl, rfl, rfl, rfl, rfl, rfl, rfl, rfl⟩ hP hD hS dX11_ask_10 (Nat.le_refl _) (Nat.le_refl _)
