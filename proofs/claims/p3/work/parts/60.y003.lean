set_option maxHeartbeats 4000000 in
set_option maxRecDepth 100000 in
theorem sY_X11_isIn_1 (NF : Nat) (l : Launch) (dC : Nat → ClassId) (dI : Nat → Nat → Nat) (cy : Nat → ClassId) (y0 : Nat) (r : Nat → Nat) (p0 : Int32) (p1 : Int32) (p2 : Int32) (v : Nat → Int32) (f : Nat → Nat → Int32) (w : Int64) (g : Nat → Int64) (hIv : YI v) (hCf : YC f) (hRf : progOK (f 4) (f 5) (v 9).toInt.toNat)  : ctI l (dC, dI) cy yX11_isIn cX11_isIn 3 .boolean 1 60 0 0 Unit [.int p0, .int p1, .int p2] (YW cy y0 r v f w g) (fun r u => gsY_X11_isIn_1 NF p0 p1 p2 v f w g = r ∧ ((r = 1 ∧ p1.toInt ≤ p0.toInt ∧ p0.toInt ≤ p2.toInt) ∨ (r = 0))) (fun u => YW cy y0 r v f w g) := by
  refine ctI_of (by decide) (Nat.le_of_ble_eq_true rfl) (fun p e s m below meth c A ls Q hx hb hml hts hown hE hP hD hA hl ret => ?_)
  have hUv : (v 35).toInt + (v 36).toInt ≤ 40 := hIv.2
  have hown : s.vm.findClass RX11 = some m.cls := hown
  have hS : va_S A s.heap s.heap [] := va_S.rf
  have hl : lv_has ls 3 [(0, .int p0), (1, .int p1), (2, .int p2)] := hl
  refine lv_iload_n hx hb dX11_isIn_0 rfl (lv_at hl 0 rfl) ?_
  refine lv_iload_n hx hb dX11_isIn_1 rfl (lv_at hl 1 rfl) ?_
  refine lv_icmp_lt (tgt := 14) hx hb dX11_isIn_2 rfl (fun c1 => ?_) (fun c1 => ?_)
  · skip
    have zc1 : p0.toInt < p1.toInt := by rw [fa_lt] at c1; exact c1
    have rg2 := fb_rng p0
    have rg3 := fb_rng p1
    refine lv_iconst (v := 0) hx hb dX11_isIn_14 rfl ?_
    exact ret 0 () _ _ _ _ _ _ rfl ⟨(gsY_X11_isIn_1_q0 c1), (Or.inr rfl)⟩ hP hD hS dX11_isIn_15 (Nat.le_refl _) (Nat.le_refl _)
  · skip
    have zc1 : ¬ (p0.toInt < p1.toInt) := by rw [fa_lt] at c1; exact c1
    have rg4 := fb_rng p0
    have rg5 := fb_rng p1
    refine lv_iload_n hx hb dX11_isIn_5 rfl (lv_at hl 0 rfl) ?_
    refine lv_iload_n hx hb dX11_isIn_6 rfl (lv_at hl 2 rfl) ?_
    refine lv_icmp_gt (tgt := 14) hx hb dX11_isIn_7 rfl (fun c6 => ?_) (fun c6 => ?_)
    · skip
      have zc6 : p2.toInt < p0.toInt := by rw [fa_lt] at c6; exact c6
      have rg7 := fb_rng p2
      refine lv_iconst (v := 0) hx hb dX11_isIn_14 rfl ?_
      exact ret 0 () _ _ _ _ _ _ rfl ⟨(gsY_X11_isIn_1_q1 c1 c6), (Or.inr rfl)⟩ hP hD hS dX11_isIn_15 (Nat.le_refl _) (Nat.le_refl _)
    · skip
      have zc6 : ¬ (p2.toInt < p0.toInt) := by rw [fa_lt] at c6; exact c6
      have rg8 := fb_rng p2
      refine lv_iconst (v := 1) hx hb dX11_isIn_10 rfl ?_
      refine lv_goto (tgt := 15) hx hb dX11_isIn_11 rfl ?_
      exact ret 1 () _ _ _ _ _ _ rfl ⟨(gsY_X11_isIn_1_q2 c1 c6), (Or.inl ⟨rfl, by omega, by omega⟩)⟩ hP hD hS dX11_isIn_15 (Nat.le_refl _) (Nat.le_refl _)
set_option maxHeartbeats 4000000 in
set_option maxRecDepth 100000 in
theorem sY_X11_seen_1 (NF : Nat) (l : Launch) (dC : Nat → ClassId) (dI : Nat → Nat → Nat) (cy : Nat → ClassId) (y0 : Nat) (r : Nat → Nat) (p1 : Int32) (p2 : Int32) (v : Nat → Int32) (f : Nat → Nat → Int32) (w : Int64) (g : Nat → Int64) (hIv : YI v) (hCf : YC f) (hRf : progOK (f 4) (f 5) (v 9).toInt.toNat)  : ctI l (dC, dI) cy yX11_seen cX11_seen 3 .int 2 82 0 0 ((Nat → Int32) × (Nat → Nat → Int32) × (Int64) × (Nat → Int64)) [.ref y0, .int p1, .int p2] (YW cy y0 r v f w g) (fun r u => gsY_X11_seen_1 NF p1 p2 v f w g = (r, u) ∧ KV [38] u.1 v ∧ KF [30, 31, 32, 33] u.2.1 f ∧ YI u.1 ∧ YC u.2.1 ∧ progOK (u.2.1 4) (u.2.1 5) (u.1 9).toInt.toNat ∧ u.1 0 = v 0 ∧ u.1 1 = v 1 ∧ u.1 2 = v 2 ∧ u.1 3 = v 3 ∧ u.1 4 = v 4 ∧ u.1 5 = v 5 ∧ u.1 8 = v 8 ∧ u.1 9 = v 9 ∧ u.1 10 = v 10 ∧ u.1 13 = v 13 ∧ u.1 14 = v 14 ∧ u.1 15 = v 15 ∧ u.1 17 = v 17 ∧ u.1 18 = v 18 ∧ u.1 24 = v 24 ∧ u.1 25 = v 25 ∧ u.1 35 = v 35 ∧ u.1 36 = v 36 ∧ u.1 39 = v 39) (fun u => YW cy y0 r u.1 u.2.1 u.2.2.1 u.2.2.2) := by
  refine ctI_of (by decide) (Nat.le_of_ble_eq_true rfl) (fun p e s m below meth c A ls Q hx hb hml hts hown hE hP hD hA hl ret => ?_)
  have hUv : (v 35).toInt + (v 36).toInt ≤ 40 := hIv.2
  have hM_v : KV [38] v v := fun _ _ => rfl
  have hA_f : KF [30, 31, 32, 33] f f := fun _ _ => rfl
  have hown : s.vm.findClass RX11 = some m.cls := hown
  have hS : va_S A s.heap s.heap [] := va_S.rf
  have hl : lv_has ls 3 [(0, .ref y0), (1, .int p1), (2, .int p2)] := hl
  refine lv_iload_n hx hb dX11_seen_0 rfl (lv_at hl 1 rfl) ?_
  refine lv_iconst (v := 0) hx hb dX11_seen_1 rfl ?_
  refine lv_bipush (v := 20) hx hb dX11_seen_2 rfl ?_
  have lt1 : (0 : Int32).toInt = 0 := by decide
  have lt2 : (20 : Int32).toInt = 20 := by decide
  refine cbSi (n := 3) (rest := []) hx hb hml hown hts hE hP hD hS hA (sY_X11_isIn_1 NF l dC dI cy y0 r p1 0 20 v f w g hIv hCf hRf ) k_1736 k_1737 k_114 k_1738 (by decide +kernel) ⟨Nat.le_of_ble_eq_true rfl, Nat.le_of_ble_eq_true rfl⟩ (rfl) hl.1 rfl (Nat.le_of_ble_eq_true rfl) dX11_seen_4 (fun r3 u H locs hw hP hD hS => ?_)
  obtain ⟨hG4, hw⟩ := hw
  rcases hw with ⟨g5, g5_0, g5_1⟩ | ⟨g5⟩
  · skip
    subst g5
    refine lv_if_eq (tgt := 33) hx hb dX11_seen_7 rfl (fun c0 => absurd c0 (by decide)) (fun _ => ?_)
    refine lv_aload_n hx hb dX11_seen_10 rfl (lv_at hl 0 rfl) ?_
    refine va_get (D := (dC, dI)) (ci := 11) (v := .int (v 24)) (C := RX11) (T := TX11) (N := 79) hx hb hts inB_11 hown hE.1 hP 0 rfl rfl 48 (Nat.le_of_ble_eq_true rfl) (hts _ k_1368) (fun _ h9 => h9) rfl dX11_seen_11 ?_
    have b24_v : 0 ≤ (v 24).toInt ∧ (v 24).toInt ≤ 6 := YIb.b hIv.1 24 (by decide)
    refine lv_if_eq (tgt := 33) hx hb dX11_seen_14 rfl (fun c6 => ?_) (fun c6 => ?_)
    · skip
      have zc6 : (v 24).toInt = 0 := by rw [fa_eq, show (0 : Int32).toInt = 0 from by decide] at c6; exact c6
      refine lv_iconst (v := (-1)) hx hb dX11_seen_33 rfl ?_
      exact ret (-1) (v, f, w, g) _ _ _ _ _ _ rfl ⟨(gsY_X11_seen_1_q0 hG4 c6), hM_v, hA_f, hIv, hCf, hRf, rfl, rfl, rfl, rfl, rfl, rfl, rfl, rfl, rfl, rfl, rfl, rfl, rfl, rfl, rfl, rfl, rfl, rfl, rfl⟩ hP hD hS dX11_seen_34 (Nat.le_refl _) (Nat.le_refl _)
    · skip
      have zc6 : ¬ ((v 24).toInt = 0) := by rw [fa_eq, show (0 : Int32).toInt = 0 from by decide] at c6; exact c6
      refine lv_aload_n hx hb dX11_seen_17 rfl (lv_at hl 0 rfl) ?_
      refine va_get (D := (dC, dI)) (ci := 11) (v := .int (v 25)) (C := RX11) (T := TX11) (N := 79) hx hb hts inB_11 hown hE.1 hP 0 rfl rfl 49 (Nat.le_of_ble_eq_true rfl) (hts _ k_1369) (fun _ h9 => h9) rfl dX11_seen_18 ?_
      have b25_v : 0 ≤ (v 25).toInt ∧ (v 25).toInt ≤ 6 := YIb.b hIv.1 25 (by decide)
      refine lv_if_eq (tgt := 33) hx hb dX11_seen_21 rfl (fun c7 => ?_) (fun c7 => ?_)
      · skip
        have zc7 : (v 25).toInt = 0 := by rw [fa_eq, show (0 : Int32).toInt = 0 from by decide] at c7; exact c7
        refine lv_iconst (v := (-1)) hx hb dX11_seen_33 rfl ?_
        exact ret (-1) (v, f, w, g) _ _ _ _ _ _ rfl ⟨(gsY_X11_seen_1_q1 hG4 c6 c7), hM_v, hA_f, hIv, hCf, hRf, rfl, rfl, rfl, rfl, rfl, rfl, rfl, rfl, rfl, rfl, rfl, rfl, rfl, rfl, rfl, rfl, rfl, rfl, rfl⟩ hP hD hS dX11_seen_34 (Nat.le_refl _) (Nat.le_refl _)
      · skip
        have zc7 : ¬ ((v 25).toInt = 0) := by rw [fa_eq, show (0 : Int32).toInt = 0 from by decide] at c7; exact c7
        refine lv_aload_n hx hb dX11_seen_24 rfl (lv_at hl 0 rfl) ?_
        refine va_get (D := (dC, dI)) (ci := 11) (v := .int (v 38)) (C := RX11) (T := TX11) (N := 79) hx hb hts inB_11 hown hE.1 hP 0 rfl rfl 73 (Nat.le_of_ble_eq_true rfl) (hts _ k_1393) (fun _ h9 => h9) rfl dX11_seen_25 ?_
        have b38_v : 0 ≤ (v 38).toInt ∧ (v 38).toInt ≤ 30 := YIb.b hIv.1 38 (by decide)
        refine lv_bipush (v := 30) hx hb dX11_seen_28 rfl ?_
        refine lv_icmp_ne (tgt := 35) hx hb dX11_seen_30 rfl (fun c8 => ?_) (fun c8 => ?_)
        · skip
          have zc8 : ¬ ((v 38).toInt = 30) := by rw [fa_eq, show (30 : Int32).toInt = 30 from by decide] at c8; exact c8
          refine lv_aload_n hx hb dX11_seen_35 rfl (lv_at hl 0 rfl) ?_
          refine va_get (D := (dC, dI)) (ci := 11) (v := .ref (r 69)) (C := RX11) (T := TX11) (N := 79) hx hb hts inB_11 hown hE.1 hP 0 rfl rfl 69 (Nat.le_of_ble_eq_true rfl) (hts _ k_1389) (fun _ h9 => h9) rfl dX11_seen_36 ?_
          refine lv_aload_n hx hb dX11_seen_39 rfl (lv_at hl 0 rfl) ?_
          refine va_get (D := (dC, dI)) (ci := 11) (v := .int (v 38)) (C := RX11) (T := TX11) (N := 79) hx hb hts inB_11 hown hE.1 hP 0 rfl rfl 73 (Nat.le_of_ble_eq_true rfl) (hts _ k_1393) (fun _ h9 => h9) rfl dX11_seen_40 ?_
          refine lv_iload_n hx hb dX11_seen_43 rfl (lv_at hl 1 rfl) ?_
          refine stI hx hb hE hP hD hS 31 rfl (vp_in_iff.mpr ⟨by omega, by omega⟩) rfl dX11_seen_44 (fun H locs hP hD hS => ?_)
          obtain ⟨f9, ef9, hP, hD⟩ : ∃ fz9, fz9 = upd2 f 30 (upd (f 30) (v 38).toNatClampNeg p1) ∧ va_P (dC, dI) vwCl (YW cy y0 r v fz9 w g) H ∧ va_D A (YW cy y0 r v fz9 w g) := ⟨_, rfl, hP, hD⟩
          have hCf9 : YC f9 := by rw [ef9]; exact ⟨hCf.1, hCf.2.1, hCf.2.2.1, hCf.2.2.2.1, (rng_st hCf.2.2.2.2.1 (by show 0 ≤ p1.toInt ∧ p1.toInt ≤ 20; omega)), hCf.2.2.2.2.2⟩
          have hRf9 : progOK (f9 4) (f9 5) (v 9).toInt.toNat := by rw [ef9]; exact hRf
          have hA_f9 : KF [30, 31, 32, 33] f9 f := by rw [ef9]; exact KF.up hA_f rfl
          refine lv_aload_n hx hb dX11_seen_45 rfl (lv_at hl 0 rfl) ?_
          refine va_get (D := (dC, dI)) (ci := 11) (v := .ref (r 72)) (C := RX11) (T := TX11) (N := 79) hx hb hts inB_11 hown hE.1 hP 0 rfl rfl 72 (Nat.le_of_ble_eq_true rfl) (hts _ k_1392) (fun _ h9 => h9) rfl dX11_seen_46 ?_
          refine lv_aload_n hx hb dX11_seen_49 rfl (lv_at hl 0 rfl) ?_
          refine va_get (D := (dC, dI)) (ci := 11) (v := .int (v 38)) (C := RX11) (T := TX11) (N := 79) hx hb hts inB_11 hown hE.1 hP 0 rfl rfl 73 (Nat.le_of_ble_eq_true rfl) (hts _ k_1393) (fun _ h9 => h9) rfl dX11_seen_50 ?_
          refine lv_iload_n hx hb dX11_seen_53 rfl (lv_at hl 2 rfl) ?_
          refine stZ hx hb hE hP hD hS 34 rfl (vp_in_iff.mpr ⟨by omega, by omega⟩) rfl dX11_seen_54 (fun H locs hP hD hS => ?_)
          obtain ⟨f10, ef10, hP, hD⟩ : ∃ fz9, fz9 = upd2 f9 33 (upd (f9 33) (v 38).toNatClampNeg (vp_nar .boolean p2)) ∧ va_P (dC, dI) vwCl (YW cy y0 r v fz9 w g) H ∧ va_D A (YW cy y0 r v fz9 w g) := ⟨_, rfl, hP, hD⟩
          have hCf10 : YC f10 := by rw [ef10]; exact hCf9
          have hRf10 : progOK (f10 4) (f10 5) (v 9).toInt.toNat := by rw [ef10]; exact hRf9
          have hA_f10 : KF [30, 31, 32, 33] f10 f := by rw [ef10]; exact KF.up hA_f9 rfl
          refine lv_aload_n hx hb dX11_seen_55 rfl (lv_at hl 0 rfl) ?_
          refine va_get (D := (dC, dI)) (ci := 11) (v := .ref (r 70)) (C := RX11) (T := TX11) (N := 79) hx hb hts inB_11 hown hE.1 hP 0 rfl rfl 70 (Nat.le_of_ble_eq_true rfl) (hts _ k_1390) (fun _ h9 => h9) rfl dX11_seen_56 ?_
          refine lv_aload_n hx hb dX11_seen_59 rfl (lv_at hl 0 rfl) ?_
          refine va_get (D := (dC, dI)) (ci := 11) (v := .int (v 38)) (C := RX11) (T := TX11) (N := 79) hx hb hts inB_11 hown hE.1 hP 0 rfl rfl 73 (Nat.le_of_ble_eq_true rfl) (hts _ k_1393) (fun _ h9 => h9) rfl dX11_seen_60 ?_
          refine lv_aload_n hx hb dX11_seen_63 rfl (lv_at hl 0 rfl) ?_
          refine va_get (D := (dC, dI)) (ci := 11) (v := .int (v 39)) (C := RX11) (T := TX11) (N := 79) hx hb hts inB_11 hown hE.1 hP 0 rfl rfl 74 (Nat.le_of_ble_eq_true rfl) (hts _ k_1394) (fun _ h9 => h9) rfl dX11_seen_64 ?_
          have b39_v : 0 ≤ (v 39).toInt ∧ (v 39).toInt ≤ 100000 := YIb.b hIv.1 39 (by decide)
          refine stI hx hb hE hP hD hS 32 rfl (vp_in_iff.mpr ⟨by omega, by omega⟩) rfl dX11_seen_67 (fun H locs hP hD hS => ?_)
          obtain ⟨f11, ef11, hP, hD⟩ : ∃ fz9, fz9 = upd2 f10 31 (upd (f10 31) (v 38).toNatClampNeg (v 39)) ∧ va_P (dC, dI) vwCl (YW cy y0 r v fz9 w g) H ∧ va_D A (YW cy y0 r v fz9 w g) := ⟨_, rfl, hP, hD⟩
          have hCf11 : YC f11 := by rw [ef11]; exact hCf10
          have hRf11 : progOK (f11 4) (f11 5) (v 9).toInt.toNat := by rw [ef11]; exact hRf10
          have hA_f11 : KF [30, 31, 32, 33] f11 f := by rw [ef11]; exact KF.up hA_f10 rfl
          refine lv_aload_n hx hb dX11_seen_68 rfl (lv_at hl 0 rfl) ?_
          refine va_get (D := (dC, dI)) (ci := 11) (v := .ref (r 71)) (C := RX11) (T := TX11) (N := 79) hx hb hts inB_11 hown hE.1 hP 0 rfl rfl 71 (Nat.le_of_ble_eq_true rfl) (hts _ k_1391) (fun _ h9 => h9) rfl dX11_seen_69 ?_
          refine lv_aload_n hx hb dX11_seen_72 rfl (lv_at hl 0 rfl) ?_
          refine va_get (D := (dC, dI)) (ci := 11) (v := .int (v 38)) (C := RX11) (T := TX11) (N := 79) hx hb hts inB_11 hown hE.1 hP 0 rfl rfl 73 (Nat.le_of_ble_eq_true rfl) (hts _ k_1393) (fun _ h9 => h9) rfl dX11_seen_73 ?_
          refine lv_iconst (v := (-1)) hx hb dX11_seen_76 rfl ?_
          refine stI hx hb hE hP hD hS 33 rfl (vp_in_iff.mpr ⟨by omega, by omega⟩) rfl dX11_seen_77 (fun H locs hP hD hS => ?_)
          obtain ⟨f12, ef12, hP, hD⟩ : ∃ fz9, fz9 = upd2 f11 32 (upd (f11 32) (v 38).toNatClampNeg (-1)) ∧ va_P (dC, dI) vwCl (YW cy y0 r v fz9 w g) H ∧ va_D A (YW cy y0 r v fz9 w g) := ⟨_, rfl, hP, hD⟩
          have hCf12 : YC f12 := by rw [ef12]; exact hCf11
          have hRf12 : progOK (f12 4) (f12 5) (v 9).toInt.toNat := by rw [ef12]; exact hRf11
          have hA_f12 : KF [30, 31, 32, 33] f12 f := by rw [ef12]; exact KF.up hA_f11 rfl
          refine lv_aload_n hx hb dX11_seen_78 rfl (lv_at hl 0 rfl) ?_
          refine lv_dup hx hb dX11_seen_79 rfl ?_
          refine va_get (D := (dC, dI)) (ci := 11) (v := .int (v 38)) (C := RX11) (T := TX11) (N := 79) hx hb hts inB_11 hown hE.1 hP 0 rfl rfl 73 (Nat.le_of_ble_eq_true rfl) (hts _ k_1393) (fun _ h9 => h9) rfl dX11_seen_80 ?_
          refine lv_iconst (v := 1) hx hb dX11_seen_83 rfl ?_
          refine lv_iadd hx hb dX11_seen_84 ?_
          refine lv_topi (fun t13 et13 => ?_)
          have rg14 := fb_rng (v 38)
          have zt13 : t13.toInt = (v 38).toInt + 1 := by rw [et13]; exact add_i rfl (by decide) (by omega) (by omega)
          refine va_put (D := (dC, dI)) (ci := 11) (v := .int t13) (ty := tyX11 73) (C := RX11) (T := TX11) (N := 79) hx hb hts inB_11 tyX11 tyX11_ok nmX11 hown hE.1 hP hD hS 0 rfl rfl 73 (Nat.le_of_ble_eq_true rfl) (hts _ k_1393) (fun _ h9 => h9) rfl (tyX11_ok 73 (by decide)) rfl rfl (Nat.le_of_ble_eq_true rfl) dX11_seen_85 (fun H locs hP hD hS => ?_)
          have hP : va_P (dC, dI) vwCl (YW cy y0 r (upd v 38 t13) f12 w g) H := hP
          have hD : va_D A (YW cy y0 r (upd v 38 t13) f12 w g) := hD
          refine lv_aload_n hx hb dX11_seen_88 rfl (lv_at hl 0 rfl) ?_
          refine va_get (D := (dC, dI)) (ci := 11) (v := .int t13) (C := RX11) (T := TX11) (N := 79) hx hb hts inB_11 hown hE.1 hP 0 rfl rfl 73 (Nat.le_of_ble_eq_true rfl) (hts _ k_1393) (fun _ h9 => h9) rfl dX11_seen_89 ?_
          refine lv_iconst (v := 1) hx hb dX11_seen_92 rfl ?_
          refine lv_isub hx hb dX11_seen_93 ?_
          refine lv_topi (fun t15 et15 => ?_)
          have rg16 := fb_rng t13
          have zt15 : t15.toInt = t13.toInt - 1 := by rw [et15]; exact sub_i rfl (by decide) (by omega) (by omega)
          exact ret t15 ((upd v 38 t13), f12, w, g) _ _ _ _ _ _ rfl ⟨(gsY_X11_seen_1_q2 hG4 c6 c7 c8 ef9 ef10 ef11 ef12 et13 et15), (KV.up (j := 38) (x := t13) hM_v rfl), hA_f12, ⟨(YIb.upd (j := 38) (x := t13) hIv.1 (show (0 : Int) ≤ t13.toInt by omega) (show t13.toInt ≤ (30 : Int) by omega)), hIv.2⟩, hCf12, hRf12, rfl, rfl, rfl, rfl, rfl, rfl, rfl, rfl, rfl, rfl, rfl, rfl, rfl, rfl, rfl, rfl, rfl, rfl, rfl⟩ hP hD hS dX11_seen_94 (Nat.le_refl _) (Nat.le_refl _)
        · skip
          have zc8 : (v 38).toInt = 30 := by rw [fa_eq, show (30 : Int32).toInt = 30 from by decide] at c8; exact c8
          refine lv_iconst (v := (-1)) hx hb dX11_seen_33 rfl ?_
          exact ret (-1) (v, f, w, g) _ _ _ _ _ _ rfl ⟨(gsY_X11_seen_1_q3 hG4 c6 c7 c8), hM_v, hA_f, hIv, hCf, hRf, rfl, rfl, rfl, rfl, rfl, rfl, rfl, rfl, rfl, rfl, rfl, rfl, rfl, rfl, rfl, rfl, rfl, rfl, rfl⟩ hP hD hS dX11_seen_34 (Nat.le_refl _) (Nat.le_refl _)
  · skip
    subst g5
    refine lv_if_eq (tgt := 33) hx hb dX11_seen_7 rfl (fun _ => ?_) (fun c0 => absurd (by decide) c0)
    refine lv_iconst (v := (-1)) hx hb dX11_seen_33 rfl ?_
    exact ret (-1) (v, f, w, g) _ _ _ _ _ _ rfl ⟨(gsY_X11_seen_1_q4 hG4), hM_v, hA_f, hIv, hCf, hRf, rfl, rfl, rfl, rfl, rfl, rfl, rfl, rfl, rfl, rfl, rfl, rfl, rfl, rfl, rfl, rfl, rfl, rfl, rfl⟩ hP hD hS dX11_seen_34 (Nat.le_refl _) (Nat.le_refl _)
set_option maxHeartbeats 4000000 in
set_option maxRecDepth 100000 in
theorem sY_X11_untell_1 (NF : Nat) (l : Launch) (dC : Nat → ClassId) (dI : Nat → Nat → Nat) (cy : Nat → ClassId) (y0 : Nat) (r : Nat → Nat) (p1 : Int32) (v : Nat → Int32) (f : Nat → Nat → Int32) (w : Int64) (g : Nat → Int64) (hIv : YI v) (hCf : YC f) (hRf : progOK (f 4) (f 5) (v 9).toInt.toNat)  : ctI l (dC, dI) cy yX11_untell cX11_untell 2 .boolean 2 82 0 0 ((Nat → Int32) × (Nat → Nat → Int32) × (Int64) × (Nat → Int64)) [.ref y0, .int p1] (YW cy y0 r v f w g) (fun r u => gsY_X11_untell_1 NF p1 v f w g = (r, u) ∧ KV [] u.1 v ∧ KF [32] u.2.1 f ∧ YI u.1 ∧ YC u.2.1 ∧ progOK (u.2.1 4) (u.2.1 5) (u.1 9).toInt.toNat ∧ u.1 0 = v 0 ∧ u.1 1 = v 1 ∧ u.1 2 = v 2 ∧ u.1 3 = v 3 ∧ u.1 4 = v 4 ∧ u.1 5 = v 5 ∧ u.1 8 = v 8 ∧ u.1 9 = v 9 ∧ u.1 10 = v 10 ∧ u.1 13 = v 13 ∧ u.1 14 = v 14 ∧ u.1 15 = v 15 ∧ u.1 17 = v 17 ∧ u.1 18 = v 18 ∧ u.1 24 = v 24 ∧ u.1 25 = v 25 ∧ u.1 35 = v 35 ∧ u.1 36 = v 36 ∧ u.1 38 = v 38 ∧ u.1 39 = v 39 ∧ ((r = 1) ∨ (r = 0))) (fun u => YW cy y0 r u.1 u.2.1 u.2.2.1 u.2.2.2) := by
  refine ctI_of (by decide) (Nat.le_of_ble_eq_true rfl) (fun p e s m below meth c A ls Q hx hb hml hts hown hE hP hD hA hl ret => ?_)
  have hUv : (v 35).toInt + (v 36).toInt ≤ 40 := hIv.2
  have hM_v : KV [] v v := fun _ _ => rfl
  have hA_f : KF [32] f f := fun _ _ => rfl
  have hown : s.vm.findClass RX11 = some m.cls := hown
  have hS : va_S A s.heap s.heap [] := va_S.rf
  have hl : lv_has ls 2 [(0, .ref y0), (1, .int p1)] := hl
  refine lv_iload_n hx hb dX11_untell_0 rfl (lv_at hl 1 rfl) ?_
  refine lv_iconst (v := 0) hx hb dX11_untell_1 rfl ?_
  refine lv_aload_n hx hb dX11_untell_2 rfl (lv_at hl 0 rfl) ?_
  refine va_get (D := (dC, dI)) (ci := 11) (v := .int (v 38)) (C := RX11) (T := TX11) (N := 79) hx hb hts inB_11 hown hE.1 hP 0 rfl rfl 73 (Nat.le_of_ble_eq_true rfl) (hts _ k_1393) (fun _ h9 => h9) rfl dX11_untell_3 ?_
  have b38_v : 0 ≤ (v 38).toInt ∧ (v 38).toInt ≤ 30 := YIb.b hIv.1 38 (by decide)
  refine lv_iconst (v := 1) hx hb dX11_untell_6 rfl ?_
  refine lv_isub hx hb dX11_untell_7 ?_
  refine lv_topi (fun t1 et1 => ?_)
  have rg2 := fb_rng (v 38)
  have zt1 : t1.toInt = (v 38).toInt - 1 := by rw [et1]; exact sub_i rfl (by decide) (by omega) (by omega)
  have lt3 : (0 : Int32).toInt = 0 := by decide
  refine cbSi (n := 3) (rest := []) hx hb hml hown hts hE hP hD hS hA (sY_X11_isIn_1 NF l dC dI cy y0 r p1 0 t1 v f w g hIv hCf hRf ) k_1736 k_1737 k_114 k_1738 (by decide +kernel) ⟨Nat.le_of_ble_eq_true rfl, Nat.le_of_ble_eq_true rfl⟩ (rfl) hl.1 rfl (Nat.le_of_ble_eq_true rfl) dX11_untell_8 (fun r4 u H locs hw hP hD hS => ?_)
  obtain ⟨hG5, hw⟩ := hw
  rcases hw with ⟨g6, g6_0, g6_1⟩ | ⟨g6⟩
  · skip
    subst g6
    refine lv_if_eq (tgt := 23) hx hb dX11_untell_11 rfl (fun c0 => absurd c0 (by decide)) (fun _ => ?_)
    refine lv_aload_n hx hb dX11_untell_14 rfl (lv_at hl 0 rfl) ?_
    refine va_get (D := (dC, dI)) (ci := 11) (v := .ref (r 71)) (C := RX11) (T := TX11) (N := 79) hx hb hts inB_11 hown hE.1 hP 0 rfl rfl 71 (Nat.le_of_ble_eq_true rfl) (hts _ k_1391) (fun _ h9 => h9) rfl dX11_untell_15 ?_
    refine lv_iload_n hx hb dX11_untell_18 rfl (lv_at hl 1 rfl) ?_
    refine ldI hx hb hE hP 33 rfl (vp_in_iff.mpr ⟨by omega, by omega⟩) rfl rfl dX11_untell_19 ?_
    refine lv_topi (fun t7 et7 => ?_)
    refine lv_if_lt (tgt := 25) hx hb dX11_untell_20 rfl (fun c8 => ?_) (fun c8 => ?_)
    · skip
      have zc8 : t7.toInt < 0 := by rw [fa_lt, show (0 : Int32).toInt = 0 from by decide] at c8; exact c8
      refine lv_aload_n hx hb dX11_untell_25 rfl (lv_at hl 0 rfl) ?_
      refine va_get (D := (dC, dI)) (ci := 11) (v := .ref (r 71)) (C := RX11) (T := TX11) (N := 79) hx hb hts inB_11 hown hE.1 hP 0 rfl rfl 71 (Nat.le_of_ble_eq_true rfl) (hts _ k_1391) (fun _ h9 => h9) rfl dX11_untell_26 ?_
      refine lv_iload_n hx hb dX11_untell_29 rfl (lv_at hl 1 rfl) ?_
      refine lv_aload_n hx hb dX11_untell_30 rfl (lv_at hl 0 rfl) ?_
      refine va_get (D := (dC, dI)) (ci := 11) (v := .int (v 39)) (C := RX11) (T := TX11) (N := 79) hx hb hts inB_11 hown hE.1 hP 0 rfl rfl 74 (Nat.le_of_ble_eq_true rfl) (hts _ k_1394) (fun _ h9 => h9) rfl dX11_untell_31 ?_
      have b39_v : 0 ≤ (v 39).toInt ∧ (v 39).toInt ≤ 100000 := YIb.b hIv.1 39 (by decide)
      refine stI hx hb hE hP hD hS 33 rfl (vp_in_iff.mpr ⟨by omega, by omega⟩) rfl dX11_untell_34 (fun H locs hP hD hS => ?_)
      obtain ⟨f9, ef9, hP, hD⟩ : ∃ fz9, fz9 = upd2 f 32 (upd (f 32) p1.toNatClampNeg (v 39)) ∧ va_P (dC, dI) vwCl (YW cy y0 r v fz9 w g) H ∧ va_D A (YW cy y0 r v fz9 w g) := ⟨_, rfl, hP, hD⟩
      have hCf9 : YC f9 := by rw [ef9]; exact hCf
      have hRf9 : progOK (f9 4) (f9 5) (v 9).toInt.toNat := by rw [ef9]; exact hRf
      have hA_f9 : KF [32] f9 f := by rw [ef9]; exact KF.up hA_f rfl
      refine lv_iconst (v := 1) hx hb dX11_untell_35 rfl ?_
      exact ret 1 (v, f9, w, g) _ _ _ _ _ _ rfl ⟨(gsY_X11_untell_1_q0 et1 hG5 et7 c8 ef9), hM_v, hA_f9, hIv, hCf9, hRf9, rfl, rfl, rfl, rfl, rfl, rfl, rfl, rfl, rfl, rfl, rfl, rfl, rfl, rfl, rfl, rfl, rfl, rfl, rfl, rfl, (Or.inl rfl)⟩ hP hD hS dX11_untell_36 (Nat.le_refl _) (Nat.le_refl _)
    · skip
      have zc8 : ¬ (t7.toInt < 0) := by rw [fa_lt, show (0 : Int32).toInt = 0 from by decide] at c8; exact c8
      refine lv_iconst (v := 0) hx hb dX11_untell_23 rfl ?_
      exact ret 0 (v, f, w, g) _ _ _ _ _ _ rfl ⟨(gsY_X11_untell_1_q1 et1 hG5 et7 c8), hM_v, hA_f, hIv, hCf, hRf, rfl, rfl, rfl, rfl, rfl, rfl, rfl, rfl, rfl, rfl, rfl, rfl, rfl, rfl, rfl, rfl, rfl, rfl, rfl, rfl, (Or.inr rfl)⟩ hP hD hS dX11_untell_24 (Nat.le_refl _) (Nat.le_refl _)
  · skip
    subst g6
    refine lv_if_eq (tgt := 23) hx hb dX11_untell_11 rfl (fun _ => ?_) (fun c0 => absurd (by decide) c0)
    refine lv_iconst (v := 0) hx hb dX11_untell_23 rfl ?_
    exact ret 0 (v, f, w, g) _ _ _ _ _ _ rfl ⟨(gsY_X11_untell_1_q2 et1 hG5), hM_v, hA_f, hIv, hCf, hRf, rfl, rfl, rfl, rfl, rfl, rfl, rfl, rfl, rfl, rfl, rfl, rfl, rfl, rfl, rfl, rfl, rfl, rfl, rfl, rfl, (Or.inr rfl)⟩ hP hD hS dX11_untell_24 (Nat.le_refl _) (Nat.le_refl _)
set_option maxHeartbeats 4000000 in
set_option maxRecDepth 100000 in
theorem sY_X11_later_1 (NF : Nat) (l : Launch) (dC : Nat → ClassId) (dI : Nat → Nat → Nat) (cy : Nat → ClassId) (y0 : Nat) (r : Nat → Nat) (p1 : Int32) (v : Nat → Int32) (f : Nat → Nat → Int32) (w : Int64) (g : Nat → Int64) (hIv : YI v) (hCf : YC f) (hRf : progOK (f 4) (f 5) (v 9).toInt.toNat)  : ctI l (dC, dI) cy yX11_later cX11_later 2 .int 1 60 0 0 ((Nat → Int32) × (Nat → Nat → Int32) × (Int64) × (Nat → Int64)) [.ref y0, .int p1] (YW cy y0 r v f w g) (fun r u => gsY_X11_later_1 NF p1 v f w g = (r, u) ∧ KV [39] u.1 v ∧ KF [] u.2.1 f ∧ YI u.1 ∧ YC u.2.1 ∧ progOK (u.2.1 4) (u.2.1 5) (u.1 9).toInt.toNat ∧ u.1 0 = v 0 ∧ u.1 1 = v 1 ∧ u.1 2 = v 2 ∧ u.1 3 = v 3 ∧ u.1 4 = v 4 ∧ u.1 5 = v 5 ∧ u.1 8 = v 8 ∧ u.1 9 = v 9 ∧ u.1 10 = v 10 ∧ u.1 13 = v 13 ∧ u.1 14 = v 14 ∧ u.1 15 = v 15 ∧ u.1 17 = v 17 ∧ u.1 18 = v 18 ∧ u.1 24 = v 24 ∧ u.1 25 = v 25 ∧ u.1 35 = v 35 ∧ u.1 36 = v 36 ∧ u.1 38 = v 38) (fun u => YW cy y0 r u.1 u.2.1 u.2.2.1 u.2.2.2) := by
  refine ctI_of (by decide) (Nat.le_of_ble_eq_true rfl) (fun p e s m below meth c A ls Q hx hb hml hts hown hE hP hD hA hl ret => ?_)
  have hUv : (v 35).toInt + (v 36).toInt ≤ 40 := hIv.2
  have hM_v : KV [39] v v := fun _ _ => rfl
  have hA_f : KF [] f f := fun _ _ => rfl
  have hown : s.vm.findClass RX11 = some m.cls := hown
  have hS : va_S A s.heap s.heap [] := va_S.rf
  have hl : lv_has ls 2 [(0, .ref y0), (1, .int p1)] := hl
  refine lv_iload_n hx hb dX11_later_0 rfl (lv_at hl 1 rfl) ?_
  refine lv_if_lt (tgt := 23) hx hb dX11_later_1 rfl (fun c1 => ?_) (fun c1 => ?_)
  · skip
    have zc1 : p1.toInt < 0 := by rw [fa_lt, show (0 : Int32).toInt = 0 from by decide] at c1; exact c1
    refine lv_iconst (v := (-1)) hx hb dX11_later_23 rfl ?_
    exact ret (-1) (v, f, w, g) _ _ _ _ _ _ rfl ⟨(gsY_X11_later_1_q0 c1), hM_v, hA_f, hIv, hCf, hRf, rfl, rfl, rfl, rfl, rfl, rfl, rfl, rfl, rfl, rfl, rfl, rfl, rfl, rfl, rfl, rfl, rfl, rfl, rfl⟩ hP hD hS dX11_later_24 (Nat.le_refl _) (Nat.le_refl _)
  · skip
    have zc1 : ¬ (p1.toInt < 0) := by rw [fa_lt, show (0 : Int32).toInt = 0 from by decide] at c1; exact c1
    refine lv_iload_n hx hb dX11_later_4 rfl (lv_at hl 1 rfl) ?_
    refine lv_sipush (v := 1000) hx hb dX11_later_5 rfl ?_
    refine lv_icmp_gt (tgt := 23) hx hb dX11_later_8 rfl (fun c2 => ?_) (fun c2 => ?_)
    · skip
      have zc2 : 1000 < p1.toInt := by rw [fa_lt, show (1000 : Int32).toInt = 1000 from by decide] at c2; exact c2
      refine lv_iconst (v := (-1)) hx hb dX11_later_23 rfl ?_
      exact ret (-1) (v, f, w, g) _ _ _ _ _ _ rfl ⟨(gsY_X11_later_1_q1 c1 c2), hM_v, hA_f, hIv, hCf, hRf, rfl, rfl, rfl, rfl, rfl, rfl, rfl, rfl, rfl, rfl, rfl, rfl, rfl, rfl, rfl, rfl, rfl, rfl, rfl⟩ hP hD hS dX11_later_24 (Nat.le_refl _) (Nat.le_refl _)
    · skip
      have zc2 : ¬ (1000 < p1.toInt) := by rw [fa_lt, show (1000 : Int32).toInt = 1000 from by decide] at c2; exact c2
      refine lv_aload_n hx hb dX11_later_11 rfl (lv_at hl 0 rfl) ?_
      refine va_get (D := (dC, dI)) (ci := 11) (v := .int (v 39)) (C := RX11) (T := TX11) (N := 79) hx hb hts inB_11 hown hE.1 hP 0 rfl rfl 74 (Nat.le_of_ble_eq_true rfl) (hts _ k_1394) (fun _ h9 => h9) rfl dX11_later_12 ?_
      have b39_v : 0 ≤ (v 39).toInt ∧ (v 39).toInt ≤ 100000 := YIb.b hIv.1 39 (by decide)
      refine lv_iload_n hx hb dX11_later_15 rfl (lv_at hl 1 rfl) ?_
      refine lv_iadd hx hb dX11_later_16 ?_
      refine lv_topi (fun t3 et3 => ?_)
      have rg4 := fb_rng (v 39)
      have rg5 := fb_rng p1
      have zt3 : t3.toInt = (v 39).toInt + p1.toInt := by rw [et3]; exact add_i rfl rfl (by omega) (by omega)
      refine lv_ldcw (v := 100000) hx hb hown (hts _ k_2019) dX11_later_17 ?_
      refine lv_icmp_le (tgt := 25) hx hb dX11_later_20 rfl (fun c6 => ?_) (fun c6 => ?_)
      · skip
        have zc6 : t3.toInt ≤ 100000 := by rw [fa_le, show (100000 : Int32).toInt = 100000 from by decide] at c6; exact c6
        refine lv_aload_n hx hb dX11_later_25 rfl (lv_at hl 0 rfl) ?_
        refine lv_dup hx hb dX11_later_26 rfl ?_
        refine va_get (D := (dC, dI)) (ci := 11) (v := .int (v 39)) (C := RX11) (T := TX11) (N := 79) hx hb hts inB_11 hown hE.1 hP 0 rfl rfl 74 (Nat.le_of_ble_eq_true rfl) (hts _ k_1394) (fun _ h9 => h9) rfl dX11_later_27 ?_
        refine lv_iload_n hx hb dX11_later_30 rfl (lv_at hl 1 rfl) ?_
        refine lv_iadd hx hb dX11_later_31 ?_
        refine tI (y := t3) et3.symm ?_
        refine va_put (D := (dC, dI)) (ci := 11) (v := .int t3) (ty := tyX11 74) (C := RX11) (T := TX11) (N := 79) hx hb hts inB_11 tyX11 tyX11_ok nmX11 hown hE.1 hP hD hS 0 rfl rfl 74 (Nat.le_of_ble_eq_true rfl) (hts _ k_1394) (fun _ h9 => h9) rfl (tyX11_ok 74 (by decide)) rfl rfl (Nat.le_of_ble_eq_true rfl) dX11_later_32 (fun H locs hP hD hS => ?_)
        have hP : va_P (dC, dI) vwCl (YW cy y0 r (upd v 39 t3) f w g) H := hP
        have hD : va_D A (YW cy y0 r (upd v 39 t3) f w g) := hD
        refine lv_aload_n hx hb dX11_later_35 rfl (lv_at hl 0 rfl) ?_
        refine va_get (D := (dC, dI)) (ci := 11) (v := .int t3) (C := RX11) (T := TX11) (N := 79) hx hb hts inB_11 hown hE.1 hP 0 rfl rfl 74 (Nat.le_of_ble_eq_true rfl) (hts _ k_1394) (fun _ h9 => h9) rfl dX11_later_36 ?_
        exact ret t3 ((upd v 39 t3), f, w, g) _ _ _ _ _ _ rfl ⟨(gsY_X11_later_1_q2 c1 c2 et3 c6), (KV.up (j := 39) (x := t3) hM_v rfl), hA_f, ⟨(YIb.upd (j := 39) (x := t3) hIv.1 (show (0 : Int) ≤ t3.toInt by omega) (show t3.toInt ≤ (100000 : Int) by omega)), hIv.2⟩, hCf, hRf, rfl, rfl, rfl, rfl, rfl, rfl, rfl, rfl, rfl, rfl, rfl, rfl, rfl, rfl, rfl, rfl, rfl, rfl, rfl⟩ hP hD hS dX11_later_39 (Nat.le_refl _) (Nat.le_refl _)
      · skip
        have zc6 : ¬ (t3.toInt ≤ 100000) := by rw [fa_le, show (100000 : Int32).toInt = 100000 from by decide] at c6; exact c6
        refine lv_iconst (v := (-1)) hx hb dX11_later_23 rfl ?_
        exact ret (-1) (v, f, w, g) _ _ _ _ _ _ rfl ⟨(gsY_X11_later_1_q3 c1 c2 et3 c6), hM_v, hA_f, hIv, hCf, hRf, rfl, rfl, rfl, rfl, rfl, rfl, rfl, rfl, rfl, rfl, rfl, rfl, rfl, rfl, rfl, rfl, rfl, rfl, rfl⟩ hP hD hS dX11_later_24 (Nat.le_refl _) (Nat.le_refl _)
set_option maxHeartbeats 4000000 in
set_option maxRecDepth 100000 in
theorem sY_X11_power_1 (NF : Nat) (l : Launch) (dC : Nat → ClassId) (dI : Nat → Nat → Nat) (cy : Nat → ClassId) (y0 : Nat) (r : Nat → Nat) (p0 : Int32) (p1 : Int32) (v : Nat → Int32) (f : Nat → Nat → Int32) (w : Int64) (g : Nat → Int64) (hIv : YI v) (hCf : YC f) (hRf : progOK (f 4) (f 5) (v 9).toInt.toNat)  : ctI l (dC, dI) cy yX11_power cX11_power 4 .int 1 60 0 0 Unit [.int p0, .int p1] (YW cy y0 r v f w g) (fun r u => gsY_X11_power_1 NF p0 p1 v f w g = r) (fun u => YW cy y0 r v f w g) := by
  refine ctI_of (by decide) (Nat.le_of_ble_eq_true rfl) (fun p e s m below meth c A ls Q hx hb hml hts hown hE hP hD hA hl ret => ?_)
  have hUv : (v 35).toInt + (v 36).toInt ≤ 40 := hIv.2
  have hown : s.vm.findClass RX11 = some m.cls := hown
  have hS : va_S A s.heap s.heap [] := va_S.rf
  have hl : lv_has ls 4 [(0, .int p0), (1, .int p1)] := hl
  refine lv_iconst (v := 1) hx hb dX11_power_0 rfl ?_
  refine lv_istore_n (lv' := [(2, .int 1), (0, .int p0), (1, .int p1)]) hx hb dX11_power_1 rfl hl (Nat.le_of_ble_eq_true rfl) rfl (fun ls hl => ?_)
  refine lv_iconst (v := 0) hx hb dX11_power_2 rfl ?_
  refine lv_istore_n (lv' := [(3, .int 0), (2, .int 1), (0, .int p0), (1, .int p1)]) hx hb dX11_power_3 rfl hl (Nat.le_of_ble_eq_true rfl) rfl (fun ls hl => ?_)
  have lp1 : ∀ (n1 : Nat) (l2_1 : Int32) (l3_1 : Int32), gsY_X11_power_1_L1 NF p0 p1 n1 l2_1 l3_1 = (gsY_X11_power_1 NF p0 p1 v f w g) → ((0 : Int) ≤ l3_1.toInt ∧ l3_1.toInt ≤ 2147483647) → (2147483647 - l3_1.toInt).toNat < n1 → ∀ (H : Heap) (locs : List Loc) (ls : Array Slot), va_P (dC, dI) vwCl (YW cy y0 r v f w g) H → va_D A (YW cy y0 r v f w g) → va_S A s.heap H locs → lv_has ls 4 [(3, .int l3_1), (2, .int l2_1), (0, .int p0), (1, .int p1)] → W p l e { frames := 1, cells := 0, slots := 0, locals := 60 } s m ([.int p0, .int p1] : List Value).toArray below meth c H locs 0 0 Q (F0 m 4 ls []) := by
    intro n1
    induction n1 with
    | zero => intro l2_1 l3_1 hT1 hr3_1 hm; exact absurd hm (Nat.not_lt_zero _)
    | succ n1 ih1 =>
      intro l2_1 l3_1 hT1 hr3_1 hm1 H locs ls hP hD hS hl
      refine lv_iload_n hx hb dX11_power_4 rfl (lv_at hl 0 rfl) ?_
      refine lv_iload_n hx hb dX11_power_5 rfl (lv_at hl 3 rfl) ?_
      refine lv_icmp_ge (tgt := 19) hx hb dX11_power_6 rfl (fun c2 => ?_) (fun c2 => ?_)
      · skip
        have zc2 : p1.toInt ≤ l3_1.toInt := by rw [fa_le] at c2; exact c2
        have rg3 := fb_rng l3_1
        have rg4 := fb_rng p1
        refine lv_iload_n hx hb dX11_power_19 rfl (lv_at hl 1 rfl) ?_
        exact ret l2_1 () _ _ _ _ _ _ rfl (hT1.symm.trans (gsY_X11_power_1_q0 c2)) hP hD hS dX11_power_20 (Nat.le_refl _) (Nat.le_refl _)
      · skip
        have zc2 : ¬ (p1.toInt ≤ l3_1.toInt) := by rw [fa_le] at c2; exact c2
        have rg5 := fb_rng l3_1
        have rg6 := fb_rng p1
        refine lv_iload_n hx hb dX11_power_9 rfl (lv_at hl 1 rfl) ?_
        refine lv_iload_n hx hb dX11_power_10 rfl (lv_at hl 2 rfl) ?_
        refine lv_imul hx hb dX11_power_11 ?_
        refine lv_topi (fun t7 et7 => ?_)
        refine lv_istore_n (lv' := [(2, .int t7), (3, .int l3_1), (0, .int p0), (1, .int p1)]) hx hb dX11_power_12 rfl hl (Nat.le_of_ble_eq_true rfl) rfl (fun ls hl => ?_)
        obtain ⟨t8, et8⟩ : ∃ y : Int32, y = l3_1 + 1 := ⟨_, rfl⟩
        have zt8 : t8.toInt = l3_1.toInt + 1 := by rw [et8]; exact add_i rfl (by decide) (by omega) (by omega)
        refine lv_iinc (v := t8) (lv' := [(3, .int t8), (2, .int t7), (0, .int p0), (1, .int p1)]) hx hb dX11_power_13 hl (k := 1) rfl (by rw [et8]; rfl) (by decide) rfl (fun ls hl => ?_)
        refine lv_goto (tgt := 4) hx hb dX11_power_16 rfl ?_
        have rg9 := fb_rng t8
        exact ih1 t7 t8 ((gsY_X11_power_1_q1 c2 et7 et8).symm.trans hT1) ⟨show (0 : Int) ≤ t8.toInt by omega, show t8.toInt ≤ (2147483647 : Int) by omega⟩ (by show (2147483647 - t8.toInt).toNat < n1; omega) _ _ _ hP hD hS (lv_sub hl [0, 1, 2, 3] rfl)
  exact lp1 (4294967296 + NF) 1 0 gsY_X11_power_1_q2.symm ⟨by decide, by decide⟩ (by have q3 : (0 : Int32).toInt = 0 := (by decide); have q2 : (1 : Int32).toInt = 1 := (by decide); show (2147483647 - (0 : Int32).toInt).toNat < 4294967296 + NF; omega) _ _ _ hP hD hS (lv_sub hl [0, 1, 2, 3] rfl)
set_option maxHeartbeats 4000000 in
set_option maxRecDepth 100000 in
theorem sY_X11_power_2 (NF : Nat) (l : Launch) (dC : Nat → ClassId) (dI : Nat → Nat → Nat) (cy : Nat → ClassId) (y0 : Nat) (r : Nat → Nat)  (v : Nat → Int32) (f : Nat → Nat → Int32) (w : Int64) (g : Nat → Int64) (hIv : YI v) (hCf : YC f) (hRf : progOK (f 4) (f 5) (v 9).toInt.toNat)  : ctI l (dC, dI) cy yX11_power cX11_power 4 .int 1 60 0 0 Unit [.int 100, .int 0] (YW cy y0 r v f w g) (fun r u => gsY_X11_power_2 NF v f w g = r ∧ ((1 : Int) ≤ r.toInt ∧ r.toInt ≤ 1)) (fun u => YW cy y0 r v f w g) := by
  refine ctI_of (by decide) (Nat.le_of_ble_eq_true rfl) (fun p e s m below meth c A ls Q hx hb hml hts hown hE hP hD hA hl ret => ?_)
  have hUv : (v 35).toInt + (v 36).toInt ≤ 40 := hIv.2
  have hown : s.vm.findClass RX11 = some m.cls := hown
  have hS : va_S A s.heap s.heap [] := va_S.rf
  have hl : lv_has ls 4 [(0, .int 100), (1, .int 0)] := hl
  refine lv_iconst (v := 1) hx hb dX11_power_0 rfl ?_
  refine lv_istore_n (lv' := [(2, .int 1), (0, .int 100), (1, .int 0)]) hx hb dX11_power_1 rfl hl (Nat.le_of_ble_eq_true rfl) rfl (fun ls hl => ?_)
  refine lv_iconst (v := 0) hx hb dX11_power_2 rfl ?_
  refine lv_istore_n (lv' := [(3, .int 0), (2, .int 1), (0, .int 100), (1, .int 0)]) hx hb dX11_power_3 rfl hl (Nat.le_of_ble_eq_true rfl) rfl (fun ls hl => ?_)
  refine lv_iload_n hx hb dX11_power_4 rfl (lv_at hl 0 rfl) ?_
  refine lv_iload_n hx hb dX11_power_5 rfl (lv_at hl 3 rfl) ?_
  refine lv_icmp_ge (tgt := 19) hx hb dX11_power_6 rfl (fun _ => ?_) (fun c0 => absurd (by decide) c0)
  refine lv_iload_n hx hb dX11_power_19 rfl (lv_at hl 1 rfl) ?_
  exact ret 1 () _ _ _ _ _ _ rfl ⟨gsY_X11_power_2_q0, ⟨by decide, by decide⟩⟩ hP hD hS dX11_power_20 (Nat.le_refl _) (Nat.le_refl _)
set_option maxHeartbeats 4000000 in
set_option maxRecDepth 100000 in
theorem sY_X11_divisor_1 (NF : Nat) (l : Launch) (dC : Nat → ClassId) (dI : Nat → Nat → Nat) (cy : Nat → ClassId) (y0 : Nat) (r : Nat → Nat) (p0 : Int32) (p1 : Int32) (v : Nat → Int32) (f : Nat → Nat → Int32) (w : Int64) (g : Nat → Int64) (hIv : YI v) (hCf : YC f) (hRf : progOK (f 4) (f 5) (v 9).toInt.toNat) (hp0 : (1 : Int) ≤ p0.toInt ∧ p0.toInt ≤ 2147483647) : ctI l (dC, dI) cy yX11_divisor cX11_divisor 5 .int 1 60 0 0 Unit [.int p0, .int p1] (YW cy y0 r v f w g) (fun r u => gsY_X11_divisor_1 NF p0 p1 v f w g = r ∧ ((1 : Int) ≤ r.toInt ∧ r.toInt ≤ 2147483647)) (fun u => YW cy y0 r v f w g) := by
  refine ctI_of (by decide) (Nat.le_of_ble_eq_true rfl) (fun p e s m below meth c A ls Q hx hb hml hts hown hE hP hD hA hl ret => ?_)
  have hUv : (v 35).toInt + (v 36).toInt ≤ 40 := hIv.2
  have hown : s.vm.findClass RX11 = some m.cls := hown
  have hS : va_S A s.heap s.heap [] := va_S.rf
  have hl : lv_has ls 5 [(0, .int p0), (1, .int p1)] := hl
  refine lv_iload_n hx hb dX11_divisor_0 rfl (lv_at hl 0 rfl) ?_
  refine lv_istore_n (lv' := [(2, .int p0), (0, .int p0), (1, .int p1)]) hx hb dX11_divisor_1 rfl hl (Nat.le_of_ble_eq_true rfl) rfl (fun ls hl => ?_)
  refine lv_iload_n hx hb dX11_divisor_2 rfl (lv_at hl 2 rfl) ?_
  refine lv_istore_n (lv' := [(3, .int p1), (2, .int p0), (0, .int p0), (1, .int p1)]) hx hb dX11_divisor_3 rfl hl (Nat.le_of_ble_eq_true rfl) rfl (fun ls hl => ?_)
  have lp1 : ∀ (n1 : Nat) (l2_1 : Int32) (l3_1 : Int32), gsY_X11_divisor_1_L1 NF n1 l2_1 l3_1 = (gsY_X11_divisor_1 NF p0 p1 v f w g) → ((1 : Int) ≤ l2_1.toInt ∧ l2_1.toInt ≤ 2147483647) → (l3_1.toInt).toNat < n1 → ∀ (H : Heap) (locs : List Loc) (ls : Array Slot), va_P (dC, dI) vwCl (YW cy y0 r v f w g) H → va_D A (YW cy y0 r v f w g) → va_S A s.heap H locs → lv_has ls 5 [(3, .int l3_1), (2, .int l2_1), (0, .int p0), (1, .int p1)] → W p l e { frames := 1, cells := 0, slots := 0, locals := 60 } s m ([.int p0, .int p1] : List Value).toArray below meth c H locs 0 0 Q (F0 m 4 ls []) := by
    intro n1
    induction n1 with
    | zero => intro l2_1 l3_1 hT1 hr2_1 hm; exact absurd hm (Nat.not_lt_zero _)
    | succ n1 ih1 =>
      intro l2_1 l3_1 hT1 hr2_1 hm1 H locs ls hP hD hS hl
      refine lv_iload_n hx hb dX11_divisor_4 rfl (lv_at hl 0 rfl) ?_
      refine lv_if_le (tgt := 21) hx hb dX11_divisor_5 rfl (fun c2 => ?_) (fun c2 => ?_)
      · skip
        have zc2 : l3_1.toInt ≤ 0 := by rw [fa_le, show (0 : Int32).toInt = 0 from by decide] at c2; exact c2
        refine lv_iload_n hx hb dX11_divisor_21 rfl (lv_at hl 1 rfl) ?_
        exact ret l2_1 () _ _ _ _ _ _ rfl ⟨(hT1.symm.trans (gsY_X11_divisor_1_q0 c2)), ⟨by omega, by omega⟩⟩ hP hD hS dX11_divisor_22 (Nat.le_refl _) (Nat.le_refl _)
      · skip
        have zc2 : ¬ (l3_1.toInt ≤ 0) := by rw [fa_le, show (0 : Int32).toInt = 0 from by decide] at c2; exact c2
        refine lv_iload_n hx hb dX11_divisor_8 rfl (lv_at hl 1 rfl) ?_
        refine lv_iload_n hx hb dX11_divisor_9 rfl (lv_at hl 0 rfl) ?_
        refine lv_irem hx hb dX11_divisor_10 (ne0 (by omega)) ?_
        refine lv_topi (fun t3 et3 => ?_)
        have zt3 : 0 ≤ t3.toInt ∧ t3.toInt < l3_1.toInt := by rw [et3]; exact rem_rng (zx := l2_1.toInt) (zy := l3_1.toInt) rfl rfl (by omega) (by omega)
        refine lv_istore (lv' := [(4, .int t3), (3, .int l3_1), (2, .int l2_1), (0, .int p0), (1, .int p1)]) hx hb dX11_divisor_11 hl (Nat.le_of_ble_eq_true rfl) rfl (fun ls hl => ?_)
        refine lv_iload_n hx hb dX11_divisor_13 rfl (lv_at hl 1 rfl) ?_
        refine lv_istore_n (lv' := [(2, .int l3_1), (4, .int t3), (3, .int l3_1), (0, .int p0), (1, .int p1)]) hx hb dX11_divisor_14 rfl hl (Nat.le_of_ble_eq_true rfl) rfl (fun ls hl => ?_)
        refine lv_iload hx hb dX11_divisor_15 (lv_at hl 1 rfl) ?_
        refine lv_istore_n (lv' := [(3, .int t3), (2, .int l3_1), (4, .int t3), (0, .int p0), (1, .int p1)]) hx hb dX11_divisor_17 rfl hl (Nat.le_of_ble_eq_true rfl) rfl (fun ls hl => ?_)
        refine lv_goto (tgt := 4) hx hb dX11_divisor_18 rfl ?_
        have rg4 := fb_rng l3_1
        exact ih1 l3_1 t3 ((gsY_X11_divisor_1_q1 c2 et3).symm.trans hT1) ⟨show (1 : Int) ≤ l3_1.toInt by omega, show l3_1.toInt ≤ (2147483647 : Int) by omega⟩ (by show (t3.toInt).toNat < n1; omega) _ _ _ hP hD hS (lv_sub hl [0, 1, 3, 4] rfl)
  have rg5 := fb_rng p0
  exact lp1 (4294967296 + NF) p0 p1 gsY_X11_divisor_1_q2.symm ⟨show (1 : Int) ≤ p0.toInt by omega, show p0.toInt ≤ (2147483647 : Int) by omega⟩ (by have qr0 := fb_rng p1; show (p1.toInt).toNat < 4294967296 + NF; omega) _ _ _ hP hD hS (lv_sub hl [0, 1, 2, 3] rfl)
set_option maxHeartbeats 4000000 in
set_option maxRecDepth 100000 in
theorem sY_X11_power_3 (NF : Nat) (l : Launch) (dC : Nat → ClassId) (dI : Nat → Nat → Nat) (cy : Nat → ClassId) (y0 : Nat) (r : Nat → Nat)  (v : Nat → Int32) (f : Nat → Nat → Int32) (w : Int64) (g : Nat → Int64) (hIv : YI v) (hCf : YC f) (hRf : progOK (f 4) (f 5) (v 9).toInt.toNat)  : ctI l (dC, dI) cy yX11_power cX11_power 4 .int 1 60 0 0 Unit [.int 100, .int 1] (YW cy y0 r v f w g) (fun r u => gsY_X11_power_3 NF v f w g = r ∧ ((100 : Int) ≤ r.toInt ∧ r.toInt ≤ 100)) (fun u => YW cy y0 r v f w g) := by
  refine ctI_of (by decide) (Nat.le_of_ble_eq_true rfl) (fun p e s m below meth c A ls Q hx hb hml hts hown hE hP hD hA hl ret => ?_)
  have hUv : (v 35).toInt + (v 36).toInt ≤ 40 := hIv.2
  have hown : s.vm.findClass RX11 = some m.cls := hown
  have hS : va_S A s.heap s.heap [] := va_S.rf
  have hl : lv_has ls 4 [(0, .int 100), (1, .int 1)] := hl
  refine lv_iconst (v := 1) hx hb dX11_power_0 rfl ?_
  refine lv_istore_n (lv' := [(2, .int 1), (0, .int 100), (1, .int 1)]) hx hb dX11_power_1 rfl hl (Nat.le_of_ble_eq_true rfl) rfl (fun ls hl => ?_)
  refine lv_iconst (v := 0) hx hb dX11_power_2 rfl ?_
  refine lv_istore_n (lv' := [(3, .int 0), (2, .int 1), (0, .int 100), (1, .int 1)]) hx hb dX11_power_3 rfl hl (Nat.le_of_ble_eq_true rfl) rfl (fun ls hl => ?_)
  refine lv_iload_n hx hb dX11_power_4 rfl (lv_at hl 0 rfl) ?_
  refine lv_iload_n hx hb dX11_power_5 rfl (lv_at hl 3 rfl) ?_
  refine lv_icmp_ge (tgt := 19) hx hb dX11_power_6 rfl (fun c0 => absurd c0 (by decide)) (fun _ => ?_)
  refine lv_iload_n hx hb dX11_power_9 rfl (lv_at hl 1 rfl) ?_
  refine lv_iload_n hx hb dX11_power_10 rfl (lv_at hl 2 rfl) ?_
  refine lv_imul hx hb dX11_power_11 ?_
  refine tI (y := 100) (by decide) ?_
  refine lv_istore_n (lv' := [(2, .int 100), (3, .int 0), (0, .int 100), (1, .int 1)]) hx hb dX11_power_12 rfl hl (Nat.le_of_ble_eq_true rfl) rfl (fun ls hl => ?_)
  refine lv_iinc (v := 1) (lv' := [(3, .int 1), (2, .int 100), (0, .int 100), (1, .int 1)]) hx hb dX11_power_13 hl (k := 1) rfl (by decide) (by decide) rfl (fun ls hl => ?_)
  refine lv_goto (tgt := 4) hx hb dX11_power_16 rfl ?_
  refine lv_iload_n hx hb dX11_power_4 rfl (lv_at hl 0 rfl) ?_
  refine lv_iload_n hx hb dX11_power_5 rfl (lv_at hl 3 rfl) ?_
  refine lv_icmp_ge (tgt := 19) hx hb dX11_power_6 rfl (fun _ => ?_) (fun c0 => absurd (by decide) c0)
  refine lv_iload_n hx hb dX11_power_19 rfl (lv_at hl 1 rfl) ?_
  exact ret 100 () _ _ _ _ _ _ rfl ⟨gsY_X11_power_3_q0, ⟨by decide, by decide⟩⟩ hP hD hS dX11_power_20 (Nat.le_refl _) (Nat.le_refl _)
set_option maxHeartbeats 4000000 in
set_option maxRecDepth 100000 in
theorem sY_X11_power_4 (NF : Nat) (l : Launch) (dC : Nat → ClassId) (dI : Nat → Nat → Nat) (cy : Nat → ClassId) (y0 : Nat) (r : Nat → Nat)  (v : Nat → Int32) (f : Nat → Nat → Int32) (w : Int64) (g : Nat → Int64) (hIv : YI v) (hCf : YC f) (hRf : progOK (f 4) (f 5) (v 9).toInt.toNat)  : ctI l (dC, dI) cy yX11_power cX11_power 4 .int 1 60 0 0 Unit [.int 100, .int 2] (YW cy y0 r v f w g) (fun r u => gsY_X11_power_4 NF v f w g = r ∧ ((10000 : Int) ≤ r.toInt ∧ r.toInt ≤ 10000)) (fun u => YW cy y0 r v f w g) := by
  refine ctI_of (by decide) (Nat.le_of_ble_eq_true rfl) (fun p e s m below meth c A ls Q hx hb hml hts hown hE hP hD hA hl ret => ?_)
  have hUv : (v 35).toInt + (v 36).toInt ≤ 40 := hIv.2
  have hown : s.vm.findClass RX11 = some m.cls := hown
  have hS : va_S A s.heap s.heap [] := va_S.rf
  have hl : lv_has ls 4 [(0, .int 100), (1, .int 2)] := hl
  refine lv_iconst (v := 1) hx hb dX11_power_0 rfl ?_
  refine lv_istore_n (lv' := [(2, .int 1), (0, .int 100), (1, .int 2)]) hx hb dX11_power_1 rfl hl (Nat.le_of_ble_eq_true rfl) rfl (fun ls hl => ?_)
  refine lv_iconst (v := 0) hx hb dX11_power_2 rfl ?_
  refine lv_istore_n (lv' := [(3, .int 0), (2, .int 1), (0, .int 100), (1, .int 2)]) hx hb dX11_power_3 rfl hl (Nat.le_of_ble_eq_true rfl) rfl (fun ls hl => ?_)
  refine lv_iload_n hx hb dX11_power_4 rfl (lv_at hl 0 rfl) ?_
  refine lv_iload_n hx hb dX11_power_5 rfl (lv_at hl 3 rfl) ?_
  refine lv_icmp_ge (tgt := 19) hx hb dX11_power_6 rfl (fun c0 => absurd c0 (by decide)) (fun _ => ?_)
  refine lv_iload_n hx hb dX11_power_9 rfl (lv_at hl 1 rfl) ?_
  refine lv_iload_n hx hb dX11_power_10 rfl (lv_at hl 2 rfl) ?_
  refine lv_imul hx hb dX11_power_11 ?_
  refine tI (y := 100) (by decide) ?_
  refine lv_istore_n (lv' := [(2, .int 100), (3, .int 0), (0, .int 100), (1, .int 2)]) hx hb dX11_power_12 rfl hl (Nat.le_of_ble_eq_true rfl) rfl (fun ls hl => ?_)
  refine lv_iinc (v := 1) (lv' := [(3, .int 1), (2, .int 100), (0, .int 100), (1, .int 2)]) hx hb dX11_power_13 hl (k := 1) rfl (by decide) (by decide) rfl (fun ls hl => ?_)
  refine lv_goto (tgt := 4) hx hb dX11_power_16 rfl ?_
  refine lv_iload_n hx hb dX11_power_4 rfl (lv_at hl 0 rfl) ?_
  refine lv_iload_n hx hb dX11_power_5 rfl (lv_at hl 3 rfl) ?_
  refine lv_icmp_ge (tgt := 19) hx hb dX11_power_6 rfl (fun c0 => absurd c0 (by decide)) (fun _ => ?_)
  refine lv_iload_n hx hb dX11_power_9 rfl (lv_at hl 1 rfl) ?_
  refine lv_iload_n hx hb dX11_power_10 rfl (lv_at hl 2 rfl) ?_
  refine lv_imul hx hb dX11_power_11 ?_
  refine tI (y := 10000) (by decide) ?_
  refine lv_istore_n (lv' := [(2, .int 10000), (3, .int 1), (0, .int 100), (1, .int 2)]) hx hb dX11_power_12 rfl hl (Nat.le_of_ble_eq_true rfl) rfl (fun ls hl => ?_)
  refine lv_iinc (v := 2) (lv' := [(3, .int 2), (2, .int 10000), (0, .int 100), (1, .int 2)]) hx hb dX11_power_13 hl (k := 1) rfl (by decide) (by decide) rfl (fun ls hl => ?_)
  refine lv_goto (tgt := 4) hx hb dX11_power_16 rfl ?_
  refine lv_iload_n hx hb dX11_power_4 rfl (lv_at hl 0 rfl) ?_
  refine lv_iload_n hx hb dX11_power_5 rfl (lv_at hl 3 rfl) ?_
  refine lv_icmp_ge (tgt := 19) hx hb dX11_power_6 rfl (fun _ => ?_) (fun c0 => absurd (by decide) c0)
  refine lv_iload_n hx hb dX11_power_19 rfl (lv_at hl 1 rfl) ?_
  exact ret 10000 () _ _ _ _ _ _ rfl ⟨gsY_X11_power_4_q0, ⟨by decide, by decide⟩⟩ hP hD hS dX11_power_20 (Nat.le_refl _) (Nat.le_refl _)
set_option maxHeartbeats 4000000 in
set_option maxRecDepth 100000 in
theorem sY_X11_power_5 (NF : Nat) (l : Launch) (dC : Nat → ClassId) (dI : Nat → Nat → Nat) (cy : Nat → ClassId) (y0 : Nat) (r : Nat → Nat)  (v : Nat → Int32) (f : Nat → Nat → Int32) (w : Int64) (g : Nat → Int64) (hIv : YI v) (hCf : YC f) (hRf : progOK (f 4) (f 5) (v 9).toInt.toNat)  : ctI l (dC, dI) cy yX11_power cX11_power 4 .int 1 60 0 0 Unit [.int 100, .int 3] (YW cy y0 r v f w g) (fun r u => gsY_X11_power_5 NF v f w g = r ∧ ((1000000 : Int) ≤ r.toInt ∧ r.toInt ≤ 1000000)) (fun u => YW cy y0 r v f w g) := by
  refine ctI_of (by decide) (Nat.le_of_ble_eq_true rfl) (fun p e s m below meth c A ls Q hx hb hml hts hown hE hP hD hA hl ret => ?_)
  have hUv : (v 35).toInt + (v 36).toInt ≤ 40 := hIv.2
  have hown : s.vm.findClass RX11 = some m.cls := hown
  have hS : va_S A s.heap s.heap [] := va_S.rf
  have hl : lv_has ls 4 [(0, .int 100), (1, .int 3)] := hl
  refine lv_iconst (v := 1) hx hb dX11_power_0 rfl ?_
  refine lv_istore_n (lv' := [(2, .int 1), (0, .int 100), (1, .int 3)]) hx hb dX11_power_1 rfl hl (Nat.le_of_ble_eq_true rfl) rfl (fun ls hl => ?_)
  refine lv_iconst (v := 0) hx hb dX11_power_2 rfl ?_
  refine lv_istore_n (lv' := [(3, .int 0), (2, .int 1), (0, .int 100), (1, .int 3)]) hx hb dX11_power_3 rfl hl (Nat.le_of_ble_eq_true rfl) rfl (fun ls hl => ?_)
  refine lv_iload_n hx hb dX11_power_4 rfl (lv_at hl 0 rfl) ?_
  refine lv_iload_n hx hb dX11_power_5 rfl (lv_at hl 3 rfl) ?_
  refine lv_icmp_ge (tgt := 19) hx hb dX11_power_6 rfl (fun c0 => absurd c0 (by decide)) (fun _ => ?_)
  refine lv_iload_n hx hb dX11_power_9 rfl (lv_at hl 1 rfl) ?_
  refine lv_iload_n hx hb dX11_power_10 rfl (lv_at hl 2 rfl) ?_
  refine lv_imul hx hb dX11_power_11 ?_
  refine tI (y := 100) (by decide) ?_
  refine lv_istore_n (lv' := [(2, .int 100), (3, .int 0), (0, .int 100), (1, .int 3)]) hx hb dX11_power_12 rfl hl (Nat.le_of_ble_eq_true rfl) rfl (fun ls hl => ?_)
  refine lv_iinc (v := 1) (lv' := [(3, .int 1), (2, .int 100), (0, .int 100), (1, .int 3)]) hx hb dX11_power_13 hl (k := 1) rfl (by decide) (by decide) rfl (fun ls hl => ?_)
  refine lv_goto (tgt := 4) hx hb dX11_power_16 rfl ?_
  refine lv_iload_n hx hb dX11_power_4 rfl (lv_at hl 0 rfl) ?_
  refine lv_iload_n hx hb dX11_power_5 rfl (lv_at hl 3 rfl) ?_
  refine lv_icmp_ge (tgt := 19) hx hb dX11_power_6 rfl (fun c0 => absurd c0 (by decide)) (fun _ => ?_)
  refine lv_iload_n hx hb dX11_power_9 rfl (lv_at hl 1 rfl) ?_
  refine lv_iload_n hx hb dX11_power_10 rfl (lv_at hl 2 rfl) ?_
  refine lv_imul hx hb dX11_power_11 ?_
  refine tI (y := 10000) (by decide) ?_
  refine lv_istore_n (lv' := [(2, .int 10000), (3, .int 1), (0, .int 100), (1, .int 3)]) hx hb dX11_power_12 rfl hl (Nat.le_of_ble_eq_true rfl) rfl (fun ls hl => ?_)
  refine lv_iinc (v := 2) (lv' := [(3, .int 2), (2, .int 10000), (0, .int 100), (1, .int 3)]) hx hb dX11_power_13 hl (k := 1) rfl (by decide) (by decide) rfl (fun ls hl => ?_)
  refine lv_goto (tgt := 4) hx hb dX11_power_16 rfl ?_
  refine lv_iload_n hx hb dX11_power_4 rfl (lv_at hl 0 rfl) ?_
  refine lv_iload_n hx hb dX11_power_5 rfl (lv_at hl 3 rfl) ?_
  refine lv_icmp_ge (tgt := 19) hx hb dX11_power_6 rfl (fun c0 => absurd c0 (by decide)) (fun _ => ?_)
  refine lv_iload_n hx hb dX11_power_9 rfl (lv_at hl 1 rfl) ?_
  refine lv_iload_n hx hb dX11_power_10 rfl (lv_at hl 2 rfl) ?_
  refine lv_imul hx hb dX11_power_11 ?_
  refine tI (y := 1000000) (by decide) ?_
  refine lv_istore_n (lv' := [(2, .int 1000000), (3, .int 2), (0, .int 100), (1, .int 3)]) hx hb dX11_power_12 rfl hl (Nat.le_of_ble_eq_true rfl) rfl (fun ls hl => ?_)
  refine lv_iinc (v := 3) (lv' := [(3, .int 3), (2, .int 1000000), (0, .int 100), (1, .int 3)]) hx hb dX11_power_13 hl (k := 1) rfl (by decide) (by decide) rfl (fun ls hl => ?_)
  refine lv_goto (tgt := 4) hx hb dX11_power_16 rfl ?_
  refine lv_iload_n hx hb dX11_power_4 rfl (lv_at hl 0 rfl) ?_
  refine lv_iload_n hx hb dX11_power_5 rfl (lv_at hl 3 rfl) ?_
  refine lv_icmp_ge (tgt := 19) hx hb dX11_power_6 rfl (fun _ => ?_) (fun c0 => absurd (by decide) c0)
  refine lv_iload_n hx hb dX11_power_19 rfl (lv_at hl 1 rfl) ?_
  exact ret 1000000 () _ _ _ _ _ _ rfl ⟨gsY_X11_power_5_q0, ⟨by decide, by decide⟩⟩ hP hD hS dX11_power_20 (Nat.le_refl _) (Nat.le_refl _)
set_option maxHeartbeats 4000000 in
set_option maxRecDepth 100000 in
theorem sY_X11_power_6 (NF : Nat) (l : Launch) (dC : Nat → ClassId) (dI : Nat → Nat → Nat) (cy : Nat → ClassId) (y0 : Nat) (r : Nat → Nat)  (v : Nat → Int32) (f : Nat → Nat → Int32) (w : Int64) (g : Nat → Int64) (hIv : YI v) (hCf : YC f) (hRf : progOK (f 4) (f 5) (v 9).toInt.toNat)  : ctI l (dC, dI) cy yX11_power cX11_power 4 .int 1 60 0 0 Unit [.int 100, .int 4] (YW cy y0 r v f w g) (fun r u => gsY_X11_power_6 NF v f w g = r ∧ ((100000000 : Int) ≤ r.toInt ∧ r.toInt ≤ 100000000)) (fun u => YW cy y0 r v f w g) := by
  refine ctI_of (by decide) (Nat.le_of_ble_eq_true rfl) (fun p e s m below meth c A ls Q hx hb hml hts hown hE hP hD hA hl ret => ?_)
  have hUv : (v 35).toInt + (v 36).toInt ≤ 40 := hIv.2
  have hown : s.vm.findClass RX11 = some m.cls := hown
  have hS : va_S A s.heap s.heap [] := va_S.rf
  have hl : lv_has ls 4 [(0, .int 100), (1, .int 4)] := hl
  refine lv_iconst (v := 1) hx hb dX11_power_0 rfl ?_
  refine lv_istore_n (lv' := [(2, .int 1), (0, .int 100), (1, .int 4)]) hx hb dX11_power_1 rfl hl (Nat.le_of_ble_eq_true rfl) rfl (fun ls hl => ?_)
  refine lv_iconst (v := 0) hx hb dX11_power_2 rfl ?_
  refine lv_istore_n (lv' := [(3, .int 0), (2, .int 1), (0, .int 100), (1, .int 4)]) hx hb dX11_power_3 rfl hl (Nat.le_of_ble_eq_true rfl) rfl (fun ls hl => ?_)
  refine lv_iload_n hx hb dX11_power_4 rfl (lv_at hl 0 rfl) ?_
  refine lv_iload_n hx hb dX11_power_5 rfl (lv_at hl 3 rfl) ?_
  refine lv_icmp_ge (tgt := 19) hx hb dX11_power_6 rfl (fun c0 => absurd c0 (by decide)) (fun _ => ?_)
  refine lv_iload_n hx hb dX11_power_9 rfl (lv_at hl 1 rfl) ?_
  refine lv_iload_n hx hb dX11_power_10 rfl (lv_at hl 2 rfl) ?_
  refine lv_imul hx hb dX11_power_11 ?_
  refine tI (y := 100) (by decide) ?_
  refine lv_istore_n (lv' := [(2, .int 100), (3, .int 0), (0, .int 100), (1, .int 4)]) hx hb dX11_power_12 rfl hl (Nat.le_of_ble_eq_true rfl) rfl (fun ls hl => ?_)
  refine lv_iinc (v := 1) (lv' := [(3, .int 1), (2, .int 100), (0, .int 100), (1, .int 4)]) hx hb dX11_power_13 hl (k := 1) rfl (by decide) (by decide) rfl (fun ls hl => ?_)
  refine lv_goto (tgt := 4) hx hb dX11_power_16 rfl ?_
  refine lv_iload_n hx hb dX11_power_4 rfl (lv_at hl 0 rfl) ?_
  refine lv_iload_n hx hb dX11_power_5 rfl (lv_at hl 3 rfl) ?_
  refine lv_icmp_ge (tgt := 19) hx hb dX11_power_6 rfl (fun c0 => absurd c0 (by decide)) (fun _ => ?_)
  refine lv_iload_n hx hb dX11_power_9 rfl (lv_at hl 1 rfl) ?_
  refine lv_iload_n hx hb dX11_power_10 rfl (lv_at hl 2 rfl) ?_
  refine lv_imul hx hb dX11_power_11 ?_
  refine tI (y := 10000) (by decide) ?_
  refine lv_istore_n (lv' := [(2, .int 10000), (3, .int 1), (0, .int 100), (1, .int 4)]) hx hb dX11_power_12 rfl hl (Nat.le_of_ble_eq_true rfl) rfl (fun ls hl => ?_)
  refine lv_iinc (v := 2) (lv' := [(3, .int 2), (2, .int 10000), (0, .int 100), (1, .int 4)]) hx hb dX11_power_13 hl (k := 1) rfl (by decide) (by decide) rfl (fun ls hl => ?_)
  refine lv_goto (tgt := 4) hx hb dX11_power_16 rfl ?_
  refine lv_iload_n hx hb dX11_power_4 rfl (lv_at hl 0 rfl) ?_
  refine lv_iload_n hx hb dX11_power_5 rfl (lv_at hl 3 rfl) ?_
  refine lv_icmp_ge (tgt := 19) hx hb dX11_power_6 rfl (fun c0 => absurd c0 (by decide)) (fun _ => ?_)
  refine lv_iload_n hx hb dX11_power_9 rfl (lv_at hl 1 rfl) ?_
  refine lv_iload_n hx hb dX11_power_10 rfl (lv_at hl 2 rfl) ?_
  refine lv_imul hx hb dX11_power_11 ?_
  refine tI (y := 1000000) (by decide) ?_
  refine lv_istore_n (lv' := [(2, .int 1000000), (3, .int 2), (0, .int 100), (1, .int 4)]) hx hb dX11_power_12 rfl hl (Nat.le_of_ble_eq_true rfl) rfl (fun ls hl => ?_)
  refine lv_iinc (v := 3) (lv' := [(3, .int 3), (2, .int 1000000), (0, .int 100), (1, .int 4)]) hx hb dX11_power_13 hl (k := 1) rfl (by decide) (by decide) rfl (fun ls hl => ?_)
  refine lv_goto (tgt := 4) hx hb dX11_power_16 rfl ?_
  refine lv_iload_n hx hb dX11_power_4 rfl (lv_at hl 0 rfl) ?_
  refine lv_iload_n hx hb dX11_power_5 rfl (lv_at hl 3 rfl) ?_
  refine lv_icmp_ge (tgt := 19) hx hb dX11_power_6 rfl (fun c0 => absurd c0 (by decide)) (fun _ => ?_)
  refine lv_iload_n hx hb dX11_power_9 rfl (lv_at hl 1 rfl) ?_
  refine lv_iload_n hx hb dX11_power_10 rfl (lv_at hl 2 rfl) ?_
  refine lv_imul hx hb dX11_power_11 ?_
  refine tI (y := 100000000) (by decide) ?_
  refine lv_istore_n (lv' := [(2, .int 100000000), (3, .int 3), (0, .int 100), (1, .int 4)]) hx hb dX11_power_12 rfl hl (Nat.le_of_ble_eq_true rfl) rfl (fun ls hl => ?_)
  refine lv_iinc (v := 4) (lv' := [(3, .int 4), (2, .int 100000000), (0, .int 100), (1, .int 4)]) hx hb dX11_power_13 hl (k := 1) rfl (by decide) (by decide) rfl (fun ls hl => ?_)
  refine lv_goto (tgt := 4) hx hb dX11_power_16 rfl ?_
  refine lv_iload_n hx hb dX11_power_4 rfl (lv_at hl 0 rfl) ?_
  refine lv_iload_n hx hb dX11_power_5 rfl (lv_at hl 3 rfl) ?_
  refine lv_icmp_ge (tgt := 19) hx hb dX11_power_6 rfl (fun _ => ?_) (fun c0 => absurd (by decide) c0)
  refine lv_iload_n hx hb dX11_power_19 rfl (lv_at hl 1 rfl) ?_
  exact ret 100000000 () _ _ _ _ _ _ rfl ⟨gsY_X11_power_6_q0, ⟨by decide, by decide⟩⟩ hP hD hS dX11_power_20 (Nat.le_refl _) (Nat.le_refl _)
set_option maxHeartbeats 4000000 in
set_option maxRecDepth 100000 in
theorem sY_X11_odds_1 (NF : Nat) (l : Launch) (dC : Nat → ClassId) (dI : Nat → Nat → Nat) (cy : Nat → ClassId) (y0 : Nat) (r : Nat → Nat) (p1 : Int32) (p2 : Int32) (v : Nat → Int32) (f : Nat → Nat → Int32) (w : Int64) (g : Nat → Int64) (hIv : YI v) (hCf : YC f) (hRf : progOK (f 4) (f 5) (v 9).toInt.toNat)  : ctI l (dC, dI) cy yX11_odds cX11_odds 6 .int 2 84 0 0 Unit [.ref y0, .int p1, .int p2] (YW cy y0 r v f w g) (fun r u => gsY_X11_odds_1 NF p1 p2 v f w g = r) (fun u => YW cy y0 r v f w g) := by
  refine ctI_of (by decide) (Nat.le_of_ble_eq_true rfl) (fun p e s m below meth c A ls Q hx hb hml hts hown hE hP hD hA hl ret => ?_)
  have hUv : (v 35).toInt + (v 36).toInt ≤ 40 := hIv.2
  have hown : s.vm.findClass RX11 = some m.cls := hown
  have hS : va_S A s.heap s.heap [] := va_S.rf
  have hl : lv_has ls 6 [(0, .ref y0), (1, .int p1), (2, .int p2)] := hl
  refine lv_iload_n hx hb dX11_odds_0 rfl (lv_at hl 1 rfl) ?_
  refine lv_iconst (v := 0) hx hb dX11_odds_1 rfl ?_
  refine lv_iconst (v := 4) hx hb dX11_odds_2 rfl ?_
  have lt1 : (0 : Int32).toInt = 0 := by decide
  have lt2 : (4 : Int32).toInt = 4 := by decide
  refine cbSi (n := 3) (rest := []) hx hb hml hown hts hE hP hD hS hA (sY_X11_isIn_1 NF l dC dI cy y0 r p1 0 4 v f w g hIv hCf hRf ) k_1736 k_1737 k_114 k_1738 (by decide +kernel) ⟨Nat.le_of_ble_eq_true rfl, Nat.le_of_ble_eq_true rfl⟩ (rfl) hl.1 rfl (Nat.le_of_ble_eq_true rfl) dX11_odds_3 (fun r3 u H locs hw hP hD hS => ?_)
  obtain ⟨hG4, hw⟩ := hw
  rcases hw with ⟨g5, g5_0, g5_1⟩ | ⟨g5⟩
  · skip
    subst g5
    refine lv_if_eq (tgt := 18) hx hb dX11_odds_6 rfl (fun c0 => absurd c0 (by decide)) (fun _ => ?_)
    refine lv_iload_n hx hb dX11_odds_9 rfl (lv_at hl 2 rfl) ?_
    refine lv_iconst (v := 0) hx hb dX11_odds_10 rfl ?_
    refine lv_iconst (v := 1) hx hb dX11_odds_11 rfl ?_
    have lt6 : (1 : Int32).toInt = 1 := by decide
    refine cbSi (n := 3) (rest := []) hx hb hml hown hts hE hP hD hS hA (sY_X11_isIn_1 NF l dC dI cy y0 r p2 0 1 v f w g hIv hCf hRf ) k_1736 k_1737 k_114 k_1738 (by decide +kernel) ⟨Nat.le_of_ble_eq_true rfl, Nat.le_of_ble_eq_true rfl⟩ (rfl) hl.1 rfl (Nat.le_of_ble_eq_true rfl) dX11_odds_12 (fun r7 u H locs hw hP hD hS => ?_)
    obtain ⟨hG8, hw⟩ := hw
    rcases hw with ⟨g9, g9_0, g9_1⟩ | ⟨g9⟩
    · skip
      subst g9
      refine lv_if_ne (tgt := 20) hx hb dX11_odds_15 rfl (fun _ => ?_) (fun c0 => absurd c0 (by decide))
      refine lv_bipush (v := 100) hx hb dX11_odds_20 rfl ?_
      refine lv_aload_n hx hb dX11_odds_22 rfl (lv_at hl 0 rfl) ?_
      refine va_get (D := (dC, dI)) (ci := 11) (v := .int (v 29)) (C := RX11) (T := TX11) (N := 79) hx hb hts inB_11 hown hE.1 hP 0 rfl rfl 53 (Nat.le_of_ble_eq_true rfl) (hts _ k_1373) (fun _ h9 => h9) rfl dX11_odds_23 ?_
      refine lv_isub hx hb dX11_odds_26 ?_
      refine lv_topi (fun t10 et10 => ?_)
      refine lv_iload_n hx hb dX11_odds_27 rfl (lv_at hl 1 rfl) ?_
      refine cbSi (n := 2) (rest := []) hx hb hml hown hts hE hP hD hS hA (sY_X11_power_1 NF l dC dI cy y0 r t10 p1 v f w g hIv hCf hRf ) k_1877 k_1878 k_114 k_1879 (by decide +kernel) ⟨Nat.le_of_ble_eq_true rfl, Nat.le_of_ble_eq_true rfl⟩ (rfl) hl.1 rfl (Nat.le_of_ble_eq_true rfl) dX11_odds_28 (fun r11 u H locs hw hP hD hS => ?_)
      have hG12 := hw
      refine lv_istore_n (lv' := [(3, .int r11), (0, .ref y0), (1, .int p1), (2, .int p2)]) hx hb dX11_odds_31 rfl hl (Nat.le_of_ble_eq_true rfl) rfl (fun ls hl => ?_)
      refine lv_bipush (v := 100) hx hb dX11_odds_32 rfl ?_
      refine lv_iload_n hx hb dX11_odds_34 rfl (lv_at hl 2 rfl) ?_
      by_cases c13 : p1 = 0
      · skip
        refine tI (y := 0) c13 ?_
        refine cbSi (n := 2) (rest := []) hx hb hml hown hts hE hP hD hS hA (sY_X11_power_2 NF l dC dI cy y0 r  v f w g hIv hCf hRf ) k_1877 k_1878 k_114 k_1879 (by decide +kernel) ⟨Nat.le_of_ble_eq_true rfl, Nat.le_of_ble_eq_true rfl⟩ (rfl) hl.1 rfl (Nat.le_of_ble_eq_true rfl) dX11_odds_35 (fun r14 u H locs hw hP hD hS => ?_)
        obtain ⟨hG15, hw⟩ := hw
        refine lv_istore (lv' := [(4, .int r14), (3, .int r11), (0, .ref y0), (1, .int p1), (2, .int p2)]) hx hb dX11_odds_38 hl (Nat.le_of_ble_eq_true rfl) rfl (fun ls hl => ?_)
        refine lv_iload hx hb dX11_odds_40 (lv_at hl 0 rfl) ?_
        refine lv_iload_n hx hb dX11_odds_42 rfl (lv_at hl 1 rfl) ?_
        refine cbSi (n := 2) (rest := []) hx hb hml hown hts hE hP hD hS hA (sY_X11_divisor_1 NF l dC dI cy y0 r r14 r11 v f w g hIv hCf hRf ⟨show (1 : Int) ≤ r14.toInt by omega, show r14.toInt ≤ (2147483647 : Int) by omega⟩) k_2000 k_2001 k_114 k_2002 (by decide +kernel) ⟨Nat.le_of_ble_eq_true rfl, Nat.le_of_ble_eq_true rfl⟩ (rfl) hl.1 rfl (Nat.le_of_ble_eq_true rfl) dX11_odds_43 (fun r16 u H locs hw hP hD hS => ?_)
        obtain ⟨hG17, hw⟩ := hw
        refine lv_istore (lv' := [(5, .int r16), (4, .int r14), (3, .int r11), (0, .ref y0), (1, .int p1), (2, .int p2)]) hx hb dX11_odds_46 hl (Nat.le_of_ble_eq_true rfl) rfl (fun ls hl => ?_)
        refine lv_iload_n hx hb dX11_odds_48 rfl (lv_at hl 5 rfl) ?_
        refine lv_if_ne (tgt := 59) hx hb dX11_odds_49 rfl (fun c18 => ?_) (fun c18 => ?_)
        · skip
          have zc18 : ¬ (p2.toInt = 0) := by rw [fa_eq, show (0 : Int32).toInt = 0 from by decide] at c18; exact c18
          refine lv_iload hx hb dX11_odds_59 (lv_at hl 1 rfl) ?_
          refine lv_iload hx hb dX11_odds_61 (lv_at hl 0 rfl) ?_
          refine lv_idiv hx hb dX11_odds_63 (ne0 (by omega)) ?_
          refine lv_topi (fun t19 et19 => ?_)
          have zt19 : 0 ≤ t19.toInt ∧ t19.toInt ≤ r14.toInt := by rw [et19]; exact div_rng (zx := r14.toInt) (zy := r16.toInt) rfl rfl (by omega) (by omega)
          exact ret t19 () _ _ _ _ _ _ rfl (gsY_X11_odds_1_q0 hG4 hG8 et10 hG12.symm c13 hG15.symm hG17.symm c18 et19) hP hD hS dX11_odds_64 (Nat.le_refl _) (Nat.le_refl _)
        · skip
          have zc18 : p2.toInt = 0 := by rw [fa_eq, show (0 : Int32).toInt = 0 from by decide] at c18; exact c18
          refine lv_iload_n hx hb dX11_odds_52 rfl (lv_at hl 2 rfl) ?_
          refine lv_iload hx hb dX11_odds_53 (lv_at hl 0 rfl) ?_
          refine lv_idiv hx hb dX11_odds_55 (ne0 (by omega)) ?_
          refine lv_topi (fun t20 et20 => ?_)
          refine lv_goto (tgt := 64) hx hb dX11_odds_56 rfl ?_
          exact ret t20 () _ _ _ _ _ _ rfl (gsY_X11_odds_1_q1 hG4 hG8 et10 hG12.symm c13 hG15.symm hG17.symm c18 et20) hP hD hS dX11_odds_64 (Nat.le_refl _) (Nat.le_refl _)
      · skip
        have zc13 : ¬ (p1.toInt = 0) := by rw [fa_eq, show (0 : Int32).toInt = 0 from by decide] at c13; exact c13
        by_cases c21 : p1 = 1
        · skip
          refine tI (y := 1) c21 ?_
          refine cbSi (n := 2) (rest := []) hx hb hml hown hts hE hP hD hS hA (sY_X11_power_3 NF l dC dI cy y0 r  v f w g hIv hCf hRf ) k_1877 k_1878 k_114 k_1879 (by decide +kernel) ⟨Nat.le_of_ble_eq_true rfl, Nat.le_of_ble_eq_true rfl⟩ (rfl) hl.1 rfl (Nat.le_of_ble_eq_true rfl) dX11_odds_35 (fun r22 u H locs hw hP hD hS => ?_)
          obtain ⟨hG23, hw⟩ := hw
          refine lv_istore (lv' := [(4, .int r22), (3, .int r11), (0, .ref y0), (1, .int p1), (2, .int p2)]) hx hb dX11_odds_38 hl (Nat.le_of_ble_eq_true rfl) rfl (fun ls hl => ?_)
          refine lv_iload hx hb dX11_odds_40 (lv_at hl 0 rfl) ?_
          refine lv_iload_n hx hb dX11_odds_42 rfl (lv_at hl 1 rfl) ?_
          refine cbSi (n := 2) (rest := []) hx hb hml hown hts hE hP hD hS hA (sY_X11_divisor_1 NF l dC dI cy y0 r r22 r11 v f w g hIv hCf hRf ⟨show (1 : Int) ≤ r22.toInt by omega, show r22.toInt ≤ (2147483647 : Int) by omega⟩) k_2000 k_2001 k_114 k_2002 (by decide +kernel) ⟨Nat.le_of_ble_eq_true rfl, Nat.le_of_ble_eq_true rfl⟩ (rfl) hl.1 rfl (Nat.le_of_ble_eq_true rfl) dX11_odds_43 (fun r24 u H locs hw hP hD hS => ?_)
          obtain ⟨hG25, hw⟩ := hw
          refine lv_istore (lv' := [(5, .int r24), (4, .int r22), (3, .int r11), (0, .ref y0), (1, .int p1), (2, .int p2)]) hx hb dX11_odds_46 hl (Nat.le_of_ble_eq_true rfl) rfl (fun ls hl => ?_)
          refine lv_iload_n hx hb dX11_odds_48 rfl (lv_at hl 5 rfl) ?_
          refine lv_if_ne (tgt := 59) hx hb dX11_odds_49 rfl (fun c26 => ?_) (fun c26 => ?_)
          · skip
            have zc26 : ¬ (p2.toInt = 0) := by rw [fa_eq, show (0 : Int32).toInt = 0 from by decide] at c26; exact c26
            refine lv_iload hx hb dX11_odds_59 (lv_at hl 1 rfl) ?_
            refine lv_iload hx hb dX11_odds_61 (lv_at hl 0 rfl) ?_
            refine lv_idiv hx hb dX11_odds_63 (ne0 (by omega)) ?_
            refine lv_topi (fun t27 et27 => ?_)
            have zt27 : 0 ≤ t27.toInt ∧ t27.toInt ≤ r22.toInt := by rw [et27]; exact div_rng (zx := r22.toInt) (zy := r24.toInt) rfl rfl (by omega) (by omega)
            exact ret t27 () _ _ _ _ _ _ rfl (gsY_X11_odds_1_q2 hG4 hG8 et10 hG12.symm c13 c21 hG23.symm hG25.symm c26 et27) hP hD hS dX11_odds_64 (Nat.le_refl _) (Nat.le_refl _)
          · skip
            have zc26 : p2.toInt = 0 := by rw [fa_eq, show (0 : Int32).toInt = 0 from by decide] at c26; exact c26
            refine lv_iload_n hx hb dX11_odds_52 rfl (lv_at hl 2 rfl) ?_
            refine lv_iload hx hb dX11_odds_53 (lv_at hl 0 rfl) ?_
            refine lv_idiv hx hb dX11_odds_55 (ne0 (by omega)) ?_
            refine lv_topi (fun t28 et28 => ?_)
            refine lv_goto (tgt := 64) hx hb dX11_odds_56 rfl ?_
            exact ret t28 () _ _ _ _ _ _ rfl (gsY_X11_odds_1_q3 hG4 hG8 et10 hG12.symm c13 c21 hG23.symm hG25.symm c26 et28) hP hD hS dX11_odds_64 (Nat.le_refl _) (Nat.le_refl _)
        · skip
          have zc21 : ¬ (p1.toInt = 1) := by rw [fa_eq, show (1 : Int32).toInt = 1 from by decide] at c21; exact c21
          by_cases c29 : p1 = 2
          · skip
            refine tI (y := 2) c29 ?_
            refine cbSi (n := 2) (rest := []) hx hb hml hown hts hE hP hD hS hA (sY_X11_power_4 NF l dC dI cy y0 r  v f w g hIv hCf hRf ) k_1877 k_1878 k_114 k_1879 (by decide +kernel) ⟨Nat.le_of_ble_eq_true rfl, Nat.le_of_ble_eq_true rfl⟩ (rfl) hl.1 rfl (Nat.le_of_ble_eq_true rfl) dX11_odds_35 (fun r30 u H locs hw hP hD hS => ?_)
            obtain ⟨hG31, hw⟩ := hw
            refine lv_istore (lv' := [(4, .int r30), (3, .int r11), (0, .ref y0), (1, .int p1), (2, .int p2)]) hx hb dX11_odds_38 hl (Nat.le_of_ble_eq_true rfl) rfl (fun ls hl => ?_)
            refine lv_iload hx hb dX11_odds_40 (lv_at hl 0 rfl) ?_
            refine lv_iload_n hx hb dX11_odds_42 rfl (lv_at hl 1 rfl) ?_
            refine cbSi (n := 2) (rest := []) hx hb hml hown hts hE hP hD hS hA (sY_X11_divisor_1 NF l dC dI cy y0 r r30 r11 v f w g hIv hCf hRf ⟨show (1 : Int) ≤ r30.toInt by omega, show r30.toInt ≤ (2147483647 : Int) by omega⟩) k_2000 k_2001 k_114 k_2002 (by decide +kernel) ⟨Nat.le_of_ble_eq_true rfl, Nat.le_of_ble_eq_true rfl⟩ (rfl) hl.1 rfl (Nat.le_of_ble_eq_true rfl) dX11_odds_43 (fun r32 u H locs hw hP hD hS => ?_)
            obtain ⟨hG33, hw⟩ := hw
            refine lv_istore (lv' := [(5, .int r32), (4, .int r30), (3, .int r11), (0, .ref y0), (1, .int p1), (2, .int p2)]) hx hb dX11_odds_46 hl (Nat.le_of_ble_eq_true rfl) rfl (fun ls hl => ?_)
            refine lv_iload_n hx hb dX11_odds_48 rfl (lv_at hl 5 rfl) ?_
            refine lv_if_ne (tgt := 59) hx hb dX11_odds_49 rfl (fun c34 => ?_) (fun c34 => ?_)
            · skip
              have zc34 : ¬ (p2.toInt = 0) := by rw [fa_eq, show (0 : Int32).toInt = 0 from by decide] at c34; exact c34
              refine lv_iload hx hb dX11_odds_59 (lv_at hl 1 rfl) ?_
              refine lv_iload hx hb dX11_odds_61 (lv_at hl 0 rfl) ?_
              refine lv_idiv hx hb dX11_odds_63 (ne0 (by omega)) ?_
              refine lv_topi (fun t35 et35 => ?_)
              have zt35 : 0 ≤ t35.toInt ∧ t35.toInt ≤ r30.toInt := by rw [et35]; exact div_rng (zx := r30.toInt) (zy := r32.toInt) rfl rfl (by omega) (by omega)
              exact ret t35 () _ _ _ _ _ _ rfl (gsY_X11_odds_1_q4 hG4 hG8 et10 hG12.symm c13 c21 c29 hG31.symm hG33.symm c34 et35) hP hD hS dX11_odds_64 (Nat.le_refl _) (Nat.le_refl _)
            · skip
              have zc34 : p2.toInt = 0 := by rw [fa_eq, show (0 : Int32).toInt = 0 from by decide] at c34; exact c34
              refine lv_iload_n hx hb dX11_odds_52 rfl (lv_at hl 2 rfl) ?_
              refine lv_iload hx hb dX11_odds_53 (lv_at hl 0 rfl) ?_
              refine lv_idiv hx hb dX11_odds_55 (ne0 (by omega)) ?_
              refine lv_topi (fun t36 et36 => ?_)
              refine lv_goto (tgt := 64) hx hb dX11_odds_56 rfl ?_
              exact ret t36 () _ _ _ _ _ _ rfl (gsY_X11_odds_1_q5 hG4 hG8 et10 hG12.symm c13 c21 c29 hG31.symm hG33.symm c34 et36) hP hD hS dX11_odds_64 (Nat.le_refl _) (Nat.le_refl _)
          · skip
            have zc29 : ¬ (p1.toInt = 2) := by rw [fa_eq, show (2 : Int32).toInt = 2 from by decide] at c29; exact c29
            by_cases c37 : p1 = 3
            · skip
              refine tI (y := 3) c37 ?_
              refine cbSi (n := 2) (rest := []) hx hb hml hown hts hE hP hD hS hA (sY_X11_power_5 NF l dC dI cy y0 r  v f w g hIv hCf hRf ) k_1877 k_1878 k_114 k_1879 (by decide +kernel) ⟨Nat.le_of_ble_eq_true rfl, Nat.le_of_ble_eq_true rfl⟩ (rfl) hl.1 rfl (Nat.le_of_ble_eq_true rfl) dX11_odds_35 (fun r38 u H locs hw hP hD hS => ?_)
              obtain ⟨hG39, hw⟩ := hw
              refine lv_istore (lv' := [(4, .int r38), (3, .int r11), (0, .ref y0), (1, .int p1), (2, .int p2)]) hx hb dX11_odds_38 hl (Nat.le_of_ble_eq_true rfl) rfl (fun ls hl => ?_)
              refine lv_iload hx hb dX11_odds_40 (lv_at hl 0 rfl) ?_
              refine lv_iload_n hx hb dX11_odds_42 rfl (lv_at hl 1 rfl) ?_
              refine cbSi (n := 2) (rest := []) hx hb hml hown hts hE hP hD hS hA (sY_X11_divisor_1 NF l dC dI cy y0 r r38 r11 v f w g hIv hCf hRf ⟨show (1 : Int) ≤ r38.toInt by omega, show r38.toInt ≤ (2147483647 : Int) by omega⟩) k_2000 k_2001 k_114 k_2002 (by decide +kernel) ⟨Nat.le_of_ble_eq_true rfl, Nat.le_of_ble_eq_true rfl⟩ (rfl) hl.1 rfl (Nat.le_of_ble_eq_true rfl) dX11_odds_43 (fun r40 u H locs hw hP hD hS => ?_)
              obtain ⟨hG41, hw⟩ := hw
              refine lv_istore (lv' := [(5, .int r40), (4, .int r38), (3, .int r11), (0, .ref y0), (1, .int p1), (2, .int p2)]) hx hb dX11_odds_46 hl (Nat.le_of_ble_eq_true rfl) rfl (fun ls hl => ?_)
              refine lv_iload_n hx hb dX11_odds_48 rfl (lv_at hl 5 rfl) ?_
              refine lv_if_ne (tgt := 59) hx hb dX11_odds_49 rfl (fun c42 => ?_) (fun c42 => ?_)
              · skip
                have zc42 : ¬ (p2.toInt = 0) := by rw [fa_eq, show (0 : Int32).toInt = 0 from by decide] at c42; exact c42
                refine lv_iload hx hb dX11_odds_59 (lv_at hl 1 rfl) ?_
                refine lv_iload hx hb dX11_odds_61 (lv_at hl 0 rfl) ?_
                refine lv_idiv hx hb dX11_odds_63 (ne0 (by omega)) ?_
                refine lv_topi (fun t43 et43 => ?_)
                have zt43 : 0 ≤ t43.toInt ∧ t43.toInt ≤ r38.toInt := by rw [et43]; exact div_rng (zx := r38.toInt) (zy := r40.toInt) rfl rfl (by omega) (by omega)
                exact ret t43 () _ _ _ _ _ _ rfl (gsY_X11_odds_1_q6 hG4 hG8 et10 hG12.symm c13 c21 c29 c37 hG39.symm hG41.symm c42 et43) hP hD hS dX11_odds_64 (Nat.le_refl _) (Nat.le_refl _)
              · skip
                have zc42 : p2.toInt = 0 := by rw [fa_eq, show (0 : Int32).toInt = 0 from by decide] at c42; exact c42
                refine lv_iload_n hx hb dX11_odds_52 rfl (lv_at hl 2 rfl) ?_
                refine lv_iload hx hb dX11_odds_53 (lv_at hl 0 rfl) ?_
                refine lv_idiv hx hb dX11_odds_55 (ne0 (by omega)) ?_
                refine lv_topi (fun t44 et44 => ?_)
                refine lv_goto (tgt := 64) hx hb dX11_odds_56 rfl ?_
                exact ret t44 () _ _ _ _ _ _ rfl (gsY_X11_odds_1_q7 hG4 hG8 et10 hG12.symm c13 c21 c29 c37 hG39.symm hG41.symm c42 et44) hP hD hS dX11_odds_64 (Nat.le_refl _) (Nat.le_refl _)
            · skip
              have zc37 : ¬ (p1.toInt = 3) := by rw [fa_eq, show (3 : Int32).toInt = 3 from by decide] at c37; exact c37
              by_cases c45 : p1 = 4
              · skip
                refine tI (y := 4) c45 ?_
                refine cbSi (n := 2) (rest := []) hx hb hml hown hts hE hP hD hS hA (sY_X11_power_6 NF l dC dI cy y0 r  v f w g hIv hCf hRf ) k_1877 k_1878 k_114 k_1879 (by decide +kernel) ⟨Nat.le_of_ble_eq_true rfl, Nat.le_of_ble_eq_true rfl⟩ (rfl) hl.1 rfl (Nat.le_of_ble_eq_true rfl) dX11_odds_35 (fun r46 u H locs hw hP hD hS => ?_)
                obtain ⟨hG47, hw⟩ := hw
                refine lv_istore (lv' := [(4, .int r46), (3, .int r11), (0, .ref y0), (1, .int p1), (2, .int p2)]) hx hb dX11_odds_38 hl (Nat.le_of_ble_eq_true rfl) rfl (fun ls hl => ?_)
                refine lv_iload hx hb dX11_odds_40 (lv_at hl 0 rfl) ?_
                refine lv_iload_n hx hb dX11_odds_42 rfl (lv_at hl 1 rfl) ?_
                refine cbSi (n := 2) (rest := []) hx hb hml hown hts hE hP hD hS hA (sY_X11_divisor_1 NF l dC dI cy y0 r r46 r11 v f w g hIv hCf hRf ⟨show (1 : Int) ≤ r46.toInt by omega, show r46.toInt ≤ (2147483647 : Int) by omega⟩) k_2000 k_2001 k_114 k_2002 (by decide +kernel) ⟨Nat.le_of_ble_eq_true rfl, Nat.le_of_ble_eq_true rfl⟩ (rfl) hl.1 rfl (Nat.le_of_ble_eq_true rfl) dX11_odds_43 (fun r48 u H locs hw hP hD hS => ?_)
                obtain ⟨hG49, hw⟩ := hw
                refine lv_istore (lv' := [(5, .int r48), (4, .int r46), (3, .int r11), (0, .ref y0), (1, .int p1), (2, .int p2)]) hx hb dX11_odds_46 hl (Nat.le_of_ble_eq_true rfl) rfl (fun ls hl => ?_)
                refine lv_iload_n hx hb dX11_odds_48 rfl (lv_at hl 5 rfl) ?_
                refine lv_if_ne (tgt := 59) hx hb dX11_odds_49 rfl (fun c50 => ?_) (fun c50 => ?_)
                · skip
                  have zc50 : ¬ (p2.toInt = 0) := by rw [fa_eq, show (0 : Int32).toInt = 0 from by decide] at c50; exact c50
                  refine lv_iload hx hb dX11_odds_59 (lv_at hl 1 rfl) ?_
                  refine lv_iload hx hb dX11_odds_61 (lv_at hl 0 rfl) ?_
                  refine lv_idiv hx hb dX11_odds_63 (ne0 (by omega)) ?_
                  refine lv_topi (fun t51 et51 => ?_)
                  have zt51 : 0 ≤ t51.toInt ∧ t51.toInt ≤ r46.toInt := by rw [et51]; exact div_rng (zx := r46.toInt) (zy := r48.toInt) rfl rfl (by omega) (by omega)
                  exact ret t51 () _ _ _ _ _ _ rfl (gsY_X11_odds_1_q8 hG4 hG8 et10 hG12.symm c13 c21 c29 c37 c45 hG47.symm hG49.symm c50 et51) hP hD hS dX11_odds_64 (Nat.le_refl _) (Nat.le_refl _)
                · skip
                  have zc50 : p2.toInt = 0 := by rw [fa_eq, show (0 : Int32).toInt = 0 from by decide] at c50; exact c50
                  refine lv_iload_n hx hb dX11_odds_52 rfl (lv_at hl 2 rfl) ?_
                  refine lv_iload hx hb dX11_odds_53 (lv_at hl 0 rfl) ?_
                  refine lv_idiv hx hb dX11_odds_55 (ne0 (by omega)) ?_
                  refine lv_topi (fun t52 et52 => ?_)
                  refine lv_goto (tgt := 64) hx hb dX11_odds_56 rfl ?_
                  exact ret t52 () _ _ _ _ _ _ rfl (gsY_X11_odds_1_q9 hG4 hG8 et10 hG12.symm c13 c21 c29 c37 c45 hG47.symm hG49.symm c50 et52) hP hD hS dX11_odds_64 (Nat.le_refl _) (Nat.le_refl _)
              · skip
                have zc45 : ¬ (p1.toInt = 4) := by rw [fa_eq, show (4 : Int32).toInt = 4 from by decide] at c45; exact c45
                exact (show False by omega).elim
    · skip
      subst g9
      refine lv_if_ne (tgt := 20) hx hb dX11_odds_15 rfl (fun c0 => absurd (by decide) c0) (fun _ => ?_)
      refine lv_iconst (v := (-1)) hx hb dX11_odds_18 rfl ?_
      exact ret (-1) () _ _ _ _ _ _ rfl (gsY_X11_odds_1_q10 hG4 hG8) hP hD hS dX11_odds_19 (Nat.le_refl _) (Nat.le_refl _)
  · skip
    subst g5
    refine lv_if_eq (tgt := 18) hx hb dX11_odds_6 rfl (fun _ => ?_) (fun c0 => absurd (by decide) c0)
    refine lv_iconst (v := (-1)) hx hb dX11_odds_18 rfl ?_
    exact ret (-1) () _ _ _ _ _ _ rfl (gsY_X11_odds_1_q11 hG4) hP hD hS dX11_odds_19 (Nat.le_refl _) (Nat.le_refl _)
set_option maxHeartbeats 4000000 in
set_option maxRecDepth 100000 in
theorem sY_X11_isMan_1 (l : Launch) (dC : Nat → ClassId) (dI : Nat → Nat → Nat) (cy : Nat → ClassId) (y0 : Nat) (r : Nat → Nat) (p1 : Int32) (v : Nat → Int32) (f : Nat → Nat → Int32) (w : Int64) (g : Nat → Int64) (hIv : YI v) (hCf : YC f) (hRf : progOK (f 4) (f 5) (v 9).toInt.toNat)  : ctI l (dC, dI) cy yX11_isMan cX11_isMan 2 .boolean 2 82 0 0 Unit [.ref y0, .int p1] (YW cy y0 r v f w g) (fun r u => ((r = 1 ∧ 0 ≤ p1.toInt ∧ p1.toInt < (v 24).toInt ∧ p1.toInt ≤ 5) ∨ (r = 0))) (fun u => YW cy y0 r v f w g) := by
  refine ctI_of (by decide) (Nat.le_of_ble_eq_true rfl) (fun p e s m below meth c A ls Q hx hb hml hts hown hE hP hD hA hl ret => ?_)
  have hUv : (v 35).toInt + (v 36).toInt ≤ 40 := hIv.2
  have hown : s.vm.findClass RX11 = some m.cls := hown
  have hS : va_S A s.heap s.heap [] := va_S.rf
  have hl : lv_has ls 2 [(0, .ref y0), (1, .int p1)] := hl
  refine lv_iload_n hx hb dX11_isMan_0 rfl (lv_at hl 1 rfl) ?_
  refine lv_iconst (v := 0) hx hb dX11_isMan_1 rfl ?_
  refine lv_aload_n hx hb dX11_isMan_2 rfl (lv_at hl 0 rfl) ?_
  refine va_get (D := (dC, dI)) (ci := 11) (v := .int (v 24)) (C := RX11) (T := TX11) (N := 79) hx hb hts inB_11 hown hE.1 hP 0 rfl rfl 48 (Nat.le_of_ble_eq_true rfl) (hts _ k_1368) (fun _ h9 => h9) rfl dX11_isMan_3 ?_
  have b24_v : 0 ≤ (v 24).toInt ∧ (v 24).toInt ≤ 6 := YIb.b hIv.1 24 (by decide)
  refine lv_iconst (v := 1) hx hb dX11_isMan_6 rfl ?_
  refine lv_isub hx hb dX11_isMan_7 ?_
  refine lv_topi (fun t1 et1 => ?_)
  have rg2 := fb_rng (v 24)
  have zt1 : t1.toInt = (v 24).toInt - 1 := by rw [et1]; exact sub_i rfl (by decide) (by omega) (by omega)
  have lt3 : (0 : Int32).toInt = 0 := by decide
  refine cbSi (n := 3) (rest := []) hx hb hml hown hts hE hP hD hS hA (sY_X11_isIn_1 0 l dC dI cy y0 r p1 0 t1 v f w g hIv hCf hRf ) k_1736 k_1737 k_114 k_1738 (by decide +kernel) ⟨Nat.le_of_ble_eq_true rfl, Nat.le_of_ble_eq_true rfl⟩ (rfl) hl.1 rfl (Nat.le_of_ble_eq_true rfl) dX11_isMan_8 (fun r4 u H locs hw hP hD hS => ?_)
  obtain ⟨hG5, hw⟩ := hw
  rcases hw with ⟨g6, g6_0, g6_1⟩ | ⟨g6⟩
  · skip
    subst g6
    exact ret 1 () _ _ _ _ _ _ rfl (Or.inl ⟨rfl, by omega, by omega, by omega⟩) hP hD hS dX11_isMan_11 (Nat.le_refl _) (Nat.le_refl _)
  · skip
    subst g6
    exact ret 0 () _ _ _ _ _ _ rfl (Or.inr rfl) hP hD hS dX11_isMan_11 (Nat.le_refl _) (Nat.le_refl _)
set_option maxHeartbeats 4000000 in
set_option maxRecDepth 100000 in
theorem sY_X11_fill_1 (l : Launch) (dC : Nat → ClassId) (dI : Nat → Nat → Nat) (cy : Nat → ClassId) (y0 : Nat) (r : Nat → Nat)  (v : Nat → Int32) (f : Nat → Nat → Int32) (w : Int64) (g : Nat → Int64) (hIv : YI v) (hCf : YC f) (hRf : progOK (f 4) (f 5) (v 9).toInt.toNat)  : ctV l (dC, dI) cy yX11_fill cX11_fill 2 1 60 0 0 ((Nat → Int32) × (Nat → Nat → Int32) × (Int64) × (Nat → Int64)) [.ref y0] (YW cy y0 r v f w g) (fun u => KV [] u.1 v ∧ KF [24] u.2.1 f ∧ YI u.1 ∧ YC u.2.1 ∧ progOK (u.2.1 4) (u.2.1 5) (u.1 9).toInt.toNat ∧ u.1 0 = v 0 ∧ u.1 1 = v 1 ∧ u.1 2 = v 2 ∧ u.1 3 = v 3 ∧ u.1 4 = v 4 ∧ u.1 5 = v 5 ∧ u.1 8 = v 8 ∧ u.1 9 = v 9 ∧ u.1 10 = v 10 ∧ u.1 13 = v 13 ∧ u.1 14 = v 14 ∧ u.1 15 = v 15 ∧ u.1 17 = v 17 ∧ u.1 18 = v 18 ∧ u.1 24 = v 24 ∧ u.1 25 = v 25 ∧ u.1 35 = v 35 ∧ u.1 36 = v 36 ∧ u.1 38 = v 38 ∧ u.1 39 = v 39) (fun u => YW cy y0 r u.1 u.2.1 u.2.2.1 u.2.2.2) := by
  refine ctV_of (by decide) (Nat.le_of_ble_eq_true rfl) (fun p e s m below meth c A ls Q hx hb hml hts hown hnm hE hP hD hA hl ret => ?_)
  have hUv : (v 35).toInt + (v 36).toInt ≤ 40 := hIv.2
  have hM_v : KV [] v v := fun _ _ => rfl
  have hA_f : KF [24] f f := fun _ _ => rfl
  have hown : s.vm.findClass RX11 = some m.cls := hown
  have hS : va_S A s.heap s.heap [] := va_S.rf
  have hl : lv_has ls 2 [(0, .ref y0)] := hl
  refine lv_iconst (v := 0) hx hb dX11_fill_0 rfl ?_
  refine lv_istore_n (lv' := [(1, .int 0), (0, .ref y0)]) hx hb dX11_fill_1 rfl hl (Nat.le_of_ble_eq_true rfl) rfl (fun ls hl => ?_)
  have lp1 : ∀ (n1 : Nat) (l1_1 : Int32) (v1 : Nat → Int32) (f1 : Nat → Nat → Int32) (w1 : Int64) (g1 : Nat → Int64), YI v1 → YC f1 → progOK (f1 4) (f1 5) (v1 9).toInt.toNat → v1 0 = (v 0) → v1 1 = (v 1) → v1 2 = (v 2) → v1 3 = (v 3) → v1 4 = (v 4) → v1 5 = (v 5) → v1 8 = (v 8) → v1 9 = (v 9) → v1 10 = (v 10) → v1 13 = (v 13) → v1 14 = (v 14) → v1 15 = (v 15) → v1 17 = (v 17) → v1 18 = (v 18) → v1 24 = (v 24) → v1 25 = (v 25) → v1 35 = (v 35) → v1 36 = (v 36) → v1 38 = (v 38) → v1 39 = (v 39) → ((0 : Int) ≤ l1_1.toInt ∧ l1_1.toInt ≤ 2147483647) → KV [] v1 v → KF [24] f1 f → (2147483647 - l1_1.toInt).toNat < n1 → ∀ (H : Heap) (locs : List Loc) (ls : Array Slot), va_P (dC, dI) vwCl (YW cy y0 r v1 f1 w1 g1) H → va_D A (YW cy y0 r v1 f1 w1 g1) → va_S A s.heap H locs → lv_has ls 2 [(1, .int l1_1), (0, .ref y0)] → W p l e { frames := 1, cells := 0, slots := 0, locals := 60 } s m ([.ref y0] : List Value).toArray below meth c H locs 0 0 Q (F0 m 2 ls []) := by
    intro n1
    induction n1 with
    | zero => intro l1_1 v1 f1 w1 g1 hIv1 hCf1 hRf1 hq0_v1 hq1_v1 hq2_v1 hq3_v1 hq4_v1 hq5_v1 hq8_v1 hq9_v1 hq10_v1 hq13_v1 hq14_v1 hq15_v1 hq17_v1 hq18_v1 hq24_v1 hq25_v1 hq35_v1 hq36_v1 hq38_v1 hq39_v1 hr1_1 hM_v1 hA_f1 hm; exact absurd hm (Nat.not_lt_zero _)
    | succ n1 ih1 =>
      intro l1_1 v1 f1 w1 g1 hIv1 hCf1 hRf1 hq0_v1 hq1_v1 hq2_v1 hq3_v1 hq4_v1 hq5_v1 hq8_v1 hq9_v1 hq10_v1 hq13_v1 hq14_v1 hq15_v1 hq17_v1 hq18_v1 hq24_v1 hq25_v1 hq35_v1 hq36_v1 hq38_v1 hq39_v1 hr1_1 hM_v1 hA_f1 hm1 H locs ls hP hD hS hl
      have hUv1 : (v1 35).toInt + (v1 36).toInt ≤ 40 := hIv1.2
      have zq9_v1 := congrArg Int32.toInt hq9_v1
      refine lv_iload_n hx hb dX11_fill_2 rfl (lv_at hl 0 rfl) ?_
      refine lv_bipush (v := 39) hx hb dX11_fill_3 rfl ?_
      refine lv_icmp_ge (tgt := 26) hx hb dX11_fill_5 rfl (fun c2 => ?_) (fun c2 => ?_)
      · skip
        have zc2 : 39 ≤ l1_1.toInt := by rw [fa_le, show (39 : Int32).toInt = 39 from by decide] at c2; exact c2
        exact ret (v1, f1, w1, g1) _ _ _ _ _ _ ⟨hM_v1, hA_f1, hIv1, hCf1, hRf1, (show v1 0 = v 0 from hq0_v1), (show v1 1 = v 1 from hq1_v1), (show v1 2 = v 2 from hq2_v1), (show v1 3 = v 3 from hq3_v1), (show v1 4 = v 4 from hq4_v1), (show v1 5 = v 5 from hq5_v1), (show v1 8 = v 8 from hq8_v1), (show v1 9 = v 9 from hq9_v1), (show v1 10 = v 10 from hq10_v1), (show v1 13 = v 13 from hq13_v1), (show v1 14 = v 14 from hq14_v1), (show v1 15 = v 15 from hq15_v1), (show v1 17 = v 17 from hq17_v1), (show v1 18 = v 18 from hq18_v1), (show v1 24 = v 24 from hq24_v1), (show v1 25 = v 25 from hq25_v1), (show v1 35 = v 35 from hq35_v1), (show v1 36 = v 36 from hq36_v1), (show v1 38 = v 38 from hq38_v1), (show v1 39 = v 39 from hq39_v1)⟩ hP hD hS dX11_fill_26 (Nat.le_refl _) (Nat.le_refl _)
      · skip
        have zc2 : ¬ (39 ≤ l1_1.toInt) := by rw [fa_le, show (39 : Int32).toInt = 39 from by decide] at c2; exact c2
        refine lv_aload_n hx hb dX11_fill_8 rfl (lv_at hl 1 rfl) ?_
        refine va_get (D := (dC, dI)) (ci := 11) (v := .ref (r 60)) (C := RX11) (T := TX11) (N := 79) hx hb hts inB_11 hown hE.1 hP 0 rfl rfl 60 (Nat.le_of_ble_eq_true rfl) (hts _ k_1380) (fun _ h9 => h9) rfl dX11_fill_9 ?_
        refine lv_iload_n hx hb dX11_fill_12 rfl (lv_at hl 0 rfl) ?_
        refine lv_aload_n hx hb dX11_fill_13 rfl (lv_at hl 1 rfl) ?_
        refine va_get (D := (dC, dI)) (ci := 11) (v := .ref (r 59)) (C := RX11) (T := TX11) (N := 79) hx hb hts inB_11 hown hE.1 hP 0 rfl rfl 59 (Nat.le_of_ble_eq_true rfl) (hts _ k_1379) (fun _ h9 => h9) rfl dX11_fill_14 ?_
        refine lv_iload_n hx hb dX11_fill_17 rfl (lv_at hl 0 rfl) ?_
        refine ldI hx hb hE hP 24 rfl (vp_in_iff.mpr ⟨by omega, by omega⟩) rfl rfl dX11_fill_18 ?_
        refine lv_topi (fun t3 et3 => ?_)
        have zt3 : l1_1.toInt.toNat % 39 < 6 ∨ 12 ≤ l1_1.toInt.toNat % 39 ∨ (-1 ≤ t3.toInt ∧ t3.toInt ≤ 5) := by rw [et3]; exact wear_ld hCf1.1 (show l1_1.toInt.toNat < 39 by omega)
        refine stI hx hb hE hP hD hS 25 rfl (vp_in_iff.mpr ⟨by omega, by omega⟩) rfl dX11_fill_19 (fun H locs hP hD hS => ?_)
        obtain ⟨f4, ef4, hP, hD⟩ : ∃ fz9, fz9 = upd2 f1 24 (upd (f1 24) l1_1.toNatClampNeg t3) ∧ va_P (dC, dI) vwCl (YW cy y0 r v1 fz9 w1 g1) H ∧ va_D A (YW cy y0 r v1 fz9 w1 g1) := ⟨_, rfl, hP, hD⟩
        have hCf4 : YC f4 := by rw [ef4]; exact ⟨hCf1.1, (wear_st hCf1.2.1 (by show l1_1.toInt.toNat % 39 < 6 ∨ 12 ≤ l1_1.toInt.toNat % 39 ∨ (-1 ≤ t3.toInt ∧ t3.toInt ≤ 5); omega)), hCf1.2.2.1, hCf1.2.2.2.1, hCf1.2.2.2.2.1, hCf1.2.2.2.2.2⟩
        have hRf4 : progOK (f4 4) (f4 5) (v1 9).toInt.toNat := by rw [ef4]; exact hRf1
        have hA_f4 : KF [24] f4 f := by rw [ef4]; exact KF.up hA_f1 rfl
        obtain ⟨t5, et5⟩ : ∃ y : Int32, y = l1_1 + 1 := ⟨_, rfl⟩
        have rg6 := fb_rng l1_1
        have zt5 : t5.toInt = l1_1.toInt + 1 := by rw [et5]; exact add_i rfl (by decide) (by omega) (by omega)
        refine lv_iinc (v := t5) (lv' := [(1, .int t5), (0, .ref y0)]) hx hb dX11_fill_20 hl (k := 0) rfl (by rw [et5]; rfl) (by decide) rfl (fun ls hl => ?_)
        refine lv_goto (tgt := 2) hx hb dX11_fill_23 rfl ?_
        have rg7 := fb_rng t5
        exact ih1 t5 v1 f4 w1 g1 hIv1 hCf4 hRf4 hq0_v1 hq1_v1 hq2_v1 hq3_v1 hq4_v1 hq5_v1 hq8_v1 hq9_v1 hq10_v1 hq13_v1 hq14_v1 hq15_v1 hq17_v1 hq18_v1 hq24_v1 hq25_v1 hq35_v1 hq36_v1 hq38_v1 hq39_v1 ⟨show (0 : Int) ≤ t5.toInt by omega, show t5.toInt ≤ (2147483647 : Int) by omega⟩ hM_v1 hA_f4 (by show (2147483647 - t5.toInt).toNat < n1; omega) _ _ _ hP hD hS (lv_sub hl [0, 1] rfl)
  exact lp1 _ 0 v f w g hIv hCf hRf rfl rfl rfl rfl rfl rfl rfl rfl rfl rfl rfl rfl rfl rfl rfl rfl rfl rfl rfl rfl ⟨by decide, by decide⟩ hM_v hA_f (Nat.lt_succ_self _) _ _ _ hP hD hS (lv_sub hl [0, 1] rfl)
set_option maxHeartbeats 4000000 in
set_option maxRecDepth 100000 in
theorem sY_X11_over_1 (l : Launch) (dC : Nat → ClassId) (dI : Nat → Nat → Nat) (cy : Nat → ClassId) (y0 : Nat) (r : Nat → Nat) (p0 : Int32) (p1 : Int32) (v : Nat → Int32) (f : Nat → Nat → Int32) (w : Int64) (g : Nat → Int64) (hIv : YI v) (hCf : YC f) (hRf : progOK (f 4) (f 5) (v 9).toInt.toNat)  : ctI l (dC, dI) cy yX11_over cX11_over 2 .int 1 60 0 0 Unit [.int p0, .int p1] (YW cy y0 r v f w g) (fun r u => True) (fun u => YW cy y0 r v f w g) := by
  refine ctI_of (by decide) (Nat.le_of_ble_eq_true rfl) (fun p e s m below meth c A ls Q hx hb hml hts hown hE hP hD hA hl ret => ?_)
  have hUv : (v 35).toInt + (v 36).toInt ≤ 40 := hIv.2
  have hown : s.vm.findClass RX11 = some m.cls := hown
  have hS : va_S A s.heap s.heap [] := va_S.rf
  have hl : lv_has ls 2 [(0, .int p0), (1, .int p1)] := hl
  refine lv_iload_n hx hb dX11_over_0 rfl (lv_at hl 0 rfl) ?_
  refine lv_iload_n hx hb dX11_over_1 rfl (lv_at hl 1 rfl) ?_
  refine lv_icmp_le (tgt := 11) hx hb dX11_over_2 rfl (fun c1 => ?_) (fun c1 => ?_)
  · skip
    have zc1 : p0.toInt ≤ p1.toInt := by rw [fa_le] at c1; exact c1
    have rg2 := fb_rng p0
    have rg3 := fb_rng p1
    refine lv_iconst (v := 0) hx hb dX11_over_11 rfl ?_
    exact ret 0 () _ _ _ _ _ _ rfl trivial hP hD hS dX11_over_12 (Nat.le_refl _) (Nat.le_refl _)
  · skip
    have zc1 : ¬ (p0.toInt ≤ p1.toInt) := by rw [fa_le] at c1; exact c1
    have rg4 := fb_rng p0
    have rg5 := fb_rng p1
    refine lv_iload_n hx hb dX11_over_5 rfl (lv_at hl 0 rfl) ?_
    refine lv_iload_n hx hb dX11_over_6 rfl (lv_at hl 1 rfl) ?_
    refine lv_isub hx hb dX11_over_7 ?_
    refine lv_topi (fun t6 et6 => ?_)
    refine lv_goto (tgt := 12) hx hb dX11_over_8 rfl ?_
    exact ret t6 () _ _ _ _ _ _ rfl trivial hP hD hS dX11_over_12 (Nat.le_refl _) (Nat.le_refl _)
set_option maxHeartbeats 4000000 in
set_option maxRecDepth 100000 in
theorem sY_X11_within_1 (l : Launch) (dC : Nat → ClassId) (dI : Nat → Nat → Nat) (cy : Nat → ClassId) (y0 : Nat) (r : Nat → Nat) (p0 : Int32) (p1 : Int32) (v : Nat → Int32) (f : Nat → Nat → Int32) (w : Int64) (g : Nat → Int64) (hIv : YI v) (hCf : YC f) (hRf : progOK (f 4) (f 5) (v 9).toInt.toNat)  : ctI l (dC, dI) cy yX11_within cX11_within 2 .int 1 60 0 0 Unit [.int p0, .int p1] (YW cy y0 r v f w g) (fun r u => True) (fun u => YW cy y0 r v f w g) := by
  refine ctI_of (by decide) (Nat.le_of_ble_eq_true rfl) (fun p e s m below meth c A ls Q hx hb hml hts hown hE hP hD hA hl ret => ?_)
  have hUv : (v 35).toInt + (v 36).toInt ≤ 40 := hIv.2
  have hown : s.vm.findClass RX11 = some m.cls := hown
  have hS : va_S A s.heap s.heap [] := va_S.rf
  have hl : lv_has ls 2 [(0, .int p0), (1, .int p1)] := hl
  refine lv_iload_n hx hb dX11_within_0 rfl (lv_at hl 0 rfl) ?_
  refine lv_if_ge (tgt := 8) hx hb dX11_within_1 rfl (fun c1 => ?_) (fun c1 => ?_)
  · skip
    have zc1 : 0 ≤ p0.toInt := by rw [fa_le, show (0 : Int32).toInt = 0 from by decide] at c1; exact c1
    refine lv_iload_n hx hb dX11_within_8 rfl (lv_at hl 0 rfl) ?_
    refine lv_iload_n hx hb dX11_within_9 rfl (lv_at hl 1 rfl) ?_
    refine lv_icmp_le (tgt := 17) hx hb dX11_within_10 rfl (fun c2 => ?_) (fun c2 => ?_)
    · skip
      have zc2 : p0.toInt ≤ p1.toInt := by rw [fa_le] at c2; exact c2
      have rg3 := fb_rng p0
      have rg4 := fb_rng p1
      refine lv_iload_n hx hb dX11_within_17 rfl (lv_at hl 0 rfl) ?_
      exact ret p0 () _ _ _ _ _ _ rfl trivial hP hD hS dX11_within_18 (Nat.le_refl _) (Nat.le_refl _)
    · skip
      have zc2 : ¬ (p0.toInt ≤ p1.toInt) := by rw [fa_le] at c2; exact c2
      have rg5 := fb_rng p0
      have rg6 := fb_rng p1
      refine lv_iload_n hx hb dX11_within_13 rfl (lv_at hl 1 rfl) ?_
      refine lv_goto (tgt := 18) hx hb dX11_within_14 rfl ?_
      exact ret p1 () _ _ _ _ _ _ rfl trivial hP hD hS dX11_within_18 (Nat.le_refl _) (Nat.le_refl _)
  · skip
    have zc1 : ¬ (0 ≤ p0.toInt) := by rw [fa_le, show (0 : Int32).toInt = 0 from by decide] at c1; exact c1
    refine lv_iconst (v := 0) hx hb dX11_within_4 rfl ?_
    refine lv_goto (tgt := 18) hx hb dX11_within_5 rfl ?_
    exact ret 0 () _ _ _ _ _ _ rfl trivial hP hD hS dX11_within_18 (Nat.le_refl _) (Nat.le_refl _)
set_option maxHeartbeats 4000000 in
set_option maxRecDepth 100000 in
theorem sY_X11_truth_1 (l : Launch) (dC : Nat → ClassId) (dI : Nat → Nat → Nat) (cy : Nat → ClassId) (y0 : Nat) (r : Nat → Nat) (p0 : Int32) (v : Nat → Int32) (f : Nat → Nat → Int32) (w : Int64) (g : Nat → Int64) (hIv : YI v) (hCf : YC f) (hRf : progOK (f 4) (f 5) (v 9).toInt.toNat)  : ctI l (dC, dI) cy yX11_truth cX11_truth 1 .int 1 60 0 0 Unit [.int p0] (YW cy y0 r v f w g) (fun r u => ((0 : Int) ≤ r.toInt ∧ r.toInt ≤ 1)) (fun u => YW cy y0 r v f w g) := by
  refine ctI_of (by decide) (Nat.le_of_ble_eq_true rfl) (fun p e s m below meth c A ls Q hx hb hml hts hown hE hP hD hA hl ret => ?_)
  have hUv : (v 35).toInt + (v 36).toInt ≤ 40 := hIv.2
  have hown : s.vm.findClass RX11 = some m.cls := hown
  have hS : va_S A s.heap s.heap [] := va_S.rf
  have hl : lv_has ls 1 [(0, .int p0)] := hl
  refine lv_iload_n hx hb dX11_truth_0 rfl (lv_at hl 0 rfl) ?_
  refine lv_if_eq (tgt := 8) hx hb dX11_truth_1 rfl (fun c1 => ?_) (fun c1 => ?_)
  · skip
    have zc1 : p0.toInt = 0 := by rw [fa_eq, show (0 : Int32).toInt = 0 from by decide] at c1; exact c1
    refine lv_iconst (v := 0) hx hb dX11_truth_8 rfl ?_
    exact ret 0 () _ _ _ _ _ _ rfl ⟨by decide, by decide⟩ hP hD hS dX11_truth_9 (Nat.le_refl _) (Nat.le_refl _)
  · skip
    have zc1 : ¬ (p0.toInt = 0) := by rw [fa_eq, show (0 : Int32).toInt = 0 from by decide] at c1; exact c1
    refine lv_iconst (v := 1) hx hb dX11_truth_4 rfl ?_
    refine lv_goto (tgt := 9) hx hb dX11_truth_5 rfl ?_
    exact ret 1 () _ _ _ _ _ _ rfl ⟨by decide, by decide⟩ hP hD hS dX11_truth_9 (Nat.le_refl _) (Nat.le_refl _)
set_option maxHeartbeats 4000000 in
set_option maxRecDepth 100000 in
theorem sY_X11_done_1 (l : Launch) (dC : Nat → ClassId) (dI : Nat → Nat → Nat) (cy : Nat → ClassId) (y0 : Nat) (r : Nat → Nat) (p0 : Int32) (p1 : Int32) (p2 : Int32) (v : Nat → Int32) (f : Nat → Nat → Int32) (w : Int64) (g : Nat → Int64) (hIv : YI v) (hCf : YC f) (hRf : progOK (f 4) (f 5) (v 9).toInt.toNat)  : ctI l (dC, dI) cy yX11_done cX11_done 3 .int 2 80 0 0 Unit [.int p0, .int p1, .int p2] (YW cy y0 r v f w g) (fun r u => True) (fun u => YW cy y0 r v f w g) := by
  refine ctI_of (by decide) (Nat.le_of_ble_eq_true rfl) (fun p e s m below meth c A ls Q hx hb hml hts hown hE hP hD hA hl ret => ?_)
  have hUv : (v 35).toInt + (v 36).toInt ≤ 40 := hIv.2
  have hown : s.vm.findClass RX11 = some m.cls := hown
  have hS : va_S A s.heap s.heap [] := va_S.rf
  have hl : lv_has ls 3 [(0, .int p0), (1, .int p1), (2, .int p2)] := hl
  refine lv_iload_n hx hb dX11_done_0 rfl (lv_at hl 0 rfl) ?_
  by_cases c1 : p0 = 37
  · skip
    refine lv_tableIn (off := 143) (tgt := 144) hx hb dX11_done_1 (by rw [c1]; decide) (by rw [c1]; decide) (by rw [c1]; decide) (by decide) ?_
    have zc1 : p0.toInt = 37 := by rw [fa_eq, show (37 : Int32).toInt = 37 from by decide] at c1; exact c1
    refine lv_iload_n hx hb dX11_done_144 rfl (lv_at hl 2 rfl) ?_
    refine lv_if_ne (tgt := 152) hx hb dX11_done_145 rfl (fun c2 => ?_) (fun c2 => ?_)
    · skip
      have zc2 : ¬ (p2.toInt = 0) := by rw [fa_eq, show (0 : Int32).toInt = 0 from by decide] at c2; exact c2
      refine lv_iload_n hx hb dX11_done_152 rfl (lv_at hl 1 rfl) ?_
      refine lv_iload_n hx hb dX11_done_153 rfl (lv_at hl 2 rfl) ?_
      refine lv_irem hx hb dX11_done_154 (ne0 (by omega)) ?_
      refine lv_topi (fun t3 et3 => ?_)
      exact ret t3 () _ _ _ _ _ _ rfl trivial hP hD hS dX11_done_155 (Nat.le_refl _) (Nat.le_refl _)
    · skip
      have zc2 : p2.toInt = 0 := by rw [fa_eq, show (0 : Int32).toInt = 0 from by decide] at c2; exact c2
      refine lv_iconst (v := 0) hx hb dX11_done_148 rfl ?_
      refine lv_goto (tgt := 155) hx hb dX11_done_149 rfl ?_
      exact ret 0 () _ _ _ _ _ _ rfl trivial hP hD hS dX11_done_155 (Nat.le_refl _) (Nat.le_refl _)
  · skip
    have zc1 : ¬ (p0.toInt = 37) := by rw [fa_eq, show (37 : Int32).toInt = 37 from by decide] at c1; exact c1
    by_cases c4 : p0 = 38
    · skip
      refine lv_tableIn (off := 197) (tgt := 198) hx hb dX11_done_1 (by rw [c4]; decide) (by rw [c4]; decide) (by rw [c4]; decide) (by decide) ?_
      have zc4 : p0.toInt = 38 := by rw [fa_eq, show (38 : Int32).toInt = 38 from by decide] at c4; exact c4
      refine lv_iload_n hx hb dX11_done_198 rfl (lv_at hl 1 rfl) ?_
      refine lv_if_eq (tgt := 210) hx hb dX11_done_199 rfl (fun c5 => ?_) (fun c5 => ?_)
      · skip
        have zc5 : p1.toInt = 0 := by rw [fa_eq, show (0 : Int32).toInt = 0 from by decide] at c5; exact c5
        refine lv_iconst (v := 0) hx hb dX11_done_210 rfl ?_
        have lt6 : (0 : Int32).toInt = 0 := by decide
        refine cbSi (n := 1) (rest := []) hx hb hml hown hts hE hP hD hS hA (sY_X11_truth_1 l dC dI cy y0 r 0 v f w g hIv hCf hRf ) k_1761 k_1762 k_114 k_1763 (by decide +kernel) ⟨Nat.le_of_ble_eq_true rfl, Nat.le_of_ble_eq_true rfl⟩ (rfl) hl.1 rfl (Nat.le_of_ble_eq_true rfl) dX11_done_211 (fun r7 u H locs hw hP hD hS => ?_)
        exact ret r7 () _ _ _ _ _ _ rfl trivial hP hD hS dX11_done_214 (Nat.le_refl _) (Nat.le_refl _)
      · skip
        have zc5 : ¬ (p1.toInt = 0) := by rw [fa_eq, show (0 : Int32).toInt = 0 from by decide] at c5; exact c5
        refine lv_iload_n hx hb dX11_done_202 rfl (lv_at hl 2 rfl) ?_
        refine lv_if_eq (tgt := 210) hx hb dX11_done_203 rfl (fun c8 => ?_) (fun c8 => ?_)
        · skip
          have zc8 : p2.toInt = 0 := by rw [fa_eq, show (0 : Int32).toInt = 0 from by decide] at c8; exact c8
          refine lv_iconst (v := 0) hx hb dX11_done_210 rfl ?_
          have lt9 : (0 : Int32).toInt = 0 := by decide
          refine cbSi (n := 1) (rest := []) hx hb hml hown hts hE hP hD hS hA (sY_X11_truth_1 l dC dI cy y0 r 0 v f w g hIv hCf hRf ) k_1761 k_1762 k_114 k_1763 (by decide +kernel) ⟨Nat.le_of_ble_eq_true rfl, Nat.le_of_ble_eq_true rfl⟩ (rfl) hl.1 rfl (Nat.le_of_ble_eq_true rfl) dX11_done_211 (fun r10 u H locs hw hP hD hS => ?_)
          exact ret r10 () _ _ _ _ _ _ rfl trivial hP hD hS dX11_done_214 (Nat.le_refl _) (Nat.le_refl _)
        · skip
          have zc8 : ¬ (p2.toInt = 0) := by rw [fa_eq, show (0 : Int32).toInt = 0 from by decide] at c8; exact c8
          refine lv_iconst (v := 1) hx hb dX11_done_206 rfl ?_
          refine lv_goto (tgt := 211) hx hb dX11_done_207 rfl ?_
          have lt11 : (1 : Int32).toInt = 1 := by decide
          refine cbSi (n := 1) (rest := []) hx hb hml hown hts hE hP hD hS hA (sY_X11_truth_1 l dC dI cy y0 r 1 v f w g hIv hCf hRf ) k_1761 k_1762 k_114 k_1763 (by decide +kernel) ⟨Nat.le_of_ble_eq_true rfl, Nat.le_of_ble_eq_true rfl⟩ (rfl) hl.1 rfl (Nat.le_of_ble_eq_true rfl) dX11_done_211 (fun r12 u H locs hw hP hD hS => ?_)
          exact ret r12 () _ _ _ _ _ _ rfl trivial hP hD hS dX11_done_214 (Nat.le_refl _) (Nat.le_refl _)
    · skip
      have zc4 : ¬ (p0.toInt = 38) := by rw [fa_eq, show (38 : Int32).toInt = 38 from by decide] at c4; exact c4
      by_cases c13 : p0 = 39
      · skip
        refine lv_tableIn (off := 214) (tgt := 215) hx hb dX11_done_1 (by rw [c13]; decide) (by rw [c13]; decide) (by rw [c13]; decide) (by decide) ?_
        have zc13 : p0.toInt = 39 := by rw [fa_eq, show (39 : Int32).toInt = 39 from by decide] at c13; exact c13
        refine lv_iload_n hx hb dX11_done_215 rfl (lv_at hl 1 rfl) ?_
        refine lv_if_ne (tgt := 223) hx hb dX11_done_216 rfl (fun c14 => ?_) (fun c14 => ?_)
        · skip
          have zc14 : ¬ (p1.toInt = 0) := by rw [fa_eq, show (0 : Int32).toInt = 0 from by decide] at c14; exact c14
          refine lv_iconst (v := 1) hx hb dX11_done_223 rfl ?_
          refine lv_goto (tgt := 228) hx hb dX11_done_224 rfl ?_
          have lt15 : (1 : Int32).toInt = 1 := by decide
          refine cbSi (n := 1) (rest := []) hx hb hml hown hts hE hP hD hS hA (sY_X11_truth_1 l dC dI cy y0 r 1 v f w g hIv hCf hRf ) k_1761 k_1762 k_114 k_1763 (by decide +kernel) ⟨Nat.le_of_ble_eq_true rfl, Nat.le_of_ble_eq_true rfl⟩ (rfl) hl.1 rfl (Nat.le_of_ble_eq_true rfl) dX11_done_228 (fun r16 u H locs hw hP hD hS => ?_)
          exact ret r16 () _ _ _ _ _ _ rfl trivial hP hD hS dX11_done_231 (Nat.le_refl _) (Nat.le_refl _)
        · skip
          have zc14 : p1.toInt = 0 := by rw [fa_eq, show (0 : Int32).toInt = 0 from by decide] at c14; exact c14
          refine lv_iload_n hx hb dX11_done_219 rfl (lv_at hl 2 rfl) ?_
          refine lv_if_eq (tgt := 227) hx hb dX11_done_220 rfl (fun c17 => ?_) (fun c17 => ?_)
          · skip
            have zc17 : p2.toInt = 0 := by rw [fa_eq, show (0 : Int32).toInt = 0 from by decide] at c17; exact c17
            refine lv_iconst (v := 0) hx hb dX11_done_227 rfl ?_
            have lt18 : (0 : Int32).toInt = 0 := by decide
            refine cbSi (n := 1) (rest := []) hx hb hml hown hts hE hP hD hS hA (sY_X11_truth_1 l dC dI cy y0 r 0 v f w g hIv hCf hRf ) k_1761 k_1762 k_114 k_1763 (by decide +kernel) ⟨Nat.le_of_ble_eq_true rfl, Nat.le_of_ble_eq_true rfl⟩ (rfl) hl.1 rfl (Nat.le_of_ble_eq_true rfl) dX11_done_228 (fun r19 u H locs hw hP hD hS => ?_)
            exact ret r19 () _ _ _ _ _ _ rfl trivial hP hD hS dX11_done_231 (Nat.le_refl _) (Nat.le_refl _)
          · skip
            have zc17 : ¬ (p2.toInt = 0) := by rw [fa_eq, show (0 : Int32).toInt = 0 from by decide] at c17; exact c17
            refine lv_iconst (v := 1) hx hb dX11_done_223 rfl ?_
            refine lv_goto (tgt := 228) hx hb dX11_done_224 rfl ?_
            have lt20 : (1 : Int32).toInt = 1 := by decide
            refine cbSi (n := 1) (rest := []) hx hb hml hown hts hE hP hD hS hA (sY_X11_truth_1 l dC dI cy y0 r 1 v f w g hIv hCf hRf ) k_1761 k_1762 k_114 k_1763 (by decide +kernel) ⟨Nat.le_of_ble_eq_true rfl, Nat.le_of_ble_eq_true rfl⟩ (rfl) hl.1 rfl (Nat.le_of_ble_eq_true rfl) dX11_done_228 (fun r21 u H locs hw hP hD hS => ?_)
            exact ret r21 () _ _ _ _ _ _ rfl trivial hP hD hS dX11_done_231 (Nat.le_refl _) (Nat.le_refl _)
      · skip
        have zc13 : ¬ (p0.toInt = 39) := by rw [fa_eq, show (39 : Int32).toInt = 39 from by decide] at c13; exact c13
        by_cases c22 : p0 = 40
        · skip
          refine lv_tableIn (off := 214) (tgt := 215) hx hb dX11_done_1 (by rw [c22]; decide) (by rw [c22]; decide) (by rw [c22]; decide) (by decide) ?_
          have zc22 : p0.toInt = 40 := by rw [fa_eq, show (40 : Int32).toInt = 40 from by decide] at c22; exact c22
          refine lv_iload_n hx hb dX11_done_215 rfl (lv_at hl 1 rfl) ?_
          refine lv_if_ne (tgt := 223) hx hb dX11_done_216 rfl (fun c23 => ?_) (fun c23 => ?_)
          · skip
            have zc23 : ¬ (p1.toInt = 0) := by rw [fa_eq, show (0 : Int32).toInt = 0 from by decide] at c23; exact c23
            refine lv_iconst (v := 1) hx hb dX11_done_223 rfl ?_
            refine lv_goto (tgt := 228) hx hb dX11_done_224 rfl ?_
            have lt24 : (1 : Int32).toInt = 1 := by decide
            refine cbSi (n := 1) (rest := []) hx hb hml hown hts hE hP hD hS hA (sY_X11_truth_1 l dC dI cy y0 r 1 v f w g hIv hCf hRf ) k_1761 k_1762 k_114 k_1763 (by decide +kernel) ⟨Nat.le_of_ble_eq_true rfl, Nat.le_of_ble_eq_true rfl⟩ (rfl) hl.1 rfl (Nat.le_of_ble_eq_true rfl) dX11_done_228 (fun r25 u H locs hw hP hD hS => ?_)
            exact ret r25 () _ _ _ _ _ _ rfl trivial hP hD hS dX11_done_231 (Nat.le_refl _) (Nat.le_refl _)
          · skip
            have zc23 : p1.toInt = 0 := by rw [fa_eq, show (0 : Int32).toInt = 0 from by decide] at c23; exact c23
            refine lv_iload_n hx hb dX11_done_219 rfl (lv_at hl 2 rfl) ?_
            refine lv_if_eq (tgt := 227) hx hb dX11_done_220 rfl (fun c26 => ?_) (fun c26 => ?_)
            · skip
              have zc26 : p2.toInt = 0 := by rw [fa_eq, show (0 : Int32).toInt = 0 from by decide] at c26; exact c26
              refine lv_iconst (v := 0) hx hb dX11_done_227 rfl ?_
              have lt27 : (0 : Int32).toInt = 0 := by decide
              refine cbSi (n := 1) (rest := []) hx hb hml hown hts hE hP hD hS hA (sY_X11_truth_1 l dC dI cy y0 r 0 v f w g hIv hCf hRf ) k_1761 k_1762 k_114 k_1763 (by decide +kernel) ⟨Nat.le_of_ble_eq_true rfl, Nat.le_of_ble_eq_true rfl⟩ (rfl) hl.1 rfl (Nat.le_of_ble_eq_true rfl) dX11_done_228 (fun r28 u H locs hw hP hD hS => ?_)
              exact ret r28 () _ _ _ _ _ _ rfl trivial hP hD hS dX11_done_231 (Nat.le_refl _) (Nat.le_refl _)
            · skip
              have zc26 : ¬ (p2.toInt = 0) := by rw [fa_eq, show (0 : Int32).toInt = 0 from by decide] at c26; exact c26
              refine lv_iconst (v := 1) hx hb dX11_done_223 rfl ?_
              refine lv_goto (tgt := 228) hx hb dX11_done_224 rfl ?_
              have lt29 : (1 : Int32).toInt = 1 := by decide
              refine cbSi (n := 1) (rest := []) hx hb hml hown hts hE hP hD hS hA (sY_X11_truth_1 l dC dI cy y0 r 1 v f w g hIv hCf hRf ) k_1761 k_1762 k_114 k_1763 (by decide +kernel) ⟨Nat.le_of_ble_eq_true rfl, Nat.le_of_ble_eq_true rfl⟩ (rfl) hl.1 rfl (Nat.le_of_ble_eq_true rfl) dX11_done_228 (fun r30 u H locs hw hP hD hS => ?_)
              exact ret r30 () _ _ _ _ _ _ rfl trivial hP hD hS dX11_done_231 (Nat.le_refl _) (Nat.le_refl _)
        · skip
          have zc22 : ¬ (p0.toInt = 40) := by rw [fa_eq, show (40 : Int32).toInt = 40 from by decide] at c22; exact c22
          by_cases c31 : p0 = 41
          · skip
            refine lv_tableIn (off := 214) (tgt := 215) hx hb dX11_done_1 (by rw [c31]; decide) (by rw [c31]; decide) (by rw [c31]; decide) (by decide) ?_
            have zc31 : p0.toInt = 41 := by rw [fa_eq, show (41 : Int32).toInt = 41 from by decide] at c31; exact c31
            refine lv_iload_n hx hb dX11_done_215 rfl (lv_at hl 1 rfl) ?_
            refine lv_if_ne (tgt := 223) hx hb dX11_done_216 rfl (fun c32 => ?_) (fun c32 => ?_)
            · skip
              have zc32 : ¬ (p1.toInt = 0) := by rw [fa_eq, show (0 : Int32).toInt = 0 from by decide] at c32; exact c32
              refine lv_iconst (v := 1) hx hb dX11_done_223 rfl ?_
              refine lv_goto (tgt := 228) hx hb dX11_done_224 rfl ?_
              have lt33 : (1 : Int32).toInt = 1 := by decide
              refine cbSi (n := 1) (rest := []) hx hb hml hown hts hE hP hD hS hA (sY_X11_truth_1 l dC dI cy y0 r 1 v f w g hIv hCf hRf ) k_1761 k_1762 k_114 k_1763 (by decide +kernel) ⟨Nat.le_of_ble_eq_true rfl, Nat.le_of_ble_eq_true rfl⟩ (rfl) hl.1 rfl (Nat.le_of_ble_eq_true rfl) dX11_done_228 (fun r34 u H locs hw hP hD hS => ?_)
              exact ret r34 () _ _ _ _ _ _ rfl trivial hP hD hS dX11_done_231 (Nat.le_refl _) (Nat.le_refl _)
            · skip
              have zc32 : p1.toInt = 0 := by rw [fa_eq, show (0 : Int32).toInt = 0 from by decide] at c32; exact c32
              refine lv_iload_n hx hb dX11_done_219 rfl (lv_at hl 2 rfl) ?_
              refine lv_if_eq (tgt := 227) hx hb dX11_done_220 rfl (fun c35 => ?_) (fun c35 => ?_)
              · skip
                have zc35 : p2.toInt = 0 := by rw [fa_eq, show (0 : Int32).toInt = 0 from by decide] at c35; exact c35
                refine lv_iconst (v := 0) hx hb dX11_done_227 rfl ?_
                have lt36 : (0 : Int32).toInt = 0 := by decide
                refine cbSi (n := 1) (rest := []) hx hb hml hown hts hE hP hD hS hA (sY_X11_truth_1 l dC dI cy y0 r 0 v f w g hIv hCf hRf ) k_1761 k_1762 k_114 k_1763 (by decide +kernel) ⟨Nat.le_of_ble_eq_true rfl, Nat.le_of_ble_eq_true rfl⟩ (rfl) hl.1 rfl (Nat.le_of_ble_eq_true rfl) dX11_done_228 (fun r37 u H locs hw hP hD hS => ?_)
                exact ret r37 () _ _ _ _ _ _ rfl trivial hP hD hS dX11_done_231 (Nat.le_refl _) (Nat.le_refl _)
              · skip
                have zc35 : ¬ (p2.toInt = 0) := by rw [fa_eq, show (0 : Int32).toInt = 0 from by decide] at c35; exact c35
                refine lv_iconst (v := 1) hx hb dX11_done_223 rfl ?_
                refine lv_goto (tgt := 228) hx hb dX11_done_224 rfl ?_
                have lt38 : (1 : Int32).toInt = 1 := by decide
                refine cbSi (n := 1) (rest := []) hx hb hml hown hts hE hP hD hS hA (sY_X11_truth_1 l dC dI cy y0 r 1 v f w g hIv hCf hRf ) k_1761 k_1762 k_114 k_1763 (by decide +kernel) ⟨Nat.le_of_ble_eq_true rfl, Nat.le_of_ble_eq_true rfl⟩ (rfl) hl.1 rfl (Nat.le_of_ble_eq_true rfl) dX11_done_228 (fun r39 u H locs hw hP hD hS => ?_)
                exact ret r39 () _ _ _ _ _ _ rfl trivial hP hD hS dX11_done_231 (Nat.le_refl _) (Nat.le_refl _)
          · skip
            have zc31 : ¬ (p0.toInt = 41) := by rw [fa_eq, show (41 : Int32).toInt = 41 from by decide] at c31; exact c31
            by_cases c40 : p0 = 42
            · skip
              refine lv_tableIn (off := 127) (tgt := 128) hx hb dX11_done_1 (by rw [c40]; decide) (by rw [c40]; decide) (by rw [c40]; decide) (by decide) ?_
              have zc40 : p0.toInt = 42 := by rw [fa_eq, show (42 : Int32).toInt = 42 from by decide] at c40; exact c40
              refine lv_iload_n hx hb dX11_done_128 rfl (lv_at hl 1 rfl) ?_
              refine lv_iload_n hx hb dX11_done_129 rfl (lv_at hl 2 rfl) ?_
              refine lv_imul hx hb dX11_done_130 ?_
              refine lv_topi (fun t41 et41 => ?_)
              exact ret t41 () _ _ _ _ _ _ rfl trivial hP hD hS dX11_done_131 (Nat.le_refl _) (Nat.le_refl _)
            · skip
              have zc40 : ¬ (p0.toInt = 42) := by rw [fa_eq, show (42 : Int32).toInt = 42 from by decide] at c40; exact c40
              by_cases c42 : p0 = 43
              · skip
                refine lv_tableIn (off := 119) (tgt := 120) hx hb dX11_done_1 (by rw [c42]; decide) (by rw [c42]; decide) (by rw [c42]; decide) (by decide) ?_
                have zc42 : p0.toInt = 43 := by rw [fa_eq, show (43 : Int32).toInt = 43 from by decide] at c42; exact c42
                refine lv_iload_n hx hb dX11_done_120 rfl (lv_at hl 1 rfl) ?_
                refine lv_iload_n hx hb dX11_done_121 rfl (lv_at hl 2 rfl) ?_
                refine lv_iadd hx hb dX11_done_122 ?_
                refine lv_topi (fun t43 et43 => ?_)
                exact ret t43 () _ _ _ _ _ _ rfl trivial hP hD hS dX11_done_123 (Nat.le_refl _) (Nat.le_refl _)
              · skip
                have zc42 : ¬ (p0.toInt = 43) := by rw [fa_eq, show (43 : Int32).toInt = 43 from by decide] at c42; exact c42
                by_cases c44 : p0 = 44
                · skip
                  refine lv_tableIn (off := 214) (tgt := 215) hx hb dX11_done_1 (by rw [c44]; decide) (by rw [c44]; decide) (by rw [c44]; decide) (by decide) ?_
                  have zc44 : p0.toInt = 44 := by rw [fa_eq, show (44 : Int32).toInt = 44 from by decide] at c44; exact c44
                  refine lv_iload_n hx hb dX11_done_215 rfl (lv_at hl 1 rfl) ?_
                  refine lv_if_ne (tgt := 223) hx hb dX11_done_216 rfl (fun c45 => ?_) (fun c45 => ?_)
                  · skip
                    have zc45 : ¬ (p1.toInt = 0) := by rw [fa_eq, show (0 : Int32).toInt = 0 from by decide] at c45; exact c45
                    refine lv_iconst (v := 1) hx hb dX11_done_223 rfl ?_
                    refine lv_goto (tgt := 228) hx hb dX11_done_224 rfl ?_
                    have lt46 : (1 : Int32).toInt = 1 := by decide
                    refine cbSi (n := 1) (rest := []) hx hb hml hown hts hE hP hD hS hA (sY_X11_truth_1 l dC dI cy y0 r 1 v f w g hIv hCf hRf ) k_1761 k_1762 k_114 k_1763 (by decide +kernel) ⟨Nat.le_of_ble_eq_true rfl, Nat.le_of_ble_eq_true rfl⟩ (rfl) hl.1 rfl (Nat.le_of_ble_eq_true rfl) dX11_done_228 (fun r47 u H locs hw hP hD hS => ?_)
                    exact ret r47 () _ _ _ _ _ _ rfl trivial hP hD hS dX11_done_231 (Nat.le_refl _) (Nat.le_refl _)
                  · skip
                    have zc45 : p1.toInt = 0 := by rw [fa_eq, show (0 : Int32).toInt = 0 from by decide] at c45; exact c45
                    refine lv_iload_n hx hb dX11_done_219 rfl (lv_at hl 2 rfl) ?_
                    refine lv_if_eq (tgt := 227) hx hb dX11_done_220 rfl (fun c48 => ?_) (fun c48 => ?_)
                    · skip
                      have zc48 : p2.toInt = 0 := by rw [fa_eq, show (0 : Int32).toInt = 0 from by decide] at c48; exact c48
                      refine lv_iconst (v := 0) hx hb dX11_done_227 rfl ?_
                      have lt49 : (0 : Int32).toInt = 0 := by decide
                      refine cbSi (n := 1) (rest := []) hx hb hml hown hts hE hP hD hS hA (sY_X11_truth_1 l dC dI cy y0 r 0 v f w g hIv hCf hRf ) k_1761 k_1762 k_114 k_1763 (by decide +kernel) ⟨Nat.le_of_ble_eq_true rfl, Nat.le_of_ble_eq_true rfl⟩ (rfl) hl.1 rfl (Nat.le_of_ble_eq_true rfl) dX11_done_228 (fun r50 u H locs hw hP hD hS => ?_)
                      exact ret r50 () _ _ _ _ _ _ rfl trivial hP hD hS dX11_done_231 (Nat.le_refl _) (Nat.le_refl _)
                    · skip
                      have zc48 : ¬ (p2.toInt = 0) := by rw [fa_eq, show (0 : Int32).toInt = 0 from by decide] at c48; exact c48
                      refine lv_iconst (v := 1) hx hb dX11_done_223 rfl ?_
                      refine lv_goto (tgt := 228) hx hb dX11_done_224 rfl ?_
                      have lt51 : (1 : Int32).toInt = 1 := by decide
                      refine cbSi (n := 1) (rest := []) hx hb hml hown hts hE hP hD hS hA (sY_X11_truth_1 l dC dI cy y0 r 1 v f w g hIv hCf hRf ) k_1761 k_1762 k_114 k_1763 (by decide +kernel) ⟨Nat.le_of_ble_eq_true rfl, Nat.le_of_ble_eq_true rfl⟩ (rfl) hl.1 rfl (Nat.le_of_ble_eq_true rfl) dX11_done_228 (fun r52 u H locs hw hP hD hS => ?_)
                      exact ret r52 () _ _ _ _ _ _ rfl trivial hP hD hS dX11_done_231 (Nat.le_refl _) (Nat.le_refl _)
                · skip
                  have zc44 : ¬ (p0.toInt = 44) := by rw [fa_eq, show (44 : Int32).toInt = 44 from by decide] at c44; exact c44
                  by_cases c53 : p0 = 45
                  · skip
                    refine lv_tableIn (off := 123) (tgt := 124) hx hb dX11_done_1 (by rw [c53]; decide) (by rw [c53]; decide) (by rw [c53]; decide) (by decide) ?_
                    have zc53 : p0.toInt = 45 := by rw [fa_eq, show (45 : Int32).toInt = 45 from by decide] at c53; exact c53
                    refine lv_iload_n hx hb dX11_done_124 rfl (lv_at hl 1 rfl) ?_
                    refine lv_iload_n hx hb dX11_done_125 rfl (lv_at hl 2 rfl) ?_
                    refine lv_isub hx hb dX11_done_126 ?_
                    refine lv_topi (fun t54 et54 => ?_)
                    exact ret t54 () _ _ _ _ _ _ rfl trivial hP hD hS dX11_done_127 (Nat.le_refl _) (Nat.le_refl _)
                  · skip
                    have zc53 : ¬ (p0.toInt = 45) := by rw [fa_eq, show (45 : Int32).toInt = 45 from by decide] at c53; exact c53
                    by_cases c55 : p0 = 46
                    · skip
                      refine lv_tableIn (off := 214) (tgt := 215) hx hb dX11_done_1 (by rw [c55]; decide) (by rw [c55]; decide) (by rw [c55]; decide) (by decide) ?_
                      have zc55 : p0.toInt = 46 := by rw [fa_eq, show (46 : Int32).toInt = 46 from by decide] at c55; exact c55
                      refine lv_iload_n hx hb dX11_done_215 rfl (lv_at hl 1 rfl) ?_
                      refine lv_if_ne (tgt := 223) hx hb dX11_done_216 rfl (fun c56 => ?_) (fun c56 => ?_)
                      · skip
                        have zc56 : ¬ (p1.toInt = 0) := by rw [fa_eq, show (0 : Int32).toInt = 0 from by decide] at c56; exact c56
                        refine lv_iconst (v := 1) hx hb dX11_done_223 rfl ?_
                        refine lv_goto (tgt := 228) hx hb dX11_done_224 rfl ?_
                        have lt57 : (1 : Int32).toInt = 1 := by decide
                        refine cbSi (n := 1) (rest := []) hx hb hml hown hts hE hP hD hS hA (sY_X11_truth_1 l dC dI cy y0 r 1 v f w g hIv hCf hRf ) k_1761 k_1762 k_114 k_1763 (by decide +kernel) ⟨Nat.le_of_ble_eq_true rfl, Nat.le_of_ble_eq_true rfl⟩ (rfl) hl.1 rfl (Nat.le_of_ble_eq_true rfl) dX11_done_228 (fun r58 u H locs hw hP hD hS => ?_)
                        exact ret r58 () _ _ _ _ _ _ rfl trivial hP hD hS dX11_done_231 (Nat.le_refl _) (Nat.le_refl _)
                      · skip
                        have zc56 : p1.toInt = 0 := by rw [fa_eq, show (0 : Int32).toInt = 0 from by decide] at c56; exact c56
                        refine lv_iload_n hx hb dX11_done_219 rfl (lv_at hl 2 rfl) ?_
                        refine lv_if_eq (tgt := 227) hx hb dX11_done_220 rfl (fun c59 => ?_) (fun c59 => ?_)
                        · skip
                          have zc59 : p2.toInt = 0 := by rw [fa_eq, show (0 : Int32).toInt = 0 from by decide] at c59; exact c59
                          refine lv_iconst (v := 0) hx hb dX11_done_227 rfl ?_
                          have lt60 : (0 : Int32).toInt = 0 := by decide
                          refine cbSi (n := 1) (rest := []) hx hb hml hown hts hE hP hD hS hA (sY_X11_truth_1 l dC dI cy y0 r 0 v f w g hIv hCf hRf ) k_1761 k_1762 k_114 k_1763 (by decide +kernel) ⟨Nat.le_of_ble_eq_true rfl, Nat.le_of_ble_eq_true rfl⟩ (rfl) hl.1 rfl (Nat.le_of_ble_eq_true rfl) dX11_done_228 (fun r61 u H locs hw hP hD hS => ?_)
                          exact ret r61 () _ _ _ _ _ _ rfl trivial hP hD hS dX11_done_231 (Nat.le_refl _) (Nat.le_refl _)
                        · skip
                          have zc59 : ¬ (p2.toInt = 0) := by rw [fa_eq, show (0 : Int32).toInt = 0 from by decide] at c59; exact c59
                          refine lv_iconst (v := 1) hx hb dX11_done_223 rfl ?_
                          refine lv_goto (tgt := 228) hx hb dX11_done_224 rfl ?_
                          have lt62 : (1 : Int32).toInt = 1 := by decide
                          refine cbSi (n := 1) (rest := []) hx hb hml hown hts hE hP hD hS hA (sY_X11_truth_1 l dC dI cy y0 r 1 v f w g hIv hCf hRf ) k_1761 k_1762 k_114 k_1763 (by decide +kernel) ⟨Nat.le_of_ble_eq_true rfl, Nat.le_of_ble_eq_true rfl⟩ (rfl) hl.1 rfl (Nat.le_of_ble_eq_true rfl) dX11_done_228 (fun r63 u H locs hw hP hD hS => ?_)
                          exact ret r63 () _ _ _ _ _ _ rfl trivial hP hD hS dX11_done_231 (Nat.le_refl _) (Nat.le_refl _)
                    · skip
                      have zc55 : ¬ (p0.toInt = 46) := by rw [fa_eq, show (46 : Int32).toInt = 46 from by decide] at c55; exact c55
                      by_cases c64 : p0 = 47
                      · skip
                        refine lv_tableIn (off := 131) (tgt := 132) hx hb dX11_done_1 (by rw [c64]; decide) (by rw [c64]; decide) (by rw [c64]; decide) (by decide) ?_
                        have zc64 : p0.toInt = 47 := by rw [fa_eq, show (47 : Int32).toInt = 47 from by decide] at c64; exact c64
                        refine lv_iload_n hx hb dX11_done_132 rfl (lv_at hl 2 rfl) ?_
                        refine lv_if_ne (tgt := 140) hx hb dX11_done_133 rfl (fun c65 => ?_) (fun c65 => ?_)
                        · skip
                          have zc65 : ¬ (p2.toInt = 0) := by rw [fa_eq, show (0 : Int32).toInt = 0 from by decide] at c65; exact c65
                          refine lv_iload_n hx hb dX11_done_140 rfl (lv_at hl 1 rfl) ?_
                          refine lv_iload_n hx hb dX11_done_141 rfl (lv_at hl 2 rfl) ?_
                          refine lv_idiv hx hb dX11_done_142 (ne0 (by omega)) ?_
                          refine lv_topi (fun t66 et66 => ?_)
                          exact ret t66 () _ _ _ _ _ _ rfl trivial hP hD hS dX11_done_143 (Nat.le_refl _) (Nat.le_refl _)
                        · skip
                          have zc65 : p2.toInt = 0 := by rw [fa_eq, show (0 : Int32).toInt = 0 from by decide] at c65; exact c65
                          refine lv_iconst (v := 0) hx hb dX11_done_136 rfl ?_
                          refine lv_goto (tgt := 143) hx hb dX11_done_137 rfl ?_
                          exact ret 0 () _ _ _ _ _ _ rfl trivial hP hD hS dX11_done_143 (Nat.le_refl _) (Nat.le_refl _)
                      · skip
                        have zc64 : ¬ (p0.toInt = 47) := by rw [fa_eq, show (47 : Int32).toInt = 47 from by decide] at c64; exact c64
                        by_cases c67 : p0 = 48
                        · skip
                          refine lv_tableIn (off := 214) (tgt := 215) hx hb dX11_done_1 (by rw [c67]; decide) (by rw [c67]; decide) (by rw [c67]; decide) (by decide) ?_
                          have zc67 : p0.toInt = 48 := by rw [fa_eq, show (48 : Int32).toInt = 48 from by decide] at c67; exact c67
                          refine lv_iload_n hx hb dX11_done_215 rfl (lv_at hl 1 rfl) ?_
                          refine lv_if_ne (tgt := 223) hx hb dX11_done_216 rfl (fun c68 => ?_) (fun c68 => ?_)
                          · skip
                            have zc68 : ¬ (p1.toInt = 0) := by rw [fa_eq, show (0 : Int32).toInt = 0 from by decide] at c68; exact c68
                            refine lv_iconst (v := 1) hx hb dX11_done_223 rfl ?_
                            refine lv_goto (tgt := 228) hx hb dX11_done_224 rfl ?_
                            have lt69 : (1 : Int32).toInt = 1 := by decide
                            refine cbSi (n := 1) (rest := []) hx hb hml hown hts hE hP hD hS hA (sY_X11_truth_1 l dC dI cy y0 r 1 v f w g hIv hCf hRf ) k_1761 k_1762 k_114 k_1763 (by decide +kernel) ⟨Nat.le_of_ble_eq_true rfl, Nat.le_of_ble_eq_true rfl⟩ (rfl) hl.1 rfl (Nat.le_of_ble_eq_true rfl) dX11_done_228 (fun r70 u H locs hw hP hD hS => ?_)
                            exact ret r70 () _ _ _ _ _ _ rfl trivial hP hD hS dX11_done_231 (Nat.le_refl _) (Nat.le_refl _)
                          · skip
                            have zc68 : p1.toInt = 0 := by rw [fa_eq, show (0 : Int32).toInt = 0 from by decide] at c68; exact c68
                            refine lv_iload_n hx hb dX11_done_219 rfl (lv_at hl 2 rfl) ?_
                            refine lv_if_eq (tgt := 227) hx hb dX11_done_220 rfl (fun c71 => ?_) (fun c71 => ?_)
                            · skip
                              have zc71 : p2.toInt = 0 := by rw [fa_eq, show (0 : Int32).toInt = 0 from by decide] at c71; exact c71
                              refine lv_iconst (v := 0) hx hb dX11_done_227 rfl ?_
                              have lt72 : (0 : Int32).toInt = 0 := by decide
                              refine cbSi (n := 1) (rest := []) hx hb hml hown hts hE hP hD hS hA (sY_X11_truth_1 l dC dI cy y0 r 0 v f w g hIv hCf hRf ) k_1761 k_1762 k_114 k_1763 (by decide +kernel) ⟨Nat.le_of_ble_eq_true rfl, Nat.le_of_ble_eq_true rfl⟩ (rfl) hl.1 rfl (Nat.le_of_ble_eq_true rfl) dX11_done_228 (fun r73 u H locs hw hP hD hS => ?_)
                              exact ret r73 () _ _ _ _ _ _ rfl trivial hP hD hS dX11_done_231 (Nat.le_refl _) (Nat.le_refl _)
                            · skip
                              have zc71 : ¬ (p2.toInt = 0) := by rw [fa_eq, show (0 : Int32).toInt = 0 from by decide] at c71; exact c71
                              refine lv_iconst (v := 1) hx hb dX11_done_223 rfl ?_
                              refine lv_goto (tgt := 228) hx hb dX11_done_224 rfl ?_
                              have lt74 : (1 : Int32).toInt = 1 := by decide
                              refine cbSi (n := 1) (rest := []) hx hb hml hown hts hE hP hD hS hA (sY_X11_truth_1 l dC dI cy y0 r 1 v f w g hIv hCf hRf ) k_1761 k_1762 k_114 k_1763 (by decide +kernel) ⟨Nat.le_of_ble_eq_true rfl, Nat.le_of_ble_eq_true rfl⟩ (rfl) hl.1 rfl (Nat.le_of_ble_eq_true rfl) dX11_done_228 (fun r75 u H locs hw hP hD hS => ?_)
                              exact ret r75 () _ _ _ _ _ _ rfl trivial hP hD hS dX11_done_231 (Nat.le_refl _) (Nat.le_refl _)
                        · skip
                          have zc67 : ¬ (p0.toInt = 48) := by rw [fa_eq, show (48 : Int32).toInt = 48 from by decide] at c67; exact c67
                          by_cases c76 : p0 = 49
                          · skip
                            refine lv_tableIn (off := 214) (tgt := 215) hx hb dX11_done_1 (by rw [c76]; decide) (by rw [c76]; decide) (by rw [c76]; decide) (by decide) ?_
                            have zc76 : p0.toInt = 49 := by rw [fa_eq, show (49 : Int32).toInt = 49 from by decide] at c76; exact c76
                            refine lv_iload_n hx hb dX11_done_215 rfl (lv_at hl 1 rfl) ?_
                            refine lv_if_ne (tgt := 223) hx hb dX11_done_216 rfl (fun c77 => ?_) (fun c77 => ?_)
                            · skip
                              have zc77 : ¬ (p1.toInt = 0) := by rw [fa_eq, show (0 : Int32).toInt = 0 from by decide] at c77; exact c77
                              refine lv_iconst (v := 1) hx hb dX11_done_223 rfl ?_
                              refine lv_goto (tgt := 228) hx hb dX11_done_224 rfl ?_
                              have lt78 : (1 : Int32).toInt = 1 := by decide
                              refine cbSi (n := 1) (rest := []) hx hb hml hown hts hE hP hD hS hA (sY_X11_truth_1 l dC dI cy y0 r 1 v f w g hIv hCf hRf ) k_1761 k_1762 k_114 k_1763 (by decide +kernel) ⟨Nat.le_of_ble_eq_true rfl, Nat.le_of_ble_eq_true rfl⟩ (rfl) hl.1 rfl (Nat.le_of_ble_eq_true rfl) dX11_done_228 (fun r79 u H locs hw hP hD hS => ?_)
                              exact ret r79 () _ _ _ _ _ _ rfl trivial hP hD hS dX11_done_231 (Nat.le_refl _) (Nat.le_refl _)
                            · skip
                              have zc77 : p1.toInt = 0 := by rw [fa_eq, show (0 : Int32).toInt = 0 from by decide] at c77; exact c77
                              refine lv_iload_n hx hb dX11_done_219 rfl (lv_at hl 2 rfl) ?_
                              refine lv_if_eq (tgt := 227) hx hb dX11_done_220 rfl (fun c80 => ?_) (fun c80 => ?_)
                              · skip
                                have zc80 : p2.toInt = 0 := by rw [fa_eq, show (0 : Int32).toInt = 0 from by decide] at c80; exact c80
                                refine lv_iconst (v := 0) hx hb dX11_done_227 rfl ?_
                                have lt81 : (0 : Int32).toInt = 0 := by decide
                                refine cbSi (n := 1) (rest := []) hx hb hml hown hts hE hP hD hS hA (sY_X11_truth_1 l dC dI cy y0 r 0 v f w g hIv hCf hRf ) k_1761 k_1762 k_114 k_1763 (by decide +kernel) ⟨Nat.le_of_ble_eq_true rfl, Nat.le_of_ble_eq_true rfl⟩ (rfl) hl.1 rfl (Nat.le_of_ble_eq_true rfl) dX11_done_228 (fun r82 u H locs hw hP hD hS => ?_)
                                exact ret r82 () _ _ _ _ _ _ rfl trivial hP hD hS dX11_done_231 (Nat.le_refl _) (Nat.le_refl _)
                              · skip
                                have zc80 : ¬ (p2.toInt = 0) := by rw [fa_eq, show (0 : Int32).toInt = 0 from by decide] at c80; exact c80
                                refine lv_iconst (v := 1) hx hb dX11_done_223 rfl ?_
                                refine lv_goto (tgt := 228) hx hb dX11_done_224 rfl ?_
                                have lt83 : (1 : Int32).toInt = 1 := by decide
                                refine cbSi (n := 1) (rest := []) hx hb hml hown hts hE hP hD hS hA (sY_X11_truth_1 l dC dI cy y0 r 1 v f w g hIv hCf hRf ) k_1761 k_1762 k_114 k_1763 (by decide +kernel) ⟨Nat.le_of_ble_eq_true rfl, Nat.le_of_ble_eq_true rfl⟩ (rfl) hl.1 rfl (Nat.le_of_ble_eq_true rfl) dX11_done_228 (fun r84 u H locs hw hP hD hS => ?_)
                                exact ret r84 () _ _ _ _ _ _ rfl trivial hP hD hS dX11_done_231 (Nat.le_refl _) (Nat.le_refl _)
                          · skip
                            have zc76 : ¬ (p0.toInt = 49) := by rw [fa_eq, show (49 : Int32).toInt = 49 from by decide] at c76; exact c76
                            by_cases c85 : p0 = 50
                            · skip
                              refine lv_tableIn (off := 214) (tgt := 215) hx hb dX11_done_1 (by rw [c85]; decide) (by rw [c85]; decide) (by rw [c85]; decide) (by decide) ?_
                              have zc85 : p0.toInt = 50 := by rw [fa_eq, show (50 : Int32).toInt = 50 from by decide] at c85; exact c85
                              refine lv_iload_n hx hb dX11_done_215 rfl (lv_at hl 1 rfl) ?_
                              refine lv_if_ne (tgt := 223) hx hb dX11_done_216 rfl (fun c86 => ?_) (fun c86 => ?_)
                              · skip
                                have zc86 : ¬ (p1.toInt = 0) := by rw [fa_eq, show (0 : Int32).toInt = 0 from by decide] at c86; exact c86
                                refine lv_iconst (v := 1) hx hb dX11_done_223 rfl ?_
                                refine lv_goto (tgt := 228) hx hb dX11_done_224 rfl ?_
                                have lt87 : (1 : Int32).toInt = 1 := by decide
                                refine cbSi (n := 1) (rest := []) hx hb hml hown hts hE hP hD hS hA (sY_X11_truth_1 l dC dI cy y0 r 1 v f w g hIv hCf hRf ) k_1761 k_1762 k_114 k_1763 (by decide +kernel) ⟨Nat.le_of_ble_eq_true rfl, Nat.le_of_ble_eq_true rfl⟩ (rfl) hl.1 rfl (Nat.le_of_ble_eq_true rfl) dX11_done_228 (fun r88 u H locs hw hP hD hS => ?_)
                                exact ret r88 () _ _ _ _ _ _ rfl trivial hP hD hS dX11_done_231 (Nat.le_refl _) (Nat.le_refl _)
                              · skip
                                have zc86 : p1.toInt = 0 := by rw [fa_eq, show (0 : Int32).toInt = 0 from by decide] at c86; exact c86
                                refine lv_iload_n hx hb dX11_done_219 rfl (lv_at hl 2 rfl) ?_
                                refine lv_if_eq (tgt := 227) hx hb dX11_done_220 rfl (fun c89 => ?_) (fun c89 => ?_)
                                · skip
                                  have zc89 : p2.toInt = 0 := by rw [fa_eq, show (0 : Int32).toInt = 0 from by decide] at c89; exact c89
                                  refine lv_iconst (v := 0) hx hb dX11_done_227 rfl ?_
                                  have lt90 : (0 : Int32).toInt = 0 := by decide
                                  refine cbSi (n := 1) (rest := []) hx hb hml hown hts hE hP hD hS hA (sY_X11_truth_1 l dC dI cy y0 r 0 v f w g hIv hCf hRf ) k_1761 k_1762 k_114 k_1763 (by decide +kernel) ⟨Nat.le_of_ble_eq_true rfl, Nat.le_of_ble_eq_true rfl⟩ (rfl) hl.1 rfl (Nat.le_of_ble_eq_true rfl) dX11_done_228 (fun r91 u H locs hw hP hD hS => ?_)
                                  exact ret r91 () _ _ _ _ _ _ rfl trivial hP hD hS dX11_done_231 (Nat.le_refl _) (Nat.le_refl _)
                                · skip
                                  have zc89 : ¬ (p2.toInt = 0) := by rw [fa_eq, show (0 : Int32).toInt = 0 from by decide] at c89; exact c89
                                  refine lv_iconst (v := 1) hx hb dX11_done_223 rfl ?_
                                  refine lv_goto (tgt := 228) hx hb dX11_done_224 rfl ?_
                                  have lt92 : (1 : Int32).toInt = 1 := by decide
                                  refine cbSi (n := 1) (rest := []) hx hb hml hown hts hE hP hD hS hA (sY_X11_truth_1 l dC dI cy y0 r 1 v f w g hIv hCf hRf ) k_1761 k_1762 k_114 k_1763 (by decide +kernel) ⟨Nat.le_of_ble_eq_true rfl, Nat.le_of_ble_eq_true rfl⟩ (rfl) hl.1 rfl (Nat.le_of_ble_eq_true rfl) dX11_done_228 (fun r93 u H locs hw hP hD hS => ?_)
                                  exact ret r93 () _ _ _ _ _ _ rfl trivial hP hD hS dX11_done_231 (Nat.le_refl _) (Nat.le_refl _)
                            · skip
                              have zc85 : ¬ (p0.toInt = 50) := by rw [fa_eq, show (50 : Int32).toInt = 50 from by decide] at c85; exact c85
                              by_cases c94 : p0 = 51
                              · skip
                                refine lv_tableIn (off := 214) (tgt := 215) hx hb dX11_done_1 (by rw [c94]; decide) (by rw [c94]; decide) (by rw [c94]; decide) (by decide) ?_
                                have zc94 : p0.toInt = 51 := by rw [fa_eq, show (51 : Int32).toInt = 51 from by decide] at c94; exact c94
                                refine lv_iload_n hx hb dX11_done_215 rfl (lv_at hl 1 rfl) ?_
                                refine lv_if_ne (tgt := 223) hx hb dX11_done_216 rfl (fun c95 => ?_) (fun c95 => ?_)
                                · skip
                                  have zc95 : ¬ (p1.toInt = 0) := by rw [fa_eq, show (0 : Int32).toInt = 0 from by decide] at c95; exact c95
                                  refine lv_iconst (v := 1) hx hb dX11_done_223 rfl ?_
                                  refine lv_goto (tgt := 228) hx hb dX11_done_224 rfl ?_
                                  have lt96 : (1 : Int32).toInt = 1 := by decide
                                  refine cbSi (n := 1) (rest := []) hx hb hml hown hts hE hP hD hS hA (sY_X11_truth_1 l dC dI cy y0 r 1 v f w g hIv hCf hRf ) k_1761 k_1762 k_114 k_1763 (by decide +kernel) ⟨Nat.le_of_ble_eq_true rfl, Nat.le_of_ble_eq_true rfl⟩ (rfl) hl.1 rfl (Nat.le_of_ble_eq_true rfl) dX11_done_228 (fun r97 u H locs hw hP hD hS => ?_)
                                  exact ret r97 () _ _ _ _ _ _ rfl trivial hP hD hS dX11_done_231 (Nat.le_refl _) (Nat.le_refl _)
                                · skip
                                  have zc95 : p1.toInt = 0 := by rw [fa_eq, show (0 : Int32).toInt = 0 from by decide] at c95; exact c95
                                  refine lv_iload_n hx hb dX11_done_219 rfl (lv_at hl 2 rfl) ?_
                                  refine lv_if_eq (tgt := 227) hx hb dX11_done_220 rfl (fun c98 => ?_) (fun c98 => ?_)
                                  · skip
                                    have zc98 : p2.toInt = 0 := by rw [fa_eq, show (0 : Int32).toInt = 0 from by decide] at c98; exact c98
                                    refine lv_iconst (v := 0) hx hb dX11_done_227 rfl ?_
                                    have lt99 : (0 : Int32).toInt = 0 := by decide
                                    refine cbSi (n := 1) (rest := []) hx hb hml hown hts hE hP hD hS hA (sY_X11_truth_1 l dC dI cy y0 r 0 v f w g hIv hCf hRf ) k_1761 k_1762 k_114 k_1763 (by decide +kernel) ⟨Nat.le_of_ble_eq_true rfl, Nat.le_of_ble_eq_true rfl⟩ (rfl) hl.1 rfl (Nat.le_of_ble_eq_true rfl) dX11_done_228 (fun r100 u H locs hw hP hD hS => ?_)
                                    exact ret r100 () _ _ _ _ _ _ rfl trivial hP hD hS dX11_done_231 (Nat.le_refl _) (Nat.le_refl _)
                                  · skip
                                    have zc98 : ¬ (p2.toInt = 0) := by rw [fa_eq, show (0 : Int32).toInt = 0 from by decide] at c98; exact c98
                                    refine lv_iconst (v := 1) hx hb dX11_done_223 rfl ?_
                                    refine lv_goto (tgt := 228) hx hb dX11_done_224 rfl ?_
                                    have lt101 : (1 : Int32).toInt = 1 := by decide
                                    refine cbSi (n := 1) (rest := []) hx hb hml hown hts hE hP hD hS hA (sY_X11_truth_1 l dC dI cy y0 r 1 v f w g hIv hCf hRf ) k_1761 k_1762 k_114 k_1763 (by decide +kernel) ⟨Nat.le_of_ble_eq_true rfl, Nat.le_of_ble_eq_true rfl⟩ (rfl) hl.1 rfl (Nat.le_of_ble_eq_true rfl) dX11_done_228 (fun r102 u H locs hw hP hD hS => ?_)
                                    exact ret r102 () _ _ _ _ _ _ rfl trivial hP hD hS dX11_done_231 (Nat.le_refl _) (Nat.le_refl _)
                              · skip
                                have zc94 : ¬ (p0.toInt = 51) := by rw [fa_eq, show (51 : Int32).toInt = 51 from by decide] at c94; exact c94
                                by_cases c103 : p0 = 52
                                · skip
                                  refine lv_tableIn (off := 214) (tgt := 215) hx hb dX11_done_1 (by rw [c103]; decide) (by rw [c103]; decide) (by rw [c103]; decide) (by decide) ?_
                                  have zc103 : p0.toInt = 52 := by rw [fa_eq, show (52 : Int32).toInt = 52 from by decide] at c103; exact c103
                                  refine lv_iload_n hx hb dX11_done_215 rfl (lv_at hl 1 rfl) ?_
                                  refine lv_if_ne (tgt := 223) hx hb dX11_done_216 rfl (fun c104 => ?_) (fun c104 => ?_)
                                  · skip
                                    have zc104 : ¬ (p1.toInt = 0) := by rw [fa_eq, show (0 : Int32).toInt = 0 from by decide] at c104; exact c104
                                    refine lv_iconst (v := 1) hx hb dX11_done_223 rfl ?_
                                    refine lv_goto (tgt := 228) hx hb dX11_done_224 rfl ?_
                                    have lt105 : (1 : Int32).toInt = 1 := by decide
                                    refine cbSi (n := 1) (rest := []) hx hb hml hown hts hE hP hD hS hA (sY_X11_truth_1 l dC dI cy y0 r 1 v f w g hIv hCf hRf ) k_1761 k_1762 k_114 k_1763 (by decide +kernel) ⟨Nat.le_of_ble_eq_true rfl, Nat.le_of_ble_eq_true rfl⟩ (rfl) hl.1 rfl (Nat.le_of_ble_eq_true rfl) dX11_done_228 (fun r106 u H locs hw hP hD hS => ?_)
                                    exact ret r106 () _ _ _ _ _ _ rfl trivial hP hD hS dX11_done_231 (Nat.le_refl _) (Nat.le_refl _)
                                  · skip
                                    have zc104 : p1.toInt = 0 := by rw [fa_eq, show (0 : Int32).toInt = 0 from by decide] at c104; exact c104
                                    refine lv_iload_n hx hb dX11_done_219 rfl (lv_at hl 2 rfl) ?_
                                    refine lv_if_eq (tgt := 227) hx hb dX11_done_220 rfl (fun c107 => ?_) (fun c107 => ?_)
                                    · skip
                                      have zc107 : p2.toInt = 0 := by rw [fa_eq, show (0 : Int32).toInt = 0 from by decide] at c107; exact c107
                                      refine lv_iconst (v := 0) hx hb dX11_done_227 rfl ?_
                                      have lt108 : (0 : Int32).toInt = 0 := by decide
                                      refine cbSi (n := 1) (rest := []) hx hb hml hown hts hE hP hD hS hA (sY_X11_truth_1 l dC dI cy y0 r 0 v f w g hIv hCf hRf ) k_1761 k_1762 k_114 k_1763 (by decide +kernel) ⟨Nat.le_of_ble_eq_true rfl, Nat.le_of_ble_eq_true rfl⟩ (rfl) hl.1 rfl (Nat.le_of_ble_eq_true rfl) dX11_done_228 (fun r109 u H locs hw hP hD hS => ?_)
                                      exact ret r109 () _ _ _ _ _ _ rfl trivial hP hD hS dX11_done_231 (Nat.le_refl _) (Nat.le_refl _)
                                    · skip
                                      have zc107 : ¬ (p2.toInt = 0) := by rw [fa_eq, show (0 : Int32).toInt = 0 from by decide] at c107; exact c107
                                      refine lv_iconst (v := 1) hx hb dX11_done_223 rfl ?_
                                      refine lv_goto (tgt := 228) hx hb dX11_done_224 rfl ?_
                                      have lt110 : (1 : Int32).toInt = 1 := by decide
                                      refine cbSi (n := 1) (rest := []) hx hb hml hown hts hE hP hD hS hA (sY_X11_truth_1 l dC dI cy y0 r 1 v f w g hIv hCf hRf ) k_1761 k_1762 k_114 k_1763 (by decide +kernel) ⟨Nat.le_of_ble_eq_true rfl, Nat.le_of_ble_eq_true rfl⟩ (rfl) hl.1 rfl (Nat.le_of_ble_eq_true rfl) dX11_done_228 (fun r111 u H locs hw hP hD hS => ?_)
                                      exact ret r111 () _ _ _ _ _ _ rfl trivial hP hD hS dX11_done_231 (Nat.le_refl _) (Nat.le_refl _)
                                · skip
                                  have zc103 : ¬ (p0.toInt = 52) := by rw [fa_eq, show (52 : Int32).toInt = 52 from by decide] at c103; exact c103
                                  by_cases c112 : p0 = 53
                                  · skip
                                    refine lv_tableIn (off := 214) (tgt := 215) hx hb dX11_done_1 (by rw [c112]; decide) (by rw [c112]; decide) (by rw [c112]; decide) (by decide) ?_
                                    have zc112 : p0.toInt = 53 := by rw [fa_eq, show (53 : Int32).toInt = 53 from by decide] at c112; exact c112
                                    refine lv_iload_n hx hb dX11_done_215 rfl (lv_at hl 1 rfl) ?_
                                    refine lv_if_ne (tgt := 223) hx hb dX11_done_216 rfl (fun c113 => ?_) (fun c113 => ?_)
                                    · skip
                                      have zc113 : ¬ (p1.toInt = 0) := by rw [fa_eq, show (0 : Int32).toInt = 0 from by decide] at c113; exact c113
                                      refine lv_iconst (v := 1) hx hb dX11_done_223 rfl ?_
                                      refine lv_goto (tgt := 228) hx hb dX11_done_224 rfl ?_
                                      have lt114 : (1 : Int32).toInt = 1 := by decide
                                      refine cbSi (n := 1) (rest := []) hx hb hml hown hts hE hP hD hS hA (sY_X11_truth_1 l dC dI cy y0 r 1 v f w g hIv hCf hRf ) k_1761 k_1762 k_114 k_1763 (by decide +kernel) ⟨Nat.le_of_ble_eq_true rfl, Nat.le_of_ble_eq_true rfl⟩ (rfl) hl.1 rfl (Nat.le_of_ble_eq_true rfl) dX11_done_228 (fun r115 u H locs hw hP hD hS => ?_)
                                      exact ret r115 () _ _ _ _ _ _ rfl trivial hP hD hS dX11_done_231 (Nat.le_refl _) (Nat.le_refl _)
                                    · skip
                                      have zc113 : p1.toInt = 0 := by rw [fa_eq, show (0 : Int32).toInt = 0 from by decide] at c113; exact c113
                                      refine lv_iload_n hx hb dX11_done_219 rfl (lv_at hl 2 rfl) ?_
                                      refine lv_if_eq (tgt := 227) hx hb dX11_done_220 rfl (fun c116 => ?_) (fun c116 => ?_)
                                      · skip
                                        have zc116 : p2.toInt = 0 := by rw [fa_eq, show (0 : Int32).toInt = 0 from by decide] at c116; exact c116
                                        refine lv_iconst (v := 0) hx hb dX11_done_227 rfl ?_
                                        have lt117 : (0 : Int32).toInt = 0 := by decide
                                        refine cbSi (n := 1) (rest := []) hx hb hml hown hts hE hP hD hS hA (sY_X11_truth_1 l dC dI cy y0 r 0 v f w g hIv hCf hRf ) k_1761 k_1762 k_114 k_1763 (by decide +kernel) ⟨Nat.le_of_ble_eq_true rfl, Nat.le_of_ble_eq_true rfl⟩ (rfl) hl.1 rfl (Nat.le_of_ble_eq_true rfl) dX11_done_228 (fun r118 u H locs hw hP hD hS => ?_)
                                        exact ret r118 () _ _ _ _ _ _ rfl trivial hP hD hS dX11_done_231 (Nat.le_refl _) (Nat.le_refl _)
                                      · skip
                                        have zc116 : ¬ (p2.toInt = 0) := by rw [fa_eq, show (0 : Int32).toInt = 0 from by decide] at c116; exact c116
                                        refine lv_iconst (v := 1) hx hb dX11_done_223 rfl ?_
                                        refine lv_goto (tgt := 228) hx hb dX11_done_224 rfl ?_
                                        have lt119 : (1 : Int32).toInt = 1 := by decide
                                        refine cbSi (n := 1) (rest := []) hx hb hml hown hts hE hP hD hS hA (sY_X11_truth_1 l dC dI cy y0 r 1 v f w g hIv hCf hRf ) k_1761 k_1762 k_114 k_1763 (by decide +kernel) ⟨Nat.le_of_ble_eq_true rfl, Nat.le_of_ble_eq_true rfl⟩ (rfl) hl.1 rfl (Nat.le_of_ble_eq_true rfl) dX11_done_228 (fun r120 u H locs hw hP hD hS => ?_)
                                        exact ret r120 () _ _ _ _ _ _ rfl trivial hP hD hS dX11_done_231 (Nat.le_refl _) (Nat.le_refl _)
                                  · skip
                                    have zc112 : ¬ (p0.toInt = 53) := by rw [fa_eq, show (53 : Int32).toInt = 53 from by decide] at c112; exact c112
                                    by_cases c121 : p0 = 54
                                    · skip
                                      refine lv_tableIn (off := 214) (tgt := 215) hx hb dX11_done_1 (by rw [c121]; decide) (by rw [c121]; decide) (by rw [c121]; decide) (by decide) ?_
                                      have zc121 : p0.toInt = 54 := by rw [fa_eq, show (54 : Int32).toInt = 54 from by decide] at c121; exact c121
                                      refine lv_iload_n hx hb dX11_done_215 rfl (lv_at hl 1 rfl) ?_
                                      refine lv_if_ne (tgt := 223) hx hb dX11_done_216 rfl (fun c122 => ?_) (fun c122 => ?_)
                                      · skip
                                        have zc122 : ¬ (p1.toInt = 0) := by rw [fa_eq, show (0 : Int32).toInt = 0 from by decide] at c122; exact c122
                                        refine lv_iconst (v := 1) hx hb dX11_done_223 rfl ?_
                                        refine lv_goto (tgt := 228) hx hb dX11_done_224 rfl ?_
                                        have lt123 : (1 : Int32).toInt = 1 := by decide
                                        refine cbSi (n := 1) (rest := []) hx hb hml hown hts hE hP hD hS hA (sY_X11_truth_1 l dC dI cy y0 r 1 v f w g hIv hCf hRf ) k_1761 k_1762 k_114 k_1763 (by decide +kernel) ⟨Nat.le_of_ble_eq_true rfl, Nat.le_of_ble_eq_true rfl⟩ (rfl) hl.1 rfl (Nat.le_of_ble_eq_true rfl) dX11_done_228 (fun r124 u H locs hw hP hD hS => ?_)
                                        exact ret r124 () _ _ _ _ _ _ rfl trivial hP hD hS dX11_done_231 (Nat.le_refl _) (Nat.le_refl _)
                                      · skip
                                        have zc122 : p1.toInt = 0 := by rw [fa_eq, show (0 : Int32).toInt = 0 from by decide] at c122; exact c122
                                        refine lv_iload_n hx hb dX11_done_219 rfl (lv_at hl 2 rfl) ?_
                                        refine lv_if_eq (tgt := 227) hx hb dX11_done_220 rfl (fun c125 => ?_) (fun c125 => ?_)
                                        · skip
                                          have zc125 : p2.toInt = 0 := by rw [fa_eq, show (0 : Int32).toInt = 0 from by decide] at c125; exact c125
                                          refine lv_iconst (v := 0) hx hb dX11_done_227 rfl ?_
                                          have lt126 : (0 : Int32).toInt = 0 := by decide
                                          refine cbSi (n := 1) (rest := []) hx hb hml hown hts hE hP hD hS hA (sY_X11_truth_1 l dC dI cy y0 r 0 v f w g hIv hCf hRf ) k_1761 k_1762 k_114 k_1763 (by decide +kernel) ⟨Nat.le_of_ble_eq_true rfl, Nat.le_of_ble_eq_true rfl⟩ (rfl) hl.1 rfl (Nat.le_of_ble_eq_true rfl) dX11_done_228 (fun r127 u H locs hw hP hD hS => ?_)
                                          exact ret r127 () _ _ _ _ _ _ rfl trivial hP hD hS dX11_done_231 (Nat.le_refl _) (Nat.le_refl _)
                                        · skip
                                          have zc125 : ¬ (p2.toInt = 0) := by rw [fa_eq, show (0 : Int32).toInt = 0 from by decide] at c125; exact c125
                                          refine lv_iconst (v := 1) hx hb dX11_done_223 rfl ?_
                                          refine lv_goto (tgt := 228) hx hb dX11_done_224 rfl ?_
                                          have lt128 : (1 : Int32).toInt = 1 := by decide
                                          refine cbSi (n := 1) (rest := []) hx hb hml hown hts hE hP hD hS hA (sY_X11_truth_1 l dC dI cy y0 r 1 v f w g hIv hCf hRf ) k_1761 k_1762 k_114 k_1763 (by decide +kernel) ⟨Nat.le_of_ble_eq_true rfl, Nat.le_of_ble_eq_true rfl⟩ (rfl) hl.1 rfl (Nat.le_of_ble_eq_true rfl) dX11_done_228 (fun r129 u H locs hw hP hD hS => ?_)
                                          exact ret r129 () _ _ _ _ _ _ rfl trivial hP hD hS dX11_done_231 (Nat.le_refl _) (Nat.le_refl _)
                                    · skip
                                      have zc121 : ¬ (p0.toInt = 54) := by rw [fa_eq, show (54 : Int32).toInt = 54 from by decide] at c121; exact c121
                                      by_cases c130 : p0 = 55
                                      · skip
                                        refine lv_tableIn (off := 214) (tgt := 215) hx hb dX11_done_1 (by rw [c130]; decide) (by rw [c130]; decide) (by rw [c130]; decide) (by decide) ?_
                                        have zc130 : p0.toInt = 55 := by rw [fa_eq, show (55 : Int32).toInt = 55 from by decide] at c130; exact c130
                                        refine lv_iload_n hx hb dX11_done_215 rfl (lv_at hl 1 rfl) ?_
                                        refine lv_if_ne (tgt := 223) hx hb dX11_done_216 rfl (fun c131 => ?_) (fun c131 => ?_)
                                        · skip
                                          have zc131 : ¬ (p1.toInt = 0) := by rw [fa_eq, show (0 : Int32).toInt = 0 from by decide] at c131; exact c131
                                          refine lv_iconst (v := 1) hx hb dX11_done_223 rfl ?_
                                          refine lv_goto (tgt := 228) hx hb dX11_done_224 rfl ?_
                                          have lt132 : (1 : Int32).toInt = 1 := by decide
                                          refine cbSi (n := 1) (rest := []) hx hb hml hown hts hE hP hD hS hA (sY_X11_truth_1 l dC dI cy y0 r 1 v f w g hIv hCf hRf ) k_1761 k_1762 k_114 k_1763 (by decide +kernel) ⟨Nat.le_of_ble_eq_true rfl, Nat.le_of_ble_eq_true rfl⟩ (rfl) hl.1 rfl (Nat.le_of_ble_eq_true rfl) dX11_done_228 (fun r133 u H locs hw hP hD hS => ?_)
                                          exact ret r133 () _ _ _ _ _ _ rfl trivial hP hD hS dX11_done_231 (Nat.le_refl _) (Nat.le_refl _)
                                        · skip
                                          have zc131 : p1.toInt = 0 := by rw [fa_eq, show (0 : Int32).toInt = 0 from by decide] at c131; exact c131
                                          refine lv_iload_n hx hb dX11_done_219 rfl (lv_at hl 2 rfl) ?_
                                          refine lv_if_eq (tgt := 227) hx hb dX11_done_220 rfl (fun c134 => ?_) (fun c134 => ?_)
                                          · skip
                                            have zc134 : p2.toInt = 0 := by rw [fa_eq, show (0 : Int32).toInt = 0 from by decide] at c134; exact c134
                                            refine lv_iconst (v := 0) hx hb dX11_done_227 rfl ?_
                                            have lt135 : (0 : Int32).toInt = 0 := by decide
                                            refine cbSi (n := 1) (rest := []) hx hb hml hown hts hE hP hD hS hA (sY_X11_truth_1 l dC dI cy y0 r 0 v f w g hIv hCf hRf ) k_1761 k_1762 k_114 k_1763 (by decide +kernel) ⟨Nat.le_of_ble_eq_true rfl, Nat.le_of_ble_eq_true rfl⟩ (rfl) hl.1 rfl (Nat.le_of_ble_eq_true rfl) dX11_done_228 (fun r136 u H locs hw hP hD hS => ?_)
                                            exact ret r136 () _ _ _ _ _ _ rfl trivial hP hD hS dX11_done_231 (Nat.le_refl _) (Nat.le_refl _)
                                          · skip
                                            have zc134 : ¬ (p2.toInt = 0) := by rw [fa_eq, show (0 : Int32).toInt = 0 from by decide] at c134; exact c134
                                            refine lv_iconst (v := 1) hx hb dX11_done_223 rfl ?_
                                            refine lv_goto (tgt := 228) hx hb dX11_done_224 rfl ?_
                                            have lt137 : (1 : Int32).toInt = 1 := by decide
                                            refine cbSi (n := 1) (rest := []) hx hb hml hown hts hE hP hD hS hA (sY_X11_truth_1 l dC dI cy y0 r 1 v f w g hIv hCf hRf ) k_1761 k_1762 k_114 k_1763 (by decide +kernel) ⟨Nat.le_of_ble_eq_true rfl, Nat.le_of_ble_eq_true rfl⟩ (rfl) hl.1 rfl (Nat.le_of_ble_eq_true rfl) dX11_done_228 (fun r138 u H locs hw hP hD hS => ?_)
                                            exact ret r138 () _ _ _ _ _ _ rfl trivial hP hD hS dX11_done_231 (Nat.le_refl _) (Nat.le_refl _)
                                      · skip
                                        have zc130 : ¬ (p0.toInt = 55) := by rw [fa_eq, show (55 : Int32).toInt = 55 from by decide] at c130; exact c130
                                        by_cases c139 : p0 = 56
                                        · skip
                                          refine lv_tableIn (off := 214) (tgt := 215) hx hb dX11_done_1 (by rw [c139]; decide) (by rw [c139]; decide) (by rw [c139]; decide) (by decide) ?_
                                          have zc139 : p0.toInt = 56 := by rw [fa_eq, show (56 : Int32).toInt = 56 from by decide] at c139; exact c139
                                          refine lv_iload_n hx hb dX11_done_215 rfl (lv_at hl 1 rfl) ?_
                                          refine lv_if_ne (tgt := 223) hx hb dX11_done_216 rfl (fun c140 => ?_) (fun c140 => ?_)
                                          · skip
                                            have zc140 : ¬ (p1.toInt = 0) := by rw [fa_eq, show (0 : Int32).toInt = 0 from by decide] at c140; exact c140
                                            refine lv_iconst (v := 1) hx hb dX11_done_223 rfl ?_
                                            refine lv_goto (tgt := 228) hx hb dX11_done_224 rfl ?_
                                            have lt141 : (1 : Int32).toInt = 1 := by decide
                                            refine cbSi (n := 1) (rest := []) hx hb hml hown hts hE hP hD hS hA (sY_X11_truth_1 l dC dI cy y0 r 1 v f w g hIv hCf hRf ) k_1761 k_1762 k_114 k_1763 (by decide +kernel) ⟨Nat.le_of_ble_eq_true rfl, Nat.le_of_ble_eq_true rfl⟩ (rfl) hl.1 rfl (Nat.le_of_ble_eq_true rfl) dX11_done_228 (fun r142 u H locs hw hP hD hS => ?_)
                                            exact ret r142 () _ _ _ _ _ _ rfl trivial hP hD hS dX11_done_231 (Nat.le_refl _) (Nat.le_refl _)
                                          · skip
                                            have zc140 : p1.toInt = 0 := by rw [fa_eq, show (0 : Int32).toInt = 0 from by decide] at c140; exact c140
                                            refine lv_iload_n hx hb dX11_done_219 rfl (lv_at hl 2 rfl) ?_
                                            refine lv_if_eq (tgt := 227) hx hb dX11_done_220 rfl (fun c143 => ?_) (fun c143 => ?_)
                                            · skip
                                              have zc143 : p2.toInt = 0 := by rw [fa_eq, show (0 : Int32).toInt = 0 from by decide] at c143; exact c143
                                              refine lv_iconst (v := 0) hx hb dX11_done_227 rfl ?_
                                              have lt144 : (0 : Int32).toInt = 0 := by decide
                                              refine cbSi (n := 1) (rest := []) hx hb hml hown hts hE hP hD hS hA (sY_X11_truth_1 l dC dI cy y0 r 0 v f w g hIv hCf hRf ) k_1761 k_1762 k_114 k_1763 (by decide +kernel) ⟨Nat.le_of_ble_eq_true rfl, Nat.le_of_ble_eq_true rfl⟩ (rfl) hl.1 rfl (Nat.le_of_ble_eq_true rfl) dX11_done_228 (fun r145 u H locs hw hP hD hS => ?_)
                                              exact ret r145 () _ _ _ _ _ _ rfl trivial hP hD hS dX11_done_231 (Nat.le_refl _) (Nat.le_refl _)
                                            · skip
                                              have zc143 : ¬ (p2.toInt = 0) := by rw [fa_eq, show (0 : Int32).toInt = 0 from by decide] at c143; exact c143
                                              refine lv_iconst (v := 1) hx hb dX11_done_223 rfl ?_
                                              refine lv_goto (tgt := 228) hx hb dX11_done_224 rfl ?_
                                              have lt146 : (1 : Int32).toInt = 1 := by decide
                                              refine cbSi (n := 1) (rest := []) hx hb hml hown hts hE hP hD hS hA (sY_X11_truth_1 l dC dI cy y0 r 1 v f w g hIv hCf hRf ) k_1761 k_1762 k_114 k_1763 (by decide +kernel) ⟨Nat.le_of_ble_eq_true rfl, Nat.le_of_ble_eq_true rfl⟩ (rfl) hl.1 rfl (Nat.le_of_ble_eq_true rfl) dX11_done_228 (fun r147 u H locs hw hP hD hS => ?_)
                                              exact ret r147 () _ _ _ _ _ _ rfl trivial hP hD hS dX11_done_231 (Nat.le_refl _) (Nat.le_refl _)
                                        · skip
                                          have zc139 : ¬ (p0.toInt = 56) := by rw [fa_eq, show (56 : Int32).toInt = 56 from by decide] at c139; exact c139
                                          by_cases c148 : p0 = 57
                                          · skip
                                            refine lv_tableIn (off := 214) (tgt := 215) hx hb dX11_done_1 (by rw [c148]; decide) (by rw [c148]; decide) (by rw [c148]; decide) (by decide) ?_
                                            have zc148 : p0.toInt = 57 := by rw [fa_eq, show (57 : Int32).toInt = 57 from by decide] at c148; exact c148
                                            refine lv_iload_n hx hb dX11_done_215 rfl (lv_at hl 1 rfl) ?_
                                            refine lv_if_ne (tgt := 223) hx hb dX11_done_216 rfl (fun c149 => ?_) (fun c149 => ?_)
                                            · skip
                                              have zc149 : ¬ (p1.toInt = 0) := by rw [fa_eq, show (0 : Int32).toInt = 0 from by decide] at c149; exact c149
                                              refine lv_iconst (v := 1) hx hb dX11_done_223 rfl ?_
                                              refine lv_goto (tgt := 228) hx hb dX11_done_224 rfl ?_
                                              have lt150 : (1 : Int32).toInt = 1 := by decide
                                              refine cbSi (n := 1) (rest := []) hx hb hml hown hts hE hP hD hS hA (sY_X11_truth_1 l dC dI cy y0 r 1 v f w g hIv hCf hRf ) k_1761 k_1762 k_114 k_1763 (by decide +kernel) ⟨Nat.le_of_ble_eq_true rfl, Nat.le_of_ble_eq_true rfl⟩ (rfl) hl.1 rfl (Nat.le_of_ble_eq_true rfl) dX11_done_228 (fun r151 u H locs hw hP hD hS => ?_)
                                              exact ret r151 () _ _ _ _ _ _ rfl trivial hP hD hS dX11_done_231 (Nat.le_refl _) (Nat.le_refl _)
                                            · skip
                                              have zc149 : p1.toInt = 0 := by rw [fa_eq, show (0 : Int32).toInt = 0 from by decide] at c149; exact c149
                                              refine lv_iload_n hx hb dX11_done_219 rfl (lv_at hl 2 rfl) ?_
                                              refine lv_if_eq (tgt := 227) hx hb dX11_done_220 rfl (fun c152 => ?_) (fun c152 => ?_)
                                              · skip
                                                have zc152 : p2.toInt = 0 := by rw [fa_eq, show (0 : Int32).toInt = 0 from by decide] at c152; exact c152
                                                refine lv_iconst (v := 0) hx hb dX11_done_227 rfl ?_
                                                have lt153 : (0 : Int32).toInt = 0 := by decide
                                                refine cbSi (n := 1) (rest := []) hx hb hml hown hts hE hP hD hS hA (sY_X11_truth_1 l dC dI cy y0 r 0 v f w g hIv hCf hRf ) k_1761 k_1762 k_114 k_1763 (by decide +kernel) ⟨Nat.le_of_ble_eq_true rfl, Nat.le_of_ble_eq_true rfl⟩ (rfl) hl.1 rfl (Nat.le_of_ble_eq_true rfl) dX11_done_228 (fun r154 u H locs hw hP hD hS => ?_)
                                                exact ret r154 () _ _ _ _ _ _ rfl trivial hP hD hS dX11_done_231 (Nat.le_refl _) (Nat.le_refl _)
                                              · skip
                                                have zc152 : ¬ (p2.toInt = 0) := by rw [fa_eq, show (0 : Int32).toInt = 0 from by decide] at c152; exact c152
                                                refine lv_iconst (v := 1) hx hb dX11_done_223 rfl ?_
                                                refine lv_goto (tgt := 228) hx hb dX11_done_224 rfl ?_
                                                have lt155 : (1 : Int32).toInt = 1 := by decide
                                                refine cbSi (n := 1) (rest := []) hx hb hml hown hts hE hP hD hS hA (sY_X11_truth_1 l dC dI cy y0 r 1 v f w g hIv hCf hRf ) k_1761 k_1762 k_114 k_1763 (by decide +kernel) ⟨Nat.le_of_ble_eq_true rfl, Nat.le_of_ble_eq_true rfl⟩ (rfl) hl.1 rfl (Nat.le_of_ble_eq_true rfl) dX11_done_228 (fun r156 u H locs hw hP hD hS => ?_)
                                                exact ret r156 () _ _ _ _ _ _ rfl trivial hP hD hS dX11_done_231 (Nat.le_refl _) (Nat.le_refl _)
                                          · skip
                                            have zc148 : ¬ (p0.toInt = 57) := by rw [fa_eq, show (57 : Int32).toInt = 57 from by decide] at c148; exact c148
                                            by_cases c157 : p0 = 58
                                            · skip
                                              refine lv_tableIn (off := 214) (tgt := 215) hx hb dX11_done_1 (by rw [c157]; decide) (by rw [c157]; decide) (by rw [c157]; decide) (by decide) ?_
                                              have zc157 : p0.toInt = 58 := by rw [fa_eq, show (58 : Int32).toInt = 58 from by decide] at c157; exact c157
                                              refine lv_iload_n hx hb dX11_done_215 rfl (lv_at hl 1 rfl) ?_
                                              refine lv_if_ne (tgt := 223) hx hb dX11_done_216 rfl (fun c158 => ?_) (fun c158 => ?_)
                                              · skip
                                                have zc158 : ¬ (p1.toInt = 0) := by rw [fa_eq, show (0 : Int32).toInt = 0 from by decide] at c158; exact c158
                                                refine lv_iconst (v := 1) hx hb dX11_done_223 rfl ?_
                                                refine lv_goto (tgt := 228) hx hb dX11_done_224 rfl ?_
                                                have lt159 : (1 : Int32).toInt = 1 := by decide
                                                refine cbSi (n := 1) (rest := []) hx hb hml hown hts hE hP hD hS hA (sY_X11_truth_1 l dC dI cy y0 r 1 v f w g hIv hCf hRf ) k_1761 k_1762 k_114 k_1763 (by decide +kernel) ⟨Nat.le_of_ble_eq_true rfl, Nat.le_of_ble_eq_true rfl⟩ (rfl) hl.1 rfl (Nat.le_of_ble_eq_true rfl) dX11_done_228 (fun r160 u H locs hw hP hD hS => ?_)
                                                exact ret r160 () _ _ _ _ _ _ rfl trivial hP hD hS dX11_done_231 (Nat.le_refl _) (Nat.le_refl _)
                                              · skip
                                                have zc158 : p1.toInt = 0 := by rw [fa_eq, show (0 : Int32).toInt = 0 from by decide] at c158; exact c158
                                                refine lv_iload_n hx hb dX11_done_219 rfl (lv_at hl 2 rfl) ?_
                                                refine lv_if_eq (tgt := 227) hx hb dX11_done_220 rfl (fun c161 => ?_) (fun c161 => ?_)
                                                · skip
                                                  have zc161 : p2.toInt = 0 := by rw [fa_eq, show (0 : Int32).toInt = 0 from by decide] at c161; exact c161
                                                  refine lv_iconst (v := 0) hx hb dX11_done_227 rfl ?_
                                                  have lt162 : (0 : Int32).toInt = 0 := by decide
                                                  refine cbSi (n := 1) (rest := []) hx hb hml hown hts hE hP hD hS hA (sY_X11_truth_1 l dC dI cy y0 r 0 v f w g hIv hCf hRf ) k_1761 k_1762 k_114 k_1763 (by decide +kernel) ⟨Nat.le_of_ble_eq_true rfl, Nat.le_of_ble_eq_true rfl⟩ (rfl) hl.1 rfl (Nat.le_of_ble_eq_true rfl) dX11_done_228 (fun r163 u H locs hw hP hD hS => ?_)
                                                  exact ret r163 () _ _ _ _ _ _ rfl trivial hP hD hS dX11_done_231 (Nat.le_refl _) (Nat.le_refl _)
                                                · skip
                                                  have zc161 : ¬ (p2.toInt = 0) := by rw [fa_eq, show (0 : Int32).toInt = 0 from by decide] at c161; exact c161
                                                  refine lv_iconst (v := 1) hx hb dX11_done_223 rfl ?_
                                                  refine lv_goto (tgt := 228) hx hb dX11_done_224 rfl ?_
                                                  have lt164 : (1 : Int32).toInt = 1 := by decide
                                                  refine cbSi (n := 1) (rest := []) hx hb hml hown hts hE hP hD hS hA (sY_X11_truth_1 l dC dI cy y0 r 1 v f w g hIv hCf hRf ) k_1761 k_1762 k_114 k_1763 (by decide +kernel) ⟨Nat.le_of_ble_eq_true rfl, Nat.le_of_ble_eq_true rfl⟩ (rfl) hl.1 rfl (Nat.le_of_ble_eq_true rfl) dX11_done_228 (fun r165 u H locs hw hP hD hS => ?_)
                                                  exact ret r165 () _ _ _ _ _ _ rfl trivial hP hD hS dX11_done_231 (Nat.le_refl _) (Nat.le_refl _)
                                            · skip
                                              have zc157 : ¬ (p0.toInt = 58) := by rw [fa_eq, show (58 : Int32).toInt = 58 from by decide] at c157; exact c157
                                              by_cases c166 : p0 = 59
                                              · skip
                                                refine lv_tableIn (off := 214) (tgt := 215) hx hb dX11_done_1 (by rw [c166]; decide) (by rw [c166]; decide) (by rw [c166]; decide) (by decide) ?_
                                                have zc166 : p0.toInt = 59 := by rw [fa_eq, show (59 : Int32).toInt = 59 from by decide] at c166; exact c166
                                                refine lv_iload_n hx hb dX11_done_215 rfl (lv_at hl 1 rfl) ?_
                                                refine lv_if_ne (tgt := 223) hx hb dX11_done_216 rfl (fun c167 => ?_) (fun c167 => ?_)
                                                · skip
                                                  have zc167 : ¬ (p1.toInt = 0) := by rw [fa_eq, show (0 : Int32).toInt = 0 from by decide] at c167; exact c167
                                                  refine lv_iconst (v := 1) hx hb dX11_done_223 rfl ?_
                                                  refine lv_goto (tgt := 228) hx hb dX11_done_224 rfl ?_
                                                  have lt168 : (1 : Int32).toInt = 1 := by decide
                                                  refine cbSi (n := 1) (rest := []) hx hb hml hown hts hE hP hD hS hA (sY_X11_truth_1 l dC dI cy y0 r 1 v f w g hIv hCf hRf ) k_1761 k_1762 k_114 k_1763 (by decide +kernel) ⟨Nat.le_of_ble_eq_true rfl, Nat.le_of_ble_eq_true rfl⟩ (rfl) hl.1 rfl (Nat.le_of_ble_eq_true rfl) dX11_done_228 (fun r169 u H locs hw hP hD hS => ?_)
                                                  exact ret r169 () _ _ _ _ _ _ rfl trivial hP hD hS dX11_done_231 (Nat.le_refl _) (Nat.le_refl _)
                                                · skip
                                                  have zc167 : p1.toInt = 0 := by rw [fa_eq, show (0 : Int32).toInt = 0 from by decide] at c167; exact c167
                                                  refine lv_iload_n hx hb dX11_done_219 rfl (lv_at hl 2 rfl) ?_
                                                  refine lv_if_eq (tgt := 227) hx hb dX11_done_220 rfl (fun c170 => ?_) (fun c170 => ?_)
                                                  · skip
                                                    have zc170 : p2.toInt = 0 := by rw [fa_eq, show (0 : Int32).toInt = 0 from by decide] at c170; exact c170
                                                    refine lv_iconst (v := 0) hx hb dX11_done_227 rfl ?_
                                                    have lt171 : (0 : Int32).toInt = 0 := by decide
                                                    refine cbSi (n := 1) (rest := []) hx hb hml hown hts hE hP hD hS hA (sY_X11_truth_1 l dC dI cy y0 r 0 v f w g hIv hCf hRf ) k_1761 k_1762 k_114 k_1763 (by decide +kernel) ⟨Nat.le_of_ble_eq_true rfl, Nat.le_of_ble_eq_true rfl⟩ (rfl) hl.1 rfl (Nat.le_of_ble_eq_true rfl) dX11_done_228 (fun r172 u H locs hw hP hD hS => ?_)
                                                    exact ret r172 () _ _ _ _ _ _ rfl trivial hP hD hS dX11_done_231 (Nat.le_refl _) (Nat.le_refl _)
                                                  · skip
                                                    have zc170 : ¬ (p2.toInt = 0) := by rw [fa_eq, show (0 : Int32).toInt = 0 from by decide] at c170; exact c170
                                                    refine lv_iconst (v := 1) hx hb dX11_done_223 rfl ?_
                                                    refine lv_goto (tgt := 228) hx hb dX11_done_224 rfl ?_
                                                    have lt173 : (1 : Int32).toInt = 1 := by decide
                                                    refine cbSi (n := 1) (rest := []) hx hb hml hown hts hE hP hD hS hA (sY_X11_truth_1 l dC dI cy y0 r 1 v f w g hIv hCf hRf ) k_1761 k_1762 k_114 k_1763 (by decide +kernel) ⟨Nat.le_of_ble_eq_true rfl, Nat.le_of_ble_eq_true rfl⟩ (rfl) hl.1 rfl (Nat.le_of_ble_eq_true rfl) dX11_done_228 (fun r174 u H locs hw hP hD hS => ?_)
                                                    exact ret r174 () _ _ _ _ _ _ rfl trivial hP hD hS dX11_done_231 (Nat.le_refl _) (Nat.le_refl _)
                                              · skip
                                                have zc166 : ¬ (p0.toInt = 59) := by rw [fa_eq, show (59 : Int32).toInt = 59 from by decide] at c166; exact c166
                                                by_cases c175 : p0 = 60
                                                · skip
                                                  refine lv_tableIn (off := 155) (tgt := 156) hx hb dX11_done_1 (by rw [c175]; decide) (by rw [c175]; decide) (by rw [c175]; decide) (by decide) ?_
                                                  have zc175 : p0.toInt = 60 := by rw [fa_eq, show (60 : Int32).toInt = 60 from by decide] at c175; exact c175
                                                  refine lv_iload_n hx hb dX11_done_156 rfl (lv_at hl 1 rfl) ?_
                                                  refine lv_iload_n hx hb dX11_done_157 rfl (lv_at hl 2 rfl) ?_
                                                  refine lv_icmp_ge (tgt := 165) hx hb dX11_done_158 rfl (fun c176 => ?_) (fun c176 => ?_)
                                                  · skip
                                                    have zc176 : p2.toInt ≤ p1.toInt := by rw [fa_le] at c176; exact c176
                                                    have rg177 := fb_rng p1
                                                    have rg178 := fb_rng p2
                                                    refine lv_iconst (v := 0) hx hb dX11_done_165 rfl ?_
                                                    have lt179 : (0 : Int32).toInt = 0 := by decide
                                                    refine cbSi (n := 1) (rest := []) hx hb hml hown hts hE hP hD hS hA (sY_X11_truth_1 l dC dI cy y0 r 0 v f w g hIv hCf hRf ) k_1761 k_1762 k_114 k_1763 (by decide +kernel) ⟨Nat.le_of_ble_eq_true rfl, Nat.le_of_ble_eq_true rfl⟩ (rfl) hl.1 rfl (Nat.le_of_ble_eq_true rfl) dX11_done_166 (fun r180 u H locs hw hP hD hS => ?_)
                                                    exact ret r180 () _ _ _ _ _ _ rfl trivial hP hD hS dX11_done_169 (Nat.le_refl _) (Nat.le_refl _)
                                                  · skip
                                                    have zc176 : ¬ (p2.toInt ≤ p1.toInt) := by rw [fa_le] at c176; exact c176
                                                    have rg181 := fb_rng p1
                                                    have rg182 := fb_rng p2
                                                    refine lv_iconst (v := 1) hx hb dX11_done_161 rfl ?_
                                                    refine lv_goto (tgt := 166) hx hb dX11_done_162 rfl ?_
                                                    have lt183 : (1 : Int32).toInt = 1 := by decide
                                                    refine cbSi (n := 1) (rest := []) hx hb hml hown hts hE hP hD hS hA (sY_X11_truth_1 l dC dI cy y0 r 1 v f w g hIv hCf hRf ) k_1761 k_1762 k_114 k_1763 (by decide +kernel) ⟨Nat.le_of_ble_eq_true rfl, Nat.le_of_ble_eq_true rfl⟩ (rfl) hl.1 rfl (Nat.le_of_ble_eq_true rfl) dX11_done_166 (fun r184 u H locs hw hP hD hS => ?_)
                                                    exact ret r184 () _ _ _ _ _ _ rfl trivial hP hD hS dX11_done_169 (Nat.le_refl _) (Nat.le_refl _)
                                                · skip
                                                  have zc175 : ¬ (p0.toInt = 60) := by rw [fa_eq, show (60 : Int32).toInt = 60 from by decide] at c175; exact c175
                                                  by_cases c185 : p0 = 61
                                                  · skip
                                                    refine lv_tableIn (off := 183) (tgt := 184) hx hb dX11_done_1 (by rw [c185]; decide) (by rw [c185]; decide) (by rw [c185]; decide) (by decide) ?_
                                                    have zc185 : p0.toInt = 61 := by rw [fa_eq, show (61 : Int32).toInt = 61 from by decide] at c185; exact c185
                                                    refine lv_iload_n hx hb dX11_done_184 rfl (lv_at hl 1 rfl) ?_
                                                    refine lv_iload_n hx hb dX11_done_185 rfl (lv_at hl 2 rfl) ?_
                                                    refine lv_icmp_ne (tgt := 193) hx hb dX11_done_186 rfl (fun c186 => ?_) (fun c186 => ?_)
                                                    · skip
                                                      have zc186 : ¬ (p1.toInt = p2.toInt) := by rw [fa_eq] at c186; exact c186
                                                      have rg187 := fb_rng p1
                                                      have rg188 := fb_rng p2
                                                      refine lv_iconst (v := 0) hx hb dX11_done_193 rfl ?_
                                                      have lt189 : (0 : Int32).toInt = 0 := by decide
                                                      refine cbSi (n := 1) (rest := []) hx hb hml hown hts hE hP hD hS hA (sY_X11_truth_1 l dC dI cy y0 r 0 v f w g hIv hCf hRf ) k_1761 k_1762 k_114 k_1763 (by decide +kernel) ⟨Nat.le_of_ble_eq_true rfl, Nat.le_of_ble_eq_true rfl⟩ (rfl) hl.1 rfl (Nat.le_of_ble_eq_true rfl) dX11_done_194 (fun r190 u H locs hw hP hD hS => ?_)
                                                      exact ret r190 () _ _ _ _ _ _ rfl trivial hP hD hS dX11_done_197 (Nat.le_refl _) (Nat.le_refl _)
                                                    · skip
                                                      have zc186 : p1.toInt = p2.toInt := by rw [fa_eq] at c186; exact c186
                                                      have rg191 := fb_rng p1
                                                      have rg192 := fb_rng p2
                                                      refine lv_iconst (v := 1) hx hb dX11_done_189 rfl ?_
                                                      refine lv_goto (tgt := 194) hx hb dX11_done_190 rfl ?_
                                                      have lt193 : (1 : Int32).toInt = 1 := by decide
                                                      refine cbSi (n := 1) (rest := []) hx hb hml hown hts hE hP hD hS hA (sY_X11_truth_1 l dC dI cy y0 r 1 v f w g hIv hCf hRf ) k_1761 k_1762 k_114 k_1763 (by decide +kernel) ⟨Nat.le_of_ble_eq_true rfl, Nat.le_of_ble_eq_true rfl⟩ (rfl) hl.1 rfl (Nat.le_of_ble_eq_true rfl) dX11_done_194 (fun r194 u H locs hw hP hD hS => ?_)
                                                      exact ret r194 () _ _ _ _ _ _ rfl trivial hP hD hS dX11_done_197 (Nat.le_refl _) (Nat.le_refl _)
                                                  · skip
                                                    have zc185 : ¬ (p0.toInt = 61) := by rw [fa_eq, show (61 : Int32).toInt = 61 from by decide] at c185; exact c185
                                                    by_cases c195 : p0 = 62
                                                    · skip
                                                      refine lv_tableIn (off := 169) (tgt := 170) hx hb dX11_done_1 (by rw [c195]; decide) (by rw [c195]; decide) (by rw [c195]; decide) (by decide) ?_
                                                      have zc195 : p0.toInt = 62 := by rw [fa_eq, show (62 : Int32).toInt = 62 from by decide] at c195; exact c195
                                                      refine lv_iload_n hx hb dX11_done_170 rfl (lv_at hl 1 rfl) ?_
                                                      refine lv_iload_n hx hb dX11_done_171 rfl (lv_at hl 2 rfl) ?_
                                                      refine lv_icmp_le (tgt := 179) hx hb dX11_done_172 rfl (fun c196 => ?_) (fun c196 => ?_)
                                                      · skip
                                                        have zc196 : p1.toInt ≤ p2.toInt := by rw [fa_le] at c196; exact c196
                                                        have rg197 := fb_rng p1
                                                        have rg198 := fb_rng p2
                                                        refine lv_iconst (v := 0) hx hb dX11_done_179 rfl ?_
                                                        have lt199 : (0 : Int32).toInt = 0 := by decide
                                                        refine cbSi (n := 1) (rest := []) hx hb hml hown hts hE hP hD hS hA (sY_X11_truth_1 l dC dI cy y0 r 0 v f w g hIv hCf hRf ) k_1761 k_1762 k_114 k_1763 (by decide +kernel) ⟨Nat.le_of_ble_eq_true rfl, Nat.le_of_ble_eq_true rfl⟩ (rfl) hl.1 rfl (Nat.le_of_ble_eq_true rfl) dX11_done_180 (fun r200 u H locs hw hP hD hS => ?_)
                                                        exact ret r200 () _ _ _ _ _ _ rfl trivial hP hD hS dX11_done_183 (Nat.le_refl _) (Nat.le_refl _)
                                                      · skip
                                                        have zc196 : ¬ (p1.toInt ≤ p2.toInt) := by rw [fa_le] at c196; exact c196
                                                        have rg201 := fb_rng p1
                                                        have rg202 := fb_rng p2
                                                        refine lv_iconst (v := 1) hx hb dX11_done_175 rfl ?_
                                                        refine lv_goto (tgt := 180) hx hb dX11_done_176 rfl ?_
                                                        have lt203 : (1 : Int32).toInt = 1 := by decide
                                                        refine cbSi (n := 1) (rest := []) hx hb hml hown hts hE hP hD hS hA (sY_X11_truth_1 l dC dI cy y0 r 1 v f w g hIv hCf hRf ) k_1761 k_1762 k_114 k_1763 (by decide +kernel) ⟨Nat.le_of_ble_eq_true rfl, Nat.le_of_ble_eq_true rfl⟩ (rfl) hl.1 rfl (Nat.le_of_ble_eq_true rfl) dX11_done_180 (fun r204 u H locs hw hP hD hS => ?_)
                                                        exact ret r204 () _ _ _ _ _ _ rfl trivial hP hD hS dX11_done_183 (Nat.le_refl _) (Nat.le_refl _)
                                                    · skip
                                                      have zc195 : ¬ (p0.toInt = 62) := by rw [fa_eq, show (62 : Int32).toInt = 62 from by decide] at c195; exact c195
                                                      refine lv_tableOut (tgt := 215) hx hb dX11_done_1 (by omega) (by decide) ?_
                                                      refine lv_iload_n hx hb dX11_done_215 rfl (lv_at hl 1 rfl) ?_
                                                      refine lv_if_ne (tgt := 223) hx hb dX11_done_216 rfl (fun c205 => ?_) (fun c205 => ?_)
                                                      · skip
                                                        have zc205 : ¬ (p1.toInt = 0) := by rw [fa_eq, show (0 : Int32).toInt = 0 from by decide] at c205; exact c205
                                                        refine lv_iconst (v := 1) hx hb dX11_done_223 rfl ?_
                                                        refine lv_goto (tgt := 228) hx hb dX11_done_224 rfl ?_
                                                        have lt206 : (1 : Int32).toInt = 1 := by decide
                                                        refine cbSi (n := 1) (rest := []) hx hb hml hown hts hE hP hD hS hA (sY_X11_truth_1 l dC dI cy y0 r 1 v f w g hIv hCf hRf ) k_1761 k_1762 k_114 k_1763 (by decide +kernel) ⟨Nat.le_of_ble_eq_true rfl, Nat.le_of_ble_eq_true rfl⟩ (rfl) hl.1 rfl (Nat.le_of_ble_eq_true rfl) dX11_done_228 (fun r207 u H locs hw hP hD hS => ?_)
                                                        exact ret r207 () _ _ _ _ _ _ rfl trivial hP hD hS dX11_done_231 (Nat.le_refl _) (Nat.le_refl _)
                                                      · skip
                                                        have zc205 : p1.toInt = 0 := by rw [fa_eq, show (0 : Int32).toInt = 0 from by decide] at c205; exact c205
                                                        refine lv_iload_n hx hb dX11_done_219 rfl (lv_at hl 2 rfl) ?_
                                                        refine lv_if_eq (tgt := 227) hx hb dX11_done_220 rfl (fun c208 => ?_) (fun c208 => ?_)
                                                        · skip
                                                          have zc208 : p2.toInt = 0 := by rw [fa_eq, show (0 : Int32).toInt = 0 from by decide] at c208; exact c208
                                                          refine lv_iconst (v := 0) hx hb dX11_done_227 rfl ?_
                                                          have lt209 : (0 : Int32).toInt = 0 := by decide
                                                          refine cbSi (n := 1) (rest := []) hx hb hml hown hts hE hP hD hS hA (sY_X11_truth_1 l dC dI cy y0 r 0 v f w g hIv hCf hRf ) k_1761 k_1762 k_114 k_1763 (by decide +kernel) ⟨Nat.le_of_ble_eq_true rfl, Nat.le_of_ble_eq_true rfl⟩ (rfl) hl.1 rfl (Nat.le_of_ble_eq_true rfl) dX11_done_228 (fun r210 u H locs hw hP hD hS => ?_)
                                                          exact ret r210 () _ _ _ _ _ _ rfl trivial hP hD hS dX11_done_231 (Nat.le_refl _) (Nat.le_refl _)
                                                        · skip
                                                          have zc208 : ¬ (p2.toInt = 0) := by rw [fa_eq, show (0 : Int32).toInt = 0 from by decide] at c208; exact c208
                                                          refine lv_iconst (v := 1) hx hb dX11_done_223 rfl ?_
                                                          refine lv_goto (tgt := 228) hx hb dX11_done_224 rfl ?_
                                                          have lt211 : (1 : Int32).toInt = 1 := by decide
                                                          refine cbSi (n := 1) (rest := []) hx hb hml hown hts hE hP hD hS hA (sY_X11_truth_1 l dC dI cy y0 r 1 v f w g hIv hCf hRf ) k_1761 k_1762 k_114 k_1763 (by decide +kernel) ⟨Nat.le_of_ble_eq_true rfl, Nat.le_of_ble_eq_true rfl⟩ (rfl) hl.1 rfl (Nat.le_of_ble_eq_true rfl) dX11_done_228 (fun r212 u H locs hw hP hD hS => ?_)
                                                          exact ret r212 () _ _ _ _ _ _ rfl trivial hP hD hS dX11_done_231 (Nat.le_refl _) (Nat.le_refl _)
set_option maxHeartbeats 4000000 in
set_option maxRecDepth 100000 in
theorem sY_X11_misfitOf_1 (l : Launch) (dC : Nat → ClassId) (dI : Nat → Nat → Nat) (cy : Nat → ClassId) (y0 : Nat) (r : Nat → Nat) (p1 : Int32) (p2 : Int32) (v : Nat → Int32) (f : Nat → Nat → Int32) (w : Int64) (g : Nat → Int64) (hIv : YI v) (hCf : YC f) (hRf : progOK (f 4) (f 5) (v 9).toInt.toNat) (hp1 : (0 : Int) ≤ p1.toInt ∧ p1.toInt ≤ 5) (hp2 : (0 : Int) ≤ p2.toInt ∧ p2.toInt ≤ 5) : ctI l (dC, dI) cy yX11_misfitOf cX11_misfitOf 5 .int 3 102 0 0 ((Nat → Int32) × (Nat → Nat → Int32) × (Int64) × (Nat → Int64)) [.ref y0, .int p1, .int p2] (YW cy y0 r v f w g) (fun r u => KV [] u.1 v ∧ KF [7, 8] u.2.1 f ∧ YI u.1 ∧ YC u.2.1 ∧ progOK (u.2.1 4) (u.2.1 5) (u.1 9).toInt.toNat ∧ u.1 0 = v 0 ∧ u.1 1 = v 1 ∧ u.1 2 = v 2 ∧ u.1 3 = v 3 ∧ u.1 4 = v 4 ∧ u.1 5 = v 5 ∧ u.1 8 = v 8 ∧ u.1 9 = v 9 ∧ u.1 10 = v 10 ∧ u.1 13 = v 13 ∧ u.1 14 = v 14 ∧ u.1 15 = v 15 ∧ u.1 17 = v 17 ∧ u.1 18 = v 18 ∧ u.1 24 = v 24 ∧ u.1 25 = v 25 ∧ u.1 35 = v 35 ∧ u.1 36 = v 36 ∧ u.1 38 = v 38 ∧ u.1 39 = v 39) (fun u => YW cy y0 r u.1 u.2.1 u.2.2.1 u.2.2.2) := by
  refine ctI_of (by decide) (Nat.le_of_ble_eq_true rfl) (fun p e s m below meth c A ls Q hx hb hml hts hown hE hP hD hA hl ret => ?_)
  have hUv : (v 35).toInt + (v 36).toInt ≤ 40 := hIv.2
  have hs4_f : f 4 = f 4 := rfl
  have hs5_f : f 5 = f 5 := rfl
  have hM_v : KV [] v v := fun _ _ => rfl
  have hA_f : KF [7, 8] f f := fun _ _ => rfl
  have hown : s.vm.findClass RX11 = some m.cls := hown
  have hS : va_S A s.heap s.heap [] := va_S.rf
  have hl : lv_has ls 5 [(0, .ref y0), (1, .int p1), (2, .int p2)] := hl
  refine lv_aload_n hx hb dX11_misfitOf_0 rfl (lv_at hl 0 rfl) ?_
  refine va_get (D := (dC, dI)) (ci := 11) (v := .ref (r 26)) (C := RX11) (T := TX11) (N := 79) hx hb hts inB_11 hown hE.1 hP 0 rfl rfl 26 (Nat.le_of_ble_eq_true rfl) (hts _ k_1346) (fun _ h9 => h9) rfl dX11_misfitOf_1 ?_
  refine lv_iconst (v := 0) hx hb dX11_misfitOf_4 rfl ?_
  refine lv_aload_n hx hb dX11_misfitOf_5 rfl (lv_at hl 0 rfl) ?_
  refine va_get (D := (dC, dI)) (ci := 11) (v := .ref (r 60)) (C := RX11) (T := TX11) (N := 79) hx hb hts inB_11 hown hE.1 hP 0 rfl rfl 60 (Nat.le_of_ble_eq_true rfl) (hts _ k_1380) (fun _ h9 => h9) rfl dX11_misfitOf_6 ?_
  refine lv_iload_n hx hb dX11_misfitOf_9 rfl (lv_at hl 1 rfl) ?_
  refine ldI hx hb hE hP 25 rfl (vp_in_iff.mpr ⟨by omega, by omega⟩) rfl rfl dX11_misfitOf_10 ?_
  refine lv_topi (fun t1 et1 => ?_)
  have zt1 : p1.toInt.toNat % 39 < 6 ∨ 12 ≤ p1.toInt.toNat % 39 ∨ (-1 ≤ t1.toInt ∧ t1.toInt ≤ 5) := by rw [et1]; exact wear_ld hCf.2.1 (show p1.toInt.toNat < 39 by omega)
  refine lv_aload_n hx hb dX11_misfitOf_11 rfl (lv_at hl 0 rfl) ?_
  refine va_get (D := (dC, dI)) (ci := 11) (v := .ref (r 60)) (C := RX11) (T := TX11) (N := 79) hx hb hts inB_11 hown hE.1 hP 0 rfl rfl 60 (Nat.le_of_ble_eq_true rfl) (hts _ k_1380) (fun _ h9 => h9) rfl dX11_misfitOf_12 ?_
  refine lv_bipush (v := 18) hx hb dX11_misfitOf_15 rfl ?_
  refine lv_iload_n hx hb dX11_misfitOf_17 rfl (lv_at hl 2 rfl) ?_
  refine lv_iadd hx hb dX11_misfitOf_18 ?_
  refine lv_topi (fun t2 et2 => ?_)
  have rg3 := fb_rng p2
  have zt2 : t2.toInt = 18 + p2.toInt := by rw [et2]; exact add_i (by decide) rfl (by omega) (by omega)
  refine ldI hx hb hE hP 25 rfl (vp_in_iff.mpr ⟨by omega, by omega⟩) rfl rfl dX11_misfitOf_19 ?_
  refine lv_topi (fun t4 et4 => ?_)
  have zt4 : t2.toInt.toNat % 39 < 6 ∨ 12 ≤ t2.toInt.toNat % 39 ∨ (-1 ≤ t4.toInt ∧ t4.toInt ≤ 5) := by rw [et4]; exact wear_ld hCf.2.1 (show t2.toInt.toNat < 39 by omega)
  refine cbSi (n := 2) (rest := [.int 0, .ref (r 26)]) hx hb hml hown hts hE hP hD hS hA (sY_X11_over_1 l dC dI cy y0 r t1 t4 v f w g hIv hCf hRf ) k_1755 k_1756 k_114 k_1757 (by decide +kernel) ⟨Nat.le_of_ble_eq_true rfl, Nat.le_of_ble_eq_true rfl⟩ (rfl) hl.1 rfl (Nat.le_of_ble_eq_true rfl) dX11_misfitOf_20 (fun r5 u H locs hw hP hD hS => ?_)
  refine stI hx hb hE hP hD hS 9 rfl (vp_in_nI (n := 0) (by decide) (by decide)) rfl dX11_misfitOf_23 (fun H locs hP hD hS => ?_)
  obtain ⟨f6, ef6, hP, hD⟩ : ∃ fz9, fz9 = upd2 f 8 (upd (f 8) (0 : Int32).toNatClampNeg r5) ∧ va_P (dC, dI) vwCl (YW cy y0 r v fz9 w g) H ∧ va_D A (YW cy y0 r v fz9 w g) := ⟨_, rfl, hP, hD⟩
  have hCf6 : YC f6 := by rw [ef6]; exact hCf
  have hs4_f6 : f6 4 = f 4 := by rw [ef6]; exact hs4_f
  have hs5_f6 : f6 5 = f 5 := by rw [ef6]; exact hs5_f
  have hRf6 : progOK (f6 4) (f6 5) (v 9).toInt.toNat := by rw [ef6]; exact hRf
  have hA_f6 : KF [7, 8] f6 f := by rw [ef6]; exact KF.up hA_f rfl
  refine lv_aload_n hx hb dX11_misfitOf_24 rfl (lv_at hl 0 rfl) ?_
  refine va_get (D := (dC, dI)) (ci := 11) (v := .ref (r 26)) (C := RX11) (T := TX11) (N := 79) hx hb hts inB_11 hown hE.1 hP 0 rfl rfl 26 (Nat.le_of_ble_eq_true rfl) (hts _ k_1346) (fun _ h9 => h9) rfl dX11_misfitOf_25 ?_
  refine lv_iconst (v := 1) hx hb dX11_misfitOf_28 rfl ?_
  refine lv_aload_n hx hb dX11_misfitOf_29 rfl (lv_at hl 0 rfl) ?_
  refine va_get (D := (dC, dI)) (ci := 11) (v := .ref (r 60)) (C := RX11) (T := TX11) (N := 79) hx hb hts inB_11 hown hE.1 hP 0 rfl rfl 60 (Nat.le_of_ble_eq_true rfl) (hts _ k_1380) (fun _ h9 => h9) rfl dX11_misfitOf_30 ?_
  refine lv_bipush (v := 18) hx hb dX11_misfitOf_33 rfl ?_
  refine lv_iload_n hx hb dX11_misfitOf_35 rfl (lv_at hl 2 rfl) ?_
  refine lv_iadd hx hb dX11_misfitOf_36 ?_
  refine tI (y := t2) et2.symm ?_
  refine ldI hx hb hE hP 25 rfl (vp_in_iff.mpr ⟨by omega, by omega⟩) rfl rfl dX11_misfitOf_37 ?_
  refine lv_topi (fun t7 et7 => ?_)
  have zt7 : t2.toInt.toNat % 39 < 6 ∨ 12 ≤ t2.toInt.toNat % 39 ∨ (-1 ≤ t7.toInt ∧ t7.toInt ≤ 5) := by rw [et7]; exact wear_ld hCf6.2.1 (show t2.toInt.toNat < 39 by omega)
  refine lv_aload_n hx hb dX11_misfitOf_38 rfl (lv_at hl 0 rfl) ?_
  refine va_get (D := (dC, dI)) (ci := 11) (v := .ref (r 60)) (C := RX11) (T := TX11) (N := 79) hx hb hts inB_11 hown hE.1 hP 0 rfl rfl 60 (Nat.le_of_ble_eq_true rfl) (hts _ k_1380) (fun _ h9 => h9) rfl dX11_misfitOf_39 ?_
  refine lv_iload_n hx hb dX11_misfitOf_42 rfl (lv_at hl 1 rfl) ?_
  refine ldI hx hb hE hP 25 rfl (vp_in_iff.mpr ⟨by omega, by omega⟩) rfl rfl dX11_misfitOf_43 ?_
  refine lv_topi (fun t8 et8 => ?_)
  have zt8 : p1.toInt.toNat % 39 < 6 ∨ 12 ≤ p1.toInt.toNat % 39 ∨ (-1 ≤ t8.toInt ∧ t8.toInt ≤ 5) := by rw [et8]; exact wear_ld hCf6.2.1 (show p1.toInt.toNat < 39 by omega)
  refine cbSi (n := 2) (rest := [.int 1, .ref (r 26)]) hx hb hml hown hts hE hP hD hS hA (sY_X11_over_1 l dC dI cy y0 r t7 t8 v f6 w g hIv hCf6 hRf6 ) k_1755 k_1756 k_114 k_1757 (by decide +kernel) ⟨Nat.le_of_ble_eq_true rfl, Nat.le_of_ble_eq_true rfl⟩ (rfl) hl.1 rfl (Nat.le_of_ble_eq_true rfl) dX11_misfitOf_44 (fun r9 u H locs hw hP hD hS => ?_)
  refine stI hx hb hE hP hD hS 9 rfl (vp_in_nI (n := 1) (by decide) (by decide)) rfl dX11_misfitOf_47 (fun H locs hP hD hS => ?_)
  obtain ⟨f10, ef10, hP, hD⟩ : ∃ fz9, fz9 = upd2 f6 8 (upd (f6 8) (1 : Int32).toNatClampNeg r9) ∧ va_P (dC, dI) vwCl (YW cy y0 r v fz9 w g) H ∧ va_D A (YW cy y0 r v fz9 w g) := ⟨_, rfl, hP, hD⟩
  have hCf10 : YC f10 := by rw [ef10]; exact hCf6
  have hs4_f10 : f10 4 = f 4 := by rw [ef10]; exact hs4_f6
  have hs5_f10 : f10 5 = f 5 := by rw [ef10]; exact hs5_f6
  have hRf10 : progOK (f10 4) (f10 5) (v 9).toInt.toNat := by rw [ef10]; exact hRf6
  have hA_f10 : KF [7, 8] f10 f := by rw [ef10]; exact KF.up hA_f6 rfl
  refine lv_aload_n hx hb dX11_misfitOf_48 rfl (lv_at hl 0 rfl) ?_
  refine va_get (D := (dC, dI)) (ci := 11) (v := .ref (r 26)) (C := RX11) (T := TX11) (N := 79) hx hb hts inB_11 hown hE.1 hP 0 rfl rfl 26 (Nat.le_of_ble_eq_true rfl) (hts _ k_1346) (fun _ h9 => h9) rfl dX11_misfitOf_49 ?_
  refine lv_iconst (v := 2) hx hb dX11_misfitOf_52 rfl ?_
  refine lv_aload_n hx hb dX11_misfitOf_53 rfl (lv_at hl 0 rfl) ?_
  refine va_get (D := (dC, dI)) (ci := 11) (v := .ref (r 34)) (C := RX11) (T := TX11) (N := 79) hx hb hts inB_11 hown hE.1 hP 0 rfl rfl 34 (Nat.le_of_ble_eq_true rfl) (hts _ k_1354) (fun _ h9 => h9) rfl dX11_misfitOf_54 ?_
  refine lv_iload_n hx hb dX11_misfitOf_57 rfl (lv_at hl 1 rfl) ?_
  refine ldI hx hb hE hP 17 rfl (vp_in_iff.mpr ⟨by omega, by omega⟩) rfl rfl dX11_misfitOf_58 ?_
  refine lv_topi (fun t11 et11 => ?_)
  refine lv_aload_n hx hb dX11_misfitOf_59 rfl (lv_at hl 0 rfl) ?_
  refine va_get (D := (dC, dI)) (ci := 11) (v := .ref (r 60)) (C := RX11) (T := TX11) (N := 79) hx hb hts inB_11 hown hE.1 hP 0 rfl rfl 60 (Nat.le_of_ble_eq_true rfl) (hts _ k_1380) (fun _ h9 => h9) rfl dX11_misfitOf_60 ?_
  refine lv_bipush (v := 12) hx hb dX11_misfitOf_63 rfl ?_
  refine lv_iload_n hx hb dX11_misfitOf_65 rfl (lv_at hl 2 rfl) ?_
  refine lv_iadd hx hb dX11_misfitOf_66 ?_
  refine lv_topi (fun t12 et12 => ?_)
  have zt12 : t12.toInt = 12 + p2.toInt := by rw [et12]; exact add_i (by decide) rfl (by omega) (by omega)
  refine ldI hx hb hE hP 25 rfl (vp_in_iff.mpr ⟨by omega, by omega⟩) rfl rfl dX11_misfitOf_67 ?_
  refine lv_topi (fun t13 et13 => ?_)
  have zt13 : t12.toInt.toNat % 39 < 6 ∨ 12 ≤ t12.toInt.toNat % 39 ∨ (-1 ≤ t13.toInt ∧ t13.toInt ≤ 5) := by rw [et13]; exact wear_ld hCf10.2.1 (show t12.toInt.toNat < 39 by omega)
  refine cbSi (n := 2) (rest := [.int 2, .ref (r 26)]) hx hb hml hown hts hE hP hD hS hA (sY_X11_over_1 l dC dI cy y0 r t11 t13 v f10 w g hIv hCf10 hRf10 ) k_1755 k_1756 k_114 k_1757 (by decide +kernel) ⟨Nat.le_of_ble_eq_true rfl, Nat.le_of_ble_eq_true rfl⟩ (rfl) hl.1 rfl (Nat.le_of_ble_eq_true rfl) dX11_misfitOf_68 (fun r14 u H locs hw hP hD hS => ?_)
  refine stI hx hb hE hP hD hS 9 rfl (vp_in_nI (n := 2) (by decide) (by decide)) rfl dX11_misfitOf_71 (fun H locs hP hD hS => ?_)
  obtain ⟨f15, ef15, hP, hD⟩ : ∃ fz9, fz9 = upd2 f10 8 (upd (f10 8) (2 : Int32).toNatClampNeg r14) ∧ va_P (dC, dI) vwCl (YW cy y0 r v fz9 w g) H ∧ va_D A (YW cy y0 r v fz9 w g) := ⟨_, rfl, hP, hD⟩
  have hCf15 : YC f15 := by rw [ef15]; exact hCf10
  have hs4_f15 : f15 4 = f 4 := by rw [ef15]; exact hs4_f10
  have hs5_f15 : f15 5 = f 5 := by rw [ef15]; exact hs5_f10
  have hRf15 : progOK (f15 4) (f15 5) (v 9).toInt.toNat := by rw [ef15]; exact hRf10
  have hA_f15 : KF [7, 8] f15 f := by rw [ef15]; exact KF.up hA_f10 rfl
  refine lv_aload_n hx hb dX11_misfitOf_72 rfl (lv_at hl 0 rfl) ?_
  refine va_get (D := (dC, dI)) (ci := 11) (v := .ref (r 26)) (C := RX11) (T := TX11) (N := 79) hx hb hts inB_11 hown hE.1 hP 0 rfl rfl 26 (Nat.le_of_ble_eq_true rfl) (hts _ k_1346) (fun _ h9 => h9) rfl dX11_misfitOf_73 ?_
  refine lv_iconst (v := 3) hx hb dX11_misfitOf_76 rfl ?_
  refine lv_aload_n hx hb dX11_misfitOf_77 rfl (lv_at hl 0 rfl) ?_
  refine va_get (D := (dC, dI)) (ci := 11) (v := .ref (r 60)) (C := RX11) (T := TX11) (N := 79) hx hb hts inB_11 hown hE.1 hP 0 rfl rfl 60 (Nat.le_of_ble_eq_true rfl) (hts _ k_1380) (fun _ h9 => h9) rfl dX11_misfitOf_78 ?_
  refine lv_bipush (v := 12) hx hb dX11_misfitOf_81 rfl ?_
  refine lv_iload_n hx hb dX11_misfitOf_83 rfl (lv_at hl 2 rfl) ?_
  refine lv_iadd hx hb dX11_misfitOf_84 ?_
  refine tI (y := t12) et12.symm ?_
  refine ldI hx hb hE hP 25 rfl (vp_in_iff.mpr ⟨by omega, by omega⟩) rfl rfl dX11_misfitOf_85 ?_
  refine lv_topi (fun t16 et16 => ?_)
  have zt16 : t12.toInt.toNat % 39 < 6 ∨ 12 ≤ t12.toInt.toNat % 39 ∨ (-1 ≤ t16.toInt ∧ t16.toInt ≤ 5) := by rw [et16]; exact wear_ld hCf15.2.1 (show t12.toInt.toNat < 39 by omega)
  refine lv_aload_n hx hb dX11_misfitOf_86 rfl (lv_at hl 0 rfl) ?_
  refine va_get (D := (dC, dI)) (ci := 11) (v := .ref (r 34)) (C := RX11) (T := TX11) (N := 79) hx hb hts inB_11 hown hE.1 hP 0 rfl rfl 34 (Nat.le_of_ble_eq_true rfl) (hts _ k_1354) (fun _ h9 => h9) rfl dX11_misfitOf_87 ?_
  refine lv_iload_n hx hb dX11_misfitOf_90 rfl (lv_at hl 1 rfl) ?_
  refine ldI hx hb hE hP 17 rfl (vp_in_iff.mpr ⟨by omega, by omega⟩) rfl rfl dX11_misfitOf_91 ?_
  refine lv_topi (fun t17 et17 => ?_)
  refine cbSi (n := 2) (rest := [.int 3, .ref (r 26)]) hx hb hml hown hts hE hP hD hS hA (sY_X11_over_1 l dC dI cy y0 r t16 t17 v f15 w g hIv hCf15 hRf15 ) k_1755 k_1756 k_114 k_1757 (by decide +kernel) ⟨Nat.le_of_ble_eq_true rfl, Nat.le_of_ble_eq_true rfl⟩ (rfl) hl.1 rfl (Nat.le_of_ble_eq_true rfl) dX11_misfitOf_92 (fun r18 u H locs hw hP hD hS => ?_)
  refine stI hx hb hE hP hD hS 9 rfl (vp_in_nI (n := 3) (by decide) (by decide)) rfl dX11_misfitOf_95 (fun H locs hP hD hS => ?_)
  obtain ⟨f19, ef19, hP, hD⟩ : ∃ fz9, fz9 = upd2 f15 8 (upd (f15 8) (3 : Int32).toNatClampNeg r18) ∧ va_P (dC, dI) vwCl (YW cy y0 r v fz9 w g) H ∧ va_D A (YW cy y0 r v fz9 w g) := ⟨_, rfl, hP, hD⟩
  have hCf19 : YC f19 := by rw [ef19]; exact hCf15
  have hs4_f19 : f19 4 = f 4 := by rw [ef19]; exact hs4_f15
  have hs5_f19 : f19 5 = f 5 := by rw [ef19]; exact hs5_f15
  have hRf19 : progOK (f19 4) (f19 5) (v 9).toInt.toNat := by rw [ef19]; exact hRf15
  have hA_f19 : KF [7, 8] f19 f := by rw [ef19]; exact KF.up hA_f15 rfl
  refine lv_aload_n hx hb dX11_misfitOf_96 rfl (lv_at hl 0 rfl) ?_
  refine va_get (D := (dC, dI)) (ci := 11) (v := .ref (r 26)) (C := RX11) (T := TX11) (N := 79) hx hb hts inB_11 hown hE.1 hP 0 rfl rfl 26 (Nat.le_of_ble_eq_true rfl) (hts _ k_1346) (fun _ h9 => h9) rfl dX11_misfitOf_97 ?_
  refine lv_iconst (v := 4) hx hb dX11_misfitOf_100 rfl ?_
  refine lv_aload_n hx hb dX11_misfitOf_101 rfl (lv_at hl 0 rfl) ?_
  refine va_get (D := (dC, dI)) (ci := 11) (v := .ref (r 60)) (C := RX11) (T := TX11) (N := 79) hx hb hts inB_11 hown hE.1 hP 0 rfl rfl 60 (Nat.le_of_ble_eq_true rfl) (hts _ k_1380) (fun _ h9 => h9) rfl dX11_misfitOf_102 ?_
  refine lv_bipush (v := 30) hx hb dX11_misfitOf_105 rfl ?_
  refine lv_iload_n hx hb dX11_misfitOf_107 rfl (lv_at hl 2 rfl) ?_
  refine lv_iadd hx hb dX11_misfitOf_108 ?_
  refine lv_topi (fun t20 et20 => ?_)
  have zt20 : t20.toInt = 30 + p2.toInt := by rw [et20]; exact add_i (by decide) rfl (by omega) (by omega)
  refine ldI hx hb hE hP 25 rfl (vp_in_iff.mpr ⟨by omega, by omega⟩) rfl rfl dX11_misfitOf_109 ?_
  refine lv_topi (fun t21 et21 => ?_)
  have zt21 : t20.toInt.toNat % 39 < 6 ∨ 12 ≤ t20.toInt.toNat % 39 ∨ (-1 ≤ t21.toInt ∧ t21.toInt ≤ 5) := by rw [et21]; exact wear_ld hCf19.2.1 (show t20.toInt.toNat < 39 by omega)
  refine stI hx hb hE hP hD hS 9 rfl (vp_in_nI (n := 4) (by decide) (by decide)) rfl dX11_misfitOf_110 (fun H locs hP hD hS => ?_)
  obtain ⟨f22, ef22, hP, hD⟩ : ∃ fz9, fz9 = upd2 f19 8 (upd (f19 8) (4 : Int32).toNatClampNeg t21) ∧ va_P (dC, dI) vwCl (YW cy y0 r v fz9 w g) H ∧ va_D A (YW cy y0 r v fz9 w g) := ⟨_, rfl, hP, hD⟩
  have hCf22 : YC f22 := by rw [ef22]; exact hCf19
  have hs4_f22 : f22 4 = f 4 := by rw [ef22]; exact hs4_f19
  have hs5_f22 : f22 5 = f 5 := by rw [ef22]; exact hs5_f19
  have hRf22 : progOK (f22 4) (f22 5) (v 9).toInt.toNat := by rw [ef22]; exact hRf19
  have hA_f22 : KF [7, 8] f22 f := by rw [ef22]; exact KF.up hA_f19 rfl
  refine lv_aload_n hx hb dX11_misfitOf_111 rfl (lv_at hl 0 rfl) ?_
  refine va_get (D := (dC, dI)) (ci := 11) (v := .ref (r 26)) (C := RX11) (T := TX11) (N := 79) hx hb hts inB_11 hown hE.1 hP 0 rfl rfl 26 (Nat.le_of_ble_eq_true rfl) (hts _ k_1346) (fun _ h9 => h9) rfl dX11_misfitOf_112 ?_
  refine lv_iconst (v := 5) hx hb dX11_misfitOf_115 rfl ?_
  refine lv_aload_n hx hb dX11_misfitOf_116 rfl (lv_at hl 0 rfl) ?_
  refine va_get (D := (dC, dI)) (ci := 11) (v := .ref (r 60)) (C := RX11) (T := TX11) (N := 79) hx hb hts inB_11 hown hE.1 hP 0 rfl rfl 60 (Nat.le_of_ble_eq_true rfl) (hts _ k_1380) (fun _ h9 => h9) rfl dX11_misfitOf_117 ?_
  refine lv_bipush (v := 37) hx hb dX11_misfitOf_120 rfl ?_
  refine ldI hx hb hE hP 25 rfl (vp_in_nI (n := 37) (by decide) (by decide)) rfl rfl dX11_misfitOf_122 ?_
  refine lv_topi (fun t23 et23 => ?_)
  have zt23 : 37 % 39 < 6 ∨ 12 ≤ 37 % 39 ∨ (-1 ≤ t23.toInt ∧ t23.toInt ≤ 5) := by rw [et23]; exact wear_ld hCf22.2.1 (show 37 < 39 by omega)
  refine stI hx hb hE hP hD hS 9 rfl (vp_in_nI (n := 5) (by decide) (by decide)) rfl dX11_misfitOf_123 (fun H locs hP hD hS => ?_)
  obtain ⟨f24, ef24, hP, hD⟩ : ∃ fz9, fz9 = upd2 f22 8 (upd (f22 8) (5 : Int32).toNatClampNeg t23) ∧ va_P (dC, dI) vwCl (YW cy y0 r v fz9 w g) H ∧ va_D A (YW cy y0 r v fz9 w g) := ⟨_, rfl, hP, hD⟩
  have hCf24 : YC f24 := by rw [ef24]; exact hCf22
  have hs4_f24 : f24 4 = f 4 := by rw [ef24]; exact hs4_f22
  have hs5_f24 : f24 5 = f 5 := by rw [ef24]; exact hs5_f22
  have hRf24 : progOK (f24 4) (f24 5) (v 9).toInt.toNat := by rw [ef24]; exact hRf22
  have hA_f24 : KF [7, 8] f24 f := by rw [ef24]; exact KF.up hA_f22 rfl
  refine lv_aload_n hx hb dX11_misfitOf_124 rfl (lv_at hl 0 rfl) ?_
  refine va_get (D := (dC, dI)) (ci := 11) (v := .int (v 16)) (C := RX11) (T := TX11) (N := 79) hx hb hts inB_11 hown hE.1 hP 0 rfl rfl 25 (Nat.le_of_ble_eq_true rfl) (hts _ k_1345) (fun _ h9 => h9) rfl dX11_misfitOf_125 ?_
  refine lv_if_ne (tgt := 176) hx hb dX11_misfitOf_128 rfl (fun c25 => ?_) (fun c25 => ?_)
  · skip
    have zc25 : ¬ ((v 16).toInt = 0) := by rw [fa_eq, show (0 : Int32).toInt = 0 from by decide] at c25; exact c25
    refine lv_iconst (v := 0) hx hb dX11_misfitOf_176 rfl ?_
    refine lv_istore_n (lv' := [(3, .int 0), (0, .ref y0), (1, .int p1), (2, .int p2)]) hx hb dX11_misfitOf_177 rfl hl (Nat.le_of_ble_eq_true rfl) rfl (fun ls hl => ?_)
    refine lv_iconst (v := 0) hx hb dX11_misfitOf_178 rfl ?_
    refine lv_istore (lv' := [(4, .int 0), (3, .int 0), (0, .ref y0), (1, .int p1), (2, .int p2)]) hx hb dX11_misfitOf_179 hl (Nat.le_of_ble_eq_true rfl) rfl (fun ls hl => ?_)
    have lp26 : ∀ (n26 : Nat) (l3_26 : Int32) (l4_26 : Int32) (v26 : Nat → Int32) (f26 : Nat → Nat → Int32) (w26 : Int64) (g26 : Nat → Int64), YI v26 → YC f26 → progOK (f26 4) (f26 5) (v26 9).toInt.toNat → v26 0 = (v 0) → v26 1 = (v 1) → v26 2 = (v 2) → v26 3 = (v 3) → v26 4 = (v 4) → v26 5 = (v 5) → v26 8 = (v 8) → v26 9 = (v 9) → v26 10 = (v 10) → v26 13 = (v 13) → v26 14 = (v 14) → v26 15 = (v 15) → v26 17 = (v 17) → v26 18 = (v 18) → v26 24 = (v 24) → v26 25 = (v 25) → v26 35 = (v 35) → v26 36 = (v 36) → v26 38 = (v 38) → v26 39 = (v 39) → ((0 : Int) ≤ l3_26.toInt ∧ l3_26.toInt ≤ 64) → ((0 : Int) ≤ l4_26.toInt ∧ l4_26.toInt ≤ 2147483647) → (l3_26.toInt = dpF (f 4) (l4_26.toInt).toNat) → f26 4 = f 4 → f26 5 = f 5 → KV [] v26 v → KF [7, 8] f26 f → (2147483647 - l4_26.toInt).toNat < n26 → ∀ (H : Heap) (locs : List Loc) (ls : Array Slot), va_P (dC, dI) vwCl (YW cy y0 r v26 f26 w26 g26) H → va_D A (YW cy y0 r v26 f26 w26 g26) → va_S A s.heap H locs → lv_has ls 5 [(4, .int l4_26), (3, .int l3_26), (0, .ref y0), (1, .int p1), (2, .int p2)] → W p l e { frames := 3, cells := 0, slots := 0, locals := 102 } s m ([.ref y0, .int p1, .int p2] : List Value).toArray below meth c H locs 0 0 Q (F0 m 181 ls []) := by
      intro n26
      induction n26 with
      | zero => intro l3_26 l4_26 v26 f26 w26 g26 hIv26 hCf26 hRf26 hq0_v26 hq1_v26 hq2_v26 hq3_v26 hq4_v26 hq5_v26 hq8_v26 hq9_v26 hq10_v26 hq13_v26 hq14_v26 hq15_v26 hq17_v26 hq18_v26 hq24_v26 hq25_v26 hq35_v26 hq36_v26 hq38_v26 hq39_v26 hr3_26 hr4_26 hx0_26 hs4_f26 hs5_f26 hM_v26 hA_f26 hm; exact absurd hm (Nat.not_lt_zero _)
      | succ n26 ih26 =>
        intro l3_26 l4_26 v26 f26 w26 g26 hIv26 hCf26 hRf26 hq0_v26 hq1_v26 hq2_v26 hq3_v26 hq4_v26 hq5_v26 hq8_v26 hq9_v26 hq10_v26 hq13_v26 hq14_v26 hq15_v26 hq17_v26 hq18_v26 hq24_v26 hq25_v26 hq35_v26 hq36_v26 hq38_v26 hq39_v26 hr3_26 hr4_26 hx0_26 hs4_f26 hs5_f26 hM_v26 hA_f26 hm26 H locs ls hP hD hS hl
        have hUv26 : (v26 35).toInt + (v26 36).toInt ≤ 40 := hIv26.2
        have zq9_v26 := congrArg Int32.toInt hq9_v26
        refine lv_iload hx hb dX11_misfitOf_181 (lv_at hl 0 rfl) ?_
        refine lv_aload_n hx hb dX11_misfitOf_183 rfl (lv_at hl 2 rfl) ?_
        refine va_get (D := (dC, dI)) (ci := 11) (v := .int (v26 9)) (C := RX11) (T := TX11) (N := 79) hx hb hts inB_11 hown hE.1 hP 0 rfl rfl 18 (Nat.le_of_ble_eq_true rfl) (hts _ k_1338) (fun _ h9 => h9) rfl dX11_misfitOf_184 ?_
        refine tI (y := (v 9)) hq9_v26 ?_
        have b9_v : 0 ≤ (v 9).toInt ∧ (v 9).toInt ≤ 320 := YIb.b hIv.1 9 (by decide)
        refine lv_icmp_ge (tgt := 337) hx hb dX11_misfitOf_187 rfl (fun c27 => ?_) (fun c27 => ?_)
        · skip
          have zc27 : (v 9).toInt ≤ l4_26.toInt := by rw [fa_le] at c27; exact c27
          have rg28 := fb_rng l4_26
          have rg29 := fb_rng (v 9)
          refine lv_aload_n hx hb dX11_misfitOf_337 rfl (lv_at hl 2 rfl) ?_
          refine va_get (D := (dC, dI)) (ci := 11) (v := .ref (r 16)) (C := RX11) (T := TX11) (N := 79) hx hb hts inB_11 hown hE.1 hP 0 rfl rfl 16 (Nat.le_of_ble_eq_true rfl) (hts _ k_1336) (fun _ h9 => h9) rfl dX11_misfitOf_338 ?_
          refine lv_iconst (v := 0) hx hb dX11_misfitOf_341 rfl ?_
          refine ldI hx hb hE hP 8 rfl (vp_in_nI (n := 0) (by decide) (by decide)) rfl rfl dX11_misfitOf_342 ?_
          refine lv_topi (fun t30 et30 => ?_)
          refine lv_sipush (v := 999) hx hb dX11_misfitOf_343 rfl ?_
          refine cbSi (n := 2) (rest := []) hx hb hml hown hts hE hP hD hS hA (sY_X11_within_1 l dC dI cy y0 r t30 999 v26 f26 w26 g26 hIv26 hCf26 hRf26 ) k_1758 k_1759 k_114 k_1760 (by decide +kernel) ⟨Nat.le_of_ble_eq_true rfl, Nat.le_of_ble_eq_true rfl⟩ (rfl) hl.1 rfl (Nat.le_of_ble_eq_true rfl) dX11_misfitOf_346 (fun r31 u H locs hw hP hD hS => ?_)
          exact ret r31 (v26, f26, w26, g26) _ _ _ _ _ _ rfl ⟨hM_v26, hA_f26, hIv26, hCf26, hRf26, (show v26 0 = v 0 from hq0_v26), (show v26 1 = v 1 from hq1_v26), (show v26 2 = v 2 from hq2_v26), (show v26 3 = v 3 from hq3_v26), (show v26 4 = v 4 from hq4_v26), (show v26 5 = v 5 from hq5_v26), (show v26 8 = v 8 from hq8_v26), (show v26 9 = v 9 from hq9_v26), (show v26 10 = v 10 from hq10_v26), (show v26 13 = v 13 from hq13_v26), (show v26 14 = v 14 from hq14_v26), (show v26 15 = v 15 from hq15_v26), (show v26 17 = v 17 from hq17_v26), (show v26 18 = v 18 from hq18_v26), (show v26 24 = v 24 from hq24_v26), (show v26 25 = v 25 from hq25_v26), (show v26 35 = v 35 from hq35_v26), (show v26 36 = v 36 from hq36_v26), (show v26 38 = v 38 from hq38_v26), (show v26 39 = v 39 from hq39_v26)⟩ hP hD hS dX11_misfitOf_349 (Nat.le_refl _) (Nat.le_refl _)
        · skip
          have zc27 : ¬ ((v 9).toInt ≤ l4_26.toInt) := by rw [fa_le] at c27; exact c27
          have rg32 := fb_rng l4_26
          have rg33 := fb_rng (v 9)
          refine lv_aload_n hx hb dX11_misfitOf_190 rfl (lv_at hl 2 rfl) ?_
          refine va_get (D := (dC, dI)) (ci := 11) (v := .ref (r 13)) (C := RX11) (T := TX11) (N := 79) hx hb hts inB_11 hown hE.1 hP 0 rfl rfl 13 (Nat.le_of_ble_eq_true rfl) (hts _ k_1333) (fun _ h9 => h9) rfl dX11_misfitOf_191 ?_
          refine lv_iload hx hb dX11_misfitOf_194 (lv_at hl 0 rfl) ?_
          refine ldI hx hb hE hP 5 rfl (vp_in_iff.mpr ⟨by omega, by omega⟩) rfl rfl dX11_misfitOf_196 ?_
          refine lv_topi (fun t34 et34 => ?_)
          have hpt34 := prog_facts hRf26 (s := l4_26.toInt.toNat) (by omega) (t := t34) et34
          rw [hs4_f26, hs5_f26] at hpt34
          refine lv_if_eq (tgt := 211) hx hb dX11_misfitOf_197 rfl (fun c35 => ?_) (fun c35 => ?_)
          · skip
            have zc35 : t34.toInt = 0 := by rw [fa_eq, show (0 : Int32).toInt = 0 from by decide] at c35; exact c35
            refine lv_aload_n hx hb dX11_misfitOf_211 rfl (lv_at hl 2 rfl) ?_
            refine va_get (D := (dC, dI)) (ci := 11) (v := .ref (r 16)) (C := RX11) (T := TX11) (N := 79) hx hb hts inB_11 hown hE.1 hP 0 rfl rfl 16 (Nat.le_of_ble_eq_true rfl) (hts _ k_1336) (fun _ h9 => h9) rfl dX11_misfitOf_212 ?_
            refine lv_iload_n hx hb dX11_misfitOf_215 rfl (lv_at hl 1 rfl) ?_
            refine lv_aload_n hx hb dX11_misfitOf_216 rfl (lv_at hl 2 rfl) ?_
            refine va_get (D := (dC, dI)) (ci := 11) (v := .ref (r 13)) (C := RX11) (T := TX11) (N := 79) hx hb hts inB_11 hown hE.1 hP 0 rfl rfl 13 (Nat.le_of_ble_eq_true rfl) (hts _ k_1333) (fun _ h9 => h9) rfl dX11_misfitOf_217 ?_
            refine lv_iload hx hb dX11_misfitOf_220 (lv_at hl 0 rfl) ?_
            refine ldI hx hb hE hP 5 rfl (vp_in_iff.mpr ⟨by omega, by omega⟩) rfl rfl dX11_misfitOf_222 ?_
            refine tI (y := t34) et34.symm ?_
            refine lv_if_ne (tgt := 236) hx hb dX11_misfitOf_223 rfl (fun c36 => ?_) (fun c36 => ?_)
            · skip
              have zc36 : ¬ (t34.toInt = 0) := by rw [fa_eq, show (0 : Int32).toInt = 0 from by decide] at c36; exact c36
              refine lv_aload_n hx hb dX11_misfitOf_236 rfl (lv_at hl 2 rfl) ?_
              refine va_get (D := (dC, dI)) (ci := 11) (v := .ref (r 26)) (C := RX11) (T := TX11) (N := 79) hx hb hts inB_11 hown hE.1 hP 0 rfl rfl 26 (Nat.le_of_ble_eq_true rfl) (hts _ k_1346) (fun _ h9 => h9) rfl dX11_misfitOf_237 ?_
              refine lv_aload_n hx hb dX11_misfitOf_240 rfl (lv_at hl 2 rfl) ?_
              refine va_get (D := (dC, dI)) (ci := 11) (v := .ref (r 14)) (C := RX11) (T := TX11) (N := 79) hx hb hts inB_11 hown hE.1 hP 0 rfl rfl 14 (Nat.le_of_ble_eq_true rfl) (hts _ k_1334) (fun _ h9 => h9) rfl dX11_misfitOf_241 ?_
              refine lv_iload hx hb dX11_misfitOf_244 (lv_at hl 0 rfl) ?_
              refine ldI hx hb hE hP 6 rfl (vp_in_iff.mpr ⟨by omega, by omega⟩) rfl rfl dX11_misfitOf_246 ?_
              refine lv_topi (fun t37 et37 => ?_)
              have hat37 : t37.toInt = (f 5 l4_26.toInt.toNat).toInt := by rw [et37, hs5_f26]; rfl
              refine ldI hx hb hE hP 9 rfl (vp_in_iff.mpr ⟨by omega, by omega⟩) rfl rfl dX11_misfitOf_247 ?_
              refine lv_topi (fun t38 et38 => ?_)
              refine stI hx hb hE hP hD hS 8 rfl (vp_in_iff.mpr ⟨by omega, by omega⟩) rfl dX11_misfitOf_248 (fun H locs hP hD hS => ?_)
              obtain ⟨f39, ef39, hP, hD⟩ : ∃ fz9, fz9 = upd2 f26 7 (upd (f26 7) l3_26.toNatClampNeg t38) ∧ va_P (dC, dI) vwCl (YW cy y0 r v26 fz9 w26 g26) H ∧ va_D A (YW cy y0 r v26 fz9 w26 g26) := ⟨_, rfl, hP, hD⟩
              have hCf39 : YC f39 := by rw [ef39]; exact hCf26
              have hs4_f39 : f39 4 = f 4 := by rw [ef39]; exact hs4_f26
              have hs5_f39 : f39 5 = f 5 := by rw [ef39]; exact hs5_f26
              have hRf39 : progOK (f39 4) (f39 5) (v26 9).toInt.toNat := by rw [ef39]; exact hRf26
              have hA_f39 : KF [7, 8] f39 f := by rw [ef39]; exact KF.up hA_f26 rfl
              obtain ⟨t40, et40⟩ : ∃ y : Int32, y = l3_26 + 1 := ⟨_, rfl⟩
              have rg41 := fb_rng l3_26
              have zt40 : t40.toInt = l3_26.toInt + 1 := by rw [et40]; exact add_i rfl (by decide) (by omega) (by omega)
              refine lv_iinc (v := t40) (lv' := [(3, .int t40), (4, .int l4_26), (0, .ref y0), (1, .int p1), (2, .int p2)]) hx hb dX11_misfitOf_249 hl (k := 1) rfl (by rw [et40]; rfl) (by decide) rfl (fun ls hl => ?_)
              refine lv_goto (tgt := 331) hx hb dX11_misfitOf_252 rfl ?_
              obtain ⟨t42, et42⟩ : ∃ y : Int32, y = l4_26 + 1 := ⟨_, rfl⟩
              have zt42 : t42.toInt = l4_26.toInt + 1 := by rw [et42]; exact add_i rfl (by decide) (by omega) (by omega)
              refine lv_iinc (v := t42) (lv' := [(4, .int t42), (3, .int t40), (0, .ref y0), (1, .int p1), (2, .int p2)]) hx hb dX11_misfitOf_331 hl (k := 1) rfl (by rw [et42]; rfl) (by decide) rfl (fun ls hl => ?_)
              refine lv_goto (tgt := 181) hx hb dX11_misfitOf_334 rfl ?_
              have rg43 := fb_rng t40
              have rg44 := fb_rng t42
              exact ih26 t40 t42 v26 f39 w26 g26 hIv26 hCf39 hRf39 hq0_v26 hq1_v26 hq2_v26 hq3_v26 hq4_v26 hq5_v26 hq8_v26 hq9_v26 hq10_v26 hq13_v26 hq14_v26 hq15_v26 hq17_v26 hq18_v26 hq24_v26 hq25_v26 hq35_v26 hq36_v26 hq38_v26 hq39_v26 ⟨show (0 : Int) ≤ t40.toInt by omega, show t40.toInt ≤ (64 : Int) by omega⟩ ⟨show (0 : Int) ≤ t42.toInt by omega, show t42.toInt ≤ (2147483647 : Int) by omega⟩ (by rw [show (t42.toInt).toNat = (l4_26.toInt).toNat + 1 by omega]; omega) hs4_f39 hs5_f39 hM_v26 hA_f39 (by show (2147483647 - t42.toInt).toNat < n26; omega) _ _ _ hP hD hS (lv_sub hl [0, 1, 2, 3, 4] rfl)
            · skip
              have zc36 : t34.toInt = 0 := by rw [fa_eq, show (0 : Int32).toInt = 0 from by decide] at c36; exact c36
              refine lv_aload_n hx hb dX11_misfitOf_226 rfl (lv_at hl 2 rfl) ?_
              refine va_get (D := (dC, dI)) (ci := 11) (v := .ref (r 14)) (C := RX11) (T := TX11) (N := 79) hx hb hts inB_11 hown hE.1 hP 0 rfl rfl 14 (Nat.le_of_ble_eq_true rfl) (hts _ k_1334) (fun _ h9 => h9) rfl dX11_misfitOf_227 ?_
              refine lv_iload hx hb dX11_misfitOf_230 (lv_at hl 0 rfl) ?_
              refine ldI hx hb hE hP 6 rfl (vp_in_iff.mpr ⟨by omega, by omega⟩) rfl rfl dX11_misfitOf_232 ?_
              refine lv_topi (fun t45 et45 => ?_)
              have hat45 : t45.toInt = (f 5 l4_26.toInt.toNat).toInt := by rw [et45, hs5_f26]; rfl
              refine lv_goto (tgt := 248) hx hb dX11_misfitOf_233 rfl ?_
              refine stI hx hb hE hP hD hS 8 rfl (vp_in_iff.mpr ⟨by omega, by omega⟩) rfl dX11_misfitOf_248 (fun H locs hP hD hS => ?_)
              obtain ⟨f46, ef46, hP, hD⟩ : ∃ fz9, fz9 = upd2 f26 7 (upd (f26 7) l3_26.toNatClampNeg t45) ∧ va_P (dC, dI) vwCl (YW cy y0 r v26 fz9 w26 g26) H ∧ va_D A (YW cy y0 r v26 fz9 w26 g26) := ⟨_, rfl, hP, hD⟩
              have hCf46 : YC f46 := by rw [ef46]; exact hCf26
              have hs4_f46 : f46 4 = f 4 := by rw [ef46]; exact hs4_f26
              have hs5_f46 : f46 5 = f 5 := by rw [ef46]; exact hs5_f26
              have hRf46 : progOK (f46 4) (f46 5) (v26 9).toInt.toNat := by rw [ef46]; exact hRf26
              have hA_f46 : KF [7, 8] f46 f := by rw [ef46]; exact KF.up hA_f26 rfl
              obtain ⟨t47, et47⟩ : ∃ y : Int32, y = l3_26 + 1 := ⟨_, rfl⟩
              have rg48 := fb_rng l3_26
              have zt47 : t47.toInt = l3_26.toInt + 1 := by rw [et47]; exact add_i rfl (by decide) (by omega) (by omega)
              refine lv_iinc (v := t47) (lv' := [(3, .int t47), (4, .int l4_26), (0, .ref y0), (1, .int p1), (2, .int p2)]) hx hb dX11_misfitOf_249 hl (k := 1) rfl (by rw [et47]; rfl) (by decide) rfl (fun ls hl => ?_)
              refine lv_goto (tgt := 331) hx hb dX11_misfitOf_252 rfl ?_
              obtain ⟨t49, et49⟩ : ∃ y : Int32, y = l4_26 + 1 := ⟨_, rfl⟩
              have zt49 : t49.toInt = l4_26.toInt + 1 := by rw [et49]; exact add_i rfl (by decide) (by omega) (by omega)
              refine lv_iinc (v := t49) (lv' := [(4, .int t49), (3, .int t47), (0, .ref y0), (1, .int p1), (2, .int p2)]) hx hb dX11_misfitOf_331 hl (k := 1) rfl (by rw [et49]; rfl) (by decide) rfl (fun ls hl => ?_)
              refine lv_goto (tgt := 181) hx hb dX11_misfitOf_334 rfl ?_
              have rg50 := fb_rng t47
              have rg51 := fb_rng t49
              exact ih26 t47 t49 v26 f46 w26 g26 hIv26 hCf46 hRf46 hq0_v26 hq1_v26 hq2_v26 hq3_v26 hq4_v26 hq5_v26 hq8_v26 hq9_v26 hq10_v26 hq13_v26 hq14_v26 hq15_v26 hq17_v26 hq18_v26 hq24_v26 hq25_v26 hq35_v26 hq36_v26 hq38_v26 hq39_v26 ⟨show (0 : Int) ≤ t47.toInt by omega, show t47.toInt ≤ (64 : Int) by omega⟩ ⟨show (0 : Int) ≤ t49.toInt by omega, show t49.toInt ≤ (2147483647 : Int) by omega⟩ (by rw [show (t49.toInt).toNat = (l4_26.toInt).toNat + 1 by omega]; omega) hs4_f46 hs5_f46 hM_v26 hA_f46 (by show (2147483647 - t49.toInt).toNat < n26; omega) _ _ _ hP hD hS (lv_sub hl [0, 1, 2, 3, 4] rfl)
          · skip
            have zc35 : ¬ (t34.toInt = 0) := by rw [fa_eq, show (0 : Int32).toInt = 0 from by decide] at c35; exact c35
            refine lv_aload_n hx hb dX11_misfitOf_200 rfl (lv_at hl 2 rfl) ?_
            refine va_get (D := (dC, dI)) (ci := 11) (v := .ref (r 13)) (C := RX11) (T := TX11) (N := 79) hx hb hts inB_11 hown hE.1 hP 0 rfl rfl 13 (Nat.le_of_ble_eq_true rfl) (hts _ k_1333) (fun _ h9 => h9) rfl dX11_misfitOf_201 ?_
            refine lv_iload hx hb dX11_misfitOf_204 (lv_at hl 0 rfl) ?_
            refine ldI hx hb hE hP 5 rfl (vp_in_iff.mpr ⟨by omega, by omega⟩) rfl rfl dX11_misfitOf_206 ?_
            refine tI (y := t34) et34.symm ?_
            refine lv_iconst (v := 1) hx hb dX11_misfitOf_207 rfl ?_
            refine lv_icmp_ne (tgt := 255) hx hb dX11_misfitOf_208 rfl (fun c52 => ?_) (fun c52 => ?_)
            · skip
              have zc52 : ¬ (t34.toInt = 1) := by rw [fa_eq, show (1 : Int32).toInt = 1 from by decide] at c52; exact c52
              refine lv_aload_n hx hb dX11_misfitOf_255 rfl (lv_at hl 2 rfl) ?_
              refine va_get (D := (dC, dI)) (ci := 11) (v := .ref (r 13)) (C := RX11) (T := TX11) (N := 79) hx hb hts inB_11 hown hE.1 hP 0 rfl rfl 13 (Nat.le_of_ble_eq_true rfl) (hts _ k_1333) (fun _ h9 => h9) rfl dX11_misfitOf_256 ?_
              refine lv_iload hx hb dX11_misfitOf_259 (lv_at hl 0 rfl) ?_
              refine ldI hx hb hE hP 5 rfl (vp_in_iff.mpr ⟨by omega, by omega⟩) rfl rfl dX11_misfitOf_261 ?_
              refine tI (y := t34) et34.symm ?_
              refine lv_iconst (v := 2) hx hb dX11_misfitOf_262 rfl ?_
              refine lv_icmp_ne (tgt := 296) hx hb dX11_misfitOf_263 rfl (fun c53 => ?_) (fun c53 => ?_)
              · skip
                have zc53 : ¬ (t34.toInt = 2) := by rw [fa_eq, show (2 : Int32).toInt = 2 from by decide] at c53; exact c53
                obtain ⟨t54, et54⟩ : ∃ y : Int32, y = l3_26 + (-1) := ⟨_, rfl⟩
                have rg55 := fb_rng l3_26
                have zt54 : t54.toInt = l3_26.toInt + (-1) := by rw [et54]; exact add_i rfl (by decide) (by omega) (by omega)
                refine lv_iinc (v := t54) (lv' := [(3, .int t54), (4, .int l4_26), (0, .ref y0), (1, .int p1), (2, .int p2)]) hx hb dX11_misfitOf_296 hl (k := 1) rfl (by rw [et54]; rfl) (by decide) rfl (fun ls hl => ?_)
                refine lv_aload_n hx hb dX11_misfitOf_299 rfl (lv_at hl 2 rfl) ?_
                refine va_get (D := (dC, dI)) (ci := 11) (v := .ref (r 16)) (C := RX11) (T := TX11) (N := 79) hx hb hts inB_11 hown hE.1 hP 0 rfl rfl 16 (Nat.le_of_ble_eq_true rfl) (hts _ k_1336) (fun _ h9 => h9) rfl dX11_misfitOf_300 ?_
                refine lv_iload_n hx hb dX11_misfitOf_303 rfl (lv_at hl 0 rfl) ?_
                refine lv_iconst (v := 1) hx hb dX11_misfitOf_304 rfl ?_
                refine lv_isub hx hb dX11_misfitOf_305 ?_
                refine lv_topi (fun t56 et56 => ?_)
                have rg57 := fb_rng t54
                have zt56 : t56.toInt = t54.toInt - 1 := by rw [et56]; exact sub_i rfl (by decide) (by omega) (by omega)
                refine lv_aload_n hx hb dX11_misfitOf_306 rfl (lv_at hl 2 rfl) ?_
                refine va_get (D := (dC, dI)) (ci := 11) (v := .ref (r 14)) (C := RX11) (T := TX11) (N := 79) hx hb hts inB_11 hown hE.1 hP 0 rfl rfl 14 (Nat.le_of_ble_eq_true rfl) (hts _ k_1334) (fun _ h9 => h9) rfl dX11_misfitOf_307 ?_
                refine lv_iload hx hb dX11_misfitOf_310 (lv_at hl 1 rfl) ?_
                refine ldI hx hb hE hP 6 rfl (vp_in_iff.mpr ⟨by omega, by omega⟩) rfl rfl dX11_misfitOf_312 ?_
                refine lv_topi (fun t58 et58 => ?_)
                have hat58 : t58.toInt = (f 5 l4_26.toInt.toNat).toInt := by rw [et58, hs5_f26]; rfl
                refine lv_aload_n hx hb dX11_misfitOf_313 rfl (lv_at hl 2 rfl) ?_
                refine va_get (D := (dC, dI)) (ci := 11) (v := .ref (r 16)) (C := RX11) (T := TX11) (N := 79) hx hb hts inB_11 hown hE.1 hP 0 rfl rfl 16 (Nat.le_of_ble_eq_true rfl) (hts _ k_1336) (fun _ h9 => h9) rfl dX11_misfitOf_314 ?_
                refine lv_iload_n hx hb dX11_misfitOf_317 rfl (lv_at hl 0 rfl) ?_
                refine lv_iconst (v := 1) hx hb dX11_misfitOf_318 rfl ?_
                refine lv_isub hx hb dX11_misfitOf_319 ?_
                refine tI (y := t56) et56.symm ?_
                refine ldI hx hb hE hP 8 rfl (vp_in_iff.mpr ⟨by omega, by omega⟩) rfl rfl dX11_misfitOf_320 ?_
                refine lv_topi (fun t59 et59 => ?_)
                refine lv_aload_n hx hb dX11_misfitOf_321 rfl (lv_at hl 2 rfl) ?_
                refine va_get (D := (dC, dI)) (ci := 11) (v := .ref (r 16)) (C := RX11) (T := TX11) (N := 79) hx hb hts inB_11 hown hE.1 hP 0 rfl rfl 16 (Nat.le_of_ble_eq_true rfl) (hts _ k_1336) (fun _ h9 => h9) rfl dX11_misfitOf_322 ?_
                refine lv_iload_n hx hb dX11_misfitOf_325 rfl (lv_at hl 0 rfl) ?_
                refine ldI hx hb hE hP 8 rfl (vp_in_iff.mpr ⟨by omega, by omega⟩) rfl rfl dX11_misfitOf_326 ?_
                refine lv_topi (fun t60 et60 => ?_)
                refine cbSi (n := 3) (rest := [.int t56, .ref (r 16)]) hx hb hml hown hts hE hP hD hS hA (sY_X11_done_1 l dC dI cy y0 r t58 t59 t60 v26 f26 w26 g26 hIv26 hCf26 hRf26 ) k_1764 k_1765 k_114 k_1766 (by decide +kernel) ⟨Nat.le_of_ble_eq_true rfl, Nat.le_of_ble_eq_true rfl⟩ (rfl) hl.1 rfl (Nat.le_of_ble_eq_true rfl) dX11_misfitOf_327 (fun r61 u H locs hw hP hD hS => ?_)
                refine stI hx hb hE hP hD hS 8 rfl (vp_in_iff.mpr ⟨by omega, by omega⟩) rfl dX11_misfitOf_330 (fun H locs hP hD hS => ?_)
                obtain ⟨f62, ef62, hP, hD⟩ : ∃ fz9, fz9 = upd2 f26 7 (upd (f26 7) t56.toNatClampNeg r61) ∧ va_P (dC, dI) vwCl (YW cy y0 r v26 fz9 w26 g26) H ∧ va_D A (YW cy y0 r v26 fz9 w26 g26) := ⟨_, rfl, hP, hD⟩
                have hCf62 : YC f62 := by rw [ef62]; exact hCf26
                have hs4_f62 : f62 4 = f 4 := by rw [ef62]; exact hs4_f26
                have hs5_f62 : f62 5 = f 5 := by rw [ef62]; exact hs5_f26
                have hRf62 : progOK (f62 4) (f62 5) (v26 9).toInt.toNat := by rw [ef62]; exact hRf26
                have hA_f62 : KF [7, 8] f62 f := by rw [ef62]; exact KF.up hA_f26 rfl
                obtain ⟨t63, et63⟩ : ∃ y : Int32, y = l4_26 + 1 := ⟨_, rfl⟩
                have zt63 : t63.toInt = l4_26.toInt + 1 := by rw [et63]; exact add_i rfl (by decide) (by omega) (by omega)
                refine lv_iinc (v := t63) (lv' := [(4, .int t63), (3, .int t54), (0, .ref y0), (1, .int p1), (2, .int p2)]) hx hb dX11_misfitOf_331 hl (k := 1) rfl (by rw [et63]; rfl) (by decide) rfl (fun ls hl => ?_)
                refine lv_goto (tgt := 181) hx hb dX11_misfitOf_334 rfl ?_
                have rg64 := fb_rng t63
                exact ih26 t54 t63 v26 f62 w26 g26 hIv26 hCf62 hRf62 hq0_v26 hq1_v26 hq2_v26 hq3_v26 hq4_v26 hq5_v26 hq8_v26 hq9_v26 hq10_v26 hq13_v26 hq14_v26 hq15_v26 hq17_v26 hq18_v26 hq24_v26 hq25_v26 hq35_v26 hq36_v26 hq38_v26 hq39_v26 ⟨show (0 : Int) ≤ t54.toInt by omega, show t54.toInt ≤ (64 : Int) by omega⟩ ⟨show (0 : Int) ≤ t63.toInt by omega, show t63.toInt ≤ (2147483647 : Int) by omega⟩ (by rw [show (t63.toInt).toNat = (l4_26.toInt).toNat + 1 by omega]; omega) hs4_f62 hs5_f62 hM_v26 hA_f62 (by show (2147483647 - t63.toInt).toNat < n26; omega) _ _ _ hP hD hS (lv_sub hl [0, 1, 2, 3, 4] rfl)
              · skip
                have zc53 : t34.toInt = 2 := by rw [fa_eq, show (2 : Int32).toInt = 2 from by decide] at c53; exact c53
                refine lv_aload_n hx hb dX11_misfitOf_266 rfl (lv_at hl 2 rfl) ?_
                refine va_get (D := (dC, dI)) (ci := 11) (v := .ref (r 16)) (C := RX11) (T := TX11) (N := 79) hx hb hts inB_11 hown hE.1 hP 0 rfl rfl 16 (Nat.le_of_ble_eq_true rfl) (hts _ k_1336) (fun _ h9 => h9) rfl dX11_misfitOf_267 ?_
                refine lv_iload_n hx hb dX11_misfitOf_270 rfl (lv_at hl 1 rfl) ?_
                refine lv_iconst (v := 1) hx hb dX11_misfitOf_271 rfl ?_
                refine lv_isub hx hb dX11_misfitOf_272 ?_
                refine lv_topi (fun t65 et65 => ?_)
                have rg66 := fb_rng l3_26
                have zt65 : t65.toInt = l3_26.toInt - 1 := by rw [et65]; exact sub_i rfl (by decide) (by omega) (by omega)
                refine lv_aload_n hx hb dX11_misfitOf_273 rfl (lv_at hl 2 rfl) ?_
                refine va_get (D := (dC, dI)) (ci := 11) (v := .ref (r 16)) (C := RX11) (T := TX11) (N := 79) hx hb hts inB_11 hown hE.1 hP 0 rfl rfl 16 (Nat.le_of_ble_eq_true rfl) (hts _ k_1336) (fun _ h9 => h9) rfl dX11_misfitOf_274 ?_
                refine lv_iload_n hx hb dX11_misfitOf_277 rfl (lv_at hl 1 rfl) ?_
                refine lv_iconst (v := 1) hx hb dX11_misfitOf_278 rfl ?_
                refine lv_isub hx hb dX11_misfitOf_279 ?_
                refine tI (y := t65) et65.symm ?_
                refine ldI hx hb hE hP 8 rfl (vp_in_iff.mpr ⟨by omega, by omega⟩) rfl rfl dX11_misfitOf_280 ?_
                refine lv_topi (fun t67 et67 => ?_)
                refine lv_if_ne (tgt := 288) hx hb dX11_misfitOf_281 rfl (fun c68 => ?_) (fun c68 => ?_)
                · skip
                  have zc68 : ¬ (t67.toInt = 0) := by rw [fa_eq, show (0 : Int32).toInt = 0 from by decide] at c68; exact c68
                  refine lv_iconst (v := 0) hx hb dX11_misfitOf_288 rfl ?_
                  have lt69 : (0 : Int32).toInt = 0 := by decide
                  refine cbSi (n := 1) (rest := [.int t65, .ref (r 16)]) hx hb hml hown hts hE hP hD hS hA (sY_X11_truth_1 l dC dI cy y0 r 0 v26 f26 w26 g26 hIv26 hCf26 hRf26 ) k_1761 k_1762 k_114 k_1763 (by decide +kernel) ⟨Nat.le_of_ble_eq_true rfl, Nat.le_of_ble_eq_true rfl⟩ (rfl) hl.1 rfl (Nat.le_of_ble_eq_true rfl) dX11_misfitOf_289 (fun r70 u H locs hw hP hD hS => ?_)
                  refine stI hx hb hE hP hD hS 8 rfl (vp_in_iff.mpr ⟨by omega, by omega⟩) rfl dX11_misfitOf_292 (fun H locs hP hD hS => ?_)
                  obtain ⟨f71, ef71, hP, hD⟩ : ∃ fz9, fz9 = upd2 f26 7 (upd (f26 7) t65.toNatClampNeg r70) ∧ va_P (dC, dI) vwCl (YW cy y0 r v26 fz9 w26 g26) H ∧ va_D A (YW cy y0 r v26 fz9 w26 g26) := ⟨_, rfl, hP, hD⟩
                  have hCf71 : YC f71 := by rw [ef71]; exact hCf26
                  have hs4_f71 : f71 4 = f 4 := by rw [ef71]; exact hs4_f26
                  have hs5_f71 : f71 5 = f 5 := by rw [ef71]; exact hs5_f26
                  have hRf71 : progOK (f71 4) (f71 5) (v26 9).toInt.toNat := by rw [ef71]; exact hRf26
                  have hA_f71 : KF [7, 8] f71 f := by rw [ef71]; exact KF.up hA_f26 rfl
                  refine lv_goto (tgt := 331) hx hb dX11_misfitOf_293 rfl ?_
                  obtain ⟨t72, et72⟩ : ∃ y : Int32, y = l4_26 + 1 := ⟨_, rfl⟩
                  have zt72 : t72.toInt = l4_26.toInt + 1 := by rw [et72]; exact add_i rfl (by decide) (by omega) (by omega)
                  refine lv_iinc (v := t72) (lv' := [(4, .int t72), (3, .int l3_26), (0, .ref y0), (1, .int p1), (2, .int p2)]) hx hb dX11_misfitOf_331 hl (k := 0) rfl (by rw [et72]; rfl) (by decide) rfl (fun ls hl => ?_)
                  refine lv_goto (tgt := 181) hx hb dX11_misfitOf_334 rfl ?_
                  have rg73 := fb_rng t72
                  exact ih26 l3_26 t72 v26 f71 w26 g26 hIv26 hCf71 hRf71 hq0_v26 hq1_v26 hq2_v26 hq3_v26 hq4_v26 hq5_v26 hq8_v26 hq9_v26 hq10_v26 hq13_v26 hq14_v26 hq15_v26 hq17_v26 hq18_v26 hq24_v26 hq25_v26 hq35_v26 hq36_v26 hq38_v26 hq39_v26 ⟨show (0 : Int) ≤ l3_26.toInt by omega, show l3_26.toInt ≤ (64 : Int) by omega⟩ ⟨show (0 : Int) ≤ t72.toInt by omega, show t72.toInt ≤ (2147483647 : Int) by omega⟩ (by rw [show (t72.toInt).toNat = (l4_26.toInt).toNat + 1 by omega]; omega) hs4_f71 hs5_f71 hM_v26 hA_f71 (by show (2147483647 - t72.toInt).toNat < n26; omega) _ _ _ hP hD hS (lv_sub hl [0, 1, 2, 3, 4] rfl)
                · skip
                  have zc68 : t67.toInt = 0 := by rw [fa_eq, show (0 : Int32).toInt = 0 from by decide] at c68; exact c68
                  refine lv_iconst (v := 1) hx hb dX11_misfitOf_284 rfl ?_
                  refine lv_goto (tgt := 289) hx hb dX11_misfitOf_285 rfl ?_
                  have lt74 : (1 : Int32).toInt = 1 := by decide
                  refine cbSi (n := 1) (rest := [.int t65, .ref (r 16)]) hx hb hml hown hts hE hP hD hS hA (sY_X11_truth_1 l dC dI cy y0 r 1 v26 f26 w26 g26 hIv26 hCf26 hRf26 ) k_1761 k_1762 k_114 k_1763 (by decide +kernel) ⟨Nat.le_of_ble_eq_true rfl, Nat.le_of_ble_eq_true rfl⟩ (rfl) hl.1 rfl (Nat.le_of_ble_eq_true rfl) dX11_misfitOf_289 (fun r75 u H locs hw hP hD hS => ?_)
                  refine stI hx hb hE hP hD hS 8 rfl (vp_in_iff.mpr ⟨by omega, by omega⟩) rfl dX11_misfitOf_292 (fun H locs hP hD hS => ?_)
                  obtain ⟨f76, ef76, hP, hD⟩ : ∃ fz9, fz9 = upd2 f26 7 (upd (f26 7) t65.toNatClampNeg r75) ∧ va_P (dC, dI) vwCl (YW cy y0 r v26 fz9 w26 g26) H ∧ va_D A (YW cy y0 r v26 fz9 w26 g26) := ⟨_, rfl, hP, hD⟩
                  have hCf76 : YC f76 := by rw [ef76]; exact hCf26
                  have hs4_f76 : f76 4 = f 4 := by rw [ef76]; exact hs4_f26
                  have hs5_f76 : f76 5 = f 5 := by rw [ef76]; exact hs5_f26
                  have hRf76 : progOK (f76 4) (f76 5) (v26 9).toInt.toNat := by rw [ef76]; exact hRf26
                  have hA_f76 : KF [7, 8] f76 f := by rw [ef76]; exact KF.up hA_f26 rfl
                  refine lv_goto (tgt := 331) hx hb dX11_misfitOf_293 rfl ?_
                  obtain ⟨t77, et77⟩ : ∃ y : Int32, y = l4_26 + 1 := ⟨_, rfl⟩
                  have zt77 : t77.toInt = l4_26.toInt + 1 := by rw [et77]; exact add_i rfl (by decide) (by omega) (by omega)
                  refine lv_iinc (v := t77) (lv' := [(4, .int t77), (3, .int l3_26), (0, .ref y0), (1, .int p1), (2, .int p2)]) hx hb dX11_misfitOf_331 hl (k := 0) rfl (by rw [et77]; rfl) (by decide) rfl (fun ls hl => ?_)
                  refine lv_goto (tgt := 181) hx hb dX11_misfitOf_334 rfl ?_
                  have rg78 := fb_rng t77
                  exact ih26 l3_26 t77 v26 f76 w26 g26 hIv26 hCf76 hRf76 hq0_v26 hq1_v26 hq2_v26 hq3_v26 hq4_v26 hq5_v26 hq8_v26 hq9_v26 hq10_v26 hq13_v26 hq14_v26 hq15_v26 hq17_v26 hq18_v26 hq24_v26 hq25_v26 hq35_v26 hq36_v26 hq38_v26 hq39_v26 ⟨show (0 : Int) ≤ l3_26.toInt by omega, show l3_26.toInt ≤ (64 : Int) by omega⟩ ⟨show (0 : Int) ≤ t77.toInt by omega, show t77.toInt ≤ (2147483647 : Int) by omega⟩ (by rw [show (t77.toInt).toNat = (l4_26.toInt).toNat + 1 by omega]; omega) hs4_f76 hs5_f76 hM_v26 hA_f76 (by show (2147483647 - t77.toInt).toNat < n26; omega) _ _ _ hP hD hS (lv_sub hl [0, 1, 2, 3, 4] rfl)
            · skip
              have zc52 : t34.toInt = 1 := by rw [fa_eq, show (1 : Int32).toInt = 1 from by decide] at c52; exact c52
              refine lv_aload_n hx hb dX11_misfitOf_211 rfl (lv_at hl 2 rfl) ?_
              refine va_get (D := (dC, dI)) (ci := 11) (v := .ref (r 16)) (C := RX11) (T := TX11) (N := 79) hx hb hts inB_11 hown hE.1 hP 0 rfl rfl 16 (Nat.le_of_ble_eq_true rfl) (hts _ k_1336) (fun _ h9 => h9) rfl dX11_misfitOf_212 ?_
              refine lv_iload_n hx hb dX11_misfitOf_215 rfl (lv_at hl 1 rfl) ?_
              refine lv_aload_n hx hb dX11_misfitOf_216 rfl (lv_at hl 2 rfl) ?_
              refine va_get (D := (dC, dI)) (ci := 11) (v := .ref (r 13)) (C := RX11) (T := TX11) (N := 79) hx hb hts inB_11 hown hE.1 hP 0 rfl rfl 13 (Nat.le_of_ble_eq_true rfl) (hts _ k_1333) (fun _ h9 => h9) rfl dX11_misfitOf_217 ?_
              refine lv_iload hx hb dX11_misfitOf_220 (lv_at hl 0 rfl) ?_
              refine ldI hx hb hE hP 5 rfl (vp_in_iff.mpr ⟨by omega, by omega⟩) rfl rfl dX11_misfitOf_222 ?_
              refine tI (y := t34) et34.symm ?_
              refine lv_if_ne (tgt := 236) hx hb dX11_misfitOf_223 rfl (fun c79 => ?_) (fun c79 => ?_)
              · skip
                have zc79 : ¬ (t34.toInt = 0) := by rw [fa_eq, show (0 : Int32).toInt = 0 from by decide] at c79; exact c79
                refine lv_aload_n hx hb dX11_misfitOf_236 rfl (lv_at hl 2 rfl) ?_
                refine va_get (D := (dC, dI)) (ci := 11) (v := .ref (r 26)) (C := RX11) (T := TX11) (N := 79) hx hb hts inB_11 hown hE.1 hP 0 rfl rfl 26 (Nat.le_of_ble_eq_true rfl) (hts _ k_1346) (fun _ h9 => h9) rfl dX11_misfitOf_237 ?_
                refine lv_aload_n hx hb dX11_misfitOf_240 rfl (lv_at hl 2 rfl) ?_
                refine va_get (D := (dC, dI)) (ci := 11) (v := .ref (r 14)) (C := RX11) (T := TX11) (N := 79) hx hb hts inB_11 hown hE.1 hP 0 rfl rfl 14 (Nat.le_of_ble_eq_true rfl) (hts _ k_1334) (fun _ h9 => h9) rfl dX11_misfitOf_241 ?_
                refine lv_iload hx hb dX11_misfitOf_244 (lv_at hl 0 rfl) ?_
                refine ldI hx hb hE hP 6 rfl (vp_in_iff.mpr ⟨by omega, by omega⟩) rfl rfl dX11_misfitOf_246 ?_
                refine lv_topi (fun t80 et80 => ?_)
                have hat80 : t80.toInt = (f 5 l4_26.toInt.toNat).toInt := by rw [et80, hs5_f26]; rfl
                refine ldI hx hb hE hP 9 rfl (vp_in_iff.mpr ⟨by omega, by omega⟩) rfl rfl dX11_misfitOf_247 ?_
                refine lv_topi (fun t81 et81 => ?_)
                refine stI hx hb hE hP hD hS 8 rfl (vp_in_iff.mpr ⟨by omega, by omega⟩) rfl dX11_misfitOf_248 (fun H locs hP hD hS => ?_)
                obtain ⟨f82, ef82, hP, hD⟩ : ∃ fz9, fz9 = upd2 f26 7 (upd (f26 7) l3_26.toNatClampNeg t81) ∧ va_P (dC, dI) vwCl (YW cy y0 r v26 fz9 w26 g26) H ∧ va_D A (YW cy y0 r v26 fz9 w26 g26) := ⟨_, rfl, hP, hD⟩
                have hCf82 : YC f82 := by rw [ef82]; exact hCf26
                have hs4_f82 : f82 4 = f 4 := by rw [ef82]; exact hs4_f26
                have hs5_f82 : f82 5 = f 5 := by rw [ef82]; exact hs5_f26
                have hRf82 : progOK (f82 4) (f82 5) (v26 9).toInt.toNat := by rw [ef82]; exact hRf26
                have hA_f82 : KF [7, 8] f82 f := by rw [ef82]; exact KF.up hA_f26 rfl
                obtain ⟨t83, et83⟩ : ∃ y : Int32, y = l3_26 + 1 := ⟨_, rfl⟩
                have rg84 := fb_rng l3_26
                have zt83 : t83.toInt = l3_26.toInt + 1 := by rw [et83]; exact add_i rfl (by decide) (by omega) (by omega)
                refine lv_iinc (v := t83) (lv' := [(3, .int t83), (4, .int l4_26), (0, .ref y0), (1, .int p1), (2, .int p2)]) hx hb dX11_misfitOf_249 hl (k := 1) rfl (by rw [et83]; rfl) (by decide) rfl (fun ls hl => ?_)
                refine lv_goto (tgt := 331) hx hb dX11_misfitOf_252 rfl ?_
                obtain ⟨t85, et85⟩ : ∃ y : Int32, y = l4_26 + 1 := ⟨_, rfl⟩
                have zt85 : t85.toInt = l4_26.toInt + 1 := by rw [et85]; exact add_i rfl (by decide) (by omega) (by omega)
                refine lv_iinc (v := t85) (lv' := [(4, .int t85), (3, .int t83), (0, .ref y0), (1, .int p1), (2, .int p2)]) hx hb dX11_misfitOf_331 hl (k := 1) rfl (by rw [et85]; rfl) (by decide) rfl (fun ls hl => ?_)
                refine lv_goto (tgt := 181) hx hb dX11_misfitOf_334 rfl ?_
                have rg86 := fb_rng t83
                have rg87 := fb_rng t85
                exact ih26 t83 t85 v26 f82 w26 g26 hIv26 hCf82 hRf82 hq0_v26 hq1_v26 hq2_v26 hq3_v26 hq4_v26 hq5_v26 hq8_v26 hq9_v26 hq10_v26 hq13_v26 hq14_v26 hq15_v26 hq17_v26 hq18_v26 hq24_v26 hq25_v26 hq35_v26 hq36_v26 hq38_v26 hq39_v26 ⟨show (0 : Int) ≤ t83.toInt by omega, show t83.toInt ≤ (64 : Int) by omega⟩ ⟨show (0 : Int) ≤ t85.toInt by omega, show t85.toInt ≤ (2147483647 : Int) by omega⟩ (by rw [show (t85.toInt).toNat = (l4_26.toInt).toNat + 1 by omega]; omega) hs4_f82 hs5_f82 hM_v26 hA_f82 (by show (2147483647 - t85.toInt).toNat < n26; omega) _ _ _ hP hD hS (lv_sub hl [0, 1, 2, 3, 4] rfl)
              · skip
                have zc79 : t34.toInt = 0 := by rw [fa_eq, show (0 : Int32).toInt = 0 from by decide] at c79; exact c79
                refine lv_aload_n hx hb dX11_misfitOf_226 rfl (lv_at hl 2 rfl) ?_
                refine va_get (D := (dC, dI)) (ci := 11) (v := .ref (r 14)) (C := RX11) (T := TX11) (N := 79) hx hb hts inB_11 hown hE.1 hP 0 rfl rfl 14 (Nat.le_of_ble_eq_true rfl) (hts _ k_1334) (fun _ h9 => h9) rfl dX11_misfitOf_227 ?_
                refine lv_iload hx hb dX11_misfitOf_230 (lv_at hl 0 rfl) ?_
                refine ldI hx hb hE hP 6 rfl (vp_in_iff.mpr ⟨by omega, by omega⟩) rfl rfl dX11_misfitOf_232 ?_
                refine lv_topi (fun t88 et88 => ?_)
                have hat88 : t88.toInt = (f 5 l4_26.toInt.toNat).toInt := by rw [et88, hs5_f26]; rfl
                refine lv_goto (tgt := 248) hx hb dX11_misfitOf_233 rfl ?_
                refine stI hx hb hE hP hD hS 8 rfl (vp_in_iff.mpr ⟨by omega, by omega⟩) rfl dX11_misfitOf_248 (fun H locs hP hD hS => ?_)
                obtain ⟨f89, ef89, hP, hD⟩ : ∃ fz9, fz9 = upd2 f26 7 (upd (f26 7) l3_26.toNatClampNeg t88) ∧ va_P (dC, dI) vwCl (YW cy y0 r v26 fz9 w26 g26) H ∧ va_D A (YW cy y0 r v26 fz9 w26 g26) := ⟨_, rfl, hP, hD⟩
                have hCf89 : YC f89 := by rw [ef89]; exact hCf26
                have hs4_f89 : f89 4 = f 4 := by rw [ef89]; exact hs4_f26
                have hs5_f89 : f89 5 = f 5 := by rw [ef89]; exact hs5_f26
                have hRf89 : progOK (f89 4) (f89 5) (v26 9).toInt.toNat := by rw [ef89]; exact hRf26
                have hA_f89 : KF [7, 8] f89 f := by rw [ef89]; exact KF.up hA_f26 rfl
                obtain ⟨t90, et90⟩ : ∃ y : Int32, y = l3_26 + 1 := ⟨_, rfl⟩
                have rg91 := fb_rng l3_26
                have zt90 : t90.toInt = l3_26.toInt + 1 := by rw [et90]; exact add_i rfl (by decide) (by omega) (by omega)
                refine lv_iinc (v := t90) (lv' := [(3, .int t90), (4, .int l4_26), (0, .ref y0), (1, .int p1), (2, .int p2)]) hx hb dX11_misfitOf_249 hl (k := 1) rfl (by rw [et90]; rfl) (by decide) rfl (fun ls hl => ?_)
                refine lv_goto (tgt := 331) hx hb dX11_misfitOf_252 rfl ?_
                obtain ⟨t92, et92⟩ : ∃ y : Int32, y = l4_26 + 1 := ⟨_, rfl⟩
                have zt92 : t92.toInt = l4_26.toInt + 1 := by rw [et92]; exact add_i rfl (by decide) (by omega) (by omega)
                refine lv_iinc (v := t92) (lv' := [(4, .int t92), (3, .int t90), (0, .ref y0), (1, .int p1), (2, .int p2)]) hx hb dX11_misfitOf_331 hl (k := 1) rfl (by rw [et92]; rfl) (by decide) rfl (fun ls hl => ?_)
                refine lv_goto (tgt := 181) hx hb dX11_misfitOf_334 rfl ?_
                have rg93 := fb_rng t90
                have rg94 := fb_rng t92
                exact ih26 t90 t92 v26 f89 w26 g26 hIv26 hCf89 hRf89 hq0_v26 hq1_v26 hq2_v26 hq3_v26 hq4_v26 hq5_v26 hq8_v26 hq9_v26 hq10_v26 hq13_v26 hq14_v26 hq15_v26 hq17_v26 hq18_v26 hq24_v26 hq25_v26 hq35_v26 hq36_v26 hq38_v26 hq39_v26 ⟨show (0 : Int) ≤ t90.toInt by omega, show t90.toInt ≤ (64 : Int) by omega⟩ ⟨show (0 : Int) ≤ t92.toInt by omega, show t92.toInt ≤ (2147483647 : Int) by omega⟩ (by rw [show (t92.toInt).toNat = (l4_26.toInt).toNat + 1 by omega]; omega) hs4_f89 hs5_f89 hM_v26 hA_f89 (by show (2147483647 - t92.toInt).toNat < n26; omega) _ _ _ hP hD hS (lv_sub hl [0, 1, 2, 3, 4] rfl)
    exact lp26 _ 0 0 v f24 w g hIv hCf24 hRf24 rfl rfl rfl rfl rfl rfl rfl rfl rfl rfl rfl rfl rfl rfl rfl rfl rfl rfl rfl rfl ⟨by decide, by decide⟩ ⟨by decide, by decide⟩ rfl hs4_f24 hs5_f24 hM_v hA_f24 (Nat.lt_succ_self _) _ _ _ hP hD hS (lv_sub hl [0, 1, 2, 3, 4] rfl)
  · skip
    have zc25 : (v 16).toInt = 0 := by rw [fa_eq, show (0 : Int32).toInt = 0 from by decide] at c25; exact c25
    refine lv_iconst (v := 3) hx hb dX11_misfitOf_131 rfl ?_
    refine lv_aload_n hx hb dX11_misfitOf_132 rfl (lv_at hl 0 rfl) ?_
    refine va_get (D := (dC, dI)) (ci := 11) (v := .ref (r 26)) (C := RX11) (T := TX11) (N := 79) hx hb hts inB_11 hown hE.1 hP 0 rfl rfl 26 (Nat.le_of_ble_eq_true rfl) (hts _ k_1346) (fun _ h9 => h9) rfl dX11_misfitOf_133 ?_
    refine lv_iconst (v := 0) hx hb dX11_misfitOf_136 rfl ?_
    refine ldI hx hb hE hP 9 rfl (vp_in_nI (n := 0) (by decide) (by decide)) rfl rfl dX11_misfitOf_137 ?_
    refine lv_topi (fun t95 et95 => ?_)
    refine lv_imul hx hb dX11_misfitOf_138 ?_
    refine lv_topi (fun t96 et96 => ?_)
    refine lv_aload_n hx hb dX11_misfitOf_139 rfl (lv_at hl 0 rfl) ?_
    refine va_get (D := (dC, dI)) (ci := 11) (v := .ref (r 26)) (C := RX11) (T := TX11) (N := 79) hx hb hts inB_11 hown hE.1 hP 0 rfl rfl 26 (Nat.le_of_ble_eq_true rfl) (hts _ k_1346) (fun _ h9 => h9) rfl dX11_misfitOf_140 ?_
    refine lv_iconst (v := 1) hx hb dX11_misfitOf_143 rfl ?_
    refine ldI hx hb hE hP 9 rfl (vp_in_nI (n := 1) (by decide) (by decide)) rfl rfl dX11_misfitOf_144 ?_
    refine lv_topi (fun t97 et97 => ?_)
    refine lv_iadd hx hb dX11_misfitOf_145 ?_
    refine lv_topi (fun t98 et98 => ?_)
    refine lv_iconst (v := 2) hx hb dX11_misfitOf_146 rfl ?_
    refine lv_aload_n hx hb dX11_misfitOf_147 rfl (lv_at hl 0 rfl) ?_
    refine va_get (D := (dC, dI)) (ci := 11) (v := .ref (r 26)) (C := RX11) (T := TX11) (N := 79) hx hb hts inB_11 hown hE.1 hP 0 rfl rfl 26 (Nat.le_of_ble_eq_true rfl) (hts _ k_1346) (fun _ h9 => h9) rfl dX11_misfitOf_148 ?_
    refine lv_iconst (v := 2) hx hb dX11_misfitOf_151 rfl ?_
    refine ldI hx hb hE hP 9 rfl (vp_in_nI (n := 2) (by decide) (by decide)) rfl rfl dX11_misfitOf_152 ?_
    refine lv_topi (fun t99 et99 => ?_)
    refine lv_imul hx hb dX11_misfitOf_153 ?_
    refine lv_topi (fun t100 et100 => ?_)
    refine lv_iadd hx hb dX11_misfitOf_154 ?_
    refine lv_topi (fun t101 et101 => ?_)
    refine lv_aload_n hx hb dX11_misfitOf_155 rfl (lv_at hl 0 rfl) ?_
    refine va_get (D := (dC, dI)) (ci := 11) (v := .ref (r 26)) (C := RX11) (T := TX11) (N := 79) hx hb hts inB_11 hown hE.1 hP 0 rfl rfl 26 (Nat.le_of_ble_eq_true rfl) (hts _ k_1346) (fun _ h9 => h9) rfl dX11_misfitOf_156 ?_
    refine lv_iconst (v := 3) hx hb dX11_misfitOf_159 rfl ?_
    refine ldI hx hb hE hP 9 rfl (vp_in_nI (n := 3) (by decide) (by decide)) rfl rfl dX11_misfitOf_160 ?_
    refine lv_topi (fun t102 et102 => ?_)
    refine lv_iadd hx hb dX11_misfitOf_161 ?_
    refine lv_topi (fun t103 et103 => ?_)
    refine lv_aload_n hx hb dX11_misfitOf_162 rfl (lv_at hl 0 rfl) ?_
    refine va_get (D := (dC, dI)) (ci := 11) (v := .ref (r 26)) (C := RX11) (T := TX11) (N := 79) hx hb hts inB_11 hown hE.1 hP 0 rfl rfl 26 (Nat.le_of_ble_eq_true rfl) (hts _ k_1346) (fun _ h9 => h9) rfl dX11_misfitOf_163 ?_
    refine lv_iconst (v := 4) hx hb dX11_misfitOf_166 rfl ?_
    refine ldI hx hb hE hP 9 rfl (vp_in_nI (n := 4) (by decide) (by decide)) rfl rfl dX11_misfitOf_167 ?_
    refine lv_topi (fun t104 et104 => ?_)
    refine lv_iadd hx hb dX11_misfitOf_168 ?_
    refine lv_topi (fun t105 et105 => ?_)
    refine lv_sipush (v := 999) hx hb dX11_misfitOf_169 rfl ?_
    refine cbSi (n := 2) (rest := []) hx hb hml hown hts hE hP hD hS hA (sY_X11_within_1 l dC dI cy y0 r t105 999 v f24 w g hIv hCf24 hRf24 ) k_1758 k_1759 k_114 k_1760 (by decide +kernel) ⟨Nat.le_of_ble_eq_true rfl, Nat.le_of_ble_eq_true rfl⟩ (rfl) hl.1 rfl (Nat.le_of_ble_eq_true rfl) dX11_misfitOf_172 (fun r106 u H locs hw hP hD hS => ?_)
    exact ret r106 (v, f24, w, g) _ _ _ _ _ _ rfl ⟨hM_v, hA_f24, hIv, hCf24, hRf24, rfl, rfl, rfl, rfl, rfl, rfl, rfl, rfl, rfl, rfl, rfl, rfl, rfl, rfl, rfl, rfl, rfl, rfl, rfl, rfl⟩ hP hD hS dX11_misfitOf_175 (Nat.le_refl _) (Nat.le_refl _)
set_option maxHeartbeats 4000000 in
set_option maxRecDepth 100000 in
theorem sY_X11_fits_1 (l : Launch) (dC : Nat → ClassId) (dI : Nat → Nat → Nat) (cy : Nat → ClassId) (y0 : Nat) (r : Nat → Nat) (p1 : Int32) (p2 : Int32) (v : Nat → Int32) (f : Nat → Nat → Int32) (w : Int64) (g : Nat → Int64) (hIv : YI v) (hCf : YC f) (hRf : progOK (f 4) (f 5) (v 9).toInt.toNat) (hp1 : (0 : Int) ≤ p1.toInt ∧ p1.toInt ≤ 5) (hp2 : (-1 : Int) ≤ p2.toInt ∧ p2.toInt ≤ 5) : ctI l (dC, dI) cy yX11_fits cX11_fits 3 .boolean 4 126 0 0 ((Nat → Int32) × (Nat → Nat → Int32) × (Int64) × (Nat → Int64)) [.ref y0, .int p1, .int p2] (YW cy y0 r v f w g) (fun r u => KV [] u.1 v ∧ KF [7, 8] u.2.1 f ∧ YI u.1 ∧ YC u.2.1 ∧ progOK (u.2.1 4) (u.2.1 5) (u.1 9).toInt.toNat ∧ u.1 0 = v 0 ∧ u.1 1 = v 1 ∧ u.1 2 = v 2 ∧ u.1 3 = v 3 ∧ u.1 4 = v 4 ∧ u.1 5 = v 5 ∧ u.1 8 = v 8 ∧ u.1 9 = v 9 ∧ u.1 10 = v 10 ∧ u.1 13 = v 13 ∧ u.1 14 = v 14 ∧ u.1 15 = v 15 ∧ u.1 17 = v 17 ∧ u.1 18 = v 18 ∧ u.1 24 = v 24 ∧ u.1 25 = v 25 ∧ u.1 35 = v 35 ∧ u.1 36 = v 36 ∧ u.1 38 = v 38 ∧ u.1 39 = v 39 ∧ ((r = 1) ∨ (r = 0))) (fun u => YW cy y0 r u.1 u.2.1 u.2.2.1 u.2.2.2) := by
  refine ctI_of (by decide) (Nat.le_of_ble_eq_true rfl) (fun p e s m below meth c A ls Q hx hb hml hts hown hE hP hD hA hl ret => ?_)
  have hUv : (v 35).toInt + (v 36).toInt ≤ 40 := hIv.2
  have hM_v : KV [] v v := fun _ _ => rfl
  have hA_f : KF [7, 8] f f := fun _ _ => rfl
  have hown : s.vm.findClass RX11 = some m.cls := hown
  have hS : va_S A s.heap s.heap [] := va_S.rf
  have hl : lv_has ls 3 [(0, .ref y0), (1, .int p1), (2, .int p2)] := hl
  refine lv_iload_n hx hb dX11_fits_0 rfl (lv_at hl 2 rfl) ?_
  refine lv_if_lt (tgt := 21) hx hb dX11_fits_1 rfl (fun c1 => ?_) (fun c1 => ?_)
  · skip
    have zc1 : p2.toInt < 0 := by rw [fa_lt, show (0 : Int32).toInt = 0 from by decide] at c1; exact c1
    refine lv_iconst (v := 0) hx hb dX11_fits_21 rfl ?_
    exact ret 0 (v, f, w, g) _ _ _ _ _ _ rfl ⟨hM_v, hA_f, hIv, hCf, hRf, rfl, rfl, rfl, rfl, rfl, rfl, rfl, rfl, rfl, rfl, rfl, rfl, rfl, rfl, rfl, rfl, rfl, rfl, rfl, rfl, (Or.inr rfl)⟩ hP hD hS dX11_fits_22 (Nat.le_refl _) (Nat.le_refl _)
  · skip
    have zc1 : ¬ (p2.toInt < 0) := by rw [fa_lt, show (0 : Int32).toInt = 0 from by decide] at c1; exact c1
    refine lv_aload_n hx hb dX11_fits_4 rfl (lv_at hl 0 rfl) ?_
    refine lv_iload_n hx hb dX11_fits_5 rfl (lv_at hl 1 rfl) ?_
    refine lv_iload_n hx hb dX11_fits_6 rfl (lv_at hl 2 rfl) ?_
    refine cbVi (n := 2) (rest := []) hx hb hml hown hts hE hP hD hS hA (sY_X11_misfitOf_1 l dC dI cy y0 r p1 p2 v f w g hIv hCf hRf ⟨show (0 : Int) ≤ p1.toInt by omega, show p1.toInt ≤ (5 : Int) by omega⟩ ⟨show (0 : Int) ≤ p2.toInt by omega, show p2.toInt ≤ (5 : Int) by omega⟩) k_1751 k_1753 k_74 k_114 k_1754 (by decide +kernel) ⟨Nat.le_of_ble_eq_true rfl, Nat.le_of_ble_eq_true rfl⟩ 0 11 rfl rfl (rfl) hl.1 rfl (Nat.le_of_ble_eq_true rfl) dX11_fits_7 (fun r2 u H locs hw hP hD hS => ?_)
    obtain ⟨v3, f4, w5, g6⟩ := u
    obtain ⟨kV_v3, kF_f4, hIv3, hCf4, hRf4, hk0_v3, hk1_v3, hk2_v3, hk3_v3, hk4_v3, hk5_v3, hk8_v3, hk9_v3, hk10_v3, hk13_v3, hk14_v3, hk15_v3, hk17_v3, hk18_v3, hk24_v3, hk25_v3, hk35_v3, hk36_v3, hk38_v3, hk39_v3⟩ := hw
    have hM_v3 : KV [] v3 v := KV.tr kV_v3 hM_v rfl
    have hA_f4 : KF [7, 8] f4 f := KF.tr kF_f4 hA_f rfl
    have hP : va_P (dC, dI) vwCl (YW cy y0 r v3 f4 w5 g6) H := hP
    have hD : va_D A (YW cy y0 r v3 f4 w5 g6) := hD
    have hUv3 : (v3 35).toInt + (v3 36).toInt ≤ 40 := hIv3.2
    have hq9_v3 : v3 9 = (v 9) := hk9_v3
    have zq9_v3 := congrArg Int32.toInt hq9_v3
    refine lv_aload_n hx hb dX11_fits_10 rfl (lv_at hl 0 rfl) ?_
    refine va_get (D := (dC, dI)) (ci := 11) (v := .int (v3 26)) (C := RX11) (T := TX11) (N := 79) hx hb hts inB_11 hown hE.1 hP 0 rfl rfl 50 (Nat.le_of_ble_eq_true rfl) (hts _ k_1370) (fun _ h9 => h9) rfl dX11_fits_11 ?_
    refine lv_icmp_gt (tgt := 21) hx hb dX11_fits_14 rfl (fun c7 => ?_) (fun c7 => ?_)
    · skip
      have zc7 : (v3 26).toInt < r2.toInt := by rw [fa_lt] at c7; exact c7
      have rg8 := fb_rng r2
      have rg9 := fb_rng (v3 26)
      refine lv_iconst (v := 0) hx hb dX11_fits_21 rfl ?_
      exact ret 0 (v3, f4, w5, g6) _ _ _ _ _ _ rfl ⟨hM_v3, hA_f4, hIv3, hCf4, hRf4, hk0_v3, hk1_v3, hk2_v3, hk3_v3, hk4_v3, hk5_v3, hk8_v3, hk9_v3, hk10_v3, hk13_v3, hk14_v3, hk15_v3, hk17_v3, hk18_v3, hk24_v3, hk25_v3, hk35_v3, hk36_v3, hk38_v3, hk39_v3, (Or.inr rfl)⟩ hP hD hS dX11_fits_22 (Nat.le_refl _) (Nat.le_refl _)
    · skip
      have zc7 : ¬ ((v3 26).toInt < r2.toInt) := by rw [fa_lt] at c7; exact c7
      have rg10 := fb_rng r2
      have rg11 := fb_rng (v3 26)
      refine lv_iconst (v := 1) hx hb dX11_fits_17 rfl ?_
      refine lv_goto (tgt := 22) hx hb dX11_fits_18 rfl ?_
      exact ret 1 (v3, f4, w5, g6) _ _ _ _ _ _ rfl ⟨hM_v3, hA_f4, hIv3, hCf4, hRf4, hk0_v3, hk1_v3, hk2_v3, hk3_v3, hk4_v3, hk5_v3, hk8_v3, hk9_v3, hk10_v3, hk13_v3, hk14_v3, hk15_v3, hk17_v3, hk18_v3, hk24_v3, hk25_v3, hk35_v3, hk36_v3, hk38_v3, hk39_v3, (Or.inl rfl)⟩ hP hD hS dX11_fits_22 (Nat.le_refl _) (Nat.le_refl _)
set_option maxHeartbeats 4000000 in
set_option maxRecDepth 100000 in
theorem sY_X11_coatsFor_1 (l : Launch) (dC : Nat → ClassId) (dI : Nat → Nat → Nat) (cy : Nat → ClassId) (y0 : Nat) (r : Nat → Nat) (p1 : Int32) (v : Nat → Int32) (f : Nat → Nat → Int32) (w : Int64) (g : Nat → Int64) (hIv : YI v) (hCf : YC f) (hRf : progOK (f 4) (f 5) (v 9).toInt.toNat) (hp1 : (0 : Int) ≤ p1.toInt ∧ p1.toInt ≤ 5) : ctI l (dC, dI) cy yX11_coatsFor cX11_coatsFor 4 .int 5 148 0 0 ((Nat → Int32) × (Nat → Nat → Int32) × (Int64) × (Nat → Int64)) [.ref y0, .int p1] (YW cy y0 r v f w g) (fun r u => KV [] u.1 v ∧ KF [7, 8] u.2.1 f ∧ YI u.1 ∧ YC u.2.1 ∧ progOK (u.2.1 4) (u.2.1 5) (u.1 9).toInt.toNat ∧ u.1 0 = v 0 ∧ u.1 1 = v 1 ∧ u.1 2 = v 2 ∧ u.1 3 = v 3 ∧ u.1 4 = v 4 ∧ u.1 5 = v 5 ∧ u.1 8 = v 8 ∧ u.1 9 = v 9 ∧ u.1 10 = v 10 ∧ u.1 13 = v 13 ∧ u.1 14 = v 14 ∧ u.1 15 = v 15 ∧ u.1 17 = v 17 ∧ u.1 18 = v 18 ∧ u.1 24 = v 24 ∧ u.1 25 = v 25 ∧ u.1 35 = v 35 ∧ u.1 36 = v 36 ∧ u.1 38 = v 38 ∧ u.1 39 = v 39) (fun u => YW cy y0 r u.1 u.2.1 u.2.2.1 u.2.2.2) := by
  refine ctI_of (by decide) (Nat.le_of_ble_eq_true rfl) (fun p e s m below meth c A ls Q hx hb hml hts hown hE hP hD hA hl ret => ?_)
  have hUv : (v 35).toInt + (v 36).toInt ≤ 40 := hIv.2
  have hM_v : KV [] v v := fun _ _ => rfl
  have hA_f : KF [7, 8] f f := fun _ _ => rfl
  have hown : s.vm.findClass RX11 = some m.cls := hown
  have hS : va_S A s.heap s.heap [] := va_S.rf
  have hl : lv_has ls 4 [(0, .ref y0), (1, .int p1)] := hl
  refine lv_iconst (v := 0) hx hb dX11_coatsFor_0 rfl ?_
  refine lv_istore_n (lv' := [(2, .int 0), (0, .ref y0), (1, .int p1)]) hx hb dX11_coatsFor_1 rfl hl (Nat.le_of_ble_eq_true rfl) rfl (fun ls hl => ?_)
  refine lv_iconst (v := 0) hx hb dX11_coatsFor_2 rfl ?_
  refine lv_istore_n (lv' := [(3, .int 0), (2, .int 0), (0, .ref y0), (1, .int p1)]) hx hb dX11_coatsFor_3 rfl hl (Nat.le_of_ble_eq_true rfl) rfl (fun ls hl => ?_)
  have lp1 : ∀ (n1 : Nat) (l2_1 : Int32) (l3_1 : Int32) (v1 : Nat → Int32) (f1 : Nat → Nat → Int32) (w1 : Int64) (g1 : Nat → Int64), YI v1 → YC f1 → progOK (f1 4) (f1 5) (v1 9).toInt.toNat → v1 0 = (v 0) → v1 1 = (v 1) → v1 2 = (v 2) → v1 3 = (v 3) → v1 4 = (v 4) → v1 5 = (v 5) → v1 8 = (v 8) → v1 9 = (v 9) → v1 10 = (v 10) → v1 13 = (v 13) → v1 14 = (v 14) → v1 15 = (v 15) → v1 17 = (v 17) → v1 18 = (v 18) → v1 24 = (v 24) → v1 25 = (v 25) → v1 35 = (v 35) → v1 36 = (v 36) → v1 38 = (v 38) → v1 39 = (v 39) → ((0 : Int) ≤ l3_1.toInt ∧ l3_1.toInt ≤ 2147483647) → KV [] v1 v → KF [7, 8] f1 f → (2147483647 - l3_1.toInt).toNat < n1 → ∀ (H : Heap) (locs : List Loc) (ls : Array Slot), va_P (dC, dI) vwCl (YW cy y0 r v1 f1 w1 g1) H → va_D A (YW cy y0 r v1 f1 w1 g1) → va_S A s.heap H locs → lv_has ls 4 [(3, .int l3_1), (2, .int l2_1), (0, .ref y0), (1, .int p1)] → W p l e { frames := 5, cells := 0, slots := 0, locals := 148 } s m ([.ref y0, .int p1] : List Value).toArray below meth c H locs 0 0 Q (F0 m 4 ls []) := by
    intro n1
    induction n1 with
    | zero => intro l2_1 l3_1 v1 f1 w1 g1 hIv1 hCf1 hRf1 hq0_v1 hq1_v1 hq2_v1 hq3_v1 hq4_v1 hq5_v1 hq8_v1 hq9_v1 hq10_v1 hq13_v1 hq14_v1 hq15_v1 hq17_v1 hq18_v1 hq24_v1 hq25_v1 hq35_v1 hq36_v1 hq38_v1 hq39_v1 hr3_1 hM_v1 hA_f1 hm; exact absurd hm (Nat.not_lt_zero _)
    | succ n1 ih1 =>
      intro l2_1 l3_1 v1 f1 w1 g1 hIv1 hCf1 hRf1 hq0_v1 hq1_v1 hq2_v1 hq3_v1 hq4_v1 hq5_v1 hq8_v1 hq9_v1 hq10_v1 hq13_v1 hq14_v1 hq15_v1 hq17_v1 hq18_v1 hq24_v1 hq25_v1 hq35_v1 hq36_v1 hq38_v1 hq39_v1 hr3_1 hM_v1 hA_f1 hm1 H locs ls hP hD hS hl
      have hUv1 : (v1 35).toInt + (v1 36).toInt ≤ 40 := hIv1.2
      have zq9_v1 := congrArg Int32.toInt hq9_v1
      refine lv_iload_n hx hb dX11_coatsFor_4 rfl (lv_at hl 0 rfl) ?_
      refine lv_aload_n hx hb dX11_coatsFor_5 rfl (lv_at hl 2 rfl) ?_
      refine va_get (D := (dC, dI)) (ci := 11) (v := .int (v1 25)) (C := RX11) (T := TX11) (N := 79) hx hb hts inB_11 hown hE.1 hP 0 rfl rfl 49 (Nat.le_of_ble_eq_true rfl) (hts _ k_1369) (fun _ h9 => h9) rfl dX11_coatsFor_6 ?_
      refine tI (y := (v 25)) hq25_v1 ?_
      have b25_v : 0 ≤ (v 25).toInt ∧ (v 25).toInt ≤ 6 := YIb.b hIv.1 25 (by decide)
      refine lv_icmp_ge (tgt := 32) hx hb dX11_coatsFor_9 rfl (fun c2 => ?_) (fun c2 => ?_)
      · skip
        have zc2 : (v 25).toInt ≤ l3_1.toInt := by rw [fa_le] at c2; exact c2
        have rg3 := fb_rng l3_1
        have rg4 := fb_rng (v 25)
        refine lv_iload_n hx hb dX11_coatsFor_32 rfl (lv_at hl 1 rfl) ?_
        exact ret l2_1 (v1, f1, w1, g1) _ _ _ _ _ _ rfl ⟨hM_v1, hA_f1, hIv1, hCf1, hRf1, (show v1 0 = v 0 from hq0_v1), (show v1 1 = v 1 from hq1_v1), (show v1 2 = v 2 from hq2_v1), (show v1 3 = v 3 from hq3_v1), (show v1 4 = v 4 from hq4_v1), (show v1 5 = v 5 from hq5_v1), (show v1 8 = v 8 from hq8_v1), (show v1 9 = v 9 from hq9_v1), (show v1 10 = v 10 from hq10_v1), (show v1 13 = v 13 from hq13_v1), (show v1 14 = v 14 from hq14_v1), (show v1 15 = v 15 from hq15_v1), (show v1 17 = v 17 from hq17_v1), (show v1 18 = v 18 from hq18_v1), (show v1 24 = v 24 from hq24_v1), (show v1 25 = v 25 from hq25_v1), (show v1 35 = v 35 from hq35_v1), (show v1 36 = v 36 from hq36_v1), (show v1 38 = v 38 from hq38_v1), (show v1 39 = v 39 from hq39_v1)⟩ hP hD hS dX11_coatsFor_33 (Nat.le_refl _) (Nat.le_refl _)
      · skip
        have zc2 : ¬ ((v 25).toInt ≤ l3_1.toInt) := by rw [fa_le] at c2; exact c2
        have rg5 := fb_rng l3_1
        have rg6 := fb_rng (v 25)
        refine lv_iload_n hx hb dX11_coatsFor_12 rfl (lv_at hl 1 rfl) ?_
        refine lv_aload_n hx hb dX11_coatsFor_13 rfl (lv_at hl 2 rfl) ?_
        refine lv_iload_n hx hb dX11_coatsFor_14 rfl (lv_at hl 3 rfl) ?_
        refine lv_iload_n hx hb dX11_coatsFor_15 rfl (lv_at hl 0 rfl) ?_
        refine cbVi (n := 2) (rest := [.int l2_1]) hx hb hml hown hts hE hP hD hS hA (sY_X11_fits_1 l dC dI cy y0 r p1 l3_1 v1 f1 w1 g1 hIv1 hCf1 hRf1 ⟨show (0 : Int) ≤ p1.toInt by omega, show p1.toInt ≤ (5 : Int) by omega⟩ ⟨show (-1 : Int) ≤ l3_1.toInt by omega, show l3_1.toInt ≤ (5 : Int) by omega⟩) k_1747 k_1749 k_73 k_114 k_1750 (by decide +kernel) ⟨Nat.le_of_ble_eq_true rfl, Nat.le_of_ble_eq_true rfl⟩ 0 11 rfl rfl (rfl) hl.1 rfl (Nat.le_of_ble_eq_true rfl) dX11_coatsFor_16 (fun r7 u H locs hw hP hD hS => ?_)
        obtain ⟨v8, f9, w10, g11⟩ := u
        obtain ⟨kV_v8, kF_f9, hIv8, hCf9, hRf9, hk0_v8, hk1_v8, hk2_v8, hk3_v8, hk4_v8, hk5_v8, hk8_v8, hk9_v8, hk10_v8, hk13_v8, hk14_v8, hk15_v8, hk17_v8, hk18_v8, hk24_v8, hk25_v8, hk35_v8, hk36_v8, hk38_v8, hk39_v8, hw⟩ := hw
        have hM_v8 : KV [] v8 v := KV.tr kV_v8 hM_v1 rfl
        have hA_f9 : KF [7, 8] f9 f := KF.tr kF_f9 hA_f1 rfl
        have hP : va_P (dC, dI) vwCl (YW cy y0 r v8 f9 w10 g11) H := hP
        have hD : va_D A (YW cy y0 r v8 f9 w10 g11) := hD
        have hUv8 : (v8 35).toInt + (v8 36).toInt ≤ 40 := hIv8.2
        have hq0_v8 : v8 0 = (v 0) := hk0_v8.trans hq0_v1
        have hq1_v8 : v8 1 = (v 1) := hk1_v8.trans hq1_v1
        have hq2_v8 : v8 2 = (v 2) := hk2_v8.trans hq2_v1
        have hq3_v8 : v8 3 = (v 3) := hk3_v8.trans hq3_v1
        have hq4_v8 : v8 4 = (v 4) := hk4_v8.trans hq4_v1
        have hq5_v8 : v8 5 = (v 5) := hk5_v8.trans hq5_v1
        have hq8_v8 : v8 8 = (v 8) := hk8_v8.trans hq8_v1
        have hq9_v8 : v8 9 = (v 9) := hk9_v8.trans hq9_v1
        have zq9_v8 := congrArg Int32.toInt hq9_v8
        have hq10_v8 : v8 10 = (v 10) := hk10_v8.trans hq10_v1
        have hq13_v8 : v8 13 = (v 13) := hk13_v8.trans hq13_v1
        have hq14_v8 : v8 14 = (v 14) := hk14_v8.trans hq14_v1
        have hq15_v8 : v8 15 = (v 15) := hk15_v8.trans hq15_v1
        have hq17_v8 : v8 17 = (v 17) := hk17_v8.trans hq17_v1
        have hq18_v8 : v8 18 = (v 18) := hk18_v8.trans hq18_v1
        have hq24_v8 : v8 24 = (v 24) := hk24_v8.trans hq24_v1
        have hq25_v8 : v8 25 = (v 25) := hk25_v8.trans hq25_v1
        have hq35_v8 : v8 35 = (v 35) := hk35_v8.trans hq35_v1
        have hq36_v8 : v8 36 = (v 36) := hk36_v8.trans hq36_v1
        have hq38_v8 : v8 38 = (v 38) := hk38_v8.trans hq38_v1
        have hq39_v8 : v8 39 = (v 39) := hk39_v8.trans hq39_v1
        rcases hw with ⟨g12⟩ | ⟨g12⟩
        · skip
          subst g12
          have lt13 : (1 : Int32).toInt = 1 := by decide
          refine cbSi (n := 1) (rest := [.int l2_1]) hx hb hml hown hts hE hP hD hS hA (sY_X11_truth_1 l dC dI cy y0 r 1 v8 f9 w10 g11 hIv8 hCf9 hRf9 ) k_1761 k_1762 k_114 k_1763 (by decide +kernel) ⟨Nat.le_of_ble_eq_true rfl, Nat.le_of_ble_eq_true rfl⟩ (rfl) hl.1 rfl (Nat.le_of_ble_eq_true rfl) dX11_coatsFor_19 (fun r14 u H locs hw hP hD hS => ?_)
          refine lv_iload_n hx hb dX11_coatsFor_22 rfl (lv_at hl 0 rfl) ?_
          refine lv_ishl hx hb dX11_coatsFor_23 ?_
          refine lv_topi (fun t15 et15 => ?_)
          have zt15 : 0 ≤ t15.toInt ∧ t15.toInt ≤ 32 := by rw [et15]; exact shl01_rng (by omega) (by omega) (by omega) (by omega)
          refine lv_ior hx hb dX11_coatsFor_24 ?_
          refine lv_topi (fun t16 et16 => ?_)
          refine lv_istore_n (lv' := [(2, .int t16), (3, .int l3_1), (0, .ref y0), (1, .int p1)]) hx hb dX11_coatsFor_25 rfl hl (Nat.le_of_ble_eq_true rfl) rfl (fun ls hl => ?_)
          obtain ⟨t17, et17⟩ : ∃ y : Int32, y = l3_1 + 1 := ⟨_, rfl⟩
          have zt17 : t17.toInt = l3_1.toInt + 1 := by rw [et17]; exact add_i rfl (by decide) (by omega) (by omega)
          refine lv_iinc (v := t17) (lv' := [(3, .int t17), (2, .int t16), (0, .ref y0), (1, .int p1)]) hx hb dX11_coatsFor_26 hl (k := 1) rfl (by rw [et17]; rfl) (by decide) rfl (fun ls hl => ?_)
          refine lv_goto (tgt := 4) hx hb dX11_coatsFor_29 rfl ?_
          have rg18 := fb_rng t17
          exact ih1 t16 t17 v8 f9 w10 g11 hIv8 hCf9 hRf9 hq0_v8 hq1_v8 hq2_v8 hq3_v8 hq4_v8 hq5_v8 hq8_v8 hq9_v8 hq10_v8 hq13_v8 hq14_v8 hq15_v8 hq17_v8 hq18_v8 hq24_v8 hq25_v8 hq35_v8 hq36_v8 hq38_v8 hq39_v8 ⟨show (0 : Int) ≤ t17.toInt by omega, show t17.toInt ≤ (2147483647 : Int) by omega⟩ hM_v8 hA_f9 (by show (2147483647 - t17.toInt).toNat < n1; omega) _ _ _ hP hD hS (lv_sub hl [0, 1, 2, 3] rfl)
        · skip
          subst g12
          have lt19 : (0 : Int32).toInt = 0 := by decide
          refine cbSi (n := 1) (rest := [.int l2_1]) hx hb hml hown hts hE hP hD hS hA (sY_X11_truth_1 l dC dI cy y0 r 0 v8 f9 w10 g11 hIv8 hCf9 hRf9 ) k_1761 k_1762 k_114 k_1763 (by decide +kernel) ⟨Nat.le_of_ble_eq_true rfl, Nat.le_of_ble_eq_true rfl⟩ (rfl) hl.1 rfl (Nat.le_of_ble_eq_true rfl) dX11_coatsFor_19 (fun r20 u H locs hw hP hD hS => ?_)
          refine lv_iload_n hx hb dX11_coatsFor_22 rfl (lv_at hl 0 rfl) ?_
          refine lv_ishl hx hb dX11_coatsFor_23 ?_
          refine lv_topi (fun t21 et21 => ?_)
          have zt21 : 0 ≤ t21.toInt ∧ t21.toInt ≤ 32 := by rw [et21]; exact shl01_rng (by omega) (by omega) (by omega) (by omega)
          refine lv_ior hx hb dX11_coatsFor_24 ?_
          refine lv_topi (fun t22 et22 => ?_)
          refine lv_istore_n (lv' := [(2, .int t22), (3, .int l3_1), (0, .ref y0), (1, .int p1)]) hx hb dX11_coatsFor_25 rfl hl (Nat.le_of_ble_eq_true rfl) rfl (fun ls hl => ?_)
          obtain ⟨t23, et23⟩ : ∃ y : Int32, y = l3_1 + 1 := ⟨_, rfl⟩
          have zt23 : t23.toInt = l3_1.toInt + 1 := by rw [et23]; exact add_i rfl (by decide) (by omega) (by omega)
          refine lv_iinc (v := t23) (lv' := [(3, .int t23), (2, .int t22), (0, .ref y0), (1, .int p1)]) hx hb dX11_coatsFor_26 hl (k := 1) rfl (by rw [et23]; rfl) (by decide) rfl (fun ls hl => ?_)
          refine lv_goto (tgt := 4) hx hb dX11_coatsFor_29 rfl ?_
          have rg24 := fb_rng t23
          exact ih1 t22 t23 v8 f9 w10 g11 hIv8 hCf9 hRf9 hq0_v8 hq1_v8 hq2_v8 hq3_v8 hq4_v8 hq5_v8 hq8_v8 hq9_v8 hq10_v8 hq13_v8 hq14_v8 hq15_v8 hq17_v8 hq18_v8 hq24_v8 hq25_v8 hq35_v8 hq36_v8 hq38_v8 hq39_v8 ⟨show (0 : Int) ≤ t23.toInt by omega, show t23.toInt ≤ (2147483647 : Int) by omega⟩ hM_v8 hA_f9 (by show (2147483647 - t23.toInt).toNat < n1; omega) _ _ _ hP hD hS (lv_sub hl [0, 1, 2, 3] rfl)
  exact lp1 _ 0 0 v f w g hIv hCf hRf rfl rfl rfl rfl rfl rfl rfl rfl rfl rfl rfl rfl rfl rfl rfl rfl rfl rfl rfl rfl ⟨by decide, by decide⟩ hM_v hA_f (Nat.lt_succ_self _) _ _ _ hP hD hS (lv_sub hl [0, 1, 2, 3] rfl)
set_option maxHeartbeats 4000000 in
set_option maxRecDepth 100000 in
theorem sY_X11_man_1 (l : Launch) (dC : Nat → ClassId) (dI : Nat → Nat → Nat) (cy : Nat → ClassId) (y0 : Nat) (r : Nat → Nat) (p1 : Int32) (p2 : Int32) (v : Nat → Int32) (f : Nat → Nat → Int32) (w : Int64) (g : Nat → Int64) (hIv : YI v) (hCf : YC f) (hRf : progOK (f 4) (f 5) (v 9).toInt.toNat)  : ctI l (dC, dI) cy yX11_man cX11_man 3 .int 6 171 0 0 ((Nat → Int32) × (Nat → Nat → Int32) × (Int64) × (Nat → Int64)) [.ref y0, .int p1, .int p2] (YW cy y0 r v f w g) (fun r u => KV [] u.1 v ∧ KF [7, 8, 24] u.2.1 f ∧ YI u.1 ∧ YC u.2.1 ∧ progOK (u.2.1 4) (u.2.1 5) (u.1 9).toInt.toNat ∧ u.1 0 = v 0 ∧ u.1 1 = v 1 ∧ u.1 2 = v 2 ∧ u.1 3 = v 3 ∧ u.1 4 = v 4 ∧ u.1 5 = v 5 ∧ u.1 8 = v 8 ∧ u.1 9 = v 9 ∧ u.1 10 = v 10 ∧ u.1 13 = v 13 ∧ u.1 14 = v 14 ∧ u.1 15 = v 15 ∧ u.1 17 = v 17 ∧ u.1 18 = v 18 ∧ u.1 24 = v 24 ∧ u.1 25 = v 25 ∧ u.1 35 = v 35 ∧ u.1 36 = v 36 ∧ u.1 38 = v 38 ∧ u.1 39 = v 39) (fun u => YW cy y0 r u.1 u.2.1 u.2.2.1 u.2.2.2) := by
  refine ctI_of (by decide) (Nat.le_of_ble_eq_true rfl) (fun p e s m below meth c A ls Q hx hb hml hts hown hE hP hD hA hl ret => ?_)
  have hUv : (v 35).toInt + (v 36).toInt ≤ 40 := hIv.2
  have hM_v : KV [] v v := fun _ _ => rfl
  have hA_f : KF [7, 8, 24] f f := fun _ _ => rfl
  have hown : s.vm.findClass RX11 = some m.cls := hown
  have hS : va_S A s.heap s.heap [] := va_S.rf
  have hl : lv_has ls 3 [(0, .ref y0), (1, .int p1), (2, .int p2)] := hl
  refine lv_aload_n hx hb dX11_man_0 rfl (lv_at hl 0 rfl) ?_
  refine lv_iload_n hx hb dX11_man_1 rfl (lv_at hl 1 rfl) ?_
  refine cbVi (n := 1) (rest := []) hx hb hml hown hts hE hP hD hS hA (sY_X11_isMan_1 l dC dI cy y0 r p1 v f w g hIv hCf hRf ) k_1732 k_1734 k_70 k_114 k_1735 (by decide +kernel) ⟨Nat.le_of_ble_eq_true rfl, Nat.le_of_ble_eq_true rfl⟩ 0 11 rfl rfl (rfl) hl.1 rfl (Nat.le_of_ble_eq_true rfl) dX11_man_2 (fun r1 u H locs hw hP hD hS => ?_)
  rcases hw with ⟨g2, g2_0, g2_1, g2_2⟩ | ⟨g2⟩
  · skip
    subst g2
    refine lv_if_ne (tgt := 11) hx hb dX11_man_5 rfl (fun _ => ?_) (fun c0 => absurd c0 (by decide))
    refine lv_aload_n hx hb dX11_man_11 rfl (lv_at hl 0 rfl) ?_
    refine cbVv (n := 0) (rest := []) hx hb hml hown hts hE hP hD hS hA (sY_X11_fill_1 l dC dI cy y0 r  v f w g hIv hCf hRf ) k_1739 k_1741 k_71 k_114 k_1742 (by decide +kernel) ⟨Nat.le_of_ble_eq_true rfl, Nat.le_of_ble_eq_true rfl⟩ 0 11 rfl rfl (rfl) hl.1 rfl (Nat.le_of_ble_eq_true rfl) dX11_man_12 (fun u H locs hw hP hD hS => ?_)
    obtain ⟨v3, f4, w5, g6⟩ := u
    obtain ⟨kV_v3, kF_f4, hIv3, hCf4, hRf4, hk0_v3, hk1_v3, hk2_v3, hk3_v3, hk4_v3, hk5_v3, hk8_v3, hk9_v3, hk10_v3, hk13_v3, hk14_v3, hk15_v3, hk17_v3, hk18_v3, hk24_v3, hk25_v3, hk35_v3, hk36_v3, hk38_v3, hk39_v3⟩ := hw
    have hM_v3 : KV [] v3 v := KV.tr kV_v3 hM_v rfl
    have hA_f4 : KF [7, 8, 24] f4 f := KF.tr kF_f4 hA_f rfl
    have hP : va_P (dC, dI) vwCl (YW cy y0 r v3 f4 w5 g6) H := hP
    have hD : va_D A (YW cy y0 r v3 f4 w5 g6) := hD
    have hUv3 : (v3 35).toInt + (v3 36).toInt ≤ 40 := hIv3.2
    have hq9_v3 : v3 9 = (v 9) := hk9_v3
    have zq9_v3 := congrArg Int32.toInt hq9_v3
    refine lv_iload_n hx hb dX11_man_15 rfl (lv_at hl 2 rfl) ?_
    by_cases c7 : p2 = 0
    · skip
      refine lv_tableIn (off := 36) (tgt := 52) hx hb dX11_man_16 (by rw [c7]; decide) (by rw [c7]; decide) (by rw [c7]; decide) (by decide) ?_
      have zc7 : p2.toInt = 0 := by rw [fa_eq, show (0 : Int32).toInt = 0 from by decide] at c7; exact c7
      refine lv_aload_n hx hb dX11_man_52 rfl (lv_at hl 0 rfl) ?_
      refine va_get (D := (dC, dI)) (ci := 11) (v := .ref (r 34)) (C := RX11) (T := TX11) (N := 79) hx hb hts inB_11 hown hE.1 hP 0 rfl rfl 34 (Nat.le_of_ble_eq_true rfl) (hts _ k_1354) (fun _ h9 => h9) rfl dX11_man_53 ?_
      refine lv_iload_n hx hb dX11_man_56 rfl (lv_at hl 1 rfl) ?_
      refine ldI hx hb hE hP 17 rfl (vp_in_iff.mpr ⟨by omega, by omega⟩) rfl rfl dX11_man_57 ?_
      refine lv_topi (fun t8 et8 => ?_)
      exact ret t8 (v3, f4, w5, g6) _ _ _ _ _ _ rfl ⟨hM_v3, hA_f4, hIv3, hCf4, hRf4, hk0_v3, hk1_v3, hk2_v3, hk3_v3, hk4_v3, hk5_v3, hk8_v3, hk9_v3, hk10_v3, hk13_v3, hk14_v3, hk15_v3, hk17_v3, hk18_v3, hk24_v3, hk25_v3, hk35_v3, hk36_v3, hk38_v3, hk39_v3⟩ hP hD hS dX11_man_58 (Nat.le_refl _) (Nat.le_refl _)
    · skip
      have zc7 : ¬ (p2.toInt = 0) := by rw [fa_eq, show (0 : Int32).toInt = 0 from by decide] at c7; exact c7
      by_cases c9 : p2 = 1
      · skip
        refine lv_tableIn (off := 43) (tgt := 59) hx hb dX11_man_16 (by rw [c9]; decide) (by rw [c9]; decide) (by rw [c9]; decide) (by decide) ?_
        have zc9 : p2.toInt = 1 := by rw [fa_eq, show (1 : Int32).toInt = 1 from by decide] at c9; exact c9
        refine lv_aload_n hx hb dX11_man_59 rfl (lv_at hl 0 rfl) ?_
        refine va_get (D := (dC, dI)) (ci := 11) (v := .ref (r 60)) (C := RX11) (T := TX11) (N := 79) hx hb hts inB_11 hown hE.1 hP 0 rfl rfl 60 (Nat.le_of_ble_eq_true rfl) (hts _ k_1380) (fun _ h9 => h9) rfl dX11_man_60 ?_
        refine lv_iload_n hx hb dX11_man_63 rfl (lv_at hl 1 rfl) ?_
        refine ldI hx hb hE hP 25 rfl (vp_in_iff.mpr ⟨by omega, by omega⟩) rfl rfl dX11_man_64 ?_
        refine lv_topi (fun t10 et10 => ?_)
        have zt10 : p1.toInt.toNat % 39 < 6 ∨ 12 ≤ p1.toInt.toNat % 39 ∨ (-1 ≤ t10.toInt ∧ t10.toInt ≤ 5) := by rw [et10]; exact wear_ld hCf4.2.1 (show p1.toInt.toNat < 39 by omega)
        exact ret t10 (v3, f4, w5, g6) _ _ _ _ _ _ rfl ⟨hM_v3, hA_f4, hIv3, hCf4, hRf4, hk0_v3, hk1_v3, hk2_v3, hk3_v3, hk4_v3, hk5_v3, hk8_v3, hk9_v3, hk10_v3, hk13_v3, hk14_v3, hk15_v3, hk17_v3, hk18_v3, hk24_v3, hk25_v3, hk35_v3, hk36_v3, hk38_v3, hk39_v3⟩ hP hD hS dX11_man_65 (Nat.le_refl _) (Nat.le_refl _)
      · skip
        have zc9 : ¬ (p2.toInt = 1) := by rw [fa_eq, show (1 : Int32).toInt = 1 from by decide] at c9; exact c9
        by_cases c11 : p2 = 2
        · skip
          refine lv_tableIn (off := 50) (tgt := 66) hx hb dX11_man_16 (by rw [c11]; decide) (by rw [c11]; decide) (by rw [c11]; decide) (by decide) ?_
          have zc11 : p2.toInt = 2 := by rw [fa_eq, show (2 : Int32).toInt = 2 from by decide] at c11; exact c11
          refine lv_aload_n hx hb dX11_man_66 rfl (lv_at hl 0 rfl) ?_
          refine va_get (D := (dC, dI)) (ci := 11) (v := .ref (r 36)) (C := RX11) (T := TX11) (N := 79) hx hb hts inB_11 hown hE.1 hP 0 rfl rfl 36 (Nat.le_of_ble_eq_true rfl) (hts _ k_1356) (fun _ h9 => h9) rfl dX11_man_67 ?_
          refine lv_iload_n hx hb dX11_man_70 rfl (lv_at hl 1 rfl) ?_
          refine ldI hx hb hE hP 19 rfl (vp_in_iff.mpr ⟨by omega, by omega⟩) rfl rfl dX11_man_71 ?_
          refine lv_topi (fun t12 et12 => ?_)
          exact ret t12 (v3, f4, w5, g6) _ _ _ _ _ _ rfl ⟨hM_v3, hA_f4, hIv3, hCf4, hRf4, hk0_v3, hk1_v3, hk2_v3, hk3_v3, hk4_v3, hk5_v3, hk8_v3, hk9_v3, hk10_v3, hk13_v3, hk14_v3, hk15_v3, hk17_v3, hk18_v3, hk24_v3, hk25_v3, hk35_v3, hk36_v3, hk38_v3, hk39_v3⟩ hP hD hS dX11_man_72 (Nat.le_refl _) (Nat.le_refl _)
        · skip
          have zc11 : ¬ (p2.toInt = 2) := by rw [fa_eq, show (2 : Int32).toInt = 2 from by decide] at c11; exact c11
          by_cases c13 : p2 = 3
          · skip
            refine lv_tableIn (off := 57) (tgt := 73) hx hb dX11_man_16 (by rw [c13]; decide) (by rw [c13]; decide) (by rw [c13]; decide) (by decide) ?_
            have zc13 : p2.toInt = 3 := by rw [fa_eq, show (3 : Int32).toInt = 3 from by decide] at c13; exact c13
            refine lv_aload_n hx hb dX11_man_73 rfl (lv_at hl 0 rfl) ?_
            refine va_get (D := (dC, dI)) (ci := 11) (v := .ref (r 60)) (C := RX11) (T := TX11) (N := 79) hx hb hts inB_11 hown hE.1 hP 0 rfl rfl 60 (Nat.le_of_ble_eq_true rfl) (hts _ k_1380) (fun _ h9 => h9) rfl dX11_man_74 ?_
            refine lv_bipush (v := 6) hx hb dX11_man_77 rfl ?_
            refine lv_iload_n hx hb dX11_man_79 rfl (lv_at hl 1 rfl) ?_
            refine lv_iadd hx hb dX11_man_80 ?_
            refine lv_topi (fun t14 et14 => ?_)
            have rg15 := fb_rng p1
            have zt14 : t14.toInt = 6 + p1.toInt := by rw [et14]; exact add_i (by decide) rfl (by omega) (by omega)
            refine ldI hx hb hE hP 25 rfl (vp_in_iff.mpr ⟨by omega, by omega⟩) rfl rfl dX11_man_81 ?_
            refine lv_topi (fun t16 et16 => ?_)
            have zt16 : t14.toInt.toNat % 39 < 6 ∨ 12 ≤ t14.toInt.toNat % 39 ∨ (-1 ≤ t16.toInt ∧ t16.toInt ≤ 5) := by rw [et16]; exact wear_ld hCf4.2.1 (show t14.toInt.toNat < 39 by omega)
            exact ret t16 (v3, f4, w5, g6) _ _ _ _ _ _ rfl ⟨hM_v3, hA_f4, hIv3, hCf4, hRf4, hk0_v3, hk1_v3, hk2_v3, hk3_v3, hk4_v3, hk5_v3, hk8_v3, hk9_v3, hk10_v3, hk13_v3, hk14_v3, hk15_v3, hk17_v3, hk18_v3, hk24_v3, hk25_v3, hk35_v3, hk36_v3, hk38_v3, hk39_v3⟩ hP hD hS dX11_man_82 (Nat.le_refl _) (Nat.le_refl _)
          · skip
            have zc13 : ¬ (p2.toInt = 3) := by rw [fa_eq, show (3 : Int32).toInt = 3 from by decide] at c13; exact c13
            by_cases c17 : p2 = 4
            · skip
              refine lv_tableIn (off := 67) (tgt := 83) hx hb dX11_man_16 (by rw [c17]; decide) (by rw [c17]; decide) (by rw [c17]; decide) (by decide) ?_
              have zc17 : p2.toInt = 4 := by rw [fa_eq, show (4 : Int32).toInt = 4 from by decide] at c17; exact c17
              refine lv_aload_n hx hb dX11_man_83 rfl (lv_at hl 0 rfl) ?_
              refine lv_iload_n hx hb dX11_man_84 rfl (lv_at hl 1 rfl) ?_
              refine cbVi (n := 1) (rest := []) hx hb hml hown hts hE hP hD hS hA (sY_X11_coatsFor_1 l dC dI cy y0 r p1 v3 f4 w5 g6 hIv3 hCf4 hRf4 ⟨show (0 : Int) ≤ p1.toInt by omega, show p1.toInt ≤ (5 : Int) by omega⟩) k_1743 k_1745 k_72 k_114 k_1746 (by decide +kernel) ⟨Nat.le_of_ble_eq_true rfl, Nat.le_of_ble_eq_true rfl⟩ 0 11 rfl rfl (rfl) hl.1 rfl (Nat.le_of_ble_eq_true rfl) dX11_man_85 (fun r18 u H locs hw hP hD hS => ?_)
              obtain ⟨v19, f20, w21, g22⟩ := u
              obtain ⟨kV_v19, kF_f20, hIv19, hCf20, hRf20, hk0_v19, hk1_v19, hk2_v19, hk3_v19, hk4_v19, hk5_v19, hk8_v19, hk9_v19, hk10_v19, hk13_v19, hk14_v19, hk15_v19, hk17_v19, hk18_v19, hk24_v19, hk25_v19, hk35_v19, hk36_v19, hk38_v19, hk39_v19⟩ := hw
              have hM_v19 : KV [] v19 v := KV.tr kV_v19 hM_v3 rfl
              have hA_f20 : KF [7, 8, 24] f20 f := KF.tr kF_f20 hA_f4 rfl
              have hP : va_P (dC, dI) vwCl (YW cy y0 r v19 f20 w21 g22) H := hP
              have hD : va_D A (YW cy y0 r v19 f20 w21 g22) := hD
              have hUv19 : (v19 35).toInt + (v19 36).toInt ≤ 40 := hIv19.2
              have hq9_v19 : v19 9 = (v 9) := hk9_v19.trans hq9_v3
              have zq9_v19 := congrArg Int32.toInt hq9_v19
              exact ret r18 (v19, f20, w21, g22) _ _ _ _ _ _ rfl ⟨hM_v19, hA_f20, hIv19, hCf20, hRf20, (hk0_v19.trans hk0_v3), (hk1_v19.trans hk1_v3), (hk2_v19.trans hk2_v3), (hk3_v19.trans hk3_v3), (hk4_v19.trans hk4_v3), (hk5_v19.trans hk5_v3), (hk8_v19.trans hk8_v3), (hk9_v19.trans hk9_v3), (hk10_v19.trans hk10_v3), (hk13_v19.trans hk13_v3), (hk14_v19.trans hk14_v3), (hk15_v19.trans hk15_v3), (hk17_v19.trans hk17_v3), (hk18_v19.trans hk18_v3), (hk24_v19.trans hk24_v3), (hk25_v19.trans hk25_v3), (hk35_v19.trans hk35_v3), (hk36_v19.trans hk36_v3), (hk38_v19.trans hk38_v3), (hk39_v19.trans hk39_v3)⟩ hP hD hS dX11_man_88 (Nat.le_refl _) (Nat.le_refl _)
            · skip
              have zc17 : ¬ (p2.toInt = 4) := by rw [fa_eq, show (4 : Int32).toInt = 4 from by decide] at c17; exact c17
              refine lv_tableOut (tgt := 89) hx hb dX11_man_16 (by omega) (by decide) ?_
              refine lv_bipush (v := (-2)) hx hb dX11_man_89 rfl ?_
              exact ret (-2) (v3, f4, w5, g6) _ _ _ _ _ _ rfl ⟨hM_v3, hA_f4, hIv3, hCf4, hRf4, hk0_v3, hk1_v3, hk2_v3, hk3_v3, hk4_v3, hk5_v3, hk8_v3, hk9_v3, hk10_v3, hk13_v3, hk14_v3, hk15_v3, hk17_v3, hk18_v3, hk24_v3, hk25_v3, hk35_v3, hk36_v3, hk38_v3, hk39_v3⟩ hP hD hS dX11_man_91 (Nat.le_refl _) (Nat.le_refl _)
  · skip
    subst g2
    refine lv_if_ne (tgt := 11) hx hb dX11_man_5 rfl (fun c0 => absurd (by decide) c0) (fun _ => ?_)
    refine lv_bipush (v := (-2)) hx hb dX11_man_8 rfl ?_
    exact ret (-2) (v, f, w, g) _ _ _ _ _ _ rfl ⟨hM_v, hA_f, hIv, hCf, hRf, rfl, rfl, rfl, rfl, rfl, rfl, rfl, rfl, rfl, rfl, rfl, rfl, rfl, rfl, rfl, rfl, rfl, rfl, rfl, rfl⟩ hP hD hS dX11_man_10 (Nat.le_refl _) (Nat.le_refl _)
set_option maxHeartbeats 4000000 in
set_option maxRecDepth 100000 in
theorem sY_X11_isCoat_1 (l : Launch) (dC : Nat → ClassId) (dI : Nat → Nat → Nat) (cy : Nat → ClassId) (y0 : Nat) (r : Nat → Nat) (p1 : Int32) (v : Nat → Int32) (f : Nat → Nat → Int32) (w : Int64) (g : Nat → Int64) (hIv : YI v) (hCf : YC f) (hRf : progOK (f 4) (f 5) (v 9).toInt.toNat)  : ctI l (dC, dI) cy yX11_isCoat cX11_isCoat 2 .boolean 2 82 0 0 Unit [.ref y0, .int p1] (YW cy y0 r v f w g) (fun r u => ((r = 1 ∧ 0 ≤ p1.toInt ∧ p1.toInt < (v 25).toInt ∧ p1.toInt ≤ 5) ∨ (r = 0))) (fun u => YW cy y0 r v f w g) := by
  refine ctI_of (by decide) (Nat.le_of_ble_eq_true rfl) (fun p e s m below meth c A ls Q hx hb hml hts hown hE hP hD hA hl ret => ?_)
  have hUv : (v 35).toInt + (v 36).toInt ≤ 40 := hIv.2
  have hown : s.vm.findClass RX11 = some m.cls := hown
  have hS : va_S A s.heap s.heap [] := va_S.rf
  have hl : lv_has ls 2 [(0, .ref y0), (1, .int p1)] := hl
  refine lv_iload_n hx hb dX11_isCoat_0 rfl (lv_at hl 1 rfl) ?_
  refine lv_iconst (v := 0) hx hb dX11_isCoat_1 rfl ?_
  refine lv_aload_n hx hb dX11_isCoat_2 rfl (lv_at hl 0 rfl) ?_
  refine va_get (D := (dC, dI)) (ci := 11) (v := .int (v 25)) (C := RX11) (T := TX11) (N := 79) hx hb hts inB_11 hown hE.1 hP 0 rfl rfl 49 (Nat.le_of_ble_eq_true rfl) (hts _ k_1369) (fun _ h9 => h9) rfl dX11_isCoat_3 ?_
  have b25_v : 0 ≤ (v 25).toInt ∧ (v 25).toInt ≤ 6 := YIb.b hIv.1 25 (by decide)
  refine lv_iconst (v := 1) hx hb dX11_isCoat_6 rfl ?_
  refine lv_isub hx hb dX11_isCoat_7 ?_
  refine lv_topi (fun t1 et1 => ?_)
  have rg2 := fb_rng (v 25)
  have zt1 : t1.toInt = (v 25).toInt - 1 := by rw [et1]; exact sub_i rfl (by decide) (by omega) (by omega)
  have lt3 : (0 : Int32).toInt = 0 := by decide
  refine cbSi (n := 3) (rest := []) hx hb hml hown hts hE hP hD hS hA (sY_X11_isIn_1 0 l dC dI cy y0 r p1 0 t1 v f w g hIv hCf hRf ) k_1736 k_1737 k_114 k_1738 (by decide +kernel) ⟨Nat.le_of_ble_eq_true rfl, Nat.le_of_ble_eq_true rfl⟩ (rfl) hl.1 rfl (Nat.le_of_ble_eq_true rfl) dX11_isCoat_8 (fun r4 u H locs hw hP hD hS => ?_)
  obtain ⟨hG5, hw⟩ := hw
  rcases hw with ⟨g6, g6_0, g6_1⟩ | ⟨g6⟩
  · skip
    subst g6
    exact ret 1 () _ _ _ _ _ _ rfl (Or.inl ⟨rfl, by omega, by omega, by omega⟩) hP hD hS dX11_isCoat_11 (Nat.le_refl _) (Nat.le_refl _)
  · skip
    subst g6
    exact ret 0 () _ _ _ _ _ _ rfl (Or.inr rfl) hP hD hS dX11_isCoat_11 (Nat.le_refl _) (Nat.le_refl _)
set_option maxHeartbeats 4000000 in
set_option maxRecDepth 100000 in
theorem sY_X11_wearer_1 (l : Launch) (dC : Nat → ClassId) (dI : Nat → Nat → Nat) (cy : Nat → ClassId) (y0 : Nat) (r : Nat → Nat) (p1 : Int32) (v : Nat → Int32) (f : Nat → Nat → Int32) (w : Int64) (g : Nat → Int64) (hIv : YI v) (hCf : YC f) (hRf : progOK (f 4) (f 5) (v 9).toInt.toNat)  : ctI l (dC, dI) cy yX11_wearer cX11_wearer 4 .int 1 60 0 0 Unit [.ref y0, .int p1] (YW cy y0 r v f w g) (fun r u => True) (fun u => YW cy y0 r v f w g) := by
  refine ctI_of (by decide) (Nat.le_of_ble_eq_true rfl) (fun p e s m below meth c A ls Q hx hb hml hts hown hE hP hD hA hl ret => ?_)
  have hUv : (v 35).toInt + (v 36).toInt ≤ 40 := hIv.2
  have hown : s.vm.findClass RX11 = some m.cls := hown
  have hS : va_S A s.heap s.heap [] := va_S.rf
  have hl : lv_has ls 4 [(0, .ref y0), (1, .int p1)] := hl
  refine lv_iconst (v := (-1)) hx hb dX11_wearer_0 rfl ?_
  refine lv_istore_n (lv' := [(2, .int (-1)), (0, .ref y0), (1, .int p1)]) hx hb dX11_wearer_1 rfl hl (Nat.le_of_ble_eq_true rfl) rfl (fun ls hl => ?_)
  refine lv_iconst (v := 0) hx hb dX11_wearer_2 rfl ?_
  refine lv_istore_n (lv' := [(3, .int 0), (2, .int (-1)), (0, .ref y0), (1, .int p1)]) hx hb dX11_wearer_3 rfl hl (Nat.le_of_ble_eq_true rfl) rfl (fun ls hl => ?_)
  have lp1 : ∀ (n1 : Nat) (l2_1 : Int32) (l3_1 : Int32), ((0 : Int) ≤ l3_1.toInt ∧ l3_1.toInt ≤ 2147483647) → (2147483647 - l3_1.toInt).toNat < n1 → ∀ (H : Heap) (locs : List Loc) (ls : Array Slot), va_P (dC, dI) vwCl (YW cy y0 r v f w g) H → va_D A (YW cy y0 r v f w g) → va_S A s.heap H locs → lv_has ls 4 [(3, .int l3_1), (2, .int l2_1), (0, .ref y0), (1, .int p1)] → W p l e { frames := 1, cells := 0, slots := 0, locals := 60 } s m ([.ref y0, .int p1] : List Value).toArray below meth c H locs 0 0 Q (F0 m 4 ls []) := by
    intro n1
    induction n1 with
    | zero => intro l2_1 l3_1 hr3_1 hm; exact absurd hm (Nat.not_lt_zero _)
    | succ n1 ih1 =>
      intro l2_1 l3_1 hr3_1 hm1 H locs ls hP hD hS hl
      refine lv_iload_n hx hb dX11_wearer_4 rfl (lv_at hl 0 rfl) ?_
      refine lv_aload_n hx hb dX11_wearer_5 rfl (lv_at hl 2 rfl) ?_
      refine va_get (D := (dC, dI)) (ci := 11) (v := .int (v 24)) (C := RX11) (T := TX11) (N := 79) hx hb hts inB_11 hown hE.1 hP 0 rfl rfl 48 (Nat.le_of_ble_eq_true rfl) (hts _ k_1368) (fun _ h9 => h9) rfl dX11_wearer_6 ?_
      have b24_v : 0 ≤ (v 24).toInt ∧ (v 24).toInt ≤ 6 := YIb.b hIv.1 24 (by decide)
      refine lv_icmp_ge (tgt := 37) hx hb dX11_wearer_9 rfl (fun c2 => ?_) (fun c2 => ?_)
      · skip
        have zc2 : (v 24).toInt ≤ l3_1.toInt := by rw [fa_le] at c2; exact c2
        have rg3 := fb_rng l3_1
        have rg4 := fb_rng (v 24)
        refine lv_iload_n hx hb dX11_wearer_37 rfl (lv_at hl 1 rfl) ?_
        exact ret l2_1 () _ _ _ _ _ _ rfl trivial hP hD hS dX11_wearer_38 (Nat.le_refl _) (Nat.le_refl _)
      · skip
        have zc2 : ¬ ((v 24).toInt ≤ l3_1.toInt) := by rw [fa_le] at c2; exact c2
        have rg5 := fb_rng l3_1
        have rg6 := fb_rng (v 24)
        refine lv_aload_n hx hb dX11_wearer_12 rfl (lv_at hl 2 rfl) ?_
        refine va_get (D := (dC, dI)) (ci := 11) (v := .ref (r 60)) (C := RX11) (T := TX11) (N := 79) hx hb hts inB_11 hown hE.1 hP 0 rfl rfl 60 (Nat.le_of_ble_eq_true rfl) (hts _ k_1380) (fun _ h9 => h9) rfl dX11_wearer_13 ?_
        refine lv_bipush (v := 6) hx hb dX11_wearer_16 rfl ?_
        refine lv_iload_n hx hb dX11_wearer_18 rfl (lv_at hl 0 rfl) ?_
        refine lv_iadd hx hb dX11_wearer_19 ?_
        refine lv_topi (fun t7 et7 => ?_)
        have zt7 : t7.toInt = 6 + l3_1.toInt := by rw [et7]; exact add_i (by decide) rfl (by omega) (by omega)
        refine ldI hx hb hE hP 25 rfl (vp_in_iff.mpr ⟨by omega, by omega⟩) rfl rfl dX11_wearer_20 ?_
        refine lv_topi (fun t8 et8 => ?_)
        have zt8 : t7.toInt.toNat % 39 < 6 ∨ 12 ≤ t7.toInt.toNat % 39 ∨ (-1 ≤ t8.toInt ∧ t8.toInt ≤ 5) := by rw [et8]; exact wear_ld hCf.2.1 (show t7.toInt.toNat < 39 by omega)
        refine lv_iload_n hx hb dX11_wearer_21 rfl (lv_at hl 3 rfl) ?_
        refine lv_icmp_ne (tgt := 29) hx hb dX11_wearer_22 rfl (fun c9 => ?_) (fun c9 => ?_)
        · skip
          have zc9 : ¬ (t8.toInt = p1.toInt) := by rw [fa_eq] at c9; exact c9
          have rg10 := fb_rng t8
          have rg11 := fb_rng p1
          refine lv_iload_n hx hb dX11_wearer_29 rfl (lv_at hl 1 rfl) ?_
          refine lv_istore_n (lv' := [(2, .int l2_1), (3, .int l3_1), (0, .ref y0), (1, .int p1)]) hx hb dX11_wearer_30 rfl hl (Nat.le_of_ble_eq_true rfl) rfl (fun ls hl => ?_)
          obtain ⟨t12, et12⟩ : ∃ y : Int32, y = l3_1 + 1 := ⟨_, rfl⟩
          have zt12 : t12.toInt = l3_1.toInt + 1 := by rw [et12]; exact add_i rfl (by decide) (by omega) (by omega)
          refine lv_iinc (v := t12) (lv' := [(3, .int t12), (2, .int l2_1), (0, .ref y0), (1, .int p1)]) hx hb dX11_wearer_31 hl (k := 1) rfl (by rw [et12]; rfl) (by decide) rfl (fun ls hl => ?_)
          refine lv_goto (tgt := 4) hx hb dX11_wearer_34 rfl ?_
          have rg13 := fb_rng t12
          exact ih1 l2_1 t12 ⟨show (0 : Int) ≤ t12.toInt by omega, show t12.toInt ≤ (2147483647 : Int) by omega⟩ (by show (2147483647 - t12.toInt).toNat < n1; omega) _ _ _ hP hD hS (lv_sub hl [0, 1, 2, 3] rfl)
        · skip
          have zc9 : t8.toInt = p1.toInt := by rw [fa_eq] at c9; exact c9
          have rg14 := fb_rng t8
          have rg15 := fb_rng p1
          refine lv_iload_n hx hb dX11_wearer_25 rfl (lv_at hl 0 rfl) ?_
          refine lv_goto (tgt := 30) hx hb dX11_wearer_26 rfl ?_
          refine lv_istore_n (lv' := [(2, .int l3_1), (3, .int l3_1), (0, .ref y0), (1, .int p1)]) hx hb dX11_wearer_30 rfl hl (Nat.le_of_ble_eq_true rfl) rfl (fun ls hl => ?_)
          obtain ⟨t16, et16⟩ : ∃ y : Int32, y = l3_1 + 1 := ⟨_, rfl⟩
          have zt16 : t16.toInt = l3_1.toInt + 1 := by rw [et16]; exact add_i rfl (by decide) (by omega) (by omega)
          refine lv_iinc (v := t16) (lv' := [(3, .int t16), (2, .int l3_1), (0, .ref y0), (1, .int p1)]) hx hb dX11_wearer_31 hl (k := 1) rfl (by rw [et16]; rfl) (by decide) rfl (fun ls hl => ?_)
          refine lv_goto (tgt := 4) hx hb dX11_wearer_34 rfl ?_
          have rg17 := fb_rng t16
          exact ih1 l3_1 t16 ⟨show (0 : Int) ≤ t16.toInt by omega, show t16.toInt ≤ (2147483647 : Int) by omega⟩ (by show (2147483647 - t16.toInt).toNat < n1; omega) _ _ _ hP hD hS (lv_sub hl [0, 1, 2, 3] rfl)
  exact lp1 _ (-1) 0 ⟨by decide, by decide⟩ (Nat.lt_succ_self _) _ _ _ hP hD hS (lv_sub hl [0, 1, 2, 3] rfl)
set_option maxHeartbeats 4000000 in
set_option maxRecDepth 100000 in
theorem sY_X11_coat_1 (l : Launch) (dC : Nat → ClassId) (dI : Nat → Nat → Nat) (cy : Nat → ClassId) (y0 : Nat) (r : Nat → Nat) (p1 : Int32) (p2 : Int32) (v : Nat → Int32) (f : Nat → Nat → Int32) (w : Int64) (g : Nat → Int64) (hIv : YI v) (hCf : YC f) (hRf : progOK (f 4) (f 5) (v 9).toInt.toNat)  : ctI l (dC, dI) cy yX11_coat cX11_coat 3 .int 3 103 0 0 ((Nat → Int32) × (Nat → Nat → Int32) × (Int64) × (Nat → Int64)) [.ref y0, .int p1, .int p2] (YW cy y0 r v f w g) (fun r u => KV [] u.1 v ∧ KF [24] u.2.1 f ∧ YI u.1 ∧ YC u.2.1 ∧ progOK (u.2.1 4) (u.2.1 5) (u.1 9).toInt.toNat ∧ u.1 0 = v 0 ∧ u.1 1 = v 1 ∧ u.1 2 = v 2 ∧ u.1 3 = v 3 ∧ u.1 4 = v 4 ∧ u.1 5 = v 5 ∧ u.1 8 = v 8 ∧ u.1 9 = v 9 ∧ u.1 10 = v 10 ∧ u.1 13 = v 13 ∧ u.1 14 = v 14 ∧ u.1 15 = v 15 ∧ u.1 17 = v 17 ∧ u.1 18 = v 18 ∧ u.1 24 = v 24 ∧ u.1 25 = v 25 ∧ u.1 35 = v 35 ∧ u.1 36 = v 36 ∧ u.1 38 = v 38 ∧ u.1 39 = v 39) (fun u => YW cy y0 r u.1 u.2.1 u.2.2.1 u.2.2.2) := by
  refine ctI_of (by decide) (Nat.le_of_ble_eq_true rfl) (fun p e s m below meth c A ls Q hx hb hml hts hown hE hP hD hA hl ret => ?_)
  have hUv : (v 35).toInt + (v 36).toInt ≤ 40 := hIv.2
  have hM_v : KV [] v v := fun _ _ => rfl
  have hA_f : KF [24] f f := fun _ _ => rfl
  have hown : s.vm.findClass RX11 = some m.cls := hown
  have hS : va_S A s.heap s.heap [] := va_S.rf
  have hl : lv_has ls 3 [(0, .ref y0), (1, .int p1), (2, .int p2)] := hl
  refine lv_aload_n hx hb dX11_coat_0 rfl (lv_at hl 0 rfl) ?_
  refine lv_iload_n hx hb dX11_coat_1 rfl (lv_at hl 1 rfl) ?_
  refine cbVi (n := 1) (rest := []) hx hb hml hown hts hE hP hD hS hA (sY_X11_isCoat_1 l dC dI cy y0 r p1 v f w g hIv hCf hRf ) k_1771 k_1773 k_75 k_114 k_1774 (by decide +kernel) ⟨Nat.le_of_ble_eq_true rfl, Nat.le_of_ble_eq_true rfl⟩ 0 11 rfl rfl (rfl) hl.1 rfl (Nat.le_of_ble_eq_true rfl) dX11_coat_2 (fun r1 u H locs hw hP hD hS => ?_)
  rcases hw with ⟨g2, g2_0, g2_1, g2_2⟩ | ⟨g2⟩
  · skip
    subst g2
    refine lv_if_ne (tgt := 11) hx hb dX11_coat_5 rfl (fun _ => ?_) (fun c0 => absurd c0 (by decide))
    refine lv_aload_n hx hb dX11_coat_11 rfl (lv_at hl 0 rfl) ?_
    refine cbVv (n := 0) (rest := []) hx hb hml hown hts hE hP hD hS hA (sY_X11_fill_1 l dC dI cy y0 r  v f w g hIv hCf hRf ) k_1739 k_1741 k_71 k_114 k_1742 (by decide +kernel) ⟨Nat.le_of_ble_eq_true rfl, Nat.le_of_ble_eq_true rfl⟩ 0 11 rfl rfl (rfl) hl.1 rfl (Nat.le_of_ble_eq_true rfl) dX11_coat_12 (fun u H locs hw hP hD hS => ?_)
    obtain ⟨v3, f4, w5, g6⟩ := u
    obtain ⟨kV_v3, kF_f4, hIv3, hCf4, hRf4, hk0_v3, hk1_v3, hk2_v3, hk3_v3, hk4_v3, hk5_v3, hk8_v3, hk9_v3, hk10_v3, hk13_v3, hk14_v3, hk15_v3, hk17_v3, hk18_v3, hk24_v3, hk25_v3, hk35_v3, hk36_v3, hk38_v3, hk39_v3⟩ := hw
    have hM_v3 : KV [] v3 v := KV.tr kV_v3 hM_v rfl
    have hA_f4 : KF [24] f4 f := KF.tr kF_f4 hA_f rfl
    have hP : va_P (dC, dI) vwCl (YW cy y0 r v3 f4 w5 g6) H := hP
    have hD : va_D A (YW cy y0 r v3 f4 w5 g6) := hD
    have hUv3 : (v3 35).toInt + (v3 36).toInt ≤ 40 := hIv3.2
    have hq9_v3 : v3 9 = (v 9) := hk9_v3
    have zq9_v3 := congrArg Int32.toInt hq9_v3
    refine lv_iload_n hx hb dX11_coat_15 rfl (lv_at hl 2 rfl) ?_
    by_cases c7 : p2 = 0
    · skip
      refine lv_tableIn (off := 40) (tgt := 56) hx hb dX11_coat_16 (by rw [c7]; decide) (by rw [c7]; decide) (by rw [c7]; decide) (by decide) ?_
      have zc7 : p2.toInt = 0 := by rw [fa_eq, show (0 : Int32).toInt = 0 from by decide] at c7; exact c7
      refine lv_aload_n hx hb dX11_coat_56 rfl (lv_at hl 0 rfl) ?_
      refine va_get (D := (dC, dI)) (ci := 11) (v := .ref (r 60)) (C := RX11) (T := TX11) (N := 79) hx hb hts inB_11 hown hE.1 hP 0 rfl rfl 60 (Nat.le_of_ble_eq_true rfl) (hts _ k_1380) (fun _ h9 => h9) rfl dX11_coat_57 ?_
      refine lv_bipush (v := 12) hx hb dX11_coat_60 rfl ?_
      refine lv_iload_n hx hb dX11_coat_62 rfl (lv_at hl 1 rfl) ?_
      refine lv_iadd hx hb dX11_coat_63 ?_
      refine lv_topi (fun t8 et8 => ?_)
      have rg9 := fb_rng p1
      have zt8 : t8.toInt = 12 + p1.toInt := by rw [et8]; exact add_i (by decide) rfl (by omega) (by omega)
      refine ldI hx hb hE hP 25 rfl (vp_in_iff.mpr ⟨by omega, by omega⟩) rfl rfl dX11_coat_64 ?_
      refine lv_topi (fun t10 et10 => ?_)
      have zt10 : t8.toInt.toNat % 39 < 6 ∨ 12 ≤ t8.toInt.toNat % 39 ∨ (-1 ≤ t10.toInt ∧ t10.toInt ≤ 5) := by rw [et10]; exact wear_ld hCf4.2.1 (show t8.toInt.toNat < 39 by omega)
      exact ret t10 (v3, f4, w5, g6) _ _ _ _ _ _ rfl ⟨hM_v3, hA_f4, hIv3, hCf4, hRf4, hk0_v3, hk1_v3, hk2_v3, hk3_v3, hk4_v3, hk5_v3, hk8_v3, hk9_v3, hk10_v3, hk13_v3, hk14_v3, hk15_v3, hk17_v3, hk18_v3, hk24_v3, hk25_v3, hk35_v3, hk36_v3, hk38_v3, hk39_v3⟩ hP hD hS dX11_coat_65 (Nat.le_refl _) (Nat.le_refl _)
    · skip
      have zc7 : ¬ (p2.toInt = 0) := by rw [fa_eq, show (0 : Int32).toInt = 0 from by decide] at c7; exact c7
      by_cases c11 : p2 = 1
      · skip
        refine lv_tableIn (off := 50) (tgt := 66) hx hb dX11_coat_16 (by rw [c11]; decide) (by rw [c11]; decide) (by rw [c11]; decide) (by decide) ?_
        have zc11 : p2.toInt = 1 := by rw [fa_eq, show (1 : Int32).toInt = 1 from by decide] at c11; exact c11
        refine lv_aload_n hx hb dX11_coat_66 rfl (lv_at hl 0 rfl) ?_
        refine va_get (D := (dC, dI)) (ci := 11) (v := .ref (r 60)) (C := RX11) (T := TX11) (N := 79) hx hb hts inB_11 hown hE.1 hP 0 rfl rfl 60 (Nat.le_of_ble_eq_true rfl) (hts _ k_1380) (fun _ h9 => h9) rfl dX11_coat_67 ?_
        refine lv_bipush (v := 18) hx hb dX11_coat_70 rfl ?_
        refine lv_iload_n hx hb dX11_coat_72 rfl (lv_at hl 1 rfl) ?_
        refine lv_iadd hx hb dX11_coat_73 ?_
        refine lv_topi (fun t12 et12 => ?_)
        have rg13 := fb_rng p1
        have zt12 : t12.toInt = 18 + p1.toInt := by rw [et12]; exact add_i (by decide) rfl (by omega) (by omega)
        refine ldI hx hb hE hP 25 rfl (vp_in_iff.mpr ⟨by omega, by omega⟩) rfl rfl dX11_coat_74 ?_
        refine lv_topi (fun t14 et14 => ?_)
        have zt14 : t12.toInt.toNat % 39 < 6 ∨ 12 ≤ t12.toInt.toNat % 39 ∨ (-1 ≤ t14.toInt ∧ t14.toInt ≤ 5) := by rw [et14]; exact wear_ld hCf4.2.1 (show t12.toInt.toNat < 39 by omega)
        exact ret t14 (v3, f4, w5, g6) _ _ _ _ _ _ rfl ⟨hM_v3, hA_f4, hIv3, hCf4, hRf4, hk0_v3, hk1_v3, hk2_v3, hk3_v3, hk4_v3, hk5_v3, hk8_v3, hk9_v3, hk10_v3, hk13_v3, hk14_v3, hk15_v3, hk17_v3, hk18_v3, hk24_v3, hk25_v3, hk35_v3, hk36_v3, hk38_v3, hk39_v3⟩ hP hD hS dX11_coat_75 (Nat.le_refl _) (Nat.le_refl _)
      · skip
        have zc11 : ¬ (p2.toInt = 1) := by rw [fa_eq, show (1 : Int32).toInt = 1 from by decide] at c11; exact c11
        by_cases c15 : p2 = 2
        · skip
          refine lv_tableIn (off := 60) (tgt := 76) hx hb dX11_coat_16 (by rw [c15]; decide) (by rw [c15]; decide) (by rw [c15]; decide) (by decide) ?_
          have zc15 : p2.toInt = 2 := by rw [fa_eq, show (2 : Int32).toInt = 2 from by decide] at c15; exact c15
          refine lv_aload_n hx hb dX11_coat_76 rfl (lv_at hl 0 rfl) ?_
          refine va_get (D := (dC, dI)) (ci := 11) (v := .ref (r 60)) (C := RX11) (T := TX11) (N := 79) hx hb hts inB_11 hown hE.1 hP 0 rfl rfl 60 (Nat.le_of_ble_eq_true rfl) (hts _ k_1380) (fun _ h9 => h9) rfl dX11_coat_77 ?_
          refine lv_bipush (v := 24) hx hb dX11_coat_80 rfl ?_
          refine lv_iload_n hx hb dX11_coat_82 rfl (lv_at hl 1 rfl) ?_
          refine lv_iadd hx hb dX11_coat_83 ?_
          refine lv_topi (fun t16 et16 => ?_)
          have rg17 := fb_rng p1
          have zt16 : t16.toInt = 24 + p1.toInt := by rw [et16]; exact add_i (by decide) rfl (by omega) (by omega)
          refine ldI hx hb hE hP 25 rfl (vp_in_iff.mpr ⟨by omega, by omega⟩) rfl rfl dX11_coat_84 ?_
          refine lv_topi (fun t18 et18 => ?_)
          have zt18 : t16.toInt.toNat % 39 < 6 ∨ 12 ≤ t16.toInt.toNat % 39 ∨ (-1 ≤ t18.toInt ∧ t18.toInt ≤ 5) := by rw [et18]; exact wear_ld hCf4.2.1 (show t16.toInt.toNat < 39 by omega)
          exact ret t18 (v3, f4, w5, g6) _ _ _ _ _ _ rfl ⟨hM_v3, hA_f4, hIv3, hCf4, hRf4, hk0_v3, hk1_v3, hk2_v3, hk3_v3, hk4_v3, hk5_v3, hk8_v3, hk9_v3, hk10_v3, hk13_v3, hk14_v3, hk15_v3, hk17_v3, hk18_v3, hk24_v3, hk25_v3, hk35_v3, hk36_v3, hk38_v3, hk39_v3⟩ hP hD hS dX11_coat_85 (Nat.le_refl _) (Nat.le_refl _)
        · skip
          have zc15 : ¬ (p2.toInt = 2) := by rw [fa_eq, show (2 : Int32).toInt = 2 from by decide] at c15; exact c15
          by_cases c19 : p2 = 3
          · skip
            refine lv_tableIn (off := 70) (tgt := 86) hx hb dX11_coat_16 (by rw [c19]; decide) (by rw [c19]; decide) (by rw [c19]; decide) (by decide) ?_
            have zc19 : p2.toInt = 3 := by rw [fa_eq, show (3 : Int32).toInt = 3 from by decide] at c19; exact c19
            refine lv_aload_n hx hb dX11_coat_86 rfl (lv_at hl 0 rfl) ?_
            refine va_get (D := (dC, dI)) (ci := 11) (v := .ref (r 60)) (C := RX11) (T := TX11) (N := 79) hx hb hts inB_11 hown hE.1 hP 0 rfl rfl 60 (Nat.le_of_ble_eq_true rfl) (hts _ k_1380) (fun _ h9 => h9) rfl dX11_coat_87 ?_
            refine lv_bipush (v := 30) hx hb dX11_coat_90 rfl ?_
            refine lv_iload_n hx hb dX11_coat_92 rfl (lv_at hl 1 rfl) ?_
            refine lv_iadd hx hb dX11_coat_93 ?_
            refine lv_topi (fun t20 et20 => ?_)
            have rg21 := fb_rng p1
            have zt20 : t20.toInt = 30 + p1.toInt := by rw [et20]; exact add_i (by decide) rfl (by omega) (by omega)
            refine ldI hx hb hE hP 25 rfl (vp_in_iff.mpr ⟨by omega, by omega⟩) rfl rfl dX11_coat_94 ?_
            refine lv_topi (fun t22 et22 => ?_)
            have zt22 : t20.toInt.toNat % 39 < 6 ∨ 12 ≤ t20.toInt.toNat % 39 ∨ (-1 ≤ t22.toInt ∧ t22.toInt ≤ 5) := by rw [et22]; exact wear_ld hCf4.2.1 (show t20.toInt.toNat < 39 by omega)
            exact ret t22 (v3, f4, w5, g6) _ _ _ _ _ _ rfl ⟨hM_v3, hA_f4, hIv3, hCf4, hRf4, hk0_v3, hk1_v3, hk2_v3, hk3_v3, hk4_v3, hk5_v3, hk8_v3, hk9_v3, hk10_v3, hk13_v3, hk14_v3, hk15_v3, hk17_v3, hk18_v3, hk24_v3, hk25_v3, hk35_v3, hk36_v3, hk38_v3, hk39_v3⟩ hP hD hS dX11_coat_95 (Nat.le_refl _) (Nat.le_refl _)
          · skip
            have zc19 : ¬ (p2.toInt = 3) := by rw [fa_eq, show (3 : Int32).toInt = 3 from by decide] at c19; exact c19
            by_cases c23 : p2 = 4
            · skip
              refine lv_tableIn (off := 80) (tgt := 96) hx hb dX11_coat_16 (by rw [c23]; decide) (by rw [c23]; decide) (by rw [c23]; decide) (by decide) ?_
              have zc23 : p2.toInt = 4 := by rw [fa_eq, show (4 : Int32).toInt = 4 from by decide] at c23; exact c23
              refine lv_aload_n hx hb dX11_coat_96 rfl (lv_at hl 0 rfl) ?_
              refine va_get (D := (dC, dI)) (ci := 11) (v := .ref (r 60)) (C := RX11) (T := TX11) (N := 79) hx hb hts inB_11 hown hE.1 hP 0 rfl rfl 60 (Nat.le_of_ble_eq_true rfl) (hts _ k_1380) (fun _ h9 => h9) rfl dX11_coat_97 ?_
              refine lv_bipush (v := 36) hx hb dX11_coat_100 rfl ?_
              refine ldI hx hb hE hP 25 rfl (vp_in_nI (n := 36) (by decide) (by decide)) rfl rfl dX11_coat_102 ?_
              refine lv_topi (fun t24 et24 => ?_)
              have zt24 : 36 % 39 < 6 ∨ 12 ≤ 36 % 39 ∨ (-1 ≤ t24.toInt ∧ t24.toInt ≤ 5) := by rw [et24]; exact wear_ld hCf4.2.1 (show 36 < 39 by omega)
              refine lv_iload_n hx hb dX11_coat_103 rfl (lv_at hl 1 rfl) ?_
              refine lv_ishr hx hb dX11_coat_104 ?_
              refine lv_topi (fun t25 et25 => ?_)
              refine lv_iconst (v := 1) hx hb dX11_coat_105 rfl ?_
              refine lv_iand hx hb dX11_coat_106 ?_
              refine lv_topi (fun t26 et26 => ?_)
              have zt26 : 0 ≤ t26.toInt ∧ t26.toInt < 2 := by rw [et26]; exact and_rng _ (k := 1) (by decide) (by decide)
              exact ret t26 (v3, f4, w5, g6) _ _ _ _ _ _ rfl ⟨hM_v3, hA_f4, hIv3, hCf4, hRf4, hk0_v3, hk1_v3, hk2_v3, hk3_v3, hk4_v3, hk5_v3, hk8_v3, hk9_v3, hk10_v3, hk13_v3, hk14_v3, hk15_v3, hk17_v3, hk18_v3, hk24_v3, hk25_v3, hk35_v3, hk36_v3, hk38_v3, hk39_v3⟩ hP hD hS dX11_coat_107 (Nat.le_refl _) (Nat.le_refl _)
            · skip
              have zc23 : ¬ (p2.toInt = 4) := by rw [fa_eq, show (4 : Int32).toInt = 4 from by decide] at c23; exact c23
              by_cases c27 : p2 = 5
              · skip
                refine lv_tableIn (off := 92) (tgt := 108) hx hb dX11_coat_16 (by rw [c27]; decide) (by rw [c27]; decide) (by rw [c27]; decide) (by decide) ?_
                have zc27 : p2.toInt = 5 := by rw [fa_eq, show (5 : Int32).toInt = 5 from by decide] at c27; exact c27
                refine lv_aload_n hx hb dX11_coat_108 rfl (lv_at hl 0 rfl) ?_
                refine lv_iload_n hx hb dX11_coat_109 rfl (lv_at hl 1 rfl) ?_
                refine cbVi (n := 1) (rest := []) hx hb hml hown hts hE hP hD hS hA (sY_X11_wearer_1 l dC dI cy y0 r p1 v3 f4 w5 g6 hIv3 hCf4 hRf4 ) k_1775 k_1777 k_76 k_114 k_1778 (by decide +kernel) ⟨Nat.le_of_ble_eq_true rfl, Nat.le_of_ble_eq_true rfl⟩ 0 11 rfl rfl (rfl) hl.1 rfl (Nat.le_of_ble_eq_true rfl) dX11_coat_110 (fun r28 u H locs hw hP hD hS => ?_)
                exact ret r28 (v3, f4, w5, g6) _ _ _ _ _ _ rfl ⟨hM_v3, hA_f4, hIv3, hCf4, hRf4, hk0_v3, hk1_v3, hk2_v3, hk3_v3, hk4_v3, hk5_v3, hk8_v3, hk9_v3, hk10_v3, hk13_v3, hk14_v3, hk15_v3, hk17_v3, hk18_v3, hk24_v3, hk25_v3, hk35_v3, hk36_v3, hk38_v3, hk39_v3⟩ hP hD hS dX11_coat_113 (Nat.le_refl _) (Nat.le_refl _)
              · skip
                have zc27 : ¬ (p2.toInt = 5) := by rw [fa_eq, show (5 : Int32).toInt = 5 from by decide] at c27; exact c27
                refine lv_tableOut (tgt := 114) hx hb dX11_coat_16 (by omega) (by decide) ?_
                refine lv_bipush (v := (-2)) hx hb dX11_coat_114 rfl ?_
                exact ret (-2) (v3, f4, w5, g6) _ _ _ _ _ _ rfl ⟨hM_v3, hA_f4, hIv3, hCf4, hRf4, hk0_v3, hk1_v3, hk2_v3, hk3_v3, hk4_v3, hk5_v3, hk8_v3, hk9_v3, hk10_v3, hk13_v3, hk14_v3, hk15_v3, hk17_v3, hk18_v3, hk24_v3, hk25_v3, hk35_v3, hk36_v3, hk38_v3, hk39_v3⟩ hP hD hS dX11_coat_116 (Nat.le_refl _) (Nat.le_refl _)
  · skip
    subst g2
    refine lv_if_ne (tgt := 11) hx hb dX11_coat_5 rfl (fun c0 => absurd (by decide) c0) (fun _ => ?_)
    refine lv_bipush (v := (-2)) hx hb dX11_coat_8 rfl ?_
    exact ret (-2) (v, f, w, g) _ _ _ _ _ _ rfl ⟨hM_v, hA_f, hIv, hCf, hRf, rfl, rfl, rfl, rfl, rfl, rfl, rfl, rfl, rfl, rfl, rfl, rfl, rfl, rfl, rfl, rfl, rfl, rfl, rfl, rfl⟩ hP hD hS dX11_coat_10 (Nat.le_refl _) (Nat.le_refl _)
set_option maxHeartbeats 4000000 in
set_option maxRecDepth 100000 in
theorem sY_X11_misfit_1 (l : Launch) (dC : Nat → ClassId) (dI : Nat → Nat → Nat) (cy : Nat → ClassId) (y0 : Nat) (r : Nat → Nat) (p1 : Int32) (p2 : Int32) (v : Nat → Int32) (f : Nat → Nat → Int32) (w : Int64) (g : Nat → Int64) (hIv : YI v) (hCf : YC f) (hRf : progOK (f 4) (f 5) (v 9).toInt.toNat)  : ctI l (dC, dI) cy yX11_misfit cX11_misfit 3 .int 4 126 0 0 ((Nat → Int32) × (Nat → Nat → Int32) × (Int64) × (Nat → Int64)) [.ref y0, .int p1, .int p2] (YW cy y0 r v f w g) (fun r u => KV [] u.1 v ∧ KF [7, 8, 24] u.2.1 f ∧ YI u.1 ∧ YC u.2.1 ∧ progOK (u.2.1 4) (u.2.1 5) (u.1 9).toInt.toNat ∧ u.1 0 = v 0 ∧ u.1 1 = v 1 ∧ u.1 2 = v 2 ∧ u.1 3 = v 3 ∧ u.1 4 = v 4 ∧ u.1 5 = v 5 ∧ u.1 8 = v 8 ∧ u.1 9 = v 9 ∧ u.1 10 = v 10 ∧ u.1 13 = v 13 ∧ u.1 14 = v 14 ∧ u.1 15 = v 15 ∧ u.1 17 = v 17 ∧ u.1 18 = v 18 ∧ u.1 24 = v 24 ∧ u.1 25 = v 25 ∧ u.1 35 = v 35 ∧ u.1 36 = v 36 ∧ u.1 38 = v 38 ∧ u.1 39 = v 39) (fun u => YW cy y0 r u.1 u.2.1 u.2.2.1 u.2.2.2) := by
  refine ctI_of (by decide) (Nat.le_of_ble_eq_true rfl) (fun p e s m below meth c A ls Q hx hb hml hts hown hE hP hD hA hl ret => ?_)
  have hUv : (v 35).toInt + (v 36).toInt ≤ 40 := hIv.2
  have hM_v : KV [] v v := fun _ _ => rfl
  have hA_f : KF [7, 8, 24] f f := fun _ _ => rfl
  have hown : s.vm.findClass RX11 = some m.cls := hown
  have hS : va_S A s.heap s.heap [] := va_S.rf
  have hl : lv_has ls 3 [(0, .ref y0), (1, .int p1), (2, .int p2)] := hl
  refine lv_aload_n hx hb dX11_misfit_0 rfl (lv_at hl 0 rfl) ?_
  refine cbVv (n := 0) (rest := []) hx hb hml hown hts hE hP hD hS hA (sY_X11_fill_1 l dC dI cy y0 r  v f w g hIv hCf hRf ) k_1739 k_1741 k_71 k_114 k_1742 (by decide +kernel) ⟨Nat.le_of_ble_eq_true rfl, Nat.le_of_ble_eq_true rfl⟩ 0 11 rfl rfl (rfl) hl.1 rfl (Nat.le_of_ble_eq_true rfl) dX11_misfit_1 (fun u H locs hw hP hD hS => ?_)
  obtain ⟨v1, f2, w3, g4⟩ := u
  obtain ⟨kV_v1, kF_f2, hIv1, hCf2, hRf2, hk0_v1, hk1_v1, hk2_v1, hk3_v1, hk4_v1, hk5_v1, hk8_v1, hk9_v1, hk10_v1, hk13_v1, hk14_v1, hk15_v1, hk17_v1, hk18_v1, hk24_v1, hk25_v1, hk35_v1, hk36_v1, hk38_v1, hk39_v1⟩ := hw
  have hM_v1 : KV [] v1 v := KV.tr kV_v1 hM_v rfl
  have hA_f2 : KF [7, 8, 24] f2 f := KF.tr kF_f2 hA_f rfl
  have hP : va_P (dC, dI) vwCl (YW cy y0 r v1 f2 w3 g4) H := hP
  have hD : va_D A (YW cy y0 r v1 f2 w3 g4) := hD
  have hUv1 : (v1 35).toInt + (v1 36).toInt ≤ 40 := hIv1.2
  have hq9_v1 : v1 9 = (v 9) := hk9_v1
  have zq9_v1 := congrArg Int32.toInt hq9_v1
  refine lv_aload_n hx hb dX11_misfit_4 rfl (lv_at hl 0 rfl) ?_
  refine lv_iload_n hx hb dX11_misfit_5 rfl (lv_at hl 1 rfl) ?_
  refine cbVi (n := 1) (rest := []) hx hb hml hown hts hE hP hD hS hA (sY_X11_isMan_1 l dC dI cy y0 r p1 v1 f2 w3 g4 hIv1 hCf2 hRf2 ) k_1732 k_1734 k_70 k_114 k_1735 (by decide +kernel) ⟨Nat.le_of_ble_eq_true rfl, Nat.le_of_ble_eq_true rfl⟩ 0 11 rfl rfl (rfl) hl.1 rfl (Nat.le_of_ble_eq_true rfl) dX11_misfit_6 (fun r5 u H locs hw hP hD hS => ?_)
  rcases hw with ⟨g6, g6_0, g6_1, g6_2⟩ | ⟨g6⟩
  · skip
    subst g6
    refine lv_if_eq (tgt := 29) hx hb dX11_misfit_9 rfl (fun c0 => absurd c0 (by decide)) (fun _ => ?_)
    refine lv_aload_n hx hb dX11_misfit_12 rfl (lv_at hl 0 rfl) ?_
    refine lv_iload_n hx hb dX11_misfit_13 rfl (lv_at hl 2 rfl) ?_
    refine cbVi (n := 1) (rest := []) hx hb hml hown hts hE hP hD hS hA (sY_X11_isCoat_1 l dC dI cy y0 r p2 v1 f2 w3 g4 hIv1 hCf2 hRf2 ) k_1771 k_1773 k_75 k_114 k_1774 (by decide +kernel) ⟨Nat.le_of_ble_eq_true rfl, Nat.le_of_ble_eq_true rfl⟩ 0 11 rfl rfl (rfl) hl.1 rfl (Nat.le_of_ble_eq_true rfl) dX11_misfit_14 (fun r7 u H locs hw hP hD hS => ?_)
    rcases hw with ⟨g8, g8_0, g8_1, g8_2⟩ | ⟨g8⟩
    · skip
      subst g8
      refine lv_if_eq (tgt := 29) hx hb dX11_misfit_17 rfl (fun c0 => absurd c0 (by decide)) (fun _ => ?_)
      refine lv_aload_n hx hb dX11_misfit_20 rfl (lv_at hl 0 rfl) ?_
      refine lv_iload_n hx hb dX11_misfit_21 rfl (lv_at hl 1 rfl) ?_
      refine lv_iload_n hx hb dX11_misfit_22 rfl (lv_at hl 2 rfl) ?_
      refine cbVi (n := 2) (rest := []) hx hb hml hown hts hE hP hD hS hA (sY_X11_misfitOf_1 l dC dI cy y0 r p1 p2 v1 f2 w3 g4 hIv1 hCf2 hRf2 ⟨show (0 : Int) ≤ p1.toInt by omega, show p1.toInt ≤ (5 : Int) by omega⟩ ⟨show (0 : Int) ≤ p2.toInt by omega, show p2.toInt ≤ (5 : Int) by omega⟩) k_1751 k_1753 k_74 k_114 k_1754 (by decide +kernel) ⟨Nat.le_of_ble_eq_true rfl, Nat.le_of_ble_eq_true rfl⟩ 0 11 rfl rfl (rfl) hl.1 rfl (Nat.le_of_ble_eq_true rfl) dX11_misfit_23 (fun r9 u H locs hw hP hD hS => ?_)
      obtain ⟨v10, f11, w12, g13⟩ := u
      obtain ⟨kV_v10, kF_f11, hIv10, hCf11, hRf11, hk0_v10, hk1_v10, hk2_v10, hk3_v10, hk4_v10, hk5_v10, hk8_v10, hk9_v10, hk10_v10, hk13_v10, hk14_v10, hk15_v10, hk17_v10, hk18_v10, hk24_v10, hk25_v10, hk35_v10, hk36_v10, hk38_v10, hk39_v10⟩ := hw
      have hM_v10 : KV [] v10 v := KV.tr kV_v10 hM_v1 rfl
      have hA_f11 : KF [7, 8, 24] f11 f := KF.tr kF_f11 hA_f2 rfl
      have hP : va_P (dC, dI) vwCl (YW cy y0 r v10 f11 w12 g13) H := hP
      have hD : va_D A (YW cy y0 r v10 f11 w12 g13) := hD
      have hUv10 : (v10 35).toInt + (v10 36).toInt ≤ 40 := hIv10.2
      have hq9_v10 : v10 9 = (v 9) := hk9_v10.trans hq9_v1
      have zq9_v10 := congrArg Int32.toInt hq9_v10
      refine lv_goto (tgt := 30) hx hb dX11_misfit_26 rfl ?_
      exact ret r9 (v10, f11, w12, g13) _ _ _ _ _ _ rfl ⟨hM_v10, hA_f11, hIv10, hCf11, hRf11, (hk0_v10.trans hk0_v1), (hk1_v10.trans hk1_v1), (hk2_v10.trans hk2_v1), (hk3_v10.trans hk3_v1), (hk4_v10.trans hk4_v1), (hk5_v10.trans hk5_v1), (hk8_v10.trans hk8_v1), (hk9_v10.trans hk9_v1), (hk10_v10.trans hk10_v1), (hk13_v10.trans hk13_v1), (hk14_v10.trans hk14_v1), (hk15_v10.trans hk15_v1), (hk17_v10.trans hk17_v1), (hk18_v10.trans hk18_v1), (hk24_v10.trans hk24_v1), (hk25_v10.trans hk25_v1), (hk35_v10.trans hk35_v1), (hk36_v10.trans hk36_v1), (hk38_v10.trans hk38_v1), (hk39_v10.trans hk39_v1)⟩ hP hD hS dX11_misfit_30 (Nat.le_refl _) (Nat.le_refl _)
    · skip
      subst g8
      refine lv_if_eq (tgt := 29) hx hb dX11_misfit_17 rfl (fun _ => ?_) (fun c0 => absurd (by decide) c0)
      refine lv_iconst (v := (-1)) hx hb dX11_misfit_29 rfl ?_
      exact ret (-1) (v1, f2, w3, g4) _ _ _ _ _ _ rfl ⟨hM_v1, hA_f2, hIv1, hCf2, hRf2, hk0_v1, hk1_v1, hk2_v1, hk3_v1, hk4_v1, hk5_v1, hk8_v1, hk9_v1, hk10_v1, hk13_v1, hk14_v1, hk15_v1, hk17_v1, hk18_v1, hk24_v1, hk25_v1, hk35_v1, hk36_v1, hk38_v1, hk39_v1⟩ hP hD hS dX11_misfit_30 (Nat.le_refl _) (Nat.le_refl _)
  · skip
    subst g6
    refine lv_if_eq (tgt := 29) hx hb dX11_misfit_9 rfl (fun _ => ?_) (fun c0 => absurd (by decide) c0)
    refine lv_iconst (v := (-1)) hx hb dX11_misfit_29 rfl ?_
    exact ret (-1) (v1, f2, w3, g4) _ _ _ _ _ _ rfl ⟨hM_v1, hA_f2, hIv1, hCf2, hRf2, hk0_v1, hk1_v1, hk2_v1, hk3_v1, hk4_v1, hk5_v1, hk8_v1, hk9_v1, hk10_v1, hk13_v1, hk14_v1, hk15_v1, hk17_v1, hk18_v1, hk24_v1, hk25_v1, hk35_v1, hk36_v1, hk38_v1, hk39_v1⟩ hP hD hS dX11_misfit_30 (Nat.le_refl _) (Nat.le_refl _)
set_option maxHeartbeats 4000000 in
set_option maxRecDepth 100000 in
theorem sY_X11_act_1 (l : Launch) (dC : Nat → ClassId) (dI : Nat → Nat → Nat) (cy : Nat → ClassId) (y0 : Nat) (r : Nat → Nat)  (v : Nat → Int32) (f : Nat → Nat → Int32) (w : Int64) (g : Nat → Int64) (hIv : YI v) (hCf : YC f) (hRf : progOK (f 4) (f 5) (v 9).toInt.toNat)  : ctV l (dC, dI) cy yX11_act cX11_act 2 2 81 0 0 ((Nat → Int32) × (Nat → Nat → Int32) × (Int64) × (Nat → Int64)) [.ref y0] (YW cy y0 r v f w g) (fun u => KV [35, 36] u.1 v ∧ KF [24, 25] u.2.1 f ∧ YI u.1 ∧ YC u.2.1 ∧ progOK (u.2.1 4) (u.2.1 5) (u.1 9).toInt.toNat ∧ u.1 0 = v 0 ∧ u.1 1 = v 1 ∧ u.1 2 = v 2 ∧ u.1 3 = v 3 ∧ u.1 4 = v 4 ∧ u.1 5 = v 5 ∧ u.1 8 = v 8 ∧ u.1 9 = v 9 ∧ u.1 10 = v 10 ∧ u.1 13 = v 13 ∧ u.1 14 = v 14 ∧ u.1 15 = v 15 ∧ u.1 17 = v 17 ∧ u.1 18 = v 18 ∧ u.1 24 = v 24 ∧ u.1 25 = v 25 ∧ u.1 38 = v 38 ∧ u.1 39 = v 39) (fun u => YW cy y0 r u.1 u.2.1 u.2.2.1 u.2.2.2) := by
  refine ctV_of (by decide) (Nat.le_of_ble_eq_true rfl) (fun p e s m below meth c A ls Q hx hb hml hts hown hnm hE hP hD hA hl ret => ?_)
  have hUv : (v 35).toInt + (v 36).toInt ≤ 40 := hIv.2
  have hM_v : KV [35, 36] v v := fun _ _ => rfl
  have hA_f : KF [24, 25] f f := fun _ _ => rfl
  have hown : s.vm.findClass RX11 = some m.cls := hown
  have hS : va_S A s.heap s.heap [] := va_S.rf
  have hl : lv_has ls 2 [(0, .ref y0)] := hl
  refine lv_aload_n hx hb dX11_act_0 rfl (lv_at hl 0 rfl) ?_
  refine va_get (D := (dC, dI)) (ci := 11) (v := .int (v 35)) (C := RX11) (T := TX11) (N := 79) hx hb hts inB_11 hown hE.1 hP 0 rfl rfl 62 (Nat.le_of_ble_eq_true rfl) (hts _ k_1382) (fun _ h9 => h9) rfl dX11_act_1 ?_
  have b35_v : 0 ≤ (v 35).toInt ∧ (v 35).toInt ≤ 40 := YIb.b hIv.1 35 (by decide)
  refine lv_bipush (v := 40) hx hb dX11_act_4 rfl ?_
  refine lv_icmp_ne (tgt := 49) hx hb dX11_act_6 rfl (fun c1 => ?_) (fun c1 => ?_)
  · skip
    have zc1 : ¬ ((v 35).toInt = 40) := by rw [fa_eq, show (40 : Int32).toInt = 40 from by decide] at c1; exact c1
    refine lv_iconst (v := 0) hx hb dX11_act_49 rfl ?_
    refine lv_istore_n (lv' := [(1, .int 0), (0, .ref y0)]) hx hb dX11_act_50 rfl hl (Nat.le_of_ble_eq_true rfl) rfl (fun ls hl => ?_)
    have lp2 : ∀ (n2 : Nat) (l1_2 : Int32) (v2 : Nat → Int32) (f2 : Nat → Nat → Int32) (w2 : Int64) (g2 : Nat → Int64), YI v2 → YC f2 → progOK (f2 4) (f2 5) (v2 9).toInt.toNat → v2 0 = (v 0) → v2 1 = (v 1) → v2 2 = (v 2) → v2 3 = (v 3) → v2 4 = (v 4) → v2 5 = (v 5) → v2 8 = (v 8) → v2 9 = (v 9) → v2 10 = (v 10) → v2 13 = (v 13) → v2 14 = (v 14) → v2 15 = (v 15) → v2 17 = (v 17) → v2 18 = (v 18) → v2 24 = (v 24) → v2 25 = (v 25) → v2 35 = (v 35) → v2 36 = (v 36) → v2 38 = (v 38) → v2 39 = (v 39) → ((0 : Int) ≤ l1_2.toInt ∧ l1_2.toInt ≤ 2147483647) → KV [35, 36] v2 v → KF [24, 25] f2 f → (2147483647 - l1_2.toInt).toNat < n2 → ∀ (H : Heap) (locs : List Loc) (ls : Array Slot), va_P (dC, dI) vwCl (YW cy y0 r v2 f2 w2 g2) H → va_D A (YW cy y0 r v2 f2 w2 g2) → va_S A s.heap H locs → lv_has ls 2 [(1, .int l1_2), (0, .ref y0)] → W p l e { frames := 2, cells := 0, slots := 0, locals := 81 } s m ([.ref y0] : List Value).toArray below meth c H locs 0 0 Q (F0 m 51 ls []) := by
      intro n2
      induction n2 with
      | zero => intro l1_2 v2 f2 w2 g2 hIv2 hCf2 hRf2 hq0_v2 hq1_v2 hq2_v2 hq3_v2 hq4_v2 hq5_v2 hq8_v2 hq9_v2 hq10_v2 hq13_v2 hq14_v2 hq15_v2 hq17_v2 hq18_v2 hq24_v2 hq25_v2 hq35_v2 hq36_v2 hq38_v2 hq39_v2 hr1_2 hM_v2 hA_f2 hm; exact absurd hm (Nat.not_lt_zero _)
      | succ n2 ih2 =>
        intro l1_2 v2 f2 w2 g2 hIv2 hCf2 hRf2 hq0_v2 hq1_v2 hq2_v2 hq3_v2 hq4_v2 hq5_v2 hq8_v2 hq9_v2 hq10_v2 hq13_v2 hq14_v2 hq15_v2 hq17_v2 hq18_v2 hq24_v2 hq25_v2 hq35_v2 hq36_v2 hq38_v2 hq39_v2 hr1_2 hM_v2 hA_f2 hm2 H locs ls hP hD hS hl
        have hUv2 : (v2 35).toInt + (v2 36).toInt ≤ 40 := hIv2.2
        have zq9_v2 := congrArg Int32.toInt hq9_v2
        have zq35_v2 := congrArg Int32.toInt hq35_v2
        have zq36_v2 := congrArg Int32.toInt hq36_v2
        refine lv_iload_n hx hb dX11_act_51 rfl (lv_at hl 0 rfl) ?_
        refine lv_bipush (v := 39) hx hb dX11_act_52 rfl ?_
        refine lv_icmp_ge (tgt := 83) hx hb dX11_act_54 rfl (fun c3 => ?_) (fun c3 => ?_)
        · skip
          have zc3 : 39 ≤ l1_2.toInt := by rw [fa_le, show (39 : Int32).toInt = 39 from by decide] at c3; exact c3
          refine lv_aload_n hx hb dX11_act_83 rfl (lv_at hl 1 rfl) ?_
          refine lv_dup hx hb dX11_act_84 rfl ?_
          refine va_get (D := (dC, dI)) (ci := 11) (v := .int (v2 35)) (C := RX11) (T := TX11) (N := 79) hx hb hts inB_11 hown hE.1 hP 0 rfl rfl 62 (Nat.le_of_ble_eq_true rfl) (hts _ k_1382) (fun _ h9 => h9) rfl dX11_act_85 ?_
          refine tI (y := (v 35)) hq35_v2 ?_
          have b35_v : 0 ≤ (v 35).toInt ∧ (v 35).toInt ≤ 40 := YIb.b hIv.1 35 (by decide)
          refine lv_iconst (v := 1) hx hb dX11_act_88 rfl ?_
          refine lv_iadd hx hb dX11_act_89 ?_
          refine lv_topi (fun t4 et4 => ?_)
          have rg5 := fb_rng (v 35)
          have zt4 : t4.toInt = (v 35).toInt + 1 := by rw [et4]; exact add_i rfl (by decide) (by omega) (by omega)
          refine va_put (D := (dC, dI)) (ci := 11) (v := .int t4) (ty := tyX11 62) (C := RX11) (T := TX11) (N := 79) hx hb hts inB_11 tyX11 tyX11_ok nmX11 hown hE.1 hP hD hS 0 rfl rfl 62 (Nat.le_of_ble_eq_true rfl) (hts _ k_1382) (fun _ h9 => h9) rfl (tyX11_ok 62 (by decide)) rfl rfl (Nat.le_of_ble_eq_true rfl) dX11_act_90 (fun H locs hP hD hS => ?_)
          have hP : va_P (dC, dI) vwCl (YW cy y0 r (upd v2 35 t4) f2 w2 g2) H := hP
          have hD : va_D A (YW cy y0 r (upd v2 35 t4) f2 w2 g2) := hD
          refine lv_aload_n hx hb dX11_act_93 rfl (lv_at hl 1 rfl) ?_
          refine lv_iconst (v := 0) hx hb dX11_act_94 rfl ?_
          refine va_put (D := (dC, dI)) (ci := 11) (v := .int 0) (ty := tyX11 63) (C := RX11) (T := TX11) (N := 79) hx hb hts inB_11 tyX11 tyX11_ok nmX11 hown hE.1 hP hD hS 0 rfl rfl 63 (Nat.le_of_ble_eq_true rfl) (hts _ k_1383) (fun _ h9 => h9) rfl (tyX11_ok 63 (by decide)) rfl rfl (Nat.le_of_ble_eq_true rfl) dX11_act_95 (fun H locs hP hD hS => ?_)
          have hP : va_P (dC, dI) vwCl (YW cy y0 r (upd (upd v2 35 t4) 36 0) f2 w2 g2) H := hP
          have hD : va_D A (YW cy y0 r (upd (upd v2 35 t4) 36 0) f2 w2 g2) := hD
          refine lv_aload_n hx hb dX11_act_98 rfl (lv_at hl 1 rfl) ?_
          refine cbVv (n := 0) (rest := []) hx hb hml hown hts hE hP hD hS hA (sY_X11_fill_1 l dC dI cy y0 r  (upd (upd v2 35 t4) 36 0) f2 w2 g2 ⟨(YIb.upd (j := 36) (x := 0) (YIb.upd (j := 35) (x := t4) hIv2.1 (show (0 : Int) ≤ t4.toInt by omega) (show t4.toInt ≤ (40 : Int) by omega)) (by decide) (by decide)), (by have q9 := hIv2.2; have q0 : (0 : Int32).toInt = 0 := (by decide); show t4.toInt + (0 : Int32).toInt ≤ 40; omega)⟩ hCf2 hRf2 ) k_1739 k_1741 k_71 k_114 k_1742 (by decide +kernel) ⟨Nat.le_of_ble_eq_true rfl, Nat.le_of_ble_eq_true rfl⟩ 0 11 rfl rfl (rfl) hl.1 rfl (Nat.le_of_ble_eq_true rfl) dX11_act_99 (fun u H locs hw hP hD hS => ?_)
          obtain ⟨v6, f7, w8, g9⟩ := u
          obtain ⟨kV_v6, kF_f7, hIv6, hCf7, hRf7, hk0_v6, hk1_v6, hk2_v6, hk3_v6, hk4_v6, hk5_v6, hk8_v6, hk9_v6, hk10_v6, hk13_v6, hk14_v6, hk15_v6, hk17_v6, hk18_v6, hk24_v6, hk25_v6, hk35_v6, hk36_v6, hk38_v6, hk39_v6⟩ := hw
          have hM_v6 : KV [35, 36] v6 v := KV.tr kV_v6 (KV.up (j := 36) (x := 0) (KV.up (j := 35) (x := t4) hM_v2 rfl) rfl) rfl
          have hA_f7 : KF [24, 25] f7 f := KF.tr kF_f7 hA_f2 rfl
          have hP : va_P (dC, dI) vwCl (YW cy y0 r v6 f7 w8 g9) H := hP
          have hD : va_D A (YW cy y0 r v6 f7 w8 g9) := hD
          have hUv6 : (v6 35).toInt + (v6 36).toInt ≤ 40 := hIv6.2
          have hq9_v6 : v6 9 = (v 9) := hk9_v6.trans hq9_v2
          have zq9_v6 := congrArg Int32.toInt hq9_v6
          have hq35_v6 : v6 35 = t4 := hk35_v6
          have zq35_v6 := congrArg Int32.toInt hq35_v6
          have hq36_v6 : v6 36 = 0 := hk36_v6
          have zq36_v6 := congrArg Int32.toInt hq36_v6
          exact ret (v6, f7, w8, g9) _ _ _ _ _ _ ⟨hM_v6, hA_f7, hIv6, hCf7, hRf7, (hk0_v6.trans (show v2 0 = v 0 from hq0_v2)), (hk1_v6.trans (show v2 1 = v 1 from hq1_v2)), (hk2_v6.trans (show v2 2 = v 2 from hq2_v2)), (hk3_v6.trans (show v2 3 = v 3 from hq3_v2)), (hk4_v6.trans (show v2 4 = v 4 from hq4_v2)), (hk5_v6.trans (show v2 5 = v 5 from hq5_v2)), (hk8_v6.trans (show v2 8 = v 8 from hq8_v2)), (hk9_v6.trans (show v2 9 = v 9 from hq9_v2)), (hk10_v6.trans (show v2 10 = v 10 from hq10_v2)), (hk13_v6.trans (show v2 13 = v 13 from hq13_v2)), (hk14_v6.trans (show v2 14 = v 14 from hq14_v2)), (hk15_v6.trans (show v2 15 = v 15 from hq15_v2)), (hk17_v6.trans (show v2 17 = v 17 from hq17_v2)), (hk18_v6.trans (show v2 18 = v 18 from hq18_v2)), (hk24_v6.trans (show v2 24 = v 24 from hq24_v2)), (hk25_v6.trans (show v2 25 = v 25 from hq25_v2)), (hk38_v6.trans (show v2 38 = v 38 from hq38_v2)), (hk39_v6.trans (show v2 39 = v 39 from hq39_v2))⟩ hP hD hS dX11_act_102 (Nat.le_refl _) (Nat.le_refl _)
        · skip
          have zc3 : ¬ (39 ≤ l1_2.toInt) := by rw [fa_le, show (39 : Int32).toInt = 39 from by decide] at c3; exact c3
          refine lv_aload_n hx hb dX11_act_57 rfl (lv_at hl 1 rfl) ?_
          refine va_get (D := (dC, dI)) (ci := 11) (v := .ref (r 61)) (C := RX11) (T := TX11) (N := 79) hx hb hts inB_11 hown hE.1 hP 0 rfl rfl 61 (Nat.le_of_ble_eq_true rfl) (hts _ k_1381) (fun _ h9 => h9) rfl dX11_act_58 ?_
          refine lv_bipush (v := 39) hx hb dX11_act_61 rfl ?_
          refine lv_aload_n hx hb dX11_act_63 rfl (lv_at hl 1 rfl) ?_
          refine va_get (D := (dC, dI)) (ci := 11) (v := .int (v2 35)) (C := RX11) (T := TX11) (N := 79) hx hb hts inB_11 hown hE.1 hP 0 rfl rfl 62 (Nat.le_of_ble_eq_true rfl) (hts _ k_1382) (fun _ h9 => h9) rfl dX11_act_64 ?_
          refine tI (y := (v 35)) hq35_v2 ?_
          have b35_v : 0 ≤ (v 35).toInt ∧ (v 35).toInt ≤ 40 := YIb.b hIv.1 35 (by decide)
          refine lv_imul hx hb dX11_act_67 ?_
          refine lv_topi (fun t10 et10 => ?_)
          have rg11 := fb_rng (v 35)
          have zt10 : t10.toInt = 39 * (v 35).toInt := by rw [et10]; exact mul_i (by decide) rfl (by omega) (by omega)
          refine lv_iload_n hx hb dX11_act_68 rfl (lv_at hl 0 rfl) ?_
          refine lv_iadd hx hb dX11_act_69 ?_
          refine lv_topi (fun t12 et12 => ?_)
          have rg13 := fb_rng t10
          have rg14 := fb_rng l1_2
          have zt12 : t12.toInt = t10.toInt + l1_2.toInt := by rw [et12]; exact add_i rfl rfl (by omega) (by omega)
          refine lv_aload_n hx hb dX11_act_70 rfl (lv_at hl 1 rfl) ?_
          refine va_get (D := (dC, dI)) (ci := 11) (v := .ref (r 59)) (C := RX11) (T := TX11) (N := 79) hx hb hts inB_11 hown hE.1 hP 0 rfl rfl 59 (Nat.le_of_ble_eq_true rfl) (hts _ k_1379) (fun _ h9 => h9) rfl dX11_act_71 ?_
          refine lv_iload_n hx hb dX11_act_74 rfl (lv_at hl 0 rfl) ?_
          refine ldI hx hb hE hP 24 rfl (vp_in_iff.mpr ⟨by omega, by omega⟩) rfl rfl dX11_act_75 ?_
          refine lv_topi (fun t15 et15 => ?_)
          have zt15 : l1_2.toInt.toNat % 39 < 6 ∨ 12 ≤ l1_2.toInt.toNat % 39 ∨ (-1 ≤ t15.toInt ∧ t15.toInt ≤ 5) := by rw [et15]; exact wear_ld hCf2.1 (show l1_2.toInt.toNat < 39 by omega)
          refine stI hx hb hE hP hD hS 26 rfl (vp_in_iff.mpr ⟨by omega, by omega⟩) rfl dX11_act_76 (fun H locs hP hD hS => ?_)
          obtain ⟨f16, ef16, hP, hD⟩ : ∃ fz9, fz9 = upd2 f2 25 (upd (f2 25) t12.toNatClampNeg t15) ∧ va_P (dC, dI) vwCl (YW cy y0 r v2 fz9 w2 g2) H ∧ va_D A (YW cy y0 r v2 fz9 w2 g2) := ⟨_, rfl, hP, hD⟩
          have hCf16 : YC f16 := by rw [ef16]; exact ⟨hCf2.1, hCf2.2.1, (wear_st hCf2.2.2.1 (by show t12.toInt.toNat % 39 < 6 ∨ 12 ≤ t12.toInt.toNat % 39 ∨ (-1 ≤ t15.toInt ∧ t15.toInt ≤ 5); omega)), hCf2.2.2.2.1, hCf2.2.2.2.2.1, hCf2.2.2.2.2.2⟩
          have hRf16 : progOK (f16 4) (f16 5) (v2 9).toInt.toNat := by rw [ef16]; exact hRf2
          have hA_f16 : KF [24, 25] f16 f := by rw [ef16]; exact KF.up hA_f2 rfl
          obtain ⟨t17, et17⟩ : ∃ y : Int32, y = l1_2 + 1 := ⟨_, rfl⟩
          have zt17 : t17.toInt = l1_2.toInt + 1 := by rw [et17]; exact add_i rfl (by decide) (by omega) (by omega)
          refine lv_iinc (v := t17) (lv' := [(1, .int t17), (0, .ref y0)]) hx hb dX11_act_77 hl (k := 0) rfl (by rw [et17]; rfl) (by decide) rfl (fun ls hl => ?_)
          refine lv_goto (tgt := 51) hx hb dX11_act_80 rfl ?_
          have rg18 := fb_rng t17
          exact ih2 t17 v2 f16 w2 g2 hIv2 hCf16 hRf16 hq0_v2 hq1_v2 hq2_v2 hq3_v2 hq4_v2 hq5_v2 hq8_v2 hq9_v2 hq10_v2 hq13_v2 hq14_v2 hq15_v2 hq17_v2 hq18_v2 hq24_v2 hq25_v2 hq35_v2 hq36_v2 hq38_v2 hq39_v2 ⟨show (0 : Int) ≤ t17.toInt by omega, show t17.toInt ≤ (2147483647 : Int) by omega⟩ hM_v2 hA_f16 (by show (2147483647 - t17.toInt).toNat < n2; omega) _ _ _ hP hD hS (lv_sub hl [0, 1] rfl)
    exact lp2 _ 0 v f w g hIv hCf hRf rfl rfl rfl rfl rfl rfl rfl rfl rfl rfl rfl rfl rfl rfl rfl rfl rfl rfl rfl rfl ⟨by decide, by decide⟩ hM_v hA_f (Nat.lt_succ_self _) _ _ _ hP hD hS (lv_sub hl [0, 1] rfl)
  · skip
    have zc1 : (v 35).toInt = 40 := by rw [fa_eq, show (40 : Int32).toInt = 40 from by decide] at c1; exact c1
    refine lv_iconst (v := 0) hx hb dX11_act_9 rfl ?_
    refine lv_istore_n (lv' := [(1, .int 0), (0, .ref y0)]) hx hb dX11_act_10 rfl hl (Nat.le_of_ble_eq_true rfl) rfl (fun ls hl => ?_)
    have lp19 : ∀ (n19 : Nat) (l1_19 : Int32) (v19 : Nat → Int32) (f19 : Nat → Nat → Int32) (w19 : Int64) (g19 : Nat → Int64), YI v19 → YC f19 → progOK (f19 4) (f19 5) (v19 9).toInt.toNat → v19 0 = (v 0) → v19 1 = (v 1) → v19 2 = (v 2) → v19 3 = (v 3) → v19 4 = (v 4) → v19 5 = (v 5) → v19 8 = (v 8) → v19 9 = (v 9) → v19 10 = (v 10) → v19 13 = (v 13) → v19 14 = (v 14) → v19 15 = (v 15) → v19 17 = (v 17) → v19 18 = (v 18) → v19 24 = (v 24) → v19 25 = (v 25) → v19 35 = (v 35) → v19 36 = (v 36) → v19 38 = (v 38) → v19 39 = (v 39) → ((0 : Int) ≤ l1_19.toInt ∧ l1_19.toInt ≤ 2147483647) → KV [35, 36] v19 v → KF [24, 25] f19 f → (2147483647 - l1_19.toInt).toNat < n19 → ∀ (H : Heap) (locs : List Loc) (ls : Array Slot), va_P (dC, dI) vwCl (YW cy y0 r v19 f19 w19 g19) H → va_D A (YW cy y0 r v19 f19 w19 g19) → va_S A s.heap H locs → lv_has ls 2 [(1, .int l1_19), (0, .ref y0)] → W p l e { frames := 2, cells := 0, slots := 0, locals := 81 } s m ([.ref y0] : List Value).toArray below meth c H locs 0 0 Q (F0 m 11 ls []) := by
      intro n19
      induction n19 with
      | zero => intro l1_19 v19 f19 w19 g19 hIv19 hCf19 hRf19 hq0_v19 hq1_v19 hq2_v19 hq3_v19 hq4_v19 hq5_v19 hq8_v19 hq9_v19 hq10_v19 hq13_v19 hq14_v19 hq15_v19 hq17_v19 hq18_v19 hq24_v19 hq25_v19 hq35_v19 hq36_v19 hq38_v19 hq39_v19 hr1_19 hM_v19 hA_f19 hm; exact absurd hm (Nat.not_lt_zero _)
      | succ n19 ih19 =>
        intro l1_19 v19 f19 w19 g19 hIv19 hCf19 hRf19 hq0_v19 hq1_v19 hq2_v19 hq3_v19 hq4_v19 hq5_v19 hq8_v19 hq9_v19 hq10_v19 hq13_v19 hq14_v19 hq15_v19 hq17_v19 hq18_v19 hq24_v19 hq25_v19 hq35_v19 hq36_v19 hq38_v19 hq39_v19 hr1_19 hM_v19 hA_f19 hm19 H locs ls hP hD hS hl
        have hUv19 : (v19 35).toInt + (v19 36).toInt ≤ 40 := hIv19.2
        have zq9_v19 := congrArg Int32.toInt hq9_v19
        have zq35_v19 := congrArg Int32.toInt hq35_v19
        have zq36_v19 := congrArg Int32.toInt hq36_v19
        refine lv_iload_n hx hb dX11_act_11 rfl (lv_at hl 0 rfl) ?_
        refine lv_sipush (v := 1521) hx hb dX11_act_12 rfl ?_
        refine lv_icmp_ge (tgt := 39) hx hb dX11_act_15 rfl (fun c20 => ?_) (fun c20 => ?_)
        · skip
          have zc20 : 1521 ≤ l1_19.toInt := by rw [fa_le, show (1521 : Int32).toInt = 1521 from by decide] at c20; exact c20
          refine lv_aload_n hx hb dX11_act_39 rfl (lv_at hl 1 rfl) ?_
          refine lv_dup hx hb dX11_act_40 rfl ?_
          refine va_get (D := (dC, dI)) (ci := 11) (v := .int (v19 35)) (C := RX11) (T := TX11) (N := 79) hx hb hts inB_11 hown hE.1 hP 0 rfl rfl 62 (Nat.le_of_ble_eq_true rfl) (hts _ k_1382) (fun _ h9 => h9) rfl dX11_act_41 ?_
          refine tI (y := (v 35)) hq35_v19 ?_
          have b35_v : 0 ≤ (v 35).toInt ∧ (v 35).toInt ≤ 40 := YIb.b hIv.1 35 (by decide)
          refine lv_iconst (v := 1) hx hb dX11_act_44 rfl ?_
          refine lv_isub hx hb dX11_act_45 ?_
          refine lv_topi (fun t21 et21 => ?_)
          have rg22 := fb_rng (v 35)
          have zt21 : t21.toInt = (v 35).toInt - 1 := by rw [et21]; exact sub_i rfl (by decide) (by omega) (by omega)
          refine va_put (D := (dC, dI)) (ci := 11) (v := .int t21) (ty := tyX11 62) (C := RX11) (T := TX11) (N := 79) hx hb hts inB_11 tyX11 tyX11_ok nmX11 hown hE.1 hP hD hS 0 rfl rfl 62 (Nat.le_of_ble_eq_true rfl) (hts _ k_1382) (fun _ h9 => h9) rfl (tyX11_ok 62 (by decide)) rfl rfl (Nat.le_of_ble_eq_true rfl) dX11_act_46 (fun H locs hP hD hS => ?_)
          have hP : va_P (dC, dI) vwCl (YW cy y0 r (upd v19 35 t21) f19 w19 g19) H := hP
          have hD : va_D A (YW cy y0 r (upd v19 35 t21) f19 w19 g19) := hD
          refine lv_iconst (v := 0) hx hb dX11_act_49 rfl ?_
          refine lv_istore_n (lv' := [(1, .int 0), (0, .ref y0)]) hx hb dX11_act_50 rfl hl (Nat.le_of_ble_eq_true rfl) rfl (fun ls hl => ?_)
          have lp23 : ∀ (n23 : Nat) (l1_23 : Int32) (v23 : Nat → Int32) (f23 : Nat → Nat → Int32) (w23 : Int64) (g23 : Nat → Int64), YI v23 → YC f23 → progOK (f23 4) (f23 5) (v23 9).toInt.toNat → v23 0 = (v 0) → v23 1 = (v 1) → v23 2 = (v 2) → v23 3 = (v 3) → v23 4 = (v 4) → v23 5 = (v 5) → v23 8 = (v 8) → v23 9 = (v 9) → v23 10 = (v 10) → v23 13 = (v 13) → v23 14 = (v 14) → v23 15 = (v 15) → v23 17 = (v 17) → v23 18 = (v 18) → v23 24 = (v 24) → v23 25 = (v 25) → v23 35 = t21 → v23 36 = (v 36) → v23 38 = (v 38) → v23 39 = (v 39) → ((0 : Int) ≤ l1_23.toInt ∧ l1_23.toInt ≤ 2147483647) → KV [35, 36] v23 v → KF [24, 25] f23 f → (2147483647 - l1_23.toInt).toNat < n23 → ∀ (H : Heap) (locs : List Loc) (ls : Array Slot), va_P (dC, dI) vwCl (YW cy y0 r v23 f23 w23 g23) H → va_D A (YW cy y0 r v23 f23 w23 g23) → va_S A s.heap H locs → lv_has ls 2 [(1, .int l1_23), (0, .ref y0)] → W p l e { frames := 2, cells := 0, slots := 0, locals := 81 } s m ([.ref y0] : List Value).toArray below meth c H locs 0 0 Q (F0 m 51 ls []) := by
            intro n23
            induction n23 with
            | zero => intro l1_23 v23 f23 w23 g23 hIv23 hCf23 hRf23 hq0_v23 hq1_v23 hq2_v23 hq3_v23 hq4_v23 hq5_v23 hq8_v23 hq9_v23 hq10_v23 hq13_v23 hq14_v23 hq15_v23 hq17_v23 hq18_v23 hq24_v23 hq25_v23 hq35_v23 hq36_v23 hq38_v23 hq39_v23 hr1_23 hM_v23 hA_f23 hm; exact absurd hm (Nat.not_lt_zero _)
            | succ n23 ih23 =>
              intro l1_23 v23 f23 w23 g23 hIv23 hCf23 hRf23 hq0_v23 hq1_v23 hq2_v23 hq3_v23 hq4_v23 hq5_v23 hq8_v23 hq9_v23 hq10_v23 hq13_v23 hq14_v23 hq15_v23 hq17_v23 hq18_v23 hq24_v23 hq25_v23 hq35_v23 hq36_v23 hq38_v23 hq39_v23 hr1_23 hM_v23 hA_f23 hm23 H locs ls hP hD hS hl
              have hUv23 : (v23 35).toInt + (v23 36).toInt ≤ 40 := hIv23.2
              have zq9_v23 := congrArg Int32.toInt hq9_v23
              have zq35_v23 := congrArg Int32.toInt hq35_v23
              have zq36_v23 := congrArg Int32.toInt hq36_v23
              refine lv_iload_n hx hb dX11_act_51 rfl (lv_at hl 0 rfl) ?_
              refine lv_bipush (v := 39) hx hb dX11_act_52 rfl ?_
              refine lv_icmp_ge (tgt := 83) hx hb dX11_act_54 rfl (fun c24 => ?_) (fun c24 => ?_)
              · skip
                have zc24 : 39 ≤ l1_23.toInt := by rw [fa_le, show (39 : Int32).toInt = 39 from by decide] at c24; exact c24
                refine lv_aload_n hx hb dX11_act_83 rfl (lv_at hl 1 rfl) ?_
                refine lv_dup hx hb dX11_act_84 rfl ?_
                refine va_get (D := (dC, dI)) (ci := 11) (v := .int (v23 35)) (C := RX11) (T := TX11) (N := 79) hx hb hts inB_11 hown hE.1 hP 0 rfl rfl 62 (Nat.le_of_ble_eq_true rfl) (hts _ k_1382) (fun _ h9 => h9) rfl dX11_act_85 ?_
                refine tI (y := t21) hq35_v23 ?_
                refine lv_iconst (v := 1) hx hb dX11_act_88 rfl ?_
                refine lv_iadd hx hb dX11_act_89 ?_
                refine lv_topi (fun t25 et25 => ?_)
                have rg26 := fb_rng t21
                have zt25 : t25.toInt = t21.toInt + 1 := by rw [et25]; exact add_i rfl (by decide) (by omega) (by omega)
                refine va_put (D := (dC, dI)) (ci := 11) (v := .int t25) (ty := tyX11 62) (C := RX11) (T := TX11) (N := 79) hx hb hts inB_11 tyX11 tyX11_ok nmX11 hown hE.1 hP hD hS 0 rfl rfl 62 (Nat.le_of_ble_eq_true rfl) (hts _ k_1382) (fun _ h9 => h9) rfl (tyX11_ok 62 (by decide)) rfl rfl (Nat.le_of_ble_eq_true rfl) dX11_act_90 (fun H locs hP hD hS => ?_)
                have hP : va_P (dC, dI) vwCl (YW cy y0 r (upd v23 35 t25) f23 w23 g23) H := hP
                have hD : va_D A (YW cy y0 r (upd v23 35 t25) f23 w23 g23) := hD
                refine lv_aload_n hx hb dX11_act_93 rfl (lv_at hl 1 rfl) ?_
                refine lv_iconst (v := 0) hx hb dX11_act_94 rfl ?_
                refine va_put (D := (dC, dI)) (ci := 11) (v := .int 0) (ty := tyX11 63) (C := RX11) (T := TX11) (N := 79) hx hb hts inB_11 tyX11 tyX11_ok nmX11 hown hE.1 hP hD hS 0 rfl rfl 63 (Nat.le_of_ble_eq_true rfl) (hts _ k_1383) (fun _ h9 => h9) rfl (tyX11_ok 63 (by decide)) rfl rfl (Nat.le_of_ble_eq_true rfl) dX11_act_95 (fun H locs hP hD hS => ?_)
                have hP : va_P (dC, dI) vwCl (YW cy y0 r (upd (upd v23 35 t25) 36 0) f23 w23 g23) H := hP
                have hD : va_D A (YW cy y0 r (upd (upd v23 35 t25) 36 0) f23 w23 g23) := hD
                refine lv_aload_n hx hb dX11_act_98 rfl (lv_at hl 1 rfl) ?_
                refine cbVv (n := 0) (rest := []) hx hb hml hown hts hE hP hD hS hA (sY_X11_fill_1 l dC dI cy y0 r  (upd (upd v23 35 t25) 36 0) f23 w23 g23 ⟨(YIb.upd (j := 36) (x := 0) (YIb.upd (j := 35) (x := t25) hIv23.1 (show (0 : Int) ≤ t25.toInt by omega) (show t25.toInt ≤ (40 : Int) by omega)) (by decide) (by decide)), (by have q9 := hIv23.2; have q0 : (0 : Int32).toInt = 0 := (by decide); show t25.toInt + (0 : Int32).toInt ≤ 40; omega)⟩ hCf23 hRf23 ) k_1739 k_1741 k_71 k_114 k_1742 (by decide +kernel) ⟨Nat.le_of_ble_eq_true rfl, Nat.le_of_ble_eq_true rfl⟩ 0 11 rfl rfl (rfl) hl.1 rfl (Nat.le_of_ble_eq_true rfl) dX11_act_99 (fun u H locs hw hP hD hS => ?_)
                obtain ⟨v27, f28, w29, g30⟩ := u
                obtain ⟨kV_v27, kF_f28, hIv27, hCf28, hRf28, hk0_v27, hk1_v27, hk2_v27, hk3_v27, hk4_v27, hk5_v27, hk8_v27, hk9_v27, hk10_v27, hk13_v27, hk14_v27, hk15_v27, hk17_v27, hk18_v27, hk24_v27, hk25_v27, hk35_v27, hk36_v27, hk38_v27, hk39_v27⟩ := hw
                have hM_v27 : KV [35, 36] v27 v := KV.tr kV_v27 (KV.up (j := 36) (x := 0) (KV.up (j := 35) (x := t25) hM_v23 rfl) rfl) rfl
                have hA_f28 : KF [24, 25] f28 f := KF.tr kF_f28 hA_f23 rfl
                have hP : va_P (dC, dI) vwCl (YW cy y0 r v27 f28 w29 g30) H := hP
                have hD : va_D A (YW cy y0 r v27 f28 w29 g30) := hD
                have hUv27 : (v27 35).toInt + (v27 36).toInt ≤ 40 := hIv27.2
                have hq9_v27 : v27 9 = (v 9) := hk9_v27.trans hq9_v23
                have zq9_v27 := congrArg Int32.toInt hq9_v27
                have hq35_v27 : v27 35 = t25 := hk35_v27
                have zq35_v27 := congrArg Int32.toInt hq35_v27
                have hq36_v27 : v27 36 = 0 := hk36_v27
                have zq36_v27 := congrArg Int32.toInt hq36_v27
                exact ret (v27, f28, w29, g30) _ _ _ _ _ _ ⟨hM_v27, hA_f28, hIv27, hCf28, hRf28, (hk0_v27.trans hq0_v23), (hk1_v27.trans hq1_v23), (hk2_v27.trans hq2_v23), (hk3_v27.trans hq3_v23), (hk4_v27.trans hq4_v23), (hk5_v27.trans hq5_v23), (hk8_v27.trans hq8_v23), (hk9_v27.trans hq9_v23), (hk10_v27.trans hq10_v23), (hk13_v27.trans hq13_v23), (hk14_v27.trans hq14_v23), (hk15_v27.trans hq15_v23), (hk17_v27.trans hq17_v23), (hk18_v27.trans hq18_v23), (hk24_v27.trans hq24_v23), (hk25_v27.trans hq25_v23), (hk38_v27.trans hq38_v23), (hk39_v27.trans hq39_v23)⟩ hP hD hS dX11_act_102 (Nat.le_refl _) (Nat.le_refl _)
              · skip
                have zc24 : ¬ (39 ≤ l1_23.toInt) := by rw [fa_le, show (39 : Int32).toInt = 39 from by decide] at c24; exact c24
                refine lv_aload_n hx hb dX11_act_57 rfl (lv_at hl 1 rfl) ?_
                refine va_get (D := (dC, dI)) (ci := 11) (v := .ref (r 61)) (C := RX11) (T := TX11) (N := 79) hx hb hts inB_11 hown hE.1 hP 0 rfl rfl 61 (Nat.le_of_ble_eq_true rfl) (hts _ k_1381) (fun _ h9 => h9) rfl dX11_act_58 ?_
                refine lv_bipush (v := 39) hx hb dX11_act_61 rfl ?_
                refine lv_aload_n hx hb dX11_act_63 rfl (lv_at hl 1 rfl) ?_
                refine va_get (D := (dC, dI)) (ci := 11) (v := .int (v23 35)) (C := RX11) (T := TX11) (N := 79) hx hb hts inB_11 hown hE.1 hP 0 rfl rfl 62 (Nat.le_of_ble_eq_true rfl) (hts _ k_1382) (fun _ h9 => h9) rfl dX11_act_64 ?_
                refine tI (y := t21) hq35_v23 ?_
                refine lv_imul hx hb dX11_act_67 ?_
                refine lv_topi (fun t31 et31 => ?_)
                have rg32 := fb_rng t21
                have zt31 : t31.toInt = 39 * t21.toInt := by rw [et31]; exact mul_i (by decide) rfl (by omega) (by omega)
                refine lv_iload_n hx hb dX11_act_68 rfl (lv_at hl 0 rfl) ?_
                refine lv_iadd hx hb dX11_act_69 ?_
                refine lv_topi (fun t33 et33 => ?_)
                have rg34 := fb_rng t31
                have rg35 := fb_rng l1_23
                have zt33 : t33.toInt = t31.toInt + l1_23.toInt := by rw [et33]; exact add_i rfl rfl (by omega) (by omega)
                refine lv_aload_n hx hb dX11_act_70 rfl (lv_at hl 1 rfl) ?_
                refine va_get (D := (dC, dI)) (ci := 11) (v := .ref (r 59)) (C := RX11) (T := TX11) (N := 79) hx hb hts inB_11 hown hE.1 hP 0 rfl rfl 59 (Nat.le_of_ble_eq_true rfl) (hts _ k_1379) (fun _ h9 => h9) rfl dX11_act_71 ?_
                refine lv_iload_n hx hb dX11_act_74 rfl (lv_at hl 0 rfl) ?_
                refine ldI hx hb hE hP 24 rfl (vp_in_iff.mpr ⟨by omega, by omega⟩) rfl rfl dX11_act_75 ?_
                refine lv_topi (fun t36 et36 => ?_)
                have zt36 : l1_23.toInt.toNat % 39 < 6 ∨ 12 ≤ l1_23.toInt.toNat % 39 ∨ (-1 ≤ t36.toInt ∧ t36.toInt ≤ 5) := by rw [et36]; exact wear_ld hCf23.1 (show l1_23.toInt.toNat < 39 by omega)
                refine stI hx hb hE hP hD hS 26 rfl (vp_in_iff.mpr ⟨by omega, by omega⟩) rfl dX11_act_76 (fun H locs hP hD hS => ?_)
                obtain ⟨f37, ef37, hP, hD⟩ : ∃ fz9, fz9 = upd2 f23 25 (upd (f23 25) t33.toNatClampNeg t36) ∧ va_P (dC, dI) vwCl (YW cy y0 r v23 fz9 w23 g23) H ∧ va_D A (YW cy y0 r v23 fz9 w23 g23) := ⟨_, rfl, hP, hD⟩
                have hCf37 : YC f37 := by rw [ef37]; exact ⟨hCf23.1, hCf23.2.1, (wear_st hCf23.2.2.1 (by show t33.toInt.toNat % 39 < 6 ∨ 12 ≤ t33.toInt.toNat % 39 ∨ (-1 ≤ t36.toInt ∧ t36.toInt ≤ 5); omega)), hCf23.2.2.2.1, hCf23.2.2.2.2.1, hCf23.2.2.2.2.2⟩
                have hRf37 : progOK (f37 4) (f37 5) (v23 9).toInt.toNat := by rw [ef37]; exact hRf23
                have hA_f37 : KF [24, 25] f37 f := by rw [ef37]; exact KF.up hA_f23 rfl
                obtain ⟨t38, et38⟩ : ∃ y : Int32, y = l1_23 + 1 := ⟨_, rfl⟩
                have zt38 : t38.toInt = l1_23.toInt + 1 := by rw [et38]; exact add_i rfl (by decide) (by omega) (by omega)
                refine lv_iinc (v := t38) (lv' := [(1, .int t38), (0, .ref y0)]) hx hb dX11_act_77 hl (k := 0) rfl (by rw [et38]; rfl) (by decide) rfl (fun ls hl => ?_)
                refine lv_goto (tgt := 51) hx hb dX11_act_80 rfl ?_
                have rg39 := fb_rng t38
                exact ih23 t38 v23 f37 w23 g23 hIv23 hCf37 hRf37 hq0_v23 hq1_v23 hq2_v23 hq3_v23 hq4_v23 hq5_v23 hq8_v23 hq9_v23 hq10_v23 hq13_v23 hq14_v23 hq15_v23 hq17_v23 hq18_v23 hq24_v23 hq25_v23 hq35_v23 hq36_v23 hq38_v23 hq39_v23 ⟨show (0 : Int) ≤ t38.toInt by omega, show t38.toInt ≤ (2147483647 : Int) by omega⟩ hM_v23 hA_f37 (by show (2147483647 - t38.toInt).toNat < n23; omega) _ _ _ hP hD hS (lv_sub hl [0, 1] rfl)
          exact lp23 _ 0 (upd v19 35 t21) f19 w19 g19 ⟨(YIb.upd (j := 35) (x := t21) hIv19.1 (show (0 : Int) ≤ t21.toInt by omega) (show t21.toInt ≤ (40 : Int) by omega)), (by have q9 := hIv19.2; show t21.toInt + (v19 36).toInt ≤ 40; omega)⟩ hCf19 hRf19 hq0_v19 hq1_v19 hq2_v19 hq3_v19 hq4_v19 hq5_v19 hq8_v19 hq9_v19 hq10_v19 hq13_v19 hq14_v19 hq15_v19 hq17_v19 hq18_v19 hq24_v19 hq25_v19 rfl hq36_v19 hq38_v19 hq39_v19 ⟨by decide, by decide⟩ (KV.up (j := 35) (x := t21) hM_v19 rfl) hA_f19 (Nat.lt_succ_self _) _ _ _ hP hD hS (lv_sub hl [0, 1] rfl)
        · skip
          have zc20 : ¬ (1521 ≤ l1_19.toInt) := by rw [fa_le, show (1521 : Int32).toInt = 1521 from by decide] at c20; exact c20
          refine lv_aload_n hx hb dX11_act_18 rfl (lv_at hl 1 rfl) ?_
          refine va_get (D := (dC, dI)) (ci := 11) (v := .ref (r 61)) (C := RX11) (T := TX11) (N := 79) hx hb hts inB_11 hown hE.1 hP 0 rfl rfl 61 (Nat.le_of_ble_eq_true rfl) (hts _ k_1381) (fun _ h9 => h9) rfl dX11_act_19 ?_
          refine lv_iload_n hx hb dX11_act_22 rfl (lv_at hl 0 rfl) ?_
          refine lv_aload_n hx hb dX11_act_23 rfl (lv_at hl 1 rfl) ?_
          refine va_get (D := (dC, dI)) (ci := 11) (v := .ref (r 61)) (C := RX11) (T := TX11) (N := 79) hx hb hts inB_11 hown hE.1 hP 0 rfl rfl 61 (Nat.le_of_ble_eq_true rfl) (hts _ k_1381) (fun _ h9 => h9) rfl dX11_act_24 ?_
          refine lv_bipush (v := 39) hx hb dX11_act_27 rfl ?_
          refine lv_iload_n hx hb dX11_act_29 rfl (lv_at hl 0 rfl) ?_
          refine lv_iadd hx hb dX11_act_30 ?_
          refine lv_topi (fun t40 et40 => ?_)
          have rg41 := fb_rng l1_19
          have zt40 : t40.toInt = 39 + l1_19.toInt := by rw [et40]; exact add_i (by decide) rfl (by omega) (by omega)
          refine ldI hx hb hE hP 26 rfl (vp_in_iff.mpr ⟨by omega, by omega⟩) rfl rfl dX11_act_31 ?_
          refine lv_topi (fun t42 et42 => ?_)
          have zt42 : t40.toInt.toNat % 39 < 6 ∨ 12 ≤ t40.toInt.toNat % 39 ∨ (-1 ≤ t42.toInt ∧ t42.toInt ≤ 5) := by rw [et42]; exact wear_ld hCf19.2.2.1 (show t40.toInt.toNat < 1560 by omega)
          refine stI hx hb hE hP hD hS 26 rfl (vp_in_iff.mpr ⟨by omega, by omega⟩) rfl dX11_act_32 (fun H locs hP hD hS => ?_)
          obtain ⟨f43, ef43, hP, hD⟩ : ∃ fz9, fz9 = upd2 f19 25 (upd (f19 25) l1_19.toNatClampNeg t42) ∧ va_P (dC, dI) vwCl (YW cy y0 r v19 fz9 w19 g19) H ∧ va_D A (YW cy y0 r v19 fz9 w19 g19) := ⟨_, rfl, hP, hD⟩
          have hCf43 : YC f43 := by rw [ef43]; exact ⟨hCf19.1, hCf19.2.1, (wear_st hCf19.2.2.1 (by show l1_19.toInt.toNat % 39 < 6 ∨ 12 ≤ l1_19.toInt.toNat % 39 ∨ (-1 ≤ t42.toInt ∧ t42.toInt ≤ 5); omega)), hCf19.2.2.2.1, hCf19.2.2.2.2.1, hCf19.2.2.2.2.2⟩
          have hRf43 : progOK (f43 4) (f43 5) (v19 9).toInt.toNat := by rw [ef43]; exact hRf19
          have hA_f43 : KF [24, 25] f43 f := by rw [ef43]; exact KF.up hA_f19 rfl
          obtain ⟨t44, et44⟩ : ∃ y : Int32, y = l1_19 + 1 := ⟨_, rfl⟩
          have zt44 : t44.toInt = l1_19.toInt + 1 := by rw [et44]; exact add_i rfl (by decide) (by omega) (by omega)
          refine lv_iinc (v := t44) (lv' := [(1, .int t44), (0, .ref y0)]) hx hb dX11_act_33 hl (k := 0) rfl (by rw [et44]; rfl) (by decide) rfl (fun ls hl => ?_)
          refine lv_goto (tgt := 11) hx hb dX11_act_36 rfl ?_
          have rg45 := fb_rng t44
          exact ih19 t44 v19 f43 w19 g19 hIv19 hCf43 hRf43 hq0_v19 hq1_v19 hq2_v19 hq3_v19 hq4_v19 hq5_v19 hq8_v19 hq9_v19 hq10_v19 hq13_v19 hq14_v19 hq15_v19 hq17_v19 hq18_v19 hq24_v19 hq25_v19 hq35_v19 hq36_v19 hq38_v19 hq39_v19 ⟨show (0 : Int) ≤ t44.toInt by omega, show t44.toInt ≤ (2147483647 : Int) by omega⟩ hM_v19 hA_f43 (by show (2147483647 - t44.toInt).toNat < n19; omega) _ _ _ hP hD hS (lv_sub hl [0, 1] rfl)
    exact lp19 _ 0 v f w g hIv hCf hRf rfl rfl rfl rfl rfl rfl rfl rfl rfl rfl rfl rfl rfl rfl rfl rfl rfl rfl rfl rfl ⟨by decide, by decide⟩ hM_v hA_f (Nat.lt_succ_self _) _ _ _ hP hD hS (lv_sub hl [0, 1] rfl)
set_option maxHeartbeats 4000000 in
set_option maxRecDepth 100000 in
theorem sY_X11_drawRain_1 (l : Launch) (dC : Nat → ClassId) (dI : Nat → Nat → Nat) (cy : Nat → ClassId) (y0 : Nat) (r : Nat → Nat)  (v : Nat → Int32) (f : Nat → Nat → Int32) (w : Int64) (g : Nat → Int64) (hIv : YI v) (hCf : YC f) (hRf : progOK (f 4) (f 5) (v 9).toInt.toNat)  : ctI l (dC, dI) cy yX11_drawRain cX11_drawRain 1 .boolean 1 60 0 0 ((Nat → Int32) × (Nat → Nat → Int32) × (Int64) × (Nat → Int64)) [.ref y0] (YW cy y0 r v f w g) (fun r u => KV [] u.1 v ∧ KF [24] u.2.1 f ∧ YI u.1 ∧ YC u.2.1 ∧ progOK (u.2.1 4) (u.2.1 5) (u.1 9).toInt.toNat ∧ u.1 0 = v 0 ∧ u.1 1 = v 1 ∧ u.1 2 = v 2 ∧ u.1 3 = v 3 ∧ u.1 4 = v 4 ∧ u.1 5 = v 5 ∧ u.1 8 = v 8 ∧ u.1 9 = v 9 ∧ u.1 10 = v 10 ∧ u.1 13 = v 13 ∧ u.1 14 = v 14 ∧ u.1 15 = v 15 ∧ u.1 17 = v 17 ∧ u.1 18 = v 18 ∧ u.1 24 = v 24 ∧ u.1 25 = v 25 ∧ u.1 35 = v 35 ∧ u.1 36 = v 36 ∧ u.1 38 = v 38 ∧ u.1 39 = v 39 ∧ ((r = 1) ∨ (r = 0))) (fun u => YW cy y0 r u.1 u.2.1 u.2.2.1 u.2.2.2) := by
  refine ctI_of (by decide) (Nat.le_of_ble_eq_true rfl) (fun p e s m below meth c A ls Q hx hb hml hts hown hE hP hD hA hl ret => ?_)
  have hUv : (v 35).toInt + (v 36).toInt ≤ 40 := hIv.2
  have hM_v : KV [] v v := fun _ _ => rfl
  have hA_f : KF [24] f f := fun _ _ => rfl
  have hown : s.vm.findClass RX11 = some m.cls := hown
  have hS : va_S A s.heap s.heap [] := va_S.rf
  have hl : lv_has ls 1 [(0, .ref y0)] := hl
  refine lv_aload_n hx hb dX11_drawRain_0 rfl (lv_at hl 0 rfl) ?_
  refine va_get (D := (dC, dI)) (ci := 11) (v := .ref (r 60)) (C := RX11) (T := TX11) (N := 79) hx hb hts inB_11 hown hE.1 hP 0 rfl rfl 60 (Nat.le_of_ble_eq_true rfl) (hts _ k_1380) (fun _ h9 => h9) rfl dX11_drawRain_1 ?_
  refine lv_bipush (v := 38) hx hb dX11_drawRain_4 rfl ?_
  refine lv_aload_n hx hb dX11_drawRain_6 rfl (lv_at hl 0 rfl) ?_
  refine va_get (D := (dC, dI)) (ci := 11) (v := .ref (r 60)) (C := RX11) (T := TX11) (N := 79) hx hb hts inB_11 hown hE.1 hP 0 rfl rfl 60 (Nat.le_of_ble_eq_true rfl) (hts _ k_1380) (fun _ h9 => h9) rfl dX11_drawRain_7 ?_
  refine lv_bipush (v := 38) hx hb dX11_drawRain_10 rfl ?_
  refine ldI hx hb hE hP 25 rfl (vp_in_nI (n := 38) (by decide) (by decide)) rfl rfl dX11_drawRain_12 ?_
  refine lv_topi (fun t1 et1 => ?_)
  have zt1 : 38 % 39 < 6 ∨ 12 ≤ 38 % 39 ∨ (-1 ≤ t1.toInt ∧ t1.toInt ≤ 5) := by rw [et1]; exact wear_ld hCf.2.1 (show 38 < 39 by omega)
  refine lv_sipush (v := 137) hx hb dX11_drawRain_13 rfl ?_
  refine lv_imul hx hb dX11_drawRain_16 ?_
  refine lv_topi (fun t2 et2 => ?_)
  refine lv_bipush (v := 71) hx hb dX11_drawRain_17 rfl ?_
  refine lv_iadd hx hb dX11_drawRain_19 ?_
  refine lv_topi (fun t3 et3 => ?_)
  refine lv_sipush (v := 1000) hx hb dX11_drawRain_20 rfl ?_
  refine lv_irem hx hb dX11_drawRain_23 (by decide) ?_
  refine lv_topi (fun t4 et4 => ?_)
  refine stI hx hb hE hP hD hS 25 rfl (vp_in_nI (n := 38) (by decide) (by decide)) rfl dX11_drawRain_24 (fun H locs hP hD hS => ?_)
  obtain ⟨f5, ef5, hP, hD⟩ : ∃ fz9, fz9 = upd2 f 24 (upd (f 24) (38 : Int32).toNatClampNeg t4) ∧ va_P (dC, dI) vwCl (YW cy y0 r v fz9 w g) H ∧ va_D A (YW cy y0 r v fz9 w g) := ⟨_, rfl, hP, hD⟩
  have hCf5 : YC f5 := by rw [ef5]; exact ⟨hCf.1, (wear_st hCf.2.1 (by show 38 % 39 < 6 ∨ 12 ≤ 38 % 39 ∨ (-1 ≤ t4.toInt ∧ t4.toInt ≤ 5); omega)), hCf.2.2.1, hCf.2.2.2.1, hCf.2.2.2.2.1, hCf.2.2.2.2.2⟩
  have hRf5 : progOK (f5 4) (f5 5) (v 9).toInt.toNat := by rw [ef5]; exact hRf
  have hA_f5 : KF [24] f5 f := by rw [ef5]; exact KF.up hA_f rfl
  refine lv_aload_n hx hb dX11_drawRain_25 rfl (lv_at hl 0 rfl) ?_
  refine va_get (D := (dC, dI)) (ci := 11) (v := .ref (r 60)) (C := RX11) (T := TX11) (N := 79) hx hb hts inB_11 hown hE.1 hP 0 rfl rfl 60 (Nat.le_of_ble_eq_true rfl) (hts _ k_1380) (fun _ h9 => h9) rfl dX11_drawRain_26 ?_
  refine lv_bipush (v := 38) hx hb dX11_drawRain_29 rfl ?_
  refine ldI hx hb hE hP 25 rfl (vp_in_nI (n := 38) (by decide) (by decide)) rfl rfl dX11_drawRain_31 ?_
  refine lv_topi (fun t6 et6 => ?_)
  have zt6 : 38 % 39 < 6 ∨ 12 ≤ 38 % 39 ∨ (-1 ≤ t6.toInt ∧ t6.toInt ≤ 5) := by rw [et6]; exact wear_ld hCf5.2.1 (show 38 < 39 by omega)
  refine lv_bipush (v := 100) hx hb dX11_drawRain_32 rfl ?_
  refine lv_irem hx hb dX11_drawRain_34 (by decide) ?_
  refine lv_topi (fun t7 et7 => ?_)
  refine lv_aload_n hx hb dX11_drawRain_35 rfl (lv_at hl 0 rfl) ?_
  refine va_get (D := (dC, dI)) (ci := 11) (v := .int (v 29)) (C := RX11) (T := TX11) (N := 79) hx hb hts inB_11 hown hE.1 hP 0 rfl rfl 53 (Nat.le_of_ble_eq_true rfl) (hts _ k_1373) (fun _ h9 => h9) rfl dX11_drawRain_36 ?_
  refine lv_icmp_ge (tgt := 46) hx hb dX11_drawRain_39 rfl (fun c8 => ?_) (fun c8 => ?_)
  · skip
    have zc8 : (v 29).toInt ≤ t7.toInt := by rw [fa_le] at c8; exact c8
    have rg9 := fb_rng t7
    have rg10 := fb_rng (v 29)
    refine lv_iconst (v := 0) hx hb dX11_drawRain_46 rfl ?_
    exact ret 0 (v, f5, w, g) _ _ _ _ _ _ rfl ⟨hM_v, hA_f5, hIv, hCf5, hRf5, rfl, rfl, rfl, rfl, rfl, rfl, rfl, rfl, rfl, rfl, rfl, rfl, rfl, rfl, rfl, rfl, rfl, rfl, rfl, rfl, (Or.inr rfl)⟩ hP hD hS dX11_drawRain_47 (Nat.le_refl _) (Nat.le_refl _)
  · skip
    have zc8 : ¬ ((v 29).toInt ≤ t7.toInt) := by rw [fa_le] at c8; exact c8
    have rg11 := fb_rng t7
    have rg12 := fb_rng (v 29)
    refine lv_iconst (v := 1) hx hb dX11_drawRain_42 rfl ?_
    refine lv_goto (tgt := 47) hx hb dX11_drawRain_43 rfl ?_
    exact ret 1 (v, f5, w, g) _ _ _ _ _ _ rfl ⟨hM_v, hA_f5, hIv, hCf5, hRf5, rfl, rfl, rfl, rfl, rfl, rfl, rfl, rfl, rfl, rfl, rfl, rfl, rfl, rfl, rfl, rfl, rfl, rfl, rfl, rfl, (Or.inl rfl)⟩ hP hD hS dX11_drawRain_47 (Nat.le_refl _) (Nat.le_refl _)
set_option maxHeartbeats 4000000 in
set_option maxRecDepth 100000 in
theorem sY_X11_wearers_1 (l : Launch) (dC : Nat → ClassId) (dI : Nat → Nat → Nat) (cy : Nat → ClassId) (y0 : Nat) (r : Nat → Nat)  (v : Nat → Int32) (f : Nat → Nat → Int32) (w : Int64) (g : Nat → Int64) (hIv : YI v) (hCf : YC f) (hRf : progOK (f 4) (f 5) (v 9).toInt.toNat)  : ctI l (dC, dI) cy yX11_wearers cX11_wearers 3 .int 2 80 0 0 Unit [.ref y0] (YW cy y0 r v f w g) (fun r u => ((0 : Int) ≤ r.toInt ∧ r.toInt ≤ 63)) (fun u => YW cy y0 r v f w g) := by
  refine ctI_of (by decide) (Nat.le_of_ble_eq_true rfl) (fun p e s m below meth c A ls Q hx hb hml hts hown hE hP hD hA hl ret => ?_)
  have hUv : (v 35).toInt + (v 36).toInt ≤ 40 := hIv.2
  have hown : s.vm.findClass RX11 = some m.cls := hown
  have hS : va_S A s.heap s.heap [] := va_S.rf
  have hl : lv_has ls 3 [(0, .ref y0)] := hl
  refine lv_iconst (v := 0) hx hb dX11_wearers_0 rfl ?_
  refine lv_istore_n (lv' := [(1, .int 0), (0, .ref y0)]) hx hb dX11_wearers_1 rfl hl (Nat.le_of_ble_eq_true rfl) rfl (fun ls hl => ?_)
  refine lv_iconst (v := 0) hx hb dX11_wearers_2 rfl ?_
  refine lv_istore_n (lv' := [(2, .int 0), (1, .int 0), (0, .ref y0)]) hx hb dX11_wearers_3 rfl hl (Nat.le_of_ble_eq_true rfl) rfl (fun ls hl => ?_)
  have lp1 : ∀ (n1 : Nat) (l1_1 : Int32) (l2_1 : Int32), ((0 : Int) ≤ l1_1.toInt ∧ l1_1.toInt ≤ 63) → ((0 : Int) ≤ l2_1.toInt ∧ l2_1.toInt ≤ 2147483647) → (2147483647 - l2_1.toInt).toNat < n1 → ∀ (H : Heap) (locs : List Loc) (ls : Array Slot), va_P (dC, dI) vwCl (YW cy y0 r v f w g) H → va_D A (YW cy y0 r v f w g) → va_S A s.heap H locs → lv_has ls 3 [(2, .int l2_1), (1, .int l1_1), (0, .ref y0)] → W p l e { frames := 2, cells := 0, slots := 0, locals := 80 } s m ([.ref y0] : List Value).toArray below meth c H locs 0 0 Q (F0 m 4 ls []) := by
    intro n1
    induction n1 with
    | zero => intro l1_1 l2_1 hr1_1 hr2_1 hm; exact absurd hm (Nat.not_lt_zero _)
    | succ n1 ih1 =>
      intro l1_1 l2_1 hr1_1 hr2_1 hm1 H locs ls hP hD hS hl
      refine lv_iload_n hx hb dX11_wearers_4 rfl (lv_at hl 0 rfl) ?_
      refine lv_aload_n hx hb dX11_wearers_5 rfl (lv_at hl 2 rfl) ?_
      refine va_get (D := (dC, dI)) (ci := 11) (v := .int (v 24)) (C := RX11) (T := TX11) (N := 79) hx hb hts inB_11 hown hE.1 hP 0 rfl rfl 48 (Nat.le_of_ble_eq_true rfl) (hts _ k_1368) (fun _ h9 => h9) rfl dX11_wearers_6 ?_
      have b24_v : 0 ≤ (v 24).toInt ∧ (v 24).toInt ≤ 6 := YIb.b hIv.1 24 (by decide)
      refine lv_icmp_ge (tgt := 43) hx hb dX11_wearers_9 rfl (fun c2 => ?_) (fun c2 => ?_)
      · skip
        have zc2 : (v 24).toInt ≤ l2_1.toInt := by rw [fa_le] at c2; exact c2
        have rg3 := fb_rng l2_1
        have rg4 := fb_rng (v 24)
        refine lv_iload_n hx hb dX11_wearers_43 rfl (lv_at hl 1 rfl) ?_
        exact ret l1_1 () _ _ _ _ _ _ rfl ⟨by omega, by omega⟩ hP hD hS dX11_wearers_44 (Nat.le_refl _) (Nat.le_refl _)
      · skip
        have zc2 : ¬ ((v 24).toInt ≤ l2_1.toInt) := by rw [fa_le] at c2; exact c2
        have rg5 := fb_rng l2_1
        have rg6 := fb_rng (v 24)
        refine lv_iload_n hx hb dX11_wearers_12 rfl (lv_at hl 1 rfl) ?_
        refine lv_aload_n hx hb dX11_wearers_13 rfl (lv_at hl 2 rfl) ?_
        refine va_get (D := (dC, dI)) (ci := 11) (v := .ref (r 60)) (C := RX11) (T := TX11) (N := 79) hx hb hts inB_11 hown hE.1 hP 0 rfl rfl 60 (Nat.le_of_ble_eq_true rfl) (hts _ k_1380) (fun _ h9 => h9) rfl dX11_wearers_14 ?_
        refine lv_bipush (v := 6) hx hb dX11_wearers_17 rfl ?_
        refine lv_iload_n hx hb dX11_wearers_19 rfl (lv_at hl 0 rfl) ?_
        refine lv_iadd hx hb dX11_wearers_20 ?_
        refine lv_topi (fun t7 et7 => ?_)
        have zt7 : t7.toInt = 6 + l2_1.toInt := by rw [et7]; exact add_i (by decide) rfl (by omega) (by omega)
        refine ldI hx hb hE hP 25 rfl (vp_in_iff.mpr ⟨by omega, by omega⟩) rfl rfl dX11_wearers_21 ?_
        refine lv_topi (fun t8 et8 => ?_)
        have zt8 : t7.toInt.toNat % 39 < 6 ∨ 12 ≤ t7.toInt.toNat % 39 ∨ (-1 ≤ t8.toInt ∧ t8.toInt ≤ 5) := by rw [et8]; exact wear_ld hCf.2.1 (show t7.toInt.toNat < 39 by omega)
        refine lv_if_lt (tgt := 29) hx hb dX11_wearers_22 rfl (fun c9 => ?_) (fun c9 => ?_)
        · skip
          have zc9 : t8.toInt < 0 := by rw [fa_lt, show (0 : Int32).toInt = 0 from by decide] at c9; exact c9
          refine lv_iconst (v := 0) hx hb dX11_wearers_29 rfl ?_
          have lt10 : (0 : Int32).toInt = 0 := by decide
          refine cbSi (n := 1) (rest := [.int l1_1]) hx hb hml hown hts hE hP hD hS hA (sY_X11_truth_1 l dC dI cy y0 r 0 v f w g hIv hCf hRf ) k_1761 k_1762 k_114 k_1763 (by decide +kernel) ⟨Nat.le_of_ble_eq_true rfl, Nat.le_of_ble_eq_true rfl⟩ (rfl) hl.1 rfl (Nat.le_of_ble_eq_true rfl) dX11_wearers_30 (fun r11 u H locs hw hP hD hS => ?_)
          refine lv_iload_n hx hb dX11_wearers_33 rfl (lv_at hl 0 rfl) ?_
          refine lv_ishl hx hb dX11_wearers_34 ?_
          refine lv_topi (fun t12 et12 => ?_)
          have zt12 : 0 ≤ t12.toInt ∧ t12.toInt ≤ 32 := by rw [et12]; exact shl01_rng (by omega) (by omega) (by omega) (by omega)
          refine lv_ior hx hb dX11_wearers_35 ?_
          refine lv_topi (fun t13 et13 => ?_)
          have zt13 : 0 ≤ t13.toInt ∧ t13.toInt ≤ 63 := by rw [et13]; exact or_rng (by omega) (by omega) (by omega) (by omega)
          refine lv_istore_n (lv' := [(1, .int t13), (2, .int l2_1), (0, .ref y0)]) hx hb dX11_wearers_36 rfl hl (Nat.le_of_ble_eq_true rfl) rfl (fun ls hl => ?_)
          obtain ⟨t14, et14⟩ : ∃ y : Int32, y = l2_1 + 1 := ⟨_, rfl⟩
          have zt14 : t14.toInt = l2_1.toInt + 1 := by rw [et14]; exact add_i rfl (by decide) (by omega) (by omega)
          refine lv_iinc (v := t14) (lv' := [(2, .int t14), (1, .int t13), (0, .ref y0)]) hx hb dX11_wearers_37 hl (k := 1) rfl (by rw [et14]; rfl) (by decide) rfl (fun ls hl => ?_)
          refine lv_goto (tgt := 4) hx hb dX11_wearers_40 rfl ?_
          have rg15 := fb_rng t13
          have rg16 := fb_rng t14
          exact ih1 t13 t14 ⟨show (0 : Int) ≤ t13.toInt by omega, show t13.toInt ≤ (63 : Int) by omega⟩ ⟨show (0 : Int) ≤ t14.toInt by omega, show t14.toInt ≤ (2147483647 : Int) by omega⟩ (by show (2147483647 - t14.toInt).toNat < n1; omega) _ _ _ hP hD hS (lv_sub hl [0, 1, 2] rfl)
        · skip
          have zc9 : ¬ (t8.toInt < 0) := by rw [fa_lt, show (0 : Int32).toInt = 0 from by decide] at c9; exact c9
          refine lv_iconst (v := 1) hx hb dX11_wearers_25 rfl ?_
          refine lv_goto (tgt := 30) hx hb dX11_wearers_26 rfl ?_
          have lt17 : (1 : Int32).toInt = 1 := by decide
          refine cbSi (n := 1) (rest := [.int l1_1]) hx hb hml hown hts hE hP hD hS hA (sY_X11_truth_1 l dC dI cy y0 r 1 v f w g hIv hCf hRf ) k_1761 k_1762 k_114 k_1763 (by decide +kernel) ⟨Nat.le_of_ble_eq_true rfl, Nat.le_of_ble_eq_true rfl⟩ (rfl) hl.1 rfl (Nat.le_of_ble_eq_true rfl) dX11_wearers_30 (fun r18 u H locs hw hP hD hS => ?_)
          refine lv_iload_n hx hb dX11_wearers_33 rfl (lv_at hl 0 rfl) ?_
          refine lv_ishl hx hb dX11_wearers_34 ?_
          refine lv_topi (fun t19 et19 => ?_)
          have zt19 : 0 ≤ t19.toInt ∧ t19.toInt ≤ 32 := by rw [et19]; exact shl01_rng (by omega) (by omega) (by omega) (by omega)
          refine lv_ior hx hb dX11_wearers_35 ?_
          refine lv_topi (fun t20 et20 => ?_)
          have zt20 : 0 ≤ t20.toInt ∧ t20.toInt ≤ 63 := by rw [et20]; exact or_rng (by omega) (by omega) (by omega) (by omega)
          refine lv_istore_n (lv' := [(1, .int t20), (2, .int l2_1), (0, .ref y0)]) hx hb dX11_wearers_36 rfl hl (Nat.le_of_ble_eq_true rfl) rfl (fun ls hl => ?_)
          obtain ⟨t21, et21⟩ : ∃ y : Int32, y = l2_1 + 1 := ⟨_, rfl⟩
          have zt21 : t21.toInt = l2_1.toInt + 1 := by rw [et21]; exact add_i rfl (by decide) (by omega) (by omega)
          refine lv_iinc (v := t21) (lv' := [(2, .int t21), (1, .int t20), (0, .ref y0)]) hx hb dX11_wearers_37 hl (k := 1) rfl (by rw [et21]; rfl) (by decide) rfl (fun ls hl => ?_)
          refine lv_goto (tgt := 4) hx hb dX11_wearers_40 rfl ?_
          have rg22 := fb_rng t20
          have rg23 := fb_rng t21
          exact ih1 t20 t21 ⟨show (0 : Int) ≤ t20.toInt by omega, show t20.toInt ≤ (63 : Int) by omega⟩ ⟨show (0 : Int) ≤ t21.toInt by omega, show t21.toInt ≤ (2147483647 : Int) by omega⟩ (by show (2147483647 - t21.toInt).toNat < n1; omega) _ _ _ hP hD hS (lv_sub hl [0, 1, 2] rfl)
  exact lp1 _ 0 0 ⟨by decide, by decide⟩ ⟨by decide, by decide⟩ (Nat.lt_succ_self _) _ _ _ hP hD hS (lv_sub hl [0, 1, 2] rfl)
set_option maxHeartbeats 4000000 in
set_option maxRecDepth 100000 in
theorem sY_X11_fitsOwn_1 (l : Launch) (dC : Nat → ClassId) (dI : Nat → Nat → Nat) (cy : Nat → ClassId) (y0 : Nat) (r : Nat → Nat) (p1 : Int32) (v : Nat → Int32) (f : Nat → Nat → Int32) (w : Int64) (g : Nat → Int64) (hIv : YI v) (hCf : YC f) (hRf : progOK (f 4) (f 5) (v 9).toInt.toNat) (hp1 : (0 : Int) ≤ p1.toInt ∧ p1.toInt ≤ 5) : ctI l (dC, dI) cy yX11_fitsOwn cX11_fitsOwn 2 .boolean 5 148 0 0 ((Nat → Int32) × (Nat → Nat → Int32) × (Int64) × (Nat → Int64)) [.ref y0, .int p1] (YW cy y0 r v f w g) (fun r u => KV [] u.1 v ∧ KF [7, 8] u.2.1 f ∧ YI u.1 ∧ YC u.2.1 ∧ progOK (u.2.1 4) (u.2.1 5) (u.1 9).toInt.toNat ∧ u.1 0 = v 0 ∧ u.1 1 = v 1 ∧ u.1 2 = v 2 ∧ u.1 3 = v 3 ∧ u.1 4 = v 4 ∧ u.1 5 = v 5 ∧ u.1 8 = v 8 ∧ u.1 9 = v 9 ∧ u.1 10 = v 10 ∧ u.1 13 = v 13 ∧ u.1 14 = v 14 ∧ u.1 15 = v 15 ∧ u.1 17 = v 17 ∧ u.1 18 = v 18 ∧ u.1 24 = v 24 ∧ u.1 25 = v 25 ∧ u.1 35 = v 35 ∧ u.1 36 = v 36 ∧ u.1 38 = v 38 ∧ u.1 39 = v 39 ∧ ((r = 1) ∨ (r = 0))) (fun u => YW cy y0 r u.1 u.2.1 u.2.2.1 u.2.2.2) := by
  refine ctI_of (by decide) (Nat.le_of_ble_eq_true rfl) (fun p e s m below meth c A ls Q hx hb hml hts hown hE hP hD hA hl ret => ?_)
  have hUv : (v 35).toInt + (v 36).toInt ≤ 40 := hIv.2
  have hM_v : KV [] v v := fun _ _ => rfl
  have hA_f : KF [7, 8] f f := fun _ _ => rfl
  have hown : s.vm.findClass RX11 = some m.cls := hown
  have hS : va_S A s.heap s.heap [] := va_S.rf
  have hl : lv_has ls 2 [(0, .ref y0), (1, .int p1)] := hl
  refine lv_aload_n hx hb dX11_fitsOwn_0 rfl (lv_at hl 0 rfl) ?_
  refine lv_iload_n hx hb dX11_fitsOwn_1 rfl (lv_at hl 1 rfl) ?_
  refine lv_aload_n hx hb dX11_fitsOwn_2 rfl (lv_at hl 0 rfl) ?_
  refine va_get (D := (dC, dI)) (ci := 11) (v := .ref (r 60)) (C := RX11) (T := TX11) (N := 79) hx hb hts inB_11 hown hE.1 hP 0 rfl rfl 60 (Nat.le_of_ble_eq_true rfl) (hts _ k_1380) (fun _ h9 => h9) rfl dX11_fitsOwn_3 ?_
  refine lv_bipush (v := 6) hx hb dX11_fitsOwn_6 rfl ?_
  refine lv_iload_n hx hb dX11_fitsOwn_8 rfl (lv_at hl 1 rfl) ?_
  refine lv_iadd hx hb dX11_fitsOwn_9 ?_
  refine lv_topi (fun t1 et1 => ?_)
  have rg2 := fb_rng p1
  have zt1 : t1.toInt = 6 + p1.toInt := by rw [et1]; exact add_i (by decide) rfl (by omega) (by omega)
  refine ldI hx hb hE hP 25 rfl (vp_in_iff.mpr ⟨by omega, by omega⟩) rfl rfl dX11_fitsOwn_10 ?_
  refine lv_topi (fun t3 et3 => ?_)
  have zt3 : t1.toInt.toNat % 39 < 6 ∨ 12 ≤ t1.toInt.toNat % 39 ∨ (-1 ≤ t3.toInt ∧ t3.toInt ≤ 5) := by rw [et3]; exact wear_ld hCf.2.1 (show t1.toInt.toNat < 39 by omega)
  refine cbVi (n := 2) (rest := []) hx hb hml hown hts hE hP hD hS hA (sY_X11_fits_1 l dC dI cy y0 r p1 t3 v f w g hIv hCf hRf ⟨show (0 : Int) ≤ p1.toInt by omega, show p1.toInt ≤ (5 : Int) by omega⟩ ⟨show (-1 : Int) ≤ t3.toInt by omega, show t3.toInt ≤ (5 : Int) by omega⟩) k_1747 k_1749 k_73 k_114 k_1750 (by decide +kernel) ⟨Nat.le_of_ble_eq_true rfl, Nat.le_of_ble_eq_true rfl⟩ 0 11 rfl rfl (rfl) hl.1 rfl (Nat.le_of_ble_eq_true rfl) dX11_fitsOwn_11 (fun r4 u H locs hw hP hD hS => ?_)
  obtain ⟨v5, f6, w7, g8⟩ := u
  obtain ⟨kV_v5, kF_f6, hIv5, hCf6, hRf6, hk0_v5, hk1_v5, hk2_v5, hk3_v5, hk4_v5, hk5_v5, hk8_v5, hk9_v5, hk10_v5, hk13_v5, hk14_v5, hk15_v5, hk17_v5, hk18_v5, hk24_v5, hk25_v5, hk35_v5, hk36_v5, hk38_v5, hk39_v5, hw⟩ := hw
  have hM_v5 : KV [] v5 v := KV.tr kV_v5 hM_v rfl
  have hA_f6 : KF [7, 8] f6 f := KF.tr kF_f6 hA_f rfl
  have hP : va_P (dC, dI) vwCl (YW cy y0 r v5 f6 w7 g8) H := hP
  have hD : va_D A (YW cy y0 r v5 f6 w7 g8) := hD
  have hUv5 : (v5 35).toInt + (v5 36).toInt ≤ 40 := hIv5.2
  have hq9_v5 : v5 9 = (v 9) := hk9_v5
  have zq9_v5 := congrArg Int32.toInt hq9_v5
  rcases hw with ⟨g9⟩ | ⟨g9⟩
  · skip
    subst g9
    exact ret 1 (v5, f6, w7, g8) _ _ _ _ _ _ rfl ⟨hM_v5, hA_f6, hIv5, hCf6, hRf6, hk0_v5, hk1_v5, hk2_v5, hk3_v5, hk4_v5, hk5_v5, hk8_v5, hk9_v5, hk10_v5, hk13_v5, hk14_v5, hk15_v5, hk17_v5, hk18_v5, hk24_v5, hk25_v5, hk35_v5, hk36_v5, hk38_v5, hk39_v5, (Or.inl rfl)⟩ hP hD hS dX11_fitsOwn_14 (Nat.le_refl _) (Nat.le_refl _)
  · skip
    subst g9
    exact ret 0 (v5, f6, w7, g8) _ _ _ _ _ _ rfl ⟨hM_v5, hA_f6, hIv5, hCf6, hRf6, hk0_v5, hk1_v5, hk2_v5, hk3_v5, hk4_v5, hk5_v5, hk8_v5, hk9_v5, hk10_v5, hk13_v5, hk14_v5, hk15_v5, hk17_v5, hk18_v5, hk24_v5, hk25_v5, hk35_v5, hk36_v5, hk38_v5, hk39_v5, (Or.inr rfl)⟩ hP hD hS dX11_fitsOwn_14 (Nat.le_refl _) (Nat.le_refl _)
set_option maxHeartbeats 4000000 in
set_option maxRecDepth 100000 in
theorem sY_X11_fittedOnes_1 (l : Launch) (dC : Nat → ClassId) (dI : Nat → Nat → Nat) (cy : Nat → ClassId) (y0 : Nat) (r : Nat → Nat)  (v : Nat → Int32) (f : Nat → Nat → Int32) (w : Int64) (g : Nat → Int64) (hIv : YI v) (hCf : YC f) (hRf : progOK (f 4) (f 5) (v 9).toInt.toNat)  : ctI l (dC, dI) cy yX11_fittedOnes cX11_fittedOnes 3 .int 6 169 0 0 ((Nat → Int32) × (Nat → Nat → Int32) × (Int64) × (Nat → Int64)) [.ref y0] (YW cy y0 r v f w g) (fun r u => KV [] u.1 v ∧ KF [7, 8] u.2.1 f ∧ YI u.1 ∧ YC u.2.1 ∧ progOK (u.2.1 4) (u.2.1 5) (u.1 9).toInt.toNat ∧ u.1 0 = v 0 ∧ u.1 1 = v 1 ∧ u.1 2 = v 2 ∧ u.1 3 = v 3 ∧ u.1 4 = v 4 ∧ u.1 5 = v 5 ∧ u.1 8 = v 8 ∧ u.1 9 = v 9 ∧ u.1 10 = v 10 ∧ u.1 13 = v 13 ∧ u.1 14 = v 14 ∧ u.1 15 = v 15 ∧ u.1 17 = v 17 ∧ u.1 18 = v 18 ∧ u.1 24 = v 24 ∧ u.1 25 = v 25 ∧ u.1 35 = v 35 ∧ u.1 36 = v 36 ∧ u.1 38 = v 38 ∧ u.1 39 = v 39) (fun u => YW cy y0 r u.1 u.2.1 u.2.2.1 u.2.2.2) := by
  refine ctI_of (by decide) (Nat.le_of_ble_eq_true rfl) (fun p e s m below meth c A ls Q hx hb hml hts hown hE hP hD hA hl ret => ?_)
  have hUv : (v 35).toInt + (v 36).toInt ≤ 40 := hIv.2
  have hM_v : KV [] v v := fun _ _ => rfl
  have hA_f : KF [7, 8] f f := fun _ _ => rfl
  have hown : s.vm.findClass RX11 = some m.cls := hown
  have hS : va_S A s.heap s.heap [] := va_S.rf
  have hl : lv_has ls 3 [(0, .ref y0)] := hl
  refine lv_iconst (v := 0) hx hb dX11_fittedOnes_0 rfl ?_
  refine lv_istore_n (lv' := [(1, .int 0), (0, .ref y0)]) hx hb dX11_fittedOnes_1 rfl hl (Nat.le_of_ble_eq_true rfl) rfl (fun ls hl => ?_)
  refine lv_iconst (v := 0) hx hb dX11_fittedOnes_2 rfl ?_
  refine lv_istore_n (lv' := [(2, .int 0), (1, .int 0), (0, .ref y0)]) hx hb dX11_fittedOnes_3 rfl hl (Nat.le_of_ble_eq_true rfl) rfl (fun ls hl => ?_)
  have lp1 : ∀ (n1 : Nat) (l1_1 : Int32) (l2_1 : Int32) (v1 : Nat → Int32) (f1 : Nat → Nat → Int32) (w1 : Int64) (g1 : Nat → Int64), YI v1 → YC f1 → progOK (f1 4) (f1 5) (v1 9).toInt.toNat → v1 0 = (v 0) → v1 1 = (v 1) → v1 2 = (v 2) → v1 3 = (v 3) → v1 4 = (v 4) → v1 5 = (v 5) → v1 8 = (v 8) → v1 9 = (v 9) → v1 10 = (v 10) → v1 13 = (v 13) → v1 14 = (v 14) → v1 15 = (v 15) → v1 17 = (v 17) → v1 18 = (v 18) → v1 24 = (v 24) → v1 25 = (v 25) → v1 35 = (v 35) → v1 36 = (v 36) → v1 38 = (v 38) → v1 39 = (v 39) → ((0 : Int) ≤ l2_1.toInt ∧ l2_1.toInt ≤ 2147483647) → KV [] v1 v → KF [7, 8] f1 f → (2147483647 - l2_1.toInt).toNat < n1 → ∀ (H : Heap) (locs : List Loc) (ls : Array Slot), va_P (dC, dI) vwCl (YW cy y0 r v1 f1 w1 g1) H → va_D A (YW cy y0 r v1 f1 w1 g1) → va_S A s.heap H locs → lv_has ls 3 [(2, .int l2_1), (1, .int l1_1), (0, .ref y0)] → W p l e { frames := 6, cells := 0, slots := 0, locals := 169 } s m ([.ref y0] : List Value).toArray below meth c H locs 0 0 Q (F0 m 4 ls []) := by
    intro n1
    induction n1 with
    | zero => intro l1_1 l2_1 v1 f1 w1 g1 hIv1 hCf1 hRf1 hq0_v1 hq1_v1 hq2_v1 hq3_v1 hq4_v1 hq5_v1 hq8_v1 hq9_v1 hq10_v1 hq13_v1 hq14_v1 hq15_v1 hq17_v1 hq18_v1 hq24_v1 hq25_v1 hq35_v1 hq36_v1 hq38_v1 hq39_v1 hr2_1 hM_v1 hA_f1 hm; exact absurd hm (Nat.not_lt_zero _)
    | succ n1 ih1 =>
      intro l1_1 l2_1 v1 f1 w1 g1 hIv1 hCf1 hRf1 hq0_v1 hq1_v1 hq2_v1 hq3_v1 hq4_v1 hq5_v1 hq8_v1 hq9_v1 hq10_v1 hq13_v1 hq14_v1 hq15_v1 hq17_v1 hq18_v1 hq24_v1 hq25_v1 hq35_v1 hq36_v1 hq38_v1 hq39_v1 hr2_1 hM_v1 hA_f1 hm1 H locs ls hP hD hS hl
      have hUv1 : (v1 35).toInt + (v1 36).toInt ≤ 40 := hIv1.2
      have zq9_v1 := congrArg Int32.toInt hq9_v1
      refine lv_iload_n hx hb dX11_fittedOnes_4 rfl (lv_at hl 0 rfl) ?_
      refine lv_aload_n hx hb dX11_fittedOnes_5 rfl (lv_at hl 2 rfl) ?_
      refine va_get (D := (dC, dI)) (ci := 11) (v := .int (v1 24)) (C := RX11) (T := TX11) (N := 79) hx hb hts inB_11 hown hE.1 hP 0 rfl rfl 48 (Nat.le_of_ble_eq_true rfl) (hts _ k_1368) (fun _ h9 => h9) rfl dX11_fittedOnes_6 ?_
      refine tI (y := (v 24)) hq24_v1 ?_
      have b24_v : 0 ≤ (v 24).toInt ∧ (v 24).toInt ≤ 6 := YIb.b hIv.1 24 (by decide)
      refine lv_icmp_ge (tgt := 31) hx hb dX11_fittedOnes_9 rfl (fun c2 => ?_) (fun c2 => ?_)
      · skip
        have zc2 : (v 24).toInt ≤ l2_1.toInt := by rw [fa_le] at c2; exact c2
        have rg3 := fb_rng l2_1
        have rg4 := fb_rng (v 24)
        refine lv_iload_n hx hb dX11_fittedOnes_31 rfl (lv_at hl 1 rfl) ?_
        exact ret l1_1 (v1, f1, w1, g1) _ _ _ _ _ _ rfl ⟨hM_v1, hA_f1, hIv1, hCf1, hRf1, (show v1 0 = v 0 from hq0_v1), (show v1 1 = v 1 from hq1_v1), (show v1 2 = v 2 from hq2_v1), (show v1 3 = v 3 from hq3_v1), (show v1 4 = v 4 from hq4_v1), (show v1 5 = v 5 from hq5_v1), (show v1 8 = v 8 from hq8_v1), (show v1 9 = v 9 from hq9_v1), (show v1 10 = v 10 from hq10_v1), (show v1 13 = v 13 from hq13_v1), (show v1 14 = v 14 from hq14_v1), (show v1 15 = v 15 from hq15_v1), (show v1 17 = v 17 from hq17_v1), (show v1 18 = v 18 from hq18_v1), (show v1 24 = v 24 from hq24_v1), (show v1 25 = v 25 from hq25_v1), (show v1 35 = v 35 from hq35_v1), (show v1 36 = v 36 from hq36_v1), (show v1 38 = v 38 from hq38_v1), (show v1 39 = v 39 from hq39_v1)⟩ hP hD hS dX11_fittedOnes_32 (Nat.le_refl _) (Nat.le_refl _)
      · skip
        have zc2 : ¬ ((v 24).toInt ≤ l2_1.toInt) := by rw [fa_le] at c2; exact c2
        have rg5 := fb_rng l2_1
        have rg6 := fb_rng (v 24)
        refine lv_iload_n hx hb dX11_fittedOnes_12 rfl (lv_at hl 1 rfl) ?_
        refine lv_aload_n hx hb dX11_fittedOnes_13 rfl (lv_at hl 2 rfl) ?_
        refine lv_iload_n hx hb dX11_fittedOnes_14 rfl (lv_at hl 0 rfl) ?_
        refine cbVi (n := 1) (rest := [.int l1_1]) hx hb hml hown hts hE hP hD hS hA (sY_X11_fitsOwn_1 l dC dI cy y0 r l2_1 v1 f1 w1 g1 hIv1 hCf1 hRf1 ⟨show (0 : Int) ≤ l2_1.toInt by omega, show l2_1.toInt ≤ (5 : Int) by omega⟩) k_1813 k_1815 k_82 k_114 k_1816 (by decide +kernel) ⟨Nat.le_of_ble_eq_true rfl, Nat.le_of_ble_eq_true rfl⟩ 0 11 rfl rfl (rfl) hl.1 rfl (Nat.le_of_ble_eq_true rfl) dX11_fittedOnes_15 (fun r7 u H locs hw hP hD hS => ?_)
        obtain ⟨v8, f9, w10, g11⟩ := u
        obtain ⟨kV_v8, kF_f9, hIv8, hCf9, hRf9, hk0_v8, hk1_v8, hk2_v8, hk3_v8, hk4_v8, hk5_v8, hk8_v8, hk9_v8, hk10_v8, hk13_v8, hk14_v8, hk15_v8, hk17_v8, hk18_v8, hk24_v8, hk25_v8, hk35_v8, hk36_v8, hk38_v8, hk39_v8, hw⟩ := hw
        have hM_v8 : KV [] v8 v := KV.tr kV_v8 hM_v1 rfl
        have hA_f9 : KF [7, 8] f9 f := KF.tr kF_f9 hA_f1 rfl
        have hP : va_P (dC, dI) vwCl (YW cy y0 r v8 f9 w10 g11) H := hP
        have hD : va_D A (YW cy y0 r v8 f9 w10 g11) := hD
        have hUv8 : (v8 35).toInt + (v8 36).toInt ≤ 40 := hIv8.2
        have hq0_v8 : v8 0 = (v 0) := hk0_v8.trans hq0_v1
        have hq1_v8 : v8 1 = (v 1) := hk1_v8.trans hq1_v1
        have hq2_v8 : v8 2 = (v 2) := hk2_v8.trans hq2_v1
        have hq3_v8 : v8 3 = (v 3) := hk3_v8.trans hq3_v1
        have hq4_v8 : v8 4 = (v 4) := hk4_v8.trans hq4_v1
        have hq5_v8 : v8 5 = (v 5) := hk5_v8.trans hq5_v1
        have hq8_v8 : v8 8 = (v 8) := hk8_v8.trans hq8_v1
        have hq9_v8 : v8 9 = (v 9) := hk9_v8.trans hq9_v1
        have zq9_v8 := congrArg Int32.toInt hq9_v8
        have hq10_v8 : v8 10 = (v 10) := hk10_v8.trans hq10_v1
        have hq13_v8 : v8 13 = (v 13) := hk13_v8.trans hq13_v1
        have hq14_v8 : v8 14 = (v 14) := hk14_v8.trans hq14_v1
        have hq15_v8 : v8 15 = (v 15) := hk15_v8.trans hq15_v1
        have hq17_v8 : v8 17 = (v 17) := hk17_v8.trans hq17_v1
        have hq18_v8 : v8 18 = (v 18) := hk18_v8.trans hq18_v1
        have hq24_v8 : v8 24 = (v 24) := hk24_v8.trans hq24_v1
        have hq25_v8 : v8 25 = (v 25) := hk25_v8.trans hq25_v1
        have hq35_v8 : v8 35 = (v 35) := hk35_v8.trans hq35_v1
        have hq36_v8 : v8 36 = (v 36) := hk36_v8.trans hq36_v1
        have hq38_v8 : v8 38 = (v 38) := hk38_v8.trans hq38_v1
        have hq39_v8 : v8 39 = (v 39) := hk39_v8.trans hq39_v1
        rcases hw with ⟨g12⟩ | ⟨g12⟩
        · skip
          subst g12
          have lt13 : (1 : Int32).toInt = 1 := by decide
          refine cbSi (n := 1) (rest := [.int l1_1]) hx hb hml hown hts hE hP hD hS hA (sY_X11_truth_1 l dC dI cy y0 r 1 v8 f9 w10 g11 hIv8 hCf9 hRf9 ) k_1761 k_1762 k_114 k_1763 (by decide +kernel) ⟨Nat.le_of_ble_eq_true rfl, Nat.le_of_ble_eq_true rfl⟩ (rfl) hl.1 rfl (Nat.le_of_ble_eq_true rfl) dX11_fittedOnes_18 (fun r14 u H locs hw hP hD hS => ?_)
          refine lv_iload_n hx hb dX11_fittedOnes_21 rfl (lv_at hl 0 rfl) ?_
          refine lv_ishl hx hb dX11_fittedOnes_22 ?_
          refine lv_topi (fun t15 et15 => ?_)
          have zt15 : 0 ≤ t15.toInt ∧ t15.toInt ≤ 32 := by rw [et15]; exact shl01_rng (by omega) (by omega) (by omega) (by omega)
          refine lv_ior hx hb dX11_fittedOnes_23 ?_
          refine lv_topi (fun t16 et16 => ?_)
          refine lv_istore_n (lv' := [(1, .int t16), (2, .int l2_1), (0, .ref y0)]) hx hb dX11_fittedOnes_24 rfl hl (Nat.le_of_ble_eq_true rfl) rfl (fun ls hl => ?_)
          obtain ⟨t17, et17⟩ : ∃ y : Int32, y = l2_1 + 1 := ⟨_, rfl⟩
          have zt17 : t17.toInt = l2_1.toInt + 1 := by rw [et17]; exact add_i rfl (by decide) (by omega) (by omega)
          refine lv_iinc (v := t17) (lv' := [(2, .int t17), (1, .int t16), (0, .ref y0)]) hx hb dX11_fittedOnes_25 hl (k := 1) rfl (by rw [et17]; rfl) (by decide) rfl (fun ls hl => ?_)
          refine lv_goto (tgt := 4) hx hb dX11_fittedOnes_28 rfl ?_
          have rg18 := fb_rng t17
          exact ih1 t16 t17 v8 f9 w10 g11 hIv8 hCf9 hRf9 hq0_v8 hq1_v8 hq2_v8 hq3_v8 hq4_v8 hq5_v8 hq8_v8 hq9_v8 hq10_v8 hq13_v8 hq14_v8 hq15_v8 hq17_v8 hq18_v8 hq24_v8 hq25_v8 hq35_v8 hq36_v8 hq38_v8 hq39_v8 ⟨show (0 : Int) ≤ t17.toInt by omega, show t17.toInt ≤ (2147483647 : Int) by omega⟩ hM_v8 hA_f9 (by show (2147483647 - t17.toInt).toNat < n1; omega) _ _ _ hP hD hS (lv_sub hl [0, 1, 2] rfl)
        · skip
          subst g12
          have lt19 : (0 : Int32).toInt = 0 := by decide
          refine cbSi (n := 1) (rest := [.int l1_1]) hx hb hml hown hts hE hP hD hS hA (sY_X11_truth_1 l dC dI cy y0 r 0 v8 f9 w10 g11 hIv8 hCf9 hRf9 ) k_1761 k_1762 k_114 k_1763 (by decide +kernel) ⟨Nat.le_of_ble_eq_true rfl, Nat.le_of_ble_eq_true rfl⟩ (rfl) hl.1 rfl (Nat.le_of_ble_eq_true rfl) dX11_fittedOnes_18 (fun r20 u H locs hw hP hD hS => ?_)
          refine lv_iload_n hx hb dX11_fittedOnes_21 rfl (lv_at hl 0 rfl) ?_
          refine lv_ishl hx hb dX11_fittedOnes_22 ?_
          refine lv_topi (fun t21 et21 => ?_)
          have zt21 : 0 ≤ t21.toInt ∧ t21.toInt ≤ 32 := by rw [et21]; exact shl01_rng (by omega) (by omega) (by omega) (by omega)
          refine lv_ior hx hb dX11_fittedOnes_23 ?_
          refine lv_topi (fun t22 et22 => ?_)
          refine lv_istore_n (lv' := [(1, .int t22), (2, .int l2_1), (0, .ref y0)]) hx hb dX11_fittedOnes_24 rfl hl (Nat.le_of_ble_eq_true rfl) rfl (fun ls hl => ?_)
          obtain ⟨t23, et23⟩ : ∃ y : Int32, y = l2_1 + 1 := ⟨_, rfl⟩
          have zt23 : t23.toInt = l2_1.toInt + 1 := by rw [et23]; exact add_i rfl (by decide) (by omega) (by omega)
          refine lv_iinc (v := t23) (lv' := [(2, .int t23), (1, .int t22), (0, .ref y0)]) hx hb dX11_fittedOnes_25 hl (k := 1) rfl (by rw [et23]; rfl) (by decide) rfl (fun ls hl => ?_)
          refine lv_goto (tgt := 4) hx hb dX11_fittedOnes_28 rfl ?_
          have rg24 := fb_rng t23
          exact ih1 t22 t23 v8 f9 w10 g11 hIv8 hCf9 hRf9 hq0_v8 hq1_v8 hq2_v8 hq3_v8 hq4_v8 hq5_v8 hq8_v8 hq9_v8 hq10_v8 hq13_v8 hq14_v8 hq15_v8 hq17_v8 hq18_v8 hq24_v8 hq25_v8 hq35_v8 hq36_v8 hq38_v8 hq39_v8 ⟨show (0 : Int) ≤ t23.toInt by omega, show t23.toInt ≤ (2147483647 : Int) by omega⟩ hM_v8 hA_f9 (by show (2147483647 - t23.toInt).toNat < n1; omega) _ _ _ hP hD hS (lv_sub hl [0, 1, 2] rfl)
  exact lp1 _ 0 0 v f w g hIv hCf hRf rfl rfl rfl rfl rfl rfl rfl rfl rfl rfl rfl rfl rfl rfl rfl rfl rfl rfl rfl rfl ⟨by decide, by decide⟩ hM_v hA_f (Nat.lt_succ_self _) _ _ _ hP hD hS (lv_sub hl [0, 1, 2] rfl)
set_option maxHeartbeats 4000000 in
set_option maxRecDepth 100000 in
theorem sY_X11_lesser_1 (l : Launch) (dC : Nat → ClassId) (dI : Nat → Nat → Nat) (cy : Nat → ClassId) (y0 : Nat) (r : Nat → Nat) (p0 : Int32) (p1 : Int32) (v : Nat → Int32) (f : Nat → Nat → Int32) (w : Int64) (g : Nat → Int64) (hIv : YI v) (hCf : YC f) (hRf : progOK (f 4) (f 5) (v 9).toInt.toNat)  : ctI l (dC, dI) cy yX11_lesser cX11_lesser 2 .int 1 60 0 0 Unit [.int p0, .int p1] (YW cy y0 r v f w g) (fun r u => (r.toInt ≤ p0.toInt) ∧ (r.toInt ≤ p1.toInt)) (fun u => YW cy y0 r v f w g) := by
  refine ctI_of (by decide) (Nat.le_of_ble_eq_true rfl) (fun p e s m below meth c A ls Q hx hb hml hts hown hE hP hD hA hl ret => ?_)
  have hUv : (v 35).toInt + (v 36).toInt ≤ 40 := hIv.2
  have hown : s.vm.findClass RX11 = some m.cls := hown
  have hS : va_S A s.heap s.heap [] := va_S.rf
  have hl : lv_has ls 2 [(0, .int p0), (1, .int p1)] := hl
  refine lv_iload_n hx hb dX11_lesser_0 rfl (lv_at hl 0 rfl) ?_
  refine lv_iload_n hx hb dX11_lesser_1 rfl (lv_at hl 1 rfl) ?_
  refine lv_icmp_ge (tgt := 9) hx hb dX11_lesser_2 rfl (fun c1 => ?_) (fun c1 => ?_)
  · skip
    have zc1 : p1.toInt ≤ p0.toInt := by rw [fa_le] at c1; exact c1
    have rg2 := fb_rng p0
    have rg3 := fb_rng p1
    refine lv_iload_n hx hb dX11_lesser_9 rfl (lv_at hl 1 rfl) ?_
    exact ret p1 () _ _ _ _ _ _ rfl ⟨(by show p1.toInt ≤ p0.toInt; omega), (by show p1.toInt ≤ p1.toInt; omega)⟩ hP hD hS dX11_lesser_10 (Nat.le_refl _) (Nat.le_refl _)
  · skip
    have zc1 : ¬ (p1.toInt ≤ p0.toInt) := by rw [fa_le] at c1; exact c1
    have rg4 := fb_rng p0
    have rg5 := fb_rng p1
    refine lv_iload_n hx hb dX11_lesser_5 rfl (lv_at hl 0 rfl) ?_
    refine lv_goto (tgt := 10) hx hb dX11_lesser_6 rfl ?_
    exact ret p0 () _ _ _ _ _ _ rfl ⟨(by show p0.toInt ≤ p0.toInt; omega), (by show p0.toInt ≤ p1.toInt; omega)⟩ hP hD hS dX11_lesser_10 (Nat.le_refl _) (Nat.le_refl _)
set_option maxHeartbeats 4000000 in
set_option maxRecDepth 100000 in
theorem sY_X11_greater_1 (l : Launch) (dC : Nat → ClassId) (dI : Nat → Nat → Nat) (cy : Nat → ClassId) (y0 : Nat) (r : Nat → Nat) (p0 : Int32) (p1 : Int32) (v : Nat → Int32) (f : Nat → Nat → Int32) (w : Int64) (g : Nat → Int64) (hIv : YI v) (hCf : YC f) (hRf : progOK (f 4) (f 5) (v 9).toInt.toNat)  : ctI l (dC, dI) cy yX11_greater cX11_greater 2 .int 1 60 0 0 Unit [.int p0, .int p1] (YW cy y0 r v f w g) (fun r u => True) (fun u => YW cy y0 r v f w g) := by
  refine ctI_of (by decide) (Nat.le_of_ble_eq_true rfl) (fun p e s m below meth c A ls Q hx hb hml hts hown hE hP hD hA hl ret => ?_)
  have hUv : (v 35).toInt + (v 36).toInt ≤ 40 := hIv.2
  have hown : s.vm.findClass RX11 = some m.cls := hown
  have hS : va_S A s.heap s.heap [] := va_S.rf
  have hl : lv_has ls 2 [(0, .int p0), (1, .int p1)] := hl
  refine lv_iload_n hx hb dX11_greater_0 rfl (lv_at hl 0 rfl) ?_
  refine lv_iload_n hx hb dX11_greater_1 rfl (lv_at hl 1 rfl) ?_
  refine lv_icmp_le (tgt := 9) hx hb dX11_greater_2 rfl (fun c1 => ?_) (fun c1 => ?_)
  · skip
    have zc1 : p0.toInt ≤ p1.toInt := by rw [fa_le] at c1; exact c1
    have rg2 := fb_rng p0
    have rg3 := fb_rng p1
    refine lv_iload_n hx hb dX11_greater_9 rfl (lv_at hl 1 rfl) ?_
    exact ret p1 () _ _ _ _ _ _ rfl trivial hP hD hS dX11_greater_10 (Nat.le_refl _) (Nat.le_refl _)
  · skip
    have zc1 : ¬ (p0.toInt ≤ p1.toInt) := by rw [fa_le] at c1; exact c1
    have rg4 := fb_rng p0
    have rg5 := fb_rng p1
    refine lv_iload_n hx hb dX11_greater_5 rfl (lv_at hl 0 rfl) ?_
    refine lv_goto (tgt := 10) hx hb dX11_greater_6 rfl ?_
    exact ret p0 () _ _ _ _ _ _ rfl trivial hP hD hS dX11_greater_10 (Nat.le_refl _) (Nat.le_refl _)
set_option maxHeartbeats 4000000 in
set_option maxRecDepth 100000 in
theorem sY_X11_goDay_1 (l : Launch) (dC : Nat → ClassId) (dI : Nat → Nat → Nat) (cy : Nat → ClassId) (y0 : Nat) (r : Nat → Nat) (p1 : Int32) (v : Nat → Int32) (f : Nat → Nat → Int32) (w : Int64) (g : Nat → Int64) (hIv : YI v) (hCf : YC f) (hRf : progOK (f 4) (f 5) (v 9).toInt.toNat)  : ctI l (dC, dI) cy yX11_goDay cX11_goDay 4 .int 7 191 0 0 ((Nat → Int32) × (Nat → Nat → Int32) × (Int64) × (Nat → Int64)) [.ref y0, .int p1] (YW cy y0 r v f w g) (fun r u => KV [] u.1 v ∧ KF [7, 8, 24] u.2.1 f ∧ YI u.1 ∧ YC u.2.1 ∧ progOK (u.2.1 4) (u.2.1 5) (u.1 9).toInt.toNat ∧ u.1 0 = v 0 ∧ u.1 1 = v 1 ∧ u.1 2 = v 2 ∧ u.1 3 = v 3 ∧ u.1 4 = v 4 ∧ u.1 5 = v 5 ∧ u.1 8 = v 8 ∧ u.1 9 = v 9 ∧ u.1 10 = v 10 ∧ u.1 13 = v 13 ∧ u.1 14 = v 14 ∧ u.1 15 = v 15 ∧ u.1 17 = v 17 ∧ u.1 18 = v 18 ∧ u.1 24 = v 24 ∧ u.1 25 = v 25 ∧ u.1 35 = v 35 ∧ u.1 36 = v 36 ∧ u.1 38 = v 38 ∧ u.1 39 = v 39) (fun u => YW cy y0 r u.1 u.2.1 u.2.2.1 u.2.2.2) := by
  refine ctI_of (by decide) (Nat.le_of_ble_eq_true rfl) (fun p e s m below meth c A ls Q hx hb hml hts hown hE hP hD hA hl ret => ?_)
  have hUv : (v 35).toInt + (v 36).toInt ≤ 40 := hIv.2
  have hM_v : KV [] v v := fun _ _ => rfl
  have hA_f : KF [7, 8, 24] f f := fun _ _ => rfl
  have hown : s.vm.findClass RX11 = some m.cls := hown
  have hS : va_S A s.heap s.heap [] := va_S.rf
  have hl : lv_has ls 4 [(0, .ref y0), (1, .int p1)] := hl
  refine lv_iconst (v := 0) hx hb dX11_goDay_0 rfl ?_
  refine lv_istore_n (lv' := [(2, .int 0), (0, .ref y0), (1, .int p1)]) hx hb dX11_goDay_1 rfl hl (Nat.le_of_ble_eq_true rfl) rfl (fun ls hl => ?_)
  have lp1 : ∀ (n1 : Nat) (l2_1 : Int32) (v1 : Nat → Int32) (f1 : Nat → Nat → Int32) (w1 : Int64) (g1 : Nat → Int64), YI v1 → YC f1 → progOK (f1 4) (f1 5) (v1 9).toInt.toNat → v1 0 = (v 0) → v1 1 = (v 1) → v1 2 = (v 2) → v1 3 = (v 3) → v1 4 = (v 4) → v1 5 = (v 5) → v1 8 = (v 8) → v1 9 = (v 9) → v1 10 = (v 10) → v1 13 = (v 13) → v1 14 = (v 14) → v1 15 = (v 15) → v1 17 = (v 17) → v1 18 = (v 18) → v1 24 = (v 24) → v1 25 = (v 25) → v1 35 = (v 35) → v1 36 = (v 36) → v1 38 = (v 38) → v1 39 = (v 39) → ((0 : Int) ≤ l2_1.toInt ∧ l2_1.toInt ≤ 2147483647) → KV [] v1 v → KF [7, 8, 24] f1 f → (2147483647 - l2_1.toInt).toNat < n1 → ∀ (H : Heap) (locs : List Loc) (ls : Array Slot), va_P (dC, dI) vwCl (YW cy y0 r v1 f1 w1 g1) H → va_D A (YW cy y0 r v1 f1 w1 g1) → va_S A s.heap H locs → lv_has ls 4 [(2, .int l2_1), (0, .ref y0), (1, .int p1)] → W p l e { frames := 7, cells := 0, slots := 0, locals := 191 } s m ([.ref y0, .int p1] : List Value).toArray below meth c H locs 0 0 Q (F0 m 2 ls []) := by
    intro n1
    induction n1 with
    | zero => intro l2_1 v1 f1 w1 g1 hIv1 hCf1 hRf1 hq0_v1 hq1_v1 hq2_v1 hq3_v1 hq4_v1 hq5_v1 hq8_v1 hq9_v1 hq10_v1 hq13_v1 hq14_v1 hq15_v1 hq17_v1 hq18_v1 hq24_v1 hq25_v1 hq35_v1 hq36_v1 hq38_v1 hq39_v1 hr2_1 hM_v1 hA_f1 hm; exact absurd hm (Nat.not_lt_zero _)
    | succ n1 ih1 =>
      intro l2_1 v1 f1 w1 g1 hIv1 hCf1 hRf1 hq0_v1 hq1_v1 hq2_v1 hq3_v1 hq4_v1 hq5_v1 hq8_v1 hq9_v1 hq10_v1 hq13_v1 hq14_v1 hq15_v1 hq17_v1 hq18_v1 hq24_v1 hq25_v1 hq35_v1 hq36_v1 hq38_v1 hq39_v1 hr2_1 hM_v1 hA_f1 hm1 H locs ls hP hD hS hl
      have hUv1 : (v1 35).toInt + (v1 36).toInt ≤ 40 := hIv1.2
      have zq9_v1 := congrArg Int32.toInt hq9_v1
      refine lv_iload_n hx hb dX11_goDay_2 rfl (lv_at hl 0 rfl) ?_
      refine lv_aload_n hx hb dX11_goDay_3 rfl (lv_at hl 1 rfl) ?_
      refine va_get (D := (dC, dI)) (ci := 11) (v := .int (v1 24)) (C := RX11) (T := TX11) (N := 79) hx hb hts inB_11 hown hE.1 hP 0 rfl rfl 48 (Nat.le_of_ble_eq_true rfl) (hts _ k_1368) (fun _ h9 => h9) rfl dX11_goDay_4 ?_
      refine tI (y := (v 24)) hq24_v1 ?_
      have b24_v : 0 ≤ (v 24).toInt ∧ (v 24).toInt ≤ 6 := YIb.b hIv.1 24 (by decide)
      refine lv_icmp_ge (tgt := 40) hx hb dX11_goDay_7 rfl (fun c2 => ?_) (fun c2 => ?_)
      · skip
        have zc2 : (v 24).toInt ≤ l2_1.toInt := by rw [fa_le] at c2; exact c2
        have rg3 := fb_rng l2_1
        have rg4 := fb_rng (v 24)
        refine lv_iconst (v := 0) hx hb dX11_goDay_40 rfl ?_
        refine lv_istore_n (lv' := [(2, .int 0), (0, .ref y0), (1, .int p1)]) hx hb dX11_goDay_41 rfl hl (Nat.le_of_ble_eq_true rfl) rfl (fun ls hl => ?_)
        have lp5 : ∀ (n5 : Nat) (l2_5 : Int32) (v5 : Nat → Int32) (f5 : Nat → Nat → Int32) (w5 : Int64) (g5 : Nat → Int64), YI v5 → YC f5 → progOK (f5 4) (f5 5) (v5 9).toInt.toNat → v5 0 = (v 0) → v5 1 = (v 1) → v5 2 = (v 2) → v5 3 = (v 3) → v5 4 = (v 4) → v5 5 = (v 5) → v5 8 = (v 8) → v5 9 = (v 9) → v5 10 = (v 10) → v5 13 = (v 13) → v5 14 = (v 14) → v5 15 = (v 15) → v5 17 = (v 17) → v5 18 = (v 18) → v5 24 = (v 24) → v5 25 = (v 25) → v5 35 = (v 35) → v5 36 = (v 36) → v5 38 = (v 38) → v5 39 = (v 39) → ((0 : Int) ≤ l2_5.toInt ∧ l2_5.toInt ≤ 2147483647) → KV [] v5 v → KF [7, 8, 24] f5 f → (2147483647 - l2_5.toInt).toNat < n5 → ∀ (H : Heap) (locs : List Loc) (ls : Array Slot), va_P (dC, dI) vwCl (YW cy y0 r v5 f5 w5 g5) H → va_D A (YW cy y0 r v5 f5 w5 g5) → va_S A s.heap H locs → lv_has ls 4 [(2, .int l2_5), (0, .ref y0), (1, .int p1)] → W p l e { frames := 7, cells := 0, slots := 0, locals := 191 } s m ([.ref y0, .int p1] : List Value).toArray below meth c H locs 0 0 Q (F0 m 42 ls []) := by
          intro n5
          induction n5 with
          | zero => intro l2_5 v5 f5 w5 g5 hIv5 hCf5 hRf5 hq0_v5 hq1_v5 hq2_v5 hq3_v5 hq4_v5 hq5_v5 hq8_v5 hq9_v5 hq10_v5 hq13_v5 hq14_v5 hq15_v5 hq17_v5 hq18_v5 hq24_v5 hq25_v5 hq35_v5 hq36_v5 hq38_v5 hq39_v5 hr2_5 hM_v5 hA_f5 hm; exact absurd hm (Nat.not_lt_zero _)
          | succ n5 ih5 =>
            intro l2_5 v5 f5 w5 g5 hIv5 hCf5 hRf5 hq0_v5 hq1_v5 hq2_v5 hq3_v5 hq4_v5 hq5_v5 hq8_v5 hq9_v5 hq10_v5 hq13_v5 hq14_v5 hq15_v5 hq17_v5 hq18_v5 hq24_v5 hq25_v5 hq35_v5 hq36_v5 hq38_v5 hq39_v5 hr2_5 hM_v5 hA_f5 hm5 H locs ls hP hD hS hl
            have hUv5 : (v5 35).toInt + (v5 36).toInt ≤ 40 := hIv5.2
            have zq9_v5 := congrArg Int32.toInt hq9_v5
            refine lv_iload_n hx hb dX11_goDay_42 rfl (lv_at hl 0 rfl) ?_
            refine lv_aload_n hx hb dX11_goDay_43 rfl (lv_at hl 1 rfl) ?_
            refine va_get (D := (dC, dI)) (ci := 11) (v := .int (v5 25)) (C := RX11) (T := TX11) (N := 79) hx hb hts inB_11 hown hE.1 hP 0 rfl rfl 49 (Nat.le_of_ble_eq_true rfl) (hts _ k_1369) (fun _ h9 => h9) rfl dX11_goDay_44 ?_
            refine tI (y := (v 25)) hq25_v5 ?_
            have b25_v : 0 ≤ (v 25).toInt ∧ (v 25).toInt ≤ 6 := YIb.b hIv.1 25 (by decide)
            refine lv_icmp_ge (tgt := 146) hx hb dX11_goDay_47 rfl (fun c6 => ?_) (fun c6 => ?_)
            · skip
              have zc6 : (v 25).toInt ≤ l2_5.toInt := by rw [fa_le] at c6; exact c6
              have rg7 := fb_rng l2_5
              have rg8 := fb_rng (v 25)
              refine lv_aload_n hx hb dX11_goDay_146 rfl (lv_at hl 1 rfl) ?_
              refine va_get (D := (dC, dI)) (ci := 11) (v := .ref (r 60)) (C := RX11) (T := TX11) (N := 79) hx hb hts inB_11 hown hE.1 hP 0 rfl rfl 60 (Nat.le_of_ble_eq_true rfl) (hts _ k_1380) (fun _ h9 => h9) rfl dX11_goDay_147 ?_
              refine lv_bipush (v := 37) hx hb dX11_goDay_150 rfl ?_
              refine lv_dup2_11 hx hb dX11_goDay_152 rfl rfl ?_
              refine ldI hx hb hE hP 25 rfl (vp_in_nI (n := 37) (by decide) (by decide)) rfl rfl dX11_goDay_153 ?_
              refine lv_topi (fun t9 et9 => ?_)
              have zt9 : 37 % 39 < 6 ∨ 12 ≤ 37 % 39 ∨ (-1 ≤ t9.toInt ∧ t9.toInt ≤ 5) := by rw [et9]; exact wear_ld hCf5.2.1 (show 37 < 39 by omega)
              refine lv_iconst (v := 1) hx hb dX11_goDay_154 rfl ?_
              refine lv_iadd hx hb dX11_goDay_155 ?_
              refine lv_topi (fun t10 et10 => ?_)
              refine stI hx hb hE hP hD hS 25 rfl (vp_in_nI (n := 37) (by decide) (by decide)) rfl dX11_goDay_156 (fun H locs hP hD hS => ?_)
              obtain ⟨f11, ef11, hP, hD⟩ : ∃ fz9, fz9 = upd2 f5 24 (upd (f5 24) (37 : Int32).toNatClampNeg t10) ∧ va_P (dC, dI) vwCl (YW cy y0 r v5 fz9 w5 g5) H ∧ va_D A (YW cy y0 r v5 fz9 w5 g5) := ⟨_, rfl, hP, hD⟩
              have hCf11 : YC f11 := by rw [ef11]; exact ⟨hCf5.1, (wear_st hCf5.2.1 (by show 37 % 39 < 6 ∨ 12 ≤ 37 % 39 ∨ (-1 ≤ t10.toInt ∧ t10.toInt ≤ 5); omega)), hCf5.2.2.1, hCf5.2.2.2.1, hCf5.2.2.2.2.1, hCf5.2.2.2.2.2⟩
              have hRf11 : progOK (f11 4) (f11 5) (v5 9).toInt.toNat := by rw [ef11]; exact hRf5
              have hA_f11 : KF [7, 8, 24] f11 f := by rw [ef11]; exact KF.up hA_f5 rfl
              refine lv_aload_n hx hb dX11_goDay_157 rfl (lv_at hl 1 rfl) ?_
              refine cbVi (n := 0) (rest := []) hx hb hml hown hts hE hP hD hS hA (sY_X11_wearers_1 l dC dI cy y0 r  v5 f11 w5 g5 hIv5 hCf11 hRf11 ) k_1805 k_1807 k_80 k_114 k_1808 (by decide +kernel) ⟨Nat.le_of_ble_eq_true rfl, Nat.le_of_ble_eq_true rfl⟩ 0 11 rfl rfl (rfl) hl.1 rfl (Nat.le_of_ble_eq_true rfl) dX11_goDay_158 (fun r12 u H locs hw hP hD hS => ?_)
              refine lv_aload_n hx hb dX11_goDay_161 rfl (lv_at hl 1 rfl) ?_
              refine cbVi (n := 0) (rest := [.int r12]) hx hb hml hown hts hE hP hD hS hA (sY_X11_fittedOnes_1 l dC dI cy y0 r  v5 f11 w5 g5 hIv5 hCf11 hRf11 ) k_1809 k_1811 k_81 k_114 k_1812 (by decide +kernel) ⟨Nat.le_of_ble_eq_true rfl, Nat.le_of_ble_eq_true rfl⟩ 0 11 rfl rfl (rfl) hl.1 rfl (Nat.le_of_ble_eq_true rfl) dX11_goDay_162 (fun r13 u H locs hw hP hD hS => ?_)
              obtain ⟨v14, f15, w16, g17⟩ := u
              obtain ⟨kV_v14, kF_f15, hIv14, hCf15, hRf15, hk0_v14, hk1_v14, hk2_v14, hk3_v14, hk4_v14, hk5_v14, hk8_v14, hk9_v14, hk10_v14, hk13_v14, hk14_v14, hk15_v14, hk17_v14, hk18_v14, hk24_v14, hk25_v14, hk35_v14, hk36_v14, hk38_v14, hk39_v14⟩ := hw
              have hM_v14 : KV [] v14 v := KV.tr kV_v14 hM_v5 rfl
              have hA_f15 : KF [7, 8, 24] f15 f := KF.tr kF_f15 hA_f11 rfl
              have hP : va_P (dC, dI) vwCl (YW cy y0 r v14 f15 w16 g17) H := hP
              have hD : va_D A (YW cy y0 r v14 f15 w16 g17) := hD
              have hUv14 : (v14 35).toInt + (v14 36).toInt ≤ 40 := hIv14.2
              have hq0_v14 : v14 0 = (v 0) := hk0_v14.trans hq0_v5
              have hq1_v14 : v14 1 = (v 1) := hk1_v14.trans hq1_v5
              have hq2_v14 : v14 2 = (v 2) := hk2_v14.trans hq2_v5
              have hq3_v14 : v14 3 = (v 3) := hk3_v14.trans hq3_v5
              have hq4_v14 : v14 4 = (v 4) := hk4_v14.trans hq4_v5
              have hq5_v14 : v14 5 = (v 5) := hk5_v14.trans hq5_v5
              have hq8_v14 : v14 8 = (v 8) := hk8_v14.trans hq8_v5
              have hq9_v14 : v14 9 = (v 9) := hk9_v14.trans hq9_v5
              have zq9_v14 := congrArg Int32.toInt hq9_v14
              have hq10_v14 : v14 10 = (v 10) := hk10_v14.trans hq10_v5
              have hq13_v14 : v14 13 = (v 13) := hk13_v14.trans hq13_v5
              have hq14_v14 : v14 14 = (v 14) := hk14_v14.trans hq14_v5
              have hq15_v14 : v14 15 = (v 15) := hk15_v14.trans hq15_v5
              have hq17_v14 : v14 17 = (v 17) := hk17_v14.trans hq17_v5
              have hq18_v14 : v14 18 = (v 18) := hk18_v14.trans hq18_v5
              have hq24_v14 : v14 24 = (v 24) := hk24_v14.trans hq24_v5
              have hq25_v14 : v14 25 = (v 25) := hk25_v14.trans hq25_v5
              have hq35_v14 : v14 35 = (v 35) := hk35_v14.trans hq35_v5
              have hq36_v14 : v14 36 = (v 36) := hk36_v14.trans hq36_v5
              have hq38_v14 : v14 38 = (v 38) := hk38_v14.trans hq38_v5
              have hq39_v14 : v14 39 = (v 39) := hk39_v14.trans hq39_v5
              refine lv_iconst (v := (-1)) hx hb dX11_goDay_165 rfl ?_
              refine lv_ixor hx hb dX11_goDay_166 ?_
              refine lv_topi (fun t18 et18 => ?_)
              refine lv_iand hx hb dX11_goDay_167 ?_
              refine lv_topi (fun t19 et19 => ?_)
              have zt19 : 0 ≤ t19.toInt ∧ t19.toInt ≤ 63 := by rw [et19]; exact and_left (by omega) (by omega)
              refine lv_istore_n (lv' := [(2, .int t19), (0, .ref y0), (1, .int p1)]) hx hb dX11_goDay_168 rfl hl (Nat.le_of_ble_eq_true rfl) rfl (fun ls hl => ?_)
              refine lv_iconst (v := 0) hx hb dX11_goDay_169 rfl ?_
              refine lv_istore_n (lv' := [(3, .int 0), (2, .int t19), (0, .ref y0), (1, .int p1)]) hx hb dX11_goDay_170 rfl hl (Nat.le_of_ble_eq_true rfl) rfl (fun ls hl => ?_)
              have lp20 : ∀ (n20 : Nat) (l3_20 : Int32) (v20 : Nat → Int32) (f20 : Nat → Nat → Int32) (w20 : Int64) (g20 : Nat → Int64), YI v20 → YC f20 → progOK (f20 4) (f20 5) (v20 9).toInt.toNat → v20 0 = (v 0) → v20 1 = (v 1) → v20 2 = (v 2) → v20 3 = (v 3) → v20 4 = (v 4) → v20 5 = (v 5) → v20 8 = (v 8) → v20 9 = (v 9) → v20 10 = (v 10) → v20 13 = (v 13) → v20 14 = (v 14) → v20 15 = (v 15) → v20 17 = (v 17) → v20 18 = (v 18) → v20 24 = (v 24) → v20 25 = (v 25) → v20 35 = (v 35) → v20 36 = (v 36) → v20 38 = (v 38) → v20 39 = (v 39) → ((0 : Int) ≤ l3_20.toInt ∧ l3_20.toInt ≤ 2147483647) → KV [] v20 v → KF [7, 8, 24] f20 f → (2147483647 - l3_20.toInt).toNat < n20 → ∀ (H : Heap) (locs : List Loc) (ls : Array Slot), va_P (dC, dI) vwCl (YW cy y0 r v20 f20 w20 g20) H → va_D A (YW cy y0 r v20 f20 w20 g20) → va_S A s.heap H locs → lv_has ls 4 [(3, .int l3_20), (2, .int t19), (0, .ref y0), (1, .int p1)] → W p l e { frames := 7, cells := 0, slots := 0, locals := 191 } s m ([.ref y0, .int p1] : List Value).toArray below meth c H locs 0 0 Q (F0 m 171 ls []) := by
                intro n20
                induction n20 with
                | zero => intro l3_20 v20 f20 w20 g20 hIv20 hCf20 hRf20 hq0_v20 hq1_v20 hq2_v20 hq3_v20 hq4_v20 hq5_v20 hq8_v20 hq9_v20 hq10_v20 hq13_v20 hq14_v20 hq15_v20 hq17_v20 hq18_v20 hq24_v20 hq25_v20 hq35_v20 hq36_v20 hq38_v20 hq39_v20 hr3_20 hM_v20 hA_f20 hm; exact absurd hm (Nat.not_lt_zero _)
                | succ n20 ih20 =>
                  intro l3_20 v20 f20 w20 g20 hIv20 hCf20 hRf20 hq0_v20 hq1_v20 hq2_v20 hq3_v20 hq4_v20 hq5_v20 hq8_v20 hq9_v20 hq10_v20 hq13_v20 hq14_v20 hq15_v20 hq17_v20 hq18_v20 hq24_v20 hq25_v20 hq35_v20 hq36_v20 hq38_v20 hq39_v20 hr3_20 hM_v20 hA_f20 hm20 H locs ls hP hD hS hl
                  have hUv20 : (v20 35).toInt + (v20 36).toInt ≤ 40 := hIv20.2
                  have zq9_v20 := congrArg Int32.toInt hq9_v20
                  refine lv_iload_n hx hb dX11_goDay_171 rfl (lv_at hl 0 rfl) ?_
                  refine lv_aload_n hx hb dX11_goDay_172 rfl (lv_at hl 2 rfl) ?_
                  refine va_get (D := (dC, dI)) (ci := 11) (v := .int (v20 24)) (C := RX11) (T := TX11) (N := 79) hx hb hts inB_11 hown hE.1 hP 0 rfl rfl 48 (Nat.le_of_ble_eq_true rfl) (hts _ k_1368) (fun _ h9 => h9) rfl dX11_goDay_173 ?_
                  refine tI (y := (v 24)) hq24_v20 ?_
                  have b24_v : 0 ≤ (v 24).toInt ∧ (v 24).toInt ≤ 6 := YIb.b hIv.1 24 (by decide)
                  refine lv_icmp_ge (tgt := 204) hx hb dX11_goDay_176 rfl (fun c21 => ?_) (fun c21 => ?_)
                  · skip
                    have zc21 : (v 24).toInt ≤ l3_20.toInt := by rw [fa_le] at c21; exact c21
                    have rg22 := fb_rng l3_20
                    refine lv_iload_n hx hb dX11_goDay_204 rfl (lv_at hl 1 rfl) ?_
                    exact ret t19 (v20, f20, w20, g20) _ _ _ _ _ _ rfl ⟨hM_v20, hA_f20, hIv20, hCf20, hRf20, hq0_v20, hq1_v20, hq2_v20, hq3_v20, hq4_v20, hq5_v20, hq8_v20, hq9_v20, hq10_v20, hq13_v20, hq14_v20, hq15_v20, hq17_v20, hq18_v20, hq24_v20, hq25_v20, hq35_v20, hq36_v20, hq38_v20, hq39_v20⟩ hP hD hS dX11_goDay_205 (Nat.le_refl _) (Nat.le_refl _)
                  · skip
                    have zc21 : ¬ ((v 24).toInt ≤ l3_20.toInt) := by rw [fa_le] at c21; exact c21
                    have rg23 := fb_rng l3_20
                    refine lv_iload_n hx hb dX11_goDay_179 rfl (lv_at hl 1 rfl) ?_
                    refine lv_iload_n hx hb dX11_goDay_180 rfl (lv_at hl 0 rfl) ?_
                    refine lv_ishr hx hb dX11_goDay_181 ?_
                    refine lv_topi (fun t24 et24 => ?_)
                    refine lv_iconst (v := 1) hx hb dX11_goDay_182 rfl ?_
                    refine lv_iand hx hb dX11_goDay_183 ?_
                    refine lv_topi (fun t25 et25 => ?_)
                    have zt25 : 0 ≤ t25.toInt ∧ t25.toInt < 2 := by rw [et25]; exact and_rng _ (k := 1) (by decide) (by decide)
                    refine lv_iconst (v := 1) hx hb dX11_goDay_184 rfl ?_
                    refine lv_icmp_ne (tgt := 198) hx hb dX11_goDay_185 rfl (fun c26 => ?_) (fun c26 => ?_)
                    · skip
                      have zc26 : ¬ (t25.toInt = 1) := by rw [fa_eq, show (1 : Int32).toInt = 1 from by decide] at c26; exact c26
                      obtain ⟨t27, et27⟩ : ∃ y : Int32, y = l3_20 + 1 := ⟨_, rfl⟩
                      have zt27 : t27.toInt = l3_20.toInt + 1 := by rw [et27]; exact add_i rfl (by decide) (by omega) (by omega)
                      refine lv_iinc (v := t27) (lv' := [(3, .int t27), (2, .int t19), (0, .ref y0), (1, .int p1)]) hx hb dX11_goDay_198 hl (k := 0) rfl (by rw [et27]; rfl) (by decide) rfl (fun ls hl => ?_)
                      refine lv_goto (tgt := 171) hx hb dX11_goDay_201 rfl ?_
                      have rg28 := fb_rng t27
                      exact ih20 t27 v20 f20 w20 g20 hIv20 hCf20 hRf20 hq0_v20 hq1_v20 hq2_v20 hq3_v20 hq4_v20 hq5_v20 hq8_v20 hq9_v20 hq10_v20 hq13_v20 hq14_v20 hq15_v20 hq17_v20 hq18_v20 hq24_v20 hq25_v20 hq35_v20 hq36_v20 hq38_v20 hq39_v20 ⟨show (0 : Int) ≤ t27.toInt by omega, show t27.toInt ≤ (2147483647 : Int) by omega⟩ hM_v20 hA_f20 (by show (2147483647 - t27.toInt).toNat < n20; omega) _ _ _ hP hD hS (lv_sub hl [0, 1, 2, 3] rfl)
                    · skip
                      have zc26 : t25.toInt = 1 := by rw [fa_eq, show (1 : Int32).toInt = 1 from by decide] at c26; exact c26
                      refine lv_aload_n hx hb dX11_goDay_188 rfl (lv_at hl 2 rfl) ?_
                      refine va_get (D := (dC, dI)) (ci := 11) (v := .ref (r 60)) (C := RX11) (T := TX11) (N := 79) hx hb hts inB_11 hown hE.1 hP 0 rfl rfl 60 (Nat.le_of_ble_eq_true rfl) (hts _ k_1380) (fun _ h9 => h9) rfl dX11_goDay_189 ?_
                      refine lv_bipush (v := 6) hx hb dX11_goDay_192 rfl ?_
                      refine lv_iload_n hx hb dX11_goDay_194 rfl (lv_at hl 0 rfl) ?_
                      refine lv_iadd hx hb dX11_goDay_195 ?_
                      refine lv_topi (fun t29 et29 => ?_)
                      have zt29 : t29.toInt = 6 + l3_20.toInt := by rw [et29]; exact add_i (by decide) rfl (by omega) (by omega)
                      refine lv_iconst (v := (-1)) hx hb dX11_goDay_196 rfl ?_
                      refine stI hx hb hE hP hD hS 25 rfl (vp_in_iff.mpr ⟨by omega, by omega⟩) rfl dX11_goDay_197 (fun H locs hP hD hS => ?_)
                      obtain ⟨f30, ef30, hP, hD⟩ : ∃ fz9, fz9 = upd2 f20 24 (upd (f20 24) t29.toNatClampNeg (-1)) ∧ va_P (dC, dI) vwCl (YW cy y0 r v20 fz9 w20 g20) H ∧ va_D A (YW cy y0 r v20 fz9 w20 g20) := ⟨_, rfl, hP, hD⟩
                      have hCf30 : YC f30 := by rw [ef30]; exact ⟨hCf20.1, (wear_st hCf20.2.1 (by have q9 : ((-1) : Int32).toInt = -1 := (by decide); show t29.toInt.toNat % 39 < 6 ∨ 12 ≤ t29.toInt.toNat % 39 ∨ (-1 ≤ ((-1) : Int32).toInt ∧ ((-1) : Int32).toInt ≤ 5); omega)), hCf20.2.2.1, hCf20.2.2.2.1, hCf20.2.2.2.2.1, hCf20.2.2.2.2.2⟩
                      have hRf30 : progOK (f30 4) (f30 5) (v20 9).toInt.toNat := by rw [ef30]; exact hRf20
                      have hA_f30 : KF [7, 8, 24] f30 f := by rw [ef30]; exact KF.up hA_f20 rfl
                      obtain ⟨t31, et31⟩ : ∃ y : Int32, y = l3_20 + 1 := ⟨_, rfl⟩
                      have zt31 : t31.toInt = l3_20.toInt + 1 := by rw [et31]; exact add_i rfl (by decide) (by omega) (by omega)
                      refine lv_iinc (v := t31) (lv' := [(3, .int t31), (2, .int t19), (0, .ref y0), (1, .int p1)]) hx hb dX11_goDay_198 hl (k := 0) rfl (by rw [et31]; rfl) (by decide) rfl (fun ls hl => ?_)
                      refine lv_goto (tgt := 171) hx hb dX11_goDay_201 rfl ?_
                      have rg32 := fb_rng t31
                      exact ih20 t31 v20 f30 w20 g20 hIv20 hCf30 hRf30 hq0_v20 hq1_v20 hq2_v20 hq3_v20 hq4_v20 hq5_v20 hq8_v20 hq9_v20 hq10_v20 hq13_v20 hq14_v20 hq15_v20 hq17_v20 hq18_v20 hq24_v20 hq25_v20 hq35_v20 hq36_v20 hq38_v20 hq39_v20 ⟨show (0 : Int) ≤ t31.toInt by omega, show t31.toInt ≤ (2147483647 : Int) by omega⟩ hM_v20 hA_f30 (by show (2147483647 - t31.toInt).toNat < n20; omega) _ _ _ hP hD hS (lv_sub hl [0, 1, 2, 3] rfl)
              exact lp20 _ 0 v14 f15 w16 g17 hIv14 hCf15 hRf15 hq0_v14 hq1_v14 hq2_v14 hq3_v14 hq4_v14 hq5_v14 hq8_v14 hq9_v14 hq10_v14 hq13_v14 hq14_v14 hq15_v14 hq17_v14 hq18_v14 hq24_v14 hq25_v14 hq35_v14 hq36_v14 hq38_v14 hq39_v14 ⟨by decide, by decide⟩ hM_v14 hA_f15 (Nat.lt_succ_self _) _ _ _ hP hD hS (lv_sub hl [0, 1, 2, 3] rfl)
            · skip
              have zc6 : ¬ ((v 25).toInt ≤ l2_5.toInt) := by rw [fa_le] at c6; exact c6
              have rg33 := fb_rng l2_5
              have rg34 := fb_rng (v 25)
              refine lv_aload_n hx hb dX11_goDay_50 rfl (lv_at hl 1 rfl) ?_
              refine lv_iload_n hx hb dX11_goDay_51 rfl (lv_at hl 0 rfl) ?_
              refine cbVi (n := 1) (rest := []) hx hb hml hown hts hE hP hD hS hA (sY_X11_wearer_1 l dC dI cy y0 r l2_5 v5 f5 w5 g5 hIv5 hCf5 hRf5 ) k_1775 k_1777 k_76 k_114 k_1778 (by decide +kernel) ⟨Nat.le_of_ble_eq_true rfl, Nat.le_of_ble_eq_true rfl⟩ 0 11 rfl rfl (rfl) hl.1 rfl (Nat.le_of_ble_eq_true rfl) dX11_goDay_52 (fun r35 u H locs hw hP hD hS => ?_)
              refine lv_if_ge (tgt := 61) hx hb dX11_goDay_55 rfl (fun c36 => ?_) (fun c36 => ?_)
              · skip
                have zc36 : 0 ≤ r35.toInt := by rw [fa_le, show (0 : Int32).toInt = 0 from by decide] at c36; exact c36
                refine lv_aload_n hx hb dX11_goDay_61 rfl (lv_at hl 1 rfl) ?_
                refine va_get (D := (dC, dI)) (ci := 11) (v := .ref (r 60)) (C := RX11) (T := TX11) (N := 79) hx hb hts inB_11 hown hE.1 hP 0 rfl rfl 60 (Nat.le_of_ble_eq_true rfl) (hts _ k_1380) (fun _ h9 => h9) rfl dX11_goDay_62 ?_
                refine lv_bipush (v := 30) hx hb dX11_goDay_65 rfl ?_
                refine lv_iload_n hx hb dX11_goDay_67 rfl (lv_at hl 0 rfl) ?_
                refine lv_iadd hx hb dX11_goDay_68 ?_
                refine lv_topi (fun t37 et37 => ?_)
                have zt37 : t37.toInt = 30 + l2_5.toInt := by rw [et37]; exact add_i (by decide) rfl (by omega) (by omega)
                refine lv_bipush (v := 99) hx hb dX11_goDay_69 rfl ?_
                refine lv_aload_n hx hb dX11_goDay_71 rfl (lv_at hl 1 rfl) ?_
                refine va_get (D := (dC, dI)) (ci := 11) (v := .ref (r 60)) (C := RX11) (T := TX11) (N := 79) hx hb hts inB_11 hown hE.1 hP 0 rfl rfl 60 (Nat.le_of_ble_eq_true rfl) (hts _ k_1380) (fun _ h9 => h9) rfl dX11_goDay_72 ?_
                refine lv_bipush (v := 30) hx hb dX11_goDay_75 rfl ?_
                refine lv_iload_n hx hb dX11_goDay_77 rfl (lv_at hl 0 rfl) ?_
                refine lv_iadd hx hb dX11_goDay_78 ?_
                refine tI (y := t37) et37.symm ?_
                refine ldI hx hb hE hP 25 rfl (vp_in_iff.mpr ⟨by omega, by omega⟩) rfl rfl dX11_goDay_79 ?_
                refine lv_topi (fun t38 et38 => ?_)
                have zt38 : t37.toInt.toNat % 39 < 6 ∨ 12 ≤ t37.toInt.toNat % 39 ∨ (-1 ≤ t38.toInt ∧ t38.toInt ≤ 5) := by rw [et38]; exact wear_ld hCf5.2.1 (show t37.toInt.toNat < 39 by omega)
                refine lv_iconst (v := 1) hx hb dX11_goDay_80 rfl ?_
                refine lv_iadd hx hb dX11_goDay_81 ?_
                refine lv_topi (fun t39 et39 => ?_)
                have lt40 : (99 : Int32).toInt = 99 := by decide
                refine cbSi (n := 2) (rest := [.int t37, .ref (r 60)]) hx hb hml hown hts hE hP hD hS hA (sY_X11_lesser_1 l dC dI cy y0 r 99 t39 v5 f5 w5 g5 hIv5 hCf5 hRf5 ) k_1799 k_1800 k_114 k_1801 (by decide +kernel) ⟨Nat.le_of_ble_eq_true rfl, Nat.le_of_ble_eq_true rfl⟩ (rfl) hl.1 rfl (Nat.le_of_ble_eq_true rfl) dX11_goDay_82 (fun r41 u H locs hw hP hD hS => ?_)
                obtain ⟨pp42, pp43⟩ := hw
                have pp42 : r41.toInt ≤ (99 : Int32).toInt := pp42
                have pp43 : r41.toInt ≤ t39.toInt := pp43
                refine stI hx hb hE hP hD hS 25 rfl (vp_in_iff.mpr ⟨by omega, by omega⟩) rfl dX11_goDay_85 (fun H locs hP hD hS => ?_)
                obtain ⟨f44, ef44, hP, hD⟩ : ∃ fz9, fz9 = upd2 f5 24 (upd (f5 24) t37.toNatClampNeg r41) ∧ va_P (dC, dI) vwCl (YW cy y0 r v5 fz9 w5 g5) H ∧ va_D A (YW cy y0 r v5 fz9 w5 g5) := ⟨_, rfl, hP, hD⟩
                have hCf44 : YC f44 := by rw [ef44]; exact ⟨hCf5.1, (wear_st hCf5.2.1 (by show t37.toInt.toNat % 39 < 6 ∨ 12 ≤ t37.toInt.toNat % 39 ∨ (-1 ≤ r41.toInt ∧ r41.toInt ≤ 5); omega)), hCf5.2.2.1, hCf5.2.2.2.1, hCf5.2.2.2.2.1, hCf5.2.2.2.2.2⟩
                have hRf44 : progOK (f44 4) (f44 5) (v5 9).toInt.toNat := by rw [ef44]; exact hRf5
                have hA_f44 : KF [7, 8, 24] f44 f := by rw [ef44]; exact KF.up hA_f5 rfl
                refine lv_aload_n hx hb dX11_goDay_86 rfl (lv_at hl 1 rfl) ?_
                refine va_get (D := (dC, dI)) (ci := 11) (v := .ref (r 60)) (C := RX11) (T := TX11) (N := 79) hx hb hts inB_11 hown hE.1 hP 0 rfl rfl 60 (Nat.le_of_ble_eq_true rfl) (hts _ k_1380) (fun _ h9 => h9) rfl dX11_goDay_87 ?_
                refine lv_bipush (v := 12) hx hb dX11_goDay_90 rfl ?_
                refine lv_iload_n hx hb dX11_goDay_92 rfl (lv_at hl 0 rfl) ?_
                refine lv_iadd hx hb dX11_goDay_93 ?_
                refine lv_topi (fun t45 et45 => ?_)
                have zt45 : t45.toInt = 12 + l2_5.toInt := by rw [et45]; exact add_i (by decide) rfl (by omega) (by omega)
                refine lv_iconst (v := 0) hx hb dX11_goDay_94 rfl ?_
                refine lv_aload_n hx hb dX11_goDay_95 rfl (lv_at hl 1 rfl) ?_
                refine va_get (D := (dC, dI)) (ci := 11) (v := .ref (r 60)) (C := RX11) (T := TX11) (N := 79) hx hb hts inB_11 hown hE.1 hP 0 rfl rfl 60 (Nat.le_of_ble_eq_true rfl) (hts _ k_1380) (fun _ h9 => h9) rfl dX11_goDay_96 ?_
                refine lv_bipush (v := 12) hx hb dX11_goDay_99 rfl ?_
                refine lv_iload_n hx hb dX11_goDay_101 rfl (lv_at hl 0 rfl) ?_
                refine lv_iadd hx hb dX11_goDay_102 ?_
                refine tI (y := t45) et45.symm ?_
                refine ldI hx hb hE hP 25 rfl (vp_in_iff.mpr ⟨by omega, by omega⟩) rfl rfl dX11_goDay_103 ?_
                refine lv_topi (fun t46 et46 => ?_)
                have zt46 : t45.toInt.toNat % 39 < 6 ∨ 12 ≤ t45.toInt.toNat % 39 ∨ (-1 ≤ t46.toInt ∧ t46.toInt ≤ 5) := by rw [et46]; exact wear_ld hCf44.2.1 (show t45.toInt.toNat < 39 by omega)
                refine lv_iload_n hx hb dX11_goDay_104 rfl (lv_at hl 2 rfl) ?_
                refine cbSi (n := 1) (rest := [.int t46, .int 0, .int t45, .ref (r 60)]) hx hb hml hown hts hE hP hD hS hA (sY_X11_truth_1 l dC dI cy y0 r p1 v5 f44 w5 g5 hIv5 hCf44 hRf44 ) k_1761 k_1762 k_114 k_1763 (by decide +kernel) ⟨Nat.le_of_ble_eq_true rfl, Nat.le_of_ble_eq_true rfl⟩ (rfl) hl.1 rfl (Nat.le_of_ble_eq_true rfl) dX11_goDay_105 (fun r47 u H locs hw hP hD hS => ?_)
                refine lv_isub hx hb dX11_goDay_108 ?_
                refine lv_topi (fun t48 et48 => ?_)
                refine cbSi (n := 2) (rest := [.int t45, .ref (r 60)]) hx hb hml hown hts hE hP hD hS hA (sY_X11_greater_1 l dC dI cy y0 r 0 t48 v5 f44 w5 g5 hIv5 hCf44 hRf44 ) k_1802 k_1803 k_114 k_1804 (by decide +kernel) ⟨Nat.le_of_ble_eq_true rfl, Nat.le_of_ble_eq_true rfl⟩ (rfl) hl.1 rfl (Nat.le_of_ble_eq_true rfl) dX11_goDay_109 (fun r49 u H locs hw hP hD hS => ?_)
                refine stI hx hb hE hP hD hS 25 rfl (vp_in_iff.mpr ⟨by omega, by omega⟩) rfl dX11_goDay_112 (fun H locs hP hD hS => ?_)
                obtain ⟨f50, ef50, hP, hD⟩ : ∃ fz9, fz9 = upd2 f44 24 (upd (f44 24) t45.toNatClampNeg r49) ∧ va_P (dC, dI) vwCl (YW cy y0 r v5 fz9 w5 g5) H ∧ va_D A (YW cy y0 r v5 fz9 w5 g5) := ⟨_, rfl, hP, hD⟩
                have hCf50 : YC f50 := by rw [ef50]; exact ⟨hCf44.1, (wear_st hCf44.2.1 (by show t45.toInt.toNat % 39 < 6 ∨ 12 ≤ t45.toInt.toNat % 39 ∨ (-1 ≤ r49.toInt ∧ r49.toInt ≤ 5); omega)), hCf44.2.2.1, hCf44.2.2.2.1, hCf44.2.2.2.2.1, hCf44.2.2.2.2.2⟩
                have hRf50 : progOK (f50 4) (f50 5) (v5 9).toInt.toNat := by rw [ef50]; exact hRf44
                have hA_f50 : KF [7, 8, 24] f50 f := by rw [ef50]; exact KF.up hA_f44 rfl
                refine lv_aload_n hx hb dX11_goDay_113 rfl (lv_at hl 1 rfl) ?_
                refine va_get (D := (dC, dI)) (ci := 11) (v := .ref (r 60)) (C := RX11) (T := TX11) (N := 79) hx hb hts inB_11 hown hE.1 hP 0 rfl rfl 60 (Nat.le_of_ble_eq_true rfl) (hts _ k_1380) (fun _ h9 => h9) rfl dX11_goDay_114 ?_
                refine lv_bipush (v := 18) hx hb dX11_goDay_117 rfl ?_
                refine lv_iload_n hx hb dX11_goDay_119 rfl (lv_at hl 0 rfl) ?_
                refine lv_iadd hx hb dX11_goDay_120 ?_
                refine lv_topi (fun t51 et51 => ?_)
                have zt51 : t51.toInt = 18 + l2_5.toInt := by rw [et51]; exact add_i (by decide) rfl (by omega) (by omega)
                refine lv_iconst (v := 0) hx hb dX11_goDay_121 rfl ?_
                refine lv_aload_n hx hb dX11_goDay_122 rfl (lv_at hl 1 rfl) ?_
                refine va_get (D := (dC, dI)) (ci := 11) (v := .ref (r 60)) (C := RX11) (T := TX11) (N := 79) hx hb hts inB_11 hown hE.1 hP 0 rfl rfl 60 (Nat.le_of_ble_eq_true rfl) (hts _ k_1380) (fun _ h9 => h9) rfl dX11_goDay_123 ?_
                refine lv_bipush (v := 18) hx hb dX11_goDay_126 rfl ?_
                refine lv_iload_n hx hb dX11_goDay_128 rfl (lv_at hl 0 rfl) ?_
                refine lv_iadd hx hb dX11_goDay_129 ?_
                refine tI (y := t51) et51.symm ?_
                refine ldI hx hb hE hP 25 rfl (vp_in_iff.mpr ⟨by omega, by omega⟩) rfl rfl dX11_goDay_130 ?_
                refine lv_topi (fun t52 et52 => ?_)
                have zt52 : t51.toInt.toNat % 39 < 6 ∨ 12 ≤ t51.toInt.toNat % 39 ∨ (-1 ≤ t52.toInt ∧ t52.toInt ≤ 5) := by rw [et52]; exact wear_ld hCf50.2.1 (show t51.toInt.toNat < 39 by omega)
                refine lv_iload_n hx hb dX11_goDay_131 rfl (lv_at hl 2 rfl) ?_
                refine cbSi (n := 1) (rest := [.int t52, .int 0, .int t51, .ref (r 60)]) hx hb hml hown hts hE hP hD hS hA (sY_X11_truth_1 l dC dI cy y0 r p1 v5 f50 w5 g5 hIv5 hCf50 hRf50 ) k_1761 k_1762 k_114 k_1763 (by decide +kernel) ⟨Nat.le_of_ble_eq_true rfl, Nat.le_of_ble_eq_true rfl⟩ (rfl) hl.1 rfl (Nat.le_of_ble_eq_true rfl) dX11_goDay_132 (fun r53 u H locs hw hP hD hS => ?_)
                refine lv_isub hx hb dX11_goDay_135 ?_
                refine lv_topi (fun t54 et54 => ?_)
                refine cbSi (n := 2) (rest := [.int t51, .ref (r 60)]) hx hb hml hown hts hE hP hD hS hA (sY_X11_greater_1 l dC dI cy y0 r 0 t54 v5 f50 w5 g5 hIv5 hCf50 hRf50 ) k_1802 k_1803 k_114 k_1804 (by decide +kernel) ⟨Nat.le_of_ble_eq_true rfl, Nat.le_of_ble_eq_true rfl⟩ (rfl) hl.1 rfl (Nat.le_of_ble_eq_true rfl) dX11_goDay_136 (fun r55 u H locs hw hP hD hS => ?_)
                refine stI hx hb hE hP hD hS 25 rfl (vp_in_iff.mpr ⟨by omega, by omega⟩) rfl dX11_goDay_139 (fun H locs hP hD hS => ?_)
                obtain ⟨f56, ef56, hP, hD⟩ : ∃ fz9, fz9 = upd2 f50 24 (upd (f50 24) t51.toNatClampNeg r55) ∧ va_P (dC, dI) vwCl (YW cy y0 r v5 fz9 w5 g5) H ∧ va_D A (YW cy y0 r v5 fz9 w5 g5) := ⟨_, rfl, hP, hD⟩
                have hCf56 : YC f56 := by rw [ef56]; exact ⟨hCf50.1, (wear_st hCf50.2.1 (by show t51.toInt.toNat % 39 < 6 ∨ 12 ≤ t51.toInt.toNat % 39 ∨ (-1 ≤ r55.toInt ∧ r55.toInt ≤ 5); omega)), hCf50.2.2.1, hCf50.2.2.2.1, hCf50.2.2.2.2.1, hCf50.2.2.2.2.2⟩
                have hRf56 : progOK (f56 4) (f56 5) (v5 9).toInt.toNat := by rw [ef56]; exact hRf50
                have hA_f56 : KF [7, 8, 24] f56 f := by rw [ef56]; exact KF.up hA_f50 rfl
                obtain ⟨t57, et57⟩ : ∃ y : Int32, y = l2_5 + 1 := ⟨_, rfl⟩
                have zt57 : t57.toInt = l2_5.toInt + 1 := by rw [et57]; exact add_i rfl (by decide) (by omega) (by omega)
                refine lv_iinc (v := t57) (lv' := [(2, .int t57), (0, .ref y0), (1, .int p1)]) hx hb dX11_goDay_140 hl (k := 0) rfl (by rw [et57]; rfl) (by decide) rfl (fun ls hl => ?_)
                refine lv_goto (tgt := 42) hx hb dX11_goDay_143 rfl ?_
                have rg58 := fb_rng t57
                exact ih5 t57 v5 f56 w5 g5 hIv5 hCf56 hRf56 hq0_v5 hq1_v5 hq2_v5 hq3_v5 hq4_v5 hq5_v5 hq8_v5 hq9_v5 hq10_v5 hq13_v5 hq14_v5 hq15_v5 hq17_v5 hq18_v5 hq24_v5 hq25_v5 hq35_v5 hq36_v5 hq38_v5 hq39_v5 ⟨show (0 : Int) ≤ t57.toInt by omega, show t57.toInt ≤ (2147483647 : Int) by omega⟩ hM_v5 hA_f56 (by show (2147483647 - t57.toInt).toNat < n5; omega) _ _ _ hP hD hS (lv_sub hl [0, 1, 2] rfl)
              · skip
                have zc36 : ¬ (0 ≤ r35.toInt) := by rw [fa_le, show (0 : Int32).toInt = 0 from by decide] at c36; exact c36
                refine lv_goto (tgt := 140) hx hb dX11_goDay_58 rfl ?_
                obtain ⟨t59, et59⟩ : ∃ y : Int32, y = l2_5 + 1 := ⟨_, rfl⟩
                have zt59 : t59.toInt = l2_5.toInt + 1 := by rw [et59]; exact add_i rfl (by decide) (by omega) (by omega)
                refine lv_iinc (v := t59) (lv' := [(2, .int t59), (0, .ref y0), (1, .int p1)]) hx hb dX11_goDay_140 hl (k := 0) rfl (by rw [et59]; rfl) (by decide) rfl (fun ls hl => ?_)
                refine lv_goto (tgt := 42) hx hb dX11_goDay_143 rfl ?_
                have rg60 := fb_rng t59
                exact ih5 t59 v5 f5 w5 g5 hIv5 hCf5 hRf5 hq0_v5 hq1_v5 hq2_v5 hq3_v5 hq4_v5 hq5_v5 hq8_v5 hq9_v5 hq10_v5 hq13_v5 hq14_v5 hq15_v5 hq17_v5 hq18_v5 hq24_v5 hq25_v5 hq35_v5 hq36_v5 hq38_v5 hq39_v5 ⟨show (0 : Int) ≤ t59.toInt by omega, show t59.toInt ≤ (2147483647 : Int) by omega⟩ hM_v5 hA_f5 (by show (2147483647 - t59.toInt).toNat < n5; omega) _ _ _ hP hD hS (lv_sub hl [0, 1, 2] rfl)
        exact lp5 _ 0 v1 f1 w1 g1 hIv1 hCf1 hRf1 hq0_v1 hq1_v1 hq2_v1 hq3_v1 hq4_v1 hq5_v1 hq8_v1 hq9_v1 hq10_v1 hq13_v1 hq14_v1 hq15_v1 hq17_v1 hq18_v1 hq24_v1 hq25_v1 hq35_v1 hq36_v1 hq38_v1 hq39_v1 ⟨by decide, by decide⟩ hM_v1 hA_f1 (Nat.lt_succ_self _) _ _ _ hP hD hS (lv_sub hl [0, 1, 2] rfl)
      · skip
        have zc2 : ¬ ((v 24).toInt ≤ l2_1.toInt) := by rw [fa_le] at c2; exact c2
        have rg61 := fb_rng l2_1
        have rg62 := fb_rng (v 24)
        refine lv_aload_n hx hb dX11_goDay_10 rfl (lv_at hl 1 rfl) ?_
        refine va_get (D := (dC, dI)) (ci := 11) (v := .ref (r 60)) (C := RX11) (T := TX11) (N := 79) hx hb hts inB_11 hown hE.1 hP 0 rfl rfl 60 (Nat.le_of_ble_eq_true rfl) (hts _ k_1380) (fun _ h9 => h9) rfl dX11_goDay_11 ?_
        refine lv_iload_n hx hb dX11_goDay_14 rfl (lv_at hl 0 rfl) ?_
        refine lv_bipush (v := 99) hx hb dX11_goDay_15 rfl ?_
        refine lv_aload_n hx hb dX11_goDay_17 rfl (lv_at hl 1 rfl) ?_
        refine va_get (D := (dC, dI)) (ci := 11) (v := .ref (r 60)) (C := RX11) (T := TX11) (N := 79) hx hb hts inB_11 hown hE.1 hP 0 rfl rfl 60 (Nat.le_of_ble_eq_true rfl) (hts _ k_1380) (fun _ h9 => h9) rfl dX11_goDay_18 ?_
        refine lv_iload_n hx hb dX11_goDay_21 rfl (lv_at hl 0 rfl) ?_
        refine ldI hx hb hE hP 25 rfl (vp_in_iff.mpr ⟨by omega, by omega⟩) rfl rfl dX11_goDay_22 ?_
        refine lv_topi (fun t63 et63 => ?_)
        have zt63 : l2_1.toInt.toNat % 39 < 6 ∨ 12 ≤ l2_1.toInt.toNat % 39 ∨ (-1 ≤ t63.toInt ∧ t63.toInt ≤ 5) := by rw [et63]; exact wear_ld hCf1.2.1 (show l2_1.toInt.toNat < 39 by omega)
        refine lv_aload_n hx hb dX11_goDay_23 rfl (lv_at hl 1 rfl) ?_
        refine va_get (D := (dC, dI)) (ci := 11) (v := .ref (r 36)) (C := RX11) (T := TX11) (N := 79) hx hb hts inB_11 hown hE.1 hP 0 rfl rfl 36 (Nat.le_of_ble_eq_true rfl) (hts _ k_1356) (fun _ h9 => h9) rfl dX11_goDay_24 ?_
        refine lv_iload_n hx hb dX11_goDay_27 rfl (lv_at hl 0 rfl) ?_
        refine ldI hx hb hE hP 19 rfl (vp_in_iff.mpr ⟨by omega, by omega⟩) rfl rfl dX11_goDay_28 ?_
        refine lv_topi (fun t64 et64 => ?_)
        refine lv_iadd hx hb dX11_goDay_29 ?_
        refine lv_topi (fun t65 et65 => ?_)
        have lt66 : (99 : Int32).toInt = 99 := by decide
        refine cbSi (n := 2) (rest := [.int l2_1, .ref (r 60)]) hx hb hml hown hts hE hP hD hS hA (sY_X11_lesser_1 l dC dI cy y0 r 99 t65 v1 f1 w1 g1 hIv1 hCf1 hRf1 ) k_1799 k_1800 k_114 k_1801 (by decide +kernel) ⟨Nat.le_of_ble_eq_true rfl, Nat.le_of_ble_eq_true rfl⟩ (rfl) hl.1 rfl (Nat.le_of_ble_eq_true rfl) dX11_goDay_30 (fun r67 u H locs hw hP hD hS => ?_)
        obtain ⟨pp68, pp69⟩ := hw
        have pp68 : r67.toInt ≤ (99 : Int32).toInt := pp68
        have pp69 : r67.toInt ≤ t65.toInt := pp69
        refine stI hx hb hE hP hD hS 25 rfl (vp_in_iff.mpr ⟨by omega, by omega⟩) rfl dX11_goDay_33 (fun H locs hP hD hS => ?_)
        obtain ⟨f70, ef70, hP, hD⟩ : ∃ fz9, fz9 = upd2 f1 24 (upd (f1 24) l2_1.toNatClampNeg r67) ∧ va_P (dC, dI) vwCl (YW cy y0 r v1 fz9 w1 g1) H ∧ va_D A (YW cy y0 r v1 fz9 w1 g1) := ⟨_, rfl, hP, hD⟩
        have hCf70 : YC f70 := by rw [ef70]; exact ⟨hCf1.1, (wear_st hCf1.2.1 (by show l2_1.toInt.toNat % 39 < 6 ∨ 12 ≤ l2_1.toInt.toNat % 39 ∨ (-1 ≤ r67.toInt ∧ r67.toInt ≤ 5); omega)), hCf1.2.2.1, hCf1.2.2.2.1, hCf1.2.2.2.2.1, hCf1.2.2.2.2.2⟩
        have hRf70 : progOK (f70 4) (f70 5) (v1 9).toInt.toNat := by rw [ef70]; exact hRf1
        have hA_f70 : KF [7, 8, 24] f70 f := by rw [ef70]; exact KF.up hA_f1 rfl
        obtain ⟨t71, et71⟩ : ∃ y : Int32, y = l2_1 + 1 := ⟨_, rfl⟩
        have zt71 : t71.toInt = l2_1.toInt + 1 := by rw [et71]; exact add_i rfl (by decide) (by omega) (by omega)
        refine lv_iinc (v := t71) (lv' := [(2, .int t71), (0, .ref y0), (1, .int p1)]) hx hb dX11_goDay_34 hl (k := 0) rfl (by rw [et71]; rfl) (by decide) rfl (fun ls hl => ?_)
        refine lv_goto (tgt := 2) hx hb dX11_goDay_37 rfl ?_
        have rg72 := fb_rng t71
        exact ih1 t71 v1 f70 w1 g1 hIv1 hCf70 hRf70 hq0_v1 hq1_v1 hq2_v1 hq3_v1 hq4_v1 hq5_v1 hq8_v1 hq9_v1 hq10_v1 hq13_v1 hq14_v1 hq15_v1 hq17_v1 hq18_v1 hq24_v1 hq25_v1 hq35_v1 hq36_v1 hq38_v1 hq39_v1 ⟨show (0 : Int) ≤ t71.toInt by omega, show t71.toInt ≤ (2147483647 : Int) by omega⟩ hM_v1 hA_f70 (by show (2147483647 - t71.toInt).toNat < n1; omega) _ _ _ hP hD hS (lv_sub hl [0, 1, 2] rfl)
  exact lp1 _ 0 v f w g hIv hCf hRf rfl rfl rfl rfl rfl rfl rfl rfl rfl rfl rfl rfl rfl rfl rfl rfl rfl rfl rfl rfl ⟨by decide, by decide⟩ hM_v hA_f (Nat.lt_succ_self _) _ _ _ hP hD hS (lv_sub hl [0, 1, 2] rfl)
