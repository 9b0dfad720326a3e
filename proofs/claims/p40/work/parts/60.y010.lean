set_option maxHeartbeats 4000000 in
set_option maxRecDepth 100000 in
theorem sY_X11_isIn_1 (NF : Nat) (l : Launch) (dC : Nat → ClassId) (dI : Nat → Nat → Nat) (cy : Nat → ClassId) (y0 : Nat) (r : Nat → Nat) (p0 : Int32) (p1 : Int32) (p2 : Int32) (v : Nat → Int32) (f : Nat → Nat → Int32) (w : Int64) (g : Nat → Int64) (hIv : YI v) (hCf : YC f) (hRf : progOK (f 4) (f 5) (v 9).toInt.toNat)  : ctI l (dC, dI) cy yX11_isIn cX11_isIn 3 .boolean 1 60 0 0 Unit [.int p0, .int p1, .int p2] (YW cy y0 r v f w g) (fun r u => gsY_X11_isIn_1 NF p0 p1 p2 v f w g = r ∧ ((r = 1 ∧ p1.toInt ≤ p0.toInt ∧ p0.toInt ≤ p2.toInt) ∨ (r = 0))) (fun u => YW cy y0 r v f w g) := by
  refine ctI_of (by decide) (Nat.le_of_ble_eq_true rfl) (fun p e s m below meth c A ls Q hx hb hml hts hown hE hP hD hA hl ret => ?_)
  have hUv : (v 35).toInt + (v 36).toInt ≤ 40 := hIv.2
  have hown : s.vm.findClass RX11 = some m.cls := hown
  have hS : va_S A s.heap s.heap [] := va_S.rf
  have hl : lv_has ls 3 [(0, .int p0), (1, .int p1), (2, .int p2)] := hl
  refine lv_iload_n hx hb dX11_isIn_0 rfl (lv_at hl 0 rfl) ?_
  refine lv_iload_n hx hb dX11_isIn_1 rfl (lv_at hl 1 rfl) ?_
  refine lv_icmp_lt (tgt := 14) hx hb dX11_isIn_2 (by decide) (fun c1 => ?_) (fun c1 => ?_)
  · skip
    have zc1 : p0.toInt < p1.toInt := by rw [fa_lt] at c1; exact c1
    have rg2 := fb_rng p0
    have rg3 := fb_rng p1
    refine lv_iconst (v := 0) hx hb dX11_isIn_14 (by decide) ?_
    exact ret 0 () _ _ _ _ _ _ rfl ⟨(gsY_X11_isIn_1_q0 c1), (Or.inr rfl)⟩ hP hD hS dX11_isIn_15 (Nat.le_refl _) (Nat.le_refl _)
  · skip
    have zc1 : ¬ (p0.toInt < p1.toInt) := by rw [fa_lt] at c1; exact c1
    have rg4 := fb_rng p0
    have rg5 := fb_rng p1
    refine lv_iload_n hx hb dX11_isIn_5 rfl (lv_at hl 0 rfl) ?_
    refine lv_iload_n hx hb dX11_isIn_6 rfl (lv_at hl 2 rfl) ?_
    refine lv_icmp_gt (tgt := 14) hx hb dX11_isIn_7 (by decide) (fun c6 => ?_) (fun c6 => ?_)
    · skip
      have zc6 : p2.toInt < p0.toInt := by rw [fa_lt] at c6; exact c6
      have rg7 := fb_rng p2
      refine lv_iconst (v := 0) hx hb dX11_isIn_14 (by decide) ?_
      exact ret 0 () _ _ _ _ _ _ rfl ⟨(gsY_X11_isIn_1_q1 c1 c6), (Or.inr rfl)⟩ hP hD hS dX11_isIn_15 (Nat.le_refl _) (Nat.le_refl _)
    · skip
      have zc6 : ¬ (p2.toInt < p0.toInt) := by rw [fa_lt] at c6; exact c6
      have rg8 := fb_rng p2
      refine lv_iconst (v := 1) hx hb dX11_isIn_10 (by decide) ?_
      refine lv_goto (tgt := 15) hx hb dX11_isIn_11 (by decide) ?_
      exact ret 1 () _ _ _ _ _ _ rfl ⟨(gsY_X11_isIn_1_q2 c1 c6), (Or.inl ⟨rfl, by omega, by omega⟩)⟩ hP hD hS dX11_isIn_15 (Nat.le_refl _) (Nat.le_refl _)
set_option maxHeartbeats 4000000 in
set_option maxRecDepth 100000 in
theorem sY_X11_seen_1 (NF : Nat) (l : Launch) (dC : Nat → ClassId) (dI : Nat → Nat → Nat) (cy : Nat → ClassId) (y0 : Nat) (r : Nat → Nat) (p1 : Int32) (p2 : Int32) (v : Nat → Int32) (f : Nat → Nat → Int32) (w : Int64) (g : Nat → Int64) (hIv : YI v) (hCf : YC f) (hRf : progOK (f 4) (f 5) (v 9).toInt.toNat)  : ctI l (dC, dI) cy yX11_seen cX11_seen 3 .int 2 82 0 0 ((Nat → Int32) × (Nat → Nat → Int32) × (Int64) × (Nat → Int64)) [.ref y0, .int p1, .int p2] (YW cy y0 r v f w g) (fun r u => gsY_X11_seen_1 NF p1 p2 v f w g = (r, u) ∧ KV [38] u.1 v ∧ KF [30, 31, 32, 33] u.2.1 f ∧ YI u.1 ∧ YC u.2.1 ∧ progOK (u.2.1 4) (u.2.1 5) (u.1 9).toInt.toNat ∧ u.1 0 = v 0 ∧ u.1 1 = v 1 ∧ u.1 2 = v 2 ∧ u.1 3 = v 3 ∧ u.1 4 = v 4 ∧ u.1 5 = v 5 ∧ u.1 8 = v 8 ∧ u.1 9 = v 9 ∧ u.1 10 = v 10 ∧ u.1 13 = v 13 ∧ u.1 14 = v 14 ∧ u.1 15 = v 15 ∧ u.1 17 = v 17 ∧ u.1 18 = v 18 ∧ u.1 24 = v 24 ∧ u.1 25 = v 25 ∧ u.1 35 = v 35 ∧ u.1 36 = v 36 ∧ u.1 39 = v 39) (fun u => YW cy y0 r u.1 u.2.1 u.2.2.1 u.2.2.2) := by
  refine ctI_of (by decide) (Nat.le_of_ble_eq_true rfl) (fun p e s m below meth c A ls Q hx hb hml hts hown hE hP hD hA hl ret => ?_)
  have hUv : (v 35).toInt + (v 36).toInt ≤ 40 := hIv.2
  have hM_v : KV [38] v v := fun _ _ => rfl
  have hA_f : KF [30, 31, 32, 33] f f := fun _ _ => rfl
  have hown : s.vm.findClass RX11 = some m.cls := hown
  have hS : va_S A s.heap s.heap [] := va_S.rf
  have hl : lv_has ls 3 [(0, .ref y0), (1, .int p1), (2, .int p2)] := hl
  refine lv_iload_n hx hb dX11_seen_0 rfl (lv_at hl 1 rfl) ?_
  refine lv_iconst (v := 0) hx hb dX11_seen_1 (by decide) ?_
  refine lv_bipush (v := 20) hx hb dX11_seen_2 (by decide) ?_
  have lt1 : (0 : Int32).toInt = 0 := by decide
  have lt2 : (20 : Int32).toInt = 20 := by decide
  refine cbSi (n := 3) (rest := []) hx hb hml hown hts hE hP hD hS hA (sY_X11_isIn_1 NF l dC dI cy y0 r p1 0 20 v f w g hIv hCf hRf ) k_1736 k_1737 k_114 k_1738 (by decide +kernel) ⟨Nat.le_of_ble_eq_true rfl, Nat.le_of_ble_eq_true rfl⟩ (rfl) hl.1 rfl (Nat.le_of_ble_eq_true rfl) dX11_seen_4 (fun r3 u H locs hw hP hD hS => ?_)
  obtain ⟨hG4, hw⟩ := hw
  rcases hw with ⟨g5, g5_0, g5_1⟩ | ⟨g5⟩
  · skip
    subst g5
    refine lv_if_eq (tgt := 33) hx hb dX11_seen_7 (by decide) (fun c0 => absurd c0 (by decide)) (fun _ => ?_)
    refine lv_aload_n hx hb dX11_seen_10 rfl (lv_at hl 0 rfl) ?_
    refine va_get (D := (dC, dI)) (ci := 11) (v := .int (v 24)) (C := RX11) (T := TX11) (N := 79) hx hb hts inB_11 hown hE.1 hP 0 rfl rfl 48 (by decide) (hts _ k_1368) (fun _ h9 => h9) rfl dX11_seen_11 ?_
    have b24_v : 0 ≤ (v 24).toInt ∧ (v 24).toInt ≤ 6 := YIb.b hIv.1 24 (by decide)
    refine lv_if_eq (tgt := 33) hx hb dX11_seen_14 (by decide) (fun c6 => ?_) (fun c6 => ?_)
    · skip
      have zc6 : (v 24).toInt = 0 := by rw [fa_eq, show (0 : Int32).toInt = 0 from by decide] at c6; exact c6
      refine lv_iconst (v := (-1)) hx hb dX11_seen_33 (by decide) ?_
      exact ret (-1) (v, f, w, g) _ _ _ _ _ _ rfl ⟨(gsY_X11_seen_1_q0 hG4 c6), hM_v, hA_f, hIv, hCf, hRf, rfl, rfl, rfl, rfl, rfl, rfl, rfl, rfl, rfl, rfl, rfl, rfl, rfl, rfl, rfl, rfl, rfl, rfl, rfl⟩ hP hD hS dX11_seen_34 (Nat.le_refl _) (Nat.le_refl _)
    · skip
      have zc6 : ¬ ((v 24).toInt = 0) := by rw [fa_eq, show (0 : Int32).toInt = 0 from by decide] at c6; exact c6
      refine lv_aload_n hx hb dX11_seen_17 rfl (lv_at hl 0 rfl) ?_
      refine va_get (D := (dC, dI)) (ci := 11) (v := .int (v 25)) (C := RX11) (T := TX11) (N := 79) hx hb hts inB_11 hown hE.1 hP 0 rfl rfl 49 (by decide) (hts _ k_1369) (fun _ h9 => h9) rfl dX11_seen_18 ?_
      have b25_v : 0 ≤ (v 25).toInt ∧ (v 25).toInt ≤ 6 := YIb.b hIv.1 25 (by decide)
      refine lv_if_eq (tgt := 33) hx hb dX11_seen_21 (by decide) (fun c7 => ?_) (fun c7 => ?_)
      · skip
        have zc7 : (v 25).toInt = 0 := by rw [fa_eq, show (0 : Int32).toInt = 0 from by decide] at c7; exact c7
        refine lv_iconst (v := (-1)) hx hb dX11_seen_33 (by decide) ?_
        exact ret (-1) (v, f, w, g) _ _ _ _ _ _ rfl ⟨(gsY_X11_seen_1_q1 hG4 c6 c7), hM_v, hA_f, hIv, hCf, hRf, rfl, rfl, rfl, rfl, rfl, rfl, rfl, rfl, rfl, rfl, rfl, rfl, rfl, rfl, rfl, rfl, rfl, rfl, rfl⟩ hP hD hS dX11_seen_34 (Nat.le_refl _) (Nat.le_refl _)
      · skip
        have zc7 : ¬ ((v 25).toInt = 0) := by rw [fa_eq, show (0 : Int32).toInt = 0 from by decide] at c7; exact c7
        refine lv_aload_n hx hb dX11_seen_24 rfl (lv_at hl 0 rfl) ?_
        refine va_get (D := (dC, dI)) (ci := 11) (v := .int (v 38)) (C := RX11) (T := TX11) (N := 79) hx hb hts inB_11 hown hE.1 hP 0 rfl rfl 73 (by decide) (hts _ k_1393) (fun _ h9 => h9) rfl dX11_seen_25 ?_
        have b38_v : 0 ≤ (v 38).toInt ∧ (v 38).toInt ≤ 30 := YIb.b hIv.1 38 (by decide)
        refine lv_bipush (v := 30) hx hb dX11_seen_28 (by decide) ?_
        refine lv_icmp_ne (tgt := 35) hx hb dX11_seen_30 (by decide) (fun c8 => ?_) (fun c8 => ?_)
        · skip
          have zc8 : ¬ ((v 38).toInt = 30) := by rw [fa_eq, show (30 : Int32).toInt = 30 from by decide] at c8; exact c8
          refine lv_aload_n hx hb dX11_seen_35 rfl (lv_at hl 0 rfl) ?_
          refine va_get (D := (dC, dI)) (ci := 11) (v := .ref (r 69)) (C := RX11) (T := TX11) (N := 79) hx hb hts inB_11 hown hE.1 hP 0 rfl rfl 69 (by decide) (hts _ k_1389) (fun _ h9 => h9) rfl dX11_seen_36 ?_
          refine lv_aload_n hx hb dX11_seen_39 rfl (lv_at hl 0 rfl) ?_
          refine va_get (D := (dC, dI)) (ci := 11) (v := .int (v 38)) (C := RX11) (T := TX11) (N := 79) hx hb hts inB_11 hown hE.1 hP 0 rfl rfl 73 (by decide) (hts _ k_1393) (fun _ h9 => h9) rfl dX11_seen_40 ?_
          refine lv_iload_n hx hb dX11_seen_43 rfl (lv_at hl 1 rfl) ?_
          refine stI hx hb hE hP hD hS 31 rfl (vp_in_iff.mpr ⟨by omega, by omega⟩) rfl dX11_seen_44 (fun H locs hP hD hS => ?_)
          obtain ⟨f9, ef9, hP, hD⟩ : ∃ fz9, fz9 = upd2 f 30 (upd (f 30) (v 38).toNatClampNeg p1) ∧ va_P (dC, dI) vwCl (YW cy y0 r v fz9 w g) H ∧ va_D A (YW cy y0 r v fz9 w g) := ⟨_, rfl, hP, hD⟩
          have hCf9 : YC f9 := by rw [ef9]; exact ⟨hCf.1, hCf.2.1, hCf.2.2.1, hCf.2.2.2.1, (rng_st hCf.2.2.2.2.1 (by show 0 ≤ p1.toInt ∧ p1.toInt ≤ 20; omega)), hCf.2.2.2.2.2⟩
          have hRf9 : progOK (f9 4) (f9 5) (v 9).toInt.toNat := by rw [ef9]; exact hRf
          have hA_f9 : KF [30, 31, 32, 33] f9 f := by rw [ef9]; exact KF.up hA_f rfl
          refine lv_aload_n hx hb dX11_seen_45 rfl (lv_at hl 0 rfl) ?_
          refine va_get (D := (dC, dI)) (ci := 11) (v := .ref (r 72)) (C := RX11) (T := TX11) (N := 79) hx hb hts inB_11 hown hE.1 hP 0 rfl rfl 72 (by decide) (hts _ k_1392) (fun _ h9 => h9) rfl dX11_seen_46 ?_
          refine lv_aload_n hx hb dX11_seen_49 rfl (lv_at hl 0 rfl) ?_
          refine va_get (D := (dC, dI)) (ci := 11) (v := .int (v 38)) (C := RX11) (T := TX11) (N := 79) hx hb hts inB_11 hown hE.1 hP 0 rfl rfl 73 (by decide) (hts _ k_1393) (fun _ h9 => h9) rfl dX11_seen_50 ?_
          refine lv_iload_n hx hb dX11_seen_53 rfl (lv_at hl 2 rfl) ?_
          refine stZ hx hb hE hP hD hS 34 rfl (vp_in_iff.mpr ⟨by omega, by omega⟩) rfl dX11_seen_54 (fun H locs hP hD hS => ?_)
          obtain ⟨f10, ef10, hP, hD⟩ : ∃ fz9, fz9 = upd2 f9 33 (upd (f9 33) (v 38).toNatClampNeg (vp_nar .boolean p2)) ∧ va_P (dC, dI) vwCl (YW cy y0 r v fz9 w g) H ∧ va_D A (YW cy y0 r v fz9 w g) := ⟨_, rfl, hP, hD⟩
          have hCf10 : YC f10 := by rw [ef10]; exact hCf9
          have hRf10 : progOK (f10 4) (f10 5) (v 9).toInt.toNat := by rw [ef10]; exact hRf9
          have hA_f10 : KF [30, 31, 32, 33] f10 f := by rw [ef10]; exact KF.up hA_f9 rfl
          refine lv_aload_n hx hb dX11_seen_55 rfl (lv_at hl 0 rfl) ?_
          refine va_get (D := (dC, dI)) (ci := 11) (v := .ref (r 70)) (C := RX11) (T := TX11) (N := 79) hx hb hts inB_11 hown hE.1 hP 0 rfl rfl 70 (by decide) (hts _ k_1390) (fun _ h9 => h9) rfl dX11_seen_56 ?_
          refine lv_aload_n hx hb dX11_seen_59 rfl (lv_at hl 0 rfl) ?_
          refine va_get (D := (dC, dI)) (ci := 11) (v := .int (v 38)) (C := RX11) (T := TX11) (N := 79) hx hb hts inB_11 hown hE.1 hP 0 rfl rfl 73 (by decide) (hts _ k_1393) (fun _ h9 => h9) rfl dX11_seen_60 ?_
          refine lv_aload_n hx hb dX11_seen_63 rfl (lv_at hl 0 rfl) ?_
          refine va_get (D := (dC, dI)) (ci := 11) (v := .int (v 39)) (C := RX11) (T := TX11) (N := 79) hx hb hts inB_11 hown hE.1 hP 0 rfl rfl 74 (by decide) (hts _ k_1394) (fun _ h9 => h9) rfl dX11_seen_64 ?_
          have b39_v : 0 ≤ (v 39).toInt ∧ (v 39).toInt ≤ 100000 := YIb.b hIv.1 39 (by decide)
          refine stI hx hb hE hP hD hS 32 rfl (vp_in_iff.mpr ⟨by omega, by omega⟩) rfl dX11_seen_67 (fun H locs hP hD hS => ?_)
          obtain ⟨f11, ef11, hP, hD⟩ : ∃ fz9, fz9 = upd2 f10 31 (upd (f10 31) (v 38).toNatClampNeg (v 39)) ∧ va_P (dC, dI) vwCl (YW cy y0 r v fz9 w g) H ∧ va_D A (YW cy y0 r v fz9 w g) := ⟨_, rfl, hP, hD⟩
          have hCf11 : YC f11 := by rw [ef11]; exact hCf10
          have hRf11 : progOK (f11 4) (f11 5) (v 9).toInt.toNat := by rw [ef11]; exact hRf10
          have hA_f11 : KF [30, 31, 32, 33] f11 f := by rw [ef11]; exact KF.up hA_f10 rfl
          refine lv_aload_n hx hb dX11_seen_68 rfl (lv_at hl 0 rfl) ?_
          refine va_get (D := (dC, dI)) (ci := 11) (v := .ref (r 71)) (C := RX11) (T := TX11) (N := 79) hx hb hts inB_11 hown hE.1 hP 0 rfl rfl 71 (by decide) (hts _ k_1391) (fun _ h9 => h9) rfl dX11_seen_69 ?_
          refine lv_aload_n hx hb dX11_seen_72 rfl (lv_at hl 0 rfl) ?_
          refine va_get (D := (dC, dI)) (ci := 11) (v := .int (v 38)) (C := RX11) (T := TX11) (N := 79) hx hb hts inB_11 hown hE.1 hP 0 rfl rfl 73 (by decide) (hts _ k_1393) (fun _ h9 => h9) rfl dX11_seen_73 ?_
          refine lv_iconst (v := (-1)) hx hb dX11_seen_76 (by decide) ?_
          refine stI hx hb hE hP hD hS 33 rfl (vp_in_iff.mpr ⟨by omega, by omega⟩) rfl dX11_seen_77 (fun H locs hP hD hS => ?_)
          obtain ⟨f12, ef12, hP, hD⟩ : ∃ fz9, fz9 = upd2 f11 32 (upd (f11 32) (v 38).toNatClampNeg (-1)) ∧ va_P (dC, dI) vwCl (YW cy y0 r v fz9 w g) H ∧ va_D A (YW cy y0 r v fz9 w g) := ⟨_, rfl, hP, hD⟩
          have hCf12 : YC f12 := by rw [ef12]; exact hCf11
          have hRf12 : progOK (f12 4) (f12 5) (v 9).toInt.toNat := by rw [ef12]; exact hRf11
          have hA_f12 : KF [30, 31, 32, 33] f12 f := by rw [ef12]; exact KF.up hA_f11 rfl
          refine lv_aload_n hx hb dX11_seen_78 rfl (lv_at hl 0 rfl) ?_
          refine lv_dup hx hb dX11_seen_79 rfl ?_
          refine va_get (D := (dC, dI)) (ci := 11) (v := .int (v 38)) (C := RX11) (T := TX11) (N := 79) hx hb hts inB_11 hown hE.1 hP 0 rfl rfl 73 (by decide) (hts _ k_1393) (fun _ h9 => h9) rfl dX11_seen_80 ?_
          refine lv_iconst (v := 1) hx hb dX11_seen_83 (by decide) ?_
          refine lv_iadd hx hb dX11_seen_84 ?_
          refine lv_topi (fun t13 et13 => ?_)
          have rg14 := fb_rng (v 38)
          have zt13 : t13.toInt = (v 38).toInt + 1 := by rw [et13]; exact add_i rfl (by decide) (by omega) (by omega)
          refine va_put (D := (dC, dI)) (ci := 11) (v := .int t13) (ty := tyX11 73) (C := RX11) (T := TX11) (N := 79) hx hb hts inB_11 tyX11 tyX11_ok nmX11 hown hE.1 hP hD hS 0 rfl rfl 73 (by decide) (hts _ k_1393) (fun _ h9 => h9) rfl (tyX11_ok 73 (by decide)) rfl rfl (Nat.le_of_ble_eq_true rfl) dX11_seen_85 (fun H locs hP hD hS => ?_)
          have hP : va_P (dC, dI) vwCl (YW cy y0 r (upd v 38 t13) f12 w g) H := hP
          have hD : va_D A (YW cy y0 r (upd v 38 t13) f12 w g) := hD
          refine lv_aload_n hx hb dX11_seen_88 rfl (lv_at hl 0 rfl) ?_
          refine va_get (D := (dC, dI)) (ci := 11) (v := .int t13) (C := RX11) (T := TX11) (N := 79) hx hb hts inB_11 hown hE.1 hP 0 rfl rfl 73 (by decide) (hts _ k_1393) (fun _ h9 => h9) rfl dX11_seen_89 ?_
          refine lv_iconst (v := 1) hx hb dX11_seen_92 (by decide) ?_
          refine lv_isub hx hb dX11_seen_93 ?_
          refine lv_topi (fun t15 et15 => ?_)
          have rg16 := fb_rng t13
          have zt15 : t15.toInt = t13.toInt - 1 := by rw [et15]; exact sub_i rfl (by decide) (by omega) (by omega)
          exact ret t15 ((upd v 38 t13), f12, w, g) _ _ _ _ _ _ rfl ⟨(gsY_X11_seen_1_q2 hG4 c6 c7 c8 ef9 ef10 ef11 ef12 et13 et15), (KV.up (j := 38) (x := t13) hM_v rfl), hA_f12, ⟨(YIb.upd (j := 38) (x := t13) hIv.1 (show (0 : Int) ≤ t13.toInt by omega) (show t13.toInt ≤ (30 : Int) by omega)), hIv.2⟩, hCf12, hRf12, rfl, rfl, rfl, rfl, rfl, rfl, rfl, rfl, rfl, rfl, rfl, rfl, rfl, rfl, rfl, rfl, rfl, rfl, rfl⟩ hP hD hS dX11_seen_94 (Nat.le_refl _) (Nat.le_refl _)
        · skip
          have zc8 : (v 38).toInt = 30 := by rw [fa_eq, show (30 : Int32).toInt = 30 from by decide] at c8; exact c8
          refine lv_iconst (v := (-1)) hx hb dX11_seen_33 (by decide) ?_
          exact ret (-1) (v, f, w, g) _ _ _ _ _ _ rfl ⟨(gsY_X11_seen_1_q3 hG4 c6 c7 c8), hM_v, hA_f, hIv, hCf, hRf, rfl, rfl, rfl, rfl, rfl, rfl, rfl, rfl, rfl, rfl, rfl, rfl, rfl, rfl, rfl, rfl, rfl, rfl, rfl⟩ hP hD hS dX11_seen_34 (Nat.le_refl _) (Nat.le_refl _)
  · skip
    subst g5
    refine lv_if_eq (tgt := 33) hx hb dX11_seen_7 (by decide) (fun _ => ?_) (fun c0 => absurd (by decide) c0)
    refine lv_iconst (v := (-1)) hx hb dX11_seen_33 (by decide) ?_
    exact ret (-1) (v, f, w, g) _ _ _ _ _ _ rfl ⟨(gsY_X11_seen_1_q4 hG4), hM_v, hA_f, hIv, hCf, hRf, rfl, rfl, rfl, rfl, rfl, rfl, rfl, rfl, rfl, rfl, rfl, rfl, rfl, rfl, rfl, rfl, rfl, rfl, rfl⟩ hP hD hS dX11_seen_34 (Nat.le_refl _) (Nat.le_refl _)
set_option maxHeartbeats 4000000 in
set_option maxRecDepth 100000 in
theorem sY_X11_untell_1 (NF : Nat) (l : Launch) (dC : Nat → ClassId) (dI : Nat → Nat → Nat) (cy : Nat → ClassId) (y0 : Nat) (r : Nat → Nat) (p1 : Int32) (v : Nat → Int32) (f : Nat → Nat → Int32) (w : Int64) (g : Nat → Int64) (hIv : YI v) (hCf : YC f) (hRf : progOK (f 4) (f 5) (v 9).toInt.toNat)  : ctI l (dC, dI) cy yX11_untell cX11_untell 2 .boolean 2 82 0 0 ((Nat → Int32) × (Nat → Nat → Int32) × (Int64) × (Nat → Int64)) [.ref y0, .int p1] (YW cy y0 r v f w g) (fun r u => gsY_X11_untell_1 NF p1 v f w g = (r, u) ∧ KV [] u.1 v ∧ KF [32] u.2.1 f ∧ YI u.1 ∧ YC u.2.1 ∧ progOK (u.2.1 4) (u.2.1 5) (u.1 9).toInt.toNat ∧ u.1 0 = v 0 ∧ u.1 1 = v 1 ∧ u.1 2 = v 2 ∧ u.1 3 = v 3 ∧ u.1 4 = v 4 ∧ u.1 5 = v 5 ∧ u.1 8 = v 8 ∧ u.1 9 = v 9 ∧ u.1 10 = v 10 ∧ u.1 13 = v 13 ∧ u.1 14 = v 14 ∧ u.1 15 = v 15 ∧ u.1 17 = v 17 ∧ u.1 18 = v 18 ∧ u.1 24 = v 24 ∧ u.1 25 = v 25 ∧ u.1 35 = v 35 ∧ u.1 36 = v 36 ∧ u.1 38 = v 38 ∧ u.1 39 = v 39 ∧ ((r = 1) ∨ (r = 0))) (fun u => YW cy y0 r u.1 u.2.1 u.2.2.1 u.2.2.2) := by
  refine ctI_of (by decide) (Nat.le_of_ble_eq_true rfl) (fun p e s m below meth c A ls Q hx hb hml hts hown hE hP hD hA hl ret => ?_)
  have hUv : (v 35).toInt + (v 36).toInt ≤ 40 := hIv.2
  have hM_v : KV [] v v := fun _ _ => rfl
  have hA_f : KF [32] f f := fun _ _ => rfl
  have hown : s.vm.findClass RX11 = some m.cls := hown
  have hS : va_S A s.heap s.heap [] := va_S.rf
  have hl : lv_has ls 2 [(0, .ref y0), (1, .int p1)] := hl
  refine lv_iload_n hx hb dX11_untell_0 rfl (lv_at hl 1 rfl) ?_
  refine lv_iconst (v := 0) hx hb dX11_untell_1 (by decide) ?_
  refine lv_aload_n hx hb dX11_untell_2 rfl (lv_at hl 0 rfl) ?_
  refine va_get (D := (dC, dI)) (ci := 11) (v := .int (v 38)) (C := RX11) (T := TX11) (N := 79) hx hb hts inB_11 hown hE.1 hP 0 rfl rfl 73 (by decide) (hts _ k_1393) (fun _ h9 => h9) rfl dX11_untell_3 ?_
  have b38_v : 0 ≤ (v 38).toInt ∧ (v 38).toInt ≤ 30 := YIb.b hIv.1 38 (by decide)
  refine lv_iconst (v := 1) hx hb dX11_untell_6 (by decide) ?_
  refine lv_isub hx hb dX11_untell_7 ?_
  refine lv_topi (fun t1 et1 => ?_)
  have rg2 := fb_rng (v 38)
  have zt1 : t1.toInt = (v 38).toInt - 1 := by rw [et1]; exact sub_i rfl (by decide) (by omega) (by omega)
  have lt3 : (0 : Int32).toInt = 0 := by decide
  refine cbSi (n := 3) (rest := []) hx hb hml hown hts hE hP hD hS hA (sY_X11_isIn_1 NF l dC dI cy y0 r p1 0 t1 v f w g hIv hCf hRf ) k_1736 k_1737 k_114 k_1738 (by decide +kernel) ⟨Nat.le_of_ble_eq_true rfl, Nat.le_of_ble_eq_true rfl⟩ (rfl) hl.1 rfl (Nat.le_of_ble_eq_true rfl) dX11_untell_8 (fun r4 u H locs hw hP hD hS => ?_)
  obtain ⟨hG5, hw⟩ := hw
  rcases hw with ⟨g6, g6_0, g6_1⟩ | ⟨g6⟩
  · skip
    subst g6
    refine lv_if_eq (tgt := 23) hx hb dX11_untell_11 (by decide) (fun c0 => absurd c0 (by decide)) (fun _ => ?_)
    refine lv_aload_n hx hb dX11_untell_14 rfl (lv_at hl 0 rfl) ?_
    refine va_get (D := (dC, dI)) (ci := 11) (v := .ref (r 71)) (C := RX11) (T := TX11) (N := 79) hx hb hts inB_11 hown hE.1 hP 0 rfl rfl 71 (by decide) (hts _ k_1391) (fun _ h9 => h9) rfl dX11_untell_15 ?_
    refine lv_iload_n hx hb dX11_untell_18 rfl (lv_at hl 1 rfl) ?_
    refine ldI hx hb hE hP 33 rfl (vp_in_iff.mpr ⟨by omega, by omega⟩) rfl rfl dX11_untell_19 ?_
    refine lv_topi (fun t7 et7 => ?_)
    refine lv_if_lt (tgt := 25) hx hb dX11_untell_20 (by decide) (fun c8 => ?_) (fun c8 => ?_)
    · skip
      have zc8 : t7.toInt < 0 := by rw [fa_lt, show (0 : Int32).toInt = 0 from by decide] at c8; exact c8
      refine lv_aload_n hx hb dX11_untell_25 rfl (lv_at hl 0 rfl) ?_
      refine va_get (D := (dC, dI)) (ci := 11) (v := .ref (r 71)) (C := RX11) (T := TX11) (N := 79) hx hb hts inB_11 hown hE.1 hP 0 rfl rfl 71 (by decide) (hts _ k_1391) (fun _ h9 => h9) rfl dX11_untell_26 ?_
      refine lv_iload_n hx hb dX11_untell_29 rfl (lv_at hl 1 rfl) ?_
      refine lv_aload_n hx hb dX11_untell_30 rfl (lv_at hl 0 rfl) ?_
      refine va_get (D := (dC, dI)) (ci := 11) (v := .int (v 39)) (C := RX11) (T := TX11) (N := 79) hx hb hts inB_11 hown hE.1 hP 0 rfl rfl 74 (by decide) (hts _ k_1394) (fun _ h9 => h9) rfl dX11_untell_31 ?_
      have b39_v : 0 ≤ (v 39).toInt ∧ (v 39).toInt ≤ 100000 := YIb.b hIv.1 39 (by decide)
      refine stI hx hb hE hP hD hS 33 rfl (vp_in_iff.mpr ⟨by omega, by omega⟩) rfl dX11_untell_34 (fun H locs hP hD hS => ?_)
      obtain ⟨f9, ef9, hP, hD⟩ : ∃ fz9, fz9 = upd2 f 32 (upd (f 32) p1.toNatClampNeg (v 39)) ∧ va_P (dC, dI) vwCl (YW cy y0 r v fz9 w g) H ∧ va_D A (YW cy y0 r v fz9 w g) := ⟨_, rfl, hP, hD⟩
      have hCf9 : YC f9 := by rw [ef9]; exact hCf
      have hRf9 : progOK (f9 4) (f9 5) (v 9).toInt.toNat := by rw [ef9]; exact hRf
      have hA_f9 : KF [32] f9 f := by rw [ef9]; exact KF.up hA_f rfl
      refine lv_iconst (v := 1) hx hb dX11_untell_35 (by decide) ?_
      exact ret 1 (v, f9, w, g) _ _ _ _ _ _ rfl ⟨(gsY_X11_untell_1_q0 et1 hG5 et7 c8 ef9), hM_v, hA_f9, hIv, hCf9, hRf9, rfl, rfl, rfl, rfl, rfl, rfl, rfl, rfl, rfl, rfl, rfl, rfl, rfl, rfl, rfl, rfl, rfl, rfl, rfl, rfl, (Or.inl rfl)⟩ hP hD hS dX11_untell_36 (Nat.le_refl _) (Nat.le_refl _)
    · skip
      have zc8 : ¬ (t7.toInt < 0) := by rw [fa_lt, show (0 : Int32).toInt = 0 from by decide] at c8; exact c8
      refine lv_iconst (v := 0) hx hb dX11_untell_23 (by decide) ?_
      exact ret 0 (v, f, w, g) _ _ _ _ _ _ rfl ⟨(gsY_X11_untell_1_q1 et1 hG5 et7 c8), hM_v, hA_f, hIv, hCf, hRf, rfl, rfl, rfl, rfl, rfl, rfl, rfl, rfl, rfl, rfl, rfl, rfl, rfl, rfl, rfl, rfl, rfl, rfl, rfl, rfl, (Or.inr rfl)⟩ hP hD hS dX11_untell_24 (Nat.le_refl _) (Nat.le_refl _)
  · skip
    subst g6
    refine lv_if_eq (tgt := 23) hx hb dX11_untell_11 (by decide) (fun _ => ?_) (fun c0 => absurd (by decide) c0)
    refine lv_iconst (v := 0) hx hb dX11_untell_23 (by decide) ?_
    exact ret 0 (v, f, w, g) _ _ _ _ _ _ rfl ⟨(gsY_X11_untell_1_q2 et1 hG5), hM_v, hA_f, hIv, hCf, hRf, rfl, rfl, rfl, rfl, rfl, rfl, rfl, rfl, rfl, rfl, rfl, rfl, rfl, rfl, rfl, rfl, rfl, rfl, rfl, rfl, (Or.inr rfl)⟩ hP hD hS dX11_untell_24 (Nat.le_refl _) (Nat.le_refl _)
set_option maxHeartbeats 4000000 in
set_option maxRecDepth 100000 in
theorem sY_X11_later_1 (NF : Nat) (l : Launch) (dC : Nat → ClassId) (dI : Nat → Nat → Nat) (cy : Nat → ClassId) (y0 : Nat) (r : Nat → Nat) (p1 : Int32) (v : Nat → Int32) (f : Nat → Nat → Int32) (w : Int64) (g : Nat → Int64) (hIv : YI v) (hCf : YC f) (hRf : progOK (f 4) (f 5) (v 9).toInt.toNat)  : ctI l (dC, dI) cy yX11_later cX11_later 2 .int 1 60 0 0 ((Nat → Int32) × (Nat → Nat → Int32) × (Int64) × (Nat → Int64)) [.ref y0, .int p1] (YW cy y0 r v f w g) (fun r u => gsY_X11_later_1 NF p1 v f w g = (r, u) ∧ KV [39] u.1 v ∧ KF [] u.2.1 f ∧ YI u.1 ∧ YC u.2.1 ∧ progOK (u.2.1 4) (u.2.1 5) (u.1 9).toInt.toNat ∧ u.1 0 = v 0 ∧ u.1 1 = v 1 ∧ u.1 2 = v 2 ∧ u.1 3 = v 3 ∧ u.1 4 = v 4 ∧ u.1 5 = v 5 ∧ u.1 8 = v 8 ∧ u.1 9 = v 9 ∧ u.1 10 = v 10 ∧ u.1 13 = v 13 ∧ u.1 14 = v 14 ∧ u.1 15 = v 15 ∧ u.1 17 = v 17 ∧ u.1 18 = v 18 ∧ u.1 24 = v 24 ∧ u.1 25 = v 25 ∧ u.1 35 = v 35 ∧ u.1 36 = v 36 ∧ u.1 38 = v 38) (fun u => YW cy y0 r u.1 u.2.1 u.2.2.1 u.2.2.2) := by
  refine ctI_of (by decide) (Nat.le_of_ble_eq_true rfl) (fun p e s m below meth c A ls Q hx hb hml hts hown hE hP hD hA hl ret => ?_)
  have hUv : (v 35).toInt + (v 36).toInt ≤ 40 := hIv.2
  have hM_v : KV [39] v v := fun _ _ => rfl
  have hA_f : KF [] f f := fun _ _ => rfl
  have hown : s.vm.findClass RX11 = some m.cls := hown
  have hS : va_S A s.heap s.heap [] := va_S.rf
  have hl : lv_has ls 2 [(0, .ref y0), (1, .int p1)] := hl
  refine lv_iload_n hx hb dX11_later_0 rfl (lv_at hl 1 rfl) ?_
  refine lv_if_lt (tgt := 23) hx hb dX11_later_1 (by decide) (fun c1 => ?_) (fun c1 => ?_)
  · skip
    have zc1 : p1.toInt < 0 := by rw [fa_lt, show (0 : Int32).toInt = 0 from by decide] at c1; exact c1
    refine lv_iconst (v := (-1)) hx hb dX11_later_23 (by decide) ?_
    exact ret (-1) (v, f, w, g) _ _ _ _ _ _ rfl ⟨(gsY_X11_later_1_q0 c1), hM_v, hA_f, hIv, hCf, hRf, rfl, rfl, rfl, rfl, rfl, rfl, rfl, rfl, rfl, rfl, rfl, rfl, rfl, rfl, rfl, rfl, rfl, rfl, rfl⟩ hP hD hS dX11_later_24 (Nat.le_refl _) (Nat.le_refl _)
  · skip
    have zc1 : ¬ (p1.toInt < 0) := by rw [fa_lt, show (0 : Int32).toInt = 0 from by decide] at c1; exact c1
    refine lv_iload_n hx hb dX11_later_4 rfl (lv_at hl 1 rfl) ?_
    refine lv_sipush (v := 1000) hx hb dX11_later_5 (by decide) ?_
    refine lv_icmp_gt (tgt := 23) hx hb dX11_later_8 (by decide) (fun c2 => ?_) (fun c2 => ?_)
    · skip
      have zc2 : 1000 < p1.toInt := by rw [fa_lt, show (1000 : Int32).toInt = 1000 from by decide] at c2; exact c2
      refine lv_iconst (v := (-1)) hx hb dX11_later_23 (by decide) ?_
      exact ret (-1) (v, f, w, g) _ _ _ _ _ _ rfl ⟨(gsY_X11_later_1_q1 c1 c2), hM_v, hA_f, hIv, hCf, hRf, rfl, rfl, rfl, rfl, rfl, rfl, rfl, rfl, rfl, rfl, rfl, rfl, rfl, rfl, rfl, rfl, rfl, rfl, rfl⟩ hP hD hS dX11_later_24 (Nat.le_refl _) (Nat.le_refl _)
    · skip
      have zc2 : ¬ (1000 < p1.toInt) := by rw [fa_lt, show (1000 : Int32).toInt = 1000 from by decide] at c2; exact c2
      refine lv_aload_n hx hb dX11_later_11 rfl (lv_at hl 0 rfl) ?_
      refine va_get (D := (dC, dI)) (ci := 11) (v := .int (v 39)) (C := RX11) (T := TX11) (N := 79) hx hb hts inB_11 hown hE.1 hP 0 rfl rfl 74 (by decide) (hts _ k_1394) (fun _ h9 => h9) rfl dX11_later_12 ?_
      have b39_v : 0 ≤ (v 39).toInt ∧ (v 39).toInt ≤ 100000 := YIb.b hIv.1 39 (by decide)
      refine lv_iload_n hx hb dX11_later_15 rfl (lv_at hl 1 rfl) ?_
      refine lv_iadd hx hb dX11_later_16 ?_
      refine lv_topi (fun t3 et3 => ?_)
      have rg4 := fb_rng (v 39)
      have rg5 := fb_rng p1
      have zt3 : t3.toInt = (v 39).toInt + p1.toInt := by rw [et3]; exact add_i rfl rfl (by omega) (by omega)
      refine lv_ldcw (v := 100000) hx hb hown (hts _ k_2019) dX11_later_17 ?_
      refine lv_icmp_le (tgt := 25) hx hb dX11_later_20 (by decide) (fun c6 => ?_) (fun c6 => ?_)
      · skip
        have zc6 : t3.toInt ≤ 100000 := by rw [fa_le, show (100000 : Int32).toInt = 100000 from by decide] at c6; exact c6
        refine lv_aload_n hx hb dX11_later_25 rfl (lv_at hl 0 rfl) ?_
        refine lv_dup hx hb dX11_later_26 rfl ?_
        refine va_get (D := (dC, dI)) (ci := 11) (v := .int (v 39)) (C := RX11) (T := TX11) (N := 79) hx hb hts inB_11 hown hE.1 hP 0 rfl rfl 74 (by decide) (hts _ k_1394) (fun _ h9 => h9) rfl dX11_later_27 ?_
        refine lv_iload_n hx hb dX11_later_30 rfl (lv_at hl 1 rfl) ?_
        refine lv_iadd hx hb dX11_later_31 ?_
        refine tI (y := t3) et3.symm ?_
        refine va_put (D := (dC, dI)) (ci := 11) (v := .int t3) (ty := tyX11 74) (C := RX11) (T := TX11) (N := 79) hx hb hts inB_11 tyX11 tyX11_ok nmX11 hown hE.1 hP hD hS 0 rfl rfl 74 (by decide) (hts _ k_1394) (fun _ h9 => h9) rfl (tyX11_ok 74 (by decide)) rfl rfl (Nat.le_of_ble_eq_true rfl) dX11_later_32 (fun H locs hP hD hS => ?_)
        have hP : va_P (dC, dI) vwCl (YW cy y0 r (upd v 39 t3) f w g) H := hP
        have hD : va_D A (YW cy y0 r (upd v 39 t3) f w g) := hD
        refine lv_aload_n hx hb dX11_later_35 rfl (lv_at hl 0 rfl) ?_
        refine va_get (D := (dC, dI)) (ci := 11) (v := .int t3) (C := RX11) (T := TX11) (N := 79) hx hb hts inB_11 hown hE.1 hP 0 rfl rfl 74 (by decide) (hts _ k_1394) (fun _ h9 => h9) rfl dX11_later_36 ?_
        exact ret t3 ((upd v 39 t3), f, w, g) _ _ _ _ _ _ rfl ⟨(gsY_X11_later_1_q2 c1 c2 et3 c6), (KV.up (j := 39) (x := t3) hM_v rfl), hA_f, ⟨(YIb.upd (j := 39) (x := t3) hIv.1 (show (0 : Int) ≤ t3.toInt by omega) (show t3.toInt ≤ (100000 : Int) by omega)), hIv.2⟩, hCf, hRf, rfl, rfl, rfl, rfl, rfl, rfl, rfl, rfl, rfl, rfl, rfl, rfl, rfl, rfl, rfl, rfl, rfl, rfl, rfl⟩ hP hD hS dX11_later_39 (Nat.le_refl _) (Nat.le_refl _)
      · skip
        have zc6 : ¬ (t3.toInt ≤ 100000) := by rw [fa_le, show (100000 : Int32).toInt = 100000 from by decide] at c6; exact c6
        refine lv_iconst (v := (-1)) hx hb dX11_later_23 (by decide) ?_
        exact ret (-1) (v, f, w, g) _ _ _ _ _ _ rfl ⟨(gsY_X11_later_1_q3 c1 c2 et3 c6), hM_v, hA_f, hIv, hCf, hRf, rfl, rfl, rfl, rfl, rfl, rfl, rfl, rfl, rfl, rfl, rfl, rfl, rfl, rfl, rfl, rfl, rfl, rfl, rfl⟩ hP hD hS dX11_later_24 (Nat.le_refl _) (Nat.le_refl _)
set_option maxHeartbeats 4000000 in
set_option maxRecDepth 100000 in
theorem sY_X11_power_1 (NF : Nat) (l : Launch) (dC : Nat → ClassId) (dI : Nat → Nat → Nat) (cy : Nat → ClassId) (y0 : Nat) (r : Nat → Nat) (p0 : Int32) (p1 : Int32) (v : Nat → Int32) (f : Nat → Nat → Int32) (w : Int64) (g : Nat → Int64) (hIv : YI v) (hCf : YC f) (hRf : progOK (f 4) (f 5) (v 9).toInt.toNat)  : ctI l (dC, dI) cy yX11_power cX11_power 4 .int 1 60 0 0 Unit [.int p0, .int p1] (YW cy y0 r v f w g) (fun r u => gsY_X11_power_1 NF p0 p1 v f w g = r) (fun u => YW cy y0 r v f w g) := by
  refine ctI_of (by decide) (Nat.le_of_ble_eq_true rfl) (fun p e s m below meth c A ls Q hx hb hml hts hown hE hP hD hA hl ret => ?_)
  have hUv : (v 35).toInt + (v 36).toInt ≤ 40 := hIv.2
  have hown : s.vm.findClass RX11 = some m.cls := hown
  have hS : va_S A s.heap s.heap [] := va_S.rf
  have hl : lv_has ls 4 [(0, .int p0), (1, .int p1)] := hl
  refine lv_iconst (v := 1) hx hb dX11_power_0 (by decide) ?_
  refine lv_istore_n (lv' := [(2, .int 1), (0, .int p0), (1, .int p1)]) hx hb dX11_power_1 rfl hl (by decide) rfl (fun ls hl => ?_)
  refine lv_iconst (v := 0) hx hb dX11_power_2 (by decide) ?_
  refine lv_istore_n (lv' := [(3, .int 0), (2, .int 1), (0, .int p0), (1, .int p1)]) hx hb dX11_power_3 rfl hl (by decide) rfl (fun ls hl => ?_)
  have lp1 : ∀ (n1 : Nat) (l2_1 : Int32) (l3_1 : Int32), gsY_X11_power_1_L1 NF p0 p1 n1 l2_1 l3_1 = (gsY_X11_power_1 NF p0 p1 v f w g) → ((0 : Int) ≤ l3_1.toInt ∧ l3_1.toInt ≤ 2147483647) → (2147483647 - l3_1.toInt).toNat < n1 → ∀ (H : Heap) (locs : List Loc) (ls : Array Slot), va_P (dC, dI) vwCl (YW cy y0 r v f w g) H → va_D A (YW cy y0 r v f w g) → va_S A s.heap H locs → lv_has ls 4 [(3, .int l3_1), (2, .int l2_1), (0, .int p0), (1, .int p1)] → W p l e { frames := 1, cells := 0, slots := 0, locals := 60 } s m ([.int p0, .int p1] : List Value).toArray below meth c H locs 0 0 Q (F0 m 4 ls []) := by
    intro n1
    induction n1 with
    | zero => intro l2_1 l3_1 hT1 hr3_1 hm; exact absurd hm (Nat.not_lt_zero _)
    | succ n1 ih1 =>
      intro l2_1 l3_1 hT1 hr3_1 hm1 H locs ls hP hD hS hl
      refine lv_iload_n hx hb dX11_power_4 rfl (lv_at hl 0 rfl) ?_
      refine lv_iload_n hx hb dX11_power_5 rfl (lv_at hl 3 rfl) ?_
      refine lv_icmp_ge (tgt := 19) hx hb dX11_power_6 (by decide) (fun c2 => ?_) (fun c2 => ?_)
      · skip
        have zc2 : p1.toInt ≤ l3_1.toInt := by rw [fa_le] at c2; exact c2
        have rg3 := fb_rng l3_1
        have rg4 := fb_rng p1
        refine lv_iload_n hx hb dX11_power_19 rfl (lv_at hl 1 rfl) ?_
        exact ret l2_1 () _ _ _ _ _ _ rfl (hT1.symm.trans (gsY_X11_power_1_q0 c2)) hP hD hS dX11_power_20 (Nat.le_refl _) (Nat.le_refl _)
      · skip
        have zc2 : ¬ (p1.toInt ≤ l3_1.toInt) := by rw [fa_le] at c2; exact c2
        have rg5 := fb_rng l3_1
        have rg6 := fb_rng p1
        refine lv_iload_n hx hb dX11_power_9 rfl (lv_at hl 1 rfl) ?_
        refine lv_iload_n hx hb dX11_power_10 rfl (lv_at hl 2 rfl) ?_
        refine lv_imul hx hb dX11_power_11 ?_
        refine lv_topi (fun t7 et7 => ?_)
        refine lv_istore_n (lv' := [(2, .int t7), (3, .int l3_1), (0, .int p0), (1, .int p1)]) hx hb dX11_power_12 rfl hl (by decide) rfl (fun ls hl => ?_)
        obtain ⟨t8, et8⟩ : ∃ y : Int32, y = l3_1 + 1 := ⟨_, rfl⟩
        have zt8 : t8.toInt = l3_1.toInt + 1 := by rw [et8]; exact add_i rfl (by decide) (by omega) (by omega)
        refine lv_iinc (v := t8) (lv' := [(3, .int t8), (2, .int t7), (0, .int p0), (1, .int p1)]) hx hb dX11_power_13 hl (k := 1) rfl (by rw [et8]; rfl) (by decide) rfl (fun ls hl => ?_)
        refine lv_goto (tgt := 4) hx hb dX11_power_16 (by decide) ?_
        have rg9 := fb_rng t8
        exact ih1 t7 t8 ((gsY_X11_power_1_q1 c2 et7 et8).symm.trans hT1) ⟨show (0 : Int) ≤ t8.toInt by omega, show t8.toInt ≤ (2147483647 : Int) by omega⟩ (by show (2147483647 - t8.toInt).toNat < n1; omega) _ _ _ hP hD hS (lv_sub hl [0, 1, 2, 3] rfl)
  exact lp1 (4294967296 + NF) 1 0 gsY_X11_power_1_q2.symm ⟨by decide, by decide⟩ (by have q3 : (0 : Int32).toInt = 0 := (by decide); have q2 : (1 : Int32).toInt = 1 := (by decide); show (2147483647 - (0 : Int32).toInt).toNat < 4294967296 + NF; omega) _ _ _ hP hD hS (lv_sub hl [0, 1, 2, 3] rfl)
set_option maxHeartbeats 4000000 in
set_option maxRecDepth 100000 in
theorem sY_X11_power_2 (NF : Nat) (l : Launch) (dC : Nat → ClassId) (dI : Nat → Nat → Nat) (cy : Nat → ClassId) (y0 : Nat) (r : Nat → Nat)  (v : Nat → Int32) (f : Nat → Nat → Int32) (w : Int64) (g : Nat → Int64) (hIv : YI v) (hCf : YC f) (hRf : progOK (f 4) (f 5) (v 9).toInt.toNat)  : ctI l (dC, dI) cy yX11_power cX11_power 4 .int 1 60 0 0 Unit [.int 100, .int 0] (YW cy y0 r v f w g) (fun r u => gsY_X11_power_2 NF v f w g = r ∧ ((1 : Int) ≤ r.toInt ∧ r.toInt ≤ 1)) (fun u => YW cy y0 r v f w g) := by
  refine ctI_of (by decide) (Nat.le_of_ble_eq_true rfl) (fun p e s m below meth c A ls Q hx hb hml hts hown hE hP hD hA hl ret => ?_)
  have hUv : (v 35).toInt + (v 36).toInt ≤ 40 := hIv.2
  have hown : s.vm.findClass RX11 = some m.cls := hown
  have hS : va_S A s.heap s.heap [] := va_S.rf
  have hl : lv_has ls 4 [(0, .int 100), (1, .int 0)] := hl
  refine lv_iconst (v := 1) hx hb dX11_power_0 (by decide) ?_
  refine lv_istore_n (lv' := [(2, .int 1), (0, .int 100), (1, .int 0)]) hx hb dX11_power_1 rfl hl (by decide) rfl (fun ls hl => ?_)
  refine lv_iconst (v := 0) hx hb dX11_power_2 (by decide) ?_
  refine lv_istore_n (lv' := [(3, .int 0), (2, .int 1), (0, .int 100), (1, .int 0)]) hx hb dX11_power_3 rfl hl (by decide) rfl (fun ls hl => ?_)
  refine lv_iload_n hx hb dX11_power_4 rfl (lv_at hl 0 rfl) ?_
  refine lv_iload_n hx hb dX11_power_5 rfl (lv_at hl 3 rfl) ?_
  refine lv_icmp_ge (tgt := 19) hx hb dX11_power_6 (by decide) (fun _ => ?_) (fun c0 => absurd (by decide) c0)
  refine lv_iload_n hx hb dX11_power_19 rfl (lv_at hl 1 rfl) ?_
  exact ret 1 () _ _ _ _ _ _ rfl ⟨gsY_X11_power_2_q0, ⟨by decide, by decide⟩⟩ hP hD hS dX11_power_20 (Nat.le_refl _) (Nat.le_refl _)
set_option maxHeartbeats 4000000 in
set_option maxRecDepth 100000 in
theorem sY_X11_divisor_1 (NF : Nat) (l : Launch) (dC : Nat → ClassId) (dI : Nat → Nat → Nat) (cy : Nat → ClassId) (y0 : Nat) (r : Nat → Nat) (p0 : Int32) (p1 : Int32) (v : Nat → Int32) (f : Nat → Nat → Int32) (w : Int64) (g : Nat → Int64) (hIv : YI v) (hCf : YC f) (hRf : progOK (f 4) (f 5) (v 9).toInt.toNat) (hp0 : (1 : Int) ≤ p0.toInt ∧ p0.toInt ≤ 2147483647) : ctI l (dC, dI) cy yX11_divisor cX11_divisor 5 .int 1 60 0 0 Unit [.int p0, .int p1] (YW cy y0 r v f w g) (fun r u => gsY_X11_divisor_1 NF p0 p1 v f w g = r ∧ ((1 : Int) ≤ r.toInt ∧ r.toInt ≤ 2147483647)) (fun u => YW cy y0 r v f w g) := by
  refine ctI_of (by decide) (Nat.le_of_ble_eq_true rfl) (fun p e s m below meth c A ls Q hx hb hml hts hown hE hP hD hA hl ret => ?_)
  have hUv : (v 35).toInt + (v 36).toInt ≤ 40 := hIv.2
  have hown : s.vm.findClass RX11 = some m.cls := hown
  have hS : va_S A s.heap s.heap [] := va_S.rf
  have hl : lv_has ls 5 [(0, .int p0), (1, .int p1)] := hl
  refine lv_iload_n hx hb dX11_divisor_0 rfl (lv_at hl 0 rfl) ?_
  refine lv_istore_n (lv' := [(2, .int p0), (0, .int p0), (1, .int p1)]) hx hb dX11_divisor_1 rfl hl (by decide) rfl (fun ls hl => ?_)
  refine lv_iload_n hx hb dX11_divisor_2 rfl (lv_at hl 2 rfl) ?_
  refine lv_istore_n (lv' := [(3, .int p1), (2, .int p0), (0, .int p0), (1, .int p1)]) hx hb dX11_divisor_3 rfl hl (by decide) rfl (fun ls hl => ?_)
  have lp1 : ∀ (n1 : Nat) (l2_1 : Int32) (l3_1 : Int32), gsY_X11_divisor_1_L1 NF n1 l2_1 l3_1 = (gsY_X11_divisor_1 NF p0 p1 v f w g) → ((1 : Int) ≤ l2_1.toInt ∧ l2_1.toInt ≤ 2147483647) → (l3_1.toInt).toNat < n1 → ∀ (H : Heap) (locs : List Loc) (ls : Array Slot), va_P (dC, dI) vwCl (YW cy y0 r v f w g) H → va_D A (YW cy y0 r v f w g) → va_S A s.heap H locs → lv_has ls 5 [(3, .int l3_1), (2, .int l2_1), (0, .int p0), (1, .int p1)] → W p l e { frames := 1, cells := 0, slots := 0, locals := 60 } s m ([.int p0, .int p1] : List Value).toArray below meth c H locs 0 0 Q (F0 m 4 ls []) := by
    intro n1
    induction n1 with
    | zero => intro l2_1 l3_1 hT1 hr2_1 hm; exact absurd hm (Nat.not_lt_zero _)
    | succ n1 ih1 =>
      intro l2_1 l3_1 hT1 hr2_1 hm1 H locs ls hP hD hS hl
      refine lv_iload_n hx hb dX11_divisor_4 rfl (lv_at hl 0 rfl) ?_
      refine lv_if_le (tgt := 21) hx hb dX11_divisor_5 (by decide) (fun c2 => ?_) (fun c2 => ?_)
      · skip
        have zc2 : l3_1.toInt ≤ 0 := by rw [fa_le, show (0 : Int32).toInt = 0 from by decide] at c2; exact c2
        refine lv_iload_n hx hb dX11_divisor_21 rfl (lv_at hl 1 rfl) ?_
        exact ret l2_1 () _ _ _ _ _ _ rfl ⟨(hT1.symm.trans (gsY_X11_divisor_1_q0 c2)), ⟨by omega, by omega⟩⟩ hP hD hS dX11_divisor_22 (Nat.le_refl _) (Nat.le_refl _)
      · skip
        have zc2 : ¬ (l3_1.toInt ≤ 0) := by rw [fa_le, show (0 : Int32).toInt = 0 from by decide] at c2; exact c2
        refine lv_iload_n hx hb dX11_divisor_8 rfl (lv_at hl 1 rfl) ?_
        refine lv_iload_n hx hb dX11_divisor_9 rfl (lv_at hl 0 rfl) ?_
        refine lv_irem hx hb dX11_divisor_10 (ne0 (by omega)) ?_
        refine lv_topi (fun t3 et3 => ?_)
        have zt3 : 0 ≤ t3.toInt ∧ t3.toInt < l3_1.toInt := by rw [et3]; exact rem_rng (zx := l2_1.toInt) (zy := l3_1.toInt) rfl rfl (by omega) (by omega)
        refine lv_istore (lv' := [(4, .int t3), (3, .int l3_1), (2, .int l2_1), (0, .int p0), (1, .int p1)]) hx hb dX11_divisor_11 hl (by decide) rfl (fun ls hl => ?_)
        refine lv_iload_n hx hb dX11_divisor_13 rfl (lv_at hl 1 rfl) ?_
        refine lv_istore_n (lv' := [(2, .int l3_1), (4, .int t3), (3, .int l3_1), (0, .int p0), (1, .int p1)]) hx hb dX11_divisor_14 rfl hl (by decide) rfl (fun ls hl => ?_)
        refine lv_iload hx hb dX11_divisor_15 (lv_at hl 1 rfl) ?_
        refine lv_istore_n (lv' := [(3, .int t3), (2, .int l3_1), (4, .int t3), (0, .int p0), (1, .int p1)]) hx hb dX11_divisor_17 rfl hl (by decide) rfl (fun ls hl => ?_)
        refine lv_goto (tgt := 4) hx hb dX11_divisor_18 (by decide) ?_
        have rg4 := fb_rng l3_1
        exact ih1 l3_1 t3 ((gsY_X11_divisor_1_q1 c2 et3).symm.trans hT1) ⟨show (1 : Int) ≤ l3_1.toInt by omega, show l3_1.toInt ≤ (2147483647 : Int) by omega⟩ (by show (t3.toInt).toNat < n1; omega) _ _ _ hP hD hS (lv_sub hl [0, 1, 3, 4] rfl)
  have rg5 := fb_rng p0
  exact lp1 (4294967296 + NF) p0 p1 gsY_X11_divisor_1_q2.symm ⟨show (1 : Int) ≤ p0.toInt by omega, show p0.toInt ≤ (2147483647 : Int) by omega⟩ (by have qr0 := fb_rng p1; show (p1.toInt).toNat < 4294967296 + NF; omega) _ _ _ hP hD hS (lv_sub hl [0, 1, 2, 3] rfl)
set_option maxHeartbeats 4000000 in
set_option maxRecDepth 100000 in
theorem sY_X11_power_3 (NF : Nat) (l : Launch) (dC : Nat → ClassId) (dI : Nat → Nat → Nat) (cy : Nat → ClassId) (y0 : Nat) (r : Nat → Nat)  (v : Nat → Int32) (f : Nat → Nat → Int32) (w : Int64) (g : Nat → Int64) (hIv : YI v) (hCf : YC f) (hRf : progOK (f 4) (f 5) (v 9).toInt.toNat)  : ctI l (dC, dI) cy yX11_power cX11_power 4 .int 1 60 0 0 Unit [.int 100, .int 1] (YW cy y0 r v f w g) (fun r u => gsY_X11_power_3 NF v f w g = r ∧ ((100 : Int) ≤ r.toInt ∧ r.toInt ≤ 100)) (fun u => YW cy y0 r v f w g) := by
  refine ctI_of (by decide) (Nat.le_of_ble_eq_true rfl) (fun p e s m below meth c A ls Q hx hb hml hts hown hE hP hD hA hl ret => ?_)
  have hUv : (v 35).toInt + (v 36).toInt ≤ 40 := hIv.2
  have hown : s.vm.findClass RX11 = some m.cls := hown
  have hS : va_S A s.heap s.heap [] := va_S.rf
  have hl : lv_has ls 4 [(0, .int 100), (1, .int 1)] := hl
  refine lv_iconst (v := 1) hx hb dX11_power_0 (by decide) ?_
  refine lv_istore_n (lv' := [(2, .int 1), (0, .int 100), (1, .int 1)]) hx hb dX11_power_1 rfl hl (by decide) rfl (fun ls hl => ?_)
  refine lv_iconst (v := 0) hx hb dX11_power_2 (by decide) ?_
  refine lv_istore_n (lv' := [(3, .int 0), (2, .int 1), (0, .int 100), (1, .int 1)]) hx hb dX11_power_3 rfl hl (by decide) rfl (fun ls hl => ?_)
  refine lv_iload_n hx hb dX11_power_4 rfl (lv_at hl 0 rfl) ?_
  refine lv_iload_n hx hb dX11_power_5 rfl (lv_at hl 3 rfl) ?_
  refine lv_icmp_ge (tgt := 19) hx hb dX11_power_6 (by decide) (fun c0 => absurd c0 (by decide)) (fun _ => ?_)
  refine lv_iload_n hx hb dX11_power_9 rfl (lv_at hl 1 rfl) ?_
  refine lv_iload_n hx hb dX11_power_10 rfl (lv_at hl 2 rfl) ?_
  refine lv_imul hx hb dX11_power_11 ?_
  refine tI (y := 100) (by decide) ?_
  refine lv_istore_n (lv' := [(2, .int 100), (3, .int 0), (0, .int 100), (1, .int 1)]) hx hb dX11_power_12 rfl hl (by decide) rfl (fun ls hl => ?_)
  refine lv_iinc (v := 1) (lv' := [(3, .int 1), (2, .int 100), (0, .int 100), (1, .int 1)]) hx hb dX11_power_13 hl (k := 1) rfl (by decide) (by decide) rfl (fun ls hl => ?_)
  refine lv_goto (tgt := 4) hx hb dX11_power_16 (by decide) ?_
  refine lv_iload_n hx hb dX11_power_4 rfl (lv_at hl 0 rfl) ?_
  refine lv_iload_n hx hb dX11_power_5 rfl (lv_at hl 3 rfl) ?_
  refine lv_icmp_ge (tgt := 19) hx hb dX11_power_6 (by decide) (fun _ => ?_) (fun c0 => absurd (by decide) c0)
  refine lv_iload_n hx hb dX11_power_19 rfl (lv_at hl 1 rfl) ?_
  exact ret 100 () _ _ _ _ _ _ rfl ⟨gsY_X11_power_3_q0, ⟨by decide, by decide⟩⟩ hP hD hS dX11_power_20 (Nat.le_refl _) (Nat.le_refl _)
set_option maxHeartbeats 4000000 in
set_option maxRecDepth 100000 in
theorem sY_X11_power_4 (NF : Nat) (l : Launch) (dC : Nat → ClassId) (dI : Nat → Nat → Nat) (cy : Nat → ClassId) (y0 : Nat) (r : Nat → Nat)  (v : Nat → Int32) (f : Nat → Nat → Int32) (w : Int64) (g : Nat → Int64) (hIv : YI v) (hCf : YC f) (hRf : progOK (f 4) (f 5) (v 9).toInt.toNat)  : ctI l (dC, dI) cy yX11_power cX11_power 4 .int 1 60 0 0 Unit [.int 100, .int 2] (YW cy y0 r v f w g) (fun r u => gsY_X11_power_4 NF v f w g = r ∧ ((10000 : Int) ≤ r.toInt ∧ r.toInt ≤ 10000)) (fun u => YW cy y0 r v f w g) := by
  refine ctI_of (by decide) (Nat.le_of_ble_eq_true rfl) (fun p e s m below meth c A ls Q hx hb hml hts hown hE hP hD hA hl ret => ?_)
  have hUv : (v 35).toInt + (v 36).toInt ≤ 40 := hIv.2
  have hown : s.vm.findClass RX11 = some m.cls := hown
  have hS : va_S A s.heap s.heap [] := va_S.rf
  have hl : lv_has ls 4 [(0, .int 100), (1, .int 2)] := hl
  refine lv_iconst (v := 1) hx hb dX11_power_0 (by decide) ?_
  refine lv_istore_n (lv' := [(2, .int 1), (0, .int 100), (1, .int 2)]) hx hb dX11_power_1 rfl hl (by decide) rfl (fun ls hl => ?_)
  refine lv_iconst (v := 0) hx hb dX11_power_2 (by decide) ?_
  refine lv_istore_n (lv' := [(3, .int 0), (2, .int 1), (0, .int 100), (1, .int 2)]) hx hb dX11_power_3 rfl hl (by decide) rfl (fun ls hl => ?_)
  refine lv_iload_n hx hb dX11_power_4 rfl (lv_at hl 0 rfl) ?_
  refine lv_iload_n hx hb dX11_power_5 rfl (lv_at hl 3 rfl) ?_
  refine lv_icmp_ge (tgt := 19) hx hb dX11_power_6 (by decide) (fun c0 => absurd c0 (by decide)) (fun _ => ?_)
  refine lv_iload_n hx hb dX11_power_9 rfl (lv_at hl 1 rfl) ?_
  refine lv_iload_n hx hb dX11_power_10 rfl (lv_at hl 2 rfl) ?_
  refine lv_imul hx hb dX11_power_11 ?_
  refine tI (y := 100) (by decide) ?_
  refine lv_istore_n (lv' := [(2, .int 100), (3, .int 0), (0, .int 100), (1, .int 2)]) hx hb dX11_power_12 rfl hl (by decide) rfl (fun ls hl => ?_)
  refine lv_iinc (v := 1) (lv' := [(3, .int 1), (2, .int 100), (0, .int 100), (1, .int 2)]) hx hb dX11_power_13 hl (k := 1) rfl (by decide) (by decide) rfl (fun ls hl => ?_)
  refine lv_goto (tgt := 4) hx hb dX11_power_16 (by decide) ?_
  refine lv_iload_n hx hb dX11_power_4 rfl (lv_at hl 0 rfl) ?_
  refine lv_iload_n hx hb dX11_power_5 rfl (lv_at hl 3 rfl) ?_
  refine lv_icmp_ge (tgt := 19) hx hb dX11_power_6 (by decide) (fun c0 => absurd c0 (by decide)) (fun _ => ?_)
  refine lv_iload_n hx hb dX11_power_9 rfl (lv_at hl 1 rfl) ?_
  refine lv_iload_n hx hb dX11_power_10 rfl (lv_at hl 2 rfl) ?_
  refine lv_imul hx hb dX11_power_11 ?_
  refine tI (y := 10000) (by decide) ?_
  refine lv_istore_n (lv' := [(2, .int 10000), (3, .int 1), (0, .int 100), (1, .int 2)]) hx hb dX11_power_12 rfl hl (by decide) rfl (fun ls hl => ?_)
  refine lv_iinc (v := 2) (lv' := [(3, .int 2), (2, .int 10000), (0, .int 100), (1, .int 2)]) hx hb dX11_power_13 hl (k := 1) rfl (by decide) (by decide) rfl (fun ls hl => ?_)
  refine lv_goto (tgt := 4) hx hb dX11_power_16 (by decide) ?_
  refine lv_iload_n hx hb dX11_power_4 rfl (lv_at hl 0 rfl) ?_
  refine lv_iload_n hx hb dX11_power_5 rfl (lv_at hl 3 rfl) ?_
  refine lv_icmp_ge (tgt := 19) hx hb dX11_power_6 (by decide) (fun _ => ?_) (fun c0 => absurd (by decide) c0)
  refine lv_iload_n hx hb dX11_power_19 rfl (lv_at hl 1 rfl) ?_
  exact ret 10000 () _ _ _ _ _ _ rfl ⟨gsY_X11_power_4_q0, ⟨by decide, by decide⟩⟩ hP hD hS dX11_power_20 (Nat.le_refl _) (Nat.le_refl _)
set_option maxHeartbeats 4000000 in
set_option maxRecDepth 100000 in
theorem sY_X11_power_5 (NF : Nat) (l : Launch) (dC : Nat → ClassId) (dI : Nat → Nat → Nat) (cy : Nat → ClassId) (y0 : Nat) (r : Nat → Nat)  (v : Nat → Int32) (f : Nat → Nat → Int32) (w : Int64) (g : Nat → Int64) (hIv : YI v) (hCf : YC f) (hRf : progOK (f 4) (f 5) (v 9).toInt.toNat)  : ctI l (dC, dI) cy yX11_power cX11_power 4 .int 1 60 0 0 Unit [.int 100, .int 3] (YW cy y0 r v f w g) (fun r u => gsY_X11_power_5 NF v f w g = r ∧ ((1000000 : Int) ≤ r.toInt ∧ r.toInt ≤ 1000000)) (fun u => YW cy y0 r v f w g) := by
  refine ctI_of (by decide) (Nat.le_of_ble_eq_true rfl) (fun p e s m below meth c A ls Q hx hb hml hts hown hE hP hD hA hl ret => ?_)
  have hUv : (v 35).toInt + (v 36).toInt ≤ 40 := hIv.2
  have hown : s.vm.findClass RX11 = some m.cls := hown
  have hS : va_S A s.heap s.heap [] := va_S.rf
  have hl : lv_has ls 4 [(0, .int 100), (1, .int 3)] := hl
  refine lv_iconst (v := 1) hx hb dX11_power_0 (by decide) ?_
  refine lv_istore_n (lv' := [(2, .int 1), (0, .int 100), (1, .int 3)]) hx hb dX11_power_1 rfl hl (by decide) rfl (fun ls hl => ?_)
  refine lv_iconst (v := 0) hx hb dX11_power_2 (by decide) ?_
  refine lv_istore_n (lv' := [(3, .int 0), (2, .int 1), (0, .int 100), (1, .int 3)]) hx hb dX11_power_3 rfl hl (by decide) rfl (fun ls hl => ?_)
  refine lv_iload_n hx hb dX11_power_4 rfl (lv_at hl 0 rfl) ?_
  refine lv_iload_n hx hb dX11_power_5 rfl (lv_at hl 3 rfl) ?_
  refine lv_icmp_ge (tgt := 19) hx hb dX11_power_6 (by decide) (fun c0 => absurd c0 (by decide)) (fun _ => ?_)
  refine lv_iload_n hx hb dX11_power_9 rfl (lv_at hl 1 rfl) ?_
  refine lv_iload_n hx hb dX11_power_10 rfl (lv_at hl 2 rfl) ?_
  refine lv_imul hx hb dX11_power_11 ?_
  refine tI (y := 100) (by decide) ?_
  refine lv_istore_n (lv' := [(2, .int 100), (3, .int 0), (0, .int 100), (1, .int 3)]) hx hb dX11_power_12 rfl hl (by decide) rfl (fun ls hl => ?_)
  refine lv_iinc (v := 1) (lv' := [(3, .int 1), (2, .int 100), (0, .int 100), (1, .int 3)]) hx hb dX11_power_13 hl (k := 1) rfl (by decide) (by decide) rfl (fun ls hl => ?_)
  refine lv_goto (tgt := 4) hx hb dX11_power_16 (by decide) ?_
  refine lv_iload_n hx hb dX11_power_4 rfl (lv_at hl 0 rfl) ?_
  refine lv_iload_n hx hb dX11_power_5 rfl (lv_at hl 3 rfl) ?_
  refine lv_icmp_ge (tgt := 19) hx hb dX11_power_6 (by decide) (fun c0 => absurd c0 (by decide)) (fun _ => ?_)
  refine lv_iload_n hx hb dX11_power_9 rfl (lv_at hl 1 rfl) ?_
  refine lv_iload_n hx hb dX11_power_10 rfl (lv_at hl 2 rfl) ?_
  refine lv_imul hx hb dX11_power_11 ?_
  refine tI (y := 10000) (by decide) ?_
  refine lv_istore_n (lv' := [(2, .int 10000), (3, .int 1), (0, .int 100), (1, .int 3)]) hx hb dX11_power_12 rfl hl (by decide) rfl (fun ls hl => ?_)
  refine lv_iinc (v := 2) (lv' := [(3, .int 2), (2, .int 10000), (0, .int 100), (1, .int 3)]) hx hb dX11_power_13 hl (k := 1) rfl (by decide) (by decide) rfl (fun ls hl => ?_)
  refine lv_goto (tgt := 4) hx hb dX11_power_16 (by decide) ?_
  refine lv_iload_n hx hb dX11_power_4 rfl (lv_at hl 0 rfl) ?_
  refine lv_iload_n hx hb dX11_power_5 rfl (lv_at hl 3 rfl) ?_
  refine lv_icmp_ge (tgt := 19) hx hb dX11_power_6 (by decide) (fun c0 => absurd c0 (by decide)) (fun _ => ?_)
  refine lv_iload_n hx hb dX11_power_9 rfl (lv_at hl 1 rfl) ?_
  refine lv_iload_n hx hb dX11_power_10 rfl (lv_at hl 2 rfl) ?_
  refine lv_imul hx hb dX11_power_11 ?_
  refine tI (y := 1000000) (by decide) ?_
  refine lv_istore_n (lv' := [(2, .int 1000000), (3, .int 2), (0, .int 100), (1, .int 3)]) hx hb dX11_power_12 rfl hl (by decide) rfl (fun ls hl => ?_)
  refine lv_iinc (v := 3) (lv' := [(3, .int 3), (2, .int 1000000), (0, .int 100), (1, .int 3)]) hx hb dX11_power_13 hl (k := 1) rfl (by decide) (by decide) rfl (fun ls hl => ?_)
  refine lv_goto (tgt := 4) hx hb dX11_power_16 (by decide) ?_
  refine lv_iload_n hx hb dX11_power_4 rfl (lv_at hl 0 rfl) ?_
  refine lv_iload_n hx hb dX11_power_5 rfl (lv_at hl 3 rfl) ?_
  refine lv_icmp_ge (tgt := 19) hx hb dX11_power_6 (by decide) (fun _ => ?_) (fun c0 => absurd (by decide) c0)
  refine lv_iload_n hx hb dX11_power_19 rfl (lv_at hl 1 rfl) ?_
  exact ret 1000000 () _ _ _ _ _ _ rfl ⟨gsY_X11_power_5_q0, ⟨by decide, by decide⟩⟩ hP hD hS dX11_power_20 (Nat.le_refl _) (Nat.le_refl _)
set_option maxHeartbeats 4000000 in
set_option maxRecDepth 100000 in
theorem sY_X11_power_6 (NF : Nat) (l : Launch) (dC : Nat → ClassId) (dI : Nat → Nat → Nat) (cy : Nat → ClassId) (y0 : Nat) (r : Nat → Nat)  (v : Nat → Int32) (f : Nat → Nat → Int32) (w : Int64) (g : Nat → Int64) (hIv : YI v) (hCf : YC f) (hRf : progOK (f 4) (f 5) (v 9).toInt.toNat)  : ctI l (dC, dI) cy yX11_power cX11_power 4 .int 1 60 0 0 Unit [.int 100, .int 4] (YW cy y0 r v f w g) (fun r u => gsY_X11_power_6 NF v f w g = r ∧ ((100000000 : Int) ≤ r.toInt ∧ r.toInt ≤ 100000000)) (fun u => YW cy y0 r v f w g) := by
  refine ctI_of (by decide) (Nat.le_of_ble_eq_true rfl) (fun p e s m below meth c A ls Q hx hb hml hts hown hE hP hD hA hl ret => ?_)
  have hUv : (v 35).toInt + (v 36).toInt ≤ 40 := hIv.2
  have hown : s.vm.findClass RX11 = some m.cls := hown
  have hS : va_S A s.heap s.heap [] := va_S.rf
  have hl : lv_has ls 4 [(0, .int 100), (1, .int 4)] := hl
  refine lv_iconst (v := 1) hx hb dX11_power_0 (by decide) ?_
  refine lv_istore_n (lv' := [(2, .int 1), (0, .int 100), (1, .int 4)]) hx hb dX11_power_1 rfl hl (by decide) rfl (fun ls hl => ?_)
  refine lv_iconst (v := 0) hx hb dX11_power_2 (by decide) ?_
  refine lv_istore_n (lv' := [(3, .int 0), (2, .int 1), (0, .int 100), (1, .int 4)]) hx hb dX11_power_3 rfl hl (by decide) rfl (fun ls hl => ?_)
  refine lv_iload_n hx hb dX11_power_4 rfl (lv_at hl 0 rfl) ?_
  refine lv_iload_n hx hb dX11_power_5 rfl (lv_at hl 3 rfl) ?_
  refine lv_icmp_ge (tgt := 19) hx hb dX11_power_6 (by decide) (fun c0 => absurd c0 (by decide)) (fun _ => ?_)
  refine lv_iload_n hx hb dX11_power_9 rfl (lv_at hl 1 rfl) ?_
  refine lv_iload_n hx hb dX11_power_10 rfl (lv_at hl 2 rfl) ?_
  refine lv_imul hx hb dX11_power_11 ?_
  refine tI (y := 100) (by decide) ?_
  refine lv_istore_n (lv' := [(2, .int 100), (3, .int 0), (0, .int 100), (1, .int 4)]) hx hb dX11_power_12 rfl hl (by decide) rfl (fun ls hl => ?_)
  refine lv_iinc (v := 1) (lv' := [(3, .int 1), (2, .int 100), (0, .int 100), (1, .int 4)]) hx hb dX11_power_13 hl (k := 1) rfl (by decide) (by decide) rfl (fun ls hl => ?_)
  refine lv_goto (tgt := 4) hx hb dX11_power_16 (by decide) ?_
  refine lv_iload_n hx hb dX11_power_4 rfl (lv_at hl 0 rfl) ?_
  refine lv_iload_n hx hb dX11_power_5 rfl (lv_at hl 3 rfl) ?_
  refine lv_icmp_ge (tgt := 19) hx hb dX11_power_6 (by decide) (fun c0 => absurd c0 (by decide)) (fun _ => ?_)
  refine lv_iload_n hx hb dX11_power_9 rfl (lv_at hl 1 rfl) ?_
  refine lv_iload_n hx hb dX11_power_10 rfl (lv_at hl 2 rfl) ?_
  refine lv_imul hx hb dX11_power_11 ?_
  refine tI (y := 10000) (by decide) ?_
  refine lv_istore_n (lv' := [(2, .int 10000), (3, .int 1), (0, .int 100), (1, .int 4)]) hx hb dX11_power_12 rfl hl (by decide) rfl (fun ls hl => ?_)
  refine lv_iinc (v := 2) (lv' := [(3, .int 2), (2, .int 10000), (0, .int 100), (1, .int 4)]) hx hb dX11_power_13 hl (k := 1) rfl (by decide) (by decide) rfl (fun ls hl => ?_)
  refine lv_goto (tgt := 4) hx hb dX11_power_16 (by decide) ?_
  refine lv_iload_n hx hb dX11_power_4 rfl (lv_at hl 0 rfl) ?_
  refine lv_iload_n hx hb dX11_power_5 rfl (lv_at hl 3 rfl) ?_
  refine lv_icmp_ge (tgt := 19) hx hb dX11_power_6 (by decide) (fun c0 => absurd c0 (by decide)) (fun _ => ?_)
  refine lv_iload_n hx hb dX11_power_9 rfl (lv_at hl 1 rfl) ?_
  refine lv_iload_n hx hb dX11_power_10 rfl (lv_at hl 2 rfl) ?_
  refine lv_imul hx hb dX11_power_11 ?_
  refine tI (y := 1000000) (by decide) ?_
  refine lv_istore_n (lv' := [(2, .int 1000000), (3, .int 2), (0, .int 100), (1, .int 4)]) hx hb dX11_power_12 rfl hl (by decide) rfl (fun ls hl => ?_)
  refine lv_iinc (v := 3) (lv' := [(3, .int 3), (2, .int 1000000), (0, .int 100), (1, .int 4)]) hx hb dX11_power_13 hl (k := 1) rfl (by decide) (by decide) rfl (fun ls hl => ?_)
  refine lv_goto (tgt := 4) hx hb dX11_power_16 (by decide) ?_
  refine lv_iload_n hx hb dX11_power_4 rfl (lv_at hl 0 rfl) ?_
  refine lv_iload_n hx hb dX11_power_5 rfl (lv_at hl 3 rfl) ?_
  refine lv_icmp_ge (tgt := 19) hx hb dX11_power_6 (by decide) (fun c0 => absurd c0 (by decide)) (fun _ => ?_)
  refine lv_iload_n hx hb dX11_power_9 rfl (lv_at hl 1 rfl) ?_
  refine lv_iload_n hx hb dX11_power_10 rfl (lv_at hl 2 rfl) ?_
  refine lv_imul hx hb dX11_power_11 ?_
  refine tI (y := 100000000) (by decide) ?_
  refine lv_istore_n (lv' := [(2, .int 100000000), (3, .int 3), (0, .int 100), (1, .int 4)]) hx hb dX11_power_12 rfl hl (by decide) rfl (fun ls hl => ?_)
  refine lv_iinc (v := 4) (lv' := [(3, .int 4), (2, .int 100000000), (0, .int 100), (1, .int 4)]) hx hb dX11_power_13 hl (k := 1) rfl (by decide) (by decide) rfl (fun ls hl => ?_)
  refine lv_goto (tgt := 4) hx hb dX11_power_16 (by decide) ?_
  refine lv_iload_n hx hb dX11_power_4 rfl (lv_at hl 0 rfl) ?_
  refine lv_iload_n hx hb dX11_power_5 rfl (lv_at hl 3 rfl) ?_
  refine lv_icmp_ge (tgt := 19) hx hb dX11_power_6 (by decide) (fun _ => ?_) (fun c0 => absurd (by decide) c0)
  refine lv_iload_n hx hb dX11_power_19 rfl (lv_at hl 1 rfl) ?_
  exact ret 100000000 () _ _ _ _ _ _ rfl ⟨gsY_X11_power_6_q0, ⟨by decide, by decide⟩⟩ hP hD hS dX11_power_20 (Nat.le_refl _) (Nat.le_refl _)
set_option maxHeartbeats 4000000 in
set_option maxRecDepth 100000 in
theorem sY_X11_odds_1 (NF : Nat) (l : Launch) (dC : Nat → ClassId) (dI : Nat → Nat → Nat) (cy : Nat → ClassId) (y0 : Nat) (r : Nat → Nat) (p1 : Int32) (p2 : Int32) (v : Nat → Int32) (f : Nat → Nat → Int32) (w : Int64) (g : Nat → Int64) (hIv : YI v) (hCf : YC f) (hRf : progOK (f 4) (f 5) (v 9).toInt.toNat)  : ctI l (dC, dI) cy yX11_odds cX11_odds 6 .int 2 84 0 0 Unit [.ref y0, .int p1, .int p2] (YW cy y0 r v f w g) (fun r u => gsY_X11_odds_1 NF p1 p2 v f w g = r) (fun u => YW cy y0 r v f w g) := by
  refine ctI_of (by decide) (Nat.le_of_ble_eq_true rfl) (fun p e s m below meth c A ls Q hx hb hml hts hown hE hP hD hA hl ret => ?_)
  have hUv : (v 35).toInt + (v 36).toInt ≤ 40 := hIv.2
  have hown : s.vm.findClass RX11 = some m.cls := hown
  have hS : va_S A s.heap s.heap [] := va_S.rf
  have hl : lv_has ls 6 [(0, .ref y0), (1, .int p1), (2, .int p2)] := hl
  refine lv_iload_n hx hb dX11_odds_0 rfl (lv_at hl 1 rfl) ?_
  refine lv_iconst (v := 0) hx hb dX11_odds_1 (by decide) ?_
  refine lv_iconst (v := 4) hx hb dX11_odds_2 (by decide) ?_
  have lt1 : (0 : Int32).toInt = 0 := by decide
  have lt2 : (4 : Int32).toInt = 4 := by decide
  refine cbSi (n := 3) (rest := []) hx hb hml hown hts hE hP hD hS hA (sY_X11_isIn_1 NF l dC dI cy y0 r p1 0 4 v f w g hIv hCf hRf ) k_1736 k_1737 k_114 k_1738 (by decide +kernel) ⟨Nat.le_of_ble_eq_true rfl, Nat.le_of_ble_eq_true rfl⟩ (rfl) hl.1 rfl (Nat.le_of_ble_eq_true rfl) dX11_odds_3 (fun r3 u H locs hw hP hD hS => ?_)
  obtain ⟨hG4, hw⟩ := hw
  rcases hw with ⟨g5, g5_0, g5_1⟩ | ⟨g5⟩
  · skip
    subst g5
    refine lv_if_eq (tgt := 18) hx hb dX11_odds_6 (by decide) (fun c0 => absurd c0 (by decide)) (fun _ => ?_)
    refine lv_iload_n hx hb dX11_odds_9 rfl (lv_at hl 2 rfl) ?_
    refine lv_iconst (v := 0) hx hb dX11_odds_10 (by decide) ?_
    refine lv_iconst (v := 1) hx hb dX11_odds_11 (by decide) ?_
    have lt6 : (1 : Int32).toInt = 1 := by decide
    refine cbSi (n := 3) (rest := []) hx hb hml hown hts hE hP hD hS hA (sY_X11_isIn_1 NF l dC dI cy y0 r p2 0 1 v f w g hIv hCf hRf ) k_1736 k_1737 k_114 k_1738 (by decide +kernel) ⟨Nat.le_of_ble_eq_true rfl, Nat.le_of_ble_eq_true rfl⟩ (rfl) hl.1 rfl (Nat.le_of_ble_eq_true rfl) dX11_odds_12 (fun r7 u H locs hw hP hD hS => ?_)
    obtain ⟨hG8, hw⟩ := hw
    rcases hw with ⟨g9, g9_0, g9_1⟩ | ⟨g9⟩
    · skip
      subst g9
      refine lv_if_ne (tgt := 20) hx hb dX11_odds_15 (by decide) (fun _ => ?_) (fun c0 => absurd c0 (by decide))
      refine lv_bipush (v := 100) hx hb dX11_odds_20 (by decide) ?_
      refine lv_aload_n hx hb dX11_odds_22 rfl (lv_at hl 0 rfl) ?_
      refine va_get (D := (dC, dI)) (ci := 11) (v := .int (v 29)) (C := RX11) (T := TX11) (N := 79) hx hb hts inB_11 hown hE.1 hP 0 rfl rfl 53 (by decide) (hts _ k_1373) (fun _ h9 => h9) rfl dX11_odds_23 ?_
      refine lv_isub hx hb dX11_odds_26 ?_
      refine lv_topi (fun t10 et10 => ?_)
      refine lv_iload_n hx hb dX11_odds_27 rfl (lv_at hl 1 rfl) ?_
      refine cbSi (n := 2) (rest := []) hx hb hml hown hts hE hP hD hS hA (sY_X11_power_1 NF l dC dI cy y0 r t10 p1 v f w g hIv hCf hRf ) k_1877 k_1878 k_114 k_1879 (by decide +kernel) ⟨Nat.le_of_ble_eq_true rfl, Nat.le_of_ble_eq_true rfl⟩ (rfl) hl.1 rfl (Nat.le_of_ble_eq_true rfl) dX11_odds_28 (fun r11 u H locs hw hP hD hS => ?_)
      have hG12 := hw
      refine lv_istore_n (lv' := [(3, .int r11), (0, .ref y0), (1, .int p1), (2, .int p2)]) hx hb dX11_odds_31 rfl hl (by decide) rfl (fun ls hl => ?_)
      refine lv_bipush (v := 100) hx hb dX11_odds_32 (by decide) ?_
      refine lv_iload_n hx hb dX11_odds_34 rfl (lv_at hl 2 rfl) ?_
      by_cases c13 : p1 = 0
      · skip
        refine tI (y := 0) c13 ?_
        refine cbSi (n := 2) (rest := []) hx hb hml hown hts hE hP hD hS hA (sY_X11_power_2 NF l dC dI cy y0 r  v f w g hIv hCf hRf ) k_1877 k_1878 k_114 k_1879 (by decide +kernel) ⟨Nat.le_of_ble_eq_true rfl, Nat.le_of_ble_eq_true rfl⟩ (rfl) hl.1 rfl (Nat.le_of_ble_eq_true rfl) dX11_odds_35 (fun r14 u H locs hw hP hD hS => ?_)
        obtain ⟨hG15, hw⟩ := hw
        refine lv_istore (lv' := [(4, .int r14), (3, .int r11), (0, .ref y0), (1, .int p1), (2, .int p2)]) hx hb dX11_odds_38 hl (by decide) rfl (fun ls hl => ?_)
        refine lv_iload hx hb dX11_odds_40 (lv_at hl 0 rfl) ?_
        refine lv_iload_n hx hb dX11_odds_42 rfl (lv_at hl 1 rfl) ?_
        refine cbSi (n := 2) (rest := []) hx hb hml hown hts hE hP hD hS hA (sY_X11_divisor_1 NF l dC dI cy y0 r r14 r11 v f w g hIv hCf hRf ⟨show (1 : Int) ≤ r14.toInt by omega, show r14.toInt ≤ (2147483647 : Int) by omega⟩) k_2000 k_2001 k_114 k_2002 (by decide +kernel) ⟨Nat.le_of_ble_eq_true rfl, Nat.le_of_ble_eq_true rfl⟩ (rfl) hl.1 rfl (Nat.le_of_ble_eq_true rfl) dX11_odds_43 (fun r16 u H locs hw hP hD hS => ?_)
        obtain ⟨hG17, hw⟩ := hw
        refine lv_istore (lv' := [(5, .int r16), (4, .int r14), (3, .int r11), (0, .ref y0), (1, .int p1), (2, .int p2)]) hx hb dX11_odds_46 hl (by decide) rfl (fun ls hl => ?_)
        refine lv_iload_n hx hb dX11_odds_48 rfl (lv_at hl 5 rfl) ?_
        refine lv_if_ne (tgt := 59) hx hb dX11_odds_49 (by decide) (fun c18 => ?_) (fun c18 => ?_)
        · skip
          have zc18 : ¬ (p2.toInt = 0) := by rw [fa_eq, show (0 : Int32).toInt = 0 from by decide] at c18; exact c18
          refine lv_iload hx hb dX11_odds_59 (lv_at hl 1 rfl) ?_
          refine lv_iload hx hb dX11_odds_61 (lv_at hl 0 rfl) ?_
          refine lv_idiv hx hb dX11_odds_63 (ne0 (by omega)) ?_
          refine lv_topi (fun t19 et19 => ?_)
          have zt19 : 0 ≤ t19.toInt ∧ t19.toInt ≤ r14.toInt := by rw [et19]; exact div_rng (zx := r14.toInt) (zy := r16.toInt) rfl rfl (by omega) (by omega)
          exact ret t19 () _ _ _ _ _ _ rfl (gsY_X11_odds_1_q0 hG4 hG8 et10 hG12.symm c13 hG15.symm hG17.symm c18 et19) hP hD hS dX11_odds_64 (Nat.le_refl _) (Nat.le_refl _)
        · skip
          have zc18 : p2.toInt = 0 := by rw [fa_eq, show (0 : Int32).toInt = 0 from by decide] at c18; exact c18
          refine lv_iload_n hx hb dX11_odds_52 rfl (lv_at hl 2 rfl) ?_
          refine lv_iload hx hb dX11_odds_53 (lv_at hl 0 rfl) ?_
          refine lv_idiv hx hb dX11_odds_55 (ne0 (by omega)) ?_
          refine lv_topi (fun t20 et20 => ?_)
          refine lv_goto (tgt := 64) hx hb dX11_odds_56 (by decide) ?_
          exact ret t20 () _ _ _ _ _ _ rfl (gsY_X11_odds_1_q1 hG4 hG8 et10 hG12.symm c13 hG15.symm hG17.symm c18 et20) hP hD hS dX11_odds_64 (Nat.le_refl _) (Nat.le_refl _)
      · skip
        have zc13 : ¬ (p1.toInt = 0) := by rw [fa_eq, show (0 : Int32).toInt = 0 from by decide] at c13; exact c13
        by_cases c21 : p1 = 1
        · skip
          refine tI (y := 1) c21 ?_
          refine cbSi (n := 2) (rest := []) hx hb hml hown hts hE hP hD hS hA (sY_X11_power_3 NF l dC dI cy y0 r  v f w g hIv hCf hRf ) k_1877 k_1878 k_114 k_1879 (by decide +kernel) ⟨Nat.le_of_ble_eq_true rfl, Nat.le_of_ble_eq_true rfl⟩ (rfl) hl.1 rfl (Nat.le_of_ble_eq_true rfl) dX11_odds_35 (fun r22 u H locs hw hP hD hS => ?_)
          obtain ⟨hG23, hw⟩ := hw
          refine lv_istore (lv' := [(4, .int r22), (3, .int r11), (0, .ref y0), (1, .int p1), (2, .int p2)]) hx hb dX11_odds_38 hl (by decide) rfl (fun ls hl => ?_)
          refine lv_iload hx hb dX11_odds_40 (lv_at hl 0 rfl) ?_
          refine lv_iload_n hx hb dX11_odds_42 rfl (lv_at hl 1 rfl) ?_
          refine cbSi (n := 2) (rest := []) hx hb hml hown hts hE hP hD hS hA (sY_X11_divisor_1 NF l dC dI cy y0 r r22 r11 v f w g hIv hCf hRf ⟨show (1 : Int) ≤ r22.toInt by omega, show r22.toInt ≤ (2147483647 : Int) by omega⟩) k_2000 k_2001 k_114 k_2002 (by decide +kernel) ⟨Nat.le_of_ble_eq_true rfl, Nat.le_of_ble_eq_true rfl⟩ (rfl) hl.1 rfl (Nat.le_of_ble_eq_true rfl) dX11_odds_43 (fun r24 u H locs hw hP hD hS => ?_)
          obtain ⟨hG25, hw⟩ := hw
          refine lv_istore (lv' := [(5, .int r24), (4, .int r22), (3, .int r11), (0, .ref y0), (1, .int p1), (2, .int p2)]) hx hb dX11_odds_46 hl (by decide) rfl (fun ls hl => ?_)
          refine lv_iload_n hx hb dX11_odds_48 rfl (lv_at hl 5 rfl) ?_
          refine lv_if_ne (tgt := 59) hx hb dX11_odds_49 (by decide) (fun c26 => ?_) (fun c26 => ?_)
          · skip
            have zc26 : ¬ (p2.toInt = 0) := by rw [fa_eq, show (0 : Int32).toInt = 0 from by decide] at c26; exact c26
            refine lv_iload hx hb dX11_odds_59 (lv_at hl 1 rfl) ?_
            refine lv_iload hx hb dX11_odds_61 (lv_at hl 0 rfl) ?_
            refine lv_idiv hx hb dX11_odds_63 (ne0 (by omega)) ?_
            refine lv_topi (fun t27 et27 => ?_)
            have zt27 : 0 ≤ t27.toInt ∧ t27.toInt ≤ r22.toInt := by rw [et27]; exact div_rng (zx := r22.toInt) (zy := r24.toInt) rfl rfl (by omega) (by omega)
            exact ret t27 () _ _ _ _ _ _ rfl (gsY_X11_odds_1_q2 hG4 hG8 et10 hG12.symm c13 c21 hG23.symm hG25.symm c26 et27) hP hD hS dX11_odds_64 (Nat.le_refl _) (Nat.le_refl _)
          · skip
            have zc26 : p2.toInt = 0 := by rw [fa_eq, show (0 : Int32).toInt = 0 from by decide] at c26; exact c26
            refine lv_iload_n hx hb dX11_odds_52 rfl (lv_at hl 2 rfl) ?_
            refine lv_iload hx hb dX11_odds_53 (lv_at hl 0 rfl) ?_
            refine lv_idiv hx hb dX11_odds_55 (ne0 (by omega)) ?_
            refine lv_topi (fun t28 et28 => ?_)
            refine lv_goto (tgt := 64) hx hb dX11_odds_56 (by decide) ?_
            exact ret t28 () _ _ _ _ _ _ rfl (gsY_X11_odds_1_q3 hG4 hG8 et10 hG12.symm c13 c21 hG23.symm hG25.symm c26 et28) hP hD hS dX11_odds_64 (Nat.le_refl _) (Nat.le_refl _)
        · skip
          have zc21 : ¬ (p1.toInt = 1) := by rw [fa_eq, show (1 : Int32).toInt = 1 from by decide] at c21; exact c21
          by_cases c29 : p1 = 2
          · skip
            refine tI (y := 2) c29 ?_
            refine cbSi (n := 2) (rest := []) hx hb hml hown hts hE hP hD hS hA (sY_X11_power_4 NF l dC dI cy y0 r  v f w g hIv hCf hRf ) k_1877 k_1878 k_114 k_1879 (by decide +kernel) ⟨Nat.le_of_ble_eq_true rfl, Nat.le_of_ble_eq_true rfl⟩ (rfl) hl.1 rfl (Nat.le_of_ble_eq_true rfl) dX11_odds_35 (fun r30 u H locs hw hP hD hS => ?_)
            obtain ⟨hG31, hw⟩ := hw
            refine lv_istore (lv' := [(4, .int r30), (3, .int r11), (0, .ref y0), (1, .int p1), (2, .int p2)]) hx hb dX11_odds_38 hl (by decide) rfl (fun ls hl => ?_)
            refine lv_iload hx hb dX11_odds_40 (lv_at hl 0 rfl) ?_
            refine lv_iload_n hx hb dX11_odds_42 rfl (lv_at hl 1 rfl) ?_
            refine cbSi (n := 2) (rest := []) hx hb hml hown hts hE hP hD hS hA (sY_X11_divisor_1 NF l dC dI cy y0 r r30 r11 v f w g hIv hCf hRf ⟨show (1 : Int) ≤ r30.toInt by omega, show r30.toInt ≤ (2147483647 : Int) by omega⟩) k_2000 k_2001 k_114 k_2002 (by decide +kernel) ⟨Nat.le_of_ble_eq_true rfl, Nat.le_of_ble_eq_true rfl⟩ (rfl) hl.1 rfl (Nat.le_of_ble_eq_true rfl) dX11_odds_43 (fun r32 u H locs hw hP hD hS => ?_)
            obtain ⟨hG33, hw⟩ := hw
            refine lv_istore (lv' := [(5, .int r32), (4, .int r30), (3, .int r11), (0, .ref y0), (1, .int p1), (2, .int p2)]) hx hb dX11_odds_46 hl (by decide) rfl (fun ls hl => ?_)
            refine lv_iload_n hx hb dX11_odds_48 rfl (lv_at hl 5 rfl) ?_
            refine lv_if_ne (tgt := 59) hx hb dX11_odds_49 (by decide) (fun c34 => ?_) (fun c34 => ?_)
            · skip
              have zc34 : ¬ (p2.toInt = 0) := by rw [fa_eq, show (0 : Int32).toInt = 0 from by decide] at c34; exact c34
              refine lv_iload hx hb dX11_odds_59 (lv_at hl 1 rfl) ?_
              refine lv_iload hx hb dX11_odds_61 (lv_at hl 0 rfl) ?_
              refine lv_idiv hx hb dX11_odds_63 (ne0 (by omega)) ?_
              refine lv_topi (fun t35 et35 => ?_)
              have zt35 : 0 ≤ t35.toInt ∧ t35.toInt ≤ r30.toInt := by rw [et35]; exact div_rng (zx := r30.toInt) (zy := r32.toInt) rfl rfl (by omega) (by omega)
              exact ret t35 () _ _ _ _ _ _ rfl (gsY_X11_odds_1_q4 hG4 hG8 et10 hG12.symm c13 c21 c29 hG31.symm hG33.symm c34 et35) hP hD hS dX11_odds_64 (Nat.le_refl _) (Nat.le_refl _)
            · skip
              have zc34 : p2.toInt = 0 := by rw [fa_eq, show (0 : Int32).toInt = 0 from by decide] at c34; exact c34
              refine lv_iload_n hx hb dX11_odds_52 rfl (lv_at hl 2 rfl) ?_
              refine lv_iload hx hb dX11_odds_53 (lv_at hl 0 rfl) ?_
              refine lv_idiv hx hb dX11_odds_55 (ne0 (by omega)) ?_
              refine lv_topi (fun t36 et36 => ?_)
              refine lv_goto (tgt := 64) hx hb dX11_odds_56 (by decide) ?_
              exact ret t36 () _ _ _ _ _ _ rfl (gsY_X11_odds_1_q5 hG4 hG8 et10 hG12.symm c13 c21 c29 hG31.symm hG33.symm c34 et36) hP hD hS dX11_odds_64 (Nat.le_refl _) (Nat.le_refl _)
          · skip
            have zc29 : ¬ (p1.toInt = 2) := by rw [fa_eq, show (2 : Int32).toInt = 2 from by decide] at c29; exact c29
            by_cases c37 : p1 = 3
            · skip
              refine tI (y := 3) c37 ?_
              refine cbSi (n := 2) (rest := []) hx hb hml hown hts hE hP hD hS hA (sY_X11_power_5 NF l dC dI cy y0 r  v f w g hIv hCf hRf ) k_1877 k_1878 k_114 k_1879 (by decide +kernel) ⟨Nat.le_of_ble_eq_true rfl, Nat.le_of_ble_eq_true rfl⟩ (rfl) hl.1 rfl (Nat.le_of_ble_eq_true rfl) dX11_odds_35 (fun r38 u H locs hw hP hD hS => ?_)
              obtain ⟨hG39, hw⟩ := hw
              refine lv_istore (lv' := [(4, .int r38), (3, .int r11), (0, .ref y0), (1, .int p1), (2, .int p2)]) hx hb dX11_odds_38 hl (by decide) rfl (fun ls hl => ?_)
              refine lv_iload hx hb dX11_odds_40 (lv_at hl 0 rfl) ?_
              refine lv_iload_n hx hb dX11_odds_42 rfl (lv_at hl 1 rfl) ?_
              refine cbSi (n := 2) (rest := []) hx hb hml hown hts hE hP hD hS hA (sY_X11_divisor_1 NF l dC dI cy y0 r r38 r11 v f w g hIv hCf hRf ⟨show (1 : Int) ≤ r38.toInt by omega, show r38.toInt ≤ (2147483647 : Int) by omega⟩) k_2000 k_2001 k_114 k_2002 (by decide +kernel) ⟨Nat.le_of_ble_eq_true rfl, Nat.le_of_ble_eq_true rfl⟩ (rfl) hl.1 rfl (Nat.le_of_ble_eq_true rfl) dX11_odds_43 (fun r40 u H locs hw hP hD hS => ?_)
              obtain ⟨hG41, hw⟩ := hw
              refine lv_istore (lv' := [(5, .int r40), (4, .int r38), (3, .int r11), (0, .ref y0), (1, .int p1), (2, .int p2)]) hx hb dX11_odds_46 hl (by decide) rfl (fun ls hl => ?_)
              refine lv_iload_n hx hb dX11_odds_48 rfl (lv_at hl 5 rfl) ?_
              refine lv_if_ne (tgt := 59) hx hb dX11_odds_49 (by decide) (fun c42 => ?_) (fun c42 => ?_)
              · skip
                have zc42 : ¬ (p2.toInt = 0) := by rw [fa_eq, show (0 : Int32).toInt = 0 from by decide] at c42; exact c42
                refine lv_iload hx hb dX11_odds_59 (lv_at hl 1 rfl) ?_
                refine lv_iload hx hb dX11_odds_61 (lv_at hl 0 rfl) ?_
                refine lv_idiv hx hb dX11_odds_63 (ne0 (by omega)) ?_
                refine lv_topi (fun t43 et43 => ?_)
                have zt43 : 0 ≤ t43.toInt ∧ t43.toInt ≤ r38.toInt := by rw [et43]; exact div_rng (zx := r38.toInt) (zy := r40.toInt) rfl rfl (by omega) (by omega)
                exact ret t43 () _ _ _ _ _ _ rfl (gsY_X11_odds_1_q6 hG4 hG8 et10 hG12.symm c13 c21 c29 c37 hG39.symm hG41.symm c42 et43) hP hD hS dX11_odds_64 (Nat.le_refl _) (Nat.le_refl _)
              · skip
                have zc42 : p2.toInt = 0 := by rw [fa_eq, show (0 : Int32).toInt = 0 from by decide] at c42; exact c42
                refine lv_iload_n hx hb dX11_odds_52 rfl (lv_at hl 2 rfl) ?_
                refine lv_iload hx hb dX11_odds_53 (lv_at hl 0 rfl) ?_
                refine lv_idiv hx hb dX11_odds_55 (ne0 (by omega)) ?_
                refine lv_topi (fun t44 et44 => ?_)
                refine lv_goto (tgt := 64) hx hb dX11_odds_56 (by decide) ?_
                exact ret t44 () _ _ _ _ _ _ rfl (gsY_X11_odds_1_q7 hG4 hG8 et10 hG12.symm c13 c21 c29 c37 hG39.symm hG41.symm c42 et44) hP hD hS dX11_odds_64 (Nat.le_refl _) (Nat.le_refl _)
            · skip
              have zc37 : ¬ (p1.toInt = 3) := by rw [fa_eq, show (3 : Int32).toInt = 3 from by decide] at c37; exact c37
              by_cases c45 : p1 = 4
              · skip
                refine tI (y := 4) c45 ?_
                refine cbSi (n := 2) (rest := []) hx hb hml hown hts hE hP hD hS hA (sY_X11_power_6 NF l dC dI cy y0 r  v f w g hIv hCf hRf ) k_1877 k_1878 k_114 k_1879 (by decide +kernel) ⟨Nat.le_of_ble_eq_true rfl, Nat.le_of_ble_eq_true rfl⟩ (rfl) hl.1 rfl (Nat.le_of_ble_eq_true rfl) dX11_odds_35 (fun r46 u H locs hw hP hD hS => ?_)
                obtain ⟨hG47, hw⟩ := hw
                refine lv_istore (lv' := [(4, .int r46), (3, .int r11), (0, .ref y0), (1, .int p1), (2, .int p2)]) hx hb dX11_odds_38 hl (by decide) rfl (fun ls hl => ?_)
                refine lv_iload hx hb dX11_odds_40 (lv_at hl 0 rfl) ?_
                refine lv_iload_n hx hb dX11_odds_42 rfl (lv_at hl 1 rfl) ?_
                refine cbSi (n := 2) (rest := []) hx hb hml hown hts hE hP hD hS hA (sY_X11_divisor_1 NF l dC dI cy y0 r r46 r11 v f w g hIv hCf hRf ⟨show (1 : Int) ≤ r46.toInt by omega, show r46.toInt ≤ (2147483647 : Int) by omega⟩) k_2000 k_2001 k_114 k_2002 (by decide +kernel) ⟨Nat.le_of_ble_eq_true rfl, Nat.le_of_ble_eq_true rfl⟩ (rfl) hl.1 rfl (Nat.le_of_ble_eq_true rfl) dX11_odds_43 (fun r48 u H locs hw hP hD hS => ?_)
                obtain ⟨hG49, hw⟩ := hw
                refine lv_istore (lv' := [(5, .int r48), (4, .int r46), (3, .int r11), (0, .ref y0), (1, .int p1), (2, .int p2)]) hx hb dX11_odds_46 hl (by decide) rfl (fun ls hl => ?_)
                refine lv_iload_n hx hb dX11_odds_48 rfl (lv_at hl 5 rfl) ?_
                refine lv_if_ne (tgt := 59) hx hb dX11_odds_49 (by decide) (fun c50 => ?_) (fun c50 => ?_)
                · skip
                  have zc50 : ¬ (p2.toInt = 0) := by rw [fa_eq, show (0 : Int32).toInt = 0 from by decide] at c50; exact c50
                  refine lv_iload hx hb dX11_odds_59 (lv_at hl 1 rfl) ?_
                  refine lv_iload hx hb dX11_odds_61 (lv_at hl 0 rfl) ?_
                  refine lv_idiv hx hb dX11_odds_63 (ne0 (by omega)) ?_
                  refine lv_topi (fun t51 et51 => ?_)
                  have zt51 : 0 ≤ t51.toInt ∧ t51.toInt ≤ r46.toInt := by rw [et51]; exact div_rng (zx := r46.toInt) (zy := r48.toInt) rfl rfl (by omega) (by omega)
                  exact ret t51 () _ _ _ _ _ _ rfl (gsY_X11_odds_1_q8 hG4 hG8 et10 hG12.symm c13 c21 c29 c37 c45 hG47.symm hG49.symm c50 et51) hP hD hS dX11_odds_64 (Nat.le_refl _) (Nat.le_refl _)
                · skip
                  have zc50 : p2.toInt = 0 := by rw [fa_eq, show (0 : Int32).toInt = 0 from by decide] at c50; exact c50
                  refine lv_iload_n hx hb dX11_odds_52 rfl (lv_at hl 2 rfl) ?_
                  refine lv_iload hx hb dX11_odds_53 (lv_at hl 0 rfl) ?_
                  refine lv_idiv hx hb dX11_odds_55 (ne0 (by omega)) ?_
                  refine lv_topi (fun t52 et52 => ?_)
                  refine lv_goto (tgt := 64) hx hb dX11_odds_56 (by decide) ?_
                  exact ret t52 () _ _ _ _ _ _ rfl (gsY_X11_odds_1_q9 hG4 hG8 et10 hG12.symm c13 c21 c29 c37 c45 hG47.symm hG49.symm c50 et52) hP hD hS dX11_odds_64 (Nat.le_refl _) (Nat.le_refl _)
              · skip
                have zc45 : ¬ (p1.toInt = 4) := by rw [fa_eq, show (4 : Int32).toInt = 4 from by decide] at c45; exact c45
                exact (show False by omega).elim
    · skip
      subst g9
      refine lv_if_ne (tgt := 20) hx hb dX11_odds_15 (by decide) (fun c0 => absurd (by decide) c0) (fun _ => ?_)
      refine lv_iconst (v := (-1)) hx hb dX11_odds_18 (by decide) ?_
      exact ret (-1) () _ _ _ _ _ _ rfl (gsY_X11_odds_1_q10 hG4 hG8) hP hD hS dX11_odds_19 (Nat.le_refl _) (Nat.le_refl _)
  · skip
    subst g5
    refine lv_if_eq (tgt := 18) hx hb dX11_odds_6 (by decide) (fun _ => ?_) (fun c0 => absurd (by decide) c0)
    refine lv_iconst (v := (-1)) hx hb dX11_odds_18 (by decide) ?_
    exact ret (-1) () _ _ _ _ _ _ rfl (gsY_X11_odds_1_q11 hG4) hP hD hS dX11_odds_19 (Nat.le_refl _) (Nat.le_refl _)
set_option maxHeartbeats 4000000 in
set_option maxRecDepth 100000 in
theorem sY_X11_isMan_1 (l : Launch) (dC : Nat → ClassId) (dI : Nat → Nat → Nat) (cy : Nat → ClassId) (y0 : Nat) (r : Nat → Nat) (p1 : Int32) (v : Nat → Int32) (f : Nat → Nat → Int32) (w : Int64) (g : Nat → Int64) (hIv : YI v) (hCf : YC f) (hRf : progOK (f 4) (f 5) (v 9).toInt.toNat)  : ctI l (dC, dI) cy yX11_isMan cX11_isMan 2 .boolean 2 82 0 0 Unit [.ref y0, .int p1] (YW cy y0 r v f w g) (fun r u => ((r = 1 ∧ 0 ≤ p1.toInt ∧ p1.toInt < (v 24).toInt ∧ p1.toInt ≤ 5) ∨ (r = 0))) (fun u => YW cy y0 r v f w g) := by
  refine ctI_of (by decide) (Nat.le_of_ble_eq_true rfl) (fun p e s m below meth c A ls Q hx hb hml hts hown hE hP hD hA hl ret => ?_)
  have hUv : (v 35).toInt + (v 36).toInt ≤ 40 := hIv.2
  have hown : s.vm.findClass RX11 = some m.cls := hown
  have hS : va_S A s.heap s.heap [] := va_S.rf
  have hl : lv_has ls 2 [(0, .ref y0), (1, .int p1)] := hl
  refine lv_iload_n hx hb dX11_isMan_0 rfl (lv_at hl 1 rfl) ?_
  refine lv_iconst (v := 0) hx hb dX11_isMan_1 (by decide) ?_
  refine lv_aload_n hx hb dX11_isMan_2 rfl (lv_at hl 0 rfl) ?_
  refine va_get (D := (dC, dI)) (ci := 11) (v := .int (v 24)) (C := RX11) (T := TX11) (N := 79) hx hb hts inB_11 hown hE.1 hP 0 rfl rfl 48 (by decide) (hts _ k_1368) (fun _ h9 => h9) rfl dX11_isMan_3 ?_
  have b24_v : 0 ≤ (v 24).toInt ∧ (v 24).toInt ≤ 6 := YIb.b hIv.1 24 (by decide)
  refine lv_iconst (v := 1) hx hb dX11_isMan_6 (by decide) ?_
  refine lv_isub hx hb dX11_isMan_7 ?_
  refine lv_topi (fun t1 et1 => ?_)
  have rg2 := fb_rng (v 24)
  have zt1 : t1.toInt = (v 24).toInt - 1 := by rw [et1]; exact sub_i rfl (by decide) (by omega) (by omega)
  have lt3 : (0 : Int32).toInt = 0 := by decide
  refine cbSi (n := 3) (rest := []) hx hb hml hown hts hE hP hD hS hA (sY_X11_isIn_1 0 l dC dI cy y0 r p1 0 t1 v f w g hIv hCf hRf ) k_1736 k_1737 k_114 k_1738 (by decide +kernel) ⟨Nat.le_of_ble_eq_true rfl, Nat.le_of_ble_eq_true rfl⟩ (rfl) hl.1 rfl (Nat.le_of_ble_eq_true rfl) dX11_isMan_8 (fun r4 u H locs hw hP hD hS => ?_)
  obtain ⟨hG5, hw⟩ := hw
  rcases hw with ⟨g6, g6_0, g6_1⟩ | ⟨g6⟩
  · skip
    subst g6
    exact ret 1 () _ _ _ _ _ _ rfl (Or.inl ⟨rfl, by omega, by omega, by omega⟩) hP hD hS dX11_isMan_11 (Nat.le_refl _) (Nat.le_refl _)
  · skip
    subst g6
    exact ret 0 () _ _ _ _ _ _ rfl (Or.inr rfl) hP hD hS dX11_isMan_11 (Nat.le_refl _) (Nat.le_refl _)
set_option maxHeartbeats 4000000 in
set_option maxRecDepth 100000 in
theorem sY_X11_fill_1 (l : Launch) (dC : Nat → ClassId) (dI : Nat → Nat → Nat) (cy : Nat → ClassId) (y0 : Nat) (r : Nat → Nat)  (v : Nat → Int32) (f : Nat → Nat → Int32) (w : Int64) (g : Nat → Int64) (hIv : YI v) (hCf : YC f) (hRf : progOK (f 4) (f 5) (v 9).toInt.toNat)  : ctV l (dC, dI) cy yX11_fill cX11_fill 2 1 60 0 0 ((Nat → Int32) × (Nat → Nat → Int32) × (Int64) × (Nat → Int64)) [.ref y0] (YW cy y0 r v f w g) (fun u => KV [] u.1 v ∧ KF [24] u.2.1 f ∧ YI u.1 ∧ YC u.2.1 ∧ progOK (u.2.1 4) (u.2.1 5) (u.1 9).toInt.toNat ∧ u.1 0 = v 0 ∧ u.1 1 = v 1 ∧ u.1 2 = v 2 ∧ u.1 3 = v 3 ∧ u.1 4 = v 4 ∧ u.1 5 = v 5 ∧ u.1 8 = v 8 ∧ u.1 9 = v 9 ∧ u.1 10 = v 10 ∧ u.1 13 = v 13 ∧ u.1 14 = v 14 ∧ u.1 15 = v 15 ∧ u.1 17 = v 17 ∧ u.1 18 = v 18 ∧ u.1 24 = v 24 ∧ u.1 25 = v 25 ∧ u.1 35 = v 35 ∧ u.1 36 = v 36 ∧ u.1 38 = v 38 ∧ u.1 39 = v 39) (fun u => YW cy y0 r u.1 u.2.1 u.2.2.1 u.2.2.2) := by
  refine ctV_of (by decide) (Nat.le_of_ble_eq_true rfl) (fun p e s m below meth c A ls Q hx hb hml hts hown hnm hE hP hD hA hl ret => ?_)
  have hUv : (v 35).toInt + (v 36).toInt ≤ 40 := hIv.2
  have hM_v : KV [] v v := fun _ _ => rfl
  have hA_f : KF [24] f f := fun _ _ => rfl
  have hown : s.vm.findClass RX11 = some m.cls := hown
  have hS : va_S A s.heap s.heap [] := va_S.rf
  have hl : lv_has ls 2 [(0, .ref y0)] := hl
  refine lv_iconst (v := 0) hx hb dX11_fill_0 (by decide) ?_
  refine lv_istore_n (lv' := [(1, .int 0), (0, .ref y0)]) hx hb dX11_fill_1 rfl hl (by decide) rfl (fun ls hl => ?_)
  have lp1 : ∀ (n1 : Nat) (l1_1 : Int32) (v1 : Nat → Int32) (f1 : Nat → Nat → Int32) (w1 : Int64) (g1 : Nat → Int64), YI v1 → YC f1 → progOK (f1 4) (f1 5) (v1 9).toInt.toNat → v1 0 = (v 0) → v1 1 = (v 1) → v1 2 = (v 2) → v1 3 = (v 3) → v1 4 = (v 4) → v1 5 = (v 5) → v1 8 = (v 8) → v1 9 = (v 9) → v1 10 = (v 10) → v1 13 = (v 13) → v1 14 = (v 14) → v1 15 = (v 15) → v1 17 = (v 17) → v1 18 = (v 18) → v1 24 = (v 24) → v1 25 = (v 25) → v1 35 = (v 35) → v1 36 = (v 36) → v1 38 = (v 38) → v1 39 = (v 39) → ((0 : Int) ≤ l1_1.toInt ∧ l1_1.toInt ≤ 2147483647) → KV [] v1 v → KF [24] f1 f → (2147483647 - l1_1.toInt).toNat < n1 → ∀ (H : Heap) (locs : List Loc) (ls : Array Slot), va_P (dC, dI) vwCl (YW cy y0 r v1 f1 w1 g1) H → va_D A (YW cy y0 r v1 f1 w1 g1) → va_S A s.heap H locs → lv_has ls 2 [(1, .int l1_1), (0, .ref y0)] → W p l e { frames := 1, cells := 0, slots := 0, locals := 60 } s m ([.ref y0] : List Value).toArray below meth c H locs 0 0 Q (F0 m 2 ls []) := by
    intro n1
    induction n1 with
    | zero => intro l1_1 v1 f1 w1 g1 hIv1 hCf1 hRf1 hq0_v1 hq1_v1 hq2_v1 hq3_v1 hq4_v1 hq5_v1 hq8_v1 hq9_v1 hq10_v1 hq13_v1 hq14_v1 hq15_v1 hq17_v1 hq18_v1 hq24_v1 hq25_v1 hq35_v1 hq36_v1 hq38_v1 hq39_v1 hr1_1 hM_v1 hA_f1 hm; exact absurd hm (Nat.not_lt_zero _)
    | succ n1 ih1 =>
      intro l1_1 v1 f1 w1 g1 hIv1 hCf1 hRf1 hq0_v1 hq1_v1 hq2_v1 hq3_v1 hq4_v1 hq5_v1 hq8_v1 hq9_v1 hq10_v1 hq13_v1 hq14_v1 hq15_v1 hq17_v1 hq18_v1 hq24_v1 hq25_v1 hq35_v1 hq36_v1 hq38_v1 hq39_v1 hr1_1 hM_v1 hA_f1 hm1 H locs ls hP hD hS hl
      have hUv1 : (v1 35).toInt + (v1 36).toInt ≤ 40 := hIv1.2
      have zq9_v1 := congrArg Int32.toInt hq9_v1
      refine lv_iload_n hx hb dX11_fill_2 rfl (lv_at hl 0 rfl) ?_
      refine lv_bipush (v := 39) hx hb dX11_fill_3 (by decide) ?_
      refine lv_icmp_ge (tgt := 26) hx hb dX11_fill_5 (by decide) (fun c2 => ?_) (fun c2 => ?_)
      · skip
        have zc2 : 39 ≤ l1_1.toInt := by rw [fa_le, show (39 : Int32).toInt = 39 from by decide] at c2; exact c2
        exact ret (v1, f1, w1, g1) _ _ _ _ _ _ ⟨hM_v1, hA_f1, hIv1, hCf1, hRf1, (show v1 0 = v 0 from hq0_v1), (show v1 1 = v 1 from hq1_v1), (show v1 2 = v 2 from hq2_v1), (show v1 3 = v 3 from hq3_v1), (show v1 4 = v 4 from hq4_v1), (show v1 5 = v 5 from hq5_v1), (show v1 8 = v 8 from hq8_v1), (show v1 9 = v 9 from hq9_v1), (show v1 10 = v 10 from hq10_v1), (show v1 13 = v 13 from hq13_v1), (show v1 14 = v 14 from hq14_v1), (show v1 15 = v 15 from hq15_v1), (show v1 17 = v 17 from hq17_v1), (show v1 18 = v 18 from hq18_v1), (show v1 24 = v 24 from hq24_v1), (show v1 25 = v 25 from hq25_v1), (show v1 35 = v 35 from hq35_v1), (show v1 36 = v 36 from hq36_v1), (show v1 38 = v 38 from hq38_v1), (show v1 39 = v 39 from hq39_v1)⟩ hP hD hS dX11_fill_26 (Nat.le_refl _) (Nat.le_refl _)
      · skip
        have zc2 : ¬ (39 ≤ l1_1.toInt) := by rw [fa_le, show (39 : Int32).toInt = 39 from by decide] at c2; exact c2
        refine lv_aload_n hx hb dX11_fill_8 rfl (lv_at hl 1 rfl) ?_
        refine va_get (D := (dC, dI)) (ci := 11) (v := .ref (r 60)) (C := RX11) (T := TX11) (N := 79) hx hb hts inB_11 hown hE.1 hP 0 rfl rfl 60 (by decide) (hts _ k_1380) (fun _ h9 => h9) rfl dX11_fill_9 ?_
        refine lv_iload_n hx hb dX11_fill_12 rfl (lv_at hl 0 rfl) ?_
        refine lv_aload_n hx hb dX11_fill_13 rfl (lv_at hl 1 rfl) ?_
        refine va_get (D := (dC, dI)) (ci := 11) (v := .ref (r 59)) (C := RX11) (T := TX11) (N := 79) hx hb hts inB_11 hown hE.1 hP 0 rfl rfl 59 (by decide) (hts _ k_1379) (fun _ h9 => h9) rfl dX11_fill_14 ?_
        refine lv_iload_n hx hb dX11_fill_17 rfl (lv_at hl 0 rfl) ?_
        refine ldI hx hb hE hP 24 rfl (vp_in_iff.mpr ⟨by omega, by omega⟩) rfl rfl dX11_fill_18 ?_
        refine lv_topi (fun t3 et3 => ?_)
        have zt3 : l1_1.toInt.toNat % 39 < 6 ∨ 12 ≤ l1_1.toInt.toNat % 39 ∨ (-1 ≤ t3.toInt ∧ t3.toInt ≤ 5) := by rw [et3]; exact wear_ld hCf1.1 (show l1_1.toInt.toNat < 39 by omega)
        refine stI hx hb hE hP hD hS 25 rfl (vp_in_iff.mpr ⟨by omega, by omega⟩) rfl dX11_fill_19 (fun H locs hP hD hS => ?_)
        obtain ⟨f4, ef4, hP, hD⟩ : ∃ fz9, fz9 = upd2 f1 24 (upd (f1 24) l1_1.toNatClampNeg t3) ∧ va_P (dC, dI) vwCl (YW cy y0 r v1 fz9 w1 g1) H ∧ va_D A (YW cy y0 r v1 fz9 w1 g1) := ⟨_, rfl, hP, hD⟩
        have hCf4 : YC f4 := by rw [ef4]; exact ⟨hCf1.1, (wear_st hCf1.2.1 (by show l1_1.toInt.toNat % 39 < 6 ∨ 12 ≤ l1_1.toInt.toNat % 39 ∨ (-1 ≤ t3.toInt ∧ t3.toInt ≤ 5); omega)), hCf1.2.2.1, hCf1.2.2.2.1, hCf1.2.2.2.2.1, hCf1.2.2.2.2.2⟩
        have hRf4 : progOK (f4 4) (f4 5) (v1 9).toInt.toNat := by rw [ef4]; exact hRf1
        have hA_f4 : KF [24] f4 f := by rw [ef4]; exact KF.up hA_f1 rfl
        obtain ⟨t5, et5⟩ : ∃ y : Int32, y = l1_1 + 1 := ⟨_, rfl⟩
        have rg6 := fb_rng l1_1
        have zt5 : t5.toInt = l1_1.toInt + 1 := by rw [et5]; exact add_i rfl (by decide) (by omega) (by omega)
        refine lv_iinc (v := t5) (lv' := [(1, .int t5), (0, .ref y0)]) hx hb dX11_fill_20 hl (k := 0) rfl (by rw [et5]; rfl) (by decide) rfl (fun ls hl => ?_)
        refine lv_goto (tgt := 2) hx hb dX11_fill_23 (by decide) ?_
        have rg7 := fb_rng t5
        exact ih1 t5 v1 f4 w1 g1 hIv1 hCf4 hRf4 hq0_v1 hq1_v1 hq2_v1 hq3_v1 hq4_v1 hq5_v1 hq8_v1 hq9_v1 hq10_v1 hq13_v1 hq14_v1 hq15_v1 hq17_v1 hq18_v1 hq24_v1 hq25_v1 hq35_v1 hq36_v1 hq38_v1 hq39_v1 ⟨show (0 : Int) ≤ t5.toInt by omega, show t5.toInt ≤ (2147483647 : Int) by omega⟩ hM_v1 hA_f4 (by show (2147483647 - t5.toInt).toNat < n1; omega) _ _ _ hP hD hS (lv_sub hl [0, 1] rfl)
  exact lp1 _ 0 v f w g hIv hCf hRf rfl rfl rfl rfl rfl rfl rfl rfl rfl rfl rfl rfl rfl rfl rfl rfl rfl rfl rfl rfl ⟨by decide, by decide⟩ hM_v hA_f (Nat.lt_succ_self _) _ _ _ hP hD hS (lv_sub hl [0, 1] rfl)
set_option maxHeartbeats 4000000 in
set_option maxRecDepth 100000 in
theorem sY_X11_over_1 (l : Launch) (dC : Nat → ClassId) (dI : Nat → Nat → Nat) (cy : Nat → ClassId) (y0 : Nat) (r : Nat → Nat) (p0 : Int32) (p1 : Int32) (v : Nat → Int32) (f : Nat → Nat → Int32) (w : Int64) (g : Nat → Int64) (hIv : YI v) (hCf : YC f) (hRf : progOK (f 4) (f 5) (v 9).toInt.toNat)  : ctI l (dC, dI) cy yX11_over cX11_over 2 .int 1 60 0 0 Unit [.int p0, .int p1] (YW cy y0 r v f w g) (fun r u => True) (fun u => YW cy y0 r v f w g) := by
  refine ctI_of (by decide) (Nat.le_of_ble_eq_true rfl) (fun p e s m below meth c A ls Q hx hb hml hts hown hE hP hD hA hl ret => ?_)
  have hUv : (v 35).toInt + (v 36).toInt ≤ 40 := hIv.2
  have hown : s.vm.findClass RX11 = some m.cls := hown
  have hS : va_S A s.heap s.heap [] := va_S.rf
  have hl : lv_has ls 2 [(0, .int p0), (1, .int p1)] := hl
  refine lv_iload_n hx hb dX11_over_0 rfl (lv_at hl 0 rfl) ?_
  refine lv_iload_n hx hb dX11_over_1 rfl (lv_at hl 1 rfl) ?_
  refine lv_icmp_le (tgt := 11) hx hb dX11_over_2 (by decide) (fun c1 => ?_) (fun c1 => ?_)
  · skip
    have zc1 : p0.toInt ≤ p1.toInt := by rw [fa_le] at c1; exact c1
    have rg2 := fb_rng p0
    have rg3 := fb_rng p1
    refine lv_iconst (v := 0) hx hb dX11_over_11 (by decide) ?_
    exact ret 0 () _ _ _ _ _ _ rfl trivial hP hD hS dX11_over_12 (Nat.le_refl _) (Nat.le_refl _)
  · skip
    have zc1 : ¬ (p0.toInt ≤ p1.toInt) := by rw [fa_le] at c1; exact c1
    have rg4 := fb_rng p0
    have rg5 := fb_rng p1
    refine lv_iload_n hx hb dX11_over_5 rfl (lv_at hl 0 rfl) ?_
    refine lv_iload_n hx hb dX11_over_6 rfl (lv_at hl 1 rfl) ?_
    refine lv_isub hx hb dX11_over_7 ?_
    refine lv_topi (fun t6 et6 => ?_)
    refine lv_goto (tgt := 12) hx hb dX11_over_8 (by decide) ?_
    exact ret t6 () _ _ _ _ _ _ rfl trivial hP hD hS dX11_over_12 (Nat.le_refl _) (Nat.le_refl _)
set_option maxHeartbeats 4000000 in
set_option maxRecDepth 100000 in
theorem sY_X11_within_1 (l : Launch) (dC : Nat → ClassId) (dI : Nat → Nat → Nat) (cy : Nat → ClassId) (y0 : Nat) (r : Nat → Nat) (p0 : Int32) (p1 : Int32) (v : Nat → Int32) (f : Nat → Nat → Int32) (w : Int64) (g : Nat → Int64) (hIv : YI v) (hCf : YC f) (hRf : progOK (f 4) (f 5) (v 9).toInt.toNat)  : ctI l (dC, dI) cy yX11_within cX11_within 2 .int 1 60 0 0 Unit [.int p0, .int p1] (YW cy y0 r v f w g) (fun r u => True) (fun u => YW cy y0 r v f w g) := by
  refine ctI_of (by decide) (Nat.le_of_ble_eq_true rfl) (fun p e s m below meth c A ls Q hx hb hml hts hown hE hP hD hA hl ret => ?_)
  have hUv : (v 35).toInt + (v 36).toInt ≤ 40 := hIv.2
  have hown : s.vm.findClass RX11 = some m.cls := hown
  have hS : va_S A s.heap s.heap [] := va_S.rf
  have hl : lv_has ls 2 [(0, .int p0), (1, .int p1)] := hl
  refine lv_iload_n hx hb dX11_within_0 rfl (lv_at hl 0 rfl) ?_
  refine lv_if_ge (tgt := 8) hx hb dX11_within_1 (by decide) (fun c1 => ?_) (fun c1 => ?_)
  · skip
    have zc1 : 0 ≤ p0.toInt := by rw [fa_le, show (0 : Int32).toInt = 0 from by decide] at c1; exact c1
    refine lv_iload_n hx hb dX11_within_8 rfl (lv_at hl 0 rfl) ?_
    refine lv_iload_n hx hb dX11_within_9 rfl (lv_at hl 1 rfl) ?_
    refine lv_icmp_le (tgt := 17) hx hb dX11_within_10 (by decide) (fun c2 => ?_) (fun c2 => ?_)
    · skip
      have zc2 : p0.toInt ≤ p1.toInt := by rw [fa_le] at c2; exact c2
      have rg3 := fb_rng p0
      have rg4 := fb_rng p1
      refine lv_iload_n hx hb dX11_within_17 rfl (lv_at hl 0 rfl) ?_
      exact ret p0 () _ _ _ _ _ _ rfl trivial hP hD hS dX11_within_18 (Nat.le_refl _) (Nat.le_refl _)
    · skip
      have zc2 : ¬ (p0.toInt ≤ p1.toInt) := by rw [fa_le] at c2; exact c2
      have rg5 := fb_rng p0
      have rg6 := fb_rng p1
      refine lv_iload_n hx hb dX11_within_13 rfl (lv_at hl 1 rfl) ?_
      refine lv_goto (tgt := 18) hx hb dX11_within_14 (by decide) ?_
      exact ret p1 () _ _ _ _ _ _ rfl trivial hP hD hS dX11_within_18 (Nat.le_refl _) (Nat.le_refl _)
  · skip
    have zc1 : ¬ (0 ≤ p0.toInt) := by rw [fa_le, show (0 : Int32).toInt = 0 from by decide] at c1; exact c1
    refine lv_iconst (v := 0) hx hb dX11_within_4 (by decide) ?_
    refine lv_goto (tgt := 18) hx hb dX11_within_5 (by decide) ?_
    exact ret 0 () _ _ _ _ _ _ rfl trivial hP hD hS dX11_within_18 (Nat.le_refl _) (Nat.le_refl _)
set_option maxHeartbeats 4000000 in
set_option maxRecDepth 100000 in
theorem sY_X11_truth_1 (l : Launch) (dC : Nat → ClassId) (dI : Nat → Nat → Nat) (cy : Nat → ClassId) (y0 : Nat) (r : Nat → Nat) (p0 : Int32) (v : Nat → Int32) (f : Nat → Nat → Int32) (w : Int64) (g : Nat → Int64) (hIv : YI v) (hCf : YC f) (hRf : progOK (f 4) (f 5) (v 9).toInt.toNat)  : ctI l (dC, dI) cy yX11_truth cX11_truth 1 .int 1 60 0 0 Unit [.int p0] (YW cy y0 r v f w g) (fun r u => ((0 : Int) ≤ r.toInt ∧ r.toInt ≤ 1)) (fun u => YW cy y0 r v f w g) := by
  refine ctI_of (by decide) (Nat.le_of_ble_eq_true rfl) (fun p e s m below meth c A ls Q hx hb hml hts hown hE hP hD hA hl ret => ?_)
  have hUv : (v 35).toInt + (v 36).toInt ≤ 40 := hIv.2
  have hown : s.vm.findClass RX11 = some m.cls := hown
  have hS : va_S A s.heap s.heap [] := va_S.rf
  have hl : lv_has ls 1 [(0, .int p0)] := hl
  refine lv_iload_n hx hb dX11_truth_0 rfl (lv_at hl 0 rfl) ?_
  refine lv_if_eq (tgt := 8) hx hb dX11_truth_1 (by decide) (fun c1 => ?_) (fun c1 => ?_)
  · skip
    have zc1 : p0.toInt = 0 := by rw [fa_eq, show (0 : Int32).toInt = 0 from by decide] at c1; exact c1
    refine lv_iconst (v := 0) hx hb dX11_truth_8 (by decide) ?_
    exact ret 0 () _ _ _ _ _ _ rfl ⟨by decide, by decide⟩ hP hD hS dX11_truth_9 (Nat.le_refl _) (Nat.le_refl _)
  · skip
    have zc1 : ¬ (p0.toInt = 0) := by rw [fa_eq, show (0 : Int32).toInt = 0 from by decide] at c1; exact c1
    refine lv_iconst (v := 1) hx hb dX11_truth_4 (by decide) ?_
    refine lv_goto (tgt := 9) hx hb dX11_truth_5 (by decide) ?_
    exact ret 1 () _ _ _ _ _ _ rfl ⟨by decide, by decide⟩ hP hD hS dX11_truth_9 (Nat.le_refl _) (Nat.le_refl _)
