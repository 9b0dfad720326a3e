set_option maxHeartbeats 4000000 in
set_option maxRecDepth 100000 in
theorem sY_X11_isIn_1 (NF : Nat) (l : Launch) (dC : Nat → ClassId) (dI : Nat → Nat → Nat) (cy : Nat → ClassId) (y0 : Nat) (r : Nat → Nat) (p0 : Int32) (p1 : Int32) (p2 : Int32) (v : Nat → Int32) (f : Nat → Nat → Int32) (w : Int64) (g : Nat → Int64) (hIv : YI v) (hCf : YC f) (hRf : progOK (f 4) (f 5) (v 9).toInt.toNat)  : ctI l (dC, dI) cy yX11_isIn cX11_isIn 3 .boolean 1 60 0 0 Unit [.int p0, .int p1, .int p2] (YW cy y0 r v f w g) (fun r u => gsY_X11_isIn_1 NF p0 p1 p2 v f w g = r ∧ ((r = 1 ∧ p1.toInt ≤ p0.toInt ∧ p0.toInt ≤ p2.toInt) ∨ (r = 0))) (fun u => YW cy y0 r v f w g) := by
  refine ctI_of (by decide) (Nat.le_of_ble_eq_true rfl) (fun p e s m below meth c A ls Q hx hb hml hts hown hE hP hD hA hl ret => ?_)
  have hown : s.vm.findClass RX11 = some m.cls := hown
  have hS : va_S A s.heap s.heap [] := va_S.rf
  have hl : lv_has ls 3 [(0, .int p0), (1, .int p1), (2, .int p2)] := hl
  refine lv_iload_n hx hb dX11_isIn_0 rfl (lv_at hl 0 rfl) ?_
  refine lv_iload_n hx hb dX11_isIn_1 rfl (lv_at hl 1 rfl) ?_
  refine lv_icmp_lt (tgt := 14) hx hb dX11_isIn_2 rfl (fun c1 => ?_) (fun c1 => ?_)
  · skip
    refine lv_iconst (v := 0) hx hb dX11_isIn_14 rfl ?_
    exact ret 0 () _ _ _ _ _ _ rfl ⟨(gsY_X11_isIn_1_q0 c1), (Or.inr rfl)⟩ hP hD hS dX11_isIn_15 (Nat.le_refl _) (Nat.le_refl _)
  · skip
    have zc1 : ¬ (p0.toInt < p1.toInt) := zLn rfl rfl c1
    refine lv_iload_n hx hb dX11_isIn_5 rfl (lv_at hl 0 rfl) ?_
    refine lv_iload_n hx hb dX11_isIn_6 rfl (lv_at hl 2 rfl) ?_
    refine lv_icmp_gt (tgt := 14) hx hb dX11_isIn_7 rfl (fun c6 => ?_) (fun c6 => ?_)
    · skip
      refine lv_iconst (v := 0) hx hb dX11_isIn_14 rfl ?_
      exact ret 0 () _ _ _ _ _ _ rfl ⟨(gsY_X11_isIn_1_q1 c1 c6), (Or.inr rfl)⟩ hP hD hS dX11_isIn_15 (Nat.le_refl _) (Nat.le_refl _)
    · skip
      have zc6 : ¬ (p2.toInt < p0.toInt) := zLn rfl rfl c6
      refine lv_iconst (v := 1) hx hb dX11_isIn_10 rfl ?_
      refine lv_goto (tgt := 15) hx hb dX11_isIn_11 rfl ?_
      exact ret 1 () _ _ _ _ _ _ rfl ⟨(gsY_X11_isIn_1_q2 c1 c6), (Or.inl ⟨rfl, show p1.toInt ≤ p0.toInt from om_494 zc1, show p0.toInt ≤ p2.toInt from om_494 zc6⟩)⟩ hP hD hS dX11_isIn_15 (Nat.le_refl _) (Nat.le_refl _)
set_option maxHeartbeats 4000000 in
set_option maxRecDepth 100000 in
theorem sY_X11_seen_1 (NF : Nat) (l : Launch) (dC : Nat → ClassId) (dI : Nat → Nat → Nat) (cy : Nat → ClassId) (y0 : Nat) (r : Nat → Nat) (p1 : Int32) (p2 : Int32) (v : Nat → Int32) (f : Nat → Nat → Int32) (w : Int64) (g : Nat → Int64) (hIv : YI v) (hCf : YC f) (hRf : progOK (f 4) (f 5) (v 9).toInt.toNat)  : ctI l (dC, dI) cy yX11_seen cX11_seen 3 .int 2 82 0 0 ((Nat → Int32) × (Nat → Nat → Int32) × (Int64) × (Nat → Int64)) [.ref y0, .int p1, .int p2] (YW cy y0 r v f w g) (fun r u => gsY_X11_seen_1 NF p1 p2 v f w g = (r, u) ∧ KV [38] u.1 v ∧ KF [30, 31, 32, 33] u.2.1 f ∧ YI u.1 ∧ YC u.2.1 ∧ progOK (u.2.1 4) (u.2.1 5) (u.1 9).toInt.toNat ∧ u.1 0 = v 0 ∧ u.1 1 = v 1 ∧ u.1 2 = v 2 ∧ u.1 3 = v 3 ∧ u.1 4 = v 4 ∧ u.1 5 = v 5 ∧ u.1 8 = v 8 ∧ u.1 9 = v 9 ∧ u.1 10 = v 10 ∧ u.1 13 = v 13 ∧ u.1 14 = v 14 ∧ u.1 15 = v 15 ∧ u.1 17 = v 17 ∧ u.1 18 = v 18 ∧ u.1 24 = v 24 ∧ u.1 25 = v 25 ∧ u.1 35 = v 35 ∧ u.1 36 = v 36 ∧ u.1 39 = v 39) (fun u => YW cy y0 r u.1 u.2.1 u.2.2.1 u.2.2.2) := by
  refine ctI_of (by decide) (Nat.le_of_ble_eq_true rfl) (fun p e s m below meth c A ls Q hx hb hml hts hown hE hP hD hA hl ret => ?_)
  have hM_v : KV [38] v v := fun _ _ => rfl
  have hA_f : KF [30, 31, 32, 33] f f := fun _ _ => rfl
  have hown : s.vm.findClass RX11 = some m.cls := hown
  have hS : va_S A s.heap s.heap [] := va_S.rf
  have hl : lv_has ls 3 [(0, .ref y0), (1, .int p1), (2, .int p2)] := hl
  refine lv_iload_n hx hb dX11_seen_0 rfl (lv_at hl 1 rfl) ?_
  refine lv_iconst (v := 0) hx hb dX11_seen_1 rfl ?_
  refine lv_bipush (v := 20) hx hb dX11_seen_2 rfl ?_
  refine cbSi (n := 3) (rest := []) hx hb hml hown hts hE hP hD hS hA (sY_X11_isIn_1 NF l dC dI cy y0 r p1 0 20 v f w g hIv hCf hRf ) k_1736 k_1737 k_114 k_1738 he_yX11_isIn ⟨Nat.le_of_ble_eq_true rfl, Nat.le_of_ble_eq_true rfl⟩ (rfl) hl.1 rfl (Nat.le_of_ble_eq_true rfl) dX11_seen_4 (fun r3 u H locs hw hP hD hS => ?_)
  obtain ⟨hG4, hw⟩ := hw
  rcases hw with ⟨g5, g5_0, g5_1⟩ | ⟨g5⟩
  · skip
    subst g5
    refine lv_if_eq (tgt := 33) hx hb dX11_seen_7 rfl (fun c0 => absurd c0 (by decide)) (fun _ => ?_)
    refine lv_aload_n hx hb dX11_seen_10 rfl (lv_at hl 0 rfl) ?_
    refine va_get (D := (dC, dI)) (ci := 11) (v := .int (v 24)) (C := RX11) (T := TX11) (N := 79) hx hb hts inB_11 hown hE.1 hP 0 rfl rfl 48 (Nat.le_of_ble_eq_true rfl) (hts _ k_1368) (fun _ h9 => h9) rfl dX11_seen_11 ?_
    refine lv_if_eq (tgt := 33) hx hb dX11_seen_14 rfl (fun c6 => ?_) (fun c6 => ?_)
    · skip
      refine lv_iconst (v := (-1)) hx hb dX11_seen_33 rfl ?_
      exact ret (-1) (v, f, w, g) _ _ _ _ _ _ rfl ⟨(gsY_X11_seen_1_q0 hG4 c6), hM_v, hA_f, hIv, hCf, hRf, rfl, rfl, rfl, rfl, rfl, rfl, rfl, rfl, rfl, rfl, rfl, rfl, rfl, rfl, rfl, rfl, rfl, rfl, rfl⟩ hP hD hS dX11_seen_34 (Nat.le_refl _) (Nat.le_refl _)
    · skip
      refine lv_aload_n hx hb dX11_seen_17 rfl (lv_at hl 0 rfl) ?_
      refine va_get (D := (dC, dI)) (ci := 11) (v := .int (v 25)) (C := RX11) (T := TX11) (N := 79) hx hb hts inB_11 hown hE.1 hP 0 rfl rfl 49 (Nat.le_of_ble_eq_true rfl) (hts _ k_1369) (fun _ h9 => h9) rfl dX11_seen_18 ?_
      refine lv_if_eq (tgt := 33) hx hb dX11_seen_21 rfl (fun c7 => ?_) (fun c7 => ?_)
      · skip
        refine lv_iconst (v := (-1)) hx hb dX11_seen_33 rfl ?_
        exact ret (-1) (v, f, w, g) _ _ _ _ _ _ rfl ⟨(gsY_X11_seen_1_q1 hG4 c6 c7), hM_v, hA_f, hIv, hCf, hRf, rfl, rfl, rfl, rfl, rfl, rfl, rfl, rfl, rfl, rfl, rfl, rfl, rfl, rfl, rfl, rfl, rfl, rfl, rfl⟩ hP hD hS dX11_seen_34 (Nat.le_refl _) (Nat.le_refl _)
      · skip
        refine lv_aload_n hx hb dX11_seen_24 rfl (lv_at hl 0 rfl) ?_
        refine va_get (D := (dC, dI)) (ci := 11) (v := .int (v 38)) (C := RX11) (T := TX11) (N := 79) hx hb hts inB_11 hown hE.1 hP 0 rfl rfl 73 (Nat.le_of_ble_eq_true rfl) (hts _ k_1393) (fun _ h9 => h9) rfl dX11_seen_25 ?_
        have b38_v : 0 ≤ (v 38).toInt ∧ (v 38).toInt ≤ 30 := Yb_38 hIv.1
        refine lv_bipush (v := 30) hx hb dX11_seen_28 rfl ?_
        refine lv_icmp_ne (tgt := 35) hx hb dX11_seen_30 rfl (fun c8 => ?_) (fun c8 => ?_)
        · skip
          have zc8 : ¬ ((v 38).toInt = 30) := zEn rfl tc_30 c8
          refine lv_aload_n hx hb dX11_seen_35 rfl (lv_at hl 0 rfl) ?_
          refine va_get (D := (dC, dI)) (ci := 11) (v := .ref (r 69)) (C := RX11) (T := TX11) (N := 79) hx hb hts inB_11 hown hE.1 hP 0 rfl rfl 69 (Nat.le_of_ble_eq_true rfl) (hts _ k_1389) (fun _ h9 => h9) rfl dX11_seen_36 ?_
          refine lv_aload_n hx hb dX11_seen_39 rfl (lv_at hl 0 rfl) ?_
          refine va_get (D := (dC, dI)) (ci := 11) (v := .int (v 38)) (C := RX11) (T := TX11) (N := 79) hx hb hts inB_11 hown hE.1 hP 0 rfl rfl 73 (Nat.le_of_ble_eq_true rfl) (hts _ k_1393) (fun _ h9 => h9) rfl dX11_seen_40 ?_
          refine lv_iload_n hx hb dX11_seen_43 rfl (lv_at hl 1 rfl) ?_
          refine stI hx hb hE hP hD hS 31 rfl (vpI (k := 30) rfl (show 0 ≤ (v 38).toInt from om_127 b38_v) (show (v 38).toInt < 30 from om_495 b38_v zc8)) rfl dX11_seen_44 (fun H locs hP hD hS => ?_)
          obtain ⟨f9, ef9, hP, hD⟩ : ∃ fz9, fz9 = upd2 f 30 (upd (f 30) (v 38).toNatClampNeg p1) ∧ va_P (dC, dI) vwCl (YW cy y0 r v fz9 w g) H ∧ va_D A (YW cy y0 r v fz9 w g) := ⟨_, rfl, hP, hD⟩
          have hCf9 : YC f9 := by rw [ef9]; exact ⟨hCf.1, hCf.2.1, hCf.2.2.1, hCf.2.2.2.1, (rng_st hCf.2.2.2.2.1 (show 0 ≤ p1.toInt ∧ p1.toInt ≤ 20 from om_496 g5_0 g5_1 tc_0 tc_20)), hCf.2.2.2.2.2⟩
          have hRf9 : progOK (f9 4) (f9 5) (v 9).toInt.toNat := by rw [ef9]; exact hRf
          have hA_f9 : KF [30, 31, 32, 33] f9 f := by rw [ef9]; exact KF.up hA_f rfl
          refine lv_aload_n hx hb dX11_seen_45 rfl (lv_at hl 0 rfl) ?_
          refine va_get (D := (dC, dI)) (ci := 11) (v := .ref (r 72)) (C := RX11) (T := TX11) (N := 79) hx hb hts inB_11 hown hE.1 hP 0 rfl rfl 72 (Nat.le_of_ble_eq_true rfl) (hts _ k_1392) (fun _ h9 => h9) rfl dX11_seen_46 ?_
          refine lv_aload_n hx hb dX11_seen_49 rfl (lv_at hl 0 rfl) ?_
          refine va_get (D := (dC, dI)) (ci := 11) (v := .int (v 38)) (C := RX11) (T := TX11) (N := 79) hx hb hts inB_11 hown hE.1 hP 0 rfl rfl 73 (Nat.le_of_ble_eq_true rfl) (hts _ k_1393) (fun _ h9 => h9) rfl dX11_seen_50 ?_
          refine lv_iload_n hx hb dX11_seen_53 rfl (lv_at hl 2 rfl) ?_
          refine stZ hx hb hE hP hD hS 34 rfl (vpI (k := 30) rfl (show 0 ≤ (v 38).toInt from om_127 b38_v) (show (v 38).toInt < 30 from om_495 b38_v zc8)) rfl dX11_seen_54 (fun H locs hP hD hS => ?_)
          obtain ⟨f10, ef10, hP, hD⟩ : ∃ fz9, fz9 = upd2 f9 33 (upd (f9 33) (v 38).toNatClampNeg (vp_nar .boolean p2)) ∧ va_P (dC, dI) vwCl (YW cy y0 r v fz9 w g) H ∧ va_D A (YW cy y0 r v fz9 w g) := ⟨_, rfl, hP, hD⟩
          have hCf10 : YC f10 := by rw [ef10]; exact hCf9
          have hRf10 : progOK (f10 4) (f10 5) (v 9).toInt.toNat := by rw [ef10]; exact hRf9
          have hA_f10 : KF [30, 31, 32, 33] f10 f := by rw [ef10]; exact KF.up hA_f9 rfl
          refine lv_aload_n hx hb dX11_seen_55 rfl (lv_at hl 0 rfl) ?_
          refine va_get (D := (dC, dI)) (ci := 11) (v := .ref (r 70)) (C := RX11) (T := TX11) (N := 79) hx hb hts inB_11 hown hE.1 hP 0 rfl rfl 70 (Nat.le_of_ble_eq_true rfl) (hts _ k_1390) (fun _ h9 => h9) rfl dX11_seen_56 ?_
          refine lv_aload_n hx hb dX11_seen_59 rfl (lv_at hl 0 rfl) ?_
          refine va_get (D := (dC, dI)) (ci := 11) (v := .int (v 38)) (C := RX11) (T := TX11) (N := 79) hx hb hts inB_11 hown hE.1 hP 0 rfl rfl 73 (Nat.le_of_ble_eq_true rfl) (hts _ k_1393) (fun _ h9 => h9) rfl dX11_seen_60 ?_
          refine lv_aload_n hx hb dX11_seen_63 rfl (lv_at hl 0 rfl) ?_
          refine va_get (D := (dC, dI)) (ci := 11) (v := .int (v 39)) (C := RX11) (T := TX11) (N := 79) hx hb hts inB_11 hown hE.1 hP 0 rfl rfl 74 (Nat.le_of_ble_eq_true rfl) (hts _ k_1394) (fun _ h9 => h9) rfl dX11_seen_64 ?_
          refine stI hx hb hE hP hD hS 32 rfl (vpI (k := 30) rfl (show 0 ≤ (v 38).toInt from om_127 b38_v) (show (v 38).toInt < 30 from om_495 b38_v zc8)) rfl dX11_seen_67 (fun H locs hP hD hS => ?_)
          obtain ⟨f11, ef11, hP, hD⟩ : ∃ fz9, fz9 = upd2 f10 31 (upd (f10 31) (v 38).toNatClampNeg (v 39)) ∧ va_P (dC, dI) vwCl (YW cy y0 r v fz9 w g) H ∧ va_D A (YW cy y0 r v fz9 w g) := ⟨_, rfl, hP, hD⟩
          have hCf11 : YC f11 := by rw [ef11]; exact hCf10
          have hRf11 : progOK (f11 4) (f11 5) (v 9).toInt.toNat := by rw [ef11]; exact hRf10
          have hA_f11 : KF [30, 31, 32, 33] f11 f := by rw [ef11]; exact KF.up hA_f10 rfl
          refine lv_aload_n hx hb dX11_seen_68 rfl (lv_at hl 0 rfl) ?_
          refine va_get (D := (dC, dI)) (ci := 11) (v := .ref (r 71)) (C := RX11) (T := TX11) (N := 79) hx hb hts inB_11 hown hE.1 hP 0 rfl rfl 71 (Nat.le_of_ble_eq_true rfl) (hts _ k_1391) (fun _ h9 => h9) rfl dX11_seen_69 ?_
          refine lv_aload_n hx hb dX11_seen_72 rfl (lv_at hl 0 rfl) ?_
          refine va_get (D := (dC, dI)) (ci := 11) (v := .int (v 38)) (C := RX11) (T := TX11) (N := 79) hx hb hts inB_11 hown hE.1 hP 0 rfl rfl 73 (Nat.le_of_ble_eq_true rfl) (hts _ k_1393) (fun _ h9 => h9) rfl dX11_seen_73 ?_
          refine lv_iconst (v := (-1)) hx hb dX11_seen_76 rfl ?_
          refine stI hx hb hE hP hD hS 33 rfl (vpI (k := 30) rfl (show 0 ≤ (v 38).toInt from om_127 b38_v) (show (v 38).toInt < 30 from om_495 b38_v zc8)) rfl dX11_seen_77 (fun H locs hP hD hS => ?_)
          obtain ⟨f12, ef12, hP, hD⟩ : ∃ fz9, fz9 = upd2 f11 32 (upd (f11 32) (v 38).toNatClampNeg (-1)) ∧ va_P (dC, dI) vwCl (YW cy y0 r v fz9 w g) H ∧ va_D A (YW cy y0 r v fz9 w g) := ⟨_, rfl, hP, hD⟩
          have hCf12 : YC f12 := by rw [ef12]; exact hCf11
          have hRf12 : progOK (f12 4) (f12 5) (v 9).toInt.toNat := by rw [ef12]; exact hRf11
          have hA_f12 : KF [30, 31, 32, 33] f12 f := by rw [ef12]; exact KF.up hA_f11 rfl
          refine lv_aload_n hx hb dX11_seen_78 rfl (lv_at hl 0 rfl) ?_
          refine lv_dup hx hb dX11_seen_79 rfl ?_
          refine va_get (D := (dC, dI)) (ci := 11) (v := .int (v 38)) (C := RX11) (T := TX11) (N := 79) hx hb hts inB_11 hown hE.1 hP 0 rfl rfl 73 (Nat.le_of_ble_eq_true rfl) (hts _ k_1393) (fun _ h9 => h9) rfl dX11_seen_80 ?_
          refine lv_iconst (v := 1) hx hb dX11_seen_83 rfl ?_
          refine lv_iadd hx hb dX11_seen_84 ?_
          refine lv_topi (fun t13 et13 => ?_)
          have zt13 : t13.toInt = (v 38).toInt + 1 := (congrArg Int32.toInt et13).trans (add_i rfl tc_1 (om_129 b38_v) (om_497 b38_v))
          refine va_put (D := (dC, dI)) (ci := 11) (v := .int t13) (ty := tyX11 73) (C := RX11) (T := TX11) (N := 79) hx hb hts inB_11 tyX11 tyX11_ok nmX11 hown hE.1 hP hD hS 0 rfl rfl 73 (Nat.le_of_ble_eq_true rfl) (hts _ k_1393) (fun _ h9 => h9) rfl (tyX11_ok 73 (Nat.le_of_ble_eq_true rfl)) rfl rfl (Nat.le_of_ble_eq_true rfl) dX11_seen_85 (fun H locs hP hD hS => ?_)
          have hP : va_P (dC, dI) vwCl (YW cy y0 r (upd v 38 t13) f12 w g) H := hP
          have hD : va_D A (YW cy y0 r (upd v 38 t13) f12 w g) := hD
          refine lv_aload_n hx hb dX11_seen_88 rfl (lv_at hl 0 rfl) ?_
          refine va_get (D := (dC, dI)) (ci := 11) (v := .int t13) (C := RX11) (T := TX11) (N := 79) hx hb hts inB_11 hown hE.1 hP 0 rfl rfl 73 (Nat.le_of_ble_eq_true rfl) (hts _ k_1393) (fun _ h9 => h9) rfl dX11_seen_89 ?_
          refine lv_iconst (v := 1) hx hb dX11_seen_92 rfl ?_
          refine lv_isub hx hb dX11_seen_93 ?_
          refine lv_topi (fun t15 et15 => ?_)
          exact ret t15 ((upd v 38 t13), f12, w, g) _ _ _ _ _ _ rfl ⟨(gsY_X11_seen_1_q2 hG4 c6 c7 c8 ef9 ef10 ef11 ef12 et13 et15), (KV.up (j := 38) (x := t13) hM_v rfl), hA_f12, ⟨(Yu_38 (x := t13) hIv.1 (show (0 : Int) ≤ t13.toInt from om_132 b38_v zt13) (show t13.toInt ≤ (30 : Int) from om_498 b38_v zc8 zt13)), hIv.2⟩, hCf12, hRf12, rfl, rfl, rfl, rfl, rfl, rfl, rfl, rfl, rfl, rfl, rfl, rfl, rfl, rfl, rfl, rfl, rfl, rfl, rfl⟩ hP hD hS dX11_seen_94 (Nat.le_refl _) (Nat.le_refl _)
        · skip
          refine lv_iconst (v := (-1)) hx hb dX11_seen_33 rfl ?_
          exact ret (-1) (v, f, w, g) _ _ _ _ _ _ rfl ⟨(gsY_X11_seen_1_q3 hG4 c6 c7 c8), hM_v, hA_f, hIv, hCf, hRf, rfl, rfl, rfl, rfl, rfl, rfl, rfl, rfl, rfl, rfl, rfl, rfl, rfl, rfl, rfl, rfl, rfl, rfl, rfl⟩ hP hD hS dX11_seen_34 (Nat.le_refl _) (Nat.le_refl _)
  · skip
    subst g5
    refine lv_if_eq (tgt := 33) hx hb dX11_seen_7 rfl (fun _ => ?_) (fun c0 => absurd (by decide) c0)
    refine lv_iconst (v := (-1)) hx hb dX11_seen_33 rfl ?_
    exact ret (-1) (v, f, w, g) _ _ _ _ _ _ rfl ⟨(gsY_X11_seen_1_q4 hG4), hM_v, hA_f, hIv, hCf, hRf, rfl, rfl, rfl, rfl, rfl, rfl, rfl, rfl, rfl, rfl, rfl, rfl, rfl, rfl, rfl, rfl, rfl, rfl, rfl⟩ hP hD hS dX11_seen_34 (Nat.le_refl _) (Nat.le_refl _)
set_option maxHeartbeats 4000000 in
set_option maxRecDepth 100000 in
theorem sY_X11_untell_1 (NF : Nat) (l : Launch) (dC : Nat → ClassId) (dI : Nat → Nat → Nat) (cy : Nat → ClassId) (y0 : Nat) (r : Nat → Nat) (p1 : Int32) (v : Nat → Int32) (f : Nat → Nat → Int32) (w : Int64) (g : Nat → Int64) (hIv : YI v) (hCf : YC f) (hRf : progOK (f 4) (f 5) (v 9).toInt.toNat)  : ctI l (dC, dI) cy yX11_untell cX11_untell 2 .boolean 2 82 0 0 ((Nat → Int32) × (Nat → Nat → Int32) × (Int64) × (Nat → Int64)) [.ref y0, .int p1] (YW cy y0 r v f w g) (fun r u => gsY_X11_untell_1 NF p1 v f w g = (r, u) ∧ KV [] u.1 v ∧ KF [32] u.2.1 f ∧ YI u.1 ∧ YC u.2.1 ∧ progOK (u.2.1 4) (u.2.1 5) (u.1 9).toInt.toNat ∧ u.1 0 = v 0 ∧ u.1 1 = v 1 ∧ u.1 2 = v 2 ∧ u.1 3 = v 3 ∧ u.1 4 = v 4 ∧ u.1 5 = v 5 ∧ u.1 8 = v 8 ∧ u.1 9 = v 9 ∧ u.1 10 = v 10 ∧ u.1 13 = v 13 ∧ u.1 14 = v 14 ∧ u.1 15 = v 15 ∧ u.1 17 = v 17 ∧ u.1 18 = v 18 ∧ u.1 24 = v 24 ∧ u.1 25 = v 25 ∧ u.1 35 = v 35 ∧ u.1 36 = v 36 ∧ u.1 38 = v 38 ∧ u.1 39 = v 39 ∧ ((r = 1) ∨ (r = 0))) (fun u => YW cy y0 r u.1 u.2.1 u.2.2.1 u.2.2.2) := by
  refine ctI_of (by decide) (Nat.le_of_ble_eq_true rfl) (fun p e s m below meth c A ls Q hx hb hml hts hown hE hP hD hA hl ret => ?_)
  have hM_v : KV [] v v := fun _ _ => rfl
  have hA_f : KF [32] f f := fun _ _ => rfl
  have hown : s.vm.findClass RX11 = some m.cls := hown
  have hS : va_S A s.heap s.heap [] := va_S.rf
  have hl : lv_has ls 2 [(0, .ref y0), (1, .int p1)] := hl
  refine lv_iload_n hx hb dX11_untell_0 rfl (lv_at hl 1 rfl) ?_
  refine lv_iconst (v := 0) hx hb dX11_untell_1 rfl ?_
  refine lv_aload_n hx hb dX11_untell_2 rfl (lv_at hl 0 rfl) ?_
  refine va_get (D := (dC, dI)) (ci := 11) (v := .int (v 38)) (C := RX11) (T := TX11) (N := 79) hx hb hts inB_11 hown hE.1 hP 0 rfl rfl 73 (Nat.le_of_ble_eq_true rfl) (hts _ k_1393) (fun _ h9 => h9) rfl dX11_untell_3 ?_
  have b38_v : 0 ≤ (v 38).toInt ∧ (v 38).toInt ≤ 30 := Yb_38 hIv.1
  refine lv_iconst (v := 1) hx hb dX11_untell_6 rfl ?_
  refine lv_isub hx hb dX11_untell_7 ?_
  refine lv_topi (fun t1 et1 => ?_)
  have zt1 : t1.toInt = (v 38).toInt - 1 := (congrArg Int32.toInt et1).trans (sub_i rfl tc_1 (om_499 b38_v) (om_161 b38_v))
  refine cbSi (n := 3) (rest := []) hx hb hml hown hts hE hP hD hS hA (sY_X11_isIn_1 NF l dC dI cy y0 r p1 0 t1 v f w g hIv hCf hRf ) k_1736 k_1737 k_114 k_1738 he_yX11_isIn ⟨Nat.le_of_ble_eq_true rfl, Nat.le_of_ble_eq_true rfl⟩ (rfl) hl.1 rfl (Nat.le_of_ble_eq_true rfl) dX11_untell_8 (fun r4 u H locs hw hP hD hS => ?_)
  obtain ⟨hG5, hw⟩ := hw
  rcases hw with ⟨g6, g6_0, g6_1⟩ | ⟨g6⟩
  · skip
    subst g6
    refine lv_if_eq (tgt := 23) hx hb dX11_untell_11 rfl (fun c0 => absurd c0 (by decide)) (fun _ => ?_)
    refine lv_aload_n hx hb dX11_untell_14 rfl (lv_at hl 0 rfl) ?_
    refine va_get (D := (dC, dI)) (ci := 11) (v := .ref (r 71)) (C := RX11) (T := TX11) (N := 79) hx hb hts inB_11 hown hE.1 hP 0 rfl rfl 71 (Nat.le_of_ble_eq_true rfl) (hts _ k_1391) (fun _ h9 => h9) rfl dX11_untell_15 ?_
    refine lv_iload_n hx hb dX11_untell_18 rfl (lv_at hl 1 rfl) ?_
    refine ldI hx hb hE hP 33 rfl (vpI (k := 30) rfl (show 0 ≤ p1.toInt from om_500 g6_0 tc_0) (show p1.toInt < 30 from om_501 b38_v zt1 g6_1)) rfl rfl dX11_untell_19 ?_
    refine lv_topi (fun t7 et7 => ?_)
    refine lv_if_lt (tgt := 25) hx hb dX11_untell_20 rfl (fun c8 => ?_) (fun c8 => ?_)
    · skip
      refine lv_aload_n hx hb dX11_untell_25 rfl (lv_at hl 0 rfl) ?_
      refine va_get (D := (dC, dI)) (ci := 11) (v := .ref (r 71)) (C := RX11) (T := TX11) (N := 79) hx hb hts inB_11 hown hE.1 hP 0 rfl rfl 71 (Nat.le_of_ble_eq_true rfl) (hts _ k_1391) (fun _ h9 => h9) rfl dX11_untell_26 ?_
      refine lv_iload_n hx hb dX11_untell_29 rfl (lv_at hl 1 rfl) ?_
      refine lv_aload_n hx hb dX11_untell_30 rfl (lv_at hl 0 rfl) ?_
      refine va_get (D := (dC, dI)) (ci := 11) (v := .int (v 39)) (C := RX11) (T := TX11) (N := 79) hx hb hts inB_11 hown hE.1 hP 0 rfl rfl 74 (Nat.le_of_ble_eq_true rfl) (hts _ k_1394) (fun _ h9 => h9) rfl dX11_untell_31 ?_
      refine stI hx hb hE hP hD hS 33 rfl (vpI (k := 30) rfl (show 0 ≤ p1.toInt from om_500 g6_0 tc_0) (show p1.toInt < 30 from om_501 b38_v zt1 g6_1)) rfl dX11_untell_34 (fun H locs hP hD hS => ?_)
      obtain ⟨f9, ef9, hP, hD⟩ : ∃ fz9, fz9 = upd2 f 32 (upd (f 32) p1.toNatClampNeg (v 39)) ∧ va_P (dC, dI) vwCl (YW cy y0 r v fz9 w g) H ∧ va_D A (YW cy y0 r v fz9 w g) := ⟨_, rfl, hP, hD⟩
      have hCf9 : YC f9 := by rw [ef9]; exact hCf
      have hRf9 : progOK (f9 4) (f9 5) (v 9).toInt.toNat := by rw [ef9]; exact hRf
      have hA_f9 : KF [32] f9 f := by rw [ef9]; exact KF.up hA_f rfl
      refine lv_iconst (v := 1) hx hb dX11_untell_35 rfl ?_
      exact ret 1 (v, f9, w, g) _ _ _ _ _ _ rfl ⟨(gsY_X11_untell_1_q0 et1 hG5 et7 c8 ef9), hM_v, hA_f9, hIv, hCf9, hRf9, rfl, rfl, rfl, rfl, rfl, rfl, rfl, rfl, rfl, rfl, rfl, rfl, rfl, rfl, rfl, rfl, rfl, rfl, rfl, rfl, (Or.inl rfl)⟩ hP hD hS dX11_untell_36 (Nat.le_refl _) (Nat.le_refl _)
    · skip
      refine lv_iconst (v := 0) hx hb dX11_untell_23 rfl ?_
      exact ret 0 (v, f, w, g) _ _ _ _ _ _ rfl ⟨(gsY_X11_untell_1_q1 et1 hG5 et7 c8), hM_v, hA_f, hIv, hCf, hRf, rfl, rfl, rfl, rfl, rfl, rfl, rfl, rfl, rfl, rfl, rfl, rfl, rfl, rfl, rfl, rfl, rfl, rfl, rfl, rfl, (Or.inr rfl)⟩ hP hD hS dX11_untell_24 (Nat.le_refl _) (Nat.le_refl _)
  · skip
    subst g6
    refine lv_if_eq (tgt := 23) hx hb dX11_untell_11 rfl (fun _ => ?_) (fun c0 => absurd (by decide) c0)
    refine lv_iconst (v := 0) hx hb dX11_untell_23 rfl ?_
    exact ret 0 (v, f, w, g) _ _ _ _ _ _ rfl ⟨(gsY_X11_untell_1_q2 et1 hG5), hM_v, hA_f, hIv, hCf, hRf, rfl, rfl, rfl, rfl, rfl, rfl, rfl, rfl, rfl, rfl, rfl, rfl, rfl, rfl, rfl, rfl, rfl, rfl, rfl, rfl, (Or.inr rfl)⟩ hP hD hS dX11_untell_24 (Nat.le_refl _) (Nat.le_refl _)
set_option maxHeartbeats 4000000 in
set_option maxRecDepth 100000 in
theorem sY_X11_later_1 (NF : Nat) (l : Launch) (dC : Nat → ClassId) (dI : Nat → Nat → Nat) (cy : Nat → ClassId) (y0 : Nat) (r : Nat → Nat) (p1 : Int32) (v : Nat → Int32) (f : Nat → Nat → Int32) (w : Int64) (g : Nat → Int64) (hIv : YI v) (hCf : YC f) (hRf : progOK (f 4) (f 5) (v 9).toInt.toNat)  : ctI l (dC, dI) cy yX11_later cX11_later 2 .int 1 60 0 0 ((Nat → Int32) × (Nat → Nat → Int32) × (Int64) × (Nat → Int64)) [.ref y0, .int p1] (YW cy y0 r v f w g) (fun r u => gsY_X11_later_1 NF p1 v f w g = (r, u) ∧ KV [39] u.1 v ∧ KF [] u.2.1 f ∧ YI u.1 ∧ YC u.2.1 ∧ progOK (u.2.1 4) (u.2.1 5) (u.1 9).toInt.toNat ∧ u.1 0 = v 0 ∧ u.1 1 = v 1 ∧ u.1 2 = v 2 ∧ u.1 3 = v 3 ∧ u.1 4 = v 4 ∧ u.1 5 = v 5 ∧ u.1 8 = v 8 ∧ u.1 9 = v 9 ∧ u.1 10 = v 10 ∧ u.1 13 = v 13 ∧ u.1 14 = v 14 ∧ u.1 15 = v 15 ∧ u.1 17 = v 17 ∧ u.1 18 = v 18 ∧ u.1 24 = v 24 ∧ u.1 25 = v 25 ∧ u.1 35 = v 35 ∧ u.1 36 = v 36 ∧ u.1 38 = v 38) (fun u => YW cy y0 r u.1 u.2.1 u.2.2.1 u.2.2.2) := by
  refine ctI_of (by decide) (Nat.le_of_ble_eq_true rfl) (fun p e s m below meth c A ls Q hx hb hml hts hown hE hP hD hA hl ret => ?_)
  have hM_v : KV [39] v v := fun _ _ => rfl
  have hA_f : KF [] f f := fun _ _ => rfl
  have hown : s.vm.findClass RX11 = some m.cls := hown
  have hS : va_S A s.heap s.heap [] := va_S.rf
  have hl : lv_has ls 2 [(0, .ref y0), (1, .int p1)] := hl
  refine lv_iload_n hx hb dX11_later_0 rfl (lv_at hl 1 rfl) ?_
  refine lv_if_lt (tgt := 23) hx hb dX11_later_1 rfl (fun c1 => ?_) (fun c1 => ?_)
  · skip
    refine lv_iconst (v := (-1)) hx hb dX11_later_23 rfl ?_
    exact ret (-1) (v, f, w, g) _ _ _ _ _ _ rfl ⟨(gsY_X11_later_1_q0 c1), hM_v, hA_f, hIv, hCf, hRf, rfl, rfl, rfl, rfl, rfl, rfl, rfl, rfl, rfl, rfl, rfl, rfl, rfl, rfl, rfl, rfl, rfl, rfl, rfl⟩ hP hD hS dX11_later_24 (Nat.le_refl _) (Nat.le_refl _)
  · skip
    have zc1 : ¬ (p1.toInt < 0) := zLn rfl tc_0 c1
    refine lv_iload_n hx hb dX11_later_4 rfl (lv_at hl 1 rfl) ?_
    refine lv_sipush (v := 1000) hx hb dX11_later_5 rfl ?_
    refine lv_icmp_gt (tgt := 23) hx hb dX11_later_8 rfl (fun c2 => ?_) (fun c2 => ?_)
    · skip
      refine lv_iconst (v := (-1)) hx hb dX11_later_23 rfl ?_
      exact ret (-1) (v, f, w, g) _ _ _ _ _ _ rfl ⟨(gsY_X11_later_1_q1 c1 c2), hM_v, hA_f, hIv, hCf, hRf, rfl, rfl, rfl, rfl, rfl, rfl, rfl, rfl, rfl, rfl, rfl, rfl, rfl, rfl, rfl, rfl, rfl, rfl, rfl⟩ hP hD hS dX11_later_24 (Nat.le_refl _) (Nat.le_refl _)
    · skip
      have zc2 : ¬ (1000 < p1.toInt) := zLn tc_1000 rfl c2
      refine lv_aload_n hx hb dX11_later_11 rfl (lv_at hl 0 rfl) ?_
      refine va_get (D := (dC, dI)) (ci := 11) (v := .int (v 39)) (C := RX11) (T := TX11) (N := 79) hx hb hts inB_11 hown hE.1 hP 0 rfl rfl 74 (Nat.le_of_ble_eq_true rfl) (hts _ k_1394) (fun _ h9 => h9) rfl dX11_later_12 ?_
      have b39_v : 0 ≤ (v 39).toInt ∧ (v 39).toInt ≤ 100000 := Yb_39 hIv.1
      refine lv_iload_n hx hb dX11_later_15 rfl (lv_at hl 1 rfl) ?_
      refine lv_iadd hx hb dX11_later_16 ?_
      refine lv_topi (fun t3 et3 => ?_)
      have zt3 : t3.toInt = (v 39).toInt + p1.toInt := (congrArg Int32.toInt et3).trans (add_i rfl rfl (om_135 zc1 b39_v) (om_136 zc2 b39_v))
      refine lv_ldcw (v := 100000) hx hb hown (hts _ k_2019) dX11_later_17 ?_
      refine lv_icmp_le (tgt := 25) hx hb dX11_later_20 rfl (fun c6 => ?_) (fun c6 => ?_)
      · skip
        have zc6 : t3.toInt ≤ 100000 := zMp rfl tc_100000 c6
        refine lv_aload_n hx hb dX11_later_25 rfl (lv_at hl 0 rfl) ?_
        refine lv_dup hx hb dX11_later_26 rfl ?_
        refine va_get (D := (dC, dI)) (ci := 11) (v := .int (v 39)) (C := RX11) (T := TX11) (N := 79) hx hb hts inB_11 hown hE.1 hP 0 rfl rfl 74 (Nat.le_of_ble_eq_true rfl) (hts _ k_1394) (fun _ h9 => h9) rfl dX11_later_27 ?_
        refine lv_iload_n hx hb dX11_later_30 rfl (lv_at hl 1 rfl) ?_
        refine lv_iadd hx hb dX11_later_31 ?_
        refine tI (y := t3) et3.symm ?_
        refine va_put (D := (dC, dI)) (ci := 11) (v := .int t3) (ty := tyX11 74) (C := RX11) (T := TX11) (N := 79) hx hb hts inB_11 tyX11 tyX11_ok nmX11 hown hE.1 hP hD hS 0 rfl rfl 74 (Nat.le_of_ble_eq_true rfl) (hts _ k_1394) (fun _ h9 => h9) rfl (tyX11_ok 74 (Nat.le_of_ble_eq_true rfl)) rfl rfl (Nat.le_of_ble_eq_true rfl) dX11_later_32 (fun H locs hP hD hS => ?_)
        have hP : va_P (dC, dI) vwCl (YW cy y0 r (upd v 39 t3) f w g) H := hP
        have hD : va_D A (YW cy y0 r (upd v 39 t3) f w g) := hD
        refine lv_aload_n hx hb dX11_later_35 rfl (lv_at hl 0 rfl) ?_
        refine va_get (D := (dC, dI)) (ci := 11) (v := .int t3) (C := RX11) (T := TX11) (N := 79) hx hb hts inB_11 hown hE.1 hP 0 rfl rfl 74 (Nat.le_of_ble_eq_true rfl) (hts _ k_1394) (fun _ h9 => h9) rfl dX11_later_36 ?_
        exact ret t3 ((upd v 39 t3), f, w, g) _ _ _ _ _ _ rfl ⟨(gsY_X11_later_1_q2 c1 c2 et3 c6), (KV.up (j := 39) (x := t3) hM_v rfl), hA_f, ⟨(Yu_39 (x := t3) hIv.1 (show (0 : Int) ≤ t3.toInt from om_137 zc1 b39_v zt3) (show t3.toInt ≤ (100000 : Int) from om_138 zc6)), hIv.2⟩, hCf, hRf, rfl, rfl, rfl, rfl, rfl, rfl, rfl, rfl, rfl, rfl, rfl, rfl, rfl, rfl, rfl, rfl, rfl, rfl, rfl⟩ hP hD hS dX11_later_39 (Nat.le_refl _) (Nat.le_refl _)
      · skip
        refine lv_iconst (v := (-1)) hx hb dX11_later_23 rfl ?_
        exact ret (-1) (v, f, w, g) _ _ _ _ _ _ rfl ⟨(gsY_X11_later_1_q3 c1 c2 et3 c6), hM_v, hA_f, hIv, hCf, hRf, rfl, rfl, rfl, rfl, rfl, rfl, rfl, rfl, rfl, rfl, rfl, rfl, rfl, rfl, rfl, rfl, rfl, rfl, rfl⟩ hP hD hS dX11_later_24 (Nat.le_refl _) (Nat.le_refl _)
set_option maxHeartbeats 4000000 in
set_option maxRecDepth 100000 in
theorem sY_X11_power_1 (NF : Nat) (l : Launch) (dC : Nat → ClassId) (dI : Nat → Nat → Nat) (cy : Nat → ClassId) (y0 : Nat) (r : Nat → Nat) (p0 : Int32) (p1 : Int32) (v : Nat → Int32) (f : Nat → Nat → Int32) (w : Int64) (g : Nat → Int64) (hIv : YI v) (hCf : YC f) (hRf : progOK (f 4) (f 5) (v 9).toInt.toNat)  : ctI l (dC, dI) cy yX11_power cX11_power 4 .int 1 60 0 0 Unit [.int p0, .int p1] (YW cy y0 r v f w g) (fun r u => gsY_X11_power_1 NF p0 p1 v f w g = r) (fun u => YW cy y0 r v f w g) := by
  refine ctI_of (by decide) (Nat.le_of_ble_eq_true rfl) (fun p e s m below meth c A ls Q hx hb hml hts hown hE hP hD hA hl ret => ?_)
  have hown : s.vm.findClass RX11 = some m.cls := hown
  have hS : va_S A s.heap s.heap [] := va_S.rf
  have hl : lv_has ls 4 [(0, .int p0), (1, .int p1)] := hl
  refine lv_iconst (v := 1) hx hb dX11_power_0 rfl ?_
  refine lv_istore_n (lv' := [(2, .int 1), (0, .int p0), (1, .int p1)]) hx hb dX11_power_1 rfl hl (Nat.le_of_ble_eq_true rfl) rfl (fun ls hl => ?_)
  refine lv_iconst (v := 0) hx hb dX11_power_2 rfl ?_
  refine lv_istore_n (lv' := [(3, .int 0), (2, .int 1), (0, .int p0), (1, .int p1)]) hx hb dX11_power_3 rfl hl (Nat.le_of_ble_eq_true rfl) rfl (fun ls hl => ?_)
  have lp1 : ∀ (n1 : Nat) (l2_1 : Int32) (l3_1 : Int32), gsY_X11_power_1_L1 NF p0 p1 n1 l2_1 l3_1 = (gsY_X11_power_1 NF p0 p1 v f w g) → ((0 : Int) ≤ l3_1.toInt ∧ l3_1.toInt ≤ 2147483647) → (2147483647 - l3_1.toInt).toNat < n1 → ∀ (H : Heap) (locs : List Loc) (ls : Array Slot), va_P (dC, dI) vwCl (YW cy y0 r v f w g) H → va_D A (YW cy y0 r v f w g) → va_S A s.heap H locs → lv_has ls 4 [(3, .int l3_1), (2, .int l2_1), (0, .int p0), (1, .int p1)] → W p l e { frames := 1, cells := 0, slots := 0, locals := 60 } s m ([.int p0, .int p1] : List Value).toArray below meth c H locs 0 0 Q (F0 m 4 ls []) := by
    intro n1
    induction n1 with
    | zero => intro l2_1 l3_1 hT1 hr3_1 hm; exact absurd hm (Nat.not_lt_zero _)
    | succ n1 ih1 =>
      intro l2_1 l3_1 hT1 hr3_1 hm1 H locs ls hP hD hS hl
      refine lv_iload_n hx hb dX11_power_4 rfl (lv_at hl 0 rfl) ?_
      refine lv_iload_n hx hb dX11_power_5 rfl (lv_at hl 3 rfl) ?_
      refine lv_icmp_ge (tgt := 19) hx hb dX11_power_6 rfl (fun c2 => ?_) (fun c2 => ?_)
      · skip
        refine lv_iload_n hx hb dX11_power_19 rfl (lv_at hl 1 rfl) ?_
        exact ret l2_1 () _ _ _ _ _ _ rfl (hT1.symm.trans (gsY_X11_power_1_q0 c2)) hP hD hS dX11_power_20 (Nat.le_refl _) (Nat.le_refl _)
      · skip
        have zc2 : ¬ (p1.toInt ≤ l3_1.toInt) := zMn rfl rfl c2
        have rg6 := fb_rng p1
        refine lv_iload_n hx hb dX11_power_9 rfl (lv_at hl 1 rfl) ?_
        refine lv_iload_n hx hb dX11_power_10 rfl (lv_at hl 2 rfl) ?_
        refine lv_imul hx hb dX11_power_11 ?_
        refine lv_topi (fun t7 et7 => ?_)
        refine lv_istore_n (lv' := [(2, .int t7), (3, .int l3_1), (0, .int p0), (1, .int p1)]) hx hb dX11_power_12 rfl hl (Nat.le_of_ble_eq_true rfl) rfl (fun ls hl => ?_)
        obtain ⟨t8, et8⟩ : ∃ y : Int32, y = l3_1 + 1 := ⟨_, rfl⟩
        have zt8 : t8.toInt = l3_1.toInt + 1 := (congrArg Int32.toInt et8).trans (add_i rfl tc_1 (om_41 hr3_1) (om_196 zc2 rg6))
        refine lv_iinc (v := t8) (lv' := [(3, .int t8), (2, .int t7), (0, .int p0), (1, .int p1)]) hx hb dX11_power_13 hl (k := 1) rfl et8.symm (Nat.le_of_ble_eq_true rfl) rfl (fun ls hl => ?_)
        refine lv_goto (tgt := 4) hx hb dX11_power_16 rfl ?_
        have rg9 := fb_rng t8
        exact ih1 t7 t8 ((gsY_X11_power_1_q1 c2 et7 et8).symm.trans hT1) ⟨show (0 : Int) ≤ t8.toInt from om_43 hr3_1 zt8, show t8.toInt ≤ (2147483647 : Int) from om_44 rg9⟩ (show (2147483647 - t8.toInt).toNat < n1 from om_33 hm1 zt8 rg9) _ _ _ hP hD hS (lv_sub hl [0, 1, 2, 3] rfl)
  exact lp1 (4294967296 + NF) 1 0 gsY_X11_power_1_q2.symm ⟨by decide, by decide⟩ (show (2147483647 - (0 : Int32).toInt).toNat < 4294967296 + NF from om_38 tc_0) _ _ _ hP hD hS (lv_sub hl [0, 1, 2, 3] rfl)
set_option maxHeartbeats 4000000 in
set_option maxRecDepth 100000 in
theorem sY_X11_power_2 (NF : Nat) (l : Launch) (dC : Nat → ClassId) (dI : Nat → Nat → Nat) (cy : Nat → ClassId) (y0 : Nat) (r : Nat → Nat)  (v : Nat → Int32) (f : Nat → Nat → Int32) (w : Int64) (g : Nat → Int64) (hIv : YI v) (hCf : YC f) (hRf : progOK (f 4) (f 5) (v 9).toInt.toNat)  : ctI l (dC, dI) cy yX11_power cX11_power 4 .int 1 60 0 0 Unit [.int 100, .int 0] (YW cy y0 r v f w g) (fun r u => gsY_X11_power_2 NF v f w g = r ∧ ((1 : Int) ≤ r.toInt ∧ r.toInt ≤ 1)) (fun u => YW cy y0 r v f w g) := by
  refine ctI_of (by decide) (Nat.le_of_ble_eq_true rfl) (fun p e s m below meth c A ls Q hx hb hml hts hown hE hP hD hA hl ret => ?_)
  have hUv : (v 35).toInt + (v 36).toInt ≤ 40 := hIv.2
  have hown : s.vm.findClass RX11 = some m.cls := hown
  have hS : va_S A s.heap s.heap [] := va_S.rf
  have hl : lv_has ls 4 [(0, .int 100), (1, .int 0)] := hl
  refine lv_iconst (v := 1) hx hb dX11_power_0 rfl ?_
  refine lv_istore_n (lv' := [(2, .int 1), (0, .int 100), (1, .int 0)]) hx hb dX11_power_1 rfl hl (Nat.le_of_ble_eq_true rfl) rfl (fun ls hl => ?_)
  refine lv_iconst (v := 0) hx hb dX11_power_2 rfl ?_
  refine lv_istore_n (lv' := [(3, .int 0), (2, .int 1), (0, .int 100), (1, .int 0)]) hx hb dX11_power_3 rfl hl (Nat.le_of_ble_eq_true rfl) rfl (fun ls hl => ?_)
  refine lv_iload_n hx hb dX11_power_4 rfl (lv_at hl 0 rfl) ?_
  refine lv_iload_n hx hb dX11_power_5 rfl (lv_at hl 3 rfl) ?_
  refine lv_icmp_ge (tgt := 19) hx hb dX11_power_6 rfl (fun _ => ?_) (fun c0 => absurd (by decide) c0)
  refine lv_iload_n hx hb dX11_power_19 rfl (lv_at hl 1 rfl) ?_
  exact ret 1 () _ _ _ _ _ _ rfl ⟨gsY_X11_power_2_q0, ⟨by decide, by decide⟩⟩ hP hD hS dX11_power_20 (Nat.le_refl _) (Nat.le_refl _)
set_option maxHeartbeats 4000000 in
set_option maxRecDepth 100000 in
theorem sY_X11_divisor_1 (NF : Nat) (l : Launch) (dC : Nat → ClassId) (dI : Nat → Nat → Nat) (cy : Nat → ClassId) (y0 : Nat) (r : Nat → Nat) (p0 : Int32) (p1 : Int32) (v : Nat → Int32) (f : Nat → Nat → Int32) (w : Int64) (g : Nat → Int64) (hIv : YI v) (hCf : YC f) (hRf : progOK (f 4) (f 5) (v 9).toInt.toNat) (hp0 : (1 : Int) ≤ p0.toInt ∧ p0.toInt ≤ 2147483647) : ctI l (dC, dI) cy yX11_divisor cX11_divisor 5 .int 1 60 0 0 Unit [.int p0, .int p1] (YW cy y0 r v f w g) (fun r u => gsY_X11_divisor_1 NF p0 p1 v f w g = r ∧ ((1 : Int) ≤ r.toInt ∧ r.toInt ≤ 2147483647)) (fun u => YW cy y0 r v f w g) := by
  refine ctI_of (by decide) (Nat.le_of_ble_eq_true rfl) (fun p e s m below meth c A ls Q hx hb hml hts hown hE hP hD hA hl ret => ?_)
  have hown : s.vm.findClass RX11 = some m.cls := hown
  have hS : va_S A s.heap s.heap [] := va_S.rf
  have hl : lv_has ls 5 [(0, .int p0), (1, .int p1)] := hl
  refine lv_iload_n hx hb dX11_divisor_0 rfl (lv_at hl 0 rfl) ?_
  refine lv_istore_n (lv' := [(2, .int p0), (0, .int p0), (1, .int p1)]) hx hb dX11_divisor_1 rfl hl (Nat.le_of_ble_eq_true rfl) rfl (fun ls hl => ?_)
  refine lv_iload_n hx hb dX11_divisor_2 rfl (lv_at hl 2 rfl) ?_
  refine lv_istore_n (lv' := [(3, .int p1), (2, .int p0), (0, .int p0), (1, .int p1)]) hx hb dX11_divisor_3 rfl hl (Nat.le_of_ble_eq_true rfl) rfl (fun ls hl => ?_)
  have lp1 : ∀ (n1 : Nat) (l2_1 : Int32) (l3_1 : Int32), gsY_X11_divisor_1_L1 NF n1 l2_1 l3_1 = (gsY_X11_divisor_1 NF p0 p1 v f w g) → ((1 : Int) ≤ l2_1.toInt ∧ l2_1.toInt ≤ 2147483647) → (l3_1.toInt).toNat < n1 → ∀ (H : Heap) (locs : List Loc) (ls : Array Slot), va_P (dC, dI) vwCl (YW cy y0 r v f w g) H → va_D A (YW cy y0 r v f w g) → va_S A s.heap H locs → lv_has ls 5 [(3, .int l3_1), (2, .int l2_1), (0, .int p0), (1, .int p1)] → W p l e { frames := 1, cells := 0, slots := 0, locals := 60 } s m ([.int p0, .int p1] : List Value).toArray below meth c H locs 0 0 Q (F0 m 4 ls []) := by
    intro n1
    induction n1 with
    | zero => intro l2_1 l3_1 hT1 hr2_1 hm; exact absurd hm (Nat.not_lt_zero _)
    | succ n1 ih1 =>
      intro l2_1 l3_1 hT1 hr2_1 hm1 H locs ls hP hD hS hl
      refine lv_iload_n hx hb dX11_divisor_4 rfl (lv_at hl 0 rfl) ?_
      refine lv_if_le (tgt := 21) hx hb dX11_divisor_5 rfl (fun c2 => ?_) (fun c2 => ?_)
      · skip
        refine lv_iload_n hx hb dX11_divisor_21 rfl (lv_at hl 1 rfl) ?_
        exact ret l2_1 () _ _ _ _ _ _ rfl ⟨(hT1.symm.trans (gsY_X11_divisor_1_q0 c2)), ⟨show (1 : Int) ≤ l2_1.toInt from om_502 hr2_1, show l2_1.toInt ≤ 2147483647 from om_503 hr2_1⟩⟩ hP hD hS dX11_divisor_22 (Nat.le_refl _) (Nat.le_refl _)
      · skip
        have zc2 : ¬ (l3_1.toInt ≤ 0) := zMn rfl tc_0 c2
        refine lv_iload_n hx hb dX11_divisor_8 rfl (lv_at hl 1 rfl) ?_
        refine lv_iload_n hx hb dX11_divisor_9 rfl (lv_at hl 0 rfl) ?_
        refine lv_irem hx hb dX11_divisor_10 (ne0 (show ¬ l3_1.toInt = 0 from om_504 zc2)) ?_
        refine lv_topi (fun t3 et3 => ?_)
        have zt3 : 0 ≤ t3.toInt ∧ t3.toInt < l3_1.toInt := by rw [et3]; exact rem_rng (zx := l2_1.toInt) (zy := l3_1.toInt) rfl rfl (show (0 : Int) ≤ l2_1.toInt from om_267 hr2_1) (show (0 : Int) < l3_1.toInt from om_336 zc2)
        refine lv_istore (lv' := [(4, .int t3), (3, .int l3_1), (2, .int l2_1), (0, .int p0), (1, .int p1)]) hx hb dX11_divisor_11 hl (Nat.le_of_ble_eq_true rfl) rfl (fun ls hl => ?_)
        refine lv_iload_n hx hb dX11_divisor_13 rfl (lv_at hl 1 rfl) ?_
        refine lv_istore_n (lv' := [(2, .int l3_1), (4, .int t3), (3, .int l3_1), (0, .int p0), (1, .int p1)]) hx hb dX11_divisor_14 rfl hl (Nat.le_of_ble_eq_true rfl) rfl (fun ls hl => ?_)
        refine lv_iload hx hb dX11_divisor_15 (lv_at hl 1 rfl) ?_
        refine lv_istore_n (lv' := [(3, .int t3), (2, .int l3_1), (4, .int t3), (0, .int p0), (1, .int p1)]) hx hb dX11_divisor_17 rfl hl (Nat.le_of_ble_eq_true rfl) rfl (fun ls hl => ?_)
        refine lv_goto (tgt := 4) hx hb dX11_divisor_18 rfl ?_
        have rg4 := fb_rng l3_1
        exact ih1 l3_1 t3 ((gsY_X11_divisor_1_q1 c2 et3).symm.trans hT1) ⟨show (1 : Int) ≤ l3_1.toInt from om_505 zc2, show l3_1.toInt ≤ (2147483647 : Int) from om_44 rg4⟩ (show (t3.toInt).toNat < n1 from om_506 hm1 zt3) _ _ _ hP hD hS (lv_sub hl [0, 1, 3, 4] rfl)
  exact lp1 (4294967296 + NF) p0 p1 gsY_X11_divisor_1_q2.symm ⟨show (1 : Int) ≤ p0.toInt from om_502 hp0, show p0.toInt ≤ (2147483647 : Int) from om_503 hp0⟩ (show (p1.toInt).toNat < 4294967296 + NF from om_507 (fb_rng p1)) _ _ _ hP hD hS (lv_sub hl [0, 1, 2, 3] rfl)
set_option maxHeartbeats 4000000 in
set_option maxRecDepth 100000 in
theorem sY_X11_power_3 (NF : Nat) (l : Launch) (dC : Nat → ClassId) (dI : Nat → Nat → Nat) (cy : Nat → ClassId) (y0 : Nat) (r : Nat → Nat)  (v : Nat → Int32) (f : Nat → Nat → Int32) (w : Int64) (g : Nat → Int64) (hIv : YI v) (hCf : YC f) (hRf : progOK (f 4) (f 5) (v 9).toInt.toNat)  : ctI l (dC, dI) cy yX11_power cX11_power 4 .int 1 60 0 0 Unit [.int 100, .int 1] (YW cy y0 r v f w g) (fun r u => gsY_X11_power_3 NF v f w g = r ∧ ((100 : Int) ≤ r.toInt ∧ r.toInt ≤ 100)) (fun u => YW cy y0 r v f w g) := by
  refine ctI_of (by decide) (Nat.le_of_ble_eq_true rfl) (fun p e s m below meth c A ls Q hx hb hml hts hown hE hP hD hA hl ret => ?_)
  have hUv : (v 35).toInt + (v 36).toInt ≤ 40 := hIv.2
  have hown : s.vm.findClass RX11 = some m.cls := hown
  have hS : va_S A s.heap s.heap [] := va_S.rf
  have hl : lv_has ls 4 [(0, .int 100), (1, .int 1)] := hl
  refine lv_iconst (v := 1) hx hb dX11_power_0 rfl ?_
  refine lv_istore_n (lv' := [(2, .int 1), (0, .int 100), (1, .int 1)]) hx hb dX11_power_1 rfl hl (Nat.le_of_ble_eq_true rfl) rfl (fun ls hl => ?_)
  refine lv_iconst (v := 0) hx hb dX11_power_2 rfl ?_
  refine lv_istore_n (lv' := [(3, .int 0), (2, .int 1), (0, .int 100), (1, .int 1)]) hx hb dX11_power_3 rfl hl (Nat.le_of_ble_eq_true rfl) rfl (fun ls hl => ?_)
  refine lv_iload_n hx hb dX11_power_4 rfl (lv_at hl 0 rfl) ?_
  refine lv_iload_n hx hb dX11_power_5 rfl (lv_at hl 3 rfl) ?_
  refine lv_icmp_ge (tgt := 19) hx hb dX11_power_6 rfl (fun c0 => absurd c0 (by decide)) (fun _ => ?_)
  refine lv_iload_n hx hb dX11_power_9 rfl (lv_at hl 1 rfl) ?_
  refine lv_iload_n hx hb dX11_power_10 rfl (lv_at hl 2 rfl) ?_
  refine lv_imul hx hb dX11_power_11 ?_
  refine tI (y := 100) (by decide) ?_
  refine lv_istore_n (lv' := [(2, .int 100), (3, .int 0), (0, .int 100), (1, .int 1)]) hx hb dX11_power_12 rfl hl (Nat.le_of_ble_eq_true rfl) rfl (fun ls hl => ?_)
  refine lv_iinc (v := 1) (lv' := [(3, .int 1), (2, .int 100), (0, .int 100), (1, .int 1)]) hx hb dX11_power_13 hl (k := 1) rfl (by decide) (by decide) rfl (fun ls hl => ?_)
  refine lv_goto (tgt := 4) hx hb dX11_power_16 rfl ?_
  refine lv_iload_n hx hb dX11_power_4 rfl (lv_at hl 0 rfl) ?_
  refine lv_iload_n hx hb dX11_power_5 rfl (lv_at hl 3 rfl) ?_
  refine lv_icmp_ge (tgt := 19) hx hb dX11_power_6 rfl (fun _ => ?_) (fun c0 => absurd (by decide) c0)
  refine lv_iload_n hx hb dX11_power_19 rfl (lv_at hl 1 rfl) ?_
  exact ret 100 () _ _ _ _ _ _ rfl ⟨gsY_X11_power_3_q0, ⟨by decide, by decide⟩⟩ hP hD hS dX11_power_20 (Nat.le_refl _) (Nat.le_refl _)
set_option maxHeartbeats 4000000 in
set_option maxRecDepth 100000 in
theorem sY_X11_power_4 (NF : Nat) (l : Launch) (dC : Nat → ClassId) (dI : Nat → Nat → Nat) (cy : Nat → ClassId) (y0 : Nat) (r : Nat → Nat)  (v : Nat → Int32) (f : Nat → Nat → Int32) (w : Int64) (g : Nat → Int64) (hIv : YI v) (hCf : YC f) (hRf : progOK (f 4) (f 5) (v 9).toInt.toNat)  : ctI l (dC, dI) cy yX11_power cX11_power 4 .int 1 60 0 0 Unit [.int 100, .int 2] (YW cy y0 r v f w g) (fun r u => gsY_X11_power_4 NF v f w g = r ∧ ((10000 : Int) ≤ r.toInt ∧ r.toInt ≤ 10000)) (fun u => YW cy y0 r v f w g) := by
  refine ctI_of (by decide) (Nat.le_of_ble_eq_true rfl) (fun p e s m below meth c A ls Q hx hb hml hts hown hE hP hD hA hl ret => ?_)
  have hUv : (v 35).toInt + (v 36).toInt ≤ 40 := hIv.2
  have hown : s.vm.findClass RX11 = some m.cls := hown
  have hS : va_S A s.heap s.heap [] := va_S.rf
  have hl : lv_has ls 4 [(0, .int 100), (1, .int 2)] := hl
  refine lv_iconst (v := 1) hx hb dX11_power_0 rfl ?_
  refine lv_istore_n (lv' := [(2, .int 1), (0, .int 100), (1, .int 2)]) hx hb dX11_power_1 rfl hl (Nat.le_of_ble_eq_true rfl) rfl (fun ls hl => ?_)
  refine lv_iconst (v := 0) hx hb dX11_power_2 rfl ?_
  refine lv_istore_n (lv' := [(3, .int 0), (2, .int 1), (0, .int 100), (1, .int 2)]) hx hb dX11_power_3 rfl hl (Nat.le_of_ble_eq_true rfl) rfl (fun ls hl => ?_)
  refine lv_iload_n hx hb dX11_power_4 rfl (lv_at hl 0 rfl) ?_
  refine lv_iload_n hx hb dX11_power_5 rfl (lv_at hl 3 rfl) ?_
  refine lv_icmp_ge (tgt := 19) hx hb dX11_power_6 rfl (fun c0 => absurd c0 (by decide)) (fun _ => ?_)
  refine lv_iload_n hx hb dX11_power_9 rfl (lv_at hl 1 rfl) ?_
  refine lv_iload_n hx hb dX11_power_10 rfl (lv_at hl 2 rfl) ?_
  refine lv_imul hx hb dX11_power_11 ?_
  refine tI (y := 100) (by decide) ?_
  refine lv_istore_n (lv' := [(2, .int 100), (3, .int 0), (0, .int 100), (1, .int 2)]) hx hb dX11_power_12 rfl hl (Nat.le_of_ble_eq_true rfl) rfl (fun ls hl => ?_)
  refine lv_iinc (v := 1) (lv' := [(3, .int 1), (2, .int 100), (0, .int 100), (1, .int 2)]) hx hb dX11_power_13 hl (k := 1) rfl (by decide) (by decide) rfl (fun ls hl => ?_)
  refine lv_goto (tgt := 4) hx hb dX11_power_16 rfl ?_
  refine lv_iload_n hx hb dX11_power_4 rfl (lv_at hl 0 rfl) ?_
  refine lv_iload_n hx hb dX11_power_5 rfl (lv_at hl 3 rfl) ?_
  refine lv_icmp_ge (tgt := 19) hx hb dX11_power_6 rfl (fun c0 => absurd c0 (by decide)) (fun _ => ?_)
  refine lv_iload_n hx hb dX11_power_9 rfl (lv_at hl 1 rfl) ?_
  refine lv_iload_n hx hb dX11_power_10 rfl (lv_at hl 2 rfl) ?_
  refine lv_imul hx hb dX11_power_11 ?_
  refine tI (y := 10000) (by decide) ?_
  refine lv_istore_n (lv' := [(2, .int 10000), (3, .int 1), (0, .int 100), (1, .int 2)]) hx hb dX11_power_12 rfl hl (Nat.le_of_ble_eq_true rfl) rfl (fun ls hl => ?_)
  refine lv_iinc (v := 2) (lv' := [(3, .int 2), (2, .int 10000), (0, .int 100), (1, .int 2)]) hx hb dX11_power_13 hl (k := 1) rfl (by decide) (by decide) rfl (fun ls hl => ?_)
  refine lv_goto (tgt := 4) hx hb dX11_power_16 rfl ?_
  refine lv_iload_n hx hb dX11_power_4 rfl (lv_at hl 0 rfl) ?_
  refine lv_iload_n hx hb dX11_power_5 rfl (lv_at hl 3 rfl) ?_
  refine lv_icmp_ge (tgt := 19) hx hb dX11_power_6 rfl (fun _ => ?_) (fun c0 => absurd (by decide) c0)
  refine lv_iload_n hx hb dX11_power_19 rfl (lv_at hl 1 rfl) ?_
  exact ret 10000 () _ _ _ _ _ _ rfl ⟨gsY_X11_power_4_q0, ⟨by decide, by decide⟩⟩ hP hD hS dX11_power_20 (Nat.le_refl _) (Nat.le_refl _)
set_option maxHeartbeats 4000000 in
set_option maxRecDepth 100000 in
theorem sY_X11_power_5 (NF : Nat) (l : Launch) (dC : Nat → ClassId) (dI : Nat → Nat → Nat) (cy : Nat → ClassId) (y0 : Nat) (r : Nat → Nat)  (v : Nat → Int32) (f : Nat → Nat → Int32) (w : Int64) (g : Nat → Int64) (hIv : YI v) (hCf : YC f) (hRf : progOK (f 4) (f 5) (v 9).toInt.toNat)  : ctI l (dC, dI) cy yX11_power cX11_power 4 .int 1 60 0 0 Unit [.int 100, .int 3] (YW cy y0 r v f w g) (fun r u => gsY_X11_power_5 NF v f w g = r ∧ ((1000000 : Int) ≤ r.toInt ∧ r.toInt ≤ 1000000)) (fun u => YW cy y0 r v f w g) := by
  refine ctI_of (by decide) (Nat.le_of_ble_eq_true rfl) (fun p e s m below meth c A ls Q hx hb hml hts hown hE hP hD hA hl ret => ?_)
  have hUv : (v 35).toInt + (v 36).toInt ≤ 40 := hIv.2
  have hown : s.vm.findClass RX11 = some m.cls := hown
  have hS : va_S A s.heap s.heap [] := va_S.rf
  have hl : lv_has ls 4 [(0, .int 100), (1, .int 3)] := hl
  refine lv_iconst (v := 1) hx hb dX11_power_0 rfl ?_
  refine lv_istore_n (lv' := [(2, .int 1), (0, .int 100), (1, .int 3)]) hx hb dX11_power_1 rfl hl (Nat.le_of_ble_eq_true rfl) rfl (fun ls hl => ?_)
  refine lv_iconst (v := 0) hx hb dX11_power_2 rfl ?_
  refine lv_istore_n (lv' := [(3, .int 0), (2, .int 1), (0, .int 100), (1, .int 3)]) hx hb dX11_power_3 rfl hl (Nat.le_of_ble_eq_true rfl) rfl (fun ls hl => ?_)
  refine lv_iload_n hx hb dX11_power_4 rfl (lv_at hl 0 rfl) ?_
  refine lv_iload_n hx hb dX11_power_5 rfl (lv_at hl 3 rfl) ?_
  refine lv_icmp_ge (tgt := 19) hx hb dX11_power_6 rfl (fun c0 => absurd c0 (by decide)) (fun _ => ?_)
  refine lv_iload_n hx hb dX11_power_9 rfl (lv_at hl 1 rfl) ?_
  refine lv_iload_n hx hb dX11_power_10 rfl (lv_at hl 2 rfl) ?_
  refine lv_imul hx hb dX11_power_11 ?_
  refine tI (y := 100) (by decide) ?_
  refine lv_istore_n (lv' := [(2, .int 100), (3, .int 0), (0, .int 100), (1, .int 3)]) hx hb dX11_power_12 rfl hl (Nat.le_of_ble_eq_true rfl) rfl (fun ls hl => ?_)
  refine lv_iinc (v := 1) (lv' := [(3, .int 1), (2, .int 100), (0, .int 100), (1, .int 3)]) hx hb dX11_power_13 hl (k := 1) rfl (by decide) (by decide) rfl (fun ls hl => ?_)
  refine lv_goto (tgt := 4) hx hb dX11_power_16 rfl ?_
  refine lv_iload_n hx hb dX11_power_4 rfl (lv_at hl 0 rfl) ?_
  refine lv_iload_n hx hb dX11_power_5 rfl (lv_at hl 3 rfl) ?_
  refine lv_icmp_ge (tgt := 19) hx hb dX11_power_6 rfl (fun c0 => absurd c0 (by decide)) (fun _ => ?_)
  refine lv_iload_n hx hb dX11_power_9 rfl (lv_at hl 1 rfl) ?_
  refine lv_iload_n hx hb dX11_power_10 rfl (lv_at hl 2 rfl) ?_
  refine lv_imul hx hb dX11_power_11 ?_
  refine tI (y := 10000) (by decide) ?_
  refine lv_istore_n (lv' := [(2, .int 10000), (3, .int 1), (0, .int 100), (1, .int 3)]) hx hb dX11_power_12 rfl hl (Nat.le_of_ble_eq_true rfl) rfl (fun ls hl => ?_)
  refine lv_iinc (v := 2) (lv' := [(3, .int 2), (2, .int 10000), (0, .int 100), (1, .int 3)]) hx hb dX11_power_13 hl (k := 1) rfl (by decide) (by decide) rfl (fun ls hl => ?_)
  refine lv_goto (tgt := 4) hx hb dX11_power_16 rfl ?_
  refine lv_iload_n hx hb dX11_power_4 rfl (lv_at hl 0 rfl) ?_
  refine lv_iload_n hx hb dX11_power_5 rfl (lv_at hl 3 rfl) ?_
  refine lv_icmp_ge (tgt := 19) hx hb dX11_power_6 rfl (fun c0 => absurd c0 (by decide)) (fun _ => ?_)
  refine lv_iload_n hx hb dX11_power_9 rfl (lv_at hl 1 rfl) ?_
  refine lv_iload_n hx hb dX11_power_10 rfl (lv_at hl 2 rfl) ?_
  refine lv_imul hx hb dX11_power_11 ?_
  refine tI (y := 1000000) (by decide) ?_
  refine lv_istore_n (lv' := [(2, .int 1000000), (3, .int 2), (0, .int 100), (1, .int 3)]) hx hb dX11_power_12 rfl hl (Nat.le_of_ble_eq_true rfl) rfl (fun ls hl => ?_)
  refine lv_iinc (v := 3) (lv' := [(3, .int 3), (2, .int 1000000), (0, .int 100), (1, .int 3)]) hx hb dX11_power_13 hl (k := 1) rfl (by decide) (by decide) rfl (fun ls hl => ?_)
  refine lv_goto (tgt := 4) hx hb dX11_power_16 rfl ?_
  refine lv_iload_n hx hb dX11_power_4 rfl (lv_at hl 0 rfl) ?_
  refine lv_iload_n hx hb dX11_power_5 rfl (lv_at hl 3 rfl) ?_
  refine lv_icmp_ge (tgt := 19) hx hb dX11_power_6 rfl (fun _ => ?_) (fun c0 => absurd (by decide) c0)
  refine lv_iload_n hx hb dX11_power_19 rfl (lv_at hl 1 rfl) ?_
  exact ret 1000000 () _ _ _ _ _ _ rfl ⟨gsY_X11_power_5_q0, ⟨by decide, by decide⟩⟩ hP hD hS dX11_power_20 (Nat.le_refl _) (Nat.le_refl _)
set_option maxHeartbeats 4000000 in
set_option maxRecDepth 100000 in
theorem sY_X11_power_6 (NF : Nat) (l : Launch) (dC : Nat → ClassId) (dI : Nat → Nat → Nat) (cy : Nat → ClassId) (y0 : Nat) (r : Nat → Nat)  (v : Nat → Int32) (f : Nat → Nat → Int32) (w : Int64) (g : Nat → Int64) (hIv : YI v) (hCf : YC f) (hRf : progOK (f 4) (f 5) (v 9).toInt.toNat)  : ctI l (dC, dI) cy yX11_power cX11_power 4 .int 1 60 0 0 Unit [.int 100, .int 4] (YW cy y0 r v f w g) (fun r u => gsY_X11_power_6 NF v f w g = r ∧ ((100000000 : Int) ≤ r.toInt ∧ r.toInt ≤ 100000000)) (fun u => YW cy y0 r v f w g) := by
  refine ctI_of (by decide) (Nat.le_of_ble_eq_true rfl) (fun p e s m below meth c A ls Q hx hb hml hts hown hE hP hD hA hl ret => ?_)
  have hUv : (v 35).toInt + (v 36).toInt ≤ 40 := hIv.2
  have hown : s.vm.findClass RX11 = some m.cls := hown
  have hS : va_S A s.heap s.heap [] := va_S.rf
  have hl : lv_has ls 4 [(0, .int 100), (1, .int 4)] := hl
  refine lv_iconst (v := 1) hx hb dX11_power_0 rfl ?_
  refine lv_istore_n (lv' := [(2, .int 1), (0, .int 100), (1, .int 4)]) hx hb dX11_power_1 rfl hl (Nat.le_of_ble_eq_true rfl) rfl (fun ls hl => ?_)
  refine lv_iconst (v := 0) hx hb dX11_power_2 rfl ?_
  refine lv_istore_n (lv' := [(3, .int 0), (2, .int 1), (0, .int 100), (1, .int 4)]) hx hb dX11_power_3 rfl hl (Nat.le_of_ble_eq_true rfl) rfl (fun ls hl => ?_)
  refine lv_iload_n hx hb dX11_power_4 rfl (lv_at hl 0 rfl) ?_
  refine lv_iload_n hx hb dX11_power_5 rfl (lv_at hl 3 rfl) ?_
  refine lv_icmp_ge (tgt := 19) hx hb dX11_power_6 rfl (fun c0 => absurd c0 (by decide)) (fun _ => ?_)
  refine lv_iload_n hx hb dX11_power_9 rfl (lv_at hl 1 rfl) ?_
  refine lv_iload_n hx hb dX11_power_10 rfl (lv_at hl 2 rfl) ?_
  refine lv_imul hx hb dX11_power_11 ?_
  refine tI (y := 100) (by decide) ?_
  refine lv_istore_n (lv' := [(2, .int 100), (3, .int 0), (0, .int 100), (1, .int 4)]) hx hb dX11_power_12 rfl hl (Nat.le_of_ble_eq_true rfl) rfl (fun ls hl => ?_)
  refine lv_iinc (v := 1) (lv' := [(3, .int 1), (2, .int 100), (0, .int 100), (1, .int 4)]) hx hb dX11_power_13 hl (k := 1) rfl (by decide) (by decide) rfl (fun ls hl => ?_)
  refine lv_goto (tgt := 4) hx hb dX11_power_16 rfl ?_
  refine lv_iload_n hx hb dX11_power_4 rfl (lv_at hl 0 rfl) ?_
  refine lv_iload_n hx hb dX11_power_5 rfl (lv_at hl 3 rfl) ?_
  refine lv_icmp_ge (tgt := 19) hx hb dX11_power_6 rfl (fun c0 => absurd c0 (by decide)) (fun _ => ?_)
  refine lv_iload_n hx hb dX11_power_9 rfl (lv_at hl 1 rfl) ?_
  refine lv_iload_n hx hb dX11_power_10 rfl (lv_at hl 2 rfl) ?_
  refine lv_imul hx hb dX11_power_11 ?_
  refine tI (y := 10000) (by decide) ?_
  refine lv_istore_n (lv' := [(2, .int 10000), (3, .int 1), (0, .int 100), (1, .int 4)]) hx hb dX11_power_12 rfl hl (Nat.le_of_ble_eq_true rfl) rfl (fun ls hl => ?_)
  refine lv_iinc (v := 2) (lv' := [(3, .int 2), (2, .int 10000), (0, .int 100), (1, .int 4)]) hx hb dX11_power_13 hl (k := 1) rfl (by decide) (by decide) rfl (fun ls hl => ?_)
  refine lv_goto (tgt := 4) hx hb dX11_power_16 rfl ?_
  refine lv_iload_n hx hb dX11_power_4 rfl (lv_at hl 0 rfl) ?_
  refine lv_iload_n hx hb dX11_power_5 rfl (lv_at hl 3 rfl) ?_
  refine lv_icmp_ge (tgt := 19) hx hb dX11_power_6 rfl (fun c0 => absurd c0 (by decide)) (fun _ => ?_)
  refine lv_iload_n hx hb dX11_power_9 rfl (lv_at hl 1 rfl) ?_
  refine lv_iload_n hx hb dX11_power_10 rfl (lv_at hl 2 rfl) ?_
  refine lv_imul hx hb dX11_power_11 ?_
  refine tI (y := 1000000) (by decide) ?_
  refine lv_istore_n (lv' := [(2, .int 1000000), (3, .int 2), (0, .int 100), (1, .int 4)]) hx hb dX11_power_12 rfl hl (Nat.le_of_ble_eq_true rfl) rfl (fun ls hl => ?_)
  refine lv_iinc (v := 3) (lv' := [(3, .int 3), (2, .int 1000000), (0, .int 100), (1, .int 4)]) hx hb dX11_power_13 hl (k := 1) rfl (by decide) (by decide) rfl (fun ls hl => ?_)
  refine lv_goto (tgt := 4) hx hb dX11_power_16 rfl ?_
  refine lv_iload_n hx hb dX11_power_4 rfl (lv_at hl 0 rfl) ?_
  refine lv_iload_n hx hb dX11_power_5 rfl (lv_at hl 3 rfl) ?_
  refine lv_icmp_ge (tgt := 19) hx hb dX11_power_6 rfl (fun c0 => absurd c0 (by decide)) (fun _ => ?_)
  refine lv_iload_n hx hb dX11_power_9 rfl (lv_at hl 1 rfl) ?_
  refine lv_iload_n hx hb dX11_power_10 rfl (lv_at hl 2 rfl) ?_
  refine lv_imul hx hb dX11_power_11 ?_
  refine tI (y := 100000000) (by decide) ?_
  refine lv_istore_n (lv' := [(2, .int 100000000), (3, .int 3), (0, .int 100), (1, .int 4)]) hx hb dX11_power_12 rfl hl (Nat.le_of_ble_eq_true rfl) rfl (fun ls hl => ?_)
  refine lv_iinc (v := 4) (lv' := [(3, .int 4), (2, .int 100000000), (0, .int 100), (1, .int 4)]) hx hb dX11_power_13 hl (k := 1) rfl (by decide) (by decide) rfl (fun ls hl => ?_)
  refine lv_goto (tgt := 4) hx hb dX11_power_16 rfl ?_
  refine lv_iload_n hx hb dX11_power_4 rfl (lv_at hl 0 rfl) ?_
  refine lv_iload_n hx hb dX11_power_5 rfl (lv_at hl 3 rfl) ?_
  refine lv_icmp_ge (tgt := 19) hx hb dX11_power_6 rfl (fun _ => ?_) (fun c0 => absurd (by decide) c0)
  refine lv_iload_n hx hb dX11_power_19 rfl (lv_at hl 1 rfl) ?_
  exact ret 100000000 () _ _ _ _ _ _ rfl ⟨gsY_X11_power_6_q0, ⟨by decide, by decide⟩⟩ hP hD hS dX11_power_20 (Nat.le_refl _) (Nat.le_refl _)
set_option maxHeartbeats 4000000 in
set_option maxRecDepth 100000 in
theorem sY_X11_odds_1 (NF : Nat) (l : Launch) (dC : Nat → ClassId) (dI : Nat → Nat → Nat) (cy : Nat → ClassId) (y0 : Nat) (r : Nat → Nat) (p1 : Int32) (p2 : Int32) (v : Nat → Int32) (f : Nat → Nat → Int32) (w : Int64) (g : Nat → Int64) (hIv : YI v) (hCf : YC f) (hRf : progOK (f 4) (f 5) (v 9).toInt.toNat)  : ctI l (dC, dI) cy yX11_odds cX11_odds 6 .int 2 84 0 0 Unit [.ref y0, .int p1, .int p2] (YW cy y0 r v f w g) (fun r u => gsY_X11_odds_1 NF p1 p2 v f w g = r) (fun u => YW cy y0 r v f w g) := by
  refine ctI_of (by decide) (Nat.le_of_ble_eq_true rfl) (fun p e s m below meth c A ls Q hx hb hml hts hown hE hP hD hA hl ret => ?_)
  have hUv : (v 35).toInt + (v 36).toInt ≤ 40 := hIv.2
  have hown : s.vm.findClass RX11 = some m.cls := hown
  have hS : va_S A s.heap s.heap [] := va_S.rf
  have hl : lv_has ls 6 [(0, .ref y0), (1, .int p1), (2, .int p2)] := hl
  refine lv_iload_n hx hb dX11_odds_0 rfl (lv_at hl 1 rfl) ?_
  refine lv_iconst (v := 0) hx hb dX11_odds_1 rfl ?_
  refine lv_iconst (v := 4) hx hb dX11_odds_2 rfl ?_
  have lt1 : (0 : Int32).toInt = 0 := by decide
  have lt2 : (4 : Int32).toInt = 4 := by decide
  refine cbSi (n := 3) (rest := []) hx hb hml hown hts hE hP hD hS hA (sY_X11_isIn_1 NF l dC dI cy y0 r p1 0 4 v f w g hIv hCf hRf ) k_1736 k_1737 k_114 k_1738 he_yX11_isIn ⟨Nat.le_of_ble_eq_true rfl, Nat.le_of_ble_eq_true rfl⟩ (rfl) hl.1 rfl (Nat.le_of_ble_eq_true rfl) dX11_odds_3 (fun r3 u H locs hw hP hD hS => ?_)
  obtain ⟨hG4, hw⟩ := hw
  rcases hw with ⟨g5, g5_0, g5_1⟩ | ⟨g5⟩
  · skip
    subst g5
    refine lv_if_eq (tgt := 18) hx hb dX11_odds_6 rfl (fun c0 => absurd c0 (by decide)) (fun _ => ?_)
    refine lv_iload_n hx hb dX11_odds_9 rfl (lv_at hl 2 rfl) ?_
    refine lv_iconst (v := 0) hx hb dX11_odds_10 rfl ?_
    refine lv_iconst (v := 1) hx hb dX11_odds_11 rfl ?_
    have lt6 : (1 : Int32).toInt = 1 := by decide
    refine cbSi (n := 3) (rest := []) hx hb hml hown hts hE hP hD hS hA (sY_X11_isIn_1 NF l dC dI cy y0 r p2 0 1 v f w g hIv hCf hRf ) k_1736 k_1737 k_114 k_1738 he_yX11_isIn ⟨Nat.le_of_ble_eq_true rfl, Nat.le_of_ble_eq_true rfl⟩ (rfl) hl.1 rfl (Nat.le_of_ble_eq_true rfl) dX11_odds_12 (fun r7 u H locs hw hP hD hS => ?_)
    obtain ⟨hG8, hw⟩ := hw
    rcases hw with ⟨g9, g9_0, g9_1⟩ | ⟨g9⟩
    · skip
      subst g9
      refine lv_if_ne (tgt := 20) hx hb dX11_odds_15 rfl (fun _ => ?_) (fun c0 => absurd c0 (by decide))
      refine lv_bipush (v := 100) hx hb dX11_odds_20 rfl ?_
      refine lv_aload_n hx hb dX11_odds_22 rfl (lv_at hl 0 rfl) ?_
      refine va_get (D := (dC, dI)) (ci := 11) (v := .int (v 29)) (C := RX11) (T := TX11) (N := 79) hx hb hts inB_11 hown hE.1 hP 0 rfl rfl 53 (Nat.le_of_ble_eq_true rfl) (hts _ k_1373) (fun _ h9 => h9) rfl dX11_odds_23 ?_
      refine lv_isub hx hb dX11_odds_26 ?_
      refine lv_topi (fun t10 et10 => ?_)
      refine lv_iload_n hx hb dX11_odds_27 rfl (lv_at hl 1 rfl) ?_
      refine cbSi (n := 2) (rest := []) hx hb hml hown hts hE hP hD hS hA (sY_X11_power_1 NF l dC dI cy y0 r t10 p1 v f w g hIv hCf hRf ) k_1877 k_1878 k_114 k_1879 he_yX11_power ⟨Nat.le_of_ble_eq_true rfl, Nat.le_of_ble_eq_true rfl⟩ (rfl) hl.1 rfl (Nat.le_of_ble_eq_true rfl) dX11_odds_28 (fun r11 u H locs hw hP hD hS => ?_)
      have hG12 := hw
      refine lv_istore_n (lv' := [(3, .int r11), (0, .ref y0), (1, .int p1), (2, .int p2)]) hx hb dX11_odds_31 rfl hl (Nat.le_of_ble_eq_true rfl) rfl (fun ls hl => ?_)
      refine lv_bipush (v := 100) hx hb dX11_odds_32 rfl ?_
      refine lv_iload_n hx hb dX11_odds_34 rfl (lv_at hl 2 rfl) ?_
      by_cases c13 : p1 = 0
      · skip
        refine tI (y := 0) c13 ?_
        refine cbSi (n := 2) (rest := []) hx hb hml hown hts hE hP hD hS hA (sY_X11_power_2 NF l dC dI cy y0 r  v f w g hIv hCf hRf ) k_1877 k_1878 k_114 k_1879 he_yX11_power ⟨Nat.le_of_ble_eq_true rfl, Nat.le_of_ble_eq_true rfl⟩ (rfl) hl.1 rfl (Nat.le_of_ble_eq_true rfl) dX11_odds_35 (fun r14 u H locs hw hP hD hS => ?_)
        obtain ⟨hG15, hw⟩ := hw
        have pw_r14 : (1 : Int) ≤ r14.toInt ∧ r14.toInt ≤ 1 := hw
        refine lv_istore (lv' := [(4, .int r14), (3, .int r11), (0, .ref y0), (1, .int p1), (2, .int p2)]) hx hb dX11_odds_38 hl (Nat.le_of_ble_eq_true rfl) rfl (fun ls hl => ?_)
        refine lv_iload hx hb dX11_odds_40 (lv_at hl 0 rfl) ?_
        refine lv_iload_n hx hb dX11_odds_42 rfl (lv_at hl 1 rfl) ?_
        refine cbSi (n := 2) (rest := []) hx hb hml hown hts hE hP hD hS hA (sY_X11_divisor_1 NF l dC dI cy y0 r r14 r11 v f w g hIv hCf hRf ⟨show (1 : Int) ≤ r14.toInt from om_508 pw_r14, show r14.toInt ≤ (2147483647 : Int) from om_509 pw_r14⟩) k_2000 k_2001 k_114 k_2002 he_yX11_divisor ⟨Nat.le_of_ble_eq_true rfl, Nat.le_of_ble_eq_true rfl⟩ (rfl) hl.1 rfl (Nat.le_of_ble_eq_true rfl) dX11_odds_43 (fun r16 u H locs hw hP hD hS => ?_)
        obtain ⟨hG17, hw⟩ := hw
        have pw_r16 : (1 : Int) ≤ r16.toInt ∧ r16.toInt ≤ 2147483647 := hw
        refine lv_istore (lv' := [(5, .int r16), (4, .int r14), (3, .int r11), (0, .ref y0), (1, .int p1), (2, .int p2)]) hx hb dX11_odds_46 hl (Nat.le_of_ble_eq_true rfl) rfl (fun ls hl => ?_)
        refine lv_iload_n hx hb dX11_odds_48 rfl (lv_at hl 5 rfl) ?_
        refine lv_if_ne (tgt := 59) hx hb dX11_odds_49 rfl (fun c18 => ?_) (fun c18 => ?_)
        · skip
          refine lv_iload hx hb dX11_odds_59 (lv_at hl 1 rfl) ?_
          refine lv_iload hx hb dX11_odds_61 (lv_at hl 0 rfl) ?_
          refine lv_idiv hx hb dX11_odds_63 (ne0 (show ¬ r16.toInt = 0 from om_510 pw_r16)) ?_
          refine lv_topi (fun t19 et19 => ?_)
          exact ret t19 () _ _ _ _ _ _ rfl (gsY_X11_odds_1_q0 hG4 hG8 et10 hG12.symm c13 hG15.symm hG17.symm c18 et19) hP hD hS dX11_odds_64 (Nat.le_refl _) (Nat.le_refl _)
        · skip
          refine lv_iload_n hx hb dX11_odds_52 rfl (lv_at hl 2 rfl) ?_
          refine lv_iload hx hb dX11_odds_53 (lv_at hl 0 rfl) ?_
          refine lv_idiv hx hb dX11_odds_55 (ne0 (show ¬ r16.toInt = 0 from om_510 pw_r16)) ?_
          refine lv_topi (fun t20 et20 => ?_)
          refine lv_goto (tgt := 64) hx hb dX11_odds_56 rfl ?_
          exact ret t20 () _ _ _ _ _ _ rfl (gsY_X11_odds_1_q1 hG4 hG8 et10 hG12.symm c13 hG15.symm hG17.symm c18 et20) hP hD hS dX11_odds_64 (Nat.le_refl _) (Nat.le_refl _)
      · skip
        have zc13 : ¬ (p1.toInt = 0) := zEn rfl tc_0 c13
        by_cases c21 : p1 = 1
        · skip
          refine tI (y := 1) c21 ?_
          refine cbSi (n := 2) (rest := []) hx hb hml hown hts hE hP hD hS hA (sY_X11_power_3 NF l dC dI cy y0 r  v f w g hIv hCf hRf ) k_1877 k_1878 k_114 k_1879 he_yX11_power ⟨Nat.le_of_ble_eq_true rfl, Nat.le_of_ble_eq_true rfl⟩ (rfl) hl.1 rfl (Nat.le_of_ble_eq_true rfl) dX11_odds_35 (fun r22 u H locs hw hP hD hS => ?_)
          obtain ⟨hG23, hw⟩ := hw
          have pw_r22 : (100 : Int) ≤ r22.toInt ∧ r22.toInt ≤ 100 := hw
          refine lv_istore (lv' := [(4, .int r22), (3, .int r11), (0, .ref y0), (1, .int p1), (2, .int p2)]) hx hb dX11_odds_38 hl (Nat.le_of_ble_eq_true rfl) rfl (fun ls hl => ?_)
          refine lv_iload hx hb dX11_odds_40 (lv_at hl 0 rfl) ?_
          refine lv_iload_n hx hb dX11_odds_42 rfl (lv_at hl 1 rfl) ?_
          refine cbSi (n := 2) (rest := []) hx hb hml hown hts hE hP hD hS hA (sY_X11_divisor_1 NF l dC dI cy y0 r r22 r11 v f w g hIv hCf hRf ⟨show (1 : Int) ≤ r22.toInt from om_513 pw_r22, show r22.toInt ≤ (2147483647 : Int) from om_514 pw_r22⟩) k_2000 k_2001 k_114 k_2002 he_yX11_divisor ⟨Nat.le_of_ble_eq_true rfl, Nat.le_of_ble_eq_true rfl⟩ (rfl) hl.1 rfl (Nat.le_of_ble_eq_true rfl) dX11_odds_43 (fun r24 u H locs hw hP hD hS => ?_)
          obtain ⟨hG25, hw⟩ := hw
          have pw_r24 : (1 : Int) ≤ r24.toInt ∧ r24.toInt ≤ 2147483647 := hw
          refine lv_istore (lv' := [(5, .int r24), (4, .int r22), (3, .int r11), (0, .ref y0), (1, .int p1), (2, .int p2)]) hx hb dX11_odds_46 hl (Nat.le_of_ble_eq_true rfl) rfl (fun ls hl => ?_)
          refine lv_iload_n hx hb dX11_odds_48 rfl (lv_at hl 5 rfl) ?_
          refine lv_if_ne (tgt := 59) hx hb dX11_odds_49 rfl (fun c26 => ?_) (fun c26 => ?_)
          · skip
            refine lv_iload hx hb dX11_odds_59 (lv_at hl 1 rfl) ?_
            refine lv_iload hx hb dX11_odds_61 (lv_at hl 0 rfl) ?_
            refine lv_idiv hx hb dX11_odds_63 (ne0 (show ¬ r24.toInt = 0 from om_510 pw_r24)) ?_
            refine lv_topi (fun t27 et27 => ?_)
            exact ret t27 () _ _ _ _ _ _ rfl (gsY_X11_odds_1_q2 hG4 hG8 et10 hG12.symm c13 c21 hG23.symm hG25.symm c26 et27) hP hD hS dX11_odds_64 (Nat.le_refl _) (Nat.le_refl _)
          · skip
            refine lv_iload_n hx hb dX11_odds_52 rfl (lv_at hl 2 rfl) ?_
            refine lv_iload hx hb dX11_odds_53 (lv_at hl 0 rfl) ?_
            refine lv_idiv hx hb dX11_odds_55 (ne0 (show ¬ r24.toInt = 0 from om_510 pw_r24)) ?_
            refine lv_topi (fun t28 et28 => ?_)
            refine lv_goto (tgt := 64) hx hb dX11_odds_56 rfl ?_
            exact ret t28 () _ _ _ _ _ _ rfl (gsY_X11_odds_1_q3 hG4 hG8 et10 hG12.symm c13 c21 hG23.symm hG25.symm c26 et28) hP hD hS dX11_odds_64 (Nat.le_refl _) (Nat.le_refl _)
        · skip
          have zc21 : ¬ (p1.toInt = 1) := zEn rfl tc_1 c21
          by_cases c29 : p1 = 2
          · skip
            refine tI (y := 2) c29 ?_
            refine cbSi (n := 2) (rest := []) hx hb hml hown hts hE hP hD hS hA (sY_X11_power_4 NF l dC dI cy y0 r  v f w g hIv hCf hRf ) k_1877 k_1878 k_114 k_1879 he_yX11_power ⟨Nat.le_of_ble_eq_true rfl, Nat.le_of_ble_eq_true rfl⟩ (rfl) hl.1 rfl (Nat.le_of_ble_eq_true rfl) dX11_odds_35 (fun r30 u H locs hw hP hD hS => ?_)
            obtain ⟨hG31, hw⟩ := hw
            have pw_r30 : (10000 : Int) ≤ r30.toInt ∧ r30.toInt ≤ 10000 := hw
            refine lv_istore (lv' := [(4, .int r30), (3, .int r11), (0, .ref y0), (1, .int p1), (2, .int p2)]) hx hb dX11_odds_38 hl (Nat.le_of_ble_eq_true rfl) rfl (fun ls hl => ?_)
            refine lv_iload hx hb dX11_odds_40 (lv_at hl 0 rfl) ?_
            refine lv_iload_n hx hb dX11_odds_42 rfl (lv_at hl 1 rfl) ?_
            refine cbSi (n := 2) (rest := []) hx hb hml hown hts hE hP hD hS hA (sY_X11_divisor_1 NF l dC dI cy y0 r r30 r11 v f w g hIv hCf hRf ⟨show (1 : Int) ≤ r30.toInt from om_516 pw_r30, show r30.toInt ≤ (2147483647 : Int) from om_517 pw_r30⟩) k_2000 k_2001 k_114 k_2002 he_yX11_divisor ⟨Nat.le_of_ble_eq_true rfl, Nat.le_of_ble_eq_true rfl⟩ (rfl) hl.1 rfl (Nat.le_of_ble_eq_true rfl) dX11_odds_43 (fun r32 u H locs hw hP hD hS => ?_)
            obtain ⟨hG33, hw⟩ := hw
            have pw_r32 : (1 : Int) ≤ r32.toInt ∧ r32.toInt ≤ 2147483647 := hw
            refine lv_istore (lv' := [(5, .int r32), (4, .int r30), (3, .int r11), (0, .ref y0), (1, .int p1), (2, .int p2)]) hx hb dX11_odds_46 hl (Nat.le_of_ble_eq_true rfl) rfl (fun ls hl => ?_)
            refine lv_iload_n hx hb dX11_odds_48 rfl (lv_at hl 5 rfl) ?_
            refine lv_if_ne (tgt := 59) hx hb dX11_odds_49 rfl (fun c34 => ?_) (fun c34 => ?_)
            · skip
              refine lv_iload hx hb dX11_odds_59 (lv_at hl 1 rfl) ?_
              refine lv_iload hx hb dX11_odds_61 (lv_at hl 0 rfl) ?_
              refine lv_idiv hx hb dX11_odds_63 (ne0 (show ¬ r32.toInt = 0 from om_510 pw_r32)) ?_
              refine lv_topi (fun t35 et35 => ?_)
              exact ret t35 () _ _ _ _ _ _ rfl (gsY_X11_odds_1_q4 hG4 hG8 et10 hG12.symm c13 c21 c29 hG31.symm hG33.symm c34 et35) hP hD hS dX11_odds_64 (Nat.le_refl _) (Nat.le_refl _)
            · skip
              refine lv_iload_n hx hb dX11_odds_52 rfl (lv_at hl 2 rfl) ?_
              refine lv_iload hx hb dX11_odds_53 (lv_at hl 0 rfl) ?_
              refine lv_idiv hx hb dX11_odds_55 (ne0 (show ¬ r32.toInt = 0 from om_510 pw_r32)) ?_
              refine lv_topi (fun t36 et36 => ?_)
              refine lv_goto (tgt := 64) hx hb dX11_odds_56 rfl ?_
              exact ret t36 () _ _ _ _ _ _ rfl (gsY_X11_odds_1_q5 hG4 hG8 et10 hG12.symm c13 c21 c29 hG31.symm hG33.symm c34 et36) hP hD hS dX11_odds_64 (Nat.le_refl _) (Nat.le_refl _)
          · skip
            have zc29 : ¬ (p1.toInt = 2) := zEn rfl tc_2 c29
            by_cases c37 : p1 = 3
            · skip
              refine tI (y := 3) c37 ?_
              refine cbSi (n := 2) (rest := []) hx hb hml hown hts hE hP hD hS hA (sY_X11_power_5 NF l dC dI cy y0 r  v f w g hIv hCf hRf ) k_1877 k_1878 k_114 k_1879 he_yX11_power ⟨Nat.le_of_ble_eq_true rfl, Nat.le_of_ble_eq_true rfl⟩ (rfl) hl.1 rfl (Nat.le_of_ble_eq_true rfl) dX11_odds_35 (fun r38 u H locs hw hP hD hS => ?_)
              obtain ⟨hG39, hw⟩ := hw
              have pw_r38 : (1000000 : Int) ≤ r38.toInt ∧ r38.toInt ≤ 1000000 := hw
              refine lv_istore (lv' := [(4, .int r38), (3, .int r11), (0, .ref y0), (1, .int p1), (2, .int p2)]) hx hb dX11_odds_38 hl (Nat.le_of_ble_eq_true rfl) rfl (fun ls hl => ?_)
              refine lv_iload hx hb dX11_odds_40 (lv_at hl 0 rfl) ?_
              refine lv_iload_n hx hb dX11_odds_42 rfl (lv_at hl 1 rfl) ?_
              refine cbSi (n := 2) (rest := []) hx hb hml hown hts hE hP hD hS hA (sY_X11_divisor_1 NF l dC dI cy y0 r r38 r11 v f w g hIv hCf hRf ⟨show (1 : Int) ≤ r38.toInt from om_519 pw_r38, show r38.toInt ≤ (2147483647 : Int) from om_520 pw_r38⟩) k_2000 k_2001 k_114 k_2002 he_yX11_divisor ⟨Nat.le_of_ble_eq_true rfl, Nat.le_of_ble_eq_true rfl⟩ (rfl) hl.1 rfl (Nat.le_of_ble_eq_true rfl) dX11_odds_43 (fun r40 u H locs hw hP hD hS => ?_)
              obtain ⟨hG41, hw⟩ := hw
              have pw_r40 : (1 : Int) ≤ r40.toInt ∧ r40.toInt ≤ 2147483647 := hw
              refine lv_istore (lv' := [(5, .int r40), (4, .int r38), (3, .int r11), (0, .ref y0), (1, .int p1), (2, .int p2)]) hx hb dX11_odds_46 hl (Nat.le_of_ble_eq_true rfl) rfl (fun ls hl => ?_)
              refine lv_iload_n hx hb dX11_odds_48 rfl (lv_at hl 5 rfl) ?_
              refine lv_if_ne (tgt := 59) hx hb dX11_odds_49 rfl (fun c42 => ?_) (fun c42 => ?_)
              · skip
                refine lv_iload hx hb dX11_odds_59 (lv_at hl 1 rfl) ?_
                refine lv_iload hx hb dX11_odds_61 (lv_at hl 0 rfl) ?_
                refine lv_idiv hx hb dX11_odds_63 (ne0 (show ¬ r40.toInt = 0 from om_510 pw_r40)) ?_
                refine lv_topi (fun t43 et43 => ?_)
                exact ret t43 () _ _ _ _ _ _ rfl (gsY_X11_odds_1_q6 hG4 hG8 et10 hG12.symm c13 c21 c29 c37 hG39.symm hG41.symm c42 et43) hP hD hS dX11_odds_64 (Nat.le_refl _) (Nat.le_refl _)
              · skip
                refine lv_iload_n hx hb dX11_odds_52 rfl (lv_at hl 2 rfl) ?_
                refine lv_iload hx hb dX11_odds_53 (lv_at hl 0 rfl) ?_
                refine lv_idiv hx hb dX11_odds_55 (ne0 (show ¬ r40.toInt = 0 from om_510 pw_r40)) ?_
                refine lv_topi (fun t44 et44 => ?_)
                refine lv_goto (tgt := 64) hx hb dX11_odds_56 rfl ?_
                exact ret t44 () _ _ _ _ _ _ rfl (gsY_X11_odds_1_q7 hG4 hG8 et10 hG12.symm c13 c21 c29 c37 hG39.symm hG41.symm c42 et44) hP hD hS dX11_odds_64 (Nat.le_refl _) (Nat.le_refl _)
            · skip
              have zc37 : ¬ (p1.toInt = 3) := zEn rfl tc_3 c37
              by_cases c45 : p1 = 4
              · skip
                refine tI (y := 4) c45 ?_
                refine cbSi (n := 2) (rest := []) hx hb hml hown hts hE hP hD hS hA (sY_X11_power_6 NF l dC dI cy y0 r  v f w g hIv hCf hRf ) k_1877 k_1878 k_114 k_1879 he_yX11_power ⟨Nat.le_of_ble_eq_true rfl, Nat.le_of_ble_eq_true rfl⟩ (rfl) hl.1 rfl (Nat.le_of_ble_eq_true rfl) dX11_odds_35 (fun r46 u H locs hw hP hD hS => ?_)
                obtain ⟨hG47, hw⟩ := hw
                have pw_r46 : (100000000 : Int) ≤ r46.toInt ∧ r46.toInt ≤ 100000000 := hw
                refine lv_istore (lv' := [(4, .int r46), (3, .int r11), (0, .ref y0), (1, .int p1), (2, .int p2)]) hx hb dX11_odds_38 hl (Nat.le_of_ble_eq_true rfl) rfl (fun ls hl => ?_)
                refine lv_iload hx hb dX11_odds_40 (lv_at hl 0 rfl) ?_
                refine lv_iload_n hx hb dX11_odds_42 rfl (lv_at hl 1 rfl) ?_
                refine cbSi (n := 2) (rest := []) hx hb hml hown hts hE hP hD hS hA (sY_X11_divisor_1 NF l dC dI cy y0 r r46 r11 v f w g hIv hCf hRf ⟨show (1 : Int) ≤ r46.toInt from om_522 pw_r46, show r46.toInt ≤ (2147483647 : Int) from om_523 pw_r46⟩) k_2000 k_2001 k_114 k_2002 he_yX11_divisor ⟨Nat.le_of_ble_eq_true rfl, Nat.le_of_ble_eq_true rfl⟩ (rfl) hl.1 rfl (Nat.le_of_ble_eq_true rfl) dX11_odds_43 (fun r48 u H locs hw hP hD hS => ?_)
                obtain ⟨hG49, hw⟩ := hw
                have pw_r48 : (1 : Int) ≤ r48.toInt ∧ r48.toInt ≤ 2147483647 := hw
                refine lv_istore (lv' := [(5, .int r48), (4, .int r46), (3, .int r11), (0, .ref y0), (1, .int p1), (2, .int p2)]) hx hb dX11_odds_46 hl (Nat.le_of_ble_eq_true rfl) rfl (fun ls hl => ?_)
                refine lv_iload_n hx hb dX11_odds_48 rfl (lv_at hl 5 rfl) ?_
                refine lv_if_ne (tgt := 59) hx hb dX11_odds_49 rfl (fun c50 => ?_) (fun c50 => ?_)
                · skip
                  refine lv_iload hx hb dX11_odds_59 (lv_at hl 1 rfl) ?_
                  refine lv_iload hx hb dX11_odds_61 (lv_at hl 0 rfl) ?_
                  refine lv_idiv hx hb dX11_odds_63 (ne0 (show ¬ r48.toInt = 0 from om_510 pw_r48)) ?_
                  refine lv_topi (fun t51 et51 => ?_)
                  exact ret t51 () _ _ _ _ _ _ rfl (gsY_X11_odds_1_q8 hG4 hG8 et10 hG12.symm c13 c21 c29 c37 c45 hG47.symm hG49.symm c50 et51) hP hD hS dX11_odds_64 (Nat.le_refl _) (Nat.le_refl _)
                · skip
                  refine lv_iload_n hx hb dX11_odds_52 rfl (lv_at hl 2 rfl) ?_
                  refine lv_iload hx hb dX11_odds_53 (lv_at hl 0 rfl) ?_
                  refine lv_idiv hx hb dX11_odds_55 (ne0 (show ¬ r48.toInt = 0 from om_510 pw_r48)) ?_
                  refine lv_topi (fun t52 et52 => ?_)
                  refine lv_goto (tgt := 64) hx hb dX11_odds_56 rfl ?_
                  exact ret t52 () _ _ _ _ _ _ rfl (gsY_X11_odds_1_q9 hG4 hG8 et10 hG12.symm c13 c21 c29 c37 c45 hG47.symm hG49.symm c50 et52) hP hD hS dX11_odds_64 (Nat.le_refl _) (Nat.le_refl _)
              · skip
                have zc45 : ¬ (p1.toInt = 4) := zEn rfl tc_4 c45
                exact (show False by omega).elim
    · skip
      subst g9
      refine lv_if_ne (tgt := 20) hx hb dX11_odds_15 rfl (fun c0 => absurd (by decide) c0) (fun _ => ?_)
      refine lv_iconst (v := (-1)) hx hb dX11_odds_18 rfl ?_
      exact ret (-1) () _ _ _ _ _ _ rfl (gsY_X11_odds_1_q10 hG4 hG8) hP hD hS dX11_odds_19 (Nat.le_refl _) (Nat.le_refl _)
  · skip
    subst g5
    refine lv_if_eq (tgt := 18) hx hb dX11_odds_6 rfl (fun _ => ?_) (fun c0 => absurd (by decide) c0)
    refine lv_iconst (v := (-1)) hx hb dX11_odds_18 rfl ?_
    exact ret (-1) () _ _ _ _ _ _ rfl (gsY_X11_odds_1_q11 hG4) hP hD hS dX11_odds_19 (Nat.le_refl _) (Nat.le_refl _)
set_option maxHeartbeats 4000000 in
set_option maxRecDepth 100000 in
theorem sY_X11_fill_1 (NF : Nat) (l : Launch) (dC : Nat → ClassId) (dI : Nat → Nat → Nat) (cy : Nat → ClassId) (y0 : Nat) (r : Nat → Nat)  (v : Nat → Int32) (f : Nat → Nat → Int32) (w : Int64) (g : Nat → Int64) (hIv : YI v) (hCf : YC f) (hRf : progOK (f 4) (f 5) (v 9).toInt.toNat)  : ctV l (dC, dI) cy yX11_fill cX11_fill 2 1 60 0 0 ((Nat → Int32) × (Nat → Nat → Int32) × (Int64) × (Nat → Int64)) [.ref y0] (YW cy y0 r v f w g) (fun u => gsY_X11_fill_1 NF v f w g = u ∧ KV [] u.1 v ∧ KF [24] u.2.1 f ∧ YI u.1 ∧ YC u.2.1 ∧ progOK (u.2.1 4) (u.2.1 5) (u.1 9).toInt.toNat ∧ u.1 0 = v 0 ∧ u.1 1 = v 1 ∧ u.1 2 = v 2 ∧ u.1 3 = v 3 ∧ u.1 4 = v 4 ∧ u.1 5 = v 5 ∧ u.1 8 = v 8 ∧ u.1 9 = v 9 ∧ u.1 10 = v 10 ∧ u.1 13 = v 13 ∧ u.1 14 = v 14 ∧ u.1 15 = v 15 ∧ u.1 17 = v 17 ∧ u.1 18 = v 18 ∧ u.1 24 = v 24 ∧ u.1 25 = v 25 ∧ u.1 35 = v 35 ∧ u.1 36 = v 36 ∧ u.1 38 = v 38 ∧ u.1 39 = v 39) (fun u => YW cy y0 r u.1 u.2.1 u.2.2.1 u.2.2.2) := by
  refine ctV_of (by decide) (Nat.le_of_ble_eq_true rfl) (fun p e s m below meth c A ls Q hx hb hml hts hown hnm hE hP hD hA hl ret => ?_)
  have hM_v : KV [] v v := fun _ _ => rfl
  have hA_f : KF [24] f f := fun _ _ => rfl
  have hown : s.vm.findClass RX11 = some m.cls := hown
  have hS : va_S A s.heap s.heap [] := va_S.rf
  have hl : lv_has ls 2 [(0, .ref y0)] := hl
  refine lv_iconst (v := 0) hx hb dX11_fill_0 rfl ?_
  refine lv_istore_n (lv' := [(1, .int 0), (0, .ref y0)]) hx hb dX11_fill_1 rfl hl (Nat.le_of_ble_eq_true rfl) rfl (fun ls hl => ?_)
  have lp1 : ∀ (n1 : Nat) (l1_1 : Int32) (v1 : Nat → Int32) (f1 : Nat → Nat → Int32) (w1 : Int64) (g1 : Nat → Int64), YI v1 → YC f1 → progOK (f1 4) (f1 5) (v1 9).toInt.toNat → v1 0 = (v 0) → v1 1 = (v 1) → v1 2 = (v 2) → v1 3 = (v 3) → v1 4 = (v 4) → v1 5 = (v 5) → v1 8 = (v 8) → v1 9 = (v 9) → v1 10 = (v 10) → v1 13 = (v 13) → v1 14 = (v 14) → v1 15 = (v 15) → v1 17 = (v 17) → v1 18 = (v 18) → v1 24 = (v 24) → v1 25 = (v 25) → v1 35 = (v 35) → v1 36 = (v 36) → v1 38 = (v 38) → v1 39 = (v 39) → gsY_X11_fill_1_L1 NF n1 l1_1 v1 f1 w1 g1 = (gsY_X11_fill_1 NF v f w g) → ((0 : Int) ≤ l1_1.toInt ∧ l1_1.toInt ≤ 2147483647) → KV [] v1 v → KF [24] f1 f → (2147483647 - l1_1.toInt).toNat < n1 → ∀ (H : Heap) (locs : List Loc) (ls : Array Slot), va_P (dC, dI) vwCl (YW cy y0 r v1 f1 w1 g1) H → va_D A (YW cy y0 r v1 f1 w1 g1) → va_S A s.heap H locs → lv_has ls 2 [(1, .int l1_1), (0, .ref y0)] → W p l e { frames := 1, cells := 0, slots := 0, locals := 60 } s m ([.ref y0] : List Value).toArray below meth c H locs 0 0 Q (F0 m 2 ls []) := by
    intro n1
    induction n1 with
    | zero => intro l1_1 v1 f1 w1 g1 hIv1 hCf1 hRf1 hq0_v1 hq1_v1 hq2_v1 hq3_v1 hq4_v1 hq5_v1 hq8_v1 hq9_v1 hq10_v1 hq13_v1 hq14_v1 hq15_v1 hq17_v1 hq18_v1 hq24_v1 hq25_v1 hq35_v1 hq36_v1 hq38_v1 hq39_v1 hT1 hr1_1 hM_v1 hA_f1 hm; exact absurd hm (Nat.not_lt_zero _)
    | succ n1 ih1 =>
      intro l1_1 v1 f1 w1 g1 hIv1 hCf1 hRf1 hq0_v1 hq1_v1 hq2_v1 hq3_v1 hq4_v1 hq5_v1 hq8_v1 hq9_v1 hq10_v1 hq13_v1 hq14_v1 hq15_v1 hq17_v1 hq18_v1 hq24_v1 hq25_v1 hq35_v1 hq36_v1 hq38_v1 hq39_v1 hT1 hr1_1 hM_v1 hA_f1 hm1 H locs ls hP hD hS hl
      refine lv_iload_n hx hb dX11_fill_2 rfl (lv_at hl 0 rfl) ?_
      refine lv_bipush (v := 39) hx hb dX11_fill_3 rfl ?_
      refine lv_icmp_ge (tgt := 26) hx hb dX11_fill_5 rfl (fun c2 => ?_) (fun c2 => ?_)
      · skip
        exact ret (v1, f1, w1, g1) _ _ _ _ _ _ ⟨(hT1.symm.trans (gsY_X11_fill_1_q0 c2)), hM_v1, hA_f1, hIv1, hCf1, hRf1, (show v1 0 = v 0 from hq0_v1), (show v1 1 = v 1 from hq1_v1), (show v1 2 = v 2 from hq2_v1), (show v1 3 = v 3 from hq3_v1), (show v1 4 = v 4 from hq4_v1), (show v1 5 = v 5 from hq5_v1), (show v1 8 = v 8 from hq8_v1), (show v1 9 = v 9 from hq9_v1), (show v1 10 = v 10 from hq10_v1), (show v1 13 = v 13 from hq13_v1), (show v1 14 = v 14 from hq14_v1), (show v1 15 = v 15 from hq15_v1), (show v1 17 = v 17 from hq17_v1), (show v1 18 = v 18 from hq18_v1), (show v1 24 = v 24 from hq24_v1), (show v1 25 = v 25 from hq25_v1), (show v1 35 = v 35 from hq35_v1), (show v1 36 = v 36 from hq36_v1), (show v1 38 = v 38 from hq38_v1), (show v1 39 = v 39 from hq39_v1)⟩ hP hD hS dX11_fill_26 (Nat.le_refl _) (Nat.le_refl _)
      · skip
        have zc2 : ¬ (39 ≤ l1_1.toInt) := zMn tc_39 rfl c2
        refine lv_aload_n hx hb dX11_fill_8 rfl (lv_at hl 1 rfl) ?_
        refine va_get (D := (dC, dI)) (ci := 11) (v := .ref (r 60)) (C := RX11) (T := TX11) (N := 79) hx hb hts inB_11 hown hE.1 hP 0 rfl rfl 60 (Nat.le_of_ble_eq_true rfl) (hts _ k_1380) (fun _ h9 => h9) rfl dX11_fill_9 ?_
        refine lv_iload_n hx hb dX11_fill_12 rfl (lv_at hl 0 rfl) ?_
        refine lv_aload_n hx hb dX11_fill_13 rfl (lv_at hl 1 rfl) ?_
        refine va_get (D := (dC, dI)) (ci := 11) (v := .ref (r 59)) (C := RX11) (T := TX11) (N := 79) hx hb hts inB_11 hown hE.1 hP 0 rfl rfl 59 (Nat.le_of_ble_eq_true rfl) (hts _ k_1379) (fun _ h9 => h9) rfl dX11_fill_14 ?_
        refine lv_iload_n hx hb dX11_fill_17 rfl (lv_at hl 0 rfl) ?_
        refine ldI hx hb hE hP 24 rfl (vpI (k := 39) rfl (show 0 ≤ l1_1.toInt from om_39 hr1_1) (show l1_1.toInt < 39 from om_479 zc2)) rfl rfl dX11_fill_18 ?_
        refine lv_topi (fun t3 et3 => ?_)
        have zt3 : l1_1.toInt.toNat % 39 < 6 ∨ 12 ≤ l1_1.toInt.toNat % 39 ∨ (-1 ≤ t3.toInt ∧ t3.toInt ≤ 5) := by rw [et3]; exact wear_ld hCf1.1 (show l1_1.toInt.toNat < 39 from om_482 zc2)
        refine stI hx hb hE hP hD hS 25 rfl (vpI (k := 39) rfl (show 0 ≤ l1_1.toInt from om_39 hr1_1) (show l1_1.toInt < 39 from om_479 zc2)) rfl dX11_fill_19 (fun H locs hP hD hS => ?_)
        obtain ⟨f4, ef4, hP, hD⟩ : ∃ fz9, fz9 = upd2 f1 24 (upd (f1 24) l1_1.toNatClampNeg t3) ∧ va_P (dC, dI) vwCl (YW cy y0 r v1 fz9 w1 g1) H ∧ va_D A (YW cy y0 r v1 fz9 w1 g1) := ⟨_, rfl, hP, hD⟩
        have hCf4 : YC f4 := by rw [ef4]; exact ⟨hCf1.1, (wear_st hCf1.2.1 (show l1_1.toInt.toNat % 39 < 6 ∨ 12 ≤ l1_1.toInt.toNat % 39 ∨ (-1 ≤ t3.toInt ∧ t3.toInt ≤ 5) from om_483 zt3)), hCf1.2.2.1, hCf1.2.2.2.1, hCf1.2.2.2.2.1, hCf1.2.2.2.2.2⟩
        have hRf4 : progOK (f4 4) (f4 5) (v1 9).toInt.toNat := by rw [ef4]; exact hRf1
        have hA_f4 : KF [24] f4 f := by rw [ef4]; exact KF.up hA_f1 rfl
        obtain ⟨t5, et5⟩ : ∃ y : Int32, y = l1_1 + 1 := ⟨_, rfl⟩
        have zt5 : t5.toInt = l1_1.toInt + 1 := (congrArg Int32.toInt et5).trans (add_i rfl tc_1 (om_41 hr1_1) (om_481 zc2))
        refine lv_iinc (v := t5) (lv' := [(1, .int t5), (0, .ref y0)]) hx hb dX11_fill_20 hl (k := 0) rfl et5.symm (Nat.le_of_ble_eq_true rfl) rfl (fun ls hl => ?_)
        refine lv_goto (tgt := 2) hx hb dX11_fill_23 rfl ?_
        have rg7 := fb_rng t5
        exact ih1 t5 v1 f4 w1 g1 hIv1 hCf4 hRf4 hq0_v1 hq1_v1 hq2_v1 hq3_v1 hq4_v1 hq5_v1 hq8_v1 hq9_v1 hq10_v1 hq13_v1 hq14_v1 hq15_v1 hq17_v1 hq18_v1 hq24_v1 hq25_v1 hq35_v1 hq36_v1 hq38_v1 hq39_v1 ((gsY_X11_fill_1_q1 c2 et3 ef4 et5).symm.trans hT1) ⟨show (0 : Int) ≤ t5.toInt from om_43 hr1_1 zt5, show t5.toInt ≤ (2147483647 : Int) from om_44 rg7⟩ hM_v1 hA_f4 (show (2147483647 - t5.toInt).toNat < n1 from om_33 hm1 zt5 rg7) _ _ _ hP hD hS (lv_sub hl [0, 1] rfl)
  exact lp1 (4294967296 + NF) 0 v f w g hIv hCf hRf rfl rfl rfl rfl rfl rfl rfl rfl rfl rfl rfl rfl rfl rfl rfl rfl rfl rfl rfl rfl gsY_X11_fill_1_q2.symm ⟨by decide, by decide⟩ hM_v hA_f (show (2147483647 - (0 : Int32).toInt).toNat < 4294967296 + NF from om_38 tc_0) _ _ _ hP hD hS (lv_sub hl [0, 1] rfl)
set_option maxHeartbeats 4000000 in
set_option maxRecDepth 100000 in
theorem sY_X11_isMan_1 (NF : Nat) (l : Launch) (dC : Nat → ClassId) (dI : Nat → Nat → Nat) (cy : Nat → ClassId) (y0 : Nat) (r : Nat → Nat) (p1 : Int32) (v : Nat → Int32) (f : Nat → Nat → Int32) (w : Int64) (g : Nat → Int64) (hIv : YI v) (hCf : YC f) (hRf : progOK (f 4) (f 5) (v 9).toInt.toNat)  : ctI l (dC, dI) cy yX11_isMan cX11_isMan 2 .boolean 2 82 0 0 Unit [.ref y0, .int p1] (YW cy y0 r v f w g) (fun r u => gsY_X11_isMan_1 NF p1 v f w g = r ∧ ((r = 1 ∧ 0 ≤ p1.toInt ∧ p1.toInt < (v 24).toInt ∧ p1.toInt ≤ 5) ∨ (r = 0))) (fun u => YW cy y0 r v f w g) := by
  refine ctI_of (by decide) (Nat.le_of_ble_eq_true rfl) (fun p e s m below meth c A ls Q hx hb hml hts hown hE hP hD hA hl ret => ?_)
  have hown : s.vm.findClass RX11 = some m.cls := hown
  have hS : va_S A s.heap s.heap [] := va_S.rf
  have hl : lv_has ls 2 [(0, .ref y0), (1, .int p1)] := hl
  refine lv_iload_n hx hb dX11_isMan_0 rfl (lv_at hl 1 rfl) ?_
  refine lv_iconst (v := 0) hx hb dX11_isMan_1 rfl ?_
  refine lv_aload_n hx hb dX11_isMan_2 rfl (lv_at hl 0 rfl) ?_
  refine va_get (D := (dC, dI)) (ci := 11) (v := .int (v 24)) (C := RX11) (T := TX11) (N := 79) hx hb hts inB_11 hown hE.1 hP 0 rfl rfl 48 (Nat.le_of_ble_eq_true rfl) (hts _ k_1368) (fun _ h9 => h9) rfl dX11_isMan_3 ?_
  have b24_v : 0 ≤ (v 24).toInt ∧ (v 24).toInt ≤ 6 := Yb_24 hIv.1
  refine lv_iconst (v := 1) hx hb dX11_isMan_6 rfl ?_
  refine lv_isub hx hb dX11_isMan_7 ?_
  refine lv_topi (fun t1 et1 => ?_)
  have zt1 : t1.toInt = (v 24).toInt - 1 := (congrArg Int32.toInt et1).trans (sub_i rfl tc_1 (om_224 b24_v) (om_225 b24_v))
  refine cbSi (n := 3) (rest := []) hx hb hml hown hts hE hP hD hS hA (sY_X11_isIn_1 NF l dC dI cy y0 r p1 0 t1 v f w g hIv hCf hRf ) k_1736 k_1737 k_114 k_1738 he_yX11_isIn ⟨Nat.le_of_ble_eq_true rfl, Nat.le_of_ble_eq_true rfl⟩ (rfl) hl.1 rfl (Nat.le_of_ble_eq_true rfl) dX11_isMan_8 (fun r4 u H locs hw hP hD hS => ?_)
  obtain ⟨hG5, hw⟩ := hw
  rcases hw with ⟨g6, g6_0, g6_1⟩ | ⟨g6⟩
  · skip
    subst g6
    exact ret 1 () _ _ _ _ _ _ rfl ⟨(gsY_X11_isMan_1_q0 et1 hG5), (Or.inl ⟨rfl, show 0 ≤ p1.toInt from om_500 g6_0 tc_0, show p1.toInt < (v 24).toInt from om_525 zt1 g6_1, show p1.toInt ≤ 5 from om_526 b24_v zt1 g6_1⟩)⟩ hP hD hS dX11_isMan_11 (Nat.le_refl _) (Nat.le_refl _)
  · skip
    subst g6
    exact ret 0 () _ _ _ _ _ _ rfl ⟨(gsY_X11_isMan_1_q1 et1 hG5), (Or.inr rfl)⟩ hP hD hS dX11_isMan_11 (Nat.le_refl _) (Nat.le_refl _)
set_option maxHeartbeats 4000000 in
set_option maxRecDepth 100000 in
theorem sY_X11_isCoat_1 (NF : Nat) (l : Launch) (dC : Nat → ClassId) (dI : Nat → Nat → Nat) (cy : Nat → ClassId) (y0 : Nat) (r : Nat → Nat) (p1 : Int32) (v : Nat → Int32) (f : Nat → Nat → Int32) (w : Int64) (g : Nat → Int64) (hIv : YI v) (hCf : YC f) (hRf : progOK (f 4) (f 5) (v 9).toInt.toNat)  : ctI l (dC, dI) cy yX11_isCoat cX11_isCoat 2 .boolean 2 82 0 0 Unit [.ref y0, .int p1] (YW cy y0 r v f w g) (fun r u => gsY_X11_isCoat_1 NF p1 v f w g = r ∧ ((r = 1 ∧ 0 ≤ p1.toInt ∧ p1.toInt < (v 25).toInt ∧ p1.toInt ≤ 5) ∨ (r = 0))) (fun u => YW cy y0 r v f w g) := by
  refine ctI_of (by decide) (Nat.le_of_ble_eq_true rfl) (fun p e s m below meth c A ls Q hx hb hml hts hown hE hP hD hA hl ret => ?_)
  have hown : s.vm.findClass RX11 = some m.cls := hown
  have hS : va_S A s.heap s.heap [] := va_S.rf
  have hl : lv_has ls 2 [(0, .ref y0), (1, .int p1)] := hl
  refine lv_iload_n hx hb dX11_isCoat_0 rfl (lv_at hl 1 rfl) ?_
  refine lv_iconst (v := 0) hx hb dX11_isCoat_1 rfl ?_
  refine lv_aload_n hx hb dX11_isCoat_2 rfl (lv_at hl 0 rfl) ?_
  refine va_get (D := (dC, dI)) (ci := 11) (v := .int (v 25)) (C := RX11) (T := TX11) (N := 79) hx hb hts inB_11 hown hE.1 hP 0 rfl rfl 49 (Nat.le_of_ble_eq_true rfl) (hts _ k_1369) (fun _ h9 => h9) rfl dX11_isCoat_3 ?_
  have b25_v : 0 ≤ (v 25).toInt ∧ (v 25).toInt ≤ 6 := Yb_25 hIv.1
  refine lv_iconst (v := 1) hx hb dX11_isCoat_6 rfl ?_
  refine lv_isub hx hb dX11_isCoat_7 ?_
  refine lv_topi (fun t1 et1 => ?_)
  have zt1 : t1.toInt = (v 25).toInt - 1 := (congrArg Int32.toInt et1).trans (sub_i rfl tc_1 (om_224 b25_v) (om_225 b25_v))
  refine cbSi (n := 3) (rest := []) hx hb hml hown hts hE hP hD hS hA (sY_X11_isIn_1 NF l dC dI cy y0 r p1 0 t1 v f w g hIv hCf hRf ) k_1736 k_1737 k_114 k_1738 he_yX11_isIn ⟨Nat.le_of_ble_eq_true rfl, Nat.le_of_ble_eq_true rfl⟩ (rfl) hl.1 rfl (Nat.le_of_ble_eq_true rfl) dX11_isCoat_8 (fun r4 u H locs hw hP hD hS => ?_)
  obtain ⟨hG5, hw⟩ := hw
  rcases hw with ⟨g6, g6_0, g6_1⟩ | ⟨g6⟩
  · skip
    subst g6
    exact ret 1 () _ _ _ _ _ _ rfl ⟨(gsY_X11_isCoat_1_q0 et1 hG5), (Or.inl ⟨rfl, show 0 ≤ p1.toInt from om_500 g6_0 tc_0, show p1.toInt < (v 25).toInt from om_525 zt1 g6_1, show p1.toInt ≤ 5 from om_526 b25_v zt1 g6_1⟩)⟩ hP hD hS dX11_isCoat_11 (Nat.le_refl _) (Nat.le_refl _)
  · skip
    subst g6
    exact ret 0 () _ _ _ _ _ _ rfl ⟨(gsY_X11_isCoat_1_q1 et1 hG5), (Or.inr rfl)⟩ hP hD hS dX11_isCoat_11 (Nat.le_refl _) (Nat.le_refl _)
set_option maxHeartbeats 4000000 in
set_option maxRecDepth 100000 in
theorem sY_X11_over_1 (NF : Nat) (l : Launch) (dC : Nat → ClassId) (dI : Nat → Nat → Nat) (cy : Nat → ClassId) (y0 : Nat) (r : Nat → Nat) (p0 : Int32) (p1 : Int32) (v : Nat → Int32) (f : Nat → Nat → Int32) (w : Int64) (g : Nat → Int64) (hIv : YI v) (hCf : YC f) (hRf : progOK (f 4) (f 5) (v 9).toInt.toNat)  : ctI l (dC, dI) cy yX11_over cX11_over 2 .int 1 60 0 0 Unit [.int p0, .int p1] (YW cy y0 r v f w g) (fun r u => gsY_X11_over_1 NF p0 p1 v f w g = r) (fun u => YW cy y0 r v f w g) := by
  refine ctI_of (by decide) (Nat.le_of_ble_eq_true rfl) (fun p e s m below meth c A ls Q hx hb hml hts hown hE hP hD hA hl ret => ?_)
  have hown : s.vm.findClass RX11 = some m.cls := hown
  have hS : va_S A s.heap s.heap [] := va_S.rf
  have hl : lv_has ls 2 [(0, .int p0), (1, .int p1)] := hl
  refine lv_iload_n hx hb dX11_over_0 rfl (lv_at hl 0 rfl) ?_
  refine lv_iload_n hx hb dX11_over_1 rfl (lv_at hl 1 rfl) ?_
  refine lv_icmp_le (tgt := 11) hx hb dX11_over_2 rfl (fun c1 => ?_) (fun c1 => ?_)
  · skip
    refine lv_iconst (v := 0) hx hb dX11_over_11 rfl ?_
    exact ret 0 () _ _ _ _ _ _ rfl (gsY_X11_over_1_q0 c1) hP hD hS dX11_over_12 (Nat.le_refl _) (Nat.le_refl _)
  · skip
    refine lv_iload_n hx hb dX11_over_5 rfl (lv_at hl 0 rfl) ?_
    refine lv_iload_n hx hb dX11_over_6 rfl (lv_at hl 1 rfl) ?_
    refine lv_isub hx hb dX11_over_7 ?_
    refine lv_topi (fun t6 et6 => ?_)
    refine lv_goto (tgt := 12) hx hb dX11_over_8 rfl ?_
    exact ret t6 () _ _ _ _ _ _ rfl (gsY_X11_over_1_q1 c1 et6) hP hD hS dX11_over_12 (Nat.le_refl _) (Nat.le_refl _)
set_option maxHeartbeats 4000000 in
set_option maxRecDepth 100000 in
theorem sY_X11_within_1 (NF : Nat) (l : Launch) (dC : Nat → ClassId) (dI : Nat → Nat → Nat) (cy : Nat → ClassId) (y0 : Nat) (r : Nat → Nat) (p0 : Int32) (p1 : Int32) (v : Nat → Int32) (f : Nat → Nat → Int32) (w : Int64) (g : Nat → Int64) (hIv : YI v) (hCf : YC f) (hRf : progOK (f 4) (f 5) (v 9).toInt.toNat)  : ctI l (dC, dI) cy yX11_within cX11_within 2 .int 1 60 0 0 Unit [.int p0, .int p1] (YW cy y0 r v f w g) (fun r u => gsY_X11_within_1 NF p0 p1 v f w g = r) (fun u => YW cy y0 r v f w g) := by
  refine ctI_of (by decide) (Nat.le_of_ble_eq_true rfl) (fun p e s m below meth c A ls Q hx hb hml hts hown hE hP hD hA hl ret => ?_)
  have hown : s.vm.findClass RX11 = some m.cls := hown
  have hS : va_S A s.heap s.heap [] := va_S.rf
  have hl : lv_has ls 2 [(0, .int p0), (1, .int p1)] := hl
  refine lv_iload_n hx hb dX11_within_0 rfl (lv_at hl 0 rfl) ?_
  refine lv_if_ge (tgt := 8) hx hb dX11_within_1 rfl (fun c1 => ?_) (fun c1 => ?_)
  · skip
    refine lv_iload_n hx hb dX11_within_8 rfl (lv_at hl 0 rfl) ?_
    refine lv_iload_n hx hb dX11_within_9 rfl (lv_at hl 1 rfl) ?_
    refine lv_icmp_le (tgt := 17) hx hb dX11_within_10 rfl (fun c2 => ?_) (fun c2 => ?_)
    · skip
      refine lv_iload_n hx hb dX11_within_17 rfl (lv_at hl 0 rfl) ?_
      exact ret p0 () _ _ _ _ _ _ rfl (gsY_X11_within_1_q0 c1 c2) hP hD hS dX11_within_18 (Nat.le_refl _) (Nat.le_refl _)
    · skip
      refine lv_iload_n hx hb dX11_within_13 rfl (lv_at hl 1 rfl) ?_
      refine lv_goto (tgt := 18) hx hb dX11_within_14 rfl ?_
      exact ret p1 () _ _ _ _ _ _ rfl (gsY_X11_within_1_q1 c1 c2) hP hD hS dX11_within_18 (Nat.le_refl _) (Nat.le_refl _)
  · skip
    refine lv_iconst (v := 0) hx hb dX11_within_4 rfl ?_
    refine lv_goto (tgt := 18) hx hb dX11_within_5 rfl ?_
    exact ret 0 () _ _ _ _ _ _ rfl (gsY_X11_within_1_q2 c1) hP hD hS dX11_within_18 (Nat.le_refl _) (Nat.le_refl _)
set_option maxHeartbeats 4000000 in
set_option maxRecDepth 100000 in
theorem sY_X11_truth_1 (NF : Nat) (l : Launch) (dC : Nat → ClassId) (dI : Nat → Nat → Nat) (cy : Nat → ClassId) (y0 : Nat) (r : Nat → Nat) (p0 : Int32) (v : Nat → Int32) (f : Nat → Nat → Int32) (w : Int64) (g : Nat → Int64) (hIv : YI v) (hCf : YC f) (hRf : progOK (f 4) (f 5) (v 9).toInt.toNat)  : ctI l (dC, dI) cy yX11_truth cX11_truth 1 .int 1 60 0 0 Unit [.int p0] (YW cy y0 r v f w g) (fun r u => gsY_X11_truth_1 NF p0 v f w g = r ∧ ((0 : Int) ≤ r.toInt ∧ r.toInt ≤ 1)) (fun u => YW cy y0 r v f w g) := by
  refine ctI_of (by decide) (Nat.le_of_ble_eq_true rfl) (fun p e s m below meth c A ls Q hx hb hml hts hown hE hP hD hA hl ret => ?_)
  have hown : s.vm.findClass RX11 = some m.cls := hown
  have hS : va_S A s.heap s.heap [] := va_S.rf
  have hl : lv_has ls 1 [(0, .int p0)] := hl
  refine lv_iload_n hx hb dX11_truth_0 rfl (lv_at hl 0 rfl) ?_
  refine lv_if_eq (tgt := 8) hx hb dX11_truth_1 rfl (fun c1 => ?_) (fun c1 => ?_)
  · skip
    refine lv_iconst (v := 0) hx hb dX11_truth_8 rfl ?_
    exact ret 0 () _ _ _ _ _ _ rfl ⟨(gsY_X11_truth_1_q0 c1), ⟨by decide, by decide⟩⟩ hP hD hS dX11_truth_9 (Nat.le_refl _) (Nat.le_refl _)
  · skip
    refine lv_iconst (v := 1) hx hb dX11_truth_4 rfl ?_
    refine lv_goto (tgt := 9) hx hb dX11_truth_5 rfl ?_
    exact ret 1 () _ _ _ _ _ _ rfl ⟨(gsY_X11_truth_1_q1 c1), ⟨by decide, by decide⟩⟩ hP hD hS dX11_truth_9 (Nat.le_refl _) (Nat.le_refl _)
set_option maxHeartbeats 4000000 in
set_option maxRecDepth 100000 in
theorem sY_X11_done_1 (NF : Nat) (l : Launch) (dC : Nat → ClassId) (dI : Nat → Nat → Nat) (cy : Nat → ClassId) (y0 : Nat) (r : Nat → Nat) (p0 : Int32) (p1 : Int32) (p2 : Int32) (v : Nat → Int32) (f : Nat → Nat → Int32) (w : Int64) (g : Nat → Int64) (hIv : YI v) (hCf : YC f) (hRf : progOK (f 4) (f 5) (v 9).toInt.toNat)  : ctI l (dC, dI) cy yX11_done cX11_done 3 .int 2 80 0 0 Unit [.int p0, .int p1, .int p2] (YW cy y0 r v f w g) (fun r u => gsY_X11_done_1 NF p0 p1 p2 v f w g = r) (fun u => YW cy y0 r v f w g) := by
  refine ctI_of (by decide) (Nat.le_of_ble_eq_true rfl) (fun p e s m below meth c A ls Q hx hb hml hts hown hE hP hD hA hl ret => ?_)
  have hUv : (v 35).toInt + (v 36).toInt ≤ 40 := hIv.2
  have hown : s.vm.findClass RX11 = some m.cls := hown
  have hS : va_S A s.heap s.heap [] := va_S.rf
  have hl : lv_has ls 3 [(0, .int p0), (1, .int p1), (2, .int p2)] := hl
  refine lv_iload_n hx hb dX11_done_0 rfl (lv_at hl 0 rfl) ?_
  by_cases c1 : p0 = 37
  · skip
    refine lv_tableIn (off := 143) (tgt := 144) hx hb dX11_done_1 (by rw [c1]; decide) (by rw [c1]; decide) (by rw [c1]; decide) (by decide) ?_
    refine lv_iload_n hx hb dX11_done_144 rfl (lv_at hl 2 rfl) ?_
    refine lv_if_ne (tgt := 152) hx hb dX11_done_145 rfl (fun c2 => ?_) (fun c2 => ?_)
    · skip
      have zc2 : ¬ (p2.toInt = 0) := zEn rfl tc_0 c2
      refine lv_iload_n hx hb dX11_done_152 rfl (lv_at hl 1 rfl) ?_
      refine lv_iload_n hx hb dX11_done_153 rfl (lv_at hl 2 rfl) ?_
      refine lv_irem hx hb dX11_done_154 (ne0 (show ¬ p2.toInt = 0 from om_139 zc2)) ?_
      refine lv_topi (fun t3 et3 => ?_)
      exact ret t3 () _ _ _ _ _ _ rfl (gsY_X11_done_1_q0 c1 c2 et3) hP hD hS dX11_done_155 (Nat.le_refl _) (Nat.le_refl _)
    · skip
      refine lv_iconst (v := 0) hx hb dX11_done_148 rfl ?_
      refine lv_goto (tgt := 155) hx hb dX11_done_149 rfl ?_
      exact ret 0 () _ _ _ _ _ _ rfl (gsY_X11_done_1_q1 c1 c2) hP hD hS dX11_done_155 (Nat.le_refl _) (Nat.le_refl _)
  · skip
    have zc1 : ¬ (p0.toInt = 37) := zEn rfl tc_37 c1
    by_cases c4 : p0 = 38
    · skip
      refine lv_tableIn (off := 197) (tgt := 198) hx hb dX11_done_1 (by rw [c4]; decide) (by rw [c4]; decide) (by rw [c4]; decide) (by decide) ?_
      refine lv_iload_n hx hb dX11_done_198 rfl (lv_at hl 1 rfl) ?_
      refine lv_if_eq (tgt := 210) hx hb dX11_done_199 rfl (fun c5 => ?_) (fun c5 => ?_)
      · skip
        refine lv_iconst (v := 0) hx hb dX11_done_210 rfl ?_
        refine cbSi (n := 1) (rest := []) hx hb hml hown hts hE hP hD hS hA (sY_X11_truth_1 NF l dC dI cy y0 r 0 v f w g hIv hCf hRf ) k_1761 k_1762 k_114 k_1763 he_yX11_truth ⟨Nat.le_of_ble_eq_true rfl, Nat.le_of_ble_eq_true rfl⟩ (rfl) hl.1 rfl (Nat.le_of_ble_eq_true rfl) dX11_done_211 (fun r7 u H locs hw hP hD hS => ?_)
        obtain ⟨hG8, hw⟩ := hw
        exact ret r7 () _ _ _ _ _ _ rfl (gsY_X11_done_1_q2 c1 c4 c5 hG8.symm) hP hD hS dX11_done_214 (Nat.le_refl _) (Nat.le_refl _)
      · skip
        refine lv_iload_n hx hb dX11_done_202 rfl (lv_at hl 2 rfl) ?_
        refine lv_if_eq (tgt := 210) hx hb dX11_done_203 rfl (fun c9 => ?_) (fun c9 => ?_)
        · skip
          refine lv_iconst (v := 0) hx hb dX11_done_210 rfl ?_
          refine cbSi (n := 1) (rest := []) hx hb hml hown hts hE hP hD hS hA (sY_X11_truth_1 NF l dC dI cy y0 r 0 v f w g hIv hCf hRf ) k_1761 k_1762 k_114 k_1763 he_yX11_truth ⟨Nat.le_of_ble_eq_true rfl, Nat.le_of_ble_eq_true rfl⟩ (rfl) hl.1 rfl (Nat.le_of_ble_eq_true rfl) dX11_done_211 (fun r11 u H locs hw hP hD hS => ?_)
          obtain ⟨hG12, hw⟩ := hw
          exact ret r11 () _ _ _ _ _ _ rfl (gsY_X11_done_1_q3 c1 c4 c5 c9 hG12.symm) hP hD hS dX11_done_214 (Nat.le_refl _) (Nat.le_refl _)
        · skip
          refine lv_iconst (v := 1) hx hb dX11_done_206 rfl ?_
          refine lv_goto (tgt := 211) hx hb dX11_done_207 rfl ?_
          refine cbSi (n := 1) (rest := []) hx hb hml hown hts hE hP hD hS hA (sY_X11_truth_1 NF l dC dI cy y0 r 1 v f w g hIv hCf hRf ) k_1761 k_1762 k_114 k_1763 he_yX11_truth ⟨Nat.le_of_ble_eq_true rfl, Nat.le_of_ble_eq_true rfl⟩ (rfl) hl.1 rfl (Nat.le_of_ble_eq_true rfl) dX11_done_211 (fun r14 u H locs hw hP hD hS => ?_)
          obtain ⟨hG15, hw⟩ := hw
          exact ret r14 () _ _ _ _ _ _ rfl (gsY_X11_done_1_q4 c1 c4 c5 c9 hG15.symm) hP hD hS dX11_done_214 (Nat.le_refl _) (Nat.le_refl _)
    · skip
      have zc4 : ¬ (p0.toInt = 38) := zEn rfl tc_38 c4
      by_cases c16 : p0 = 39
      · skip
        refine lv_tableIn (off := 214) (tgt := 215) hx hb dX11_done_1 (by rw [c16]; decide) (by rw [c16]; decide) (by rw [c16]; decide) (by decide) ?_
        refine lv_iload_n hx hb dX11_done_215 rfl (lv_at hl 1 rfl) ?_
        refine lv_if_ne (tgt := 223) hx hb dX11_done_216 rfl (fun c17 => ?_) (fun c17 => ?_)
        · skip
          refine lv_iconst (v := 1) hx hb dX11_done_223 rfl ?_
          refine lv_goto (tgt := 228) hx hb dX11_done_224 rfl ?_
          refine cbSi (n := 1) (rest := []) hx hb hml hown hts hE hP hD hS hA (sY_X11_truth_1 NF l dC dI cy y0 r 1 v f w g hIv hCf hRf ) k_1761 k_1762 k_114 k_1763 he_yX11_truth ⟨Nat.le_of_ble_eq_true rfl, Nat.le_of_ble_eq_true rfl⟩ (rfl) hl.1 rfl (Nat.le_of_ble_eq_true rfl) dX11_done_228 (fun r19 u H locs hw hP hD hS => ?_)
          obtain ⟨hG20, hw⟩ := hw
          exact ret r19 () _ _ _ _ _ _ rfl (gsY_X11_done_1_q5 c1 c4 c16 c17 hG20.symm) hP hD hS dX11_done_231 (Nat.le_refl _) (Nat.le_refl _)
        · skip
          refine lv_iload_n hx hb dX11_done_219 rfl (lv_at hl 2 rfl) ?_
          refine lv_if_eq (tgt := 227) hx hb dX11_done_220 rfl (fun c21 => ?_) (fun c21 => ?_)
          · skip
            refine lv_iconst (v := 0) hx hb dX11_done_227 rfl ?_
            refine cbSi (n := 1) (rest := []) hx hb hml hown hts hE hP hD hS hA (sY_X11_truth_1 NF l dC dI cy y0 r 0 v f w g hIv hCf hRf ) k_1761 k_1762 k_114 k_1763 he_yX11_truth ⟨Nat.le_of_ble_eq_true rfl, Nat.le_of_ble_eq_true rfl⟩ (rfl) hl.1 rfl (Nat.le_of_ble_eq_true rfl) dX11_done_228 (fun r23 u H locs hw hP hD hS => ?_)
            obtain ⟨hG24, hw⟩ := hw
            exact ret r23 () _ _ _ _ _ _ rfl (gsY_X11_done_1_q6 c1 c4 c16 c17 c21 hG24.symm) hP hD hS dX11_done_231 (Nat.le_refl _) (Nat.le_refl _)
          · skip
            refine lv_iconst (v := 1) hx hb dX11_done_223 rfl ?_
            refine lv_goto (tgt := 228) hx hb dX11_done_224 rfl ?_
            refine cbSi (n := 1) (rest := []) hx hb hml hown hts hE hP hD hS hA (sY_X11_truth_1 NF l dC dI cy y0 r 1 v f w g hIv hCf hRf ) k_1761 k_1762 k_114 k_1763 he_yX11_truth ⟨Nat.le_of_ble_eq_true rfl, Nat.le_of_ble_eq_true rfl⟩ (rfl) hl.1 rfl (Nat.le_of_ble_eq_true rfl) dX11_done_228 (fun r26 u H locs hw hP hD hS => ?_)
            obtain ⟨hG27, hw⟩ := hw
            exact ret r26 () _ _ _ _ _ _ rfl (gsY_X11_done_1_q7 c1 c4 c16 c17 c21 hG27.symm) hP hD hS dX11_done_231 (Nat.le_refl _) (Nat.le_refl _)
      · skip
        have zc16 : ¬ (p0.toInt = 39) := zEn rfl tc_39 c16
        by_cases c28 : p0 = 40
        · skip
          refine lv_tableIn (off := 214) (tgt := 215) hx hb dX11_done_1 (by rw [c28]; decide) (by rw [c28]; decide) (by rw [c28]; decide) (by decide) ?_
          refine lv_iload_n hx hb dX11_done_215 rfl (lv_at hl 1 rfl) ?_
          refine lv_if_ne (tgt := 223) hx hb dX11_done_216 rfl (fun c29 => ?_) (fun c29 => ?_)
          · skip
            refine lv_iconst (v := 1) hx hb dX11_done_223 rfl ?_
            refine lv_goto (tgt := 228) hx hb dX11_done_224 rfl ?_
            refine cbSi (n := 1) (rest := []) hx hb hml hown hts hE hP hD hS hA (sY_X11_truth_1 NF l dC dI cy y0 r 1 v f w g hIv hCf hRf ) k_1761 k_1762 k_114 k_1763 he_yX11_truth ⟨Nat.le_of_ble_eq_true rfl, Nat.le_of_ble_eq_true rfl⟩ (rfl) hl.1 rfl (Nat.le_of_ble_eq_true rfl) dX11_done_228 (fun r31 u H locs hw hP hD hS => ?_)
            obtain ⟨hG32, hw⟩ := hw
            exact ret r31 () _ _ _ _ _ _ rfl (gsY_X11_done_1_q8 c1 c4 c16 c28 c29 hG32.symm) hP hD hS dX11_done_231 (Nat.le_refl _) (Nat.le_refl _)
          · skip
            refine lv_iload_n hx hb dX11_done_219 rfl (lv_at hl 2 rfl) ?_
            refine lv_if_eq (tgt := 227) hx hb dX11_done_220 rfl (fun c33 => ?_) (fun c33 => ?_)
            · skip
              refine lv_iconst (v := 0) hx hb dX11_done_227 rfl ?_
              refine cbSi (n := 1) (rest := []) hx hb hml hown hts hE hP hD hS hA (sY_X11_truth_1 NF l dC dI cy y0 r 0 v f w g hIv hCf hRf ) k_1761 k_1762 k_114 k_1763 he_yX11_truth ⟨Nat.le_of_ble_eq_true rfl, Nat.le_of_ble_eq_true rfl⟩ (rfl) hl.1 rfl (Nat.le_of_ble_eq_true rfl) dX11_done_228 (fun r35 u H locs hw hP hD hS => ?_)
              obtain ⟨hG36, hw⟩ := hw
              exact ret r35 () _ _ _ _ _ _ rfl (gsY_X11_done_1_q9 c1 c4 c16 c28 c29 c33 hG36.symm) hP hD hS dX11_done_231 (Nat.le_refl _) (Nat.le_refl _)
            · skip
              refine lv_iconst (v := 1) hx hb dX11_done_223 rfl ?_
              refine lv_goto (tgt := 228) hx hb dX11_done_224 rfl ?_
              refine cbSi (n := 1) (rest := []) hx hb hml hown hts hE hP hD hS hA (sY_X11_truth_1 NF l dC dI cy y0 r 1 v f w g hIv hCf hRf ) k_1761 k_1762 k_114 k_1763 he_yX11_truth ⟨Nat.le_of_ble_eq_true rfl, Nat.le_of_ble_eq_true rfl⟩ (rfl) hl.1 rfl (Nat.le_of_ble_eq_true rfl) dX11_done_228 (fun r38 u H locs hw hP hD hS => ?_)
              obtain ⟨hG39, hw⟩ := hw
              exact ret r38 () _ _ _ _ _ _ rfl (gsY_X11_done_1_q10 c1 c4 c16 c28 c29 c33 hG39.symm) hP hD hS dX11_done_231 (Nat.le_refl _) (Nat.le_refl _)
        · skip
          have zc28 : ¬ (p0.toInt = 40) := zEn rfl tc_40 c28
          by_cases c40 : p0 = 41
          · skip
            refine lv_tableIn (off := 214) (tgt := 215) hx hb dX11_done_1 (by rw [c40]; decide) (by rw [c40]; decide) (by rw [c40]; decide) (by decide) ?_
            refine lv_iload_n hx hb dX11_done_215 rfl (lv_at hl 1 rfl) ?_
            refine lv_if_ne (tgt := 223) hx hb dX11_done_216 rfl (fun c41 => ?_) (fun c41 => ?_)
            · skip
              refine lv_iconst (v := 1) hx hb dX11_done_223 rfl ?_
              refine lv_goto (tgt := 228) hx hb dX11_done_224 rfl ?_
              refine cbSi (n := 1) (rest := []) hx hb hml hown hts hE hP hD hS hA (sY_X11_truth_1 NF l dC dI cy y0 r 1 v f w g hIv hCf hRf ) k_1761 k_1762 k_114 k_1763 he_yX11_truth ⟨Nat.le_of_ble_eq_true rfl, Nat.le_of_ble_eq_true rfl⟩ (rfl) hl.1 rfl (Nat.le_of_ble_eq_true rfl) dX11_done_228 (fun r43 u H locs hw hP hD hS => ?_)
              obtain ⟨hG44, hw⟩ := hw
              exact ret r43 () _ _ _ _ _ _ rfl (gsY_X11_done_1_q11 c1 c4 c16 c28 c40 c41 hG44.symm) hP hD hS dX11_done_231 (Nat.le_refl _) (Nat.le_refl _)
            · skip
              refine lv_iload_n hx hb dX11_done_219 rfl (lv_at hl 2 rfl) ?_
              refine lv_if_eq (tgt := 227) hx hb dX11_done_220 rfl (fun c45 => ?_) (fun c45 => ?_)
              · skip
                refine lv_iconst (v := 0) hx hb dX11_done_227 rfl ?_
                refine cbSi (n := 1) (rest := []) hx hb hml hown hts hE hP hD hS hA (sY_X11_truth_1 NF l dC dI cy y0 r 0 v f w g hIv hCf hRf ) k_1761 k_1762 k_114 k_1763 he_yX11_truth ⟨Nat.le_of_ble_eq_true rfl, Nat.le_of_ble_eq_true rfl⟩ (rfl) hl.1 rfl (Nat.le_of_ble_eq_true rfl) dX11_done_228 (fun r47 u H locs hw hP hD hS => ?_)
                obtain ⟨hG48, hw⟩ := hw
                exact ret r47 () _ _ _ _ _ _ rfl (gsY_X11_done_1_q12 c1 c4 c16 c28 c40 c41 c45 hG48.symm) hP hD hS dX11_done_231 (Nat.le_refl _) (Nat.le_refl _)
              · skip
                refine lv_iconst (v := 1) hx hb dX11_done_223 rfl ?_
                refine lv_goto (tgt := 228) hx hb dX11_done_224 rfl ?_
                refine cbSi (n := 1) (rest := []) hx hb hml hown hts hE hP hD hS hA (sY_X11_truth_1 NF l dC dI cy y0 r 1 v f w g hIv hCf hRf ) k_1761 k_1762 k_114 k_1763 he_yX11_truth ⟨Nat.le_of_ble_eq_true rfl, Nat.le_of_ble_eq_true rfl⟩ (rfl) hl.1 rfl (Nat.le_of_ble_eq_true rfl) dX11_done_228 (fun r50 u H locs hw hP hD hS => ?_)
                obtain ⟨hG51, hw⟩ := hw
                exact ret r50 () _ _ _ _ _ _ rfl (gsY_X11_done_1_q13 c1 c4 c16 c28 c40 c41 c45 hG51.symm) hP hD hS dX11_done_231 (Nat.le_refl _) (Nat.le_refl _)
          · skip
            have zc40 : ¬ (p0.toInt = 41) := zEn rfl tc_41 c40
            by_cases c52 : p0 = 42
            · skip
              refine lv_tableIn (off := 127) (tgt := 128) hx hb dX11_done_1 (by rw [c52]; decide) (by rw [c52]; decide) (by rw [c52]; decide) (by decide) ?_
              refine lv_iload_n hx hb dX11_done_128 rfl (lv_at hl 1 rfl) ?_
              refine lv_iload_n hx hb dX11_done_129 rfl (lv_at hl 2 rfl) ?_
              refine lv_imul hx hb dX11_done_130 ?_
              refine lv_topi (fun t53 et53 => ?_)
              exact ret t53 () _ _ _ _ _ _ rfl (gsY_X11_done_1_q14 c1 c4 c16 c28 c40 c52 et53) hP hD hS dX11_done_131 (Nat.le_refl _) (Nat.le_refl _)
            · skip
              have zc52 : ¬ (p0.toInt = 42) := zEn rfl tc_42 c52
              by_cases c54 : p0 = 43
              · skip
                refine lv_tableIn (off := 119) (tgt := 120) hx hb dX11_done_1 (by rw [c54]; decide) (by rw [c54]; decide) (by rw [c54]; decide) (by decide) ?_
                refine lv_iload_n hx hb dX11_done_120 rfl (lv_at hl 1 rfl) ?_
                refine lv_iload_n hx hb dX11_done_121 rfl (lv_at hl 2 rfl) ?_
                refine lv_iadd hx hb dX11_done_122 ?_
                refine lv_topi (fun t55 et55 => ?_)
                exact ret t55 () _ _ _ _ _ _ rfl (gsY_X11_done_1_q15 c1 c4 c16 c28 c40 c52 c54 et55) hP hD hS dX11_done_123 (Nat.le_refl _) (Nat.le_refl _)
              · skip
                have zc54 : ¬ (p0.toInt = 43) := zEn rfl tc_43 c54
                by_cases c56 : p0 = 44
                · skip
                  refine lv_tableIn (off := 214) (tgt := 215) hx hb dX11_done_1 (by rw [c56]; decide) (by rw [c56]; decide) (by rw [c56]; decide) (by decide) ?_
                  refine lv_iload_n hx hb dX11_done_215 rfl (lv_at hl 1 rfl) ?_
                  refine lv_if_ne (tgt := 223) hx hb dX11_done_216 rfl (fun c57 => ?_) (fun c57 => ?_)
                  · skip
                    refine lv_iconst (v := 1) hx hb dX11_done_223 rfl ?_
                    refine lv_goto (tgt := 228) hx hb dX11_done_224 rfl ?_
                    refine cbSi (n := 1) (rest := []) hx hb hml hown hts hE hP hD hS hA (sY_X11_truth_1 NF l dC dI cy y0 r 1 v f w g hIv hCf hRf ) k_1761 k_1762 k_114 k_1763 he_yX11_truth ⟨Nat.le_of_ble_eq_true rfl, Nat.le_of_ble_eq_true rfl⟩ (rfl) hl.1 rfl (Nat.le_of_ble_eq_true rfl) dX11_done_228 (fun r59 u H locs hw hP hD hS => ?_)
                    obtain ⟨hG60, hw⟩ := hw
                    exact ret r59 () _ _ _ _ _ _ rfl (gsY_X11_done_1_q16 c1 c4 c16 c28 c40 c52 c54 c56 c57 hG60.symm) hP hD hS dX11_done_231 (Nat.le_refl _) (Nat.le_refl _)
                  · skip
                    refine lv_iload_n hx hb dX11_done_219 rfl (lv_at hl 2 rfl) ?_
                    refine lv_if_eq (tgt := 227) hx hb dX11_done_220 rfl (fun c61 => ?_) (fun c61 => ?_)
                    · skip
                      refine lv_iconst (v := 0) hx hb dX11_done_227 rfl ?_
                      refine cbSi (n := 1) (rest := []) hx hb hml hown hts hE hP hD hS hA (sY_X11_truth_1 NF l dC dI cy y0 r 0 v f w g hIv hCf hRf ) k_1761 k_1762 k_114 k_1763 he_yX11_truth ⟨Nat.le_of_ble_eq_true rfl, Nat.le_of_ble_eq_true rfl⟩ (rfl) hl.1 rfl (Nat.le_of_ble_eq_true rfl) dX11_done_228 (fun r63 u H locs hw hP hD hS => ?_)
                      obtain ⟨hG64, hw⟩ := hw
                      exact ret r63 () _ _ _ _ _ _ rfl (gsY_X11_done_1_q17 c1 c4 c16 c28 c40 c52 c54 c56 c57 c61 hG64.symm) hP hD hS dX11_done_231 (Nat.le_refl _) (Nat.le_refl _)
                    · skip
                      refine lv_iconst (v := 1) hx hb dX11_done_223 rfl ?_
                      refine lv_goto (tgt := 228) hx hb dX11_done_224 rfl ?_
                      refine cbSi (n := 1) (rest := []) hx hb hml hown hts hE hP hD hS hA (sY_X11_truth_1 NF l dC dI cy y0 r 1 v f w g hIv hCf hRf ) k_1761 k_1762 k_114 k_1763 he_yX11_truth ⟨Nat.le_of_ble_eq_true rfl, Nat.le_of_ble_eq_true rfl⟩ (rfl) hl.1 rfl (Nat.le_of_ble_eq_true rfl) dX11_done_228 (fun r66 u H locs hw hP hD hS => ?_)
                      obtain ⟨hG67, hw⟩ := hw
                      exact ret r66 () _ _ _ _ _ _ rfl (gsY_X11_done_1_q18 c1 c4 c16 c28 c40 c52 c54 c56 c57 c61 hG67.symm) hP hD hS dX11_done_231 (Nat.le_refl _) (Nat.le_refl _)
                · skip
                  have zc56 : ¬ (p0.toInt = 44) := zEn rfl tc_44 c56
                  by_cases c68 : p0 = 45
                  · skip
                    refine lv_tableIn (off := 123) (tgt := 124) hx hb dX11_done_1 (by rw [c68]; decide) (by rw [c68]; decide) (by rw [c68]; decide) (by decide) ?_
                    refine lv_iload_n hx hb dX11_done_124 rfl (lv_at hl 1 rfl) ?_
                    refine lv_iload_n hx hb dX11_done_125 rfl (lv_at hl 2 rfl) ?_
                    refine lv_isub hx hb dX11_done_126 ?_
                    refine lv_topi (fun t69 et69 => ?_)
                    exact ret t69 () _ _ _ _ _ _ rfl (gsY_X11_done_1_q19 c1 c4 c16 c28 c40 c52 c54 c56 c68 et69) hP hD hS dX11_done_127 (Nat.le_refl _) (Nat.le_refl _)
                  · skip
                    have zc68 : ¬ (p0.toInt = 45) := zEn rfl tc_45 c68
                    by_cases c70 : p0 = 46
                    · skip
                      refine lv_tableIn (off := 214) (tgt := 215) hx hb dX11_done_1 (by rw [c70]; decide) (by rw [c70]; decide) (by rw [c70]; decide) (by decide) ?_
                      refine lv_iload_n hx hb dX11_done_215 rfl (lv_at hl 1 rfl) ?_
                      refine lv_if_ne (tgt := 223) hx hb dX11_done_216 rfl (fun c71 => ?_) (fun c71 => ?_)
                      · skip
                        refine lv_iconst (v := 1) hx hb dX11_done_223 rfl ?_
                        refine lv_goto (tgt := 228) hx hb dX11_done_224 rfl ?_
                        refine cbSi (n := 1) (rest := []) hx hb hml hown hts hE hP hD hS hA (sY_X11_truth_1 NF l dC dI cy y0 r 1 v f w g hIv hCf hRf ) k_1761 k_1762 k_114 k_1763 he_yX11_truth ⟨Nat.le_of_ble_eq_true rfl, Nat.le_of_ble_eq_true rfl⟩ (rfl) hl.1 rfl (Nat.le_of_ble_eq_true rfl) dX11_done_228 (fun r73 u H locs hw hP hD hS => ?_)
                        obtain ⟨hG74, hw⟩ := hw
                        exact ret r73 () _ _ _ _ _ _ rfl (gsY_X11_done_1_q20 c1 c4 c16 c28 c40 c52 c54 c56 c68 c70 c71 hG74.symm) hP hD hS dX11_done_231 (Nat.le_refl _) (Nat.le_refl _)
                      · skip
                        refine lv_iload_n hx hb dX11_done_219 rfl (lv_at hl 2 rfl) ?_
                        refine lv_if_eq (tgt := 227) hx hb dX11_done_220 rfl (fun c75 => ?_) (fun c75 => ?_)
                        · skip
                          refine lv_iconst (v := 0) hx hb dX11_done_227 rfl ?_
                          refine cbSi (n := 1) (rest := []) hx hb hml hown hts hE hP hD hS hA (sY_X11_truth_1 NF l dC dI cy y0 r 0 v f w g hIv hCf hRf ) k_1761 k_1762 k_114 k_1763 he_yX11_truth ⟨Nat.le_of_ble_eq_true rfl, Nat.le_of_ble_eq_true rfl⟩ (rfl) hl.1 rfl (Nat.le_of_ble_eq_true rfl) dX11_done_228 (fun r77 u H locs hw hP hD hS => ?_)
                          obtain ⟨hG78, hw⟩ := hw
                          exact ret r77 () _ _ _ _ _ _ rfl (gsY_X11_done_1_q21 c1 c4 c16 c28 c40 c52 c54 c56 c68 c70 c71 c75 hG78.symm) hP hD hS dX11_done_231 (Nat.le_refl _) (Nat.le_refl _)
                        · skip
                          refine lv_iconst (v := 1) hx hb dX11_done_223 rfl ?_
                          refine lv_goto (tgt := 228) hx hb dX11_done_224 rfl ?_
                          refine cbSi (n := 1) (rest := []) hx hb hml hown hts hE hP hD hS hA (sY_X11_truth_1 NF l dC dI cy y0 r 1 v f w g hIv hCf hRf ) k_1761 k_1762 k_114 k_1763 he_yX11_truth ⟨Nat.le_of_ble_eq_true rfl, Nat.le_of_ble_eq_true rfl⟩ (rfl) hl.1 rfl (Nat.le_of_ble_eq_true rfl) dX11_done_228 (fun r80 u H locs hw hP hD hS => ?_)
                          obtain ⟨hG81, hw⟩ := hw
                          exact ret r80 () _ _ _ _ _ _ rfl (gsY_X11_done_1_q22 c1 c4 c16 c28 c40 c52 c54 c56 c68 c70 c71 c75 hG81.symm) hP hD hS dX11_done_231 (Nat.le_refl _) (Nat.le_refl _)
                    · skip
                      have zc70 : ¬ (p0.toInt = 46) := zEn rfl tc_46 c70
                      by_cases c82 : p0 = 47
                      · skip
                        refine lv_tableIn (off := 131) (tgt := 132) hx hb dX11_done_1 (by rw [c82]; decide) (by rw [c82]; decide) (by rw [c82]; decide) (by decide) ?_
                        refine lv_iload_n hx hb dX11_done_132 rfl (lv_at hl 2 rfl) ?_
                        refine lv_if_ne (tgt := 140) hx hb dX11_done_133 rfl (fun c83 => ?_) (fun c83 => ?_)
                        · skip
                          have zc83 : ¬ (p2.toInt = 0) := zEn rfl tc_0 c83
                          refine lv_iload_n hx hb dX11_done_140 rfl (lv_at hl 1 rfl) ?_
                          refine lv_iload_n hx hb dX11_done_141 rfl (lv_at hl 2 rfl) ?_
                          refine lv_idiv hx hb dX11_done_142 (ne0 (show ¬ p2.toInt = 0 from om_139 zc83)) ?_
                          refine lv_topi (fun t84 et84 => ?_)
                          exact ret t84 () _ _ _ _ _ _ rfl (gsY_X11_done_1_q23 c1 c4 c16 c28 c40 c52 c54 c56 c68 c70 c82 c83 et84) hP hD hS dX11_done_143 (Nat.le_refl _) (Nat.le_refl _)
                        · skip
                          refine lv_iconst (v := 0) hx hb dX11_done_136 rfl ?_
                          refine lv_goto (tgt := 143) hx hb dX11_done_137 rfl ?_
                          exact ret 0 () _ _ _ _ _ _ rfl (gsY_X11_done_1_q24 c1 c4 c16 c28 c40 c52 c54 c56 c68 c70 c82 c83) hP hD hS dX11_done_143 (Nat.le_refl _) (Nat.le_refl _)
                      · skip
                        have zc82 : ¬ (p0.toInt = 47) := zEn rfl tc_47 c82
                        by_cases c85 : p0 = 48
                        · skip
                          refine lv_tableIn (off := 214) (tgt := 215) hx hb dX11_done_1 (by rw [c85]; decide) (by rw [c85]; decide) (by rw [c85]; decide) (by decide) ?_
                          refine lv_iload_n hx hb dX11_done_215 rfl (lv_at hl 1 rfl) ?_
                          refine lv_if_ne (tgt := 223) hx hb dX11_done_216 rfl (fun c86 => ?_) (fun c86 => ?_)
                          · skip
                            refine lv_iconst (v := 1) hx hb dX11_done_223 rfl ?_
                            refine lv_goto (tgt := 228) hx hb dX11_done_224 rfl ?_
                            refine cbSi (n := 1) (rest := []) hx hb hml hown hts hE hP hD hS hA (sY_X11_truth_1 NF l dC dI cy y0 r 1 v f w g hIv hCf hRf ) k_1761 k_1762 k_114 k_1763 he_yX11_truth ⟨Nat.le_of_ble_eq_true rfl, Nat.le_of_ble_eq_true rfl⟩ (rfl) hl.1 rfl (Nat.le_of_ble_eq_true rfl) dX11_done_228 (fun r88 u H locs hw hP hD hS => ?_)
                            obtain ⟨hG89, hw⟩ := hw
                            exact ret r88 () _ _ _ _ _ _ rfl (gsY_X11_done_1_q25 c1 c4 c16 c28 c40 c52 c54 c56 c68 c70 c82 c85 c86 hG89.symm) hP hD hS dX11_done_231 (Nat.le_refl _) (Nat.le_refl _)
                          · skip
                            refine lv_iload_n hx hb dX11_done_219 rfl (lv_at hl 2 rfl) ?_
                            refine lv_if_eq (tgt := 227) hx hb dX11_done_220 rfl (fun c90 => ?_) (fun c90 => ?_)
                            · skip
                              refine lv_iconst (v := 0) hx hb dX11_done_227 rfl ?_
                              refine cbSi (n := 1) (rest := []) hx hb hml hown hts hE hP hD hS hA (sY_X11_truth_1 NF l dC dI cy y0 r 0 v f w g hIv hCf hRf ) k_1761 k_1762 k_114 k_1763 he_yX11_truth ⟨Nat.le_of_ble_eq_true rfl, Nat.le_of_ble_eq_true rfl⟩ (rfl) hl.1 rfl (Nat.le_of_ble_eq_true rfl) dX11_done_228 (fun r92 u H locs hw hP hD hS => ?_)
                              obtain ⟨hG93, hw⟩ := hw
                              exact ret r92 () _ _ _ _ _ _ rfl (gsY_X11_done_1_q26 c1 c4 c16 c28 c40 c52 c54 c56 c68 c70 c82 c85 c86 c90 hG93.symm) hP hD hS dX11_done_231 (Nat.le_refl _) (Nat.le_refl _)
                            · skip
                              refine lv_iconst (v := 1) hx hb dX11_done_223 rfl ?_
                              refine lv_goto (tgt := 228) hx hb dX11_done_224 rfl ?_
                              refine cbSi (n := 1) (rest := []) hx hb hml hown hts hE hP hD hS hA (sY_X11_truth_1 NF l dC dI cy y0 r 1 v f w g hIv hCf hRf ) k_1761 k_1762 k_114 k_1763 he_yX11_truth ⟨Nat.le_of_ble_eq_true rfl, Nat.le_of_ble_eq_true rfl⟩ (rfl) hl.1 rfl (Nat.le_of_ble_eq_true rfl) dX11_done_228 (fun r95 u H locs hw hP hD hS => ?_)
                              obtain ⟨hG96, hw⟩ := hw
                              exact ret r95 () _ _ _ _ _ _ rfl (gsY_X11_done_1_q27 c1 c4 c16 c28 c40 c52 c54 c56 c68 c70 c82 c85 c86 c90 hG96.symm) hP hD hS dX11_done_231 (Nat.le_refl _) (Nat.le_refl _)
                        · skip
                          have zc85 : ¬ (p0.toInt = 48) := zEn rfl tc_48 c85
                          by_cases c97 : p0 = 49
                          · skip
                            refine lv_tableIn (off := 214) (tgt := 215) hx hb dX11_done_1 (by rw [c97]; decide) (by rw [c97]; decide) (by rw [c97]; decide) (by decide) ?_
                            refine lv_iload_n hx hb dX11_done_215 rfl (lv_at hl 1 rfl) ?_
                            refine lv_if_ne (tgt := 223) hx hb dX11_done_216 rfl (fun c98 => ?_) (fun c98 => ?_)
                            · skip
                              refine lv_iconst (v := 1) hx hb dX11_done_223 rfl ?_
                              refine lv_goto (tgt := 228) hx hb dX11_done_224 rfl ?_
                              refine cbSi (n := 1) (rest := []) hx hb hml hown hts hE hP hD hS hA (sY_X11_truth_1 NF l dC dI cy y0 r 1 v f w g hIv hCf hRf ) k_1761 k_1762 k_114 k_1763 he_yX11_truth ⟨Nat.le_of_ble_eq_true rfl, Nat.le_of_ble_eq_true rfl⟩ (rfl) hl.1 rfl (Nat.le_of_ble_eq_true rfl) dX11_done_228 (fun r100 u H locs hw hP hD hS => ?_)
                              obtain ⟨hG101, hw⟩ := hw
                              exact ret r100 () _ _ _ _ _ _ rfl (gsY_X11_done_1_q28 c1 c4 c16 c28 c40 c52 c54 c56 c68 c70 c82 c85 c97 c98 hG101.symm) hP hD hS dX11_done_231 (Nat.le_refl _) (Nat.le_refl _)
                            · skip
                              refine lv_iload_n hx hb dX11_done_219 rfl (lv_at hl 2 rfl) ?_
                              refine lv_if_eq (tgt := 227) hx hb dX11_done_220 rfl (fun c102 => ?_) (fun c102 => ?_)
                              · skip
                                refine lv_iconst (v := 0) hx hb dX11_done_227 rfl ?_
                                refine cbSi (n := 1) (rest := []) hx hb hml hown hts hE hP hD hS hA (sY_X11_truth_1 NF l dC dI cy y0 r 0 v f w g hIv hCf hRf ) k_1761 k_1762 k_114 k_1763 he_yX11_truth ⟨Nat.le_of_ble_eq_true rfl, Nat.le_of_ble_eq_true rfl⟩ (rfl) hl.1 rfl (Nat.le_of_ble_eq_true rfl) dX11_done_228 (fun r104 u H locs hw hP hD hS => ?_)
                                obtain ⟨hG105, hw⟩ := hw
                                exact ret r104 () _ _ _ _ _ _ rfl (gsY_X11_done_1_q29 c1 c4 c16 c28 c40 c52 c54 c56 c68 c70 c82 c85 c97 c98 c102 hG105.symm) hP hD hS dX11_done_231 (Nat.le_refl _) (Nat.le_refl _)
                              · skip
                                refine lv_iconst (v := 1) hx hb dX11_done_223 rfl ?_
                                refine lv_goto (tgt := 228) hx hb dX11_done_224 rfl ?_
                                refine cbSi (n := 1) (rest := []) hx hb hml hown hts hE hP hD hS hA (sY_X11_truth_1 NF l dC dI cy y0 r 1 v f w g hIv hCf hRf ) k_1761 k_1762 k_114 k_1763 he_yX11_truth ⟨Nat.le_of_ble_eq_true rfl, Nat.le_of_ble_eq_true rfl⟩ (rfl) hl.1 rfl (Nat.le_of_ble_eq_true rfl) dX11_done_228 (fun r107 u H locs hw hP hD hS => ?_)
                                obtain ⟨hG108, hw⟩ := hw
                                exact ret r107 () _ _ _ _ _ _ rfl (gsY_X11_done_1_q30 c1 c4 c16 c28 c40 c52 c54 c56 c68 c70 c82 c85 c97 c98 c102 hG108.symm) hP hD hS dX11_done_231 (Nat.le_refl _) (Nat.le_refl _)
                          · skip
                            have zc97 : ¬ (p0.toInt = 49) := zEn rfl tc_49 c97
                            by_cases c109 : p0 = 50
                            · skip
                              refine lv_tableIn (off := 214) (tgt := 215) hx hb dX11_done_1 (by rw [c109]; decide) (by rw [c109]; decide) (by rw [c109]; decide) (by decide) ?_
                              refine lv_iload_n hx hb dX11_done_215 rfl (lv_at hl 1 rfl) ?_
                              refine lv_if_ne (tgt := 223) hx hb dX11_done_216 rfl (fun c110 => ?_) (fun c110 => ?_)
                              · skip
                                refine lv_iconst (v := 1) hx hb dX11_done_223 rfl ?_
                                refine lv_goto (tgt := 228) hx hb dX11_done_224 rfl ?_
                                refine cbSi (n := 1) (rest := []) hx hb hml hown hts hE hP hD hS hA (sY_X11_truth_1 NF l dC dI cy y0 r 1 v f w g hIv hCf hRf ) k_1761 k_1762 k_114 k_1763 he_yX11_truth ⟨Nat.le_of_ble_eq_true rfl, Nat.le_of_ble_eq_true rfl⟩ (rfl) hl.1 rfl (Nat.le_of_ble_eq_true rfl) dX11_done_228 (fun r112 u H locs hw hP hD hS => ?_)
                                obtain ⟨hG113, hw⟩ := hw
                                exact ret r112 () _ _ _ _ _ _ rfl (gsY_X11_done_1_q31 c1 c4 c16 c28 c40 c52 c54 c56 c68 c70 c82 c85 c97 c109 c110 hG113.symm) hP hD hS dX11_done_231 (Nat.le_refl _) (Nat.le_refl _)
                              · skip
                                refine lv_iload_n hx hb dX11_done_219 rfl (lv_at hl 2 rfl) ?_
                                refine lv_if_eq (tgt := 227) hx hb dX11_done_220 rfl (fun c114 => ?_) (fun c114 => ?_)
                                · skip
                                  refine lv_iconst (v := 0) hx hb dX11_done_227 rfl ?_
                                  refine cbSi (n := 1) (rest := []) hx hb hml hown hts hE hP hD hS hA (sY_X11_truth_1 NF l dC dI cy y0 r 0 v f w g hIv hCf hRf ) k_1761 k_1762 k_114 k_1763 he_yX11_truth ⟨Nat.le_of_ble_eq_true rfl, Nat.le_of_ble_eq_true rfl⟩ (rfl) hl.1 rfl (Nat.le_of_ble_eq_true rfl) dX11_done_228 (fun r116 u H locs hw hP hD hS => ?_)
                                  obtain ⟨hG117, hw⟩ := hw
                                  exact ret r116 () _ _ _ _ _ _ rfl (gsY_X11_done_1_q32 c1 c4 c16 c28 c40 c52 c54 c56 c68 c70 c82 c85 c97 c109 c110 c114 hG117.symm) hP hD hS dX11_done_231 (Nat.le_refl _) (Nat.le_refl _)
                                · skip
                                  refine lv_iconst (v := 1) hx hb dX11_done_223 rfl ?_
                                  refine lv_goto (tgt := 228) hx hb dX11_done_224 rfl ?_
                                  refine cbSi (n := 1) (rest := []) hx hb hml hown hts hE hP hD hS hA (sY_X11_truth_1 NF l dC dI cy y0 r 1 v f w g hIv hCf hRf ) k_1761 k_1762 k_114 k_1763 he_yX11_truth ⟨Nat.le_of_ble_eq_true rfl, Nat.le_of_ble_eq_true rfl⟩ (rfl) hl.1 rfl (Nat.le_of_ble_eq_true rfl) dX11_done_228 (fun r119 u H locs hw hP hD hS => ?_)
                                  obtain ⟨hG120, hw⟩ := hw
                                  exact ret r119 () _ _ _ _ _ _ rfl (gsY_X11_done_1_q33 c1 c4 c16 c28 c40 c52 c54 c56 c68 c70 c82 c85 c97 c109 c110 c114 hG120.symm) hP hD hS dX11_done_231 (Nat.le_refl _) (Nat.le_refl _)
                            · skip
                              have zc109 : ¬ (p0.toInt = 50) := zEn rfl tc_50 c109
                              by_cases c121 : p0 = 51
                              · skip
                                refine lv_tableIn (off := 214) (tgt := 215) hx hb dX11_done_1 (by rw [c121]; decide) (by rw [c121]; decide) (by rw [c121]; decide) (by decide) ?_
                                refine lv_iload_n hx hb dX11_done_215 rfl (lv_at hl 1 rfl) ?_
                                refine lv_if_ne (tgt := 223) hx hb dX11_done_216 rfl (fun c122 => ?_) (fun c122 => ?_)
                                · skip
                                  refine lv_iconst (v := 1) hx hb dX11_done_223 rfl ?_
                                  refine lv_goto (tgt := 228) hx hb dX11_done_224 rfl ?_
                                  refine cbSi (n := 1) (rest := []) hx hb hml hown hts hE hP hD hS hA (sY_X11_truth_1 NF l dC dI cy y0 r 1 v f w g hIv hCf hRf ) k_1761 k_1762 k_114 k_1763 he_yX11_truth ⟨Nat.le_of_ble_eq_true rfl, Nat.le_of_ble_eq_true rfl⟩ (rfl) hl.1 rfl (Nat.le_of_ble_eq_true rfl) dX11_done_228 (fun r124 u H locs hw hP hD hS => ?_)
                                  obtain ⟨hG125, hw⟩ := hw
                                  exact ret r124 () _ _ _ _ _ _ rfl (gsY_X11_done_1_q34 c1 c4 c16 c28 c40 c52 c54 c56 c68 c70 c82 c85 c97 c109 c121 c122 hG125.symm) hP hD hS dX11_done_231 (Nat.le_refl _) (Nat.le_refl _)
                                · skip
                                  refine lv_iload_n hx hb dX11_done_219 rfl (lv_at hl 2 rfl) ?_
                                  refine lv_if_eq (tgt := 227) hx hb dX11_done_220 rfl (fun c126 => ?_) (fun c126 => ?_)
                                  · skip
                                    refine lv_iconst (v := 0) hx hb dX11_done_227 rfl ?_
                                    refine cbSi (n := 1) (rest := []) hx hb hml hown hts hE hP hD hS hA (sY_X11_truth_1 NF l dC dI cy y0 r 0 v f w g hIv hCf hRf ) k_1761 k_1762 k_114 k_1763 he_yX11_truth ⟨Nat.le_of_ble_eq_true rfl, Nat.le_of_ble_eq_true rfl⟩ (rfl) hl.1 rfl (Nat.le_of_ble_eq_true rfl) dX11_done_228 (fun r128 u H locs hw hP hD hS => ?_)
                                    obtain ⟨hG129, hw⟩ := hw
                                    exact ret r128 () _ _ _ _ _ _ rfl (gsY_X11_done_1_q35 c1 c4 c16 c28 c40 c52 c54 c56 c68 c70 c82 c85 c97 c109 c121 c122 c126 hG129.symm) hP hD hS dX11_done_231 (Nat.le_refl _) (Nat.le_refl _)
                                  · skip
                                    refine lv_iconst (v := 1) hx hb dX11_done_223 rfl ?_
                                    refine lv_goto (tgt := 228) hx hb dX11_done_224 rfl ?_
                                    refine cbSi (n := 1) (rest := []) hx hb hml hown hts hE hP hD hS hA (sY_X11_truth_1 NF l dC dI cy y0 r 1 v f w g hIv hCf hRf ) k_1761 k_1762 k_114 k_1763 he_yX11_truth ⟨Nat.le_of_ble_eq_true rfl, Nat.le_of_ble_eq_true rfl⟩ (rfl) hl.1 rfl (Nat.le_of_ble_eq_true rfl) dX11_done_228 (fun r131 u H locs hw hP hD hS => ?_)
                                    obtain ⟨hG132, hw⟩ := hw
                                    exact ret r131 () _ _ _ _ _ _ rfl (gsY_X11_done_1_q36 c1 c4 c16 c28 c40 c52 c54 c56 c68 c70 c82 c85 c97 c109 c121 c122 c126 hG132.symm) hP hD hS dX11_done_231 (Nat.le_refl _) (Nat.le_refl _)
                              · skip
                                have zc121 : ¬ (p0.toInt = 51) := zEn rfl tc_51 c121
                                by_cases c133 : p0 = 52
                                · skip
                                  refine lv_tableIn (off := 214) (tgt := 215) hx hb dX11_done_1 (by rw [c133]; decide) (by rw [c133]; decide) (by rw [c133]; decide) (by decide) ?_
                                  refine lv_iload_n hx hb dX11_done_215 rfl (lv_at hl 1 rfl) ?_
                                  refine lv_if_ne (tgt := 223) hx hb dX11_done_216 rfl (fun c134 => ?_) (fun c134 => ?_)
                                  · skip
                                    refine lv_iconst (v := 1) hx hb dX11_done_223 rfl ?_
                                    refine lv_goto (tgt := 228) hx hb dX11_done_224 rfl ?_
                                    refine cbSi (n := 1) (rest := []) hx hb hml hown hts hE hP hD hS hA (sY_X11_truth_1 NF l dC dI cy y0 r 1 v f w g hIv hCf hRf ) k_1761 k_1762 k_114 k_1763 he_yX11_truth ⟨Nat.le_of_ble_eq_true rfl, Nat.le_of_ble_eq_true rfl⟩ (rfl) hl.1 rfl (Nat.le_of_ble_eq_true rfl) dX11_done_228 (fun r136 u H locs hw hP hD hS => ?_)
                                    obtain ⟨hG137, hw⟩ := hw
                                    exact ret r136 () _ _ _ _ _ _ rfl (gsY_X11_done_1_q37 c1 c4 c16 c28 c40 c52 c54 c56 c68 c70 c82 c85 c97 c109 c121 c133 c134 hG137.symm) hP hD hS dX11_done_231 (Nat.le_refl _) (Nat.le_refl _)
                                  · skip
                                    refine lv_iload_n hx hb dX11_done_219 rfl (lv_at hl 2 rfl) ?_
                                    refine lv_if_eq (tgt := 227) hx hb dX11_done_220 rfl (fun c138 => ?_) (fun c138 => ?_)
                                    · skip
                                      refine lv_iconst (v := 0) hx hb dX11_done_227 rfl ?_
                                      refine cbSi (n := 1) (rest := []) hx hb hml hown hts hE hP hD hS hA (sY_X11_truth_1 NF l dC dI cy y0 r 0 v f w g hIv hCf hRf ) k_1761 k_1762 k_114 k_1763 he_yX11_truth ⟨Nat.le_of_ble_eq_true rfl, Nat.le_of_ble_eq_true rfl⟩ (rfl) hl.1 rfl (Nat.le_of_ble_eq_true rfl) dX11_done_228 (fun r140 u H locs hw hP hD hS => ?_)
                                      obtain ⟨hG141, hw⟩ := hw
                                      exact ret r140 () _ _ _ _ _ _ rfl (gsY_X11_done_1_q38 c1 c4 c16 c28 c40 c52 c54 c56 c68 c70 c82 c85 c97 c109 c121 c133 c134 c138 hG141.symm) hP hD hS dX11_done_231 (Nat.le_refl _) (Nat.le_refl _)
                                    · skip
                                      refine lv_iconst (v := 1) hx hb dX11_done_223 rfl ?_
                                      refine lv_goto (tgt := 228) hx hb dX11_done_224 rfl ?_
                                      refine cbSi (n := 1) (rest := []) hx hb hml hown hts hE hP hD hS hA (sY_X11_truth_1 NF l dC dI cy y0 r 1 v f w g hIv hCf hRf ) k_1761 k_1762 k_114 k_1763 he_yX11_truth ⟨Nat.le_of_ble_eq_true rfl, Nat.le_of_ble_eq_true rfl⟩ (rfl) hl.1 rfl (Nat.le_of_ble_eq_true rfl) dX11_done_228 (fun r143 u H locs hw hP hD hS => ?_)
                                      obtain ⟨hG144, hw⟩ := hw
                                      exact ret r143 () _ _ _ _ _ _ rfl (gsY_X11_done_1_q39 c1 c4 c16 c28 c40 c52 c54 c56 c68 c70 c82 c85 c97 c109 c121 c133 c134 c138 hG144.symm) hP hD hS dX11_done_231 (Nat.le_refl _) (Nat.le_refl _)
                                · skip
                                  have zc133 : ¬ (p0.toInt = 52) := zEn rfl tc_52 c133
                                  by_cases c145 : p0 = 53
                                  · skip
                                    refine lv_tableIn (off := 214) (tgt := 215) hx hb dX11_done_1 (by rw [c145]; decide) (by rw [c145]; decide) (by rw [c145]; decide) (by decide) ?_
                                    refine lv_iload_n hx hb dX11_done_215 rfl (lv_at hl 1 rfl) ?_
                                    refine lv_if_ne (tgt := 223) hx hb dX11_done_216 rfl (fun c146 => ?_) (fun c146 => ?_)
                                    · skip
                                      refine lv_iconst (v := 1) hx hb dX11_done_223 rfl ?_
                                      refine lv_goto (tgt := 228) hx hb dX11_done_224 rfl ?_
                                      refine cbSi (n := 1) (rest := []) hx hb hml hown hts hE hP hD hS hA (sY_X11_truth_1 NF l dC dI cy y0 r 1 v f w g hIv hCf hRf ) k_1761 k_1762 k_114 k_1763 he_yX11_truth ⟨Nat.le_of_ble_eq_true rfl, Nat.le_of_ble_eq_true rfl⟩ (rfl) hl.1 rfl (Nat.le_of_ble_eq_true rfl) dX11_done_228 (fun r148 u H locs hw hP hD hS => ?_)
                                      obtain ⟨hG149, hw⟩ := hw
                                      exact ret r148 () _ _ _ _ _ _ rfl (gsY_X11_done_1_q40 c1 c4 c16 c28 c40 c52 c54 c56 c68 c70 c82 c85 c97 c109 c121 c133 c145 c146 hG149.symm) hP hD hS dX11_done_231 (Nat.le_refl _) (Nat.le_refl _)
                                    · skip
                                      refine lv_iload_n hx hb dX11_done_219 rfl (lv_at hl 2 rfl) ?_
                                      refine lv_if_eq (tgt := 227) hx hb dX11_done_220 rfl (fun c150 => ?_) (fun c150 => ?_)
                                      · skip
                                        refine lv_iconst (v := 0) hx hb dX11_done_227 rfl ?_
                                        refine cbSi (n := 1) (rest := []) hx hb hml hown hts hE hP hD hS hA (sY_X11_truth_1 NF l dC dI cy y0 r 0 v f w g hIv hCf hRf ) k_1761 k_1762 k_114 k_1763 he_yX11_truth ⟨Nat.le_of_ble_eq_true rfl, Nat.le_of_ble_eq_true rfl⟩ (rfl) hl.1 rfl (Nat.le_of_ble_eq_true rfl) dX11_done_228 (fun r152 u H locs hw hP hD hS => ?_)
                                        obtain ⟨hG153, hw⟩ := hw
                                        exact ret r152 () _ _ _ _ _ _ rfl (gsY_X11_done_1_q41 c1 c4 c16 c28 c40 c52 c54 c56 c68 c70 c82 c85 c97 c109 c121 c133 c145 c146 c150 hG153.symm) hP hD hS dX11_done_231 (Nat.le_refl _) (Nat.le_refl _)
                                      · skip
                                        refine lv_iconst (v := 1) hx hb dX11_done_223 rfl ?_
                                        refine lv_goto (tgt := 228) hx hb dX11_done_224 rfl ?_
                                        refine cbSi (n := 1) (rest := []) hx hb hml hown hts hE hP hD hS hA (sY_X11_truth_1 NF l dC dI cy y0 r 1 v f w g hIv hCf hRf ) k_1761 k_1762 k_114 k_1763 he_yX11_truth ⟨Nat.le_of_ble_eq_true rfl, Nat.le_of_ble_eq_true rfl⟩ (rfl) hl.1 rfl (Nat.le_of_ble_eq_true rfl) dX11_done_228 (fun r155 u H locs hw hP hD hS => ?_)
                                        obtain ⟨hG156, hw⟩ := hw
                                        exact ret r155 () _ _ _ _ _ _ rfl (gsY_X11_done_1_q42 c1 c4 c16 c28 c40 c52 c54 c56 c68 c70 c82 c85 c97 c109 c121 c133 c145 c146 c150 hG156.symm) hP hD hS dX11_done_231 (Nat.le_refl _) (Nat.le_refl _)
                                  · skip
                                    have zc145 : ¬ (p0.toInt = 53) := zEn rfl tc_53 c145
                                    by_cases c157 : p0 = 54
                                    · skip
                                      refine lv_tableIn (off := 214) (tgt := 215) hx hb dX11_done_1 (by rw [c157]; decide) (by rw [c157]; decide) (by rw [c157]; decide) (by decide) ?_
                                      refine lv_iload_n hx hb dX11_done_215 rfl (lv_at hl 1 rfl) ?_
                                      refine lv_if_ne (tgt := 223) hx hb dX11_done_216 rfl (fun c158 => ?_) (fun c158 => ?_)
                                      · skip
                                        refine lv_iconst (v := 1) hx hb dX11_done_223 rfl ?_
                                        refine lv_goto (tgt := 228) hx hb dX11_done_224 rfl ?_
                                        refine cbSi (n := 1) (rest := []) hx hb hml hown hts hE hP hD hS hA (sY_X11_truth_1 NF l dC dI cy y0 r 1 v f w g hIv hCf hRf ) k_1761 k_1762 k_114 k_1763 he_yX11_truth ⟨Nat.le_of_ble_eq_true rfl, Nat.le_of_ble_eq_true rfl⟩ (rfl) hl.1 rfl (Nat.le_of_ble_eq_true rfl) dX11_done_228 (fun r160 u H locs hw hP hD hS => ?_)
                                        obtain ⟨hG161, hw⟩ := hw
                                        exact ret r160 () _ _ _ _ _ _ rfl (gsY_X11_done_1_q43 c1 c4 c16 c28 c40 c52 c54 c56 c68 c70 c82 c85 c97 c109 c121 c133 c145 c157 c158 hG161.symm) hP hD hS dX11_done_231 (Nat.le_refl _) (Nat.le_refl _)
                                      · skip
                                        refine lv_iload_n hx hb dX11_done_219 rfl (lv_at hl 2 rfl) ?_
                                        refine lv_if_eq (tgt := 227) hx hb dX11_done_220 rfl (fun c162 => ?_) (fun c162 => ?_)
                                        · skip
                                          refine lv_iconst (v := 0) hx hb dX11_done_227 rfl ?_
                                          refine cbSi (n := 1) (rest := []) hx hb hml hown hts hE hP hD hS hA (sY_X11_truth_1 NF l dC dI cy y0 r 0 v f w g hIv hCf hRf ) k_1761 k_1762 k_114 k_1763 he_yX11_truth ⟨Nat.le_of_ble_eq_true rfl, Nat.le_of_ble_eq_true rfl⟩ (rfl) hl.1 rfl (Nat.le_of_ble_eq_true rfl) dX11_done_228 (fun r164 u H locs hw hP hD hS => ?_)
                                          obtain ⟨hG165, hw⟩ := hw
                                          exact ret r164 () _ _ _ _ _ _ rfl (gsY_X11_done_1_q44 c1 c4 c16 c28 c40 c52 c54 c56 c68 c70 c82 c85 c97 c109 c121 c133 c145 c157 c158 c162 hG165.symm) hP hD hS dX11_done_231 (Nat.le_refl _) (Nat.le_refl _)
                                        · skip
                                          refine lv_iconst (v := 1) hx hb dX11_done_223 rfl ?_
                                          refine lv_goto (tgt := 228) hx hb dX11_done_224 rfl ?_
                                          refine cbSi (n := 1) (rest := []) hx hb hml hown hts hE hP hD hS hA (sY_X11_truth_1 NF l dC dI cy y0 r 1 v f w g hIv hCf hRf ) k_1761 k_1762 k_114 k_1763 he_yX11_truth ⟨Nat.le_of_ble_eq_true rfl, Nat.le_of_ble_eq_true rfl⟩ (rfl) hl.1 rfl (Nat.le_of_ble_eq_true rfl) dX11_done_228 (fun r167 u H locs hw hP hD hS => ?_)
                                          obtain ⟨hG168, hw⟩ := hw
                                          exact ret r167 () _ _ _ _ _ _ rfl (gsY_X11_done_1_q45 c1 c4 c16 c28 c40 c52 c54 c56 c68 c70 c82 c85 c97 c109 c121 c133 c145 c157 c158 c162 hG168.symm) hP hD hS dX11_done_231 (Nat.le_refl _) (Nat.le_refl _)
                                    · skip
                                      have zc157 : ¬ (p0.toInt = 54) := zEn rfl tc_54 c157
                                      by_cases c169 : p0 = 55
                                      · skip
                                        refine lv_tableIn (off := 214) (tgt := 215) hx hb dX11_done_1 (by rw [c169]; decide) (by rw [c169]; decide) (by rw [c169]; decide) (by decide) ?_
                                        refine lv_iload_n hx hb dX11_done_215 rfl (lv_at hl 1 rfl) ?_
                                        refine lv_if_ne (tgt := 223) hx hb dX11_done_216 rfl (fun c170 => ?_) (fun c170 => ?_)
                                        · skip
                                          refine lv_iconst (v := 1) hx hb dX11_done_223 rfl ?_
                                          refine lv_goto (tgt := 228) hx hb dX11_done_224 rfl ?_
                                          refine cbSi (n := 1) (rest := []) hx hb hml hown hts hE hP hD hS hA (sY_X11_truth_1 NF l dC dI cy y0 r 1 v f w g hIv hCf hRf ) k_1761 k_1762 k_114 k_1763 he_yX11_truth ⟨Nat.le_of_ble_eq_true rfl, Nat.le_of_ble_eq_true rfl⟩ (rfl) hl.1 rfl (Nat.le_of_ble_eq_true rfl) dX11_done_228 (fun r172 u H locs hw hP hD hS => ?_)
                                          obtain ⟨hG173, hw⟩ := hw
                                          exact ret r172 () _ _ _ _ _ _ rfl (gsY_X11_done_1_q46 c1 c4 c16 c28 c40 c52 c54 c56 c68 c70 c82 c85 c97 c109 c121 c133 c145 c157 c169 c170 hG173.symm) hP hD hS dX11_done_231 (Nat.le_refl _) (Nat.le_refl _)
                                        · skip
                                          refine lv_iload_n hx hb dX11_done_219 rfl (lv_at hl 2 rfl) ?_
                                          refine lv_if_eq (tgt := 227) hx hb dX11_done_220 rfl (fun c174 => ?_) (fun c174 => ?_)
                                          · skip
                                            refine lv_iconst (v := 0) hx hb dX11_done_227 rfl ?_
                                            refine cbSi (n := 1) (rest := []) hx hb hml hown hts hE hP hD hS hA (sY_X11_truth_1 NF l dC dI cy y0 r 0 v f w g hIv hCf hRf ) k_1761 k_1762 k_114 k_1763 he_yX11_truth ⟨Nat.le_of_ble_eq_true rfl, Nat.le_of_ble_eq_true rfl⟩ (rfl) hl.1 rfl (Nat.le_of_ble_eq_true rfl) dX11_done_228 (fun r176 u H locs hw hP hD hS => ?_)
                                            obtain ⟨hG177, hw⟩ := hw
                                            exact ret r176 () _ _ _ _ _ _ rfl (gsY_X11_done_1_q47 c1 c4 c16 c28 c40 c52 c54 c56 c68 c70 c82 c85 c97 c109 c121 c133 c145 c157 c169 c170 c174 hG177.symm) hP hD hS dX11_done_231 (Nat.le_refl _) (Nat.le_refl _)
                                          · skip
                                            refine lv_iconst (v := 1) hx hb dX11_done_223 rfl ?_
                                            refine lv_goto (tgt := 228) hx hb dX11_done_224 rfl ?_
                                            refine cbSi (n := 1) (rest := []) hx hb hml hown hts hE hP hD hS hA (sY_X11_truth_1 NF l dC dI cy y0 r 1 v f w g hIv hCf hRf ) k_1761 k_1762 k_114 k_1763 he_yX11_truth ⟨Nat.le_of_ble_eq_true rfl, Nat.le_of_ble_eq_true rfl⟩ (rfl) hl.1 rfl (Nat.le_of_ble_eq_true rfl) dX11_done_228 (fun r179 u H locs hw hP hD hS => ?_)
                                            obtain ⟨hG180, hw⟩ := hw
                                            exact ret r179 () _ _ _ _ _ _ rfl (gsY_X11_done_1_q48 c1 c4 c16 c28 c40 c52 c54 c56 c68 c70 c82 c85 c97 c109 c121 c133 c145 c157 c169 c170 c174 hG180.symm) hP hD hS dX11_done_231 (Nat.le_refl _) (Nat.le_refl _)
                                      · skip
                                        have zc169 : ¬ (p0.toInt = 55) := zEn rfl tc_55 c169
                                        by_cases c181 : p0 = 56
                                        · skip
                                          refine lv_tableIn (off := 214) (tgt := 215) hx hb dX11_done_1 (by rw [c181]; decide) (by rw [c181]; decide) (by rw [c181]; decide) (by decide) ?_
                                          refine lv_iload_n hx hb dX11_done_215 rfl (lv_at hl 1 rfl) ?_
                                          refine lv_if_ne (tgt := 223) hx hb dX11_done_216 rfl (fun c182 => ?_) (fun c182 => ?_)
                                          · skip
                                            refine lv_iconst (v := 1) hx hb dX11_done_223 rfl ?_
                                            refine lv_goto (tgt := 228) hx hb dX11_done_224 rfl ?_
                                            refine cbSi (n := 1) (rest := []) hx hb hml hown hts hE hP hD hS hA (sY_X11_truth_1 NF l dC dI cy y0 r 1 v f w g hIv hCf hRf ) k_1761 k_1762 k_114 k_1763 he_yX11_truth ⟨Nat.le_of_ble_eq_true rfl, Nat.le_of_ble_eq_true rfl⟩ (rfl) hl.1 rfl (Nat.le_of_ble_eq_true rfl) dX11_done_228 (fun r184 u H locs hw hP hD hS => ?_)
                                            obtain ⟨hG185, hw⟩ := hw
                                            exact ret r184 () _ _ _ _ _ _ rfl (gsY_X11_done_1_q49 c1 c4 c16 c28 c40 c52 c54 c56 c68 c70 c82 c85 c97 c109 c121 c133 c145 c157 c169 c181 c182 hG185.symm) hP hD hS dX11_done_231 (Nat.le_refl _) (Nat.le_refl _)
                                          · skip
                                            refine lv_iload_n hx hb dX11_done_219 rfl (lv_at hl 2 rfl) ?_
                                            refine lv_if_eq (tgt := 227) hx hb dX11_done_220 rfl (fun c186 => ?_) (fun c186 => ?_)
                                            · skip
                                              refine lv_iconst (v := 0) hx hb dX11_done_227 rfl ?_
                                              refine cbSi (n := 1) (rest := []) hx hb hml hown hts hE hP hD hS hA (sY_X11_truth_1 NF l dC dI cy y0 r 0 v f w g hIv hCf hRf ) k_1761 k_1762 k_114 k_1763 he_yX11_truth ⟨Nat.le_of_ble_eq_true rfl, Nat.le_of_ble_eq_true rfl⟩ (rfl) hl.1 rfl (Nat.le_of_ble_eq_true rfl) dX11_done_228 (fun r188 u H locs hw hP hD hS => ?_)
                                              obtain ⟨hG189, hw⟩ := hw
                                              exact ret r188 () _ _ _ _ _ _ rfl (gsY_X11_done_1_q50 c1 c4 c16 c28 c40 c52 c54 c56 c68 c70 c82 c85 c97 c109 c121 c133 c145 c157 c169 c181 c182 c186 hG189.symm) hP hD hS dX11_done_231 (Nat.le_refl _) (Nat.le_refl _)
                                            · skip
                                              refine lv_iconst (v := 1) hx hb dX11_done_223 rfl ?_
                                              refine lv_goto (tgt := 228) hx hb dX11_done_224 rfl ?_
                                              refine cbSi (n := 1) (rest := []) hx hb hml hown hts hE hP hD hS hA (sY_X11_truth_1 NF l dC dI cy y0 r 1 v f w g hIv hCf hRf ) k_1761 k_1762 k_114 k_1763 he_yX11_truth ⟨Nat.le_of_ble_eq_true rfl, Nat.le_of_ble_eq_true rfl⟩ (rfl) hl.1 rfl (Nat.le_of_ble_eq_true rfl) dX11_done_228 (fun r191 u H locs hw hP hD hS => ?_)
                                              obtain ⟨hG192, hw⟩ := hw
                                              exact ret r191 () _ _ _ _ _ _ rfl (gsY_X11_done_1_q51 c1 c4 c16 c28 c40 c52 c54 c56 c68 c70 c82 c85 c97 c109 c121 c133 c145 c157 c169 c181 c182 c186 hG192.symm) hP hD hS dX11_done_231 (Nat.le_refl _) (Nat.le_refl _)
                                        · skip
                                          have zc181 : ¬ (p0.toInt = 56) := zEn rfl tc_56 c181
                                          by_cases c193 : p0 = 57
                                          · skip
                                            refine lv_tableIn (off := 214) (tgt := 215) hx hb dX11_done_1 (by rw [c193]; decide) (by rw [c193]; decide) (by rw [c193]; decide) (by decide) ?_
                                            refine lv_iload_n hx hb dX11_done_215 rfl (lv_at hl 1 rfl) ?_
                                            refine lv_if_ne (tgt := 223) hx hb dX11_done_216 rfl (fun c194 => ?_) (fun c194 => ?_)
                                            · skip
                                              refine lv_iconst (v := 1) hx hb dX11_done_223 rfl ?_
                                              refine lv_goto (tgt := 228) hx hb dX11_done_224 rfl ?_
                                              refine cbSi (n := 1) (rest := []) hx hb hml hown hts hE hP hD hS hA (sY_X11_truth_1 NF l dC dI cy y0 r 1 v f w g hIv hCf hRf ) k_1761 k_1762 k_114 k_1763 he_yX11_truth ⟨Nat.le_of_ble_eq_true rfl, Nat.le_of_ble_eq_true rfl⟩ (rfl) hl.1 rfl (Nat.le_of_ble_eq_true rfl) dX11_done_228 (fun r196 u H locs hw hP hD hS => ?_)
                                              obtain ⟨hG197, hw⟩ := hw
                                              exact ret r196 () _ _ _ _ _ _ rfl (gsY_X11_done_1_q52 c1 c4 c16 c28 c40 c52 c54 c56 c68 c70 c82 c85 c97 c109 c121 c133 c145 c157 c169 c181 c193 c194 hG197.symm) hP hD hS dX11_done_231 (Nat.le_refl _) (Nat.le_refl _)
                                            · skip
                                              refine lv_iload_n hx hb dX11_done_219 rfl (lv_at hl 2 rfl) ?_
                                              refine lv_if_eq (tgt := 227) hx hb dX11_done_220 rfl (fun c198 => ?_) (fun c198 => ?_)
                                              · skip
                                                refine lv_iconst (v := 0) hx hb dX11_done_227 rfl ?_
                                                refine cbSi (n := 1) (rest := []) hx hb hml hown hts hE hP hD hS hA (sY_X11_truth_1 NF l dC dI cy y0 r 0 v f w g hIv hCf hRf ) k_1761 k_1762 k_114 k_1763 he_yX11_truth ⟨Nat.le_of_ble_eq_true rfl, Nat.le_of_ble_eq_true rfl⟩ (rfl) hl.1 rfl (Nat.le_of_ble_eq_true rfl) dX11_done_228 (fun r200 u H locs hw hP hD hS => ?_)
                                                obtain ⟨hG201, hw⟩ := hw
                                                exact ret r200 () _ _ _ _ _ _ rfl (gsY_X11_done_1_q53 c1 c4 c16 c28 c40 c52 c54 c56 c68 c70 c82 c85 c97 c109 c121 c133 c145 c157 c169 c181 c193 c194 c198 hG201.symm) hP hD hS dX11_done_231 (Nat.le_refl _) (Nat.le_refl _)
                                              · skip
                                                refine lv_iconst (v := 1) hx hb dX11_done_223 rfl ?_
                                                refine lv_goto (tgt := 228) hx hb dX11_done_224 rfl ?_
                                                refine cbSi (n := 1) (rest := []) hx hb hml hown hts hE hP hD hS hA (sY_X11_truth_1 NF l dC dI cy y0 r 1 v f w g hIv hCf hRf ) k_1761 k_1762 k_114 k_1763 he_yX11_truth ⟨Nat.le_of_ble_eq_true rfl, Nat.le_of_ble_eq_true rfl⟩ (rfl) hl.1 rfl (Nat.le_of_ble_eq_true rfl) dX11_done_228 (fun r203 u H locs hw hP hD hS => ?_)
                                                obtain ⟨hG204, hw⟩ := hw
                                                exact ret r203 () _ _ _ _ _ _ rfl (gsY_X11_done_1_q54 c1 c4 c16 c28 c40 c52 c54 c56 c68 c70 c82 c85 c97 c109 c121 c133 c145 c157 c169 c181 c193 c194 c198 hG204.symm) hP hD hS dX11_done_231 (Nat.le_refl _) (Nat.le_refl _)
                                          · skip
                                            have zc193 : ¬ (p0.toInt = 57) := zEn rfl tc_57 c193
                                            by_cases c205 : p0 = 58
                                            · skip
                                              refine lv_tableIn (off := 214) (tgt := 215) hx hb dX11_done_1 (by rw [c205]; decide) (by rw [c205]; decide) (by rw [c205]; decide) (by decide) ?_
                                              refine lv_iload_n hx hb dX11_done_215 rfl (lv_at hl 1 rfl) ?_
                                              refine lv_if_ne (tgt := 223) hx hb dX11_done_216 rfl (fun c206 => ?_) (fun c206 => ?_)
                                              · skip
                                                refine lv_iconst (v := 1) hx hb dX11_done_223 rfl ?_
                                                refine lv_goto (tgt := 228) hx hb dX11_done_224 rfl ?_
                                                refine cbSi (n := 1) (rest := []) hx hb hml hown hts hE hP hD hS hA (sY_X11_truth_1 NF l dC dI cy y0 r 1 v f w g hIv hCf hRf ) k_1761 k_1762 k_114 k_1763 he_yX11_truth ⟨Nat.le_of_ble_eq_true rfl, Nat.le_of_ble_eq_true rfl⟩ (rfl) hl.1 rfl (Nat.le_of_ble_eq_true rfl) dX11_done_228 (fun r208 u H locs hw hP hD hS => ?_)
                                                obtain ⟨hG209, hw⟩ := hw
                                                exact ret r208 () _ _ _ _ _ _ rfl (gsY_X11_done_1_q55 c1 c4 c16 c28 c40 c52 c54 c56 c68 c70 c82 c85 c97 c109 c121 c133 c145 c157 c169 c181 c193 c205 c206 hG209.symm) hP hD hS dX11_done_231 (Nat.le_refl _) (Nat.le_refl _)
                                              · skip
                                                refine lv_iload_n hx hb dX11_done_219 rfl (lv_at hl 2 rfl) ?_
                                                refine lv_if_eq (tgt := 227) hx hb dX11_done_220 rfl (fun c210 => ?_) (fun c210 => ?_)
                                                · skip
                                                  refine lv_iconst (v := 0) hx hb dX11_done_227 rfl ?_
                                                  refine cbSi (n := 1) (rest := []) hx hb hml hown hts hE hP hD hS hA (sY_X11_truth_1 NF l dC dI cy y0 r 0 v f w g hIv hCf hRf ) k_1761 k_1762 k_114 k_1763 he_yX11_truth ⟨Nat.le_of_ble_eq_true rfl, Nat.le_of_ble_eq_true rfl⟩ (rfl) hl.1 rfl (Nat.le_of_ble_eq_true rfl) dX11_done_228 (fun r212 u H locs hw hP hD hS => ?_)
                                                  obtain ⟨hG213, hw⟩ := hw
                                                  exact ret r212 () _ _ _ _ _ _ rfl (gsY_X11_done_1_q56 c1 c4 c16 c28 c40 c52 c54 c56 c68 c70 c82 c85 c97 c109 c121 c133 c145 c157 c169 c181 c193 c205 c206 c210 hG213.symm) hP hD hS dX11_done_231 (Nat.le_refl _) (Nat.le_refl _)
                                                · skip
                                                  refine lv_iconst (v := 1) hx hb dX11_done_223 rfl ?_
                                                  refine lv_goto (tgt := 228) hx hb dX11_done_224 rfl ?_
                                                  refine cbSi (n := 1) (rest := []) hx hb hml hown hts hE hP hD hS hA (sY_X11_truth_1 NF l dC dI cy y0 r 1 v f w g hIv hCf hRf ) k_1761 k_1762 k_114 k_1763 he_yX11_truth ⟨Nat.le_of_ble_eq_true rfl, Nat.le_of_ble_eq_true rfl⟩ (rfl) hl.1 rfl (Nat.le_of_ble_eq_true rfl) dX11_done_228 (fun r215 u H locs hw hP hD hS => ?_)
                                                  obtain ⟨hG216, hw⟩ := hw
                                                  exact ret r215 () _ _ _ _ _ _ rfl (gsY_X11_done_1_q57 c1 c4 c16 c28 c40 c52 c54 c56 c68 c70 c82 c85 c97 c109 c121 c133 c145 c157 c169 c181 c193 c205 c206 c210 hG216.symm) hP hD hS dX11_done_231 (Nat.le_refl _) (Nat.le_refl _)
                                            · skip
                                              have zc205 : ¬ (p0.toInt = 58) := zEn rfl tc_58 c205
                                              by_cases c217 : p0 = 59
                                              · skip
                                                refine lv_tableIn (off := 214) (tgt := 215) hx hb dX11_done_1 (by rw [c217]; decide) (by rw [c217]; decide) (by rw [c217]; decide) (by decide) ?_
                                                refine lv_iload_n hx hb dX11_done_215 rfl (lv_at hl 1 rfl) ?_
                                                refine lv_if_ne (tgt := 223) hx hb dX11_done_216 rfl (fun c218 => ?_) (fun c218 => ?_)
                                                · skip
                                                  refine lv_iconst (v := 1) hx hb dX11_done_223 rfl ?_
                                                  refine lv_goto (tgt := 228) hx hb dX11_done_224 rfl ?_
                                                  refine cbSi (n := 1) (rest := []) hx hb hml hown hts hE hP hD hS hA (sY_X11_truth_1 NF l dC dI cy y0 r 1 v f w g hIv hCf hRf ) k_1761 k_1762 k_114 k_1763 he_yX11_truth ⟨Nat.le_of_ble_eq_true rfl, Nat.le_of_ble_eq_true rfl⟩ (rfl) hl.1 rfl (Nat.le_of_ble_eq_true rfl) dX11_done_228 (fun r220 u H locs hw hP hD hS => ?_)
                                                  obtain ⟨hG221, hw⟩ := hw
                                                  exact ret r220 () _ _ _ _ _ _ rfl (gsY_X11_done_1_q58 c1 c4 c16 c28 c40 c52 c54 c56 c68 c70 c82 c85 c97 c109 c121 c133 c145 c157 c169 c181 c193 c205 c217 c218 hG221.symm) hP hD hS dX11_done_231 (Nat.le_refl _) (Nat.le_refl _)
                                                · skip
                                                  refine lv_iload_n hx hb dX11_done_219 rfl (lv_at hl 2 rfl) ?_
                                                  refine lv_if_eq (tgt := 227) hx hb dX11_done_220 rfl (fun c222 => ?_) (fun c222 => ?_)
                                                  · skip
                                                    refine lv_iconst (v := 0) hx hb dX11_done_227 rfl ?_
                                                    refine cbSi (n := 1) (rest := []) hx hb hml hown hts hE hP hD hS hA (sY_X11_truth_1 NF l dC dI cy y0 r 0 v f w g hIv hCf hRf ) k_1761 k_1762 k_114 k_1763 he_yX11_truth ⟨Nat.le_of_ble_eq_true rfl, Nat.le_of_ble_eq_true rfl⟩ (rfl) hl.1 rfl (Nat.le_of_ble_eq_true rfl) dX11_done_228 (fun r224 u H locs hw hP hD hS => ?_)
                                                    obtain ⟨hG225, hw⟩ := hw
                                                    exact ret r224 () _ _ _ _ _ _ rfl (gsY_X11_done_1_q59 c1 c4 c16 c28 c40 c52 c54 c56 c68 c70 c82 c85 c97 c109 c121 c133 c145 c157 c169 c181 c193 c205 c217 c218 c222 hG225.symm) hP hD hS dX11_done_231 (Nat.le_refl _) (Nat.le_refl _)
                                                  · skip
                                                    refine lv_iconst (v := 1) hx hb dX11_done_223 rfl ?_
                                                    refine lv_goto (tgt := 228) hx hb dX11_done_224 rfl ?_
                                                    refine cbSi (n := 1) (rest := []) hx hb hml hown hts hE hP hD hS hA (sY_X11_truth_1 NF l dC dI cy y0 r 1 v f w g hIv hCf hRf ) k_1761 k_1762 k_114 k_1763 he_yX11_truth ⟨Nat.le_of_ble_eq_true rfl, Nat.le_of_ble_eq_true rfl⟩ (rfl) hl.1 rfl (Nat.le_of_ble_eq_true rfl) dX11_done_228 (fun r227 u H locs hw hP hD hS => ?_)
                                                    obtain ⟨hG228, hw⟩ := hw
                                                    exact ret r227 () _ _ _ _ _ _ rfl (gsY_X11_done_1_q60 c1 c4 c16 c28 c40 c52 c54 c56 c68 c70 c82 c85 c97 c109 c121 c133 c145 c157 c169 c181 c193 c205 c217 c218 c222 hG228.symm) hP hD hS dX11_done_231 (Nat.le_refl _) (Nat.le_refl _)
                                              · skip
                                                have zc217 : ¬ (p0.toInt = 59) := zEn rfl tc_59 c217
                                                by_cases c229 : p0 = 60
                                                · skip
                                                  refine lv_tableIn (off := 155) (tgt := 156) hx hb dX11_done_1 (by rw [c229]; decide) (by rw [c229]; decide) (by rw [c229]; decide) (by decide) ?_
                                                  refine lv_iload_n hx hb dX11_done_156 rfl (lv_at hl 1 rfl) ?_
                                                  refine lv_iload_n hx hb dX11_done_157 rfl (lv_at hl 2 rfl) ?_
                                                  refine lv_icmp_ge (tgt := 165) hx hb dX11_done_158 rfl (fun c230 => ?_) (fun c230 => ?_)
                                                  · skip
                                                    refine lv_iconst (v := 0) hx hb dX11_done_165 rfl ?_
                                                    refine cbSi (n := 1) (rest := []) hx hb hml hown hts hE hP hD hS hA (sY_X11_truth_1 NF l dC dI cy y0 r 0 v f w g hIv hCf hRf ) k_1761 k_1762 k_114 k_1763 he_yX11_truth ⟨Nat.le_of_ble_eq_true rfl, Nat.le_of_ble_eq_true rfl⟩ (rfl) hl.1 rfl (Nat.le_of_ble_eq_true rfl) dX11_done_166 (fun r234 u H locs hw hP hD hS => ?_)
                                                    obtain ⟨hG235, hw⟩ := hw
                                                    exact ret r234 () _ _ _ _ _ _ rfl (gsY_X11_done_1_q61 c1 c4 c16 c28 c40 c52 c54 c56 c68 c70 c82 c85 c97 c109 c121 c133 c145 c157 c169 c181 c193 c205 c217 c229 c230 hG235.symm) hP hD hS dX11_done_169 (Nat.le_refl _) (Nat.le_refl _)
                                                  · skip
                                                    refine lv_iconst (v := 1) hx hb dX11_done_161 rfl ?_
                                                    refine lv_goto (tgt := 166) hx hb dX11_done_162 rfl ?_
                                                    refine cbSi (n := 1) (rest := []) hx hb hml hown hts hE hP hD hS hA (sY_X11_truth_1 NF l dC dI cy y0 r 1 v f w g hIv hCf hRf ) k_1761 k_1762 k_114 k_1763 he_yX11_truth ⟨Nat.le_of_ble_eq_true rfl, Nat.le_of_ble_eq_true rfl⟩ (rfl) hl.1 rfl (Nat.le_of_ble_eq_true rfl) dX11_done_166 (fun r239 u H locs hw hP hD hS => ?_)
                                                    obtain ⟨hG240, hw⟩ := hw
                                                    exact ret r239 () _ _ _ _ _ _ rfl (gsY_X11_done_1_q62 c1 c4 c16 c28 c40 c52 c54 c56 c68 c70 c82 c85 c97 c109 c121 c133 c145 c157 c169 c181 c193 c205 c217 c229 c230 hG240.symm) hP hD hS dX11_done_169 (Nat.le_refl _) (Nat.le_refl _)
                                                · skip
                                                  have zc229 : ¬ (p0.toInt = 60) := zEn rfl tc_60 c229
                                                  by_cases c241 : p0 = 61
                                                  · skip
                                                    refine lv_tableIn (off := 183) (tgt := 184) hx hb dX11_done_1 (by rw [c241]; decide) (by rw [c241]; decide) (by rw [c241]; decide) (by decide) ?_
                                                    refine lv_iload_n hx hb dX11_done_184 rfl (lv_at hl 1 rfl) ?_
                                                    refine lv_iload_n hx hb dX11_done_185 rfl (lv_at hl 2 rfl) ?_
                                                    refine lv_icmp_ne (tgt := 193) hx hb dX11_done_186 rfl (fun c242 => ?_) (fun c242 => ?_)
                                                    · skip
                                                      refine lv_iconst (v := 0) hx hb dX11_done_193 rfl ?_
                                                      refine cbSi (n := 1) (rest := []) hx hb hml hown hts hE hP hD hS hA (sY_X11_truth_1 NF l dC dI cy y0 r 0 v f w g hIv hCf hRf ) k_1761 k_1762 k_114 k_1763 he_yX11_truth ⟨Nat.le_of_ble_eq_true rfl, Nat.le_of_ble_eq_true rfl⟩ (rfl) hl.1 rfl (Nat.le_of_ble_eq_true rfl) dX11_done_194 (fun r246 u H locs hw hP hD hS => ?_)
                                                      obtain ⟨hG247, hw⟩ := hw
                                                      exact ret r246 () _ _ _ _ _ _ rfl (gsY_X11_done_1_q63 c1 c4 c16 c28 c40 c52 c54 c56 c68 c70 c82 c85 c97 c109 c121 c133 c145 c157 c169 c181 c193 c205 c217 c229 c241 c242 hG247.symm) hP hD hS dX11_done_197 (Nat.le_refl _) (Nat.le_refl _)
                                                    · skip
                                                      refine lv_iconst (v := 1) hx hb dX11_done_189 rfl ?_
                                                      refine lv_goto (tgt := 194) hx hb dX11_done_190 rfl ?_
                                                      refine cbSi (n := 1) (rest := []) hx hb hml hown hts hE hP hD hS hA (sY_X11_truth_1 NF l dC dI cy y0 r 1 v f w g hIv hCf hRf ) k_1761 k_1762 k_114 k_1763 he_yX11_truth ⟨Nat.le_of_ble_eq_true rfl, Nat.le_of_ble_eq_true rfl⟩ (rfl) hl.1 rfl (Nat.le_of_ble_eq_true rfl) dX11_done_194 (fun r251 u H locs hw hP hD hS => ?_)
                                                      obtain ⟨hG252, hw⟩ := hw
                                                      exact ret r251 () _ _ _ _ _ _ rfl (gsY_X11_done_1_q64 c1 c4 c16 c28 c40 c52 c54 c56 c68 c70 c82 c85 c97 c109 c121 c133 c145 c157 c169 c181 c193 c205 c217 c229 c241 c242 hG252.symm) hP hD hS dX11_done_197 (Nat.le_refl _) (Nat.le_refl _)
                                                  · skip
                                                    have zc241 : ¬ (p0.toInt = 61) := zEn rfl tc_61 c241
                                                    by_cases c253 : p0 = 62
                                                    · skip
                                                      refine lv_tableIn (off := 169) (tgt := 170) hx hb dX11_done_1 (by rw [c253]; decide) (by rw [c253]; decide) (by rw [c253]; decide) (by decide) ?_
                                                      refine lv_iload_n hx hb dX11_done_170 rfl (lv_at hl 1 rfl) ?_
                                                      refine lv_iload_n hx hb dX11_done_171 rfl (lv_at hl 2 rfl) ?_
                                                      refine lv_icmp_le (tgt := 179) hx hb dX11_done_172 rfl (fun c254 => ?_) (fun c254 => ?_)
                                                      · skip
                                                        refine lv_iconst (v := 0) hx hb dX11_done_179 rfl ?_
                                                        refine cbSi (n := 1) (rest := []) hx hb hml hown hts hE hP hD hS hA (sY_X11_truth_1 NF l dC dI cy y0 r 0 v f w g hIv hCf hRf ) k_1761 k_1762 k_114 k_1763 he_yX11_truth ⟨Nat.le_of_ble_eq_true rfl, Nat.le_of_ble_eq_true rfl⟩ (rfl) hl.1 rfl (Nat.le_of_ble_eq_true rfl) dX11_done_180 (fun r258 u H locs hw hP hD hS => ?_)
                                                        obtain ⟨hG259, hw⟩ := hw
                                                        exact ret r258 () _ _ _ _ _ _ rfl (gsY_X11_done_1_q65 c1 c4 c16 c28 c40 c52 c54 c56 c68 c70 c82 c85 c97 c109 c121 c133 c145 c157 c169 c181 c193 c205 c217 c229 c241 c253 c254 hG259.symm) hP hD hS dX11_done_183 (Nat.le_refl _) (Nat.le_refl _)
                                                      · skip
                                                        refine lv_iconst (v := 1) hx hb dX11_done_175 rfl ?_
                                                        refine lv_goto (tgt := 180) hx hb dX11_done_176 rfl ?_
                                                        refine cbSi (n := 1) (rest := []) hx hb hml hown hts hE hP hD hS hA (sY_X11_truth_1 NF l dC dI cy y0 r 1 v f w g hIv hCf hRf ) k_1761 k_1762 k_114 k_1763 he_yX11_truth ⟨Nat.le_of_ble_eq_true rfl, Nat.le_of_ble_eq_true rfl⟩ (rfl) hl.1 rfl (Nat.le_of_ble_eq_true rfl) dX11_done_180 (fun r263 u H locs hw hP hD hS => ?_)
                                                        obtain ⟨hG264, hw⟩ := hw
                                                        exact ret r263 () _ _ _ _ _ _ rfl (gsY_X11_done_1_q66 c1 c4 c16 c28 c40 c52 c54 c56 c68 c70 c82 c85 c97 c109 c121 c133 c145 c157 c169 c181 c193 c205 c217 c229 c241 c253 c254 hG264.symm) hP hD hS dX11_done_183 (Nat.le_refl _) (Nat.le_refl _)
                                                    · skip
                                                      have zc253 : ¬ (p0.toInt = 62) := zEn rfl tc_62 c253
                                                      refine lv_tableOut (tgt := 215) hx hb dX11_done_1 (by omega) (by decide) ?_
                                                      refine lv_iload_n hx hb dX11_done_215 rfl (lv_at hl 1 rfl) ?_
                                                      refine lv_if_ne (tgt := 223) hx hb dX11_done_216 rfl (fun c265 => ?_) (fun c265 => ?_)
                                                      · skip
                                                        refine lv_iconst (v := 1) hx hb dX11_done_223 rfl ?_
                                                        refine lv_goto (tgt := 228) hx hb dX11_done_224 rfl ?_
                                                        refine cbSi (n := 1) (rest := []) hx hb hml hown hts hE hP hD hS hA (sY_X11_truth_1 NF l dC dI cy y0 r 1 v f w g hIv hCf hRf ) k_1761 k_1762 k_114 k_1763 he_yX11_truth ⟨Nat.le_of_ble_eq_true rfl, Nat.le_of_ble_eq_true rfl⟩ (rfl) hl.1 rfl (Nat.le_of_ble_eq_true rfl) dX11_done_228 (fun r267 u H locs hw hP hD hS => ?_)
                                                        obtain ⟨hG268, hw⟩ := hw
                                                        exact ret r267 () _ _ _ _ _ _ rfl (gsY_X11_done_1_q67 c1 c4 c16 c28 c40 c52 c54 c56 c68 c70 c82 c85 c97 c109 c121 c133 c145 c157 c169 c181 c193 c205 c217 c229 c241 c253 c265 hG268.symm) hP hD hS dX11_done_231 (Nat.le_refl _) (Nat.le_refl _)
                                                      · skip
                                                        refine lv_iload_n hx hb dX11_done_219 rfl (lv_at hl 2 rfl) ?_
                                                        refine lv_if_eq (tgt := 227) hx hb dX11_done_220 rfl (fun c269 => ?_) (fun c269 => ?_)
                                                        · skip
                                                          refine lv_iconst (v := 0) hx hb dX11_done_227 rfl ?_
                                                          refine cbSi (n := 1) (rest := []) hx hb hml hown hts hE hP hD hS hA (sY_X11_truth_1 NF l dC dI cy y0 r 0 v f w g hIv hCf hRf ) k_1761 k_1762 k_114 k_1763 he_yX11_truth ⟨Nat.le_of_ble_eq_true rfl, Nat.le_of_ble_eq_true rfl⟩ (rfl) hl.1 rfl (Nat.le_of_ble_eq_true rfl) dX11_done_228 (fun r271 u H locs hw hP hD hS => ?_)
                                                          obtain ⟨hG272, hw⟩ := hw
                                                          exact ret r271 () _ _ _ _ _ _ rfl (gsY_X11_done_1_q68 c1 c4 c16 c28 c40 c52 c54 c56 c68 c70 c82 c85 c97 c109 c121 c133 c145 c157 c169 c181 c193 c205 c217 c229 c241 c253 c265 c269 hG272.symm) hP hD hS dX11_done_231 (Nat.le_refl _) (Nat.le_refl _)
                                                        · skip
                                                          refine lv_iconst (v := 1) hx hb dX11_done_223 rfl ?_
                                                          refine lv_goto (tgt := 228) hx hb dX11_done_224 rfl ?_
                                                          refine cbSi (n := 1) (rest := []) hx hb hml hown hts hE hP hD hS hA (sY_X11_truth_1 NF l dC dI cy y0 r 1 v f w g hIv hCf hRf ) k_1761 k_1762 k_114 k_1763 he_yX11_truth ⟨Nat.le_of_ble_eq_true rfl, Nat.le_of_ble_eq_true rfl⟩ (rfl) hl.1 rfl (Nat.le_of_ble_eq_true rfl) dX11_done_228 (fun r274 u H locs hw hP hD hS => ?_)
                                                          obtain ⟨hG275, hw⟩ := hw
                                                          exact ret r274 () _ _ _ _ _ _ rfl (gsY_X11_done_1_q69 c1 c4 c16 c28 c40 c52 c54 c56 c68 c70 c82 c85 c97 c109 c121 c133 c145 c157 c169 c181 c193 c205 c217 c229 c241 c253 c265 c269 hG275.symm) hP hD hS dX11_done_231 (Nat.le_refl _) (Nat.le_refl _)
set_option maxHeartbeats 4000000 in
set_option maxRecDepth 100000 in
theorem sY_X11_misfitOf_1 (NF : Nat) (l : Launch) (dC : Nat → ClassId) (dI : Nat → Nat → Nat) (cy : Nat → ClassId) (y0 : Nat) (r : Nat → Nat) (p1 : Int32) (p2 : Int32) (v : Nat → Int32) (f : Nat → Nat → Int32) (w : Int64) (g : Nat → Int64) (hIv : YI v) (hCf : YC f) (hRf : progOK (f 4) (f 5) (v 9).toInt.toNat) (hp1 : (0 : Int) ≤ p1.toInt ∧ p1.toInt ≤ 5) (hp2 : (0 : Int) ≤ p2.toInt ∧ p2.toInt ≤ 5) : ctI l (dC, dI) cy yX11_misfitOf cX11_misfitOf 5 .int 3 102 0 0 ((Nat → Int32) × (Nat → Nat → Int32) × (Int64) × (Nat → Int64)) [.ref y0, .int p1, .int p2] (YW cy y0 r v f w g) (fun r u => gsY_X11_misfitOf_1 NF p1 p2 v f w g = (r, u) ∧ KV [] u.1 v ∧ KF [7, 8] u.2.1 f ∧ YI u.1 ∧ YC u.2.1 ∧ progOK (u.2.1 4) (u.2.1 5) (u.1 9).toInt.toNat ∧ u.1 0 = v 0 ∧ u.1 1 = v 1 ∧ u.1 2 = v 2 ∧ u.1 3 = v 3 ∧ u.1 4 = v 4 ∧ u.1 5 = v 5 ∧ u.1 8 = v 8 ∧ u.1 9 = v 9 ∧ u.1 10 = v 10 ∧ u.1 13 = v 13 ∧ u.1 14 = v 14 ∧ u.1 15 = v 15 ∧ u.1 17 = v 17 ∧ u.1 18 = v 18 ∧ u.1 24 = v 24 ∧ u.1 25 = v 25 ∧ u.1 35 = v 35 ∧ u.1 36 = v 36 ∧ u.1 38 = v 38 ∧ u.1 39 = v 39) (fun u => YW cy y0 r u.1 u.2.1 u.2.2.1 u.2.2.2) := by
  refine ctI_of (by decide) (Nat.le_of_ble_eq_true rfl) (fun p e s m below meth c A ls Q hx hb hml hts hown hE hP hD hA hl ret => ?_)
  have hUv : (v 35).toInt + (v 36).toInt ≤ 40 := hIv.2
  have hs4_f : f 4 = f 4 := rfl
  have hs5_f : f 5 = f 5 := rfl
  have hM_v : KV [] v v := fun _ _ => rfl
  have hA_f : KF [7, 8] f f := fun _ _ => rfl
  have hown : s.vm.findClass RX11 = some m.cls := hown
  have hS : va_S A s.heap s.heap [] := va_S.rf
  have hl : lv_has ls 5 [(0, .ref y0), (1, .int p1), (2, .int p2)] := hl
  refine lv_aload_n hx hb dX11_misfitOf_0 rfl (lv_at hl 0 rfl) ?_
  refine va_get (D := (dC, dI)) (ci := 11) (v := .ref (r 26)) (C := RX11) (T := TX11) (N := 79) hx hb hts inB_11 hown hE.1 hP 0 rfl rfl 26 (Nat.le_of_ble_eq_true rfl) (hts _ k_1346) (fun _ h9 => h9) rfl dX11_misfitOf_1 ?_
  refine lv_iconst (v := 0) hx hb dX11_misfitOf_4 rfl ?_
  refine lv_aload_n hx hb dX11_misfitOf_5 rfl (lv_at hl 0 rfl) ?_
  refine va_get (D := (dC, dI)) (ci := 11) (v := .ref (r 60)) (C := RX11) (T := TX11) (N := 79) hx hb hts inB_11 hown hE.1 hP 0 rfl rfl 60 (Nat.le_of_ble_eq_true rfl) (hts _ k_1380) (fun _ h9 => h9) rfl dX11_misfitOf_6 ?_
  refine lv_iload_n hx hb dX11_misfitOf_9 rfl (lv_at hl 1 rfl) ?_
  refine ldI hx hb hE hP 25 rfl (vpI (k := 39) rfl (show 0 ≤ p1.toInt from om_214 hp1) (show p1.toInt < 39 from om_527 hp1)) rfl rfl dX11_misfitOf_10 ?_
  refine lv_topi (fun t1 et1 => ?_)
  have zt1 : p1.toInt.toNat % 39 < 6 ∨ 12 ≤ p1.toInt.toNat % 39 ∨ (-1 ≤ t1.toInt ∧ t1.toInt ≤ 5) := by rw [et1]; exact wear_ld hCf.2.1 (show p1.toInt.toNat < 39 from om_528 hp1)
  refine lv_aload_n hx hb dX11_misfitOf_11 rfl (lv_at hl 0 rfl) ?_
  refine va_get (D := (dC, dI)) (ci := 11) (v := .ref (r 60)) (C := RX11) (T := TX11) (N := 79) hx hb hts inB_11 hown hE.1 hP 0 rfl rfl 60 (Nat.le_of_ble_eq_true rfl) (hts _ k_1380) (fun _ h9 => h9) rfl dX11_misfitOf_12 ?_
  refine lv_bipush (v := 18) hx hb dX11_misfitOf_15 rfl ?_
  refine lv_iload_n hx hb dX11_misfitOf_17 rfl (lv_at hl 2 rfl) ?_
  refine lv_iadd hx hb dX11_misfitOf_18 ?_
  refine lv_topi (fun t2 et2 => ?_)
  have rg3 := fb_rng p2
  have zt2 : t2.toInt = 18 + p2.toInt := (congrArg Int32.toInt et2).trans (add_i tc_18 rfl (om_529 hp2) (om_530 hp2))
  refine ldI hx hb hE hP 25 rfl (vpI (k := 39) rfl (show 0 ≤ t2.toInt from om_531 hp2 zt2) (show t2.toInt < 39 from om_532 hp2 zt2)) rfl rfl dX11_misfitOf_19 ?_
  refine lv_topi (fun t4 et4 => ?_)
  have zt4 : t2.toInt.toNat % 39 < 6 ∨ 12 ≤ t2.toInt.toNat % 39 ∨ (-1 ≤ t4.toInt ∧ t4.toInt ≤ 5) := by rw [et4]; exact wear_ld hCf.2.1 (show t2.toInt.toNat < 39 from om_533 hp2 zt2)
  refine cbSi (n := 2) (rest := [.int 0, .ref (r 26)]) hx hb hml hown hts hE hP hD hS hA (sY_X11_over_1 NF l dC dI cy y0 r t1 t4 v f w g hIv hCf hRf ) k_1755 k_1756 k_114 k_1757 he_yX11_over ⟨Nat.le_of_ble_eq_true rfl, Nat.le_of_ble_eq_true rfl⟩ (rfl) hl.1 rfl (Nat.le_of_ble_eq_true rfl) dX11_misfitOf_20 (fun r5 u H locs hw hP hD hS => ?_)
  have hG6 := hw
  refine stI hx hb hE hP hD hS 9 rfl (vp_in_nI (n := 0) (by decide) (by decide)) rfl dX11_misfitOf_23 (fun H locs hP hD hS => ?_)
  obtain ⟨f7, ef7, hP, hD⟩ : ∃ fz9, fz9 = upd2 f 8 (upd (f 8) (0 : Int32).toNatClampNeg r5) ∧ va_P (dC, dI) vwCl (YW cy y0 r v fz9 w g) H ∧ va_D A (YW cy y0 r v fz9 w g) := ⟨_, rfl, hP, hD⟩
  have hCf7 : YC f7 := by rw [ef7]; exact hCf
  have hs4_f7 : f7 4 = f 4 := by rw [ef7]; exact hs4_f
  have hs5_f7 : f7 5 = f 5 := by rw [ef7]; exact hs5_f
  have hRf7 : progOK (f7 4) (f7 5) (v 9).toInt.toNat := by rw [ef7]; exact hRf
  have hA_f7 : KF [7, 8] f7 f := by rw [ef7]; exact KF.up hA_f rfl
  refine lv_aload_n hx hb dX11_misfitOf_24 rfl (lv_at hl 0 rfl) ?_
  refine va_get (D := (dC, dI)) (ci := 11) (v := .ref (r 26)) (C := RX11) (T := TX11) (N := 79) hx hb hts inB_11 hown hE.1 hP 0 rfl rfl 26 (Nat.le_of_ble_eq_true rfl) (hts _ k_1346) (fun _ h9 => h9) rfl dX11_misfitOf_25 ?_
  refine lv_iconst (v := 1) hx hb dX11_misfitOf_28 rfl ?_
  refine lv_aload_n hx hb dX11_misfitOf_29 rfl (lv_at hl 0 rfl) ?_
  refine va_get (D := (dC, dI)) (ci := 11) (v := .ref (r 60)) (C := RX11) (T := TX11) (N := 79) hx hb hts inB_11 hown hE.1 hP 0 rfl rfl 60 (Nat.le_of_ble_eq_true rfl) (hts _ k_1380) (fun _ h9 => h9) rfl dX11_misfitOf_30 ?_
  refine lv_bipush (v := 18) hx hb dX11_misfitOf_33 rfl ?_
  refine lv_iload_n hx hb dX11_misfitOf_35 rfl (lv_at hl 2 rfl) ?_
  refine lv_iadd hx hb dX11_misfitOf_36 ?_
  refine tI (y := t2) et2.symm ?_
  refine ldI hx hb hE hP 25 rfl (vpI (k := 39) rfl (show 0 ≤ t2.toInt from om_531 hp2 zt2) (show t2.toInt < 39 from om_532 hp2 zt2)) rfl rfl dX11_misfitOf_37 ?_
  refine lv_topi (fun t8 et8 => ?_)
  have zt8 : t2.toInt.toNat % 39 < 6 ∨ 12 ≤ t2.toInt.toNat % 39 ∨ (-1 ≤ t8.toInt ∧ t8.toInt ≤ 5) := by rw [et8]; exact wear_ld hCf7.2.1 (show t2.toInt.toNat < 39 from om_533 hp2 zt2)
  refine lv_aload_n hx hb dX11_misfitOf_38 rfl (lv_at hl 0 rfl) ?_
  refine va_get (D := (dC, dI)) (ci := 11) (v := .ref (r 60)) (C := RX11) (T := TX11) (N := 79) hx hb hts inB_11 hown hE.1 hP 0 rfl rfl 60 (Nat.le_of_ble_eq_true rfl) (hts _ k_1380) (fun _ h9 => h9) rfl dX11_misfitOf_39 ?_
  refine lv_iload_n hx hb dX11_misfitOf_42 rfl (lv_at hl 1 rfl) ?_
  refine ldI hx hb hE hP 25 rfl (vpI (k := 39) rfl (show 0 ≤ p1.toInt from om_214 hp1) (show p1.toInt < 39 from om_527 hp1)) rfl rfl dX11_misfitOf_43 ?_
  refine lv_topi (fun t9 et9 => ?_)
  have zt9 : p1.toInt.toNat % 39 < 6 ∨ 12 ≤ p1.toInt.toNat % 39 ∨ (-1 ≤ t9.toInt ∧ t9.toInt ≤ 5) := by rw [et9]; exact wear_ld hCf7.2.1 (show p1.toInt.toNat < 39 from om_528 hp1)
  refine cbSi (n := 2) (rest := [.int 1, .ref (r 26)]) hx hb hml hown hts hE hP hD hS hA (sY_X11_over_1 NF l dC dI cy y0 r t8 t9 v f7 w g hIv hCf7 hRf7 ) k_1755 k_1756 k_114 k_1757 he_yX11_over ⟨Nat.le_of_ble_eq_true rfl, Nat.le_of_ble_eq_true rfl⟩ (rfl) hl.1 rfl (Nat.le_of_ble_eq_true rfl) dX11_misfitOf_44 (fun r10 u H locs hw hP hD hS => ?_)
  have hG11 := hw
  refine stI hx hb hE hP hD hS 9 rfl (vp_in_nI (n := 1) (by decide) (by decide)) rfl dX11_misfitOf_47 (fun H locs hP hD hS => ?_)
  obtain ⟨f12, ef12, hP, hD⟩ : ∃ fz9, fz9 = upd2 f7 8 (upd (f7 8) (1 : Int32).toNatClampNeg r10) ∧ va_P (dC, dI) vwCl (YW cy y0 r v fz9 w g) H ∧ va_D A (YW cy y0 r v fz9 w g) := ⟨_, rfl, hP, hD⟩
  have hCf12 : YC f12 := by rw [ef12]; exact hCf7
  have hs4_f12 : f12 4 = f 4 := by rw [ef12]; exact hs4_f7
  have hs5_f12 : f12 5 = f 5 := by rw [ef12]; exact hs5_f7
  have hRf12 : progOK (f12 4) (f12 5) (v 9).toInt.toNat := by rw [ef12]; exact hRf7
  have hA_f12 : KF [7, 8] f12 f := by rw [ef12]; exact KF.up hA_f7 rfl
  refine lv_aload_n hx hb dX11_misfitOf_48 rfl (lv_at hl 0 rfl) ?_
  refine va_get (D := (dC, dI)) (ci := 11) (v := .ref (r 26)) (C := RX11) (T := TX11) (N := 79) hx hb hts inB_11 hown hE.1 hP 0 rfl rfl 26 (Nat.le_of_ble_eq_true rfl) (hts _ k_1346) (fun _ h9 => h9) rfl dX11_misfitOf_49 ?_
  refine lv_iconst (v := 2) hx hb dX11_misfitOf_52 rfl ?_
  refine lv_aload_n hx hb dX11_misfitOf_53 rfl (lv_at hl 0 rfl) ?_
  refine va_get (D := (dC, dI)) (ci := 11) (v := .ref (r 34)) (C := RX11) (T := TX11) (N := 79) hx hb hts inB_11 hown hE.1 hP 0 rfl rfl 34 (Nat.le_of_ble_eq_true rfl) (hts _ k_1354) (fun _ h9 => h9) rfl dX11_misfitOf_54 ?_
  refine lv_iload_n hx hb dX11_misfitOf_57 rfl (lv_at hl 1 rfl) ?_
  refine ldI hx hb hE hP 17 rfl (vpI (k := 6) rfl (show 0 ≤ p1.toInt from om_214 hp1) (show p1.toInt < 6 from om_534 hp1)) rfl rfl dX11_misfitOf_58 ?_
  refine lv_topi (fun t13 et13 => ?_)
  refine lv_aload_n hx hb dX11_misfitOf_59 rfl (lv_at hl 0 rfl) ?_
  refine va_get (D := (dC, dI)) (ci := 11) (v := .ref (r 60)) (C := RX11) (T := TX11) (N := 79) hx hb hts inB_11 hown hE.1 hP 0 rfl rfl 60 (Nat.le_of_ble_eq_true rfl) (hts _ k_1380) (fun _ h9 => h9) rfl dX11_misfitOf_60 ?_
  refine lv_bipush (v := 12) hx hb dX11_misfitOf_63 rfl ?_
  refine lv_iload_n hx hb dX11_misfitOf_65 rfl (lv_at hl 2 rfl) ?_
  refine lv_iadd hx hb dX11_misfitOf_66 ?_
  refine lv_topi (fun t14 et14 => ?_)
  have zt14 : t14.toInt = 12 + p2.toInt := (congrArg Int32.toInt et14).trans (add_i tc_12 rfl (om_535 hp2) (om_536 hp2))
  refine ldI hx hb hE hP 25 rfl (vpI (k := 39) rfl (show 0 ≤ t14.toInt from om_537 hp2 zt14) (show t14.toInt < 39 from om_538 hp2 zt14)) rfl rfl dX11_misfitOf_67 ?_
  refine lv_topi (fun t15 et15 => ?_)
  have zt15 : t14.toInt.toNat % 39 < 6 ∨ 12 ≤ t14.toInt.toNat % 39 ∨ (-1 ≤ t15.toInt ∧ t15.toInt ≤ 5) := by rw [et15]; exact wear_ld hCf12.2.1 (show t14.toInt.toNat < 39 from om_539 hp2 zt14)
  refine cbSi (n := 2) (rest := [.int 2, .ref (r 26)]) hx hb hml hown hts hE hP hD hS hA (sY_X11_over_1 NF l dC dI cy y0 r t13 t15 v f12 w g hIv hCf12 hRf12 ) k_1755 k_1756 k_114 k_1757 he_yX11_over ⟨Nat.le_of_ble_eq_true rfl, Nat.le_of_ble_eq_true rfl⟩ (rfl) hl.1 rfl (Nat.le_of_ble_eq_true rfl) dX11_misfitOf_68 (fun r16 u H locs hw hP hD hS => ?_)
  have hG17 := hw
  refine stI hx hb hE hP hD hS 9 rfl (vp_in_nI (n := 2) (by decide) (by decide)) rfl dX11_misfitOf_71 (fun H locs hP hD hS => ?_)
  obtain ⟨f18, ef18, hP, hD⟩ : ∃ fz9, fz9 = upd2 f12 8 (upd (f12 8) (2 : Int32).toNatClampNeg r16) ∧ va_P (dC, dI) vwCl (YW cy y0 r v fz9 w g) H ∧ va_D A (YW cy y0 r v fz9 w g) := ⟨_, rfl, hP, hD⟩
  have hCf18 : YC f18 := by rw [ef18]; exact hCf12
  have hs4_f18 : f18 4 = f 4 := by rw [ef18]; exact hs4_f12
  have hs5_f18 : f18 5 = f 5 := by rw [ef18]; exact hs5_f12
  have hRf18 : progOK (f18 4) (f18 5) (v 9).toInt.toNat := by rw [ef18]; exact hRf12
  have hA_f18 : KF [7, 8] f18 f := by rw [ef18]; exact KF.up hA_f12 rfl
  refine lv_aload_n hx hb dX11_misfitOf_72 rfl (lv_at hl 0 rfl) ?_
  refine va_get (D := (dC, dI)) (ci := 11) (v := .ref (r 26)) (C := RX11) (T := TX11) (N := 79) hx hb hts inB_11 hown hE.1 hP 0 rfl rfl 26 (Nat.le_of_ble_eq_true rfl) (hts _ k_1346) (fun _ h9 => h9) rfl dX11_misfitOf_73 ?_
  refine lv_iconst (v := 3) hx hb dX11_misfitOf_76 rfl ?_
  refine lv_aload_n hx hb dX11_misfitOf_77 rfl (lv_at hl 0 rfl) ?_
  refine va_get (D := (dC, dI)) (ci := 11) (v := .ref (r 60)) (C := RX11) (T := TX11) (N := 79) hx hb hts inB_11 hown hE.1 hP 0 rfl rfl 60 (Nat.le_of_ble_eq_true rfl) (hts _ k_1380) (fun _ h9 => h9) rfl dX11_misfitOf_78 ?_
  refine lv_bipush (v := 12) hx hb dX11_misfitOf_81 rfl ?_
  refine lv_iload_n hx hb dX11_misfitOf_83 rfl (lv_at hl 2 rfl) ?_
  refine lv_iadd hx hb dX11_misfitOf_84 ?_
  refine tI (y := t14) et14.symm ?_
  refine ldI hx hb hE hP 25 rfl (vpI (k := 39) rfl (show 0 ≤ t14.toInt from om_537 hp2 zt14) (show t14.toInt < 39 from om_538 hp2 zt14)) rfl rfl dX11_misfitOf_85 ?_
  refine lv_topi (fun t19 et19 => ?_)
  have zt19 : t14.toInt.toNat % 39 < 6 ∨ 12 ≤ t14.toInt.toNat % 39 ∨ (-1 ≤ t19.toInt ∧ t19.toInt ≤ 5) := by rw [et19]; exact wear_ld hCf18.2.1 (show t14.toInt.toNat < 39 from om_539 hp2 zt14)
  refine lv_aload_n hx hb dX11_misfitOf_86 rfl (lv_at hl 0 rfl) ?_
  refine va_get (D := (dC, dI)) (ci := 11) (v := .ref (r 34)) (C := RX11) (T := TX11) (N := 79) hx hb hts inB_11 hown hE.1 hP 0 rfl rfl 34 (Nat.le_of_ble_eq_true rfl) (hts _ k_1354) (fun _ h9 => h9) rfl dX11_misfitOf_87 ?_
  refine lv_iload_n hx hb dX11_misfitOf_90 rfl (lv_at hl 1 rfl) ?_
  refine ldI hx hb hE hP 17 rfl (vpI (k := 6) rfl (show 0 ≤ p1.toInt from om_214 hp1) (show p1.toInt < 6 from om_534 hp1)) rfl rfl dX11_misfitOf_91 ?_
  refine lv_topi (fun t20 et20 => ?_)
  refine cbSi (n := 2) (rest := [.int 3, .ref (r 26)]) hx hb hml hown hts hE hP hD hS hA (sY_X11_over_1 NF l dC dI cy y0 r t19 t20 v f18 w g hIv hCf18 hRf18 ) k_1755 k_1756 k_114 k_1757 he_yX11_over ⟨Nat.le_of_ble_eq_true rfl, Nat.le_of_ble_eq_true rfl⟩ (rfl) hl.1 rfl (Nat.le_of_ble_eq_true rfl) dX11_misfitOf_92 (fun r21 u H locs hw hP hD hS => ?_)
  have hG22 := hw
  refine stI hx hb hE hP hD hS 9 rfl (vp_in_nI (n := 3) (by decide) (by decide)) rfl dX11_misfitOf_95 (fun H locs hP hD hS => ?_)
  obtain ⟨f23, ef23, hP, hD⟩ : ∃ fz9, fz9 = upd2 f18 8 (upd (f18 8) (3 : Int32).toNatClampNeg r21) ∧ va_P (dC, dI) vwCl (YW cy y0 r v fz9 w g) H ∧ va_D A (YW cy y0 r v fz9 w g) := ⟨_, rfl, hP, hD⟩
  have hCf23 : YC f23 := by rw [ef23]; exact hCf18
  have hs4_f23 : f23 4 = f 4 := by rw [ef23]; exact hs4_f18
  have hs5_f23 : f23 5 = f 5 := by rw [ef23]; exact hs5_f18
  have hRf23 : progOK (f23 4) (f23 5) (v 9).toInt.toNat := by rw [ef23]; exact hRf18
  have hA_f23 : KF [7, 8] f23 f := by rw [ef23]; exact KF.up hA_f18 rfl
  refine lv_aload_n hx hb dX11_misfitOf_96 rfl (lv_at hl 0 rfl) ?_
  refine va_get (D := (dC, dI)) (ci := 11) (v := .ref (r 26)) (C := RX11) (T := TX11) (N := 79) hx hb hts inB_11 hown hE.1 hP 0 rfl rfl 26 (Nat.le_of_ble_eq_true rfl) (hts _ k_1346) (fun _ h9 => h9) rfl dX11_misfitOf_97 ?_
  refine lv_iconst (v := 4) hx hb dX11_misfitOf_100 rfl ?_
  refine lv_aload_n hx hb dX11_misfitOf_101 rfl (lv_at hl 0 rfl) ?_
  refine va_get (D := (dC, dI)) (ci := 11) (v := .ref (r 60)) (C := RX11) (T := TX11) (N := 79) hx hb hts inB_11 hown hE.1 hP 0 rfl rfl 60 (Nat.le_of_ble_eq_true rfl) (hts _ k_1380) (fun _ h9 => h9) rfl dX11_misfitOf_102 ?_
  refine lv_bipush (v := 30) hx hb dX11_misfitOf_105 rfl ?_
  refine lv_iload_n hx hb dX11_misfitOf_107 rfl (lv_at hl 2 rfl) ?_
  refine lv_iadd hx hb dX11_misfitOf_108 ?_
  refine lv_topi (fun t24 et24 => ?_)
  have zt24 : t24.toInt = 30 + p2.toInt := (congrArg Int32.toInt et24).trans (add_i tc_30 rfl (om_540 hp2) (om_541 hp2))
  refine ldI hx hb hE hP 25 rfl (vpI (k := 39) rfl (show 0 ≤ t24.toInt from om_542 hp2 zt24) (show t24.toInt < 39 from om_543 hp2 zt24)) rfl rfl dX11_misfitOf_109 ?_
  refine lv_topi (fun t25 et25 => ?_)
  have zt25 : t24.toInt.toNat % 39 < 6 ∨ 12 ≤ t24.toInt.toNat % 39 ∨ (-1 ≤ t25.toInt ∧ t25.toInt ≤ 5) := by rw [et25]; exact wear_ld hCf23.2.1 (show t24.toInt.toNat < 39 from om_544 hp2 zt24)
  refine stI hx hb hE hP hD hS 9 rfl (vp_in_nI (n := 4) (by decide) (by decide)) rfl dX11_misfitOf_110 (fun H locs hP hD hS => ?_)
  obtain ⟨f26, ef26, hP, hD⟩ : ∃ fz9, fz9 = upd2 f23 8 (upd (f23 8) (4 : Int32).toNatClampNeg t25) ∧ va_P (dC, dI) vwCl (YW cy y0 r v fz9 w g) H ∧ va_D A (YW cy y0 r v fz9 w g) := ⟨_, rfl, hP, hD⟩
  have hCf26 : YC f26 := by rw [ef26]; exact hCf23
  have hs4_f26 : f26 4 = f 4 := by rw [ef26]; exact hs4_f23
  have hs5_f26 : f26 5 = f 5 := by rw [ef26]; exact hs5_f23
  have hRf26 : progOK (f26 4) (f26 5) (v 9).toInt.toNat := by rw [ef26]; exact hRf23
  have hA_f26 : KF [7, 8] f26 f := by rw [ef26]; exact KF.up hA_f23 rfl
  refine lv_aload_n hx hb dX11_misfitOf_111 rfl (lv_at hl 0 rfl) ?_
  refine va_get (D := (dC, dI)) (ci := 11) (v := .ref (r 26)) (C := RX11) (T := TX11) (N := 79) hx hb hts inB_11 hown hE.1 hP 0 rfl rfl 26 (Nat.le_of_ble_eq_true rfl) (hts _ k_1346) (fun _ h9 => h9) rfl dX11_misfitOf_112 ?_
  refine lv_iconst (v := 5) hx hb dX11_misfitOf_115 rfl ?_
  refine lv_aload_n hx hb dX11_misfitOf_116 rfl (lv_at hl 0 rfl) ?_
  refine va_get (D := (dC, dI)) (ci := 11) (v := .ref (r 60)) (C := RX11) (T := TX11) (N := 79) hx hb hts inB_11 hown hE.1 hP 0 rfl rfl 60 (Nat.le_of_ble_eq_true rfl) (hts _ k_1380) (fun _ h9 => h9) rfl dX11_misfitOf_117 ?_
  refine lv_bipush (v := 37) hx hb dX11_misfitOf_120 rfl ?_
  refine ldI hx hb hE hP 25 rfl (vp_in_nI (n := 37) (by decide) (by decide)) rfl rfl dX11_misfitOf_122 ?_
  refine lv_topi (fun t27 et27 => ?_)
  have zt27 : 37 % 39 < 6 ∨ 12 ≤ 37 % 39 ∨ (-1 ≤ t27.toInt ∧ t27.toInt ≤ 5) := by rw [et27]; exact wear_ld hCf26.2.1 (show 37 < 39 from om_545)
  refine stI hx hb hE hP hD hS 9 rfl (vp_in_nI (n := 5) (by decide) (by decide)) rfl dX11_misfitOf_123 (fun H locs hP hD hS => ?_)
  obtain ⟨f28, ef28, hP, hD⟩ : ∃ fz9, fz9 = upd2 f26 8 (upd (f26 8) (5 : Int32).toNatClampNeg t27) ∧ va_P (dC, dI) vwCl (YW cy y0 r v fz9 w g) H ∧ va_D A (YW cy y0 r v fz9 w g) := ⟨_, rfl, hP, hD⟩
  have hCf28 : YC f28 := by rw [ef28]; exact hCf26
  have hs4_f28 : f28 4 = f 4 := by rw [ef28]; exact hs4_f26
  have hs5_f28 : f28 5 = f 5 := by rw [ef28]; exact hs5_f26
  have hRf28 : progOK (f28 4) (f28 5) (v 9).toInt.toNat := by rw [ef28]; exact hRf26
  have hA_f28 : KF [7, 8] f28 f := by rw [ef28]; exact KF.up hA_f26 rfl
  refine lv_aload_n hx hb dX11_misfitOf_124 rfl (lv_at hl 0 rfl) ?_
  refine va_get (D := (dC, dI)) (ci := 11) (v := .int (v 16)) (C := RX11) (T := TX11) (N := 79) hx hb hts inB_11 hown hE.1 hP 0 rfl rfl 25 (Nat.le_of_ble_eq_true rfl) (hts _ k_1345) (fun _ h9 => h9) rfl dX11_misfitOf_125 ?_
  refine lv_if_ne (tgt := 176) hx hb dX11_misfitOf_128 rfl (fun c29 => ?_) (fun c29 => ?_)
  · skip
    have zc29 : ¬ ((v 16).toInt = 0) := zEn rfl tc_0 c29
    refine lv_iconst (v := 0) hx hb dX11_misfitOf_176 rfl ?_
    refine lv_istore_n (lv' := [(3, .int 0), (0, .ref y0), (1, .int p1), (2, .int p2)]) hx hb dX11_misfitOf_177 rfl hl (Nat.le_of_ble_eq_true rfl) rfl (fun ls hl => ?_)
    refine lv_iconst (v := 0) hx hb dX11_misfitOf_178 rfl ?_
    refine lv_istore (lv' := [(4, .int 0), (3, .int 0), (0, .ref y0), (1, .int p1), (2, .int p2)]) hx hb dX11_misfitOf_179 hl (Nat.le_of_ble_eq_true rfl) rfl (fun ls hl => ?_)
    have lp30 : ∀ (n30 : Nat) (l3_30 : Int32) (l4_30 : Int32) (v30 : Nat → Int32) (f30 : Nat → Nat → Int32) (w30 : Int64) (g30 : Nat → Int64), YI v30 → YC f30 → progOK (f30 4) (f30 5) (v30 9).toInt.toNat → v30 0 = (v 0) → v30 1 = (v 1) → v30 2 = (v 2) → v30 3 = (v 3) → v30 4 = (v 4) → v30 5 = (v 5) → v30 8 = (v 8) → v30 9 = (v 9) → v30 10 = (v 10) → v30 13 = (v 13) → v30 14 = (v 14) → v30 15 = (v 15) → v30 17 = (v 17) → v30 18 = (v 18) → v30 24 = (v 24) → v30 25 = (v 25) → v30 35 = (v 35) → v30 36 = (v 36) → v30 38 = (v 38) → v30 39 = (v 39) → gsY_X11_misfitOf_1_L30 NF v n30 l3_30 l4_30 v30 f30 w30 g30 = (gsY_X11_misfitOf_1 NF p1 p2 v f w g) → ((0 : Int) ≤ l3_30.toInt ∧ l3_30.toInt ≤ 64) → ((0 : Int) ≤ l4_30.toInt ∧ l4_30.toInt ≤ 2147483647) → (l3_30.toInt = dpF (f 4) (l4_30.toInt).toNat) → f30 4 = f 4 → f30 5 = f 5 → KV [] v30 v → KF [7, 8] f30 f → (2147483647 - l4_30.toInt).toNat < n30 → ∀ (H : Heap) (locs : List Loc) (ls : Array Slot), va_P (dC, dI) vwCl (YW cy y0 r v30 f30 w30 g30) H → va_D A (YW cy y0 r v30 f30 w30 g30) → va_S A s.heap H locs → lv_has ls 5 [(4, .int l4_30), (3, .int l3_30), (0, .ref y0), (1, .int p1), (2, .int p2)] → W p l e { frames := 3, cells := 0, slots := 0, locals := 102 } s m ([.ref y0, .int p1, .int p2] : List Value).toArray below meth c H locs 0 0 Q (F0 m 181 ls []) := by
      intro n30
      induction n30 with
      | zero => intro l3_30 l4_30 v30 f30 w30 g30 hIv30 hCf30 hRf30 hq0_v30 hq1_v30 hq2_v30 hq3_v30 hq4_v30 hq5_v30 hq8_v30 hq9_v30 hq10_v30 hq13_v30 hq14_v30 hq15_v30 hq17_v30 hq18_v30 hq24_v30 hq25_v30 hq35_v30 hq36_v30 hq38_v30 hq39_v30 hT30 hr3_30 hr4_30 hx0_30 hs4_f30 hs5_f30 hM_v30 hA_f30 hm; exact absurd hm (Nat.not_lt_zero _)
      | succ n30 ih30 =>
        intro l3_30 l4_30 v30 f30 w30 g30 hIv30 hCf30 hRf30 hq0_v30 hq1_v30 hq2_v30 hq3_v30 hq4_v30 hq5_v30 hq8_v30 hq9_v30 hq10_v30 hq13_v30 hq14_v30 hq15_v30 hq17_v30 hq18_v30 hq24_v30 hq25_v30 hq35_v30 hq36_v30 hq38_v30 hq39_v30 hT30 hr3_30 hr4_30 hx0_30 hs4_f30 hs5_f30 hM_v30 hA_f30 hm30 H locs ls hP hD hS hl
        have hUv30 : (v30 35).toInt + (v30 36).toInt ≤ 40 := hIv30.2
        have zq9_v30 := congrArg Int32.toInt hq9_v30
        refine lv_iload hx hb dX11_misfitOf_181 (lv_at hl 0 rfl) ?_
        refine lv_aload_n hx hb dX11_misfitOf_183 rfl (lv_at hl 2 rfl) ?_
        refine va_get (D := (dC, dI)) (ci := 11) (v := .int (v30 9)) (C := RX11) (T := TX11) (N := 79) hx hb hts inB_11 hown hE.1 hP 0 rfl rfl 18 (Nat.le_of_ble_eq_true rfl) (hts _ k_1338) (fun _ h9 => h9) rfl dX11_misfitOf_184 ?_
        refine tI (y := (v 9)) hq9_v30 ?_
        have b9_v : 0 ≤ (v 9).toInt ∧ (v 9).toInt ≤ 320 := Yb_9 hIv.1
        refine lv_icmp_ge (tgt := 337) hx hb dX11_misfitOf_187 rfl (fun c31 => ?_) (fun c31 => ?_)
        · skip
          refine lv_aload_n hx hb dX11_misfitOf_337 rfl (lv_at hl 2 rfl) ?_
          refine va_get (D := (dC, dI)) (ci := 11) (v := .ref (r 16)) (C := RX11) (T := TX11) (N := 79) hx hb hts inB_11 hown hE.1 hP 0 rfl rfl 16 (Nat.le_of_ble_eq_true rfl) (hts _ k_1336) (fun _ h9 => h9) rfl dX11_misfitOf_338 ?_
          refine lv_iconst (v := 0) hx hb dX11_misfitOf_341 rfl ?_
          refine ldI hx hb hE hP 8 rfl (vp_in_nI (n := 0) (by decide) (by decide)) rfl rfl dX11_misfitOf_342 ?_
          refine lv_topi (fun t34 et34 => ?_)
          refine lv_sipush (v := 999) hx hb dX11_misfitOf_343 rfl ?_
          refine cbSi (n := 2) (rest := []) hx hb hml hown hts hE hP hD hS hA (sY_X11_within_1 NF l dC dI cy y0 r t34 999 v30 f30 w30 g30 hIv30 hCf30 hRf30 ) k_1758 k_1759 k_114 k_1760 he_yX11_within ⟨Nat.le_of_ble_eq_true rfl, Nat.le_of_ble_eq_true rfl⟩ (rfl) hl.1 rfl (Nat.le_of_ble_eq_true rfl) dX11_misfitOf_346 (fun r35 u H locs hw hP hD hS => ?_)
          have hG36 := hw
          exact ret r35 (v30, f30, w30, g30) _ _ _ _ _ _ rfl ⟨(hT30.symm.trans (gsY_X11_misfitOf_1_q0 c31 et34 hG36.symm)), hM_v30, hA_f30, hIv30, hCf30, hRf30, (show v30 0 = v 0 from hq0_v30), (show v30 1 = v 1 from hq1_v30), (show v30 2 = v 2 from hq2_v30), (show v30 3 = v 3 from hq3_v30), (show v30 4 = v 4 from hq4_v30), (show v30 5 = v 5 from hq5_v30), (show v30 8 = v 8 from hq8_v30), (show v30 9 = v 9 from hq9_v30), (show v30 10 = v 10 from hq10_v30), (show v30 13 = v 13 from hq13_v30), (show v30 14 = v 14 from hq14_v30), (show v30 15 = v 15 from hq15_v30), (show v30 17 = v 17 from hq17_v30), (show v30 18 = v 18 from hq18_v30), (show v30 24 = v 24 from hq24_v30), (show v30 25 = v 25 from hq25_v30), (show v30 35 = v 35 from hq35_v30), (show v30 36 = v 36 from hq36_v30), (show v30 38 = v 38 from hq38_v30), (show v30 39 = v 39 from hq39_v30)⟩ hP hD hS dX11_misfitOf_349 (Nat.le_refl _) (Nat.le_refl _)
        · skip
          have zc31 : ¬ ((v 9).toInt ≤ l4_30.toInt) := zMn rfl rfl c31
          have rg37 := fb_rng l4_30
          have rg38 := fb_rng (v 9)
          refine lv_aload_n hx hb dX11_misfitOf_190 rfl (lv_at hl 2 rfl) ?_
          refine va_get (D := (dC, dI)) (ci := 11) (v := .ref (r 13)) (C := RX11) (T := TX11) (N := 79) hx hb hts inB_11 hown hE.1 hP 0 rfl rfl 13 (Nat.le_of_ble_eq_true rfl) (hts _ k_1333) (fun _ h9 => h9) rfl dX11_misfitOf_191 ?_
          refine lv_iload hx hb dX11_misfitOf_194 (lv_at hl 0 rfl) ?_
          refine ldI hx hb hE hP 5 rfl (vpI (k := 320) rfl (show 0 ≤ l4_30.toInt from om_39 hr4_30) (show l4_30.toInt < 320 from om_490 b9_v zc31)) rfl rfl dX11_misfitOf_196 ?_
          refine lv_topi (fun t39 et39 => ?_)
          have hpt39 := prog_facts hRf30 (s := l4_30.toInt.toNat) (by omega) (t := t39) et39
          rw [hs4_f30, hs5_f30] at hpt39
          refine lv_if_eq (tgt := 211) hx hb dX11_misfitOf_197 rfl (fun c40 => ?_) (fun c40 => ?_)
          · skip
            have zc40 : t39.toInt = 0 := zEp rfl tc_0 c40
            refine lv_aload_n hx hb dX11_misfitOf_211 rfl (lv_at hl 2 rfl) ?_
            refine va_get (D := (dC, dI)) (ci := 11) (v := .ref (r 16)) (C := RX11) (T := TX11) (N := 79) hx hb hts inB_11 hown hE.1 hP 0 rfl rfl 16 (Nat.le_of_ble_eq_true rfl) (hts _ k_1336) (fun _ h9 => h9) rfl dX11_misfitOf_212 ?_
            refine lv_iload_n hx hb dX11_misfitOf_215 rfl (lv_at hl 1 rfl) ?_
            refine lv_aload_n hx hb dX11_misfitOf_216 rfl (lv_at hl 2 rfl) ?_
            refine va_get (D := (dC, dI)) (ci := 11) (v := .ref (r 13)) (C := RX11) (T := TX11) (N := 79) hx hb hts inB_11 hown hE.1 hP 0 rfl rfl 13 (Nat.le_of_ble_eq_true rfl) (hts _ k_1333) (fun _ h9 => h9) rfl dX11_misfitOf_217 ?_
            refine lv_iload hx hb dX11_misfitOf_220 (lv_at hl 0 rfl) ?_
            refine ldI hx hb hE hP 5 rfl (vpI (k := 320) rfl (show 0 ≤ l4_30.toInt from om_39 hr4_30) (show l4_30.toInt < 320 from om_490 b9_v zc31)) rfl rfl dX11_misfitOf_222 ?_
            refine tI (y := t39) et39.symm ?_
            refine lv_if_ne (tgt := 236) hx hb dX11_misfitOf_223 rfl (fun c41 => ?_) (fun c41 => ?_)
            · skip
              have zc41 : ¬ (t39.toInt = 0) := zEn rfl tc_0 c41
              refine lv_aload_n hx hb dX11_misfitOf_236 rfl (lv_at hl 2 rfl) ?_
              refine va_get (D := (dC, dI)) (ci := 11) (v := .ref (r 26)) (C := RX11) (T := TX11) (N := 79) hx hb hts inB_11 hown hE.1 hP 0 rfl rfl 26 (Nat.le_of_ble_eq_true rfl) (hts _ k_1346) (fun _ h9 => h9) rfl dX11_misfitOf_237 ?_
              refine lv_aload_n hx hb dX11_misfitOf_240 rfl (lv_at hl 2 rfl) ?_
              refine va_get (D := (dC, dI)) (ci := 11) (v := .ref (r 14)) (C := RX11) (T := TX11) (N := 79) hx hb hts inB_11 hown hE.1 hP 0 rfl rfl 14 (Nat.le_of_ble_eq_true rfl) (hts _ k_1334) (fun _ h9 => h9) rfl dX11_misfitOf_241 ?_
              refine lv_iload hx hb dX11_misfitOf_244 (lv_at hl 0 rfl) ?_
              refine ldI hx hb hE hP 6 rfl (vpI (k := 320) rfl (show 0 ≤ l4_30.toInt from om_39 hr4_30) (show l4_30.toInt < 320 from om_490 b9_v zc31)) rfl rfl dX11_misfitOf_246 ?_
              refine lv_topi (fun t42 et42 => ?_)
              have hat42 : t42.toInt = (f 5 l4_30.toInt.toNat).toInt := by rw [et42, hs5_f30]; rfl
              refine ldI hx hb hE hP 9 rfl (vpI (k := 6) rfl (show 0 ≤ t42.toInt by omega) (show t42.toInt < 6 by omega)) rfl rfl dX11_misfitOf_247 ?_
              refine lv_topi (fun t43 et43 => ?_)
              refine stI hx hb hE hP hD hS 8 rfl (vpI (k := 64) rfl (show 0 ≤ l3_30.toInt from om_546 hr3_30) (show l3_30.toInt < 64 by omega)) rfl dX11_misfitOf_248 (fun H locs hP hD hS => ?_)
              obtain ⟨f44, ef44, hP, hD⟩ : ∃ fz9, fz9 = upd2 f30 7 (upd (f30 7) l3_30.toNatClampNeg t43) ∧ va_P (dC, dI) vwCl (YW cy y0 r v30 fz9 w30 g30) H ∧ va_D A (YW cy y0 r v30 fz9 w30 g30) := ⟨_, rfl, hP, hD⟩
              have hCf44 : YC f44 := by rw [ef44]; exact hCf30
              have hs4_f44 : f44 4 = f 4 := by rw [ef44]; exact hs4_f30
              have hs5_f44 : f44 5 = f 5 := by rw [ef44]; exact hs5_f30
              have hRf44 : progOK (f44 4) (f44 5) (v30 9).toInt.toNat := by rw [ef44]; exact hRf30
              have hA_f44 : KF [7, 8] f44 f := by rw [ef44]; exact KF.up hA_f30 rfl
              obtain ⟨t45, et45⟩ : ∃ y : Int32, y = l3_30 + 1 := ⟨_, rfl⟩
              have rg46 := fb_rng l3_30
              have zt45 : t45.toInt = l3_30.toInt + 1 := (congrArg Int32.toInt et45).trans (add_i rfl tc_1 (om_547 hr3_30) (om_548 hr3_30))
              refine lv_iinc (v := t45) (lv' := [(3, .int t45), (4, .int l4_30), (0, .ref y0), (1, .int p1), (2, .int p2)]) hx hb dX11_misfitOf_249 hl (k := 1) rfl et45.symm (Nat.le_of_ble_eq_true rfl) rfl (fun ls hl => ?_)
              refine lv_goto (tgt := 331) hx hb dX11_misfitOf_252 rfl ?_
              obtain ⟨t47, et47⟩ : ∃ y : Int32, y = l4_30 + 1 := ⟨_, rfl⟩
              have zt47 : t47.toInt = l4_30.toInt + 1 := (congrArg Int32.toInt et47).trans (add_i rfl tc_1 (om_41 hr4_30) (om_491 b9_v zc31))
              refine lv_iinc (v := t47) (lv' := [(4, .int t47), (3, .int t45), (0, .ref y0), (1, .int p1), (2, .int p2)]) hx hb dX11_misfitOf_331 hl (k := 1) rfl et47.symm (Nat.le_of_ble_eq_true rfl) rfl (fun ls hl => ?_)
              refine lv_goto (tgt := 181) hx hb dX11_misfitOf_334 rfl ?_
              have rg48 := fb_rng t45
              have rg49 := fb_rng t47
              exact ih30 t45 t47 v30 f44 w30 g30 hIv30 hCf44 hRf44 hq0_v30 hq1_v30 hq2_v30 hq3_v30 hq4_v30 hq5_v30 hq8_v30 hq9_v30 hq10_v30 hq13_v30 hq14_v30 hq15_v30 hq17_v30 hq18_v30 hq24_v30 hq25_v30 hq35_v30 hq36_v30 hq38_v30 hq39_v30 ((gsY_X11_misfitOf_1_q1 c31 et39 c40 c41 et42 et43 ef44 et45 et47).symm.trans hT30) ⟨show (0 : Int) ≤ t45.toInt from om_549 hr3_30 zt45, show t45.toInt ≤ (64 : Int) by omega⟩ ⟨show (0 : Int) ≤ t47.toInt from om_43 hr4_30 zt47, show t47.toInt ≤ (2147483647 : Int) from om_44 rg49⟩ (by rw [show (t47.toInt).toNat = (l4_30.toInt).toNat + 1 from om_550 hr4_30 zt47]; omega) hs4_f44 hs5_f44 hM_v30 hA_f44 (show (2147483647 - t47.toInt).toNat < n30 from om_33 hm30 zt47 rg49) _ _ _ hP hD hS (lv_sub hl [0, 1, 2, 3, 4] rfl)
            · skip
              have zc41 : t39.toInt = 0 := zEp rfl tc_0 c41
              refine lv_aload_n hx hb dX11_misfitOf_226 rfl (lv_at hl 2 rfl) ?_
              refine va_get (D := (dC, dI)) (ci := 11) (v := .ref (r 14)) (C := RX11) (T := TX11) (N := 79) hx hb hts inB_11 hown hE.1 hP 0 rfl rfl 14 (Nat.le_of_ble_eq_true rfl) (hts _ k_1334) (fun _ h9 => h9) rfl dX11_misfitOf_227 ?_
              refine lv_iload hx hb dX11_misfitOf_230 (lv_at hl 0 rfl) ?_
              refine ldI hx hb hE hP 6 rfl (vpI (k := 320) rfl (show 0 ≤ l4_30.toInt from om_39 hr4_30) (show l4_30.toInt < 320 from om_490 b9_v zc31)) rfl rfl dX11_misfitOf_232 ?_
              refine lv_topi (fun t50 et50 => ?_)
              have hat50 : t50.toInt = (f 5 l4_30.toInt.toNat).toInt := by rw [et50, hs5_f30]; rfl
              refine lv_goto (tgt := 248) hx hb dX11_misfitOf_233 rfl ?_
              refine stI hx hb hE hP hD hS 8 rfl (vpI (k := 64) rfl (show 0 ≤ l3_30.toInt from om_546 hr3_30) (show l3_30.toInt < 64 by omega)) rfl dX11_misfitOf_248 (fun H locs hP hD hS => ?_)
              obtain ⟨f51, ef51, hP, hD⟩ : ∃ fz9, fz9 = upd2 f30 7 (upd (f30 7) l3_30.toNatClampNeg t50) ∧ va_P (dC, dI) vwCl (YW cy y0 r v30 fz9 w30 g30) H ∧ va_D A (YW cy y0 r v30 fz9 w30 g30) := ⟨_, rfl, hP, hD⟩
              have hCf51 : YC f51 := by rw [ef51]; exact hCf30
              have hs4_f51 : f51 4 = f 4 := by rw [ef51]; exact hs4_f30
              have hs5_f51 : f51 5 = f 5 := by rw [ef51]; exact hs5_f30
              have hRf51 : progOK (f51 4) (f51 5) (v30 9).toInt.toNat := by rw [ef51]; exact hRf30
              have hA_f51 : KF [7, 8] f51 f := by rw [ef51]; exact KF.up hA_f30 rfl
              obtain ⟨t52, et52⟩ : ∃ y : Int32, y = l3_30 + 1 := ⟨_, rfl⟩
              have rg53 := fb_rng l3_30
              have zt52 : t52.toInt = l3_30.toInt + 1 := (congrArg Int32.toInt et52).trans (add_i rfl tc_1 (om_547 hr3_30) (om_548 hr3_30))
              refine lv_iinc (v := t52) (lv' := [(3, .int t52), (4, .int l4_30), (0, .ref y0), (1, .int p1), (2, .int p2)]) hx hb dX11_misfitOf_249 hl (k := 1) rfl et52.symm (Nat.le_of_ble_eq_true rfl) rfl (fun ls hl => ?_)
              refine lv_goto (tgt := 331) hx hb dX11_misfitOf_252 rfl ?_
              obtain ⟨t54, et54⟩ : ∃ y : Int32, y = l4_30 + 1 := ⟨_, rfl⟩
              have zt54 : t54.toInt = l4_30.toInt + 1 := (congrArg Int32.toInt et54).trans (add_i rfl tc_1 (om_41 hr4_30) (om_491 b9_v zc31))
              refine lv_iinc (v := t54) (lv' := [(4, .int t54), (3, .int t52), (0, .ref y0), (1, .int p1), (2, .int p2)]) hx hb dX11_misfitOf_331 hl (k := 1) rfl et54.symm (Nat.le_of_ble_eq_true rfl) rfl (fun ls hl => ?_)
              refine lv_goto (tgt := 181) hx hb dX11_misfitOf_334 rfl ?_
              have rg55 := fb_rng t52
              have rg56 := fb_rng t54
              exact ih30 t52 t54 v30 f51 w30 g30 hIv30 hCf51 hRf51 hq0_v30 hq1_v30 hq2_v30 hq3_v30 hq4_v30 hq5_v30 hq8_v30 hq9_v30 hq10_v30 hq13_v30 hq14_v30 hq15_v30 hq17_v30 hq18_v30 hq24_v30 hq25_v30 hq35_v30 hq36_v30 hq38_v30 hq39_v30 ((gsY_X11_misfitOf_1_q2 c31 et39 c40 c41 et50 ef51 et52 et54).symm.trans hT30) ⟨show (0 : Int) ≤ t52.toInt from om_549 hr3_30 zt52, show t52.toInt ≤ (64 : Int) by omega⟩ ⟨show (0 : Int) ≤ t54.toInt from om_43 hr4_30 zt54, show t54.toInt ≤ (2147483647 : Int) from om_44 rg56⟩ (by rw [show (t54.toInt).toNat = (l4_30.toInt).toNat + 1 from om_550 hr4_30 zt54]; omega) hs4_f51 hs5_f51 hM_v30 hA_f51 (show (2147483647 - t54.toInt).toNat < n30 from om_33 hm30 zt54 rg56) _ _ _ hP hD hS (lv_sub hl [0, 1, 2, 3, 4] rfl)
          · skip
            have zc40 : ¬ (t39.toInt = 0) := zEn rfl tc_0 c40
            refine lv_aload_n hx hb dX11_misfitOf_200 rfl (lv_at hl 2 rfl) ?_
            refine va_get (D := (dC, dI)) (ci := 11) (v := .ref (r 13)) (C := RX11) (T := TX11) (N := 79) hx hb hts inB_11 hown hE.1 hP 0 rfl rfl 13 (Nat.le_of_ble_eq_true rfl) (hts _ k_1333) (fun _ h9 => h9) rfl dX11_misfitOf_201 ?_
            refine lv_iload hx hb dX11_misfitOf_204 (lv_at hl 0 rfl) ?_
            refine ldI hx hb hE hP 5 rfl (vpI (k := 320) rfl (show 0 ≤ l4_30.toInt from om_39 hr4_30) (show l4_30.toInt < 320 from om_490 b9_v zc31)) rfl rfl dX11_misfitOf_206 ?_
            refine tI (y := t39) et39.symm ?_
            refine lv_iconst (v := 1) hx hb dX11_misfitOf_207 rfl ?_
            refine lv_icmp_ne (tgt := 255) hx hb dX11_misfitOf_208 rfl (fun c57 => ?_) (fun c57 => ?_)
            · skip
              have zc57 : ¬ (t39.toInt = 1) := zEn rfl tc_1 c57
              refine lv_aload_n hx hb dX11_misfitOf_255 rfl (lv_at hl 2 rfl) ?_
              refine va_get (D := (dC, dI)) (ci := 11) (v := .ref (r 13)) (C := RX11) (T := TX11) (N := 79) hx hb hts inB_11 hown hE.1 hP 0 rfl rfl 13 (Nat.le_of_ble_eq_true rfl) (hts _ k_1333) (fun _ h9 => h9) rfl dX11_misfitOf_256 ?_
              refine lv_iload hx hb dX11_misfitOf_259 (lv_at hl 0 rfl) ?_
              refine ldI hx hb hE hP 5 rfl (vpI (k := 320) rfl (show 0 ≤ l4_30.toInt from om_39 hr4_30) (show l4_30.toInt < 320 from om_490 b9_v zc31)) rfl rfl dX11_misfitOf_261 ?_
              refine tI (y := t39) et39.symm ?_
              refine lv_iconst (v := 2) hx hb dX11_misfitOf_262 rfl ?_
              refine lv_icmp_ne (tgt := 296) hx hb dX11_misfitOf_263 rfl (fun c58 => ?_) (fun c58 => ?_)
              · skip
                have zc58 : ¬ (t39.toInt = 2) := zEn rfl tc_2 c58
                obtain ⟨t59, et59⟩ : ∃ y : Int32, y = l3_30 + (-1) := ⟨_, rfl⟩
                have rg60 := fb_rng l3_30
                have zt59 : t59.toInt = l3_30.toInt + (-1) := (congrArg Int32.toInt et59).trans (add_i rfl tc_m1 (om_551 hr3_30) (om_552 hr3_30))
                refine lv_iinc (v := t59) (lv' := [(3, .int t59), (4, .int l4_30), (0, .ref y0), (1, .int p1), (2, .int p2)]) hx hb dX11_misfitOf_296 hl (k := 1) rfl et59.symm (Nat.le_of_ble_eq_true rfl) rfl (fun ls hl => ?_)
                refine lv_aload_n hx hb dX11_misfitOf_299 rfl (lv_at hl 2 rfl) ?_
                refine va_get (D := (dC, dI)) (ci := 11) (v := .ref (r 16)) (C := RX11) (T := TX11) (N := 79) hx hb hts inB_11 hown hE.1 hP 0 rfl rfl 16 (Nat.le_of_ble_eq_true rfl) (hts _ k_1336) (fun _ h9 => h9) rfl dX11_misfitOf_300 ?_
                refine lv_iload_n hx hb dX11_misfitOf_303 rfl (lv_at hl 0 rfl) ?_
                refine lv_iconst (v := 1) hx hb dX11_misfitOf_304 rfl ?_
                refine lv_isub hx hb dX11_misfitOf_305 ?_
                refine lv_topi (fun t61 et61 => ?_)
                have rg62 := fb_rng t59
                have zt61 : t61.toInt = t59.toInt - 1 := (congrArg Int32.toInt et61).trans (sub_i rfl tc_1 (om_553 hr3_30 zt59) (om_131 rg62))
                refine lv_aload_n hx hb dX11_misfitOf_306 rfl (lv_at hl 2 rfl) ?_
                refine va_get (D := (dC, dI)) (ci := 11) (v := .ref (r 14)) (C := RX11) (T := TX11) (N := 79) hx hb hts inB_11 hown hE.1 hP 0 rfl rfl 14 (Nat.le_of_ble_eq_true rfl) (hts _ k_1334) (fun _ h9 => h9) rfl dX11_misfitOf_307 ?_
                refine lv_iload hx hb dX11_misfitOf_310 (lv_at hl 1 rfl) ?_
                refine ldI hx hb hE hP 6 rfl (vpI (k := 320) rfl (show 0 ≤ l4_30.toInt from om_39 hr4_30) (show l4_30.toInt < 320 from om_490 b9_v zc31)) rfl rfl dX11_misfitOf_312 ?_
                refine lv_topi (fun t63 et63 => ?_)
                have hat63 : t63.toInt = (f 5 l4_30.toInt.toNat).toInt := by rw [et63, hs5_f30]; rfl
                refine lv_aload_n hx hb dX11_misfitOf_313 rfl (lv_at hl 2 rfl) ?_
                refine va_get (D := (dC, dI)) (ci := 11) (v := .ref (r 16)) (C := RX11) (T := TX11) (N := 79) hx hb hts inB_11 hown hE.1 hP 0 rfl rfl 16 (Nat.le_of_ble_eq_true rfl) (hts _ k_1336) (fun _ h9 => h9) rfl dX11_misfitOf_314 ?_
                refine lv_iload_n hx hb dX11_misfitOf_317 rfl (lv_at hl 0 rfl) ?_
                refine lv_iconst (v := 1) hx hb dX11_misfitOf_318 rfl ?_
                refine lv_isub hx hb dX11_misfitOf_319 ?_
                refine tI (y := t61) et61.symm ?_
                refine ldI hx hb hE hP 8 rfl (vpI (k := 64) rfl (show 0 ≤ t61.toInt by omega) (show t61.toInt < 64 from om_554 hr3_30 zt59 zt61)) rfl rfl dX11_misfitOf_320 ?_
                refine lv_topi (fun t64 et64 => ?_)
                refine lv_aload_n hx hb dX11_misfitOf_321 rfl (lv_at hl 2 rfl) ?_
                refine va_get (D := (dC, dI)) (ci := 11) (v := .ref (r 16)) (C := RX11) (T := TX11) (N := 79) hx hb hts inB_11 hown hE.1 hP 0 rfl rfl 16 (Nat.le_of_ble_eq_true rfl) (hts _ k_1336) (fun _ h9 => h9) rfl dX11_misfitOf_322 ?_
                refine lv_iload_n hx hb dX11_misfitOf_325 rfl (lv_at hl 0 rfl) ?_
                refine ldI hx hb hE hP 8 rfl (vpI (k := 64) rfl (show 0 ≤ t59.toInt by omega) (show t59.toInt < 64 from om_555 hr3_30 zt59)) rfl rfl dX11_misfitOf_326 ?_
                refine lv_topi (fun t65 et65 => ?_)
                refine cbSi (n := 3) (rest := [.int t61, .ref (r 16)]) hx hb hml hown hts hE hP hD hS hA (sY_X11_done_1 NF l dC dI cy y0 r t63 t64 t65 v30 f30 w30 g30 hIv30 hCf30 hRf30 ) k_1764 k_1765 k_114 k_1766 he_yX11_done ⟨Nat.le_of_ble_eq_true rfl, Nat.le_of_ble_eq_true rfl⟩ (rfl) hl.1 rfl (Nat.le_of_ble_eq_true rfl) dX11_misfitOf_327 (fun r66 u H locs hw hP hD hS => ?_)
                have hG67 := hw
                refine stI hx hb hE hP hD hS 8 rfl (vpI (k := 64) rfl (show 0 ≤ t61.toInt by omega) (show t61.toInt < 64 from om_554 hr3_30 zt59 zt61)) rfl dX11_misfitOf_330 (fun H locs hP hD hS => ?_)
                obtain ⟨f68, ef68, hP, hD⟩ : ∃ fz9, fz9 = upd2 f30 7 (upd (f30 7) t61.toNatClampNeg r66) ∧ va_P (dC, dI) vwCl (YW cy y0 r v30 fz9 w30 g30) H ∧ va_D A (YW cy y0 r v30 fz9 w30 g30) := ⟨_, rfl, hP, hD⟩
                have hCf68 : YC f68 := by rw [ef68]; exact hCf30
                have hs4_f68 : f68 4 = f 4 := by rw [ef68]; exact hs4_f30
                have hs5_f68 : f68 5 = f 5 := by rw [ef68]; exact hs5_f30
                have hRf68 : progOK (f68 4) (f68 5) (v30 9).toInt.toNat := by rw [ef68]; exact hRf30
                have hA_f68 : KF [7, 8] f68 f := by rw [ef68]; exact KF.up hA_f30 rfl
                obtain ⟨t69, et69⟩ : ∃ y : Int32, y = l4_30 + 1 := ⟨_, rfl⟩
                have zt69 : t69.toInt = l4_30.toInt + 1 := (congrArg Int32.toInt et69).trans (add_i rfl tc_1 (om_41 hr4_30) (om_491 b9_v zc31))
                refine lv_iinc (v := t69) (lv' := [(4, .int t69), (3, .int t59), (0, .ref y0), (1, .int p1), (2, .int p2)]) hx hb dX11_misfitOf_331 hl (k := 1) rfl et69.symm (Nat.le_of_ble_eq_true rfl) rfl (fun ls hl => ?_)
                refine lv_goto (tgt := 181) hx hb dX11_misfitOf_334 rfl ?_
                have rg70 := fb_rng t69
                exact ih30 t59 t69 v30 f68 w30 g30 hIv30 hCf68 hRf68 hq0_v30 hq1_v30 hq2_v30 hq3_v30 hq4_v30 hq5_v30 hq8_v30 hq9_v30 hq10_v30 hq13_v30 hq14_v30 hq15_v30 hq17_v30 hq18_v30 hq24_v30 hq25_v30 hq35_v30 hq36_v30 hq38_v30 hq39_v30 ((gsY_X11_misfitOf_1_q3 c31 et39 c40 c57 c58 et59 et61 et63 et64 et65 hG67.symm ef68 et69).symm.trans hT30) ⟨show (0 : Int) ≤ t59.toInt by omega, show t59.toInt ≤ (64 : Int) from om_556 hr3_30 zt59⟩ ⟨show (0 : Int) ≤ t69.toInt from om_43 hr4_30 zt69, show t69.toInt ≤ (2147483647 : Int) from om_44 rg70⟩ (by rw [show (t69.toInt).toNat = (l4_30.toInt).toNat + 1 from om_550 hr4_30 zt69]; omega) hs4_f68 hs5_f68 hM_v30 hA_f68 (show (2147483647 - t69.toInt).toNat < n30 from om_33 hm30 zt69 rg70) _ _ _ hP hD hS (lv_sub hl [0, 1, 2, 3, 4] rfl)
              · skip
                have zc58 : t39.toInt = 2 := zEp rfl tc_2 c58
                refine lv_aload_n hx hb dX11_misfitOf_266 rfl (lv_at hl 2 rfl) ?_
                refine va_get (D := (dC, dI)) (ci := 11) (v := .ref (r 16)) (C := RX11) (T := TX11) (N := 79) hx hb hts inB_11 hown hE.1 hP 0 rfl rfl 16 (Nat.le_of_ble_eq_true rfl) (hts _ k_1336) (fun _ h9 => h9) rfl dX11_misfitOf_267 ?_
                refine lv_iload_n hx hb dX11_misfitOf_270 rfl (lv_at hl 1 rfl) ?_
                refine lv_iconst (v := 1) hx hb dX11_misfitOf_271 rfl ?_
                refine lv_isub hx hb dX11_misfitOf_272 ?_
                refine lv_topi (fun t71 et71 => ?_)
                have rg72 := fb_rng l3_30
                have zt71 : t71.toInt = l3_30.toInt - 1 := (congrArg Int32.toInt et71).trans (sub_i rfl tc_1 (om_557 hr3_30) (om_558 hr3_30))
                refine lv_aload_n hx hb dX11_misfitOf_273 rfl (lv_at hl 2 rfl) ?_
                refine va_get (D := (dC, dI)) (ci := 11) (v := .ref (r 16)) (C := RX11) (T := TX11) (N := 79) hx hb hts inB_11 hown hE.1 hP 0 rfl rfl 16 (Nat.le_of_ble_eq_true rfl) (hts _ k_1336) (fun _ h9 => h9) rfl dX11_misfitOf_274 ?_
                refine lv_iload_n hx hb dX11_misfitOf_277 rfl (lv_at hl 1 rfl) ?_
                refine lv_iconst (v := 1) hx hb dX11_misfitOf_278 rfl ?_
                refine lv_isub hx hb dX11_misfitOf_279 ?_
                refine tI (y := t71) et71.symm ?_
                refine ldI hx hb hE hP 8 rfl (vpI (k := 64) rfl (show 0 ≤ t71.toInt by omega) (show t71.toInt < 64 from om_559 hr3_30 zt71)) rfl rfl dX11_misfitOf_280 ?_
                refine lv_topi (fun t73 et73 => ?_)
                refine lv_if_ne (tgt := 288) hx hb dX11_misfitOf_281 rfl (fun c74 => ?_) (fun c74 => ?_)
                · skip
                  have zc74 : ¬ (t73.toInt = 0) := zEn rfl tc_0 c74
                  refine lv_iconst (v := 0) hx hb dX11_misfitOf_288 rfl ?_
                  have lt75 : (0 : Int32).toInt = 0 := by decide
                  refine cbSi (n := 1) (rest := [.int t71, .ref (r 16)]) hx hb hml hown hts hE hP hD hS hA (sY_X11_truth_1 NF l dC dI cy y0 r 0 v30 f30 w30 g30 hIv30 hCf30 hRf30 ) k_1761 k_1762 k_114 k_1763 he_yX11_truth ⟨Nat.le_of_ble_eq_true rfl, Nat.le_of_ble_eq_true rfl⟩ (rfl) hl.1 rfl (Nat.le_of_ble_eq_true rfl) dX11_misfitOf_289 (fun r76 u H locs hw hP hD hS => ?_)
                  obtain ⟨hG77, hw⟩ := hw
                  have pw_r76 : (0 : Int) ≤ r76.toInt ∧ r76.toInt ≤ 1 := hw
                  refine stI hx hb hE hP hD hS 8 rfl (vpI (k := 64) rfl (show 0 ≤ t71.toInt by omega) (show t71.toInt < 64 from om_559 hr3_30 zt71)) rfl dX11_misfitOf_292 (fun H locs hP hD hS => ?_)
                  obtain ⟨f78, ef78, hP, hD⟩ : ∃ fz9, fz9 = upd2 f30 7 (upd (f30 7) t71.toNatClampNeg r76) ∧ va_P (dC, dI) vwCl (YW cy y0 r v30 fz9 w30 g30) H ∧ va_D A (YW cy y0 r v30 fz9 w30 g30) := ⟨_, rfl, hP, hD⟩
                  have hCf78 : YC f78 := by rw [ef78]; exact hCf30
                  have hs4_f78 : f78 4 = f 4 := by rw [ef78]; exact hs4_f30
                  have hs5_f78 : f78 5 = f 5 := by rw [ef78]; exact hs5_f30
                  have hRf78 : progOK (f78 4) (f78 5) (v30 9).toInt.toNat := by rw [ef78]; exact hRf30
                  have hA_f78 : KF [7, 8] f78 f := by rw [ef78]; exact KF.up hA_f30 rfl
                  refine lv_goto (tgt := 331) hx hb dX11_misfitOf_293 rfl ?_
                  obtain ⟨t79, et79⟩ : ∃ y : Int32, y = l4_30 + 1 := ⟨_, rfl⟩
                  have zt79 : t79.toInt = l4_30.toInt + 1 := (congrArg Int32.toInt et79).trans (add_i rfl tc_1 (om_41 hr4_30) (om_491 b9_v zc31))
                  refine lv_iinc (v := t79) (lv' := [(4, .int t79), (3, .int l3_30), (0, .ref y0), (1, .int p1), (2, .int p2)]) hx hb dX11_misfitOf_331 hl (k := 0) rfl et79.symm (Nat.le_of_ble_eq_true rfl) rfl (fun ls hl => ?_)
                  refine lv_goto (tgt := 181) hx hb dX11_misfitOf_334 rfl ?_
                  have rg80 := fb_rng t79
                  exact ih30 l3_30 t79 v30 f78 w30 g30 hIv30 hCf78 hRf78 hq0_v30 hq1_v30 hq2_v30 hq3_v30 hq4_v30 hq5_v30 hq8_v30 hq9_v30 hq10_v30 hq13_v30 hq14_v30 hq15_v30 hq17_v30 hq18_v30 hq24_v30 hq25_v30 hq35_v30 hq36_v30 hq38_v30 hq39_v30 ((gsY_X11_misfitOf_1_q4 c31 et39 c40 c57 c58 et71 et73 c74 hG77.symm ef78 et79).symm.trans hT30) ⟨show (0 : Int) ≤ l3_30.toInt from om_546 hr3_30, show l3_30.toInt ≤ (64 : Int) from om_560 hr3_30⟩ ⟨show (0 : Int) ≤ t79.toInt from om_43 hr4_30 zt79, show t79.toInt ≤ (2147483647 : Int) from om_44 rg80⟩ (by rw [show (t79.toInt).toNat = (l4_30.toInt).toNat + 1 from om_550 hr4_30 zt79]; omega) hs4_f78 hs5_f78 hM_v30 hA_f78 (show (2147483647 - t79.toInt).toNat < n30 from om_33 hm30 zt79 rg80) _ _ _ hP hD hS (lv_sub hl [0, 1, 2, 3, 4] rfl)
                · skip
                  have zc74 : t73.toInt = 0 := zEp rfl tc_0 c74
                  refine lv_iconst (v := 1) hx hb dX11_misfitOf_284 rfl ?_
                  refine lv_goto (tgt := 289) hx hb dX11_misfitOf_285 rfl ?_
                  have lt81 : (1 : Int32).toInt = 1 := by decide
                  refine cbSi (n := 1) (rest := [.int t71, .ref (r 16)]) hx hb hml hown hts hE hP hD hS hA (sY_X11_truth_1 NF l dC dI cy y0 r 1 v30 f30 w30 g30 hIv30 hCf30 hRf30 ) k_1761 k_1762 k_114 k_1763 he_yX11_truth ⟨Nat.le_of_ble_eq_true rfl, Nat.le_of_ble_eq_true rfl⟩ (rfl) hl.1 rfl (Nat.le_of_ble_eq_true rfl) dX11_misfitOf_289 (fun r82 u H locs hw hP hD hS => ?_)
                  obtain ⟨hG83, hw⟩ := hw
                  have pw_r82 : (0 : Int) ≤ r82.toInt ∧ r82.toInt ≤ 1 := hw
                  refine stI hx hb hE hP hD hS 8 rfl (vpI (k := 64) rfl (show 0 ≤ t71.toInt by omega) (show t71.toInt < 64 from om_559 hr3_30 zt71)) rfl dX11_misfitOf_292 (fun H locs hP hD hS => ?_)
                  obtain ⟨f84, ef84, hP, hD⟩ : ∃ fz9, fz9 = upd2 f30 7 (upd (f30 7) t71.toNatClampNeg r82) ∧ va_P (dC, dI) vwCl (YW cy y0 r v30 fz9 w30 g30) H ∧ va_D A (YW cy y0 r v30 fz9 w30 g30) := ⟨_, rfl, hP, hD⟩
                  have hCf84 : YC f84 := by rw [ef84]; exact hCf30
                  have hs4_f84 : f84 4 = f 4 := by rw [ef84]; exact hs4_f30
                  have hs5_f84 : f84 5 = f 5 := by rw [ef84]; exact hs5_f30
                  have hRf84 : progOK (f84 4) (f84 5) (v30 9).toInt.toNat := by rw [ef84]; exact hRf30
                  have hA_f84 : KF [7, 8] f84 f := by rw [ef84]; exact KF.up hA_f30 rfl
                  refine lv_goto (tgt := 331) hx hb dX11_misfitOf_293 rfl ?_
                  obtain ⟨t85, et85⟩ : ∃ y : Int32, y = l4_30 + 1 := ⟨_, rfl⟩
                  have zt85 : t85.toInt = l4_30.toInt + 1 := (congrArg Int32.toInt et85).trans (add_i rfl tc_1 (om_41 hr4_30) (om_491 b9_v zc31))
                  refine lv_iinc (v := t85) (lv' := [(4, .int t85), (3, .int l3_30), (0, .ref y0), (1, .int p1), (2, .int p2)]) hx hb dX11_misfitOf_331 hl (k := 0) rfl et85.symm (Nat.le_of_ble_eq_true rfl) rfl (fun ls hl => ?_)
                  refine lv_goto (tgt := 181) hx hb dX11_misfitOf_334 rfl ?_
                  have rg86 := fb_rng t85
                  exact ih30 l3_30 t85 v30 f84 w30 g30 hIv30 hCf84 hRf84 hq0_v30 hq1_v30 hq2_v30 hq3_v30 hq4_v30 hq5_v30 hq8_v30 hq9_v30 hq10_v30 hq13_v30 hq14_v30 hq15_v30 hq17_v30 hq18_v30 hq24_v30 hq25_v30 hq35_v30 hq36_v30 hq38_v30 hq39_v30 ((gsY_X11_misfitOf_1_q5 c31 et39 c40 c57 c58 et71 et73 c74 hG83.symm ef84 et85).symm.trans hT30) ⟨show (0 : Int) ≤ l3_30.toInt from om_546 hr3_30, show l3_30.toInt ≤ (64 : Int) from om_560 hr3_30⟩ ⟨show (0 : Int) ≤ t85.toInt from om_43 hr4_30 zt85, show t85.toInt ≤ (2147483647 : Int) from om_44 rg86⟩ (by rw [show (t85.toInt).toNat = (l4_30.toInt).toNat + 1 from om_550 hr4_30 zt85]; omega) hs4_f84 hs5_f84 hM_v30 hA_f84 (show (2147483647 - t85.toInt).toNat < n30 from om_33 hm30 zt85 rg86) _ _ _ hP hD hS (lv_sub hl [0, 1, 2, 3, 4] rfl)
            · skip
              have zc57 : t39.toInt = 1 := zEp rfl tc_1 c57
              refine lv_aload_n hx hb dX11_misfitOf_211 rfl (lv_at hl 2 rfl) ?_
              refine va_get (D := (dC, dI)) (ci := 11) (v := .ref (r 16)) (C := RX11) (T := TX11) (N := 79) hx hb hts inB_11 hown hE.1 hP 0 rfl rfl 16 (Nat.le_of_ble_eq_true rfl) (hts _ k_1336) (fun _ h9 => h9) rfl dX11_misfitOf_212 ?_
              refine lv_iload_n hx hb dX11_misfitOf_215 rfl (lv_at hl 1 rfl) ?_
              refine lv_aload_n hx hb dX11_misfitOf_216 rfl (lv_at hl 2 rfl) ?_
              refine va_get (D := (dC, dI)) (ci := 11) (v := .ref (r 13)) (C := RX11) (T := TX11) (N := 79) hx hb hts inB_11 hown hE.1 hP 0 rfl rfl 13 (Nat.le_of_ble_eq_true rfl) (hts _ k_1333) (fun _ h9 => h9) rfl dX11_misfitOf_217 ?_
              refine lv_iload hx hb dX11_misfitOf_220 (lv_at hl 0 rfl) ?_
              refine ldI hx hb hE hP 5 rfl (vpI (k := 320) rfl (show 0 ≤ l4_30.toInt from om_39 hr4_30) (show l4_30.toInt < 320 from om_490 b9_v zc31)) rfl rfl dX11_misfitOf_222 ?_
              refine tI (y := t39) et39.symm ?_
              refine lv_if_ne (tgt := 236) hx hb dX11_misfitOf_223 rfl (fun c87 => ?_) (fun c87 => ?_)
              · skip
                have zc87 : ¬ (t39.toInt = 0) := zEn rfl tc_0 c87
                refine lv_aload_n hx hb dX11_misfitOf_236 rfl (lv_at hl 2 rfl) ?_
                refine va_get (D := (dC, dI)) (ci := 11) (v := .ref (r 26)) (C := RX11) (T := TX11) (N := 79) hx hb hts inB_11 hown hE.1 hP 0 rfl rfl 26 (Nat.le_of_ble_eq_true rfl) (hts _ k_1346) (fun _ h9 => h9) rfl dX11_misfitOf_237 ?_
                refine lv_aload_n hx hb dX11_misfitOf_240 rfl (lv_at hl 2 rfl) ?_
                refine va_get (D := (dC, dI)) (ci := 11) (v := .ref (r 14)) (C := RX11) (T := TX11) (N := 79) hx hb hts inB_11 hown hE.1 hP 0 rfl rfl 14 (Nat.le_of_ble_eq_true rfl) (hts _ k_1334) (fun _ h9 => h9) rfl dX11_misfitOf_241 ?_
                refine lv_iload hx hb dX11_misfitOf_244 (lv_at hl 0 rfl) ?_
                refine ldI hx hb hE hP 6 rfl (vpI (k := 320) rfl (show 0 ≤ l4_30.toInt from om_39 hr4_30) (show l4_30.toInt < 320 from om_490 b9_v zc31)) rfl rfl dX11_misfitOf_246 ?_
                refine lv_topi (fun t88 et88 => ?_)
                have hat88 : t88.toInt = (f 5 l4_30.toInt.toNat).toInt := by rw [et88, hs5_f30]; rfl
                refine ldI hx hb hE hP 9 rfl (vpI (k := 6) rfl (show 0 ≤ t88.toInt by omega) (show t88.toInt < 6 by omega)) rfl rfl dX11_misfitOf_247 ?_
                refine lv_topi (fun t89 et89 => ?_)
                refine stI hx hb hE hP hD hS 8 rfl (vpI (k := 64) rfl (show 0 ≤ l3_30.toInt from om_546 hr3_30) (show l3_30.toInt < 64 by omega)) rfl dX11_misfitOf_248 (fun H locs hP hD hS => ?_)
                obtain ⟨f90, ef90, hP, hD⟩ : ∃ fz9, fz9 = upd2 f30 7 (upd (f30 7) l3_30.toNatClampNeg t89) ∧ va_P (dC, dI) vwCl (YW cy y0 r v30 fz9 w30 g30) H ∧ va_D A (YW cy y0 r v30 fz9 w30 g30) := ⟨_, rfl, hP, hD⟩
                have hCf90 : YC f90 := by rw [ef90]; exact hCf30
                have hs4_f90 : f90 4 = f 4 := by rw [ef90]; exact hs4_f30
                have hs5_f90 : f90 5 = f 5 := by rw [ef90]; exact hs5_f30
                have hRf90 : progOK (f90 4) (f90 5) (v30 9).toInt.toNat := by rw [ef90]; exact hRf30
                have hA_f90 : KF [7, 8] f90 f := by rw [ef90]; exact KF.up hA_f30 rfl
                obtain ⟨t91, et91⟩ : ∃ y : Int32, y = l3_30 + 1 := ⟨_, rfl⟩
                have rg92 := fb_rng l3_30
                have zt91 : t91.toInt = l3_30.toInt + 1 := (congrArg Int32.toInt et91).trans (add_i rfl tc_1 (om_547 hr3_30) (om_548 hr3_30))
                refine lv_iinc (v := t91) (lv' := [(3, .int t91), (4, .int l4_30), (0, .ref y0), (1, .int p1), (2, .int p2)]) hx hb dX11_misfitOf_249 hl (k := 1) rfl et91.symm (Nat.le_of_ble_eq_true rfl) rfl (fun ls hl => ?_)
                refine lv_goto (tgt := 331) hx hb dX11_misfitOf_252 rfl ?_
                obtain ⟨t93, et93⟩ : ∃ y : Int32, y = l4_30 + 1 := ⟨_, rfl⟩
                have zt93 : t93.toInt = l4_30.toInt + 1 := (congrArg Int32.toInt et93).trans (add_i rfl tc_1 (om_41 hr4_30) (om_491 b9_v zc31))
                refine lv_iinc (v := t93) (lv' := [(4, .int t93), (3, .int t91), (0, .ref y0), (1, .int p1), (2, .int p2)]) hx hb dX11_misfitOf_331 hl (k := 1) rfl et93.symm (Nat.le_of_ble_eq_true rfl) rfl (fun ls hl => ?_)
                refine lv_goto (tgt := 181) hx hb dX11_misfitOf_334 rfl ?_
                have rg94 := fb_rng t91
                have rg95 := fb_rng t93
                exact ih30 t91 t93 v30 f90 w30 g30 hIv30 hCf90 hRf90 hq0_v30 hq1_v30 hq2_v30 hq3_v30 hq4_v30 hq5_v30 hq8_v30 hq9_v30 hq10_v30 hq13_v30 hq14_v30 hq15_v30 hq17_v30 hq18_v30 hq24_v30 hq25_v30 hq35_v30 hq36_v30 hq38_v30 hq39_v30 ((gsY_X11_misfitOf_1_q6 c31 et39 c40 c57 c87 et88 et89 ef90 et91 et93).symm.trans hT30) ⟨show (0 : Int) ≤ t91.toInt from om_549 hr3_30 zt91, show t91.toInt ≤ (64 : Int) by omega⟩ ⟨show (0 : Int) ≤ t93.toInt from om_43 hr4_30 zt93, show t93.toInt ≤ (2147483647 : Int) from om_44 rg95⟩ (by rw [show (t93.toInt).toNat = (l4_30.toInt).toNat + 1 from om_550 hr4_30 zt93]; omega) hs4_f90 hs5_f90 hM_v30 hA_f90 (show (2147483647 - t93.toInt).toNat < n30 from om_33 hm30 zt93 rg95) _ _ _ hP hD hS (lv_sub hl [0, 1, 2, 3, 4] rfl)
              · skip
                have zc87 : t39.toInt = 0 := zEp rfl tc_0 c87
                refine lv_aload_n hx hb dX11_misfitOf_226 rfl (lv_at hl 2 rfl) ?_
                refine va_get (D := (dC, dI)) (ci := 11) (v := .ref (r 14)) (C := RX11) (T := TX11) (N := 79) hx hb hts inB_11 hown hE.1 hP 0 rfl rfl 14 (Nat.le_of_ble_eq_true rfl) (hts _ k_1334) (fun _ h9 => h9) rfl dX11_misfitOf_227 ?_
                refine lv_iload hx hb dX11_misfitOf_230 (lv_at hl 0 rfl) ?_
                refine ldI hx hb hE hP 6 rfl (vpI (k := 320) rfl (show 0 ≤ l4_30.toInt from om_39 hr4_30) (show l4_30.toInt < 320 from om_490 b9_v zc31)) rfl rfl dX11_misfitOf_232 ?_
                refine lv_topi (fun t96 et96 => ?_)
                have hat96 : t96.toInt = (f 5 l4_30.toInt.toNat).toInt := by rw [et96, hs5_f30]; rfl
                refine lv_goto (tgt := 248) hx hb dX11_misfitOf_233 rfl ?_
                refine stI hx hb hE hP hD hS 8 rfl (vpI (k := 64) rfl (show 0 ≤ l3_30.toInt from om_546 hr3_30) (show l3_30.toInt < 64 by omega)) rfl dX11_misfitOf_248 (fun H locs hP hD hS => ?_)
                obtain ⟨f97, ef97, hP, hD⟩ : ∃ fz9, fz9 = upd2 f30 7 (upd (f30 7) l3_30.toNatClampNeg t96) ∧ va_P (dC, dI) vwCl (YW cy y0 r v30 fz9 w30 g30) H ∧ va_D A (YW cy y0 r v30 fz9 w30 g30) := ⟨_, rfl, hP, hD⟩
                have hCf97 : YC f97 := by rw [ef97]; exact hCf30
                have hs4_f97 : f97 4 = f 4 := by rw [ef97]; exact hs4_f30
                have hs5_f97 : f97 5 = f 5 := by rw [ef97]; exact hs5_f30
                have hRf97 : progOK (f97 4) (f97 5) (v30 9).toInt.toNat := by rw [ef97]; exact hRf30
                have hA_f97 : KF [7, 8] f97 f := by rw [ef97]; exact KF.up hA_f30 rfl
                obtain ⟨t98, et98⟩ : ∃ y : Int32, y = l3_30 + 1 := ⟨_, rfl⟩
                have rg99 := fb_rng l3_30
                have zt98 : t98.toInt = l3_30.toInt + 1 := (congrArg Int32.toInt et98).trans (add_i rfl tc_1 (om_547 hr3_30) (om_548 hr3_30))
                refine lv_iinc (v := t98) (lv' := [(3, .int t98), (4, .int l4_30), (0, .ref y0), (1, .int p1), (2, .int p2)]) hx hb dX11_misfitOf_249 hl (k := 1) rfl et98.symm (Nat.le_of_ble_eq_true rfl) rfl (fun ls hl => ?_)
                refine lv_goto (tgt := 331) hx hb dX11_misfitOf_252 rfl ?_
                obtain ⟨t100, et100⟩ : ∃ y : Int32, y = l4_30 + 1 := ⟨_, rfl⟩
                have zt100 : t100.toInt = l4_30.toInt + 1 := (congrArg Int32.toInt et100).trans (add_i rfl tc_1 (om_41 hr4_30) (om_491 b9_v zc31))
                refine lv_iinc (v := t100) (lv' := [(4, .int t100), (3, .int t98), (0, .ref y0), (1, .int p1), (2, .int p2)]) hx hb dX11_misfitOf_331 hl (k := 1) rfl et100.symm (Nat.le_of_ble_eq_true rfl) rfl (fun ls hl => ?_)
                refine lv_goto (tgt := 181) hx hb dX11_misfitOf_334 rfl ?_
                have rg101 := fb_rng t98
                have rg102 := fb_rng t100
                exact ih30 t98 t100 v30 f97 w30 g30 hIv30 hCf97 hRf97 hq0_v30 hq1_v30 hq2_v30 hq3_v30 hq4_v30 hq5_v30 hq8_v30 hq9_v30 hq10_v30 hq13_v30 hq14_v30 hq15_v30 hq17_v30 hq18_v30 hq24_v30 hq25_v30 hq35_v30 hq36_v30 hq38_v30 hq39_v30 ((gsY_X11_misfitOf_1_q7 c31 et39 c40 c57 c87 et96 ef97 et98 et100).symm.trans hT30) ⟨show (0 : Int) ≤ t98.toInt from om_549 hr3_30 zt98, show t98.toInt ≤ (64 : Int) by omega⟩ ⟨show (0 : Int) ≤ t100.toInt from om_43 hr4_30 zt100, show t100.toInt ≤ (2147483647 : Int) from om_44 rg102⟩ (by rw [show (t100.toInt).toNat = (l4_30.toInt).toNat + 1 from om_550 hr4_30 zt100]; omega) hs4_f97 hs5_f97 hM_v30 hA_f97 (show (2147483647 - t100.toInt).toNat < n30 from om_33 hm30 zt100 rg102) _ _ _ hP hD hS (lv_sub hl [0, 1, 2, 3, 4] rfl)
    exact lp30 (4294967296 + NF) 0 0 v f28 w g hIv hCf28 hRf28 rfl rfl rfl rfl rfl rfl rfl rfl rfl rfl rfl rfl rfl rfl rfl rfl rfl rfl rfl rfl (gsY_X11_misfitOf_1_q8 et1 et2 et4 hG6.symm ef7 et8 et9 hG11.symm ef12 et13 et14 et15 hG17.symm ef18 et19 et20 hG22.symm ef23 et24 et25 ef26 et27 ef28 c29).symm ⟨by decide, by decide⟩ ⟨by decide, by decide⟩ rfl hs4_f28 hs5_f28 hM_v hA_f28 (show (2147483647 - (0 : Int32).toInt).toNat < 4294967296 + NF from om_38 tc_0) _ _ _ hP hD hS (lv_sub hl [0, 1, 2, 3, 4] rfl)
  · skip
    refine lv_iconst (v := 3) hx hb dX11_misfitOf_131 rfl ?_
    refine lv_aload_n hx hb dX11_misfitOf_132 rfl (lv_at hl 0 rfl) ?_
    refine va_get (D := (dC, dI)) (ci := 11) (v := .ref (r 26)) (C := RX11) (T := TX11) (N := 79) hx hb hts inB_11 hown hE.1 hP 0 rfl rfl 26 (Nat.le_of_ble_eq_true rfl) (hts _ k_1346) (fun _ h9 => h9) rfl dX11_misfitOf_133 ?_
    refine lv_iconst (v := 0) hx hb dX11_misfitOf_136 rfl ?_
    refine ldI hx hb hE hP 9 rfl (vp_in_nI (n := 0) (by decide) (by decide)) rfl rfl dX11_misfitOf_137 ?_
    refine lv_topi (fun t103 et103 => ?_)
    refine lv_imul hx hb dX11_misfitOf_138 ?_
    refine lv_topi (fun t104 et104 => ?_)
    refine lv_aload_n hx hb dX11_misfitOf_139 rfl (lv_at hl 0 rfl) ?_
    refine va_get (D := (dC, dI)) (ci := 11) (v := .ref (r 26)) (C := RX11) (T := TX11) (N := 79) hx hb hts inB_11 hown hE.1 hP 0 rfl rfl 26 (Nat.le_of_ble_eq_true rfl) (hts _ k_1346) (fun _ h9 => h9) rfl dX11_misfitOf_140 ?_
    refine lv_iconst (v := 1) hx hb dX11_misfitOf_143 rfl ?_
    refine ldI hx hb hE hP 9 rfl (vp_in_nI (n := 1) (by decide) (by decide)) rfl rfl dX11_misfitOf_144 ?_
    refine lv_topi (fun t105 et105 => ?_)
    refine lv_iadd hx hb dX11_misfitOf_145 ?_
    refine lv_topi (fun t106 et106 => ?_)
    refine lv_iconst (v := 2) hx hb dX11_misfitOf_146 rfl ?_
    refine lv_aload_n hx hb dX11_misfitOf_147 rfl (lv_at hl 0 rfl) ?_
    refine va_get (D := (dC, dI)) (ci := 11) (v := .ref (r 26)) (C := RX11) (T := TX11) (N := 79) hx hb hts inB_11 hown hE.1 hP 0 rfl rfl 26 (Nat.le_of_ble_eq_true rfl) (hts _ k_1346) (fun _ h9 => h9) rfl dX11_misfitOf_148 ?_
    refine lv_iconst (v := 2) hx hb dX11_misfitOf_151 rfl ?_
    refine ldI hx hb hE hP 9 rfl (vp_in_nI (n := 2) (by decide) (by decide)) rfl rfl dX11_misfitOf_152 ?_
    refine lv_topi (fun t107 et107 => ?_)
    refine lv_imul hx hb dX11_misfitOf_153 ?_
    refine lv_topi (fun t108 et108 => ?_)
    refine lv_iadd hx hb dX11_misfitOf_154 ?_
    refine lv_topi (fun t109 et109 => ?_)
    refine lv_aload_n hx hb dX11_misfitOf_155 rfl (lv_at hl 0 rfl) ?_
    refine va_get (D := (dC, dI)) (ci := 11) (v := .ref (r 26)) (C := RX11) (T := TX11) (N := 79) hx hb hts inB_11 hown hE.1 hP 0 rfl rfl 26 (Nat.le_of_ble_eq_true rfl) (hts _ k_1346) (fun _ h9 => h9) rfl dX11_misfitOf_156 ?_
    refine lv_iconst (v := 3) hx hb dX11_misfitOf_159 rfl ?_
    refine ldI hx hb hE hP 9 rfl (vp_in_nI (n := 3) (by decide) (by decide)) rfl rfl dX11_misfitOf_160 ?_
    refine lv_topi (fun t110 et110 => ?_)
    refine lv_iadd hx hb dX11_misfitOf_161 ?_
    refine lv_topi (fun t111 et111 => ?_)
    refine lv_aload_n hx hb dX11_misfitOf_162 rfl (lv_at hl 0 rfl) ?_
    refine va_get (D := (dC, dI)) (ci := 11) (v := .ref (r 26)) (C := RX11) (T := TX11) (N := 79) hx hb hts inB_11 hown hE.1 hP 0 rfl rfl 26 (Nat.le_of_ble_eq_true rfl) (hts _ k_1346) (fun _ h9 => h9) rfl dX11_misfitOf_163 ?_
    refine lv_iconst (v := 4) hx hb dX11_misfitOf_166 rfl ?_
    refine ldI hx hb hE hP 9 rfl (vp_in_nI (n := 4) (by decide) (by decide)) rfl rfl dX11_misfitOf_167 ?_
    refine lv_topi (fun t112 et112 => ?_)
    refine lv_iadd hx hb dX11_misfitOf_168 ?_
    refine lv_topi (fun t113 et113 => ?_)
    refine lv_sipush (v := 999) hx hb dX11_misfitOf_169 rfl ?_
    refine cbSi (n := 2) (rest := []) hx hb hml hown hts hE hP hD hS hA (sY_X11_within_1 NF l dC dI cy y0 r t113 999 v f28 w g hIv hCf28 hRf28 ) k_1758 k_1759 k_114 k_1760 he_yX11_within ⟨Nat.le_of_ble_eq_true rfl, Nat.le_of_ble_eq_true rfl⟩ (rfl) hl.1 rfl (Nat.le_of_ble_eq_true rfl) dX11_misfitOf_172 (fun r114 u H locs hw hP hD hS => ?_)
    have hG115 := hw
    exact ret r114 (v, f28, w, g) _ _ _ _ _ _ rfl ⟨(gsY_X11_misfitOf_1_q9 et1 et2 et4 hG6.symm ef7 et8 et9 hG11.symm ef12 et13 et14 et15 hG17.symm ef18 et19 et20 hG22.symm ef23 et24 et25 ef26 et27 ef28 c29 et103 et104 et105 et106 et107 et108 et109 et110 et111 et112 et113 hG115.symm), hM_v, hA_f28, hIv, hCf28, hRf28, rfl, rfl, rfl, rfl, rfl, rfl, rfl, rfl, rfl, rfl, rfl, rfl, rfl, rfl, rfl, rfl, rfl, rfl, rfl, rfl⟩ hP hD hS dX11_misfitOf_175 (Nat.le_refl _) (Nat.le_refl _)
set_option maxHeartbeats 4000000 in
set_option maxRecDepth 100000 in
theorem sY_X11_misfit_1 (NF : Nat) (l : Launch) (dC : Nat → ClassId) (dI : Nat → Nat → Nat) (cy : Nat → ClassId) (y0 : Nat) (r : Nat → Nat) (p1 : Int32) (p2 : Int32) (v : Nat → Int32) (f : Nat → Nat → Int32) (w : Int64) (g : Nat → Int64) (hIv : YI v) (hCf : YC f) (hRf : progOK (f 4) (f 5) (v 9).toInt.toNat)  : ctI l (dC, dI) cy yX11_misfit cX11_misfit 3 .int 4 126 0 0 ((Nat → Int32) × (Nat → Nat → Int32) × (Int64) × (Nat → Int64)) [.ref y0, .int p1, .int p2] (YW cy y0 r v f w g) (fun r u => gsY_X11_misfit_1 NF p1 p2 v f w g = (r, u) ∧ KV [] u.1 v ∧ KF [7, 8, 24] u.2.1 f ∧ YI u.1 ∧ YC u.2.1 ∧ progOK (u.2.1 4) (u.2.1 5) (u.1 9).toInt.toNat ∧ u.1 0 = v 0 ∧ u.1 1 = v 1 ∧ u.1 2 = v 2 ∧ u.1 3 = v 3 ∧ u.1 4 = v 4 ∧ u.1 5 = v 5 ∧ u.1 8 = v 8 ∧ u.1 9 = v 9 ∧ u.1 10 = v 10 ∧ u.1 13 = v 13 ∧ u.1 14 = v 14 ∧ u.1 15 = v 15 ∧ u.1 17 = v 17 ∧ u.1 18 = v 18 ∧ u.1 24 = v 24 ∧ u.1 25 = v 25 ∧ u.1 35 = v 35 ∧ u.1 36 = v 36 ∧ u.1 38 = v 38 ∧ u.1 39 = v 39) (fun u => YW cy y0 r u.1 u.2.1 u.2.2.1 u.2.2.2) := by
  refine ctI_of (by decide) (Nat.le_of_ble_eq_true rfl) (fun p e s m below meth c A ls Q hx hb hml hts hown hE hP hD hA hl ret => ?_)
  have hM_v : KV [] v v := fun _ _ => rfl
  have hA_f : KF [7, 8, 24] f f := fun _ _ => rfl
  have hown : s.vm.findClass RX11 = some m.cls := hown
  have hS : va_S A s.heap s.heap [] := va_S.rf
  have hl : lv_has ls 3 [(0, .ref y0), (1, .int p1), (2, .int p2)] := hl
  refine lv_aload_n hx hb dX11_misfit_0 rfl (lv_at hl 0 rfl) ?_
  refine cbVv (n := 0) (rest := []) hx hb hml hown hts hE hP hD hS hA (sY_X11_fill_1 NF l dC dI cy y0 r  v f w g hIv hCf hRf ) k_1739 k_1741 k_71 k_114 k_1742 hd_yX11_fill ⟨Nat.le_of_ble_eq_true rfl, Nat.le_of_ble_eq_true rfl⟩ 0 11 rfl rfl (rfl) hl.1 rfl (Nat.le_of_ble_eq_true rfl) dX11_misfit_1 (fun u H locs hw hP hD hS => ?_)
  obtain ⟨hG1, hw⟩ := hw
  obtain ⟨v2, f3, w4, g5⟩ := u
  obtain ⟨kV_v2, kF_f3, hIv2, hCf3, hRf3, hk0_v2, hk1_v2, hk2_v2, hk3_v2, hk4_v2, hk5_v2, hk8_v2, hk9_v2, hk10_v2, hk13_v2, hk14_v2, hk15_v2, hk17_v2, hk18_v2, hk24_v2, hk25_v2, hk35_v2, hk36_v2, hk38_v2, hk39_v2⟩ := hw
  have hM_v2 : KV [] v2 v := KV.tr kV_v2 hM_v rfl
  have hA_f3 : KF [7, 8, 24] f3 f := KF.tr kF_f3 hA_f rfl
  have hP : va_P (dC, dI) vwCl (YW cy y0 r v2 f3 w4 g5) H := hP
  have hD : va_D A (YW cy y0 r v2 f3 w4 g5) := hD
  refine lv_aload_n hx hb dX11_misfit_4 rfl (lv_at hl 0 rfl) ?_
  refine lv_iload_n hx hb dX11_misfit_5 rfl (lv_at hl 1 rfl) ?_
  refine cbVi (n := 1) (rest := []) hx hb hml hown hts hE hP hD hS hA (sY_X11_isMan_1 NF l dC dI cy y0 r p1 v2 f3 w4 g5 hIv2 hCf3 hRf3 ) k_1732 k_1734 k_70 k_114 k_1735 hd_yX11_isMan ⟨Nat.le_of_ble_eq_true rfl, Nat.le_of_ble_eq_true rfl⟩ 0 11 rfl rfl (rfl) hl.1 rfl (Nat.le_of_ble_eq_true rfl) dX11_misfit_6 (fun r6 u H locs hw hP hD hS => ?_)
  obtain ⟨hG7, hw⟩ := hw
  rcases hw with ⟨g8, g8_0, g8_1, g8_2⟩ | ⟨g8⟩
  · skip
    subst g8
    refine lv_if_eq (tgt := 29) hx hb dX11_misfit_9 rfl (fun c0 => absurd c0 (by decide)) (fun _ => ?_)
    refine lv_aload_n hx hb dX11_misfit_12 rfl (lv_at hl 0 rfl) ?_
    refine lv_iload_n hx hb dX11_misfit_13 rfl (lv_at hl 2 rfl) ?_
    refine cbVi (n := 1) (rest := []) hx hb hml hown hts hE hP hD hS hA (sY_X11_isCoat_1 NF l dC dI cy y0 r p2 v2 f3 w4 g5 hIv2 hCf3 hRf3 ) k_1771 k_1773 k_75 k_114 k_1774 hd_yX11_isCoat ⟨Nat.le_of_ble_eq_true rfl, Nat.le_of_ble_eq_true rfl⟩ 0 11 rfl rfl (rfl) hl.1 rfl (Nat.le_of_ble_eq_true rfl) dX11_misfit_14 (fun r9 u H locs hw hP hD hS => ?_)
    obtain ⟨hG10, hw⟩ := hw
    rcases hw with ⟨g11, g11_0, g11_1, g11_2⟩ | ⟨g11⟩
    · skip
      subst g11
      refine lv_if_eq (tgt := 29) hx hb dX11_misfit_17 rfl (fun c0 => absurd c0 (by decide)) (fun _ => ?_)
      refine lv_aload_n hx hb dX11_misfit_20 rfl (lv_at hl 0 rfl) ?_
      refine lv_iload_n hx hb dX11_misfit_21 rfl (lv_at hl 1 rfl) ?_
      refine lv_iload_n hx hb dX11_misfit_22 rfl (lv_at hl 2 rfl) ?_
      refine cbVi (n := 2) (rest := []) hx hb hml hown hts hE hP hD hS hA (sY_X11_misfitOf_1 NF l dC dI cy y0 r p1 p2 v2 f3 w4 g5 hIv2 hCf3 hRf3 ⟨show (0 : Int) ≤ p1.toInt from om_62 g8_0, show p1.toInt ≤ (5 : Int) from om_451 g8_2⟩ ⟨show (0 : Int) ≤ p2.toInt from om_62 g11_0, show p2.toInt ≤ (5 : Int) from om_451 g11_2⟩) k_1751 k_1753 k_74 k_114 k_1754 hd_yX11_misfitOf ⟨Nat.le_of_ble_eq_true rfl, Nat.le_of_ble_eq_true rfl⟩ 0 11 rfl rfl (rfl) hl.1 rfl (Nat.le_of_ble_eq_true rfl) dX11_misfit_23 (fun r12 u H locs hw hP hD hS => ?_)
      obtain ⟨hG13, hw⟩ := hw
      obtain ⟨v14, f15, w16, g17⟩ := u
      obtain ⟨kV_v14, kF_f15, hIv14, hCf15, hRf15, hk0_v14, hk1_v14, hk2_v14, hk3_v14, hk4_v14, hk5_v14, hk8_v14, hk9_v14, hk10_v14, hk13_v14, hk14_v14, hk15_v14, hk17_v14, hk18_v14, hk24_v14, hk25_v14, hk35_v14, hk36_v14, hk38_v14, hk39_v14⟩ := hw
      have hM_v14 : KV [] v14 v := KV.tr kV_v14 hM_v2 rfl
      have hA_f15 : KF [7, 8, 24] f15 f := KF.tr kF_f15 hA_f3 rfl
      have hP : va_P (dC, dI) vwCl (YW cy y0 r v14 f15 w16 g17) H := hP
      have hD : va_D A (YW cy y0 r v14 f15 w16 g17) := hD
      refine lv_goto (tgt := 30) hx hb dX11_misfit_26 rfl ?_
      exact ret r12 (v14, f15, w16, g17) _ _ _ _ _ _ rfl ⟨(gsY_X11_misfit_1_q0 hG1 hG7 hG10 hG13), hM_v14, hA_f15, hIv14, hCf15, hRf15, (hk0_v14.trans hk0_v2), (hk1_v14.trans hk1_v2), (hk2_v14.trans hk2_v2), (hk3_v14.trans hk3_v2), (hk4_v14.trans hk4_v2), (hk5_v14.trans hk5_v2), (hk8_v14.trans hk8_v2), (hk9_v14.trans hk9_v2), (hk10_v14.trans hk10_v2), (hk13_v14.trans hk13_v2), (hk14_v14.trans hk14_v2), (hk15_v14.trans hk15_v2), (hk17_v14.trans hk17_v2), (hk18_v14.trans hk18_v2), (hk24_v14.trans hk24_v2), (hk25_v14.trans hk25_v2), (hk35_v14.trans hk35_v2), (hk36_v14.trans hk36_v2), (hk38_v14.trans hk38_v2), (hk39_v14.trans hk39_v2)⟩ hP hD hS dX11_misfit_30 (Nat.le_refl _) (Nat.le_refl _)
    · skip
      subst g11
      refine lv_if_eq (tgt := 29) hx hb dX11_misfit_17 rfl (fun _ => ?_) (fun c0 => absurd (by decide) c0)
      refine lv_iconst (v := (-1)) hx hb dX11_misfit_29 rfl ?_
      exact ret (-1) (v2, f3, w4, g5) _ _ _ _ _ _ rfl ⟨(gsY_X11_misfit_1_q1 hG1 hG7 hG10), hM_v2, hA_f3, hIv2, hCf3, hRf3, hk0_v2, hk1_v2, hk2_v2, hk3_v2, hk4_v2, hk5_v2, hk8_v2, hk9_v2, hk10_v2, hk13_v2, hk14_v2, hk15_v2, hk17_v2, hk18_v2, hk24_v2, hk25_v2, hk35_v2, hk36_v2, hk38_v2, hk39_v2⟩ hP hD hS dX11_misfit_30 (Nat.le_refl _) (Nat.le_refl _)
  · skip
    subst g8
    refine lv_if_eq (tgt := 29) hx hb dX11_misfit_9 rfl (fun _ => ?_) (fun c0 => absurd (by decide) c0)
    refine lv_iconst (v := (-1)) hx hb dX11_misfit_29 rfl ?_
    exact ret (-1) (v2, f3, w4, g5) _ _ _ _ _ _ rfl ⟨(gsY_X11_misfit_1_q2 hG1 hG7), hM_v2, hA_f3, hIv2, hCf3, hRf3, hk0_v2, hk1_v2, hk2_v2, hk3_v2, hk4_v2, hk5_v2, hk8_v2, hk9_v2, hk10_v2, hk13_v2, hk14_v2, hk15_v2, hk17_v2, hk18_v2, hk24_v2, hk25_v2, hk35_v2, hk36_v2, hk38_v2, hk39_v2⟩ hP hD hS dX11_misfit_30 (Nat.le_refl _) (Nat.le_refl _)
set_option maxHeartbeats 4000000 in
set_option maxRecDepth 100000 in
theorem sY_X11_act_1 (NF : Nat) (l : Launch) (dC : Nat → ClassId) (dI : Nat → Nat → Nat) (cy : Nat → ClassId) (y0 : Nat) (r : Nat → Nat)  (v : Nat → Int32) (f : Nat → Nat → Int32) (w : Int64) (g : Nat → Int64) (hIv : YI v) (hCf : YC f) (hRf : progOK (f 4) (f 5) (v 9).toInt.toNat)  : ctV l (dC, dI) cy yX11_act cX11_act 2 2 81 0 0 ((Nat → Int32) × (Nat → Nat → Int32) × (Int64) × (Nat → Int64)) [.ref y0] (YW cy y0 r v f w g) (fun u => gsY_X11_act_1 NF v f w g = u ∧ KV [35, 36] u.1 v ∧ KF [24, 25] u.2.1 f ∧ YI u.1 ∧ YC u.2.1 ∧ progOK (u.2.1 4) (u.2.1 5) (u.1 9).toInt.toNat ∧ u.1 0 = v 0 ∧ u.1 1 = v 1 ∧ u.1 2 = v 2 ∧ u.1 3 = v 3 ∧ u.1 4 = v 4 ∧ u.1 5 = v 5 ∧ u.1 8 = v 8 ∧ u.1 9 = v 9 ∧ u.1 10 = v 10 ∧ u.1 13 = v 13 ∧ u.1 14 = v 14 ∧ u.1 15 = v 15 ∧ u.1 17 = v 17 ∧ u.1 18 = v 18 ∧ u.1 24 = v 24 ∧ u.1 25 = v 25 ∧ u.1 38 = v 38 ∧ u.1 39 = v 39) (fun u => YW cy y0 r u.1 u.2.1 u.2.2.1 u.2.2.2) := by
  refine ctV_of (by decide) (Nat.le_of_ble_eq_true rfl) (fun p e s m below meth c A ls Q hx hb hml hts hown hnm hE hP hD hA hl ret => ?_)
  have hUv : (v 35).toInt + (v 36).toInt ≤ 40 := hIv.2
  have hM_v : KV [35, 36] v v := fun _ _ => rfl
  have hA_f : KF [24, 25] f f := fun _ _ => rfl
  have hown : s.vm.findClass RX11 = some m.cls := hown
  have hS : va_S A s.heap s.heap [] := va_S.rf
  have hl : lv_has ls 2 [(0, .ref y0)] := hl
  refine lv_aload_n hx hb dX11_act_0 rfl (lv_at hl 0 rfl) ?_
  refine va_get (D := (dC, dI)) (ci := 11) (v := .int (v 35)) (C := RX11) (T := TX11) (N := 79) hx hb hts inB_11 hown hE.1 hP 0 rfl rfl 62 (Nat.le_of_ble_eq_true rfl) (hts _ k_1382) (fun _ h9 => h9) rfl dX11_act_1 ?_
  have b35_v : 0 ≤ (v 35).toInt ∧ (v 35).toInt ≤ 40 := Yb_35 hIv.1
  refine lv_bipush (v := 40) hx hb dX11_act_4 rfl ?_
  refine lv_icmp_ne (tgt := 49) hx hb dX11_act_6 rfl (fun c1 => ?_) (fun c1 => ?_)
  · skip
    have zc1 : ¬ ((v 35).toInt = 40) := zEn rfl tc_40 c1
    refine lv_iconst (v := 0) hx hb dX11_act_49 rfl ?_
    refine lv_istore_n (lv' := [(1, .int 0), (0, .ref y0)]) hx hb dX11_act_50 rfl hl (Nat.le_of_ble_eq_true rfl) rfl (fun ls hl => ?_)
    have lp2 : ∀ (n2 : Nat) (l1_2 : Int32) (v2 : Nat → Int32) (f2 : Nat → Nat → Int32) (w2 : Int64) (g2 : Nat → Int64), YI v2 → YC f2 → progOK (f2 4) (f2 5) (v2 9).toInt.toNat → v2 0 = (v 0) → v2 1 = (v 1) → v2 2 = (v 2) → v2 3 = (v 3) → v2 4 = (v 4) → v2 5 = (v 5) → v2 8 = (v 8) → v2 9 = (v 9) → v2 10 = (v 10) → v2 13 = (v 13) → v2 14 = (v 14) → v2 15 = (v 15) → v2 17 = (v 17) → v2 18 = (v 18) → v2 24 = (v 24) → v2 25 = (v 25) → v2 35 = (v 35) → v2 36 = (v 36) → v2 38 = (v 38) → v2 39 = (v 39) → gsY_X11_act_1_L2 NF v n2 l1_2 v2 f2 w2 g2 = (gsY_X11_act_1 NF v f w g) → ((0 : Int) ≤ l1_2.toInt ∧ l1_2.toInt ≤ 2147483647) → KV [35, 36] v2 v → KF [24, 25] f2 f → (2147483647 - l1_2.toInt).toNat < n2 → ∀ (H : Heap) (locs : List Loc) (ls : Array Slot), va_P (dC, dI) vwCl (YW cy y0 r v2 f2 w2 g2) H → va_D A (YW cy y0 r v2 f2 w2 g2) → va_S A s.heap H locs → lv_has ls 2 [(1, .int l1_2), (0, .ref y0)] → W p l e { frames := 2, cells := 0, slots := 0, locals := 81 } s m ([.ref y0] : List Value).toArray below meth c H locs 0 0 Q (F0 m 51 ls []) := by
      intro n2
      induction n2 with
      | zero => intro l1_2 v2 f2 w2 g2 hIv2 hCf2 hRf2 hq0_v2 hq1_v2 hq2_v2 hq3_v2 hq4_v2 hq5_v2 hq8_v2 hq9_v2 hq10_v2 hq13_v2 hq14_v2 hq15_v2 hq17_v2 hq18_v2 hq24_v2 hq25_v2 hq35_v2 hq36_v2 hq38_v2 hq39_v2 hT2 hr1_2 hM_v2 hA_f2 hm; exact absurd hm (Nat.not_lt_zero _)
      | succ n2 ih2 =>
        intro l1_2 v2 f2 w2 g2 hIv2 hCf2 hRf2 hq0_v2 hq1_v2 hq2_v2 hq3_v2 hq4_v2 hq5_v2 hq8_v2 hq9_v2 hq10_v2 hq13_v2 hq14_v2 hq15_v2 hq17_v2 hq18_v2 hq24_v2 hq25_v2 hq35_v2 hq36_v2 hq38_v2 hq39_v2 hT2 hr1_2 hM_v2 hA_f2 hm2 H locs ls hP hD hS hl
        have hUv2 : (v2 35).toInt + (v2 36).toInt ≤ 40 := hIv2.2
        have zq9_v2 := congrArg Int32.toInt hq9_v2
        have zq35_v2 := congrArg Int32.toInt hq35_v2
        have zq36_v2 := congrArg Int32.toInt hq36_v2
        refine lv_iload_n hx hb dX11_act_51 rfl (lv_at hl 0 rfl) ?_
        refine lv_bipush (v := 39) hx hb dX11_act_52 rfl ?_
        refine lv_icmp_ge (tgt := 83) hx hb dX11_act_54 rfl (fun c3 => ?_) (fun c3 => ?_)
        · skip
          refine lv_aload_n hx hb dX11_act_83 rfl (lv_at hl 1 rfl) ?_
          refine lv_dup hx hb dX11_act_84 rfl ?_
          refine va_get (D := (dC, dI)) (ci := 11) (v := .int (v2 35)) (C := RX11) (T := TX11) (N := 79) hx hb hts inB_11 hown hE.1 hP 0 rfl rfl 62 (Nat.le_of_ble_eq_true rfl) (hts _ k_1382) (fun _ h9 => h9) rfl dX11_act_85 ?_
          refine tI (y := (v 35)) hq35_v2 ?_
          have b35_v : 0 ≤ (v 35).toInt ∧ (v 35).toInt ≤ 40 := Yb_35 hIv.1
          refine lv_iconst (v := 1) hx hb dX11_act_88 rfl ?_
          refine lv_iadd hx hb dX11_act_89 ?_
          refine lv_topi (fun t4 et4 => ?_)
          have zt4 : t4.toInt = (v 35).toInt + 1 := (congrArg Int32.toInt et4).trans (add_i rfl tc_1 (om_561 b35_v) (om_562 b35_v))
          refine va_put (D := (dC, dI)) (ci := 11) (v := .int t4) (ty := tyX11 62) (C := RX11) (T := TX11) (N := 79) hx hb hts inB_11 tyX11 tyX11_ok nmX11 hown hE.1 hP hD hS 0 rfl rfl 62 (Nat.le_of_ble_eq_true rfl) (hts _ k_1382) (fun _ h9 => h9) rfl (tyX11_ok 62 (Nat.le_of_ble_eq_true rfl)) rfl rfl (Nat.le_of_ble_eq_true rfl) dX11_act_90 (fun H locs hP hD hS => ?_)
          have hP : va_P (dC, dI) vwCl (YW cy y0 r (upd v2 35 t4) f2 w2 g2) H := hP
          have hD : va_D A (YW cy y0 r (upd v2 35 t4) f2 w2 g2) := hD
          refine lv_aload_n hx hb dX11_act_93 rfl (lv_at hl 1 rfl) ?_
          refine lv_iconst (v := 0) hx hb dX11_act_94 rfl ?_
          refine va_put (D := (dC, dI)) (ci := 11) (v := .int 0) (ty := tyX11 63) (C := RX11) (T := TX11) (N := 79) hx hb hts inB_11 tyX11 tyX11_ok nmX11 hown hE.1 hP hD hS 0 rfl rfl 63 (Nat.le_of_ble_eq_true rfl) (hts _ k_1383) (fun _ h9 => h9) rfl (tyX11_ok 63 (Nat.le_of_ble_eq_true rfl)) rfl rfl (Nat.le_of_ble_eq_true rfl) dX11_act_95 (fun H locs hP hD hS => ?_)
          have hP : va_P (dC, dI) vwCl (YW cy y0 r (upd (upd v2 35 t4) 36 0) f2 w2 g2) H := hP
          have hD : va_D A (YW cy y0 r (upd (upd v2 35 t4) 36 0) f2 w2 g2) := hD
          refine lv_aload_n hx hb dX11_act_98 rfl (lv_at hl 1 rfl) ?_
          refine cbVv (n := 0) (rest := []) hx hb hml hown hts hE hP hD hS hA (sY_X11_fill_1 NF l dC dI cy y0 r  (upd (upd v2 35 t4) 36 0) f2 w2 g2 ⟨(Yu_36 (x := 0) (Yu_35 (x := t4) hIv2.1 (show (0 : Int) ≤ t4.toInt from om_563 b35_v zt4) (show t4.toInt ≤ (40 : Int) from om_564 zc1 b35_v zt4)) (by decide) (by decide)), (show t4.toInt + (0 : Int32).toInt ≤ 40 from om_565 zc1 b35_v zt4 tc_0)⟩ hCf2 hRf2 ) k_1739 k_1741 k_71 k_114 k_1742 hd_yX11_fill ⟨Nat.le_of_ble_eq_true rfl, Nat.le_of_ble_eq_true rfl⟩ 0 11 rfl rfl (rfl) hl.1 rfl (Nat.le_of_ble_eq_true rfl) dX11_act_99 (fun u H locs hw hP hD hS => ?_)
          obtain ⟨hG6, hw⟩ := hw
          obtain ⟨v7, f8, w9, g10⟩ := u
          obtain ⟨kV_v7, kF_f8, hIv7, hCf8, hRf8, hk0_v7, hk1_v7, hk2_v7, hk3_v7, hk4_v7, hk5_v7, hk8_v7, hk9_v7, hk10_v7, hk13_v7, hk14_v7, hk15_v7, hk17_v7, hk18_v7, hk24_v7, hk25_v7, hk35_v7, hk36_v7, hk38_v7, hk39_v7⟩ := hw
          have hM_v7 : KV [35, 36] v7 v := KV.tr kV_v7 (KV.up (j := 36) (x := 0) (KV.up (j := 35) (x := t4) hM_v2 rfl) rfl) rfl
          have hA_f8 : KF [24, 25] f8 f := KF.tr kF_f8 hA_f2 rfl
          have hP : va_P (dC, dI) vwCl (YW cy y0 r v7 f8 w9 g10) H := hP
          have hD : va_D A (YW cy y0 r v7 f8 w9 g10) := hD
          exact ret (v7, f8, w9, g10) _ _ _ _ _ _ ⟨(hT2.symm.trans (gsY_X11_act_1_q0 c3 et4 hG6)), hM_v7, hA_f8, hIv7, hCf8, hRf8, (hk0_v7.trans (show v2 0 = v 0 from hq0_v2)), (hk1_v7.trans (show v2 1 = v 1 from hq1_v2)), (hk2_v7.trans (show v2 2 = v 2 from hq2_v2)), (hk3_v7.trans (show v2 3 = v 3 from hq3_v2)), (hk4_v7.trans (show v2 4 = v 4 from hq4_v2)), (hk5_v7.trans (show v2 5 = v 5 from hq5_v2)), (hk8_v7.trans (show v2 8 = v 8 from hq8_v2)), (hk9_v7.trans (show v2 9 = v 9 from hq9_v2)), (hk10_v7.trans (show v2 10 = v 10 from hq10_v2)), (hk13_v7.trans (show v2 13 = v 13 from hq13_v2)), (hk14_v7.trans (show v2 14 = v 14 from hq14_v2)), (hk15_v7.trans (show v2 15 = v 15 from hq15_v2)), (hk17_v7.trans (show v2 17 = v 17 from hq17_v2)), (hk18_v7.trans (show v2 18 = v 18 from hq18_v2)), (hk24_v7.trans (show v2 24 = v 24 from hq24_v2)), (hk25_v7.trans (show v2 25 = v 25 from hq25_v2)), (hk38_v7.trans (show v2 38 = v 38 from hq38_v2)), (hk39_v7.trans (show v2 39 = v 39 from hq39_v2))⟩ hP hD hS dX11_act_102 (Nat.le_refl _) (Nat.le_refl _)
        · skip
          have zc3 : ¬ (39 ≤ l1_2.toInt) := zMn tc_39 rfl c3
          refine lv_aload_n hx hb dX11_act_57 rfl (lv_at hl 1 rfl) ?_
          refine va_get (D := (dC, dI)) (ci := 11) (v := .ref (r 61)) (C := RX11) (T := TX11) (N := 79) hx hb hts inB_11 hown hE.1 hP 0 rfl rfl 61 (Nat.le_of_ble_eq_true rfl) (hts _ k_1381) (fun _ h9 => h9) rfl dX11_act_58 ?_
          refine lv_bipush (v := 39) hx hb dX11_act_61 rfl ?_
          refine lv_aload_n hx hb dX11_act_63 rfl (lv_at hl 1 rfl) ?_
          refine va_get (D := (dC, dI)) (ci := 11) (v := .int (v2 35)) (C := RX11) (T := TX11) (N := 79) hx hb hts inB_11 hown hE.1 hP 0 rfl rfl 62 (Nat.le_of_ble_eq_true rfl) (hts _ k_1382) (fun _ h9 => h9) rfl dX11_act_64 ?_
          refine tI (y := (v 35)) hq35_v2 ?_
          have b35_v : 0 ≤ (v 35).toInt ∧ (v 35).toInt ≤ 40 := Yb_35 hIv.1
          refine lv_imul hx hb dX11_act_67 ?_
          refine lv_topi (fun t11 et11 => ?_)
          have rg12 := fb_rng (v 35)
          have zt11 : t11.toInt = 39 * (v 35).toInt := (congrArg Int32.toInt et11).trans (mul_i tc_39 rfl (om_566 b35_v) (om_567 b35_v))
          refine lv_iload_n hx hb dX11_act_68 rfl (lv_at hl 0 rfl) ?_
          refine lv_iadd hx hb dX11_act_69 ?_
          refine lv_topi (fun t13 et13 => ?_)
          have rg14 := fb_rng t11
          have rg15 := fb_rng l1_2
          have zt13 : t13.toInt = t11.toInt + l1_2.toInt := (congrArg Int32.toInt et13).trans (add_i rfl rfl (om_114 hr1_2 rg14) (om_568 zc3 b35_v zt11))
          refine lv_aload_n hx hb dX11_act_70 rfl (lv_at hl 1 rfl) ?_
          refine va_get (D := (dC, dI)) (ci := 11) (v := .ref (r 59)) (C := RX11) (T := TX11) (N := 79) hx hb hts inB_11 hown hE.1 hP 0 rfl rfl 59 (Nat.le_of_ble_eq_true rfl) (hts _ k_1379) (fun _ h9 => h9) rfl dX11_act_71 ?_
          refine lv_iload_n hx hb dX11_act_74 rfl (lv_at hl 0 rfl) ?_
          refine ldI hx hb hE hP 24 rfl (vpI (k := 39) rfl (show 0 ≤ l1_2.toInt from om_39 hr1_2) (show l1_2.toInt < 39 from om_479 zc3)) rfl rfl dX11_act_75 ?_
          refine lv_topi (fun t16 et16 => ?_)
          have zt16 : l1_2.toInt.toNat % 39 < 6 ∨ 12 ≤ l1_2.toInt.toNat % 39 ∨ (-1 ≤ t16.toInt ∧ t16.toInt ≤ 5) := by rw [et16]; exact wear_ld hCf2.1 (show l1_2.toInt.toNat < 39 from om_482 zc3)
          refine stI hx hb hE hP hD hS 26 rfl (vpI (k := 1560) rfl (show 0 ≤ t13.toInt from om_569 hr1_2 b35_v zt11 zt13) (show t13.toInt < 1560 from om_570 zc1 zc3 b35_v zt11 zt13)) rfl dX11_act_76 (fun H locs hP hD hS => ?_)
          obtain ⟨f17, ef17, hP, hD⟩ : ∃ fz9, fz9 = upd2 f2 25 (upd (f2 25) t13.toNatClampNeg t16) ∧ va_P (dC, dI) vwCl (YW cy y0 r v2 fz9 w2 g2) H ∧ va_D A (YW cy y0 r v2 fz9 w2 g2) := ⟨_, rfl, hP, hD⟩
          have hCf17 : YC f17 := by rw [ef17]; exact ⟨hCf2.1, hCf2.2.1, (wear_st hCf2.2.2.1 (by show t13.toInt.toNat % 39 < 6 ∨ 12 ≤ t13.toInt.toNat % 39 ∨ (-1 ≤ t16.toInt ∧ t16.toInt ≤ 5); omega)), hCf2.2.2.2.1, hCf2.2.2.2.2.1, hCf2.2.2.2.2.2⟩
          have hRf17 : progOK (f17 4) (f17 5) (v2 9).toInt.toNat := by rw [ef17]; exact hRf2
          have hA_f17 : KF [24, 25] f17 f := by rw [ef17]; exact KF.up hA_f2 rfl
          obtain ⟨t18, et18⟩ : ∃ y : Int32, y = l1_2 + 1 := ⟨_, rfl⟩
          have zt18 : t18.toInt = l1_2.toInt + 1 := (congrArg Int32.toInt et18).trans (add_i rfl tc_1 (om_41 hr1_2) (om_481 zc3))
          refine lv_iinc (v := t18) (lv' := [(1, .int t18), (0, .ref y0)]) hx hb dX11_act_77 hl (k := 0) rfl et18.symm (Nat.le_of_ble_eq_true rfl) rfl (fun ls hl => ?_)
          refine lv_goto (tgt := 51) hx hb dX11_act_80 rfl ?_
          have rg19 := fb_rng t18
          exact ih2 t18 v2 f17 w2 g2 hIv2 hCf17 hRf17 hq0_v2 hq1_v2 hq2_v2 hq3_v2 hq4_v2 hq5_v2 hq8_v2 hq9_v2 hq10_v2 hq13_v2 hq14_v2 hq15_v2 hq17_v2 hq18_v2 hq24_v2 hq25_v2 hq35_v2 hq36_v2 hq38_v2 hq39_v2 ((gsY_X11_act_1_q1 c3 et11 et13 et16 ef17 et18).symm.trans hT2) ⟨show (0 : Int) ≤ t18.toInt from om_43 hr1_2 zt18, show t18.toInt ≤ (2147483647 : Int) from om_44 rg19⟩ hM_v2 hA_f17 (show (2147483647 - t18.toInt).toNat < n2 from om_33 hm2 zt18 rg19) _ _ _ hP hD hS (lv_sub hl [0, 1] rfl)
    exact lp2 (4294967296 + NF) 0 v f w g hIv hCf hRf rfl rfl rfl rfl rfl rfl rfl rfl rfl rfl rfl rfl rfl rfl rfl rfl rfl rfl rfl rfl (gsY_X11_act_1_q2 c1).symm ⟨by decide, by decide⟩ hM_v hA_f (show (2147483647 - (0 : Int32).toInt).toNat < 4294967296 + NF from om_38 tc_0) _ _ _ hP hD hS (lv_sub hl [0, 1] rfl)
  · skip
    have zc1 : (v 35).toInt = 40 := zEp rfl tc_40 c1
    refine lv_iconst (v := 0) hx hb dX11_act_9 rfl ?_
    refine lv_istore_n (lv' := [(1, .int 0), (0, .ref y0)]) hx hb dX11_act_10 rfl hl (Nat.le_of_ble_eq_true rfl) rfl (fun ls hl => ?_)
    have lp20 : ∀ (n20 : Nat) (l1_20 : Int32) (v20 : Nat → Int32) (f20 : Nat → Nat → Int32) (w20 : Int64) (g20 : Nat → Int64), YI v20 → YC f20 → progOK (f20 4) (f20 5) (v20 9).toInt.toNat → v20 0 = (v 0) → v20 1 = (v 1) → v20 2 = (v 2) → v20 3 = (v 3) → v20 4 = (v 4) → v20 5 = (v 5) → v20 8 = (v 8) → v20 9 = (v 9) → v20 10 = (v 10) → v20 13 = (v 13) → v20 14 = (v 14) → v20 15 = (v 15) → v20 17 = (v 17) → v20 18 = (v 18) → v20 24 = (v 24) → v20 25 = (v 25) → v20 35 = (v 35) → v20 36 = (v 36) → v20 38 = (v 38) → v20 39 = (v 39) → gsY_X11_act_1_L20 NF v n20 l1_20 v20 f20 w20 g20 = (gsY_X11_act_1 NF v f w g) → ((0 : Int) ≤ l1_20.toInt ∧ l1_20.toInt ≤ 2147483647) → KV [35, 36] v20 v → KF [24, 25] f20 f → (2147483647 - l1_20.toInt).toNat < n20 → ∀ (H : Heap) (locs : List Loc) (ls : Array Slot), va_P (dC, dI) vwCl (YW cy y0 r v20 f20 w20 g20) H → va_D A (YW cy y0 r v20 f20 w20 g20) → va_S A s.heap H locs → lv_has ls 2 [(1, .int l1_20), (0, .ref y0)] → W p l e { frames := 2, cells := 0, slots := 0, locals := 81 } s m ([.ref y0] : List Value).toArray below meth c H locs 0 0 Q (F0 m 11 ls []) := by
      intro n20
      induction n20 with
      | zero => intro l1_20 v20 f20 w20 g20 hIv20 hCf20 hRf20 hq0_v20 hq1_v20 hq2_v20 hq3_v20 hq4_v20 hq5_v20 hq8_v20 hq9_v20 hq10_v20 hq13_v20 hq14_v20 hq15_v20 hq17_v20 hq18_v20 hq24_v20 hq25_v20 hq35_v20 hq36_v20 hq38_v20 hq39_v20 hT20 hr1_20 hM_v20 hA_f20 hm; exact absurd hm (Nat.not_lt_zero _)
      | succ n20 ih20 =>
        intro l1_20 v20 f20 w20 g20 hIv20 hCf20 hRf20 hq0_v20 hq1_v20 hq2_v20 hq3_v20 hq4_v20 hq5_v20 hq8_v20 hq9_v20 hq10_v20 hq13_v20 hq14_v20 hq15_v20 hq17_v20 hq18_v20 hq24_v20 hq25_v20 hq35_v20 hq36_v20 hq38_v20 hq39_v20 hT20 hr1_20 hM_v20 hA_f20 hm20 H locs ls hP hD hS hl
        have hUv20 : (v20 35).toInt + (v20 36).toInt ≤ 40 := hIv20.2
        have zq9_v20 := congrArg Int32.toInt hq9_v20
        have zq35_v20 := congrArg Int32.toInt hq35_v20
        have zq36_v20 := congrArg Int32.toInt hq36_v20
        refine lv_iload_n hx hb dX11_act_11 rfl (lv_at hl 0 rfl) ?_
        refine lv_sipush (v := 1521) hx hb dX11_act_12 rfl ?_
        refine lv_icmp_ge (tgt := 39) hx hb dX11_act_15 rfl (fun c21 => ?_) (fun c21 => ?_)
        · skip
          have zc21 : 1521 ≤ l1_20.toInt := zMp tc_1521 rfl c21
          refine lv_aload_n hx hb dX11_act_39 rfl (lv_at hl 1 rfl) ?_
          refine lv_dup hx hb dX11_act_40 rfl ?_
          refine va_get (D := (dC, dI)) (ci := 11) (v := .int (v20 35)) (C := RX11) (T := TX11) (N := 79) hx hb hts inB_11 hown hE.1 hP 0 rfl rfl 62 (Nat.le_of_ble_eq_true rfl) (hts _ k_1382) (fun _ h9 => h9) rfl dX11_act_41 ?_
          refine tI (y := (v 35)) hq35_v20 ?_
          have b35_v : 0 ≤ (v 35).toInt ∧ (v 35).toInt ≤ 40 := Yb_35 hIv.1
          refine lv_iconst (v := 1) hx hb dX11_act_44 rfl ?_
          refine lv_isub hx hb dX11_act_45 ?_
          refine lv_topi (fun t22 et22 => ?_)
          have rg23 := fb_rng (v 35)
          have zt22 : t22.toInt = (v 35).toInt - 1 := (congrArg Int32.toInt et22).trans (sub_i rfl tc_1 (om_571 zc1) (om_572 zc1))
          refine va_put (D := (dC, dI)) (ci := 11) (v := .int t22) (ty := tyX11 62) (C := RX11) (T := TX11) (N := 79) hx hb hts inB_11 tyX11 tyX11_ok nmX11 hown hE.1 hP hD hS 0 rfl rfl 62 (Nat.le_of_ble_eq_true rfl) (hts _ k_1382) (fun _ h9 => h9) rfl (tyX11_ok 62 (Nat.le_of_ble_eq_true rfl)) rfl rfl (Nat.le_of_ble_eq_true rfl) dX11_act_46 (fun H locs hP hD hS => ?_)
          have hP : va_P (dC, dI) vwCl (YW cy y0 r (upd v20 35 t22) f20 w20 g20) H := hP
          have hD : va_D A (YW cy y0 r (upd v20 35 t22) f20 w20 g20) := hD
          refine lv_iconst (v := 0) hx hb dX11_act_49 rfl ?_
          refine lv_istore_n (lv' := [(1, .int 0), (0, .ref y0)]) hx hb dX11_act_50 rfl hl (Nat.le_of_ble_eq_true rfl) rfl (fun ls hl => ?_)
          have lp24 : ∀ (n24 : Nat) (l1_24 : Int32) (v24 : Nat → Int32) (f24 : Nat → Nat → Int32) (w24 : Int64) (g24 : Nat → Int64), YI v24 → YC f24 → progOK (f24 4) (f24 5) (v24 9).toInt.toNat → v24 0 = (v 0) → v24 1 = (v 1) → v24 2 = (v 2) → v24 3 = (v 3) → v24 4 = (v 4) → v24 5 = (v 5) → v24 8 = (v 8) → v24 9 = (v 9) → v24 10 = (v 10) → v24 13 = (v 13) → v24 14 = (v 14) → v24 15 = (v 15) → v24 17 = (v 17) → v24 18 = (v 18) → v24 24 = (v 24) → v24 25 = (v 25) → v24 35 = t22 → v24 36 = (v 36) → v24 38 = (v 38) → v24 39 = (v 39) → gsY_X11_act_1_L24 NF t22 n24 l1_24 v24 f24 w24 g24 = (gsY_X11_act_1 NF v f w g) → ((0 : Int) ≤ l1_24.toInt ∧ l1_24.toInt ≤ 2147483647) → KV [35, 36] v24 v → KF [24, 25] f24 f → (2147483647 - l1_24.toInt).toNat < n24 → ∀ (H : Heap) (locs : List Loc) (ls : Array Slot), va_P (dC, dI) vwCl (YW cy y0 r v24 f24 w24 g24) H → va_D A (YW cy y0 r v24 f24 w24 g24) → va_S A s.heap H locs → lv_has ls 2 [(1, .int l1_24), (0, .ref y0)] → W p l e { frames := 2, cells := 0, slots := 0, locals := 81 } s m ([.ref y0] : List Value).toArray below meth c H locs 0 0 Q (F0 m 51 ls []) := by
            intro n24
            induction n24 with
            | zero => intro l1_24 v24 f24 w24 g24 hIv24 hCf24 hRf24 hq0_v24 hq1_v24 hq2_v24 hq3_v24 hq4_v24 hq5_v24 hq8_v24 hq9_v24 hq10_v24 hq13_v24 hq14_v24 hq15_v24 hq17_v24 hq18_v24 hq24_v24 hq25_v24 hq35_v24 hq36_v24 hq38_v24 hq39_v24 hT24 hr1_24 hM_v24 hA_f24 hm; exact absurd hm (Nat.not_lt_zero _)
            | succ n24 ih24 =>
              intro l1_24 v24 f24 w24 g24 hIv24 hCf24 hRf24 hq0_v24 hq1_v24 hq2_v24 hq3_v24 hq4_v24 hq5_v24 hq8_v24 hq9_v24 hq10_v24 hq13_v24 hq14_v24 hq15_v24 hq17_v24 hq18_v24 hq24_v24 hq25_v24 hq35_v24 hq36_v24 hq38_v24 hq39_v24 hT24 hr1_24 hM_v24 hA_f24 hm24 H locs ls hP hD hS hl
              have hUv24 : (v24 35).toInt + (v24 36).toInt ≤ 40 := hIv24.2
              have zq9_v24 := congrArg Int32.toInt hq9_v24
              have zq35_v24 := congrArg Int32.toInt hq35_v24
              have zq36_v24 := congrArg Int32.toInt hq36_v24
              refine lv_iload_n hx hb dX11_act_51 rfl (lv_at hl 0 rfl) ?_
              refine lv_bipush (v := 39) hx hb dX11_act_52 rfl ?_
              refine lv_icmp_ge (tgt := 83) hx hb dX11_act_54 rfl (fun c25 => ?_) (fun c25 => ?_)
              · skip
                refine lv_aload_n hx hb dX11_act_83 rfl (lv_at hl 1 rfl) ?_
                refine lv_dup hx hb dX11_act_84 rfl ?_
                refine va_get (D := (dC, dI)) (ci := 11) (v := .int (v24 35)) (C := RX11) (T := TX11) (N := 79) hx hb hts inB_11 hown hE.1 hP 0 rfl rfl 62 (Nat.le_of_ble_eq_true rfl) (hts _ k_1382) (fun _ h9 => h9) rfl dX11_act_85 ?_
                refine tI (y := t22) hq35_v24 ?_
                refine lv_iconst (v := 1) hx hb dX11_act_88 rfl ?_
                refine lv_iadd hx hb dX11_act_89 ?_
                refine lv_topi (fun t26 et26 => ?_)
                have rg27 := fb_rng t22
                have zt26 : t26.toInt = t22.toInt + 1 := (congrArg Int32.toInt et26).trans (add_i rfl tc_1 (om_95 rg27) (om_573 zc1 zt22))
                refine va_put (D := (dC, dI)) (ci := 11) (v := .int t26) (ty := tyX11 62) (C := RX11) (T := TX11) (N := 79) hx hb hts inB_11 tyX11 tyX11_ok nmX11 hown hE.1 hP hD hS 0 rfl rfl 62 (Nat.le_of_ble_eq_true rfl) (hts _ k_1382) (fun _ h9 => h9) rfl (tyX11_ok 62 (Nat.le_of_ble_eq_true rfl)) rfl rfl (Nat.le_of_ble_eq_true rfl) dX11_act_90 (fun H locs hP hD hS => ?_)
                have hP : va_P (dC, dI) vwCl (YW cy y0 r (upd v24 35 t26) f24 w24 g24) H := hP
                have hD : va_D A (YW cy y0 r (upd v24 35 t26) f24 w24 g24) := hD
                refine lv_aload_n hx hb dX11_act_93 rfl (lv_at hl 1 rfl) ?_
                refine lv_iconst (v := 0) hx hb dX11_act_94 rfl ?_
                refine va_put (D := (dC, dI)) (ci := 11) (v := .int 0) (ty := tyX11 63) (C := RX11) (T := TX11) (N := 79) hx hb hts inB_11 tyX11 tyX11_ok nmX11 hown hE.1 hP hD hS 0 rfl rfl 63 (Nat.le_of_ble_eq_true rfl) (hts _ k_1383) (fun _ h9 => h9) rfl (tyX11_ok 63 (Nat.le_of_ble_eq_true rfl)) rfl rfl (Nat.le_of_ble_eq_true rfl) dX11_act_95 (fun H locs hP hD hS => ?_)
                have hP : va_P (dC, dI) vwCl (YW cy y0 r (upd (upd v24 35 t26) 36 0) f24 w24 g24) H := hP
                have hD : va_D A (YW cy y0 r (upd (upd v24 35 t26) 36 0) f24 w24 g24) := hD
                refine lv_aload_n hx hb dX11_act_98 rfl (lv_at hl 1 rfl) ?_
                refine cbVv (n := 0) (rest := []) hx hb hml hown hts hE hP hD hS hA (sY_X11_fill_1 NF l dC dI cy y0 r  (upd (upd v24 35 t26) 36 0) f24 w24 g24 ⟨(Yu_36 (x := 0) (Yu_35 (x := t26) hIv24.1 (show (0 : Int) ≤ t26.toInt from om_574 zc1 zt22 zt26) (show t26.toInt ≤ (40 : Int) from om_575 zc1 zt22 zt26)) (by decide) (by decide)), (show t26.toInt + (0 : Int32).toInt ≤ 40 from om_576 zc1 zt22 zt26 tc_0)⟩ hCf24 hRf24 ) k_1739 k_1741 k_71 k_114 k_1742 hd_yX11_fill ⟨Nat.le_of_ble_eq_true rfl, Nat.le_of_ble_eq_true rfl⟩ 0 11 rfl rfl (rfl) hl.1 rfl (Nat.le_of_ble_eq_true rfl) dX11_act_99 (fun u H locs hw hP hD hS => ?_)
                obtain ⟨hG28, hw⟩ := hw
                obtain ⟨v29, f30, w31, g32⟩ := u
                obtain ⟨kV_v29, kF_f30, hIv29, hCf30, hRf30, hk0_v29, hk1_v29, hk2_v29, hk3_v29, hk4_v29, hk5_v29, hk8_v29, hk9_v29, hk10_v29, hk13_v29, hk14_v29, hk15_v29, hk17_v29, hk18_v29, hk24_v29, hk25_v29, hk35_v29, hk36_v29, hk38_v29, hk39_v29⟩ := hw
                have hM_v29 : KV [35, 36] v29 v := KV.tr kV_v29 (KV.up (j := 36) (x := 0) (KV.up (j := 35) (x := t26) hM_v24 rfl) rfl) rfl
                have hA_f30 : KF [24, 25] f30 f := KF.tr kF_f30 hA_f24 rfl
                have hP : va_P (dC, dI) vwCl (YW cy y0 r v29 f30 w31 g32) H := hP
                have hD : va_D A (YW cy y0 r v29 f30 w31 g32) := hD
                exact ret (v29, f30, w31, g32) _ _ _ _ _ _ ⟨(hT24.symm.trans (gsY_X11_act_1_q3 c25 et26 hG28)), hM_v29, hA_f30, hIv29, hCf30, hRf30, (hk0_v29.trans hq0_v24), (hk1_v29.trans hq1_v24), (hk2_v29.trans hq2_v24), (hk3_v29.trans hq3_v24), (hk4_v29.trans hq4_v24), (hk5_v29.trans hq5_v24), (hk8_v29.trans hq8_v24), (hk9_v29.trans hq9_v24), (hk10_v29.trans hq10_v24), (hk13_v29.trans hq13_v24), (hk14_v29.trans hq14_v24), (hk15_v29.trans hq15_v24), (hk17_v29.trans hq17_v24), (hk18_v29.trans hq18_v24), (hk24_v29.trans hq24_v24), (hk25_v29.trans hq25_v24), (hk38_v29.trans hq38_v24), (hk39_v29.trans hq39_v24)⟩ hP hD hS dX11_act_102 (Nat.le_refl _) (Nat.le_refl _)
              · skip
                have zc25 : ¬ (39 ≤ l1_24.toInt) := zMn tc_39 rfl c25
                refine lv_aload_n hx hb dX11_act_57 rfl (lv_at hl 1 rfl) ?_
                refine va_get (D := (dC, dI)) (ci := 11) (v := .ref (r 61)) (C := RX11) (T := TX11) (N := 79) hx hb hts inB_11 hown hE.1 hP 0 rfl rfl 61 (Nat.le_of_ble_eq_true rfl) (hts _ k_1381) (fun _ h9 => h9) rfl dX11_act_58 ?_
                refine lv_bipush (v := 39) hx hb dX11_act_61 rfl ?_
                refine lv_aload_n hx hb dX11_act_63 rfl (lv_at hl 1 rfl) ?_
                refine va_get (D := (dC, dI)) (ci := 11) (v := .int (v24 35)) (C := RX11) (T := TX11) (N := 79) hx hb hts inB_11 hown hE.1 hP 0 rfl rfl 62 (Nat.le_of_ble_eq_true rfl) (hts _ k_1382) (fun _ h9 => h9) rfl dX11_act_64 ?_
                refine tI (y := t22) hq35_v24 ?_
                refine lv_imul hx hb dX11_act_67 ?_
                refine lv_topi (fun t33 et33 => ?_)
                have rg34 := fb_rng t22
                have zt33 : t33.toInt = 39 * t22.toInt := (congrArg Int32.toInt et33).trans (mul_i tc_39 rfl (om_577 zc1 zt22) (om_578 zc1 zt22))
                refine lv_iload_n hx hb dX11_act_68 rfl (lv_at hl 0 rfl) ?_
                refine lv_iadd hx hb dX11_act_69 ?_
                refine lv_topi (fun t35 et35 => ?_)
                have rg36 := fb_rng t33
                have rg37 := fb_rng l1_24
                have zt35 : t35.toInt = t33.toInt + l1_24.toInt := (congrArg Int32.toInt et35).trans (add_i rfl rfl (om_114 hr1_24 rg36) (om_579 zc1 zt22 zc25 zt33))
                refine lv_aload_n hx hb dX11_act_70 rfl (lv_at hl 1 rfl) ?_
                refine va_get (D := (dC, dI)) (ci := 11) (v := .ref (r 59)) (C := RX11) (T := TX11) (N := 79) hx hb hts inB_11 hown hE.1 hP 0 rfl rfl 59 (Nat.le_of_ble_eq_true rfl) (hts _ k_1379) (fun _ h9 => h9) rfl dX11_act_71 ?_
                refine lv_iload_n hx hb dX11_act_74 rfl (lv_at hl 0 rfl) ?_
                refine ldI hx hb hE hP 24 rfl (vpI (k := 39) rfl (show 0 ≤ l1_24.toInt from om_39 hr1_24) (show l1_24.toInt < 39 from om_479 zc25)) rfl rfl dX11_act_75 ?_
                refine lv_topi (fun t38 et38 => ?_)
                have zt38 : l1_24.toInt.toNat % 39 < 6 ∨ 12 ≤ l1_24.toInt.toNat % 39 ∨ (-1 ≤ t38.toInt ∧ t38.toInt ≤ 5) := by rw [et38]; exact wear_ld hCf24.1 (show l1_24.toInt.toNat < 39 from om_482 zc25)
                refine stI hx hb hE hP hD hS 26 rfl (vpI (k := 1560) rfl (show 0 ≤ t35.toInt from om_580 zc1 zt22 hr1_24 zt33 zt35) (show t35.toInt < 1560 from om_581 zc1 zt22 zc25 zt33 zt35)) rfl dX11_act_76 (fun H locs hP hD hS => ?_)
                obtain ⟨f39, ef39, hP, hD⟩ : ∃ fz9, fz9 = upd2 f24 25 (upd (f24 25) t35.toNatClampNeg t38) ∧ va_P (dC, dI) vwCl (YW cy y0 r v24 fz9 w24 g24) H ∧ va_D A (YW cy y0 r v24 fz9 w24 g24) := ⟨_, rfl, hP, hD⟩
                have hCf39 : YC f39 := by rw [ef39]; exact ⟨hCf24.1, hCf24.2.1, (wear_st hCf24.2.2.1 (by show t35.toInt.toNat % 39 < 6 ∨ 12 ≤ t35.toInt.toNat % 39 ∨ (-1 ≤ t38.toInt ∧ t38.toInt ≤ 5); omega)), hCf24.2.2.2.1, hCf24.2.2.2.2.1, hCf24.2.2.2.2.2⟩
                have hRf39 : progOK (f39 4) (f39 5) (v24 9).toInt.toNat := by rw [ef39]; exact hRf24
                have hA_f39 : KF [24, 25] f39 f := by rw [ef39]; exact KF.up hA_f24 rfl
                obtain ⟨t40, et40⟩ : ∃ y : Int32, y = l1_24 + 1 := ⟨_, rfl⟩
                have zt40 : t40.toInt = l1_24.toInt + 1 := (congrArg Int32.toInt et40).trans (add_i rfl tc_1 (om_41 hr1_24) (om_481 zc25))
                refine lv_iinc (v := t40) (lv' := [(1, .int t40), (0, .ref y0)]) hx hb dX11_act_77 hl (k := 0) rfl et40.symm (Nat.le_of_ble_eq_true rfl) rfl (fun ls hl => ?_)
                refine lv_goto (tgt := 51) hx hb dX11_act_80 rfl ?_
                have rg41 := fb_rng t40
                exact ih24 t40 v24 f39 w24 g24 hIv24 hCf39 hRf39 hq0_v24 hq1_v24 hq2_v24 hq3_v24 hq4_v24 hq5_v24 hq8_v24 hq9_v24 hq10_v24 hq13_v24 hq14_v24 hq15_v24 hq17_v24 hq18_v24 hq24_v24 hq25_v24 hq35_v24 hq36_v24 hq38_v24 hq39_v24 ((gsY_X11_act_1_q4 c25 et33 et35 et38 ef39 et40).symm.trans hT24) ⟨show (0 : Int) ≤ t40.toInt from om_43 hr1_24 zt40, show t40.toInt ≤ (2147483647 : Int) from om_44 rg41⟩ hM_v24 hA_f39 (show (2147483647 - t40.toInt).toNat < n24 from om_33 hm24 zt40 rg41) _ _ _ hP hD hS (lv_sub hl [0, 1] rfl)
          exact lp24 (4294967296 + NF) 0 (upd v20 35 t22) f20 w20 g20 ⟨(Yu_35 (x := t22) hIv20.1 (show (0 : Int) ≤ t22.toInt from om_582 zc1 zt22) (show t22.toInt ≤ (40 : Int) from om_583 zc1 zt22)), (show t22.toInt + (v20 36).toInt ≤ 40 from om_584 hUv zq36_v20 zt22)⟩ hCf20 hRf20 hq0_v20 hq1_v20 hq2_v20 hq3_v20 hq4_v20 hq5_v20 hq8_v20 hq9_v20 hq10_v20 hq13_v20 hq14_v20 hq15_v20 hq17_v20 hq18_v20 hq24_v20 hq25_v20 rfl hq36_v20 hq38_v20 hq39_v20 ((gsY_X11_act_1_q5 c21 et22).symm.trans hT20) ⟨by decide, by decide⟩ (KV.up (j := 35) (x := t22) hM_v20 rfl) hA_f20 (show (2147483647 - (0 : Int32).toInt).toNat < 4294967296 + NF from om_38 tc_0) _ _ _ hP hD hS (lv_sub hl [0, 1] rfl)
        · skip
          have zc21 : ¬ (1521 ≤ l1_20.toInt) := zMn tc_1521 rfl c21
          refine lv_aload_n hx hb dX11_act_18 rfl (lv_at hl 1 rfl) ?_
          refine va_get (D := (dC, dI)) (ci := 11) (v := .ref (r 61)) (C := RX11) (T := TX11) (N := 79) hx hb hts inB_11 hown hE.1 hP 0 rfl rfl 61 (Nat.le_of_ble_eq_true rfl) (hts _ k_1381) (fun _ h9 => h9) rfl dX11_act_19 ?_
          refine lv_iload_n hx hb dX11_act_22 rfl (lv_at hl 0 rfl) ?_
          refine lv_aload_n hx hb dX11_act_23 rfl (lv_at hl 1 rfl) ?_
          refine va_get (D := (dC, dI)) (ci := 11) (v := .ref (r 61)) (C := RX11) (T := TX11) (N := 79) hx hb hts inB_11 hown hE.1 hP 0 rfl rfl 61 (Nat.le_of_ble_eq_true rfl) (hts _ k_1381) (fun _ h9 => h9) rfl dX11_act_24 ?_
          refine lv_bipush (v := 39) hx hb dX11_act_27 rfl ?_
          refine lv_iload_n hx hb dX11_act_29 rfl (lv_at hl 0 rfl) ?_
          refine lv_iadd hx hb dX11_act_30 ?_
          refine lv_topi (fun t42 et42 => ?_)
          have rg43 := fb_rng l1_20
          have zt42 : t42.toInt = 39 + l1_20.toInt := (congrArg Int32.toInt et42).trans (add_i tc_39 rfl (om_585 hr1_20) (om_586 zc21))
          refine ldI hx hb hE hP 26 rfl (vpI (k := 1560) rfl (show 0 ≤ t42.toInt from om_587 hr1_20 zt42) (show t42.toInt < 1560 from om_588 zc21 zt42)) rfl rfl dX11_act_31 ?_
          refine lv_topi (fun t44 et44 => ?_)
          have zt44 : t42.toInt.toNat % 39 < 6 ∨ 12 ≤ t42.toInt.toNat % 39 ∨ (-1 ≤ t44.toInt ∧ t44.toInt ≤ 5) := by rw [et44]; exact wear_ld hCf20.2.2.1 (show t42.toInt.toNat < 1560 from om_589 zc21 zt42)
          refine stI hx hb hE hP hD hS 26 rfl (vpI (k := 1560) rfl (show 0 ≤ l1_20.toInt from om_39 hr1_20) (show l1_20.toInt < 1560 from om_590 zc21)) rfl dX11_act_32 (fun H locs hP hD hS => ?_)
          obtain ⟨f45, ef45, hP, hD⟩ : ∃ fz9, fz9 = upd2 f20 25 (upd (f20 25) l1_20.toNatClampNeg t44) ∧ va_P (dC, dI) vwCl (YW cy y0 r v20 fz9 w20 g20) H ∧ va_D A (YW cy y0 r v20 fz9 w20 g20) := ⟨_, rfl, hP, hD⟩
          have hCf45 : YC f45 := by rw [ef45]; exact ⟨hCf20.1, hCf20.2.1, (wear_st hCf20.2.2.1 (by show l1_20.toInt.toNat % 39 < 6 ∨ 12 ≤ l1_20.toInt.toNat % 39 ∨ (-1 ≤ t44.toInt ∧ t44.toInt ≤ 5); omega)), hCf20.2.2.2.1, hCf20.2.2.2.2.1, hCf20.2.2.2.2.2⟩
          have hRf45 : progOK (f45 4) (f45 5) (v20 9).toInt.toNat := by rw [ef45]; exact hRf20
          have hA_f45 : KF [24, 25] f45 f := by rw [ef45]; exact KF.up hA_f20 rfl
          obtain ⟨t46, et46⟩ : ∃ y : Int32, y = l1_20 + 1 := ⟨_, rfl⟩
          have zt46 : t46.toInt = l1_20.toInt + 1 := (congrArg Int32.toInt et46).trans (add_i rfl tc_1 (om_41 hr1_20) (om_591 zc21))
          refine lv_iinc (v := t46) (lv' := [(1, .int t46), (0, .ref y0)]) hx hb dX11_act_33 hl (k := 0) rfl et46.symm (Nat.le_of_ble_eq_true rfl) rfl (fun ls hl => ?_)
          refine lv_goto (tgt := 11) hx hb dX11_act_36 rfl ?_
          have rg47 := fb_rng t46
          exact ih20 t46 v20 f45 w20 g20 hIv20 hCf45 hRf45 hq0_v20 hq1_v20 hq2_v20 hq3_v20 hq4_v20 hq5_v20 hq8_v20 hq9_v20 hq10_v20 hq13_v20 hq14_v20 hq15_v20 hq17_v20 hq18_v20 hq24_v20 hq25_v20 hq35_v20 hq36_v20 hq38_v20 hq39_v20 ((gsY_X11_act_1_q6 c21 et42 et44 ef45 et46).symm.trans hT20) ⟨show (0 : Int) ≤ t46.toInt from om_43 hr1_20 zt46, show t46.toInt ≤ (2147483647 : Int) from om_44 rg47⟩ hM_v20 hA_f45 (show (2147483647 - t46.toInt).toNat < n20 from om_33 hm20 zt46 rg47) _ _ _ hP hD hS (lv_sub hl [0, 1] rfl)
    exact lp20 (4294967296 + NF) 0 v f w g hIv hCf hRf rfl rfl rfl rfl rfl rfl rfl rfl rfl rfl rfl rfl rfl rfl rfl rfl rfl rfl rfl rfl (gsY_X11_act_1_q7 c1).symm ⟨by decide, by decide⟩ hM_v hA_f (show (2147483647 - (0 : Int32).toInt).toNat < 4294967296 + NF from om_38 tc_0) _ _ _ hP hD hS (lv_sub hl [0, 1] rfl)
set_option maxHeartbeats 4000000 in
set_option maxRecDepth 100000 in
theorem sY_X11_drawRain_1 (NF : Nat) (l : Launch) (dC : Nat → ClassId) (dI : Nat → Nat → Nat) (cy : Nat → ClassId) (y0 : Nat) (r : Nat → Nat)  (v : Nat → Int32) (f : Nat → Nat → Int32) (w : Int64) (g : Nat → Int64) (hIv : YI v) (hCf : YC f) (hRf : progOK (f 4) (f 5) (v 9).toInt.toNat)  : ctI l (dC, dI) cy yX11_drawRain cX11_drawRain 1 .boolean 1 60 0 0 ((Nat → Int32) × (Nat → Nat → Int32) × (Int64) × (Nat → Int64)) [.ref y0] (YW cy y0 r v f w g) (fun r u => gsY_X11_drawRain_1 NF v f w g = (r, u) ∧ KV [] u.1 v ∧ KF [24] u.2.1 f ∧ YI u.1 ∧ YC u.2.1 ∧ progOK (u.2.1 4) (u.2.1 5) (u.1 9).toInt.toNat ∧ u.1 0 = v 0 ∧ u.1 1 = v 1 ∧ u.1 2 = v 2 ∧ u.1 3 = v 3 ∧ u.1 4 = v 4 ∧ u.1 5 = v 5 ∧ u.1 8 = v 8 ∧ u.1 9 = v 9 ∧ u.1 10 = v 10 ∧ u.1 13 = v 13 ∧ u.1 14 = v 14 ∧ u.1 15 = v 15 ∧ u.1 17 = v 17 ∧ u.1 18 = v 18 ∧ u.1 24 = v 24 ∧ u.1 25 = v 25 ∧ u.1 35 = v 35 ∧ u.1 36 = v 36 ∧ u.1 38 = v 38 ∧ u.1 39 = v 39 ∧ ((r = 1) ∨ (r = 0))) (fun u => YW cy y0 r u.1 u.2.1 u.2.2.1 u.2.2.2) := by
  refine ctI_of (by decide) (Nat.le_of_ble_eq_true rfl) (fun p e s m below meth c A ls Q hx hb hml hts hown hE hP hD hA hl ret => ?_)
  have hUv : (v 35).toInt + (v 36).toInt ≤ 40 := hIv.2
  have hM_v : KV [] v v := fun _ _ => rfl
  have hA_f : KF [24] f f := fun _ _ => rfl
  have hown : s.vm.findClass RX11 = some m.cls := hown
  have hS : va_S A s.heap s.heap [] := va_S.rf
  have hl : lv_has ls 1 [(0, .ref y0)] := hl
  refine lv_aload_n hx hb dX11_drawRain_0 rfl (lv_at hl 0 rfl) ?_
  refine va_get (D := (dC, dI)) (ci := 11) (v := .ref (r 60)) (C := RX11) (T := TX11) (N := 79) hx hb hts inB_11 hown hE.1 hP 0 rfl rfl 60 (Nat.le_of_ble_eq_true rfl) (hts _ k_1380) (fun _ h9 => h9) rfl dX11_drawRain_1 ?_
  refine lv_bipush (v := 38) hx hb dX11_drawRain_4 rfl ?_
  refine lv_aload_n hx hb dX11_drawRain_6 rfl (lv_at hl 0 rfl) ?_
  refine va_get (D := (dC, dI)) (ci := 11) (v := .ref (r 60)) (C := RX11) (T := TX11) (N := 79) hx hb hts inB_11 hown hE.1 hP 0 rfl rfl 60 (Nat.le_of_ble_eq_true rfl) (hts _ k_1380) (fun _ h9 => h9) rfl dX11_drawRain_7 ?_
  refine lv_bipush (v := 38) hx hb dX11_drawRain_10 rfl ?_
  refine ldI hx hb hE hP 25 rfl (vp_in_nI (n := 38) (by decide) (by decide)) rfl rfl dX11_drawRain_12 ?_
  refine lv_topi (fun t1 et1 => ?_)
  have zt1 : 38 % 39 < 6 ∨ 12 ≤ 38 % 39 ∨ (-1 ≤ t1.toInt ∧ t1.toInt ≤ 5) := by rw [et1]; exact wear_ld hCf.2.1 (show 38 < 39 from om_592)
  refine lv_sipush (v := 137) hx hb dX11_drawRain_13 rfl ?_
  refine lv_imul hx hb dX11_drawRain_16 ?_
  refine lv_topi (fun t2 et2 => ?_)
  refine lv_bipush (v := 71) hx hb dX11_drawRain_17 rfl ?_
  refine lv_iadd hx hb dX11_drawRain_19 ?_
  refine lv_topi (fun t3 et3 => ?_)
  refine lv_sipush (v := 1000) hx hb dX11_drawRain_20 rfl ?_
  refine lv_irem hx hb dX11_drawRain_23 (by decide) ?_
  refine lv_topi (fun t4 et4 => ?_)
  refine stI hx hb hE hP hD hS 25 rfl (vp_in_nI (n := 38) (by decide) (by decide)) rfl dX11_drawRain_24 (fun H locs hP hD hS => ?_)
  obtain ⟨f5, ef5, hP, hD⟩ : ∃ fz9, fz9 = upd2 f 24 (upd (f 24) (38 : Int32).toNatClampNeg t4) ∧ va_P (dC, dI) vwCl (YW cy y0 r v fz9 w g) H ∧ va_D A (YW cy y0 r v fz9 w g) := ⟨_, rfl, hP, hD⟩
  have hCf5 : YC f5 := by rw [ef5]; exact ⟨hCf.1, (wear_st hCf.2.1 (by show 38 % 39 < 6 ∨ 12 ≤ 38 % 39 ∨ (-1 ≤ t4.toInt ∧ t4.toInt ≤ 5); omega)), hCf.2.2.1, hCf.2.2.2.1, hCf.2.2.2.2.1, hCf.2.2.2.2.2⟩
  have hRf5 : progOK (f5 4) (f5 5) (v 9).toInt.toNat := by rw [ef5]; exact hRf
  have hA_f5 : KF [24] f5 f := by rw [ef5]; exact KF.up hA_f rfl
  refine lv_aload_n hx hb dX11_drawRain_25 rfl (lv_at hl 0 rfl) ?_
  refine va_get (D := (dC, dI)) (ci := 11) (v := .ref (r 60)) (C := RX11) (T := TX11) (N := 79) hx hb hts inB_11 hown hE.1 hP 0 rfl rfl 60 (Nat.le_of_ble_eq_true rfl) (hts _ k_1380) (fun _ h9 => h9) rfl dX11_drawRain_26 ?_
  refine lv_bipush (v := 38) hx hb dX11_drawRain_29 rfl ?_
  refine ldI hx hb hE hP 25 rfl (vp_in_nI (n := 38) (by decide) (by decide)) rfl rfl dX11_drawRain_31 ?_
  refine lv_topi (fun t6 et6 => ?_)
  refine lv_bipush (v := 100) hx hb dX11_drawRain_32 rfl ?_
  refine lv_irem hx hb dX11_drawRain_34 (by decide) ?_
  refine lv_topi (fun t7 et7 => ?_)
  refine lv_aload_n hx hb dX11_drawRain_35 rfl (lv_at hl 0 rfl) ?_
  refine va_get (D := (dC, dI)) (ci := 11) (v := .int (v 29)) (C := RX11) (T := TX11) (N := 79) hx hb hts inB_11 hown hE.1 hP 0 rfl rfl 53 (Nat.le_of_ble_eq_true rfl) (hts _ k_1373) (fun _ h9 => h9) rfl dX11_drawRain_36 ?_
  refine lv_icmp_ge (tgt := 46) hx hb dX11_drawRain_39 rfl (fun c8 => ?_) (fun c8 => ?_)
  · skip
    refine lv_iconst (v := 0) hx hb dX11_drawRain_46 rfl ?_
    exact ret 0 (v, f5, w, g) _ _ _ _ _ _ rfl ⟨(gsY_X11_drawRain_1_q0 et1 et2 et3 et4 ef5 et6 et7 c8), hM_v, hA_f5, hIv, hCf5, hRf5, rfl, rfl, rfl, rfl, rfl, rfl, rfl, rfl, rfl, rfl, rfl, rfl, rfl, rfl, rfl, rfl, rfl, rfl, rfl, rfl, (Or.inr rfl)⟩ hP hD hS dX11_drawRain_47 (Nat.le_refl _) (Nat.le_refl _)
  · skip
    refine lv_iconst (v := 1) hx hb dX11_drawRain_42 rfl ?_
    refine lv_goto (tgt := 47) hx hb dX11_drawRain_43 rfl ?_
    exact ret 1 (v, f5, w, g) _ _ _ _ _ _ rfl ⟨(gsY_X11_drawRain_1_q1 et1 et2 et3 et4 ef5 et6 et7 c8), hM_v, hA_f5, hIv, hCf5, hRf5, rfl, rfl, rfl, rfl, rfl, rfl, rfl, rfl, rfl, rfl, rfl, rfl, rfl, rfl, rfl, rfl, rfl, rfl, rfl, rfl, (Or.inl rfl)⟩ hP hD hS dX11_drawRain_47 (Nat.le_refl _) (Nat.le_refl _)
set_option maxHeartbeats 4000000 in
set_option maxRecDepth 100000 in
theorem sY_X11_wearers_1 (NF : Nat) (l : Launch) (dC : Nat → ClassId) (dI : Nat → Nat → Nat) (cy : Nat → ClassId) (y0 : Nat) (r : Nat → Nat)  (v : Nat → Int32) (f : Nat → Nat → Int32) (w : Int64) (g : Nat → Int64) (hIv : YI v) (hCf : YC f) (hRf : progOK (f 4) (f 5) (v 9).toInt.toNat)  : ctI l (dC, dI) cy yX11_wearers cX11_wearers 3 .int 2 80 0 0 Unit [.ref y0] (YW cy y0 r v f w g) (fun r u => gsY_X11_wearers_1 NF v f w g = r ∧ ((0 : Int) ≤ r.toInt ∧ r.toInt ≤ 63)) (fun u => YW cy y0 r v f w g) := by
  refine ctI_of (by decide) (Nat.le_of_ble_eq_true rfl) (fun p e s m below meth c A ls Q hx hb hml hts hown hE hP hD hA hl ret => ?_)
  have hUv : (v 35).toInt + (v 36).toInt ≤ 40 := hIv.2
  have hown : s.vm.findClass RX11 = some m.cls := hown
  have hS : va_S A s.heap s.heap [] := va_S.rf
  have hl : lv_has ls 3 [(0, .ref y0)] := hl
  refine lv_iconst (v := 0) hx hb dX11_wearers_0 rfl ?_
  refine lv_istore_n (lv' := [(1, .int 0), (0, .ref y0)]) hx hb dX11_wearers_1 rfl hl (Nat.le_of_ble_eq_true rfl) rfl (fun ls hl => ?_)
  refine lv_iconst (v := 0) hx hb dX11_wearers_2 rfl ?_
  refine lv_istore_n (lv' := [(2, .int 0), (1, .int 0), (0, .ref y0)]) hx hb dX11_wearers_3 rfl hl (Nat.le_of_ble_eq_true rfl) rfl (fun ls hl => ?_)
  have lp1 : ∀ (n1 : Nat) (l1_1 : Int32) (l2_1 : Int32), gsY_X11_wearers_1_L1 NF v f w g n1 l1_1 l2_1 = (gsY_X11_wearers_1 NF v f w g) → ((0 : Int) ≤ l1_1.toInt ∧ l1_1.toInt ≤ 63) → ((0 : Int) ≤ l2_1.toInt ∧ l2_1.toInt ≤ 2147483647) → (2147483647 - l2_1.toInt).toNat < n1 → ∀ (H : Heap) (locs : List Loc) (ls : Array Slot), va_P (dC, dI) vwCl (YW cy y0 r v f w g) H → va_D A (YW cy y0 r v f w g) → va_S A s.heap H locs → lv_has ls 3 [(2, .int l2_1), (1, .int l1_1), (0, .ref y0)] → W p l e { frames := 2, cells := 0, slots := 0, locals := 80 } s m ([.ref y0] : List Value).toArray below meth c H locs 0 0 Q (F0 m 4 ls []) := by
    intro n1
    induction n1 with
    | zero => intro l1_1 l2_1 hT1 hr1_1 hr2_1 hm; exact absurd hm (Nat.not_lt_zero _)
    | succ n1 ih1 =>
      intro l1_1 l2_1 hT1 hr1_1 hr2_1 hm1 H locs ls hP hD hS hl
      refine lv_iload_n hx hb dX11_wearers_4 rfl (lv_at hl 0 rfl) ?_
      refine lv_aload_n hx hb dX11_wearers_5 rfl (lv_at hl 2 rfl) ?_
      refine va_get (D := (dC, dI)) (ci := 11) (v := .int (v 24)) (C := RX11) (T := TX11) (N := 79) hx hb hts inB_11 hown hE.1 hP 0 rfl rfl 48 (Nat.le_of_ble_eq_true rfl) (hts _ k_1368) (fun _ h9 => h9) rfl dX11_wearers_6 ?_
      have b24_v : 0 ≤ (v 24).toInt ∧ (v 24).toInt ≤ 6 := Yb_24 hIv.1
      refine lv_icmp_ge (tgt := 43) hx hb dX11_wearers_9 rfl (fun c2 => ?_) (fun c2 => ?_)
      · skip
        refine lv_iload_n hx hb dX11_wearers_43 rfl (lv_at hl 1 rfl) ?_
        exact ret l1_1 () _ _ _ _ _ _ rfl ⟨(hT1.symm.trans (gsY_X11_wearers_1_q0 c2)), ⟨show (0 : Int) ≤ l1_1.toInt from om_216 hr1_1, show l1_1.toInt ≤ 63 from om_217 hr1_1⟩⟩ hP hD hS dX11_wearers_44 (Nat.le_refl _) (Nat.le_refl _)
      · skip
        have zc2 : ¬ ((v 24).toInt ≤ l2_1.toInt) := zMn rfl rfl c2
        have rg5 := fb_rng l2_1
        have rg6 := fb_rng (v 24)
        refine lv_iload_n hx hb dX11_wearers_12 rfl (lv_at hl 1 rfl) ?_
        refine lv_aload_n hx hb dX11_wearers_13 rfl (lv_at hl 2 rfl) ?_
        refine va_get (D := (dC, dI)) (ci := 11) (v := .ref (r 60)) (C := RX11) (T := TX11) (N := 79) hx hb hts inB_11 hown hE.1 hP 0 rfl rfl 60 (Nat.le_of_ble_eq_true rfl) (hts _ k_1380) (fun _ h9 => h9) rfl dX11_wearers_14 ?_
        refine lv_bipush (v := 6) hx hb dX11_wearers_17 rfl ?_
        refine lv_iload_n hx hb dX11_wearers_19 rfl (lv_at hl 0 rfl) ?_
        refine lv_iadd hx hb dX11_wearers_20 ?_
        refine lv_topi (fun t7 et7 => ?_)
        have zt7 : t7.toInt = 6 + l2_1.toInt := (congrArg Int32.toInt et7).trans (add_i tc_6 rfl (om_120 hr2_1) (om_476 b24_v zc2))
        refine ldI hx hb hE hP 25 rfl (vpI (k := 39) rfl (show 0 ≤ t7.toInt from om_121 hr2_1 zt7) (show t7.toInt < 39 from om_477 b24_v zc2 zt7)) rfl rfl dX11_wearers_21 ?_
        refine lv_topi (fun t8 et8 => ?_)
        have zt8 : t7.toInt.toNat % 39 < 6 ∨ 12 ≤ t7.toInt.toNat % 39 ∨ (-1 ≤ t8.toInt ∧ t8.toInt ≤ 5) := by rw [et8]; exact wear_ld hCf.2.1 (show t7.toInt.toNat < 39 from om_593 b24_v zc2 zt7)
        refine lv_if_lt (tgt := 29) hx hb dX11_wearers_22 rfl (fun c9 => ?_) (fun c9 => ?_)
        · skip
          have zc9 : t8.toInt < 0 := zLp rfl tc_0 c9
          refine lv_iconst (v := 0) hx hb dX11_wearers_29 rfl ?_
          have lt10 : (0 : Int32).toInt = 0 := by decide
          refine cbSi (n := 1) (rest := [.int l1_1]) hx hb hml hown hts hE hP hD hS hA (sY_X11_truth_1 NF l dC dI cy y0 r 0 v f w g hIv hCf hRf ) k_1761 k_1762 k_114 k_1763 he_yX11_truth ⟨Nat.le_of_ble_eq_true rfl, Nat.le_of_ble_eq_true rfl⟩ (rfl) hl.1 rfl (Nat.le_of_ble_eq_true rfl) dX11_wearers_30 (fun r11 u H locs hw hP hD hS => ?_)
          obtain ⟨hG12, hw⟩ := hw
          have pw_r11 : (0 : Int) ≤ r11.toInt ∧ r11.toInt ≤ 1 := hw
          refine lv_iload_n hx hb dX11_wearers_33 rfl (lv_at hl 0 rfl) ?_
          refine lv_ishl hx hb dX11_wearers_34 ?_
          refine lv_topi (fun t13 et13 => ?_)
          have zt13 : 0 ≤ t13.toInt ∧ t13.toInt ≤ 32 := by rw [et13]; exact shl01_rng (by omega) (by omega) (by omega) (by omega)
          refine lv_ior hx hb dX11_wearers_35 ?_
          refine lv_topi (fun t14 et14 => ?_)
          have zt14 : 0 ≤ t14.toInt ∧ t14.toInt ≤ 63 := by rw [et14]; exact or_rng (show 0 ≤ l1_1.toInt from om_216 hr1_1) (show l1_1.toInt ≤ 63 from om_217 hr1_1) (show 0 ≤ t13.toInt from om_594 zt13) (show t13.toInt ≤ 63 from om_595 zt13)
          refine lv_istore_n (lv' := [(1, .int t14), (2, .int l2_1), (0, .ref y0)]) hx hb dX11_wearers_36 rfl hl (Nat.le_of_ble_eq_true rfl) rfl (fun ls hl => ?_)
          obtain ⟨t15, et15⟩ : ∃ y : Int32, y = l2_1 + 1 := ⟨_, rfl⟩
          have zt15 : t15.toInt = l2_1.toInt + 1 := (congrArg Int32.toInt et15).trans (add_i rfl tc_1 (om_41 hr2_1) (om_187 b24_v zc2))
          refine lv_iinc (v := t15) (lv' := [(2, .int t15), (1, .int t14), (0, .ref y0)]) hx hb dX11_wearers_37 hl (k := 1) rfl et15.symm (Nat.le_of_ble_eq_true rfl) rfl (fun ls hl => ?_)
          refine lv_goto (tgt := 4) hx hb dX11_wearers_40 rfl ?_
          have rg17 := fb_rng t15
          exact ih1 t14 t15 ((gsY_X11_wearers_1_q1 c2 et7 et8 c9 hG12.symm et13 et14 et15).symm.trans hT1) ⟨show (0 : Int) ≤ t14.toInt from om_216 zt14, show t14.toInt ≤ (63 : Int) from om_217 zt14⟩ ⟨show (0 : Int) ≤ t15.toInt from om_43 hr2_1 zt15, show t15.toInt ≤ (2147483647 : Int) from om_44 rg17⟩ (show (2147483647 - t15.toInt).toNat < n1 from om_33 hm1 zt15 rg17) _ _ _ hP hD hS (lv_sub hl [0, 1, 2] rfl)
        · skip
          have zc9 : ¬ (t8.toInt < 0) := zLn rfl tc_0 c9
          refine lv_iconst (v := 1) hx hb dX11_wearers_25 rfl ?_
          refine lv_goto (tgt := 30) hx hb dX11_wearers_26 rfl ?_
          have lt18 : (1 : Int32).toInt = 1 := by decide
          refine cbSi (n := 1) (rest := [.int l1_1]) hx hb hml hown hts hE hP hD hS hA (sY_X11_truth_1 NF l dC dI cy y0 r 1 v f w g hIv hCf hRf ) k_1761 k_1762 k_114 k_1763 he_yX11_truth ⟨Nat.le_of_ble_eq_true rfl, Nat.le_of_ble_eq_true rfl⟩ (rfl) hl.1 rfl (Nat.le_of_ble_eq_true rfl) dX11_wearers_30 (fun r19 u H locs hw hP hD hS => ?_)
          obtain ⟨hG20, hw⟩ := hw
          have pw_r19 : (0 : Int) ≤ r19.toInt ∧ r19.toInt ≤ 1 := hw
          refine lv_iload_n hx hb dX11_wearers_33 rfl (lv_at hl 0 rfl) ?_
          refine lv_ishl hx hb dX11_wearers_34 ?_
          refine lv_topi (fun t21 et21 => ?_)
          have zt21 : 0 ≤ t21.toInt ∧ t21.toInt ≤ 32 := by rw [et21]; exact shl01_rng (by omega) (by omega) (by omega) (by omega)
          refine lv_ior hx hb dX11_wearers_35 ?_
          refine lv_topi (fun t22 et22 => ?_)
          have zt22 : 0 ≤ t22.toInt ∧ t22.toInt ≤ 63 := by rw [et22]; exact or_rng (show 0 ≤ l1_1.toInt from om_216 hr1_1) (show l1_1.toInt ≤ 63 from om_217 hr1_1) (show 0 ≤ t21.toInt from om_594 zt21) (show t21.toInt ≤ 63 from om_595 zt21)
          refine lv_istore_n (lv' := [(1, .int t22), (2, .int l2_1), (0, .ref y0)]) hx hb dX11_wearers_36 rfl hl (Nat.le_of_ble_eq_true rfl) rfl (fun ls hl => ?_)
          obtain ⟨t23, et23⟩ : ∃ y : Int32, y = l2_1 + 1 := ⟨_, rfl⟩
          have zt23 : t23.toInt = l2_1.toInt + 1 := (congrArg Int32.toInt et23).trans (add_i rfl tc_1 (om_41 hr2_1) (om_187 b24_v zc2))
          refine lv_iinc (v := t23) (lv' := [(2, .int t23), (1, .int t22), (0, .ref y0)]) hx hb dX11_wearers_37 hl (k := 1) rfl et23.symm (Nat.le_of_ble_eq_true rfl) rfl (fun ls hl => ?_)
          refine lv_goto (tgt := 4) hx hb dX11_wearers_40 rfl ?_
          have rg25 := fb_rng t23
          exact ih1 t22 t23 ((gsY_X11_wearers_1_q2 c2 et7 et8 c9 hG20.symm et21 et22 et23).symm.trans hT1) ⟨show (0 : Int) ≤ t22.toInt from om_216 zt22, show t22.toInt ≤ (63 : Int) from om_217 zt22⟩ ⟨show (0 : Int) ≤ t23.toInt from om_43 hr2_1 zt23, show t23.toInt ≤ (2147483647 : Int) from om_44 rg25⟩ (show (2147483647 - t23.toInt).toNat < n1 from om_33 hm1 zt23 rg25) _ _ _ hP hD hS (lv_sub hl [0, 1, 2] rfl)
  exact lp1 (4294967296 + NF) 0 0 gsY_X11_wearers_1_q3.symm ⟨by decide, by decide⟩ ⟨by decide, by decide⟩ (show (2147483647 - (0 : Int32).toInt).toNat < 4294967296 + NF from om_38 tc_0) _ _ _ hP hD hS (lv_sub hl [0, 1, 2] rfl)
set_option maxHeartbeats 4000000 in
set_option maxRecDepth 100000 in
theorem sY_X11_fits_1 (NF : Nat) (l : Launch) (dC : Nat → ClassId) (dI : Nat → Nat → Nat) (cy : Nat → ClassId) (y0 : Nat) (r : Nat → Nat) (p1 : Int32) (p2 : Int32) (v : Nat → Int32) (f : Nat → Nat → Int32) (w : Int64) (g : Nat → Int64) (hIv : YI v) (hCf : YC f) (hRf : progOK (f 4) (f 5) (v 9).toInt.toNat) (hp1 : (0 : Int) ≤ p1.toInt ∧ p1.toInt ≤ 5) (hp2 : (-1 : Int) ≤ p2.toInt ∧ p2.toInt ≤ 5) : ctI l (dC, dI) cy yX11_fits cX11_fits 3 .boolean 4 126 0 0 ((Nat → Int32) × (Nat → Nat → Int32) × (Int64) × (Nat → Int64)) [.ref y0, .int p1, .int p2] (YW cy y0 r v f w g) (fun r u => gsY_X11_fits_1 NF p1 p2 v f w g = (r, u) ∧ KV [] u.1 v ∧ KF [7, 8] u.2.1 f ∧ YI u.1 ∧ YC u.2.1 ∧ progOK (u.2.1 4) (u.2.1 5) (u.1 9).toInt.toNat ∧ u.1 0 = v 0 ∧ u.1 1 = v 1 ∧ u.1 2 = v 2 ∧ u.1 3 = v 3 ∧ u.1 4 = v 4 ∧ u.1 5 = v 5 ∧ u.1 8 = v 8 ∧ u.1 9 = v 9 ∧ u.1 10 = v 10 ∧ u.1 13 = v 13 ∧ u.1 14 = v 14 ∧ u.1 15 = v 15 ∧ u.1 17 = v 17 ∧ u.1 18 = v 18 ∧ u.1 24 = v 24 ∧ u.1 25 = v 25 ∧ u.1 35 = v 35 ∧ u.1 36 = v 36 ∧ u.1 38 = v 38 ∧ u.1 39 = v 39 ∧ ((r = 1) ∨ (r = 0))) (fun u => YW cy y0 r u.1 u.2.1 u.2.2.1 u.2.2.2) := by
  refine ctI_of (by decide) (Nat.le_of_ble_eq_true rfl) (fun p e s m below meth c A ls Q hx hb hml hts hown hE hP hD hA hl ret => ?_)
  have hM_v : KV [] v v := fun _ _ => rfl
  have hA_f : KF [7, 8] f f := fun _ _ => rfl
  have hown : s.vm.findClass RX11 = some m.cls := hown
  have hS : va_S A s.heap s.heap [] := va_S.rf
  have hl : lv_has ls 3 [(0, .ref y0), (1, .int p1), (2, .int p2)] := hl
  refine lv_iload_n hx hb dX11_fits_0 rfl (lv_at hl 2 rfl) ?_
  refine lv_if_lt (tgt := 21) hx hb dX11_fits_1 rfl (fun c1 => ?_) (fun c1 => ?_)
  · skip
    refine lv_iconst (v := 0) hx hb dX11_fits_21 rfl ?_
    exact ret 0 (v, f, w, g) _ _ _ _ _ _ rfl ⟨(gsY_X11_fits_1_q0 c1), hM_v, hA_f, hIv, hCf, hRf, rfl, rfl, rfl, rfl, rfl, rfl, rfl, rfl, rfl, rfl, rfl, rfl, rfl, rfl, rfl, rfl, rfl, rfl, rfl, rfl, (Or.inr rfl)⟩ hP hD hS dX11_fits_22 (Nat.le_refl _) (Nat.le_refl _)
  · skip
    have zc1 : ¬ (p2.toInt < 0) := zLn rfl tc_0 c1
    refine lv_aload_n hx hb dX11_fits_4 rfl (lv_at hl 0 rfl) ?_
    refine lv_iload_n hx hb dX11_fits_5 rfl (lv_at hl 1 rfl) ?_
    refine lv_iload_n hx hb dX11_fits_6 rfl (lv_at hl 2 rfl) ?_
    refine cbVi (n := 2) (rest := []) hx hb hml hown hts hE hP hD hS hA (sY_X11_misfitOf_1 NF l dC dI cy y0 r p1 p2 v f w g hIv hCf hRf ⟨show (0 : Int) ≤ p1.toInt from om_214 hp1, show p1.toInt ≤ (5 : Int) from om_215 hp1⟩ ⟨show (0 : Int) ≤ p2.toInt from om_14 zc1, show p2.toInt ≤ (5 : Int) from om_251 hp2⟩) k_1751 k_1753 k_74 k_114 k_1754 hd_yX11_misfitOf ⟨Nat.le_of_ble_eq_true rfl, Nat.le_of_ble_eq_true rfl⟩ 0 11 rfl rfl (rfl) hl.1 rfl (Nat.le_of_ble_eq_true rfl) dX11_fits_7 (fun r2 u H locs hw hP hD hS => ?_)
    obtain ⟨hG3, hw⟩ := hw
    obtain ⟨v4, f5, w6, g7⟩ := u
    obtain ⟨kV_v4, kF_f5, hIv4, hCf5, hRf5, hk0_v4, hk1_v4, hk2_v4, hk3_v4, hk4_v4, hk5_v4, hk8_v4, hk9_v4, hk10_v4, hk13_v4, hk14_v4, hk15_v4, hk17_v4, hk18_v4, hk24_v4, hk25_v4, hk35_v4, hk36_v4, hk38_v4, hk39_v4⟩ := hw
    have hM_v4 : KV [] v4 v := KV.tr kV_v4 hM_v rfl
    have hA_f5 : KF [7, 8] f5 f := KF.tr kF_f5 hA_f rfl
    have hP : va_P (dC, dI) vwCl (YW cy y0 r v4 f5 w6 g7) H := hP
    have hD : va_D A (YW cy y0 r v4 f5 w6 g7) := hD
    refine lv_aload_n hx hb dX11_fits_10 rfl (lv_at hl 0 rfl) ?_
    refine va_get (D := (dC, dI)) (ci := 11) (v := .int (v4 26)) (C := RX11) (T := TX11) (N := 79) hx hb hts inB_11 hown hE.1 hP 0 rfl rfl 50 (Nat.le_of_ble_eq_true rfl) (hts _ k_1370) (fun _ h9 => h9) rfl dX11_fits_11 ?_
    refine lv_icmp_gt (tgt := 21) hx hb dX11_fits_14 rfl (fun c8 => ?_) (fun c8 => ?_)
    · skip
      refine lv_iconst (v := 0) hx hb dX11_fits_21 rfl ?_
      exact ret 0 (v4, f5, w6, g7) _ _ _ _ _ _ rfl ⟨(gsY_X11_fits_1_q1 c1 hG3 c8), hM_v4, hA_f5, hIv4, hCf5, hRf5, hk0_v4, hk1_v4, hk2_v4, hk3_v4, hk4_v4, hk5_v4, hk8_v4, hk9_v4, hk10_v4, hk13_v4, hk14_v4, hk15_v4, hk17_v4, hk18_v4, hk24_v4, hk25_v4, hk35_v4, hk36_v4, hk38_v4, hk39_v4, (Or.inr rfl)⟩ hP hD hS dX11_fits_22 (Nat.le_refl _) (Nat.le_refl _)
    · skip
      refine lv_iconst (v := 1) hx hb dX11_fits_17 rfl ?_
      refine lv_goto (tgt := 22) hx hb dX11_fits_18 rfl ?_
      exact ret 1 (v4, f5, w6, g7) _ _ _ _ _ _ rfl ⟨(gsY_X11_fits_1_q2 c1 hG3 c8), hM_v4, hA_f5, hIv4, hCf5, hRf5, hk0_v4, hk1_v4, hk2_v4, hk3_v4, hk4_v4, hk5_v4, hk8_v4, hk9_v4, hk10_v4, hk13_v4, hk14_v4, hk15_v4, hk17_v4, hk18_v4, hk24_v4, hk25_v4, hk35_v4, hk36_v4, hk38_v4, hk39_v4, (Or.inl rfl)⟩ hP hD hS dX11_fits_22 (Nat.le_refl _) (Nat.le_refl _)
set_option maxHeartbeats 4000000 in
set_option maxRecDepth 100000 in
theorem sY_X11_fitsOwn_1 (NF : Nat) (l : Launch) (dC : Nat → ClassId) (dI : Nat → Nat → Nat) (cy : Nat → ClassId) (y0 : Nat) (r : Nat → Nat) (p1 : Int32) (v : Nat → Int32) (f : Nat → Nat → Int32) (w : Int64) (g : Nat → Int64) (hIv : YI v) (hCf : YC f) (hRf : progOK (f 4) (f 5) (v 9).toInt.toNat) (hp1 : (0 : Int) ≤ p1.toInt ∧ p1.toInt ≤ 5) : ctI l (dC, dI) cy yX11_fitsOwn cX11_fitsOwn 2 .boolean 5 148 0 0 ((Nat → Int32) × (Nat → Nat → Int32) × (Int64) × (Nat → Int64)) [.ref y0, .int p1] (YW cy y0 r v f w g) (fun r u => gsY_X11_fitsOwn_1 NF p1 v f w g = (r, u) ∧ KV [] u.1 v ∧ KF [7, 8] u.2.1 f ∧ YI u.1 ∧ YC u.2.1 ∧ progOK (u.2.1 4) (u.2.1 5) (u.1 9).toInt.toNat ∧ u.1 0 = v 0 ∧ u.1 1 = v 1 ∧ u.1 2 = v 2 ∧ u.1 3 = v 3 ∧ u.1 4 = v 4 ∧ u.1 5 = v 5 ∧ u.1 8 = v 8 ∧ u.1 9 = v 9 ∧ u.1 10 = v 10 ∧ u.1 13 = v 13 ∧ u.1 14 = v 14 ∧ u.1 15 = v 15 ∧ u.1 17 = v 17 ∧ u.1 18 = v 18 ∧ u.1 24 = v 24 ∧ u.1 25 = v 25 ∧ u.1 35 = v 35 ∧ u.1 36 = v 36 ∧ u.1 38 = v 38 ∧ u.1 39 = v 39 ∧ ((r = 1) ∨ (r = 0))) (fun u => YW cy y0 r u.1 u.2.1 u.2.2.1 u.2.2.2) := by
  refine ctI_of (by decide) (Nat.le_of_ble_eq_true rfl) (fun p e s m below meth c A ls Q hx hb hml hts hown hE hP hD hA hl ret => ?_)
  have hUv : (v 35).toInt + (v 36).toInt ≤ 40 := hIv.2
  have hM_v : KV [] v v := fun _ _ => rfl
  have hA_f : KF [7, 8] f f := fun _ _ => rfl
  have hown : s.vm.findClass RX11 = some m.cls := hown
  have hS : va_S A s.heap s.heap [] := va_S.rf
  have hl : lv_has ls 2 [(0, .ref y0), (1, .int p1)] := hl
  refine lv_aload_n hx hb dX11_fitsOwn_0 rfl (lv_at hl 0 rfl) ?_
  refine lv_iload_n hx hb dX11_fitsOwn_1 rfl (lv_at hl 1 rfl) ?_
  refine lv_aload_n hx hb dX11_fitsOwn_2 rfl (lv_at hl 0 rfl) ?_
  refine va_get (D := (dC, dI)) (ci := 11) (v := .ref (r 60)) (C := RX11) (T := TX11) (N := 79) hx hb hts inB_11 hown hE.1 hP 0 rfl rfl 60 (Nat.le_of_ble_eq_true rfl) (hts _ k_1380) (fun _ h9 => h9) rfl dX11_fitsOwn_3 ?_
  refine lv_bipush (v := 6) hx hb dX11_fitsOwn_6 rfl ?_
  refine lv_iload_n hx hb dX11_fitsOwn_8 rfl (lv_at hl 1 rfl) ?_
  refine lv_iadd hx hb dX11_fitsOwn_9 ?_
  refine lv_topi (fun t1 et1 => ?_)
  have rg2 := fb_rng p1
  have zt1 : t1.toInt = 6 + p1.toInt := (congrArg Int32.toInt et1).trans (add_i tc_6 rfl (om_596 hp1) (om_597 hp1))
  refine ldI hx hb hE hP 25 rfl (vpI (k := 39) rfl (show 0 ≤ t1.toInt from om_598 hp1 zt1) (show t1.toInt < 39 from om_599 hp1 zt1)) rfl rfl dX11_fitsOwn_10 ?_
  refine lv_topi (fun t3 et3 => ?_)
  have zt3 : t1.toInt.toNat % 39 < 6 ∨ 12 ≤ t1.toInt.toNat % 39 ∨ (-1 ≤ t3.toInt ∧ t3.toInt ≤ 5) := by rw [et3]; exact wear_ld hCf.2.1 (show t1.toInt.toNat < 39 from om_600 hp1 zt1)
  refine cbVi (n := 2) (rest := []) hx hb hml hown hts hE hP hD hS hA (sY_X11_fits_1 NF l dC dI cy y0 r p1 t3 v f w g hIv hCf hRf ⟨show (0 : Int) ≤ p1.toInt from om_214 hp1, show p1.toInt ≤ (5 : Int) from om_215 hp1⟩ ⟨show (-1 : Int) ≤ t3.toInt by omega, show t3.toInt ≤ (5 : Int) by omega⟩) k_1747 k_1749 k_73 k_114 k_1750 hd_yX11_fits ⟨Nat.le_of_ble_eq_true rfl, Nat.le_of_ble_eq_true rfl⟩ 0 11 rfl rfl (rfl) hl.1 rfl (Nat.le_of_ble_eq_true rfl) dX11_fitsOwn_11 (fun r4 u H locs hw hP hD hS => ?_)
  obtain ⟨hG5, hw⟩ := hw
  obtain ⟨v6, f7, w8, g9⟩ := u
  obtain ⟨kV_v6, kF_f7, hIv6, hCf7, hRf7, hk0_v6, hk1_v6, hk2_v6, hk3_v6, hk4_v6, hk5_v6, hk8_v6, hk9_v6, hk10_v6, hk13_v6, hk14_v6, hk15_v6, hk17_v6, hk18_v6, hk24_v6, hk25_v6, hk35_v6, hk36_v6, hk38_v6, hk39_v6, hw⟩ := hw
  have hM_v6 : KV [] v6 v := KV.tr kV_v6 hM_v rfl
  have hA_f7 : KF [7, 8] f7 f := KF.tr kF_f7 hA_f rfl
  have hP : va_P (dC, dI) vwCl (YW cy y0 r v6 f7 w8 g9) H := hP
  have hD : va_D A (YW cy y0 r v6 f7 w8 g9) := hD
  rcases hw with ⟨g10⟩ | ⟨g10⟩
  · skip
    subst g10
    exact ret 1 (v6, f7, w8, g9) _ _ _ _ _ _ rfl ⟨(gsY_X11_fitsOwn_1_q0 et1 et3 hG5), hM_v6, hA_f7, hIv6, hCf7, hRf7, hk0_v6, hk1_v6, hk2_v6, hk3_v6, hk4_v6, hk5_v6, hk8_v6, hk9_v6, hk10_v6, hk13_v6, hk14_v6, hk15_v6, hk17_v6, hk18_v6, hk24_v6, hk25_v6, hk35_v6, hk36_v6, hk38_v6, hk39_v6, (Or.inl rfl)⟩ hP hD hS dX11_fitsOwn_14 (Nat.le_refl _) (Nat.le_refl _)
  · skip
    subst g10
    exact ret 0 (v6, f7, w8, g9) _ _ _ _ _ _ rfl ⟨(gsY_X11_fitsOwn_1_q1 et1 et3 hG5), hM_v6, hA_f7, hIv6, hCf7, hRf7, hk0_v6, hk1_v6, hk2_v6, hk3_v6, hk4_v6, hk5_v6, hk8_v6, hk9_v6, hk10_v6, hk13_v6, hk14_v6, hk15_v6, hk17_v6, hk18_v6, hk24_v6, hk25_v6, hk35_v6, hk36_v6, hk38_v6, hk39_v6, (Or.inr rfl)⟩ hP hD hS dX11_fitsOwn_14 (Nat.le_refl _) (Nat.le_refl _)
set_option maxHeartbeats 4000000 in
set_option maxRecDepth 100000 in
theorem sY_X11_fittedOnes_1 (NF : Nat) (l : Launch) (dC : Nat → ClassId) (dI : Nat → Nat → Nat) (cy : Nat → ClassId) (y0 : Nat) (r : Nat → Nat)  (v : Nat → Int32) (f : Nat → Nat → Int32) (w : Int64) (g : Nat → Int64) (hIv : YI v) (hCf : YC f) (hRf : progOK (f 4) (f 5) (v 9).toInt.toNat)  : ctI l (dC, dI) cy yX11_fittedOnes cX11_fittedOnes 3 .int 6 169 0 0 ((Nat → Int32) × (Nat → Nat → Int32) × (Int64) × (Nat → Int64)) [.ref y0] (YW cy y0 r v f w g) (fun r u => gsY_X11_fittedOnes_1 NF v f w g = (r, u) ∧ KV [] u.1 v ∧ KF [7, 8] u.2.1 f ∧ YI u.1 ∧ YC u.2.1 ∧ progOK (u.2.1 4) (u.2.1 5) (u.1 9).toInt.toNat ∧ u.1 0 = v 0 ∧ u.1 1 = v 1 ∧ u.1 2 = v 2 ∧ u.1 3 = v 3 ∧ u.1 4 = v 4 ∧ u.1 5 = v 5 ∧ u.1 8 = v 8 ∧ u.1 9 = v 9 ∧ u.1 10 = v 10 ∧ u.1 13 = v 13 ∧ u.1 14 = v 14 ∧ u.1 15 = v 15 ∧ u.1 17 = v 17 ∧ u.1 18 = v 18 ∧ u.1 24 = v 24 ∧ u.1 25 = v 25 ∧ u.1 35 = v 35 ∧ u.1 36 = v 36 ∧ u.1 38 = v 38 ∧ u.1 39 = v 39) (fun u => YW cy y0 r u.1 u.2.1 u.2.2.1 u.2.2.2) := by
  refine ctI_of (by decide) (Nat.le_of_ble_eq_true rfl) (fun p e s m below meth c A ls Q hx hb hml hts hown hE hP hD hA hl ret => ?_)
  have hUv : (v 35).toInt + (v 36).toInt ≤ 40 := hIv.2
  have hM_v : KV [] v v := fun _ _ => rfl
  have hA_f : KF [7, 8] f f := fun _ _ => rfl
  have hown : s.vm.findClass RX11 = some m.cls := hown
  have hS : va_S A s.heap s.heap [] := va_S.rf
  have hl : lv_has ls 3 [(0, .ref y0)] := hl
  refine lv_iconst (v := 0) hx hb dX11_fittedOnes_0 rfl ?_
  refine lv_istore_n (lv' := [(1, .int 0), (0, .ref y0)]) hx hb dX11_fittedOnes_1 rfl hl (Nat.le_of_ble_eq_true rfl) rfl (fun ls hl => ?_)
  refine lv_iconst (v := 0) hx hb dX11_fittedOnes_2 rfl ?_
  refine lv_istore_n (lv' := [(2, .int 0), (1, .int 0), (0, .ref y0)]) hx hb dX11_fittedOnes_3 rfl hl (Nat.le_of_ble_eq_true rfl) rfl (fun ls hl => ?_)
  have lp1 : ∀ (n1 : Nat) (l1_1 : Int32) (l2_1 : Int32) (v1 : Nat → Int32) (f1 : Nat → Nat → Int32) (w1 : Int64) (g1 : Nat → Int64), YI v1 → YC f1 → progOK (f1 4) (f1 5) (v1 9).toInt.toNat → v1 0 = (v 0) → v1 1 = (v 1) → v1 2 = (v 2) → v1 3 = (v 3) → v1 4 = (v 4) → v1 5 = (v 5) → v1 8 = (v 8) → v1 9 = (v 9) → v1 10 = (v 10) → v1 13 = (v 13) → v1 14 = (v 14) → v1 15 = (v 15) → v1 17 = (v 17) → v1 18 = (v 18) → v1 24 = (v 24) → v1 25 = (v 25) → v1 35 = (v 35) → v1 36 = (v 36) → v1 38 = (v 38) → v1 39 = (v 39) → gsY_X11_fittedOnes_1_L1 NF v n1 l1_1 l2_1 v1 f1 w1 g1 = (gsY_X11_fittedOnes_1 NF v f w g) → ((0 : Int) ≤ l2_1.toInt ∧ l2_1.toInt ≤ 2147483647) → KV [] v1 v → KF [7, 8] f1 f → (2147483647 - l2_1.toInt).toNat < n1 → ∀ (H : Heap) (locs : List Loc) (ls : Array Slot), va_P (dC, dI) vwCl (YW cy y0 r v1 f1 w1 g1) H → va_D A (YW cy y0 r v1 f1 w1 g1) → va_S A s.heap H locs → lv_has ls 3 [(2, .int l2_1), (1, .int l1_1), (0, .ref y0)] → W p l e { frames := 6, cells := 0, slots := 0, locals := 169 } s m ([.ref y0] : List Value).toArray below meth c H locs 0 0 Q (F0 m 4 ls []) := by
    intro n1
    induction n1 with
    | zero => intro l1_1 l2_1 v1 f1 w1 g1 hIv1 hCf1 hRf1 hq0_v1 hq1_v1 hq2_v1 hq3_v1 hq4_v1 hq5_v1 hq8_v1 hq9_v1 hq10_v1 hq13_v1 hq14_v1 hq15_v1 hq17_v1 hq18_v1 hq24_v1 hq25_v1 hq35_v1 hq36_v1 hq38_v1 hq39_v1 hT1 hr2_1 hM_v1 hA_f1 hm; exact absurd hm (Nat.not_lt_zero _)
    | succ n1 ih1 =>
      intro l1_1 l2_1 v1 f1 w1 g1 hIv1 hCf1 hRf1 hq0_v1 hq1_v1 hq2_v1 hq3_v1 hq4_v1 hq5_v1 hq8_v1 hq9_v1 hq10_v1 hq13_v1 hq14_v1 hq15_v1 hq17_v1 hq18_v1 hq24_v1 hq25_v1 hq35_v1 hq36_v1 hq38_v1 hq39_v1 hT1 hr2_1 hM_v1 hA_f1 hm1 H locs ls hP hD hS hl
      have hUv1 : (v1 35).toInt + (v1 36).toInt ≤ 40 := hIv1.2
      have zq9_v1 := congrArg Int32.toInt hq9_v1
      refine lv_iload_n hx hb dX11_fittedOnes_4 rfl (lv_at hl 0 rfl) ?_
      refine lv_aload_n hx hb dX11_fittedOnes_5 rfl (lv_at hl 2 rfl) ?_
      refine va_get (D := (dC, dI)) (ci := 11) (v := .int (v1 24)) (C := RX11) (T := TX11) (N := 79) hx hb hts inB_11 hown hE.1 hP 0 rfl rfl 48 (Nat.le_of_ble_eq_true rfl) (hts _ k_1368) (fun _ h9 => h9) rfl dX11_fittedOnes_6 ?_
      refine tI (y := (v 24)) hq24_v1 ?_
      have b24_v : 0 ≤ (v 24).toInt ∧ (v 24).toInt ≤ 6 := Yb_24 hIv.1
      refine lv_icmp_ge (tgt := 31) hx hb dX11_fittedOnes_9 rfl (fun c2 => ?_) (fun c2 => ?_)
      · skip
        refine lv_iload_n hx hb dX11_fittedOnes_31 rfl (lv_at hl 1 rfl) ?_
        exact ret l1_1 (v1, f1, w1, g1) _ _ _ _ _ _ rfl ⟨(hT1.symm.trans (gsY_X11_fittedOnes_1_q0 c2)), hM_v1, hA_f1, hIv1, hCf1, hRf1, (show v1 0 = v 0 from hq0_v1), (show v1 1 = v 1 from hq1_v1), (show v1 2 = v 2 from hq2_v1), (show v1 3 = v 3 from hq3_v1), (show v1 4 = v 4 from hq4_v1), (show v1 5 = v 5 from hq5_v1), (show v1 8 = v 8 from hq8_v1), (show v1 9 = v 9 from hq9_v1), (show v1 10 = v 10 from hq10_v1), (show v1 13 = v 13 from hq13_v1), (show v1 14 = v 14 from hq14_v1), (show v1 15 = v 15 from hq15_v1), (show v1 17 = v 17 from hq17_v1), (show v1 18 = v 18 from hq18_v1), (show v1 24 = v 24 from hq24_v1), (show v1 25 = v 25 from hq25_v1), (show v1 35 = v 35 from hq35_v1), (show v1 36 = v 36 from hq36_v1), (show v1 38 = v 38 from hq38_v1), (show v1 39 = v 39 from hq39_v1)⟩ hP hD hS dX11_fittedOnes_32 (Nat.le_refl _) (Nat.le_refl _)
      · skip
        have zc2 : ¬ ((v 24).toInt ≤ l2_1.toInt) := zMn rfl rfl c2
        have rg5 := fb_rng l2_1
        have rg6 := fb_rng (v 24)
        refine lv_iload_n hx hb dX11_fittedOnes_12 rfl (lv_at hl 1 rfl) ?_
        refine lv_aload_n hx hb dX11_fittedOnes_13 rfl (lv_at hl 2 rfl) ?_
        refine lv_iload_n hx hb dX11_fittedOnes_14 rfl (lv_at hl 0 rfl) ?_
        refine cbVi (n := 1) (rest := [.int l1_1]) hx hb hml hown hts hE hP hD hS hA (sY_X11_fitsOwn_1 NF l dC dI cy y0 r l2_1 v1 f1 w1 g1 hIv1 hCf1 hRf1 ⟨show (0 : Int) ≤ l2_1.toInt from om_39 hr2_1, show l2_1.toInt ≤ (5 : Int) from om_100 b24_v zc2⟩) k_1813 k_1815 k_82 k_114 k_1816 hd_yX11_fitsOwn ⟨Nat.le_of_ble_eq_true rfl, Nat.le_of_ble_eq_true rfl⟩ 0 11 rfl rfl (rfl) hl.1 rfl (Nat.le_of_ble_eq_true rfl) dX11_fittedOnes_15 (fun r7 u H locs hw hP hD hS => ?_)
        obtain ⟨hG8, hw⟩ := hw
        obtain ⟨v9, f10, w11, g12⟩ := u
        obtain ⟨kV_v9, kF_f10, hIv9, hCf10, hRf10, hk0_v9, hk1_v9, hk2_v9, hk3_v9, hk4_v9, hk5_v9, hk8_v9, hk9_v9, hk10_v9, hk13_v9, hk14_v9, hk15_v9, hk17_v9, hk18_v9, hk24_v9, hk25_v9, hk35_v9, hk36_v9, hk38_v9, hk39_v9, hw⟩ := hw
        have hM_v9 : KV [] v9 v := KV.tr kV_v9 hM_v1 rfl
        have hA_f10 : KF [7, 8] f10 f := KF.tr kF_f10 hA_f1 rfl
        have hP : va_P (dC, dI) vwCl (YW cy y0 r v9 f10 w11 g12) H := hP
        have hD : va_D A (YW cy y0 r v9 f10 w11 g12) := hD
        have hUv9 : (v9 35).toInt + (v9 36).toInt ≤ 40 := hIv9.2
        have hq0_v9 : v9 0 = (v 0) := hk0_v9.trans hq0_v1
        have hq1_v9 : v9 1 = (v 1) := hk1_v9.trans hq1_v1
        have hq2_v9 : v9 2 = (v 2) := hk2_v9.trans hq2_v1
        have hq3_v9 : v9 3 = (v 3) := hk3_v9.trans hq3_v1
        have hq4_v9 : v9 4 = (v 4) := hk4_v9.trans hq4_v1
        have hq5_v9 : v9 5 = (v 5) := hk5_v9.trans hq5_v1
        have hq8_v9 : v9 8 = (v 8) := hk8_v9.trans hq8_v1
        have hq9_v9 : v9 9 = (v 9) := hk9_v9.trans hq9_v1
        have zq9_v9 := congrArg Int32.toInt hq9_v9
        have hq10_v9 : v9 10 = (v 10) := hk10_v9.trans hq10_v1
        have hq13_v9 : v9 13 = (v 13) := hk13_v9.trans hq13_v1
        have hq14_v9 : v9 14 = (v 14) := hk14_v9.trans hq14_v1
        have hq15_v9 : v9 15 = (v 15) := hk15_v9.trans hq15_v1
        have hq17_v9 : v9 17 = (v 17) := hk17_v9.trans hq17_v1
        have hq18_v9 : v9 18 = (v 18) := hk18_v9.trans hq18_v1
        have hq24_v9 : v9 24 = (v 24) := hk24_v9.trans hq24_v1
        have hq25_v9 : v9 25 = (v 25) := hk25_v9.trans hq25_v1
        have hq35_v9 : v9 35 = (v 35) := hk35_v9.trans hq35_v1
        have hq36_v9 : v9 36 = (v 36) := hk36_v9.trans hq36_v1
        have hq38_v9 : v9 38 = (v 38) := hk38_v9.trans hq38_v1
        have hq39_v9 : v9 39 = (v 39) := hk39_v9.trans hq39_v1
        rcases hw with ⟨g13⟩ | ⟨g13⟩
        · skip
          subst g13
          have lt14 : (1 : Int32).toInt = 1 := by decide
          refine cbSi (n := 1) (rest := [.int l1_1]) hx hb hml hown hts hE hP hD hS hA (sY_X11_truth_1 NF l dC dI cy y0 r 1 v9 f10 w11 g12 hIv9 hCf10 hRf10 ) k_1761 k_1762 k_114 k_1763 he_yX11_truth ⟨Nat.le_of_ble_eq_true rfl, Nat.le_of_ble_eq_true rfl⟩ (rfl) hl.1 rfl (Nat.le_of_ble_eq_true rfl) dX11_fittedOnes_18 (fun r15 u H locs hw hP hD hS => ?_)
          obtain ⟨hG16, hw⟩ := hw
          have pw_r15 : (0 : Int) ≤ r15.toInt ∧ r15.toInt ≤ 1 := hw
          refine lv_iload_n hx hb dX11_fittedOnes_21 rfl (lv_at hl 0 rfl) ?_
          refine lv_ishl hx hb dX11_fittedOnes_22 ?_
          refine lv_topi (fun t17 et17 => ?_)
          refine lv_ior hx hb dX11_fittedOnes_23 ?_
          refine lv_topi (fun t18 et18 => ?_)
          refine lv_istore_n (lv' := [(1, .int t18), (2, .int l2_1), (0, .ref y0)]) hx hb dX11_fittedOnes_24 rfl hl (Nat.le_of_ble_eq_true rfl) rfl (fun ls hl => ?_)
          obtain ⟨t19, et19⟩ : ∃ y : Int32, y = l2_1 + 1 := ⟨_, rfl⟩
          have zt19 : t19.toInt = l2_1.toInt + 1 := (congrArg Int32.toInt et19).trans (add_i rfl tc_1 (om_41 hr2_1) (om_187 b24_v zc2))
          refine lv_iinc (v := t19) (lv' := [(2, .int t19), (1, .int t18), (0, .ref y0)]) hx hb dX11_fittedOnes_25 hl (k := 1) rfl et19.symm (Nat.le_of_ble_eq_true rfl) rfl (fun ls hl => ?_)
          refine lv_goto (tgt := 4) hx hb dX11_fittedOnes_28 rfl ?_
          have rg20 := fb_rng t19
          exact ih1 t18 t19 v9 f10 w11 g12 hIv9 hCf10 hRf10 hq0_v9 hq1_v9 hq2_v9 hq3_v9 hq4_v9 hq5_v9 hq8_v9 hq9_v9 hq10_v9 hq13_v9 hq14_v9 hq15_v9 hq17_v9 hq18_v9 hq24_v9 hq25_v9 hq35_v9 hq36_v9 hq38_v9 hq39_v9 ((gsY_X11_fittedOnes_1_q1 c2 hG8 hG16.symm et17 et18 et19).symm.trans hT1) ⟨show (0 : Int) ≤ t19.toInt from om_43 hr2_1 zt19, show t19.toInt ≤ (2147483647 : Int) from om_44 rg20⟩ hM_v9 hA_f10 (show (2147483647 - t19.toInt).toNat < n1 from om_33 hm1 zt19 rg20) _ _ _ hP hD hS (lv_sub hl [0, 1, 2] rfl)
        · skip
          subst g13
          have lt21 : (0 : Int32).toInt = 0 := by decide
          refine cbSi (n := 1) (rest := [.int l1_1]) hx hb hml hown hts hE hP hD hS hA (sY_X11_truth_1 NF l dC dI cy y0 r 0 v9 f10 w11 g12 hIv9 hCf10 hRf10 ) k_1761 k_1762 k_114 k_1763 he_yX11_truth ⟨Nat.le_of_ble_eq_true rfl, Nat.le_of_ble_eq_true rfl⟩ (rfl) hl.1 rfl (Nat.le_of_ble_eq_true rfl) dX11_fittedOnes_18 (fun r22 u H locs hw hP hD hS => ?_)
          obtain ⟨hG23, hw⟩ := hw
          have pw_r22 : (0 : Int) ≤ r22.toInt ∧ r22.toInt ≤ 1 := hw
          refine lv_iload_n hx hb dX11_fittedOnes_21 rfl (lv_at hl 0 rfl) ?_
          refine lv_ishl hx hb dX11_fittedOnes_22 ?_
          refine lv_topi (fun t24 et24 => ?_)
          refine lv_ior hx hb dX11_fittedOnes_23 ?_
          refine lv_topi (fun t25 et25 => ?_)
          refine lv_istore_n (lv' := [(1, .int t25), (2, .int l2_1), (0, .ref y0)]) hx hb dX11_fittedOnes_24 rfl hl (Nat.le_of_ble_eq_true rfl) rfl (fun ls hl => ?_)
          obtain ⟨t26, et26⟩ : ∃ y : Int32, y = l2_1 + 1 := ⟨_, rfl⟩
          have zt26 : t26.toInt = l2_1.toInt + 1 := (congrArg Int32.toInt et26).trans (add_i rfl tc_1 (om_41 hr2_1) (om_187 b24_v zc2))
          refine lv_iinc (v := t26) (lv' := [(2, .int t26), (1, .int t25), (0, .ref y0)]) hx hb dX11_fittedOnes_25 hl (k := 1) rfl et26.symm (Nat.le_of_ble_eq_true rfl) rfl (fun ls hl => ?_)
          refine lv_goto (tgt := 4) hx hb dX11_fittedOnes_28 rfl ?_
          have rg27 := fb_rng t26
          exact ih1 t25 t26 v9 f10 w11 g12 hIv9 hCf10 hRf10 hq0_v9 hq1_v9 hq2_v9 hq3_v9 hq4_v9 hq5_v9 hq8_v9 hq9_v9 hq10_v9 hq13_v9 hq14_v9 hq15_v9 hq17_v9 hq18_v9 hq24_v9 hq25_v9 hq35_v9 hq36_v9 hq38_v9 hq39_v9 ((gsY_X11_fittedOnes_1_q2 c2 hG8 hG23.symm et24 et25 et26).symm.trans hT1) ⟨show (0 : Int) ≤ t26.toInt from om_43 hr2_1 zt26, show t26.toInt ≤ (2147483647 : Int) from om_44 rg27⟩ hM_v9 hA_f10 (show (2147483647 - t26.toInt).toNat < n1 from om_33 hm1 zt26 rg27) _ _ _ hP hD hS (lv_sub hl [0, 1, 2] rfl)
  exact lp1 (4294967296 + NF) 0 0 v f w g hIv hCf hRf rfl rfl rfl rfl rfl rfl rfl rfl rfl rfl rfl rfl rfl rfl rfl rfl rfl rfl rfl rfl gsY_X11_fittedOnes_1_q3.symm ⟨by decide, by decide⟩ hM_v hA_f (show (2147483647 - (0 : Int32).toInt).toNat < 4294967296 + NF from om_38 tc_0) _ _ _ hP hD hS (lv_sub hl [0, 1, 2] rfl)
set_option maxHeartbeats 4000000 in
set_option maxRecDepth 100000 in
theorem sY_X11_wearer_1 (NF : Nat) (l : Launch) (dC : Nat → ClassId) (dI : Nat → Nat → Nat) (cy : Nat → ClassId) (y0 : Nat) (r : Nat → Nat) (p1 : Int32) (v : Nat → Int32) (f : Nat → Nat → Int32) (w : Int64) (g : Nat → Int64) (hIv : YI v) (hCf : YC f) (hRf : progOK (f 4) (f 5) (v 9).toInt.toNat)  : ctI l (dC, dI) cy yX11_wearer cX11_wearer 4 .int 1 60 0 0 Unit [.ref y0, .int p1] (YW cy y0 r v f w g) (fun r u => gsY_X11_wearer_1 NF p1 v f w g = r) (fun u => YW cy y0 r v f w g) := by
  refine ctI_of (by decide) (Nat.le_of_ble_eq_true rfl) (fun p e s m below meth c A ls Q hx hb hml hts hown hE hP hD hA hl ret => ?_)
  have hown : s.vm.findClass RX11 = some m.cls := hown
  have hS : va_S A s.heap s.heap [] := va_S.rf
  have hl : lv_has ls 4 [(0, .ref y0), (1, .int p1)] := hl
  refine lv_iconst (v := (-1)) hx hb dX11_wearer_0 rfl ?_
  refine lv_istore_n (lv' := [(2, .int (-1)), (0, .ref y0), (1, .int p1)]) hx hb dX11_wearer_1 rfl hl (Nat.le_of_ble_eq_true rfl) rfl (fun ls hl => ?_)
  refine lv_iconst (v := 0) hx hb dX11_wearer_2 rfl ?_
  refine lv_istore_n (lv' := [(3, .int 0), (2, .int (-1)), (0, .ref y0), (1, .int p1)]) hx hb dX11_wearer_3 rfl hl (Nat.le_of_ble_eq_true rfl) rfl (fun ls hl => ?_)
  have lp1 : ∀ (n1 : Nat) (l2_1 : Int32) (l3_1 : Int32), gsY_X11_wearer_1_L1 NF p1 v f n1 l2_1 l3_1 = (gsY_X11_wearer_1 NF p1 v f w g) → ((0 : Int) ≤ l3_1.toInt ∧ l3_1.toInt ≤ 2147483647) → (2147483647 - l3_1.toInt).toNat < n1 → ∀ (H : Heap) (locs : List Loc) (ls : Array Slot), va_P (dC, dI) vwCl (YW cy y0 r v f w g) H → va_D A (YW cy y0 r v f w g) → va_S A s.heap H locs → lv_has ls 4 [(3, .int l3_1), (2, .int l2_1), (0, .ref y0), (1, .int p1)] → W p l e { frames := 1, cells := 0, slots := 0, locals := 60 } s m ([.ref y0, .int p1] : List Value).toArray below meth c H locs 0 0 Q (F0 m 4 ls []) := by
    intro n1
    induction n1 with
    | zero => intro l2_1 l3_1 hT1 hr3_1 hm; exact absurd hm (Nat.not_lt_zero _)
    | succ n1 ih1 =>
      intro l2_1 l3_1 hT1 hr3_1 hm1 H locs ls hP hD hS hl
      refine lv_iload_n hx hb dX11_wearer_4 rfl (lv_at hl 0 rfl) ?_
      refine lv_aload_n hx hb dX11_wearer_5 rfl (lv_at hl 2 rfl) ?_
      refine va_get (D := (dC, dI)) (ci := 11) (v := .int (v 24)) (C := RX11) (T := TX11) (N := 79) hx hb hts inB_11 hown hE.1 hP 0 rfl rfl 48 (Nat.le_of_ble_eq_true rfl) (hts _ k_1368) (fun _ h9 => h9) rfl dX11_wearer_6 ?_
      have b24_v : 0 ≤ (v 24).toInt ∧ (v 24).toInt ≤ 6 := Yb_24 hIv.1
      refine lv_icmp_ge (tgt := 37) hx hb dX11_wearer_9 rfl (fun c2 => ?_) (fun c2 => ?_)
      · skip
        refine lv_iload_n hx hb dX11_wearer_37 rfl (lv_at hl 1 rfl) ?_
        exact ret l2_1 () _ _ _ _ _ _ rfl (hT1.symm.trans (gsY_X11_wearer_1_q0 c2)) hP hD hS dX11_wearer_38 (Nat.le_refl _) (Nat.le_refl _)
      · skip
        have zc2 : ¬ ((v 24).toInt ≤ l3_1.toInt) := zMn rfl rfl c2
        refine lv_aload_n hx hb dX11_wearer_12 rfl (lv_at hl 2 rfl) ?_
        refine va_get (D := (dC, dI)) (ci := 11) (v := .ref (r 60)) (C := RX11) (T := TX11) (N := 79) hx hb hts inB_11 hown hE.1 hP 0 rfl rfl 60 (Nat.le_of_ble_eq_true rfl) (hts _ k_1380) (fun _ h9 => h9) rfl dX11_wearer_13 ?_
        refine lv_bipush (v := 6) hx hb dX11_wearer_16 rfl ?_
        refine lv_iload_n hx hb dX11_wearer_18 rfl (lv_at hl 0 rfl) ?_
        refine lv_iadd hx hb dX11_wearer_19 ?_
        refine lv_topi (fun t7 et7 => ?_)
        have zt7 : t7.toInt = 6 + l3_1.toInt := (congrArg Int32.toInt et7).trans (add_i tc_6 rfl (om_120 hr3_1) (om_476 b24_v zc2))
        refine ldI hx hb hE hP 25 rfl (vpI (k := 39) rfl (show 0 ≤ t7.toInt from om_121 hr3_1 zt7) (show t7.toInt < 39 from om_477 b24_v zc2 zt7)) rfl rfl dX11_wearer_20 ?_
        refine lv_topi (fun t8 et8 => ?_)
        refine lv_iload_n hx hb dX11_wearer_21 rfl (lv_at hl 3 rfl) ?_
        refine lv_icmp_ne (tgt := 29) hx hb dX11_wearer_22 rfl (fun c9 => ?_) (fun c9 => ?_)
        · skip
          refine lv_iload_n hx hb dX11_wearer_29 rfl (lv_at hl 1 rfl) ?_
          refine lv_istore_n (lv' := [(2, .int l2_1), (3, .int l3_1), (0, .ref y0), (1, .int p1)]) hx hb dX11_wearer_30 rfl hl (Nat.le_of_ble_eq_true rfl) rfl (fun ls hl => ?_)
          obtain ⟨t12, et12⟩ : ∃ y : Int32, y = l3_1 + 1 := ⟨_, rfl⟩
          have zt12 : t12.toInt = l3_1.toInt + 1 := (congrArg Int32.toInt et12).trans (add_i rfl tc_1 (om_41 hr3_1) (om_187 b24_v zc2))
          refine lv_iinc (v := t12) (lv' := [(3, .int t12), (2, .int l2_1), (0, .ref y0), (1, .int p1)]) hx hb dX11_wearer_31 hl (k := 1) rfl et12.symm (Nat.le_of_ble_eq_true rfl) rfl (fun ls hl => ?_)
          refine lv_goto (tgt := 4) hx hb dX11_wearer_34 rfl ?_
          have rg13 := fb_rng t12
          exact ih1 l2_1 t12 ((gsY_X11_wearer_1_q1 c2 et7 et8 c9 et12).symm.trans hT1) ⟨show (0 : Int) ≤ t12.toInt from om_43 hr3_1 zt12, show t12.toInt ≤ (2147483647 : Int) from om_44 rg13⟩ (show (2147483647 - t12.toInt).toNat < n1 from om_33 hm1 zt12 rg13) _ _ _ hP hD hS (lv_sub hl [0, 1, 2, 3] rfl)
        · skip
          refine lv_iload_n hx hb dX11_wearer_25 rfl (lv_at hl 0 rfl) ?_
          refine lv_goto (tgt := 30) hx hb dX11_wearer_26 rfl ?_
          refine lv_istore_n (lv' := [(2, .int l3_1), (3, .int l3_1), (0, .ref y0), (1, .int p1)]) hx hb dX11_wearer_30 rfl hl (Nat.le_of_ble_eq_true rfl) rfl (fun ls hl => ?_)
          obtain ⟨t16, et16⟩ : ∃ y : Int32, y = l3_1 + 1 := ⟨_, rfl⟩
          have zt16 : t16.toInt = l3_1.toInt + 1 := (congrArg Int32.toInt et16).trans (add_i rfl tc_1 (om_41 hr3_1) (om_187 b24_v zc2))
          refine lv_iinc (v := t16) (lv' := [(3, .int t16), (2, .int l3_1), (0, .ref y0), (1, .int p1)]) hx hb dX11_wearer_31 hl (k := 1) rfl et16.symm (Nat.le_of_ble_eq_true rfl) rfl (fun ls hl => ?_)
          refine lv_goto (tgt := 4) hx hb dX11_wearer_34 rfl ?_
          have rg17 := fb_rng t16
          exact ih1 l3_1 t16 ((gsY_X11_wearer_1_q2 c2 et7 et8 c9 et16).symm.trans hT1) ⟨show (0 : Int) ≤ t16.toInt from om_43 hr3_1 zt16, show t16.toInt ≤ (2147483647 : Int) from om_44 rg17⟩ (show (2147483647 - t16.toInt).toNat < n1 from om_33 hm1 zt16 rg17) _ _ _ hP hD hS (lv_sub hl [0, 1, 2, 3] rfl)
  exact lp1 (4294967296 + NF) (-1) 0 gsY_X11_wearer_1_q3.symm ⟨by decide, by decide⟩ (show (2147483647 - (0 : Int32).toInt).toNat < 4294967296 + NF from om_38 tc_0) _ _ _ hP hD hS (lv_sub hl [0, 1, 2, 3] rfl)
set_option maxHeartbeats 4000000 in
set_option maxRecDepth 100000 in
theorem sY_X11_lesser_1 (NF : Nat) (l : Launch) (dC : Nat → ClassId) (dI : Nat → Nat → Nat) (cy : Nat → ClassId) (y0 : Nat) (r : Nat → Nat) (p0 : Int32) (p1 : Int32) (v : Nat → Int32) (f : Nat → Nat → Int32) (w : Int64) (g : Nat → Int64) (hIv : YI v) (hCf : YC f) (hRf : progOK (f 4) (f 5) (v 9).toInt.toNat)  : ctI l (dC, dI) cy yX11_lesser cX11_lesser 2 .int 1 60 0 0 Unit [.int p0, .int p1] (YW cy y0 r v f w g) (fun r u => gsY_X11_lesser_1 NF p0 p1 v f w g = r ∧ (r.toInt ≤ p0.toInt) ∧ (r.toInt ≤ p1.toInt)) (fun u => YW cy y0 r v f w g) := by
  refine ctI_of (by decide) (Nat.le_of_ble_eq_true rfl) (fun p e s m below meth c A ls Q hx hb hml hts hown hE hP hD hA hl ret => ?_)
  have hown : s.vm.findClass RX11 = some m.cls := hown
  have hS : va_S A s.heap s.heap [] := va_S.rf
  have hl : lv_has ls 2 [(0, .int p0), (1, .int p1)] := hl
  refine lv_iload_n hx hb dX11_lesser_0 rfl (lv_at hl 0 rfl) ?_
  refine lv_iload_n hx hb dX11_lesser_1 rfl (lv_at hl 1 rfl) ?_
  refine lv_icmp_ge (tgt := 9) hx hb dX11_lesser_2 rfl (fun c1 => ?_) (fun c1 => ?_)
  · skip
    have zc1 : p1.toInt ≤ p0.toInt := zMp rfl rfl c1
    refine lv_iload_n hx hb dX11_lesser_9 rfl (lv_at hl 1 rfl) ?_
    exact ret p1 () _ _ _ _ _ _ rfl ⟨(gsY_X11_lesser_1_q0 c1), (show p1.toInt ≤ p0.toInt from om_318 zc1), (show p1.toInt ≤ p1.toInt from om_329)⟩ hP hD hS dX11_lesser_10 (Nat.le_refl _) (Nat.le_refl _)
  · skip
    have zc1 : ¬ (p1.toInt ≤ p0.toInt) := zMn rfl rfl c1
    refine lv_iload_n hx hb dX11_lesser_5 rfl (lv_at hl 0 rfl) ?_
    refine lv_goto (tgt := 10) hx hb dX11_lesser_6 rfl ?_
    exact ret p0 () _ _ _ _ _ _ rfl ⟨(gsY_X11_lesser_1_q1 c1), (show p0.toInt ≤ p0.toInt from om_329), (show p0.toInt ≤ p1.toInt from om_601 zc1)⟩ hP hD hS dX11_lesser_10 (Nat.le_refl _) (Nat.le_refl _)
set_option maxHeartbeats 4000000 in
set_option maxRecDepth 100000 in
theorem sY_X11_greater_1 (NF : Nat) (l : Launch) (dC : Nat → ClassId) (dI : Nat → Nat → Nat) (cy : Nat → ClassId) (y0 : Nat) (r : Nat → Nat) (p0 : Int32) (p1 : Int32) (v : Nat → Int32) (f : Nat → Nat → Int32) (w : Int64) (g : Nat → Int64) (hIv : YI v) (hCf : YC f) (hRf : progOK (f 4) (f 5) (v 9).toInt.toNat)  : ctI l (dC, dI) cy yX11_greater cX11_greater 2 .int 1 60 0 0 Unit [.int p0, .int p1] (YW cy y0 r v f w g) (fun r u => gsY_X11_greater_1 NF p0 p1 v f w g = r) (fun u => YW cy y0 r v f w g) := by
  refine ctI_of (by decide) (Nat.le_of_ble_eq_true rfl) (fun p e s m below meth c A ls Q hx hb hml hts hown hE hP hD hA hl ret => ?_)
  have hown : s.vm.findClass RX11 = some m.cls := hown
  have hS : va_S A s.heap s.heap [] := va_S.rf
  have hl : lv_has ls 2 [(0, .int p0), (1, .int p1)] := hl
  refine lv_iload_n hx hb dX11_greater_0 rfl (lv_at hl 0 rfl) ?_
  refine lv_iload_n hx hb dX11_greater_1 rfl (lv_at hl 1 rfl) ?_
  refine lv_icmp_le (tgt := 9) hx hb dX11_greater_2 rfl (fun c1 => ?_) (fun c1 => ?_)
  · skip
    refine lv_iload_n hx hb dX11_greater_9 rfl (lv_at hl 1 rfl) ?_
    exact ret p1 () _ _ _ _ _ _ rfl (gsY_X11_greater_1_q0 c1) hP hD hS dX11_greater_10 (Nat.le_refl _) (Nat.le_refl _)
  · skip
    refine lv_iload_n hx hb dX11_greater_5 rfl (lv_at hl 0 rfl) ?_
    refine lv_goto (tgt := 10) hx hb dX11_greater_6 rfl ?_
    exact ret p0 () _ _ _ _ _ _ rfl (gsY_X11_greater_1_q1 c1) hP hD hS dX11_greater_10 (Nat.le_refl _) (Nat.le_refl _)
set_option maxHeartbeats 4000000 in
set_option maxRecDepth 100000 in
theorem sY_X11_goDay_1 (NF : Nat) (l : Launch) (dC : Nat → ClassId) (dI : Nat → Nat → Nat) (cy : Nat → ClassId) (y0 : Nat) (r : Nat → Nat) (p1 : Int32) (v : Nat → Int32) (f : Nat → Nat → Int32) (w : Int64) (g : Nat → Int64) (hIv : YI v) (hCf : YC f) (hRf : progOK (f 4) (f 5) (v 9).toInt.toNat)  : ctI l (dC, dI) cy yX11_goDay cX11_goDay 4 .int 7 191 0 0 ((Nat → Int32) × (Nat → Nat → Int32) × (Int64) × (Nat → Int64)) [.ref y0, .int p1] (YW cy y0 r v f w g) (fun r u => gsY_X11_goDay_1 NF p1 v f w g = (r, u) ∧ KV [] u.1 v ∧ KF [7, 8, 24] u.2.1 f ∧ YI u.1 ∧ YC u.2.1 ∧ progOK (u.2.1 4) (u.2.1 5) (u.1 9).toInt.toNat ∧ u.1 0 = v 0 ∧ u.1 1 = v 1 ∧ u.1 2 = v 2 ∧ u.1 3 = v 3 ∧ u.1 4 = v 4 ∧ u.1 5 = v 5 ∧ u.1 8 = v 8 ∧ u.1 9 = v 9 ∧ u.1 10 = v 10 ∧ u.1 13 = v 13 ∧ u.1 14 = v 14 ∧ u.1 15 = v 15 ∧ u.1 17 = v 17 ∧ u.1 18 = v 18 ∧ u.1 24 = v 24 ∧ u.1 25 = v 25 ∧ u.1 35 = v 35 ∧ u.1 36 = v 36 ∧ u.1 38 = v 38 ∧ u.1 39 = v 39) (fun u => YW cy y0 r u.1 u.2.1 u.2.2.1 u.2.2.2) := by
  refine ctI_of (by decide) (Nat.le_of_ble_eq_true rfl) (fun p e s m below meth c A ls Q hx hb hml hts hown hE hP hD hA hl ret => ?_)
  have hUv : (v 35).toInt + (v 36).toInt ≤ 40 := hIv.2
  have hM_v : KV [] v v := fun _ _ => rfl
  have hA_f : KF [7, 8, 24] f f := fun _ _ => rfl
  have hown : s.vm.findClass RX11 = some m.cls := hown
  have hS : va_S A s.heap s.heap [] := va_S.rf
  have hl : lv_has ls 4 [(0, .ref y0), (1, .int p1)] := hl
  refine lv_iconst (v := 0) hx hb dX11_goDay_0 rfl ?_
  refine lv_istore_n (lv' := [(2, .int 0), (0, .ref y0), (1, .int p1)]) hx hb dX11_goDay_1 rfl hl (Nat.le_of_ble_eq_true rfl) rfl (fun ls hl => ?_)
  have lp1 : ∀ (n1 : Nat) (l2_1 : Int32) (v1 : Nat → Int32) (f1 : Nat → Nat → Int32) (w1 : Int64) (g1 : Nat → Int64), YI v1 → YC f1 → progOK (f1 4) (f1 5) (v1 9).toInt.toNat → v1 0 = (v 0) → v1 1 = (v 1) → v1 2 = (v 2) → v1 3 = (v 3) → v1 4 = (v 4) → v1 5 = (v 5) → v1 8 = (v 8) → v1 9 = (v 9) → v1 10 = (v 10) → v1 13 = (v 13) → v1 14 = (v 14) → v1 15 = (v 15) → v1 17 = (v 17) → v1 18 = (v 18) → v1 24 = (v 24) → v1 25 = (v 25) → v1 35 = (v 35) → v1 36 = (v 36) → v1 38 = (v 38) → v1 39 = (v 39) → gsY_X11_goDay_1_L1 NF p1 v n1 l2_1 v1 f1 w1 g1 = (gsY_X11_goDay_1 NF p1 v f w g) → ((0 : Int) ≤ l2_1.toInt ∧ l2_1.toInt ≤ 2147483647) → KV [] v1 v → KF [7, 8, 24] f1 f → (2147483647 - l2_1.toInt).toNat < n1 → ∀ (H : Heap) (locs : List Loc) (ls : Array Slot), va_P (dC, dI) vwCl (YW cy y0 r v1 f1 w1 g1) H → va_D A (YW cy y0 r v1 f1 w1 g1) → va_S A s.heap H locs → lv_has ls 4 [(2, .int l2_1), (0, .ref y0), (1, .int p1)] → W p l e { frames := 7, cells := 0, slots := 0, locals := 191 } s m ([.ref y0, .int p1] : List Value).toArray below meth c H locs 0 0 Q (F0 m 2 ls []) := by
    intro n1
    induction n1 with
    | zero => intro l2_1 v1 f1 w1 g1 hIv1 hCf1 hRf1 hq0_v1 hq1_v1 hq2_v1 hq3_v1 hq4_v1 hq5_v1 hq8_v1 hq9_v1 hq10_v1 hq13_v1 hq14_v1 hq15_v1 hq17_v1 hq18_v1 hq24_v1 hq25_v1 hq35_v1 hq36_v1 hq38_v1 hq39_v1 hT1 hr2_1 hM_v1 hA_f1 hm; exact absurd hm (Nat.not_lt_zero _)
    | succ n1 ih1 =>
      intro l2_1 v1 f1 w1 g1 hIv1 hCf1 hRf1 hq0_v1 hq1_v1 hq2_v1 hq3_v1 hq4_v1 hq5_v1 hq8_v1 hq9_v1 hq10_v1 hq13_v1 hq14_v1 hq15_v1 hq17_v1 hq18_v1 hq24_v1 hq25_v1 hq35_v1 hq36_v1 hq38_v1 hq39_v1 hT1 hr2_1 hM_v1 hA_f1 hm1 H locs ls hP hD hS hl
      have hUv1 : (v1 35).toInt + (v1 36).toInt ≤ 40 := hIv1.2
      have zq9_v1 := congrArg Int32.toInt hq9_v1
      refine lv_iload_n hx hb dX11_goDay_2 rfl (lv_at hl 0 rfl) ?_
      refine lv_aload_n hx hb dX11_goDay_3 rfl (lv_at hl 1 rfl) ?_
      refine va_get (D := (dC, dI)) (ci := 11) (v := .int (v1 24)) (C := RX11) (T := TX11) (N := 79) hx hb hts inB_11 hown hE.1 hP 0 rfl rfl 48 (Nat.le_of_ble_eq_true rfl) (hts _ k_1368) (fun _ h9 => h9) rfl dX11_goDay_4 ?_
      refine tI (y := (v 24)) hq24_v1 ?_
      have b24_v : 0 ≤ (v 24).toInt ∧ (v 24).toInt ≤ 6 := Yb_24 hIv.1
      refine lv_icmp_ge (tgt := 40) hx hb dX11_goDay_7 rfl (fun c2 => ?_) (fun c2 => ?_)
      · skip
        have zc2 : (v 24).toInt ≤ l2_1.toInt := zMp rfl rfl c2
        have rg3 := fb_rng l2_1
        have rg4 := fb_rng (v 24)
        refine lv_iconst (v := 0) hx hb dX11_goDay_40 rfl ?_
        refine lv_istore_n (lv' := [(2, .int 0), (0, .ref y0), (1, .int p1)]) hx hb dX11_goDay_41 rfl hl (Nat.le_of_ble_eq_true rfl) rfl (fun ls hl => ?_)
        have lp5 : ∀ (n5 : Nat) (l2_5 : Int32) (v5 : Nat → Int32) (f5 : Nat → Nat → Int32) (w5 : Int64) (g5 : Nat → Int64), YI v5 → YC f5 → progOK (f5 4) (f5 5) (v5 9).toInt.toNat → v5 0 = (v 0) → v5 1 = (v 1) → v5 2 = (v 2) → v5 3 = (v 3) → v5 4 = (v 4) → v5 5 = (v 5) → v5 8 = (v 8) → v5 9 = (v 9) → v5 10 = (v 10) → v5 13 = (v 13) → v5 14 = (v 14) → v5 15 = (v 15) → v5 17 = (v 17) → v5 18 = (v 18) → v5 24 = (v 24) → v5 25 = (v 25) → v5 35 = (v 35) → v5 36 = (v 36) → v5 38 = (v 38) → v5 39 = (v 39) → gsY_X11_goDay_1_L5 NF p1 v n5 l2_5 v5 f5 w5 g5 = (gsY_X11_goDay_1 NF p1 v f w g) → ((0 : Int) ≤ l2_5.toInt ∧ l2_5.toInt ≤ 2147483647) → KV [] v5 v → KF [7, 8, 24] f5 f → (2147483647 - l2_5.toInt).toNat < n5 → ∀ (H : Heap) (locs : List Loc) (ls : Array Slot), va_P (dC, dI) vwCl (YW cy y0 r v5 f5 w5 g5) H → va_D A (YW cy y0 r v5 f5 w5 g5) → va_S A s.heap H locs → lv_has ls 4 [(2, .int l2_5), (0, .ref y0), (1, .int p1)] → W p l e { frames := 7, cells := 0, slots := 0, locals := 191 } s m ([.ref y0, .int p1] : List Value).toArray below meth c H locs 0 0 Q (F0 m 42 ls []) := by
          intro n5
          induction n5 with
          | zero => intro l2_5 v5 f5 w5 g5 hIv5 hCf5 hRf5 hq0_v5 hq1_v5 hq2_v5 hq3_v5 hq4_v5 hq5_v5 hq8_v5 hq9_v5 hq10_v5 hq13_v5 hq14_v5 hq15_v5 hq17_v5 hq18_v5 hq24_v5 hq25_v5 hq35_v5 hq36_v5 hq38_v5 hq39_v5 hT5 hr2_5 hM_v5 hA_f5 hm; exact absurd hm (Nat.not_lt_zero _)
          | succ n5 ih5 =>
            intro l2_5 v5 f5 w5 g5 hIv5 hCf5 hRf5 hq0_v5 hq1_v5 hq2_v5 hq3_v5 hq4_v5 hq5_v5 hq8_v5 hq9_v5 hq10_v5 hq13_v5 hq14_v5 hq15_v5 hq17_v5 hq18_v5 hq24_v5 hq25_v5 hq35_v5 hq36_v5 hq38_v5 hq39_v5 hT5 hr2_5 hM_v5 hA_f5 hm5 H locs ls hP hD hS hl
            have hUv5 : (v5 35).toInt + (v5 36).toInt ≤ 40 := hIv5.2
            have zq9_v5 := congrArg Int32.toInt hq9_v5
            refine lv_iload_n hx hb dX11_goDay_42 rfl (lv_at hl 0 rfl) ?_
            refine lv_aload_n hx hb dX11_goDay_43 rfl (lv_at hl 1 rfl) ?_
            refine va_get (D := (dC, dI)) (ci := 11) (v := .int (v5 25)) (C := RX11) (T := TX11) (N := 79) hx hb hts inB_11 hown hE.1 hP 0 rfl rfl 49 (Nat.le_of_ble_eq_true rfl) (hts _ k_1369) (fun _ h9 => h9) rfl dX11_goDay_44 ?_
            refine tI (y := (v 25)) hq25_v5 ?_
            have b25_v : 0 ≤ (v 25).toInt ∧ (v 25).toInt ≤ 6 := Yb_25 hIv.1
            refine lv_icmp_ge (tgt := 146) hx hb dX11_goDay_47 rfl (fun c6 => ?_) (fun c6 => ?_)
            · skip
              have zc6 : (v 25).toInt ≤ l2_5.toInt := zMp rfl rfl c6
              have rg7 := fb_rng l2_5
              have rg8 := fb_rng (v 25)
              refine lv_aload_n hx hb dX11_goDay_146 rfl (lv_at hl 1 rfl) ?_
              refine va_get (D := (dC, dI)) (ci := 11) (v := .ref (r 60)) (C := RX11) (T := TX11) (N := 79) hx hb hts inB_11 hown hE.1 hP 0 rfl rfl 60 (Nat.le_of_ble_eq_true rfl) (hts _ k_1380) (fun _ h9 => h9) rfl dX11_goDay_147 ?_
              refine lv_bipush (v := 37) hx hb dX11_goDay_150 rfl ?_
              refine lv_dup2_11 hx hb dX11_goDay_152 rfl rfl ?_
              refine ldI hx hb hE hP 25 rfl (vp_in_nI (n := 37) (by decide) (by decide)) rfl rfl dX11_goDay_153 ?_
              refine lv_topi (fun t9 et9 => ?_)
              have zt9 : 37 % 39 < 6 ∨ 12 ≤ 37 % 39 ∨ (-1 ≤ t9.toInt ∧ t9.toInt ≤ 5) := by rw [et9]; exact wear_ld hCf5.2.1 (show 37 < 39 from om_545)
              refine lv_iconst (v := 1) hx hb dX11_goDay_154 rfl ?_
              refine lv_iadd hx hb dX11_goDay_155 ?_
              refine lv_topi (fun t10 et10 => ?_)
              refine stI hx hb hE hP hD hS 25 rfl (vp_in_nI (n := 37) (by decide) (by decide)) rfl dX11_goDay_156 (fun H locs hP hD hS => ?_)
              obtain ⟨f11, ef11, hP, hD⟩ : ∃ fz9, fz9 = upd2 f5 24 (upd (f5 24) (37 : Int32).toNatClampNeg t10) ∧ va_P (dC, dI) vwCl (YW cy y0 r v5 fz9 w5 g5) H ∧ va_D A (YW cy y0 r v5 fz9 w5 g5) := ⟨_, rfl, hP, hD⟩
              have hCf11 : YC f11 := by rw [ef11]; exact ⟨hCf5.1, (wear_st hCf5.2.1 (by show 37 % 39 < 6 ∨ 12 ≤ 37 % 39 ∨ (-1 ≤ t10.toInt ∧ t10.toInt ≤ 5); omega)), hCf5.2.2.1, hCf5.2.2.2.1, hCf5.2.2.2.2.1, hCf5.2.2.2.2.2⟩
              have hRf11 : progOK (f11 4) (f11 5) (v5 9).toInt.toNat := by rw [ef11]; exact hRf5
              have hA_f11 : KF [7, 8, 24] f11 f := by rw [ef11]; exact KF.up hA_f5 rfl
              refine lv_aload_n hx hb dX11_goDay_157 rfl (lv_at hl 1 rfl) ?_
              refine cbVi (n := 0) (rest := []) hx hb hml hown hts hE hP hD hS hA (sY_X11_wearers_1 NF l dC dI cy y0 r  v5 f11 w5 g5 hIv5 hCf11 hRf11 ) k_1805 k_1807 k_80 k_114 k_1808 hd_yX11_wearers ⟨Nat.le_of_ble_eq_true rfl, Nat.le_of_ble_eq_true rfl⟩ 0 11 rfl rfl (rfl) hl.1 rfl (Nat.le_of_ble_eq_true rfl) dX11_goDay_158 (fun r12 u H locs hw hP hD hS => ?_)
              obtain ⟨hG13, hw⟩ := hw
              refine lv_aload_n hx hb dX11_goDay_161 rfl (lv_at hl 1 rfl) ?_
              refine cbVi (n := 0) (rest := [.int r12]) hx hb hml hown hts hE hP hD hS hA (sY_X11_fittedOnes_1 NF l dC dI cy y0 r  v5 f11 w5 g5 hIv5 hCf11 hRf11 ) k_1809 k_1811 k_81 k_114 k_1812 hd_yX11_fittedOnes ⟨Nat.le_of_ble_eq_true rfl, Nat.le_of_ble_eq_true rfl⟩ 0 11 rfl rfl (rfl) hl.1 rfl (Nat.le_of_ble_eq_true rfl) dX11_goDay_162 (fun r14 u H locs hw hP hD hS => ?_)
              obtain ⟨hG15, hw⟩ := hw
              obtain ⟨v16, f17, w18, g19⟩ := u
              obtain ⟨kV_v16, kF_f17, hIv16, hCf17, hRf17, hk0_v16, hk1_v16, hk2_v16, hk3_v16, hk4_v16, hk5_v16, hk8_v16, hk9_v16, hk10_v16, hk13_v16, hk14_v16, hk15_v16, hk17_v16, hk18_v16, hk24_v16, hk25_v16, hk35_v16, hk36_v16, hk38_v16, hk39_v16⟩ := hw
              have hM_v16 : KV [] v16 v := KV.tr kV_v16 hM_v5 rfl
              have hA_f17 : KF [7, 8, 24] f17 f := KF.tr kF_f17 hA_f11 rfl
              have hP : va_P (dC, dI) vwCl (YW cy y0 r v16 f17 w18 g19) H := hP
              have hD : va_D A (YW cy y0 r v16 f17 w18 g19) := hD
              have hq0_v16 : v16 0 = (v 0) := hk0_v16.trans hq0_v5
              have hq1_v16 : v16 1 = (v 1) := hk1_v16.trans hq1_v5
              have hq2_v16 : v16 2 = (v 2) := hk2_v16.trans hq2_v5
              have hq3_v16 : v16 3 = (v 3) := hk3_v16.trans hq3_v5
              have hq4_v16 : v16 4 = (v 4) := hk4_v16.trans hq4_v5
              have hq5_v16 : v16 5 = (v 5) := hk5_v16.trans hq5_v5
              have hq8_v16 : v16 8 = (v 8) := hk8_v16.trans hq8_v5
              have hq9_v16 : v16 9 = (v 9) := hk9_v16.trans hq9_v5
              have hq10_v16 : v16 10 = (v 10) := hk10_v16.trans hq10_v5
              have hq13_v16 : v16 13 = (v 13) := hk13_v16.trans hq13_v5
              have hq14_v16 : v16 14 = (v 14) := hk14_v16.trans hq14_v5
              have hq15_v16 : v16 15 = (v 15) := hk15_v16.trans hq15_v5
              have hq17_v16 : v16 17 = (v 17) := hk17_v16.trans hq17_v5
              have hq18_v16 : v16 18 = (v 18) := hk18_v16.trans hq18_v5
              have hq24_v16 : v16 24 = (v 24) := hk24_v16.trans hq24_v5
              have hq25_v16 : v16 25 = (v 25) := hk25_v16.trans hq25_v5
              have hq35_v16 : v16 35 = (v 35) := hk35_v16.trans hq35_v5
              have hq36_v16 : v16 36 = (v 36) := hk36_v16.trans hq36_v5
              have hq38_v16 : v16 38 = (v 38) := hk38_v16.trans hq38_v5
              have hq39_v16 : v16 39 = (v 39) := hk39_v16.trans hq39_v5
              refine lv_iconst (v := (-1)) hx hb dX11_goDay_165 rfl ?_
              refine lv_ixor hx hb dX11_goDay_166 ?_
              refine lv_topi (fun t20 et20 => ?_)
              refine lv_iand hx hb dX11_goDay_167 ?_
              refine lv_topi (fun t21 et21 => ?_)
              refine lv_istore_n (lv' := [(2, .int t21), (0, .ref y0), (1, .int p1)]) hx hb dX11_goDay_168 rfl hl (Nat.le_of_ble_eq_true rfl) rfl (fun ls hl => ?_)
              refine lv_iconst (v := 0) hx hb dX11_goDay_169 rfl ?_
              refine lv_istore_n (lv' := [(3, .int 0), (2, .int t21), (0, .ref y0), (1, .int p1)]) hx hb dX11_goDay_170 rfl hl (Nat.le_of_ble_eq_true rfl) rfl (fun ls hl => ?_)
              have lp22 : ∀ (n22 : Nat) (l3_22 : Int32) (v22 : Nat → Int32) (f22 : Nat → Nat → Int32) (w22 : Int64) (g22 : Nat → Int64), YI v22 → YC f22 → progOK (f22 4) (f22 5) (v22 9).toInt.toNat → v22 0 = (v 0) → v22 1 = (v 1) → v22 2 = (v 2) → v22 3 = (v 3) → v22 4 = (v 4) → v22 5 = (v 5) → v22 8 = (v 8) → v22 9 = (v 9) → v22 10 = (v 10) → v22 13 = (v 13) → v22 14 = (v 14) → v22 15 = (v 15) → v22 17 = (v 17) → v22 18 = (v 18) → v22 24 = (v 24) → v22 25 = (v 25) → v22 35 = (v 35) → v22 36 = (v 36) → v22 38 = (v 38) → v22 39 = (v 39) → gsY_X11_goDay_1_L22 NF v t21 n22 l3_22 v22 f22 w22 g22 = (gsY_X11_goDay_1 NF p1 v f w g) → ((0 : Int) ≤ l3_22.toInt ∧ l3_22.toInt ≤ 2147483647) → KV [] v22 v → KF [7, 8, 24] f22 f → (2147483647 - l3_22.toInt).toNat < n22 → ∀ (H : Heap) (locs : List Loc) (ls : Array Slot), va_P (dC, dI) vwCl (YW cy y0 r v22 f22 w22 g22) H → va_D A (YW cy y0 r v22 f22 w22 g22) → va_S A s.heap H locs → lv_has ls 4 [(3, .int l3_22), (2, .int t21), (0, .ref y0), (1, .int p1)] → W p l e { frames := 7, cells := 0, slots := 0, locals := 191 } s m ([.ref y0, .int p1] : List Value).toArray below meth c H locs 0 0 Q (F0 m 171 ls []) := by
                intro n22
                induction n22 with
                | zero => intro l3_22 v22 f22 w22 g22 hIv22 hCf22 hRf22 hq0_v22 hq1_v22 hq2_v22 hq3_v22 hq4_v22 hq5_v22 hq8_v22 hq9_v22 hq10_v22 hq13_v22 hq14_v22 hq15_v22 hq17_v22 hq18_v22 hq24_v22 hq25_v22 hq35_v22 hq36_v22 hq38_v22 hq39_v22 hT22 hr3_22 hM_v22 hA_f22 hm; exact absurd hm (Nat.not_lt_zero _)
                | succ n22 ih22 =>
                  intro l3_22 v22 f22 w22 g22 hIv22 hCf22 hRf22 hq0_v22 hq1_v22 hq2_v22 hq3_v22 hq4_v22 hq5_v22 hq8_v22 hq9_v22 hq10_v22 hq13_v22 hq14_v22 hq15_v22 hq17_v22 hq18_v22 hq24_v22 hq25_v22 hq35_v22 hq36_v22 hq38_v22 hq39_v22 hT22 hr3_22 hM_v22 hA_f22 hm22 H locs ls hP hD hS hl
                  refine lv_iload_n hx hb dX11_goDay_171 rfl (lv_at hl 0 rfl) ?_
                  refine lv_aload_n hx hb dX11_goDay_172 rfl (lv_at hl 2 rfl) ?_
                  refine va_get (D := (dC, dI)) (ci := 11) (v := .int (v22 24)) (C := RX11) (T := TX11) (N := 79) hx hb hts inB_11 hown hE.1 hP 0 rfl rfl 48 (Nat.le_of_ble_eq_true rfl) (hts _ k_1368) (fun _ h9 => h9) rfl dX11_goDay_173 ?_
                  refine tI (y := (v 24)) hq24_v22 ?_
                  have b24_v : 0 ≤ (v 24).toInt ∧ (v 24).toInt ≤ 6 := Yb_24 hIv.1
                  refine lv_icmp_ge (tgt := 204) hx hb dX11_goDay_176 rfl (fun c23 => ?_) (fun c23 => ?_)
                  · skip
                    refine lv_iload_n hx hb dX11_goDay_204 rfl (lv_at hl 1 rfl) ?_
                    exact ret t21 (v22, f22, w22, g22) _ _ _ _ _ _ rfl ⟨(hT22.symm.trans (gsY_X11_goDay_1_q0 c23)), hM_v22, hA_f22, hIv22, hCf22, hRf22, hq0_v22, hq1_v22, hq2_v22, hq3_v22, hq4_v22, hq5_v22, hq8_v22, hq9_v22, hq10_v22, hq13_v22, hq14_v22, hq15_v22, hq17_v22, hq18_v22, hq24_v22, hq25_v22, hq35_v22, hq36_v22, hq38_v22, hq39_v22⟩ hP hD hS dX11_goDay_205 (Nat.le_refl _) (Nat.le_refl _)
                  · skip
                    have zc23 : ¬ ((v 24).toInt ≤ l3_22.toInt) := zMn rfl rfl c23
                    refine lv_iload_n hx hb dX11_goDay_179 rfl (lv_at hl 1 rfl) ?_
                    refine lv_iload_n hx hb dX11_goDay_180 rfl (lv_at hl 0 rfl) ?_
                    refine lv_ishr hx hb dX11_goDay_181 ?_
                    refine lv_topi (fun t26 et26 => ?_)
                    refine lv_iconst (v := 1) hx hb dX11_goDay_182 rfl ?_
                    refine lv_iand hx hb dX11_goDay_183 ?_
                    refine lv_topi (fun t27 et27 => ?_)
                    refine lv_iconst (v := 1) hx hb dX11_goDay_184 rfl ?_
                    refine lv_icmp_ne (tgt := 198) hx hb dX11_goDay_185 rfl (fun c28 => ?_) (fun c28 => ?_)
                    · skip
                      obtain ⟨t29, et29⟩ : ∃ y : Int32, y = l3_22 + 1 := ⟨_, rfl⟩
                      have zt29 : t29.toInt = l3_22.toInt + 1 := (congrArg Int32.toInt et29).trans (add_i rfl tc_1 (om_41 hr3_22) (om_187 b24_v zc23))
                      refine lv_iinc (v := t29) (lv' := [(3, .int t29), (2, .int t21), (0, .ref y0), (1, .int p1)]) hx hb dX11_goDay_198 hl (k := 0) rfl et29.symm (Nat.le_of_ble_eq_true rfl) rfl (fun ls hl => ?_)
                      refine lv_goto (tgt := 171) hx hb dX11_goDay_201 rfl ?_
                      have rg30 := fb_rng t29
                      exact ih22 t29 v22 f22 w22 g22 hIv22 hCf22 hRf22 hq0_v22 hq1_v22 hq2_v22 hq3_v22 hq4_v22 hq5_v22 hq8_v22 hq9_v22 hq10_v22 hq13_v22 hq14_v22 hq15_v22 hq17_v22 hq18_v22 hq24_v22 hq25_v22 hq35_v22 hq36_v22 hq38_v22 hq39_v22 ((gsY_X11_goDay_1_q1 c23 et26 et27 c28 et29).symm.trans hT22) ⟨show (0 : Int) ≤ t29.toInt from om_43 hr3_22 zt29, show t29.toInt ≤ (2147483647 : Int) from om_44 rg30⟩ hM_v22 hA_f22 (show (2147483647 - t29.toInt).toNat < n22 from om_33 hm22 zt29 rg30) _ _ _ hP hD hS (lv_sub hl [0, 1, 2, 3] rfl)
                    · skip
                      refine lv_aload_n hx hb dX11_goDay_188 rfl (lv_at hl 2 rfl) ?_
                      refine va_get (D := (dC, dI)) (ci := 11) (v := .ref (r 60)) (C := RX11) (T := TX11) (N := 79) hx hb hts inB_11 hown hE.1 hP 0 rfl rfl 60 (Nat.le_of_ble_eq_true rfl) (hts _ k_1380) (fun _ h9 => h9) rfl dX11_goDay_189 ?_
                      refine lv_bipush (v := 6) hx hb dX11_goDay_192 rfl ?_
                      refine lv_iload_n hx hb dX11_goDay_194 rfl (lv_at hl 0 rfl) ?_
                      refine lv_iadd hx hb dX11_goDay_195 ?_
                      refine lv_topi (fun t31 et31 => ?_)
                      have zt31 : t31.toInt = 6 + l3_22.toInt := (congrArg Int32.toInt et31).trans (add_i tc_6 rfl (om_120 hr3_22) (om_476 b24_v zc23))
                      refine lv_iconst (v := (-1)) hx hb dX11_goDay_196 rfl ?_
                      refine stI hx hb hE hP hD hS 25 rfl (vpI (k := 39) rfl (show 0 ≤ t31.toInt from om_121 hr3_22 zt31) (show t31.toInt < 39 from om_477 b24_v zc23 zt31)) rfl dX11_goDay_197 (fun H locs hP hD hS => ?_)
                      obtain ⟨f32, ef32, hP, hD⟩ : ∃ fz9, fz9 = upd2 f22 24 (upd (f22 24) t31.toNatClampNeg (-1)) ∧ va_P (dC, dI) vwCl (YW cy y0 r v22 fz9 w22 g22) H ∧ va_D A (YW cy y0 r v22 fz9 w22 g22) := ⟨_, rfl, hP, hD⟩
                      have hCf32 : YC f32 := by rw [ef32]; exact ⟨hCf22.1, (wear_st hCf22.2.1 (show t31.toInt.toNat % 39 < 6 ∨ 12 ≤ t31.toInt.toNat % 39 ∨ (-1 ≤ ((-1) : Int32).toInt ∧ ((-1) : Int32).toInt ≤ 5) from om_478 tc_m1)), hCf22.2.2.1, hCf22.2.2.2.1, hCf22.2.2.2.2.1, hCf22.2.2.2.2.2⟩
                      have hRf32 : progOK (f32 4) (f32 5) (v22 9).toInt.toNat := by rw [ef32]; exact hRf22
                      have hA_f32 : KF [7, 8, 24] f32 f := by rw [ef32]; exact KF.up hA_f22 rfl
                      obtain ⟨t33, et33⟩ : ∃ y : Int32, y = l3_22 + 1 := ⟨_, rfl⟩
                      have zt33 : t33.toInt = l3_22.toInt + 1 := (congrArg Int32.toInt et33).trans (add_i rfl tc_1 (om_41 hr3_22) (om_187 b24_v zc23))
                      refine lv_iinc (v := t33) (lv' := [(3, .int t33), (2, .int t21), (0, .ref y0), (1, .int p1)]) hx hb dX11_goDay_198 hl (k := 0) rfl et33.symm (Nat.le_of_ble_eq_true rfl) rfl (fun ls hl => ?_)
                      refine lv_goto (tgt := 171) hx hb dX11_goDay_201 rfl ?_
                      have rg34 := fb_rng t33
                      exact ih22 t33 v22 f32 w22 g22 hIv22 hCf32 hRf32 hq0_v22 hq1_v22 hq2_v22 hq3_v22 hq4_v22 hq5_v22 hq8_v22 hq9_v22 hq10_v22 hq13_v22 hq14_v22 hq15_v22 hq17_v22 hq18_v22 hq24_v22 hq25_v22 hq35_v22 hq36_v22 hq38_v22 hq39_v22 ((gsY_X11_goDay_1_q2 c23 et26 et27 c28 et31 ef32 et33).symm.trans hT22) ⟨show (0 : Int) ≤ t33.toInt from om_43 hr3_22 zt33, show t33.toInt ≤ (2147483647 : Int) from om_44 rg34⟩ hM_v22 hA_f32 (show (2147483647 - t33.toInt).toNat < n22 from om_33 hm22 zt33 rg34) _ _ _ hP hD hS (lv_sub hl [0, 1, 2, 3] rfl)
              exact lp22 (4294967296 + NF) 0 v16 f17 w18 g19 hIv16 hCf17 hRf17 hq0_v16 hq1_v16 hq2_v16 hq3_v16 hq4_v16 hq5_v16 hq8_v16 hq9_v16 hq10_v16 hq13_v16 hq14_v16 hq15_v16 hq17_v16 hq18_v16 hq24_v16 hq25_v16 hq35_v16 hq36_v16 hq38_v16 hq39_v16 ((gsY_X11_goDay_1_q3 c6 et9 et10 ef11 hG13.symm hG15 et20 et21).symm.trans hT5) ⟨by decide, by decide⟩ hM_v16 hA_f17 (show (2147483647 - (0 : Int32).toInt).toNat < 4294967296 + NF from om_38 tc_0) _ _ _ hP hD hS (lv_sub hl [0, 1, 2, 3] rfl)
            · skip
              have zc6 : ¬ ((v 25).toInt ≤ l2_5.toInt) := zMn rfl rfl c6
              have rg35 := fb_rng l2_5
              have rg36 := fb_rng (v 25)
              refine lv_aload_n hx hb dX11_goDay_50 rfl (lv_at hl 1 rfl) ?_
              refine lv_iload_n hx hb dX11_goDay_51 rfl (lv_at hl 0 rfl) ?_
              refine cbVi (n := 1) (rest := []) hx hb hml hown hts hE hP hD hS hA (sY_X11_wearer_1 NF l dC dI cy y0 r l2_5 v5 f5 w5 g5 hIv5 hCf5 hRf5 ) k_1775 k_1777 k_76 k_114 k_1778 hd_yX11_wearer ⟨Nat.le_of_ble_eq_true rfl, Nat.le_of_ble_eq_true rfl⟩ 0 11 rfl rfl (rfl) hl.1 rfl (Nat.le_of_ble_eq_true rfl) dX11_goDay_52 (fun r37 u H locs hw hP hD hS => ?_)
              have hG38 := hw
              refine lv_if_ge (tgt := 61) hx hb dX11_goDay_55 rfl (fun c39 => ?_) (fun c39 => ?_)
              · skip
                have zc39 : 0 ≤ r37.toInt := zMp tc_0 rfl c39
                refine lv_aload_n hx hb dX11_goDay_61 rfl (lv_at hl 1 rfl) ?_
                refine va_get (D := (dC, dI)) (ci := 11) (v := .ref (r 60)) (C := RX11) (T := TX11) (N := 79) hx hb hts inB_11 hown hE.1 hP 0 rfl rfl 60 (Nat.le_of_ble_eq_true rfl) (hts _ k_1380) (fun _ h9 => h9) rfl dX11_goDay_62 ?_
                refine lv_bipush (v := 30) hx hb dX11_goDay_65 rfl ?_
                refine lv_iload_n hx hb dX11_goDay_67 rfl (lv_at hl 0 rfl) ?_
                refine lv_iadd hx hb dX11_goDay_68 ?_
                refine lv_topi (fun t40 et40 => ?_)
                have zt40 : t40.toInt = 30 + l2_5.toInt := (congrArg Int32.toInt et40).trans (add_i tc_30 rfl (om_471 hr2_5) (om_472 b25_v zc6))
                refine lv_bipush (v := 99) hx hb dX11_goDay_69 rfl ?_
                refine lv_aload_n hx hb dX11_goDay_71 rfl (lv_at hl 1 rfl) ?_
                refine va_get (D := (dC, dI)) (ci := 11) (v := .ref (r 60)) (C := RX11) (T := TX11) (N := 79) hx hb hts inB_11 hown hE.1 hP 0 rfl rfl 60 (Nat.le_of_ble_eq_true rfl) (hts _ k_1380) (fun _ h9 => h9) rfl dX11_goDay_72 ?_
                refine lv_bipush (v := 30) hx hb dX11_goDay_75 rfl ?_
                refine lv_iload_n hx hb dX11_goDay_77 rfl (lv_at hl 0 rfl) ?_
                refine lv_iadd hx hb dX11_goDay_78 ?_
                refine tI (y := t40) et40.symm ?_
                refine ldI hx hb hE hP 25 rfl (vpI (k := 39) rfl (show 0 ≤ t40.toInt from om_473 hr2_5 zt40) (show t40.toInt < 39 from om_474 b25_v zc6 zt40)) rfl rfl dX11_goDay_79 ?_
                refine lv_topi (fun t41 et41 => ?_)
                have zt41 : t40.toInt.toNat % 39 < 6 ∨ 12 ≤ t40.toInt.toNat % 39 ∨ (-1 ≤ t41.toInt ∧ t41.toInt ≤ 5) := by rw [et41]; exact wear_ld hCf5.2.1 (show t40.toInt.toNat < 39 from om_602 b25_v zc6 zt40)
                refine lv_iconst (v := 1) hx hb dX11_goDay_80 rfl ?_
                refine lv_iadd hx hb dX11_goDay_81 ?_
                refine lv_topi (fun t42 et42 => ?_)
                have lt43 : (99 : Int32).toInt = 99 := by decide
                refine cbSi (n := 2) (rest := [.int t40, .ref (r 60)]) hx hb hml hown hts hE hP hD hS hA (sY_X11_lesser_1 NF l dC dI cy y0 r 99 t42 v5 f5 w5 g5 hIv5 hCf5 hRf5 ) k_1799 k_1800 k_114 k_1801 he_yX11_lesser ⟨Nat.le_of_ble_eq_true rfl, Nat.le_of_ble_eq_true rfl⟩ (rfl) hl.1 rfl (Nat.le_of_ble_eq_true rfl) dX11_goDay_82 (fun r44 u H locs hw hP hD hS => ?_)
                obtain ⟨hG45, hw⟩ := hw
                obtain ⟨pp46, pp47⟩ := hw
                have pp46 : r44.toInt ≤ (99 : Int32).toInt := pp46
                have pp47 : r44.toInt ≤ t42.toInt := pp47
                refine stI hx hb hE hP hD hS 25 rfl (vpI (k := 39) rfl (show 0 ≤ t40.toInt from om_473 hr2_5 zt40) (show t40.toInt < 39 from om_474 b25_v zc6 zt40)) rfl dX11_goDay_85 (fun H locs hP hD hS => ?_)
                obtain ⟨f48, ef48, hP, hD⟩ : ∃ fz9, fz9 = upd2 f5 24 (upd (f5 24) t40.toNatClampNeg r44) ∧ va_P (dC, dI) vwCl (YW cy y0 r v5 fz9 w5 g5) H ∧ va_D A (YW cy y0 r v5 fz9 w5 g5) := ⟨_, rfl, hP, hD⟩
                have hCf48 : YC f48 := by rw [ef48]; exact ⟨hCf5.1, (wear_st hCf5.2.1 (by show t40.toInt.toNat % 39 < 6 ∨ 12 ≤ t40.toInt.toNat % 39 ∨ (-1 ≤ r44.toInt ∧ r44.toInt ≤ 5); omega)), hCf5.2.2.1, hCf5.2.2.2.1, hCf5.2.2.2.2.1, hCf5.2.2.2.2.2⟩
                have hRf48 : progOK (f48 4) (f48 5) (v5 9).toInt.toNat := by rw [ef48]; exact hRf5
                have hA_f48 : KF [7, 8, 24] f48 f := by rw [ef48]; exact KF.up hA_f5 rfl
                refine lv_aload_n hx hb dX11_goDay_86 rfl (lv_at hl 1 rfl) ?_
                refine va_get (D := (dC, dI)) (ci := 11) (v := .ref (r 60)) (C := RX11) (T := TX11) (N := 79) hx hb hts inB_11 hown hE.1 hP 0 rfl rfl 60 (Nat.le_of_ble_eq_true rfl) (hts _ k_1380) (fun _ h9 => h9) rfl dX11_goDay_87 ?_
                refine lv_bipush (v := 12) hx hb dX11_goDay_90 rfl ?_
                refine lv_iload_n hx hb dX11_goDay_92 rfl (lv_at hl 0 rfl) ?_
                refine lv_iadd hx hb dX11_goDay_93 ?_
                refine lv_topi (fun t49 et49 => ?_)
                have zt49 : t49.toInt = 12 + l2_5.toInt := (congrArg Int32.toInt et49).trans (add_i tc_12 rfl (om_458 hr2_5) (om_459 b25_v zc6))
                refine lv_iconst (v := 0) hx hb dX11_goDay_94 rfl ?_
                refine lv_aload_n hx hb dX11_goDay_95 rfl (lv_at hl 1 rfl) ?_
                refine va_get (D := (dC, dI)) (ci := 11) (v := .ref (r 60)) (C := RX11) (T := TX11) (N := 79) hx hb hts inB_11 hown hE.1 hP 0 rfl rfl 60 (Nat.le_of_ble_eq_true rfl) (hts _ k_1380) (fun _ h9 => h9) rfl dX11_goDay_96 ?_
                refine lv_bipush (v := 12) hx hb dX11_goDay_99 rfl ?_
                refine lv_iload_n hx hb dX11_goDay_101 rfl (lv_at hl 0 rfl) ?_
                refine lv_iadd hx hb dX11_goDay_102 ?_
                refine tI (y := t49) et49.symm ?_
                refine ldI hx hb hE hP 25 rfl (vpI (k := 39) rfl (show 0 ≤ t49.toInt from om_461 hr2_5 zt49) (show t49.toInt < 39 from om_462 b25_v zc6 zt49)) rfl rfl dX11_goDay_103 ?_
                refine lv_topi (fun t50 et50 => ?_)
                have zt50 : t49.toInt.toNat % 39 < 6 ∨ 12 ≤ t49.toInt.toNat % 39 ∨ (-1 ≤ t50.toInt ∧ t50.toInt ≤ 5) := by rw [et50]; exact wear_ld hCf48.2.1 (show t49.toInt.toNat < 39 from om_603 b25_v zc6 zt49)
                refine lv_iload_n hx hb dX11_goDay_104 rfl (lv_at hl 2 rfl) ?_
                refine cbSi (n := 1) (rest := [.int t50, .int 0, .int t49, .ref (r 60)]) hx hb hml hown hts hE hP hD hS hA (sY_X11_truth_1 NF l dC dI cy y0 r p1 v5 f48 w5 g5 hIv5 hCf48 hRf48 ) k_1761 k_1762 k_114 k_1763 he_yX11_truth ⟨Nat.le_of_ble_eq_true rfl, Nat.le_of_ble_eq_true rfl⟩ (rfl) hl.1 rfl (Nat.le_of_ble_eq_true rfl) dX11_goDay_105 (fun r51 u H locs hw hP hD hS => ?_)
                obtain ⟨hG52, hw⟩ := hw
                have pw_r51 : (0 : Int) ≤ r51.toInt ∧ r51.toInt ≤ 1 := hw
                refine lv_isub hx hb dX11_goDay_108 ?_
                refine lv_topi (fun t53 et53 => ?_)
                refine cbSi (n := 2) (rest := [.int t49, .ref (r 60)]) hx hb hml hown hts hE hP hD hS hA (sY_X11_greater_1 NF l dC dI cy y0 r 0 t53 v5 f48 w5 g5 hIv5 hCf48 hRf48 ) k_1802 k_1803 k_114 k_1804 he_yX11_greater ⟨Nat.le_of_ble_eq_true rfl, Nat.le_of_ble_eq_true rfl⟩ (rfl) hl.1 rfl (Nat.le_of_ble_eq_true rfl) dX11_goDay_109 (fun r54 u H locs hw hP hD hS => ?_)
                have hG55 := hw
                refine stI hx hb hE hP hD hS 25 rfl (vpI (k := 39) rfl (show 0 ≤ t49.toInt from om_461 hr2_5 zt49) (show t49.toInt < 39 from om_462 b25_v zc6 zt49)) rfl dX11_goDay_112 (fun H locs hP hD hS => ?_)
                obtain ⟨f56, ef56, hP, hD⟩ : ∃ fz9, fz9 = upd2 f48 24 (upd (f48 24) t49.toNatClampNeg r54) ∧ va_P (dC, dI) vwCl (YW cy y0 r v5 fz9 w5 g5) H ∧ va_D A (YW cy y0 r v5 fz9 w5 g5) := ⟨_, rfl, hP, hD⟩
                have hCf56 : YC f56 := by rw [ef56]; exact ⟨hCf48.1, (wear_st hCf48.2.1 (by show t49.toInt.toNat % 39 < 6 ∨ 12 ≤ t49.toInt.toNat % 39 ∨ (-1 ≤ r54.toInt ∧ r54.toInt ≤ 5); omega)), hCf48.2.2.1, hCf48.2.2.2.1, hCf48.2.2.2.2.1, hCf48.2.2.2.2.2⟩
                have hRf56 : progOK (f56 4) (f56 5) (v5 9).toInt.toNat := by rw [ef56]; exact hRf48
                have hA_f56 : KF [7, 8, 24] f56 f := by rw [ef56]; exact KF.up hA_f48 rfl
                refine lv_aload_n hx hb dX11_goDay_113 rfl (lv_at hl 1 rfl) ?_
                refine va_get (D := (dC, dI)) (ci := 11) (v := .ref (r 60)) (C := RX11) (T := TX11) (N := 79) hx hb hts inB_11 hown hE.1 hP 0 rfl rfl 60 (Nat.le_of_ble_eq_true rfl) (hts _ k_1380) (fun _ h9 => h9) rfl dX11_goDay_114 ?_
                refine lv_bipush (v := 18) hx hb dX11_goDay_117 rfl ?_
                refine lv_iload_n hx hb dX11_goDay_119 rfl (lv_at hl 0 rfl) ?_
                refine lv_iadd hx hb dX11_goDay_120 ?_
                refine lv_topi (fun t57 et57 => ?_)
                have zt57 : t57.toInt = 18 + l2_5.toInt := (congrArg Int32.toInt et57).trans (add_i tc_18 rfl (om_463 hr2_5) (om_464 b25_v zc6))
                refine lv_iconst (v := 0) hx hb dX11_goDay_121 rfl ?_
                refine lv_aload_n hx hb dX11_goDay_122 rfl (lv_at hl 1 rfl) ?_
                refine va_get (D := (dC, dI)) (ci := 11) (v := .ref (r 60)) (C := RX11) (T := TX11) (N := 79) hx hb hts inB_11 hown hE.1 hP 0 rfl rfl 60 (Nat.le_of_ble_eq_true rfl) (hts _ k_1380) (fun _ h9 => h9) rfl dX11_goDay_123 ?_
                refine lv_bipush (v := 18) hx hb dX11_goDay_126 rfl ?_
                refine lv_iload_n hx hb dX11_goDay_128 rfl (lv_at hl 0 rfl) ?_
                refine lv_iadd hx hb dX11_goDay_129 ?_
                refine tI (y := t57) et57.symm ?_
                refine ldI hx hb hE hP 25 rfl (vpI (k := 39) rfl (show 0 ≤ t57.toInt from om_465 hr2_5 zt57) (show t57.toInt < 39 from om_466 b25_v zc6 zt57)) rfl rfl dX11_goDay_130 ?_
                refine lv_topi (fun t58 et58 => ?_)
                have zt58 : t57.toInt.toNat % 39 < 6 ∨ 12 ≤ t57.toInt.toNat % 39 ∨ (-1 ≤ t58.toInt ∧ t58.toInt ≤ 5) := by rw [et58]; exact wear_ld hCf56.2.1 (show t57.toInt.toNat < 39 from om_604 b25_v zc6 zt57)
                refine lv_iload_n hx hb dX11_goDay_131 rfl (lv_at hl 2 rfl) ?_
                refine cbSi (n := 1) (rest := [.int t58, .int 0, .int t57, .ref (r 60)]) hx hb hml hown hts hE hP hD hS hA (sY_X11_truth_1 NF l dC dI cy y0 r p1 v5 f56 w5 g5 hIv5 hCf56 hRf56 ) k_1761 k_1762 k_114 k_1763 he_yX11_truth ⟨Nat.le_of_ble_eq_true rfl, Nat.le_of_ble_eq_true rfl⟩ (rfl) hl.1 rfl (Nat.le_of_ble_eq_true rfl) dX11_goDay_132 (fun r59 u H locs hw hP hD hS => ?_)
                obtain ⟨hG60, hw⟩ := hw
                have pw_r59 : (0 : Int) ≤ r59.toInt ∧ r59.toInt ≤ 1 := hw
                refine lv_isub hx hb dX11_goDay_135 ?_
                refine lv_topi (fun t61 et61 => ?_)
                refine cbSi (n := 2) (rest := [.int t57, .ref (r 60)]) hx hb hml hown hts hE hP hD hS hA (sY_X11_greater_1 NF l dC dI cy y0 r 0 t61 v5 f56 w5 g5 hIv5 hCf56 hRf56 ) k_1802 k_1803 k_114 k_1804 he_yX11_greater ⟨Nat.le_of_ble_eq_true rfl, Nat.le_of_ble_eq_true rfl⟩ (rfl) hl.1 rfl (Nat.le_of_ble_eq_true rfl) dX11_goDay_136 (fun r62 u H locs hw hP hD hS => ?_)
                have hG63 := hw
                refine stI hx hb hE hP hD hS 25 rfl (vpI (k := 39) rfl (show 0 ≤ t57.toInt from om_465 hr2_5 zt57) (show t57.toInt < 39 from om_466 b25_v zc6 zt57)) rfl dX11_goDay_139 (fun H locs hP hD hS => ?_)
                obtain ⟨f64, ef64, hP, hD⟩ : ∃ fz9, fz9 = upd2 f56 24 (upd (f56 24) t57.toNatClampNeg r62) ∧ va_P (dC, dI) vwCl (YW cy y0 r v5 fz9 w5 g5) H ∧ va_D A (YW cy y0 r v5 fz9 w5 g5) := ⟨_, rfl, hP, hD⟩
                have hCf64 : YC f64 := by rw [ef64]; exact ⟨hCf56.1, (wear_st hCf56.2.1 (by show t57.toInt.toNat % 39 < 6 ∨ 12 ≤ t57.toInt.toNat % 39 ∨ (-1 ≤ r62.toInt ∧ r62.toInt ≤ 5); omega)), hCf56.2.2.1, hCf56.2.2.2.1, hCf56.2.2.2.2.1, hCf56.2.2.2.2.2⟩
                have hRf64 : progOK (f64 4) (f64 5) (v5 9).toInt.toNat := by rw [ef64]; exact hRf56
                have hA_f64 : KF [7, 8, 24] f64 f := by rw [ef64]; exact KF.up hA_f56 rfl
                obtain ⟨t65, et65⟩ : ∃ y : Int32, y = l2_5 + 1 := ⟨_, rfl⟩
                have zt65 : t65.toInt = l2_5.toInt + 1 := (congrArg Int32.toInt et65).trans (add_i rfl tc_1 (om_41 hr2_5) (om_187 b25_v zc6))
                refine lv_iinc (v := t65) (lv' := [(2, .int t65), (0, .ref y0), (1, .int p1)]) hx hb dX11_goDay_140 hl (k := 0) rfl et65.symm (Nat.le_of_ble_eq_true rfl) rfl (fun ls hl => ?_)
                refine lv_goto (tgt := 42) hx hb dX11_goDay_143 rfl ?_
                have rg66 := fb_rng t65
                exact ih5 t65 v5 f64 w5 g5 hIv5 hCf64 hRf64 hq0_v5 hq1_v5 hq2_v5 hq3_v5 hq4_v5 hq5_v5 hq8_v5 hq9_v5 hq10_v5 hq13_v5 hq14_v5 hq15_v5 hq17_v5 hq18_v5 hq24_v5 hq25_v5 hq35_v5 hq36_v5 hq38_v5 hq39_v5 ((gsY_X11_goDay_1_q4 c6 hG38.symm c39 et40 et41 et42 hG45.symm ef48 et49 et50 hG52.symm et53 hG55.symm ef56 et57 et58 hG60.symm et61 hG63.symm ef64 et65).symm.trans hT5) ⟨show (0 : Int) ≤ t65.toInt from om_43 hr2_5 zt65, show t65.toInt ≤ (2147483647 : Int) from om_44 rg66⟩ hM_v5 hA_f64 (show (2147483647 - t65.toInt).toNat < n5 from om_33 hm5 zt65 rg66) _ _ _ hP hD hS (lv_sub hl [0, 1, 2] rfl)
              · skip
                refine lv_goto (tgt := 140) hx hb dX11_goDay_58 rfl ?_
                obtain ⟨t67, et67⟩ : ∃ y : Int32, y = l2_5 + 1 := ⟨_, rfl⟩
                have zt67 : t67.toInt = l2_5.toInt + 1 := (congrArg Int32.toInt et67).trans (add_i rfl tc_1 (om_41 hr2_5) (om_187 b25_v zc6))
                refine lv_iinc (v := t67) (lv' := [(2, .int t67), (0, .ref y0), (1, .int p1)]) hx hb dX11_goDay_140 hl (k := 0) rfl et67.symm (Nat.le_of_ble_eq_true rfl) rfl (fun ls hl => ?_)
                refine lv_goto (tgt := 42) hx hb dX11_goDay_143 rfl ?_
                have rg68 := fb_rng t67
                exact ih5 t67 v5 f5 w5 g5 hIv5 hCf5 hRf5 hq0_v5 hq1_v5 hq2_v5 hq3_v5 hq4_v5 hq5_v5 hq8_v5 hq9_v5 hq10_v5 hq13_v5 hq14_v5 hq15_v5 hq17_v5 hq18_v5 hq24_v5 hq25_v5 hq35_v5 hq36_v5 hq38_v5 hq39_v5 ((gsY_X11_goDay_1_q5 c6 hG38.symm c39 et67).symm.trans hT5) ⟨show (0 : Int) ≤ t67.toInt from om_43 hr2_5 zt67, show t67.toInt ≤ (2147483647 : Int) from om_44 rg68⟩ hM_v5 hA_f5 (show (2147483647 - t67.toInt).toNat < n5 from om_33 hm5 zt67 rg68) _ _ _ hP hD hS (lv_sub hl [0, 1, 2] rfl)
        exact lp5 (4294967296 + NF) 0 v1 f1 w1 g1 hIv1 hCf1 hRf1 hq0_v1 hq1_v1 hq2_v1 hq3_v1 hq4_v1 hq5_v1 hq8_v1 hq9_v1 hq10_v1 hq13_v1 hq14_v1 hq15_v1 hq17_v1 hq18_v1 hq24_v1 hq25_v1 hq35_v1 hq36_v1 hq38_v1 hq39_v1 ((gsY_X11_goDay_1_q6 c2).symm.trans hT1) ⟨by decide, by decide⟩ hM_v1 hA_f1 (show (2147483647 - (0 : Int32).toInt).toNat < 4294967296 + NF from om_38 tc_0) _ _ _ hP hD hS (lv_sub hl [0, 1, 2] rfl)
      · skip
        have zc2 : ¬ ((v 24).toInt ≤ l2_1.toInt) := zMn rfl rfl c2
        have rg69 := fb_rng l2_1
        have rg70 := fb_rng (v 24)
        refine lv_aload_n hx hb dX11_goDay_10 rfl (lv_at hl 1 rfl) ?_
        refine va_get (D := (dC, dI)) (ci := 11) (v := .ref (r 60)) (C := RX11) (T := TX11) (N := 79) hx hb hts inB_11 hown hE.1 hP 0 rfl rfl 60 (Nat.le_of_ble_eq_true rfl) (hts _ k_1380) (fun _ h9 => h9) rfl dX11_goDay_11 ?_
        refine lv_iload_n hx hb dX11_goDay_14 rfl (lv_at hl 0 rfl) ?_
        refine lv_bipush (v := 99) hx hb dX11_goDay_15 rfl ?_
        refine lv_aload_n hx hb dX11_goDay_17 rfl (lv_at hl 1 rfl) ?_
        refine va_get (D := (dC, dI)) (ci := 11) (v := .ref (r 60)) (C := RX11) (T := TX11) (N := 79) hx hb hts inB_11 hown hE.1 hP 0 rfl rfl 60 (Nat.le_of_ble_eq_true rfl) (hts _ k_1380) (fun _ h9 => h9) rfl dX11_goDay_18 ?_
        refine lv_iload_n hx hb dX11_goDay_21 rfl (lv_at hl 0 rfl) ?_
        refine ldI hx hb hE hP 25 rfl (vpI (k := 39) rfl (show 0 ≤ l2_1.toInt from om_39 hr2_1) (show l2_1.toInt < 39 from om_475 b24_v zc2)) rfl rfl dX11_goDay_22 ?_
        refine lv_topi (fun t71 et71 => ?_)
        have zt71 : l2_1.toInt.toNat % 39 < 6 ∨ 12 ≤ l2_1.toInt.toNat % 39 ∨ (-1 ≤ t71.toInt ∧ t71.toInt ≤ 5) := by rw [et71]; exact wear_ld hCf1.2.1 (show l2_1.toInt.toNat < 39 from om_605 b24_v zc2)
        refine lv_aload_n hx hb dX11_goDay_23 rfl (lv_at hl 1 rfl) ?_
        refine va_get (D := (dC, dI)) (ci := 11) (v := .ref (r 36)) (C := RX11) (T := TX11) (N := 79) hx hb hts inB_11 hown hE.1 hP 0 rfl rfl 36 (Nat.le_of_ble_eq_true rfl) (hts _ k_1356) (fun _ h9 => h9) rfl dX11_goDay_24 ?_
        refine lv_iload_n hx hb dX11_goDay_27 rfl (lv_at hl 0 rfl) ?_
        refine ldI hx hb hE hP 19 rfl (vpI (k := 6) rfl (show 0 ≤ l2_1.toInt from om_39 hr2_1) (show l2_1.toInt < 6 from om_460 b24_v zc2)) rfl rfl dX11_goDay_28 ?_
        refine lv_topi (fun t72 et72 => ?_)
        refine lv_iadd hx hb dX11_goDay_29 ?_
        refine lv_topi (fun t73 et73 => ?_)
        have lt74 : (99 : Int32).toInt = 99 := by decide
        refine cbSi (n := 2) (rest := [.int l2_1, .ref (r 60)]) hx hb hml hown hts hE hP hD hS hA (sY_X11_lesser_1 NF l dC dI cy y0 r 99 t73 v1 f1 w1 g1 hIv1 hCf1 hRf1 ) k_1799 k_1800 k_114 k_1801 he_yX11_lesser ⟨Nat.le_of_ble_eq_true rfl, Nat.le_of_ble_eq_true rfl⟩ (rfl) hl.1 rfl (Nat.le_of_ble_eq_true rfl) dX11_goDay_30 (fun r75 u H locs hw hP hD hS => ?_)
        obtain ⟨hG76, hw⟩ := hw
        obtain ⟨pp77, pp78⟩ := hw
        have pp77 : r75.toInt ≤ (99 : Int32).toInt := pp77
        have pp78 : r75.toInt ≤ t73.toInt := pp78
        refine stI hx hb hE hP hD hS 25 rfl (vpI (k := 39) rfl (show 0 ≤ l2_1.toInt from om_39 hr2_1) (show l2_1.toInt < 39 from om_475 b24_v zc2)) rfl dX11_goDay_33 (fun H locs hP hD hS => ?_)
        obtain ⟨f79, ef79, hP, hD⟩ : ∃ fz9, fz9 = upd2 f1 24 (upd (f1 24) l2_1.toNatClampNeg r75) ∧ va_P (dC, dI) vwCl (YW cy y0 r v1 fz9 w1 g1) H ∧ va_D A (YW cy y0 r v1 fz9 w1 g1) := ⟨_, rfl, hP, hD⟩
        have hCf79 : YC f79 := by rw [ef79]; exact ⟨hCf1.1, (wear_st hCf1.2.1 (by show l2_1.toInt.toNat % 39 < 6 ∨ 12 ≤ l2_1.toInt.toNat % 39 ∨ (-1 ≤ r75.toInt ∧ r75.toInt ≤ 5); omega)), hCf1.2.2.1, hCf1.2.2.2.1, hCf1.2.2.2.2.1, hCf1.2.2.2.2.2⟩
        have hRf79 : progOK (f79 4) (f79 5) (v1 9).toInt.toNat := by rw [ef79]; exact hRf1
        have hA_f79 : KF [7, 8, 24] f79 f := by rw [ef79]; exact KF.up hA_f1 rfl
        obtain ⟨t80, et80⟩ : ∃ y : Int32, y = l2_1 + 1 := ⟨_, rfl⟩
        have zt80 : t80.toInt = l2_1.toInt + 1 := (congrArg Int32.toInt et80).trans (add_i rfl tc_1 (om_41 hr2_1) (om_187 b24_v zc2))
        refine lv_iinc (v := t80) (lv' := [(2, .int t80), (0, .ref y0), (1, .int p1)]) hx hb dX11_goDay_34 hl (k := 0) rfl et80.symm (Nat.le_of_ble_eq_true rfl) rfl (fun ls hl => ?_)
        refine lv_goto (tgt := 2) hx hb dX11_goDay_37 rfl ?_
        have rg81 := fb_rng t80
        exact ih1 t80 v1 f79 w1 g1 hIv1 hCf79 hRf79 hq0_v1 hq1_v1 hq2_v1 hq3_v1 hq4_v1 hq5_v1 hq8_v1 hq9_v1 hq10_v1 hq13_v1 hq14_v1 hq15_v1 hq17_v1 hq18_v1 hq24_v1 hq25_v1 hq35_v1 hq36_v1 hq38_v1 hq39_v1 ((gsY_X11_goDay_1_q7 c2 et71 et72 et73 hG76.symm ef79 et80).symm.trans hT1) ⟨show (0 : Int) ≤ t80.toInt from om_43 hr2_1 zt80, show t80.toInt ≤ (2147483647 : Int) from om_44 rg81⟩ hM_v1 hA_f79 (show (2147483647 - t80.toInt).toNat < n1 from om_33 hm1 zt80 rg81) _ _ _ hP hD hS (lv_sub hl [0, 1, 2] rfl)
  exact lp1 (4294967296 + NF) 0 v f w g hIv hCf hRf rfl rfl rfl rfl rfl rfl rfl rfl rfl rfl rfl rfl rfl rfl rfl rfl rfl rfl rfl rfl gsY_X11_goDay_1_q8.symm ⟨by decide, by decide⟩ hM_v hA_f (show (2147483647 - (0 : Int32).toInt).toNat < 4294967296 + NF from om_38 tc_0) _ _ _ hP hD hS (lv_sub hl [0, 1, 2] rfl)
set_option maxHeartbeats 4000000 in
set_option maxRecDepth 100000 in
theorem sY_X11_day_1 (NF : Nat) (l : Launch) (dC : Nat → ClassId) (dI : Nat → Nat → Nat) (cy : Nat → ClassId) (y0 : Nat) (r : Nat → Nat)  (v : Nat → Int32) (f : Nat → Nat → Int32) (w : Int64) (g : Nat → Int64) (hIv : YI v) (hCf : YC f) (hRf : progOK (f 4) (f 5) (v 9).toInt.toNat)  : ctI l (dC, dI) cy yX11_day cX11_day 3 .int 8 214 0 0 ((Nat → Int32) × (Nat → Nat → Int32) × (Int64) × (Nat → Int64)) [.ref y0] (YW cy y0 r v f w g) (fun r u => gsY_X11_day_1 NF v f w g = (r, u) ∧ KV [35, 36] u.1 v ∧ KF [7, 8, 23, 24, 25] u.2.1 f ∧ YI u.1 ∧ YC u.2.1 ∧ progOK (u.2.1 4) (u.2.1 5) (u.1 9).toInt.toNat ∧ u.1 0 = v 0 ∧ u.1 1 = v 1 ∧ u.1 2 = v 2 ∧ u.1 3 = v 3 ∧ u.1 4 = v 4 ∧ u.1 5 = v 5 ∧ u.1 8 = v 8 ∧ u.1 9 = v 9 ∧ u.1 10 = v 10 ∧ u.1 13 = v 13 ∧ u.1 14 = v 14 ∧ u.1 15 = v 15 ∧ u.1 17 = v 17 ∧ u.1 18 = v 18 ∧ u.1 24 = v 24 ∧ u.1 25 = v 25 ∧ u.1 38 = v 38 ∧ u.1 39 = v 39) (fun u => YW cy y0 r u.1 u.2.1 u.2.2.1 u.2.2.2) := by
  refine ctI_of (by decide) (Nat.le_of_ble_eq_true rfl) (fun p e s m below meth c A ls Q hx hb hml hts hown hE hP hD hA hl ret => ?_)
  have hM_v : KV [35, 36] v v := fun _ _ => rfl
  have hA_f : KF [7, 8, 23, 24, 25] f f := fun _ _ => rfl
  have hown : s.vm.findClass RX11 = some m.cls := hown
  have hS : va_S A s.heap s.heap [] := va_S.rf
  have hl : lv_has ls 3 [(0, .ref y0)] := hl
  refine lv_aload_n hx hb dX11_day_0 rfl (lv_at hl 0 rfl) ?_
  refine va_get (D := (dC, dI)) (ci := 11) (v := .ref (r 59)) (C := RX11) (T := TX11) (N := 79) hx hb hts inB_11 hown hE.1 hP 0 rfl rfl 59 (Nat.le_of_ble_eq_true rfl) (hts _ k_1379) (fun _ h9 => h9) rfl dX11_day_1 ?_
  refine lv_bipush (v := 37) hx hb dX11_day_4 rfl ?_
  refine ldI hx hb hE hP 24 rfl (vp_in_nI (n := 37) (by decide) (by decide)) rfl rfl dX11_day_6 ?_
  refine lv_topi (fun t1 et1 => ?_)
  refine lv_sipush (v := 999) hx hb dX11_day_7 rfl ?_
  refine lv_icmp_ne (tgt := 15) hx hb dX11_day_10 rfl (fun c2 => ?_) (fun c2 => ?_)
  · skip
    refine lv_aload_n hx hb dX11_day_15 rfl (lv_at hl 0 rfl) ?_
    refine cbVv (n := 0) (rest := []) hx hb hml hown hts hE hP hD hS hA (sY_X11_act_1 NF l dC dI cy y0 r  v f w g hIv hCf hRf ) k_1787 k_1789 k_77 k_114 k_1790 hd_yX11_act ⟨Nat.le_of_ble_eq_true rfl, Nat.le_of_ble_eq_true rfl⟩ 0 11 rfl rfl (rfl) hl.1 rfl (Nat.le_of_ble_eq_true rfl) dX11_day_16 (fun u H locs hw hP hD hS => ?_)
    obtain ⟨hG3, hw⟩ := hw
    obtain ⟨v4, f5, w6, g7⟩ := u
    obtain ⟨kV_v4, kF_f5, hIv4, hCf5, hRf5, hk0_v4, hk1_v4, hk2_v4, hk3_v4, hk4_v4, hk5_v4, hk8_v4, hk9_v4, hk10_v4, hk13_v4, hk14_v4, hk15_v4, hk17_v4, hk18_v4, hk24_v4, hk25_v4, hk38_v4, hk39_v4⟩ := hw
    have hM_v4 : KV [35, 36] v4 v := KV.tr kV_v4 hM_v rfl
    have hA_f5 : KF [7, 8, 23, 24, 25] f5 f := KF.tr kF_f5 hA_f rfl
    have hP : va_P (dC, dI) vwCl (YW cy y0 r v4 f5 w6 g7) H := hP
    have hD : va_D A (YW cy y0 r v4 f5 w6 g7) := hD
    refine lv_aload_n hx hb dX11_day_19 rfl (lv_at hl 0 rfl) ?_
    refine cbVi (n := 0) (rest := []) hx hb hml hown hts hE hP hD hS hA (sY_X11_drawRain_1 NF l dC dI cy y0 r  v4 f5 w6 g7 hIv4 hCf5 hRf5 ) k_1791 k_1793 k_78 k_114 k_1794 hd_yX11_drawRain ⟨Nat.le_of_ble_eq_true rfl, Nat.le_of_ble_eq_true rfl⟩ 0 11 rfl rfl (rfl) hl.1 rfl (Nat.le_of_ble_eq_true rfl) dX11_day_20 (fun r8 u H locs hw hP hD hS => ?_)
    obtain ⟨hG9, hw⟩ := hw
    obtain ⟨v10, f11, w12, g13⟩ := u
    obtain ⟨kV_v10, kF_f11, hIv10, hCf11, hRf11, hk0_v10, hk1_v10, hk2_v10, hk3_v10, hk4_v10, hk5_v10, hk8_v10, hk9_v10, hk10_v10, hk13_v10, hk14_v10, hk15_v10, hk17_v10, hk18_v10, hk24_v10, hk25_v10, hk35_v10, hk36_v10, hk38_v10, hk39_v10, hw⟩ := hw
    have hM_v10 : KV [35, 36] v10 v := KV.tr kV_v10 hM_v4 rfl
    have hA_f11 : KF [7, 8, 23, 24, 25] f11 f := KF.tr kF_f11 hA_f5 rfl
    have hP : va_P (dC, dI) vwCl (YW cy y0 r v10 f11 w12 g13) H := hP
    have hD : va_D A (YW cy y0 r v10 f11 w12 g13) := hD
    rcases hw with ⟨g14⟩ | ⟨g14⟩
    · skip
      subst g14
      refine lv_istore_n (lv' := [(1, .int 1), (0, .ref y0)]) hx hb dX11_day_23 rfl hl (Nat.le_of_ble_eq_true rfl) rfl (fun ls hl => ?_)
      refine lv_aload_n hx hb dX11_day_24 rfl (lv_at hl 1 rfl) ?_
      refine lv_iload_n hx hb dX11_day_25 rfl (lv_at hl 0 rfl) ?_
      refine cbVi (n := 1) (rest := []) hx hb hml hown hts hE hP hD hS hA (sY_X11_goDay_1 NF l dC dI cy y0 r 1 v10 f11 w12 g13 hIv10 hCf11 hRf11 ) k_1795 k_1797 k_79 k_114 k_1798 hd_yX11_goDay ⟨Nat.le_of_ble_eq_true rfl, Nat.le_of_ble_eq_true rfl⟩ 0 11 rfl rfl (rfl) hl.1 rfl (Nat.le_of_ble_eq_true rfl) dX11_day_26 (fun r15 u H locs hw hP hD hS => ?_)
      obtain ⟨hG16, hw⟩ := hw
      obtain ⟨v17, f18, w19, g20⟩ := u
      obtain ⟨kV_v17, kF_f18, hIv17, hCf18, hRf18, hk0_v17, hk1_v17, hk2_v17, hk3_v17, hk4_v17, hk5_v17, hk8_v17, hk9_v17, hk10_v17, hk13_v17, hk14_v17, hk15_v17, hk17_v17, hk18_v17, hk24_v17, hk25_v17, hk35_v17, hk36_v17, hk38_v17, hk39_v17⟩ := hw
      have hM_v17 : KV [35, 36] v17 v := KV.tr kV_v17 hM_v10 rfl
      have hA_f18 : KF [7, 8, 23, 24, 25] f18 f := KF.tr kF_f18 hA_f11 rfl
      have hP : va_P (dC, dI) vwCl (YW cy y0 r v17 f18 w19 g20) H := hP
      have hD : va_D A (YW cy y0 r v17 f18 w19 g20) := hD
      refine lv_istore_n (lv' := [(2, .int r15), (1, .int 1), (0, .ref y0)]) hx hb dX11_day_29 rfl hl (Nat.le_of_ble_eq_true rfl) rfl (fun ls hl => ?_)
      refine lv_aload_n hx hb dX11_day_30 rfl (lv_at hl 2 rfl) ?_
      refine cbVv (n := 0) (rest := []) hx hb hml hown hts hE hP hD hS hA (sY_X11_keepAir_1 NF l dC dI cy y0 r  v17 f18 w19 g20 hIv17 hCf18 hRf18 ) k_1720 k_1722 k_69 k_114 k_1723 hd_yX11_keepAir ⟨Nat.le_of_ble_eq_true rfl, Nat.le_of_ble_eq_true rfl⟩ 0 11 rfl rfl (rfl) hl.1 rfl (Nat.le_of_ble_eq_true rfl) dX11_day_31 (fun u H locs hw hP hD hS => ?_)
      obtain ⟨hG21, hw⟩ := hw
      obtain ⟨v22, f23, w24, g25⟩ := u
      obtain ⟨kV_v22, kF_f23, hIv22, hCf23, hRf23, hk0_v22, hk1_v22, hk2_v22, hk3_v22, hk4_v22, hk5_v22, hk8_v22, hk9_v22, hk10_v22, hk13_v22, hk14_v22, hk15_v22, hk17_v22, hk18_v22, hk24_v22, hk25_v22, hk35_v22, hk36_v22, hk38_v22, hk39_v22⟩ := hw
      have hM_v22 : KV [35, 36] v22 v := KV.tr kV_v22 hM_v17 rfl
      have hA_f23 : KF [7, 8, 23, 24, 25] f23 f := KF.tr kF_f23 hA_f18 rfl
      have hP : va_P (dC, dI) vwCl (YW cy y0 r v22 f23 w24 g25) H := hP
      have hD : va_D A (YW cy y0 r v22 f23 w24 g25) := hD
      refine lv_iload_n hx hb dX11_day_34 rfl (lv_at hl 0 rfl) ?_
      exact ret r15 (v22, f23, w24, g25) _ _ _ _ _ _ rfl ⟨(gsY_X11_day_1_q0 et1 c2 hG3 hG9 hG16 hG21), hM_v22, hA_f23, hIv22, hCf23, hRf23, (hk0_v22.trans (hk0_v17.trans (hk0_v10.trans hk0_v4))), (hk1_v22.trans (hk1_v17.trans (hk1_v10.trans hk1_v4))), (hk2_v22.trans (hk2_v17.trans (hk2_v10.trans hk2_v4))), (hk3_v22.trans (hk3_v17.trans (hk3_v10.trans hk3_v4))), (hk4_v22.trans (hk4_v17.trans (hk4_v10.trans hk4_v4))), (hk5_v22.trans (hk5_v17.trans (hk5_v10.trans hk5_v4))), (hk8_v22.trans (hk8_v17.trans (hk8_v10.trans hk8_v4))), (hk9_v22.trans (hk9_v17.trans (hk9_v10.trans hk9_v4))), (hk10_v22.trans (hk10_v17.trans (hk10_v10.trans hk10_v4))), (hk13_v22.trans (hk13_v17.trans (hk13_v10.trans hk13_v4))), (hk14_v22.trans (hk14_v17.trans (hk14_v10.trans hk14_v4))), (hk15_v22.trans (hk15_v17.trans (hk15_v10.trans hk15_v4))), (hk17_v22.trans (hk17_v17.trans (hk17_v10.trans hk17_v4))), (hk18_v22.trans (hk18_v17.trans (hk18_v10.trans hk18_v4))), (hk24_v22.trans (hk24_v17.trans (hk24_v10.trans hk24_v4))), (hk25_v22.trans (hk25_v17.trans (hk25_v10.trans hk25_v4))), (hk38_v22.trans (hk38_v17.trans (hk38_v10.trans hk38_v4))), (hk39_v22.trans (hk39_v17.trans (hk39_v10.trans hk39_v4)))⟩ hP hD hS dX11_day_35 (Nat.le_refl _) (Nat.le_refl _)
    · skip
      subst g14
      refine lv_istore_n (lv' := [(1, .int 0), (0, .ref y0)]) hx hb dX11_day_23 rfl hl (Nat.le_of_ble_eq_true rfl) rfl (fun ls hl => ?_)
      refine lv_aload_n hx hb dX11_day_24 rfl (lv_at hl 1 rfl) ?_
      refine lv_iload_n hx hb dX11_day_25 rfl (lv_at hl 0 rfl) ?_
      refine cbVi (n := 1) (rest := []) hx hb hml hown hts hE hP hD hS hA (sY_X11_goDay_1 NF l dC dI cy y0 r 0 v10 f11 w12 g13 hIv10 hCf11 hRf11 ) k_1795 k_1797 k_79 k_114 k_1798 hd_yX11_goDay ⟨Nat.le_of_ble_eq_true rfl, Nat.le_of_ble_eq_true rfl⟩ 0 11 rfl rfl (rfl) hl.1 rfl (Nat.le_of_ble_eq_true rfl) dX11_day_26 (fun r26 u H locs hw hP hD hS => ?_)
      obtain ⟨hG27, hw⟩ := hw
      obtain ⟨v28, f29, w30, g31⟩ := u
      obtain ⟨kV_v28, kF_f29, hIv28, hCf29, hRf29, hk0_v28, hk1_v28, hk2_v28, hk3_v28, hk4_v28, hk5_v28, hk8_v28, hk9_v28, hk10_v28, hk13_v28, hk14_v28, hk15_v28, hk17_v28, hk18_v28, hk24_v28, hk25_v28, hk35_v28, hk36_v28, hk38_v28, hk39_v28⟩ := hw
      have hM_v28 : KV [35, 36] v28 v := KV.tr kV_v28 hM_v10 rfl
      have hA_f29 : KF [7, 8, 23, 24, 25] f29 f := KF.tr kF_f29 hA_f11 rfl
      have hP : va_P (dC, dI) vwCl (YW cy y0 r v28 f29 w30 g31) H := hP
      have hD : va_D A (YW cy y0 r v28 f29 w30 g31) := hD
      refine lv_istore_n (lv' := [(2, .int r26), (1, .int 0), (0, .ref y0)]) hx hb dX11_day_29 rfl hl (Nat.le_of_ble_eq_true rfl) rfl (fun ls hl => ?_)
      refine lv_aload_n hx hb dX11_day_30 rfl (lv_at hl 2 rfl) ?_
      refine cbVv (n := 0) (rest := []) hx hb hml hown hts hE hP hD hS hA (sY_X11_keepAir_1 NF l dC dI cy y0 r  v28 f29 w30 g31 hIv28 hCf29 hRf29 ) k_1720 k_1722 k_69 k_114 k_1723 hd_yX11_keepAir ⟨Nat.le_of_ble_eq_true rfl, Nat.le_of_ble_eq_true rfl⟩ 0 11 rfl rfl (rfl) hl.1 rfl (Nat.le_of_ble_eq_true rfl) dX11_day_31 (fun u H locs hw hP hD hS => ?_)
      obtain ⟨hG32, hw⟩ := hw
      obtain ⟨v33, f34, w35, g36⟩ := u
      obtain ⟨kV_v33, kF_f34, hIv33, hCf34, hRf34, hk0_v33, hk1_v33, hk2_v33, hk3_v33, hk4_v33, hk5_v33, hk8_v33, hk9_v33, hk10_v33, hk13_v33, hk14_v33, hk15_v33, hk17_v33, hk18_v33, hk24_v33, hk25_v33, hk35_v33, hk36_v33, hk38_v33, hk39_v33⟩ := hw
      have hM_v33 : KV [35, 36] v33 v := KV.tr kV_v33 hM_v28 rfl
      have hA_f34 : KF [7, 8, 23, 24, 25] f34 f := KF.tr kF_f34 hA_f29 rfl
      have hP : va_P (dC, dI) vwCl (YW cy y0 r v33 f34 w35 g36) H := hP
      have hD : va_D A (YW cy y0 r v33 f34 w35 g36) := hD
      refine lv_iload_n hx hb dX11_day_34 rfl (lv_at hl 0 rfl) ?_
      exact ret r26 (v33, f34, w35, g36) _ _ _ _ _ _ rfl ⟨(gsY_X11_day_1_q1 et1 c2 hG3 hG9 hG27 hG32), hM_v33, hA_f34, hIv33, hCf34, hRf34, (hk0_v33.trans (hk0_v28.trans (hk0_v10.trans hk0_v4))), (hk1_v33.trans (hk1_v28.trans (hk1_v10.trans hk1_v4))), (hk2_v33.trans (hk2_v28.trans (hk2_v10.trans hk2_v4))), (hk3_v33.trans (hk3_v28.trans (hk3_v10.trans hk3_v4))), (hk4_v33.trans (hk4_v28.trans (hk4_v10.trans hk4_v4))), (hk5_v33.trans (hk5_v28.trans (hk5_v10.trans hk5_v4))), (hk8_v33.trans (hk8_v28.trans (hk8_v10.trans hk8_v4))), (hk9_v33.trans (hk9_v28.trans (hk9_v10.trans hk9_v4))), (hk10_v33.trans (hk10_v28.trans (hk10_v10.trans hk10_v4))), (hk13_v33.trans (hk13_v28.trans (hk13_v10.trans hk13_v4))), (hk14_v33.trans (hk14_v28.trans (hk14_v10.trans hk14_v4))), (hk15_v33.trans (hk15_v28.trans (hk15_v10.trans hk15_v4))), (hk17_v33.trans (hk17_v28.trans (hk17_v10.trans hk17_v4))), (hk18_v33.trans (hk18_v28.trans (hk18_v10.trans hk18_v4))), (hk24_v33.trans (hk24_v28.trans (hk24_v10.trans hk24_v4))), (hk25_v33.trans (hk25_v28.trans (hk25_v10.trans hk25_v4))), (hk38_v33.trans (hk38_v28.trans (hk38_v10.trans hk38_v4))), (hk39_v33.trans (hk39_v28.trans (hk39_v10.trans hk39_v4)))⟩ hP hD hS dX11_day_35 (Nat.le_refl _) (Nat.le_refl _)
  · skip
    refine lv_iconst (v := (-1)) hx hb dX11_day_13 rfl ?_
    exact ret (-1) (v, f, w, g) _ _ _ _ _ _ rfl ⟨(gsY_X11_day_1_q2 et1 c2), hM_v, hA_f, hIv, hCf, hRf, rfl, rfl, rfl, rfl, rfl, rfl, rfl, rfl, rfl, rfl, rfl, rfl, rfl, rfl, rfl, rfl, rfl, rfl⟩ hP hD hS dX11_day_14 (Nat.le_refl _) (Nat.le_refl _)
