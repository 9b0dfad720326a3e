set_option maxHeartbeats 4000000 in
set_option maxRecDepth 100000 in
theorem sY_X11_misfit_1 (NF : Nat) (l : Launch) (dC : Nat → ClassId) (dI : Nat → Nat → Nat) (cy : Nat → ClassId) (y0 : Nat) (r : Nat → Nat) (p1 : Int32) (p2 : Int32) (v : Nat → Int32) (f : Nat → Nat → Int32) (w : Int64) (g : Nat → Int64) (hIv : YI v) (hCf : YC f) (hRf : progOK (f 4) (f 5) (v 9).toInt.toNat)  : ctI l (dC, dI) cy yX11_misfit cX11_misfit 3 .int 4 126 0 0 ((Nat → Int32) × (Nat → Nat → Int32) × (Int64) × (Nat → Int64)) [.ref y0, .int p1, .int p2] (YW cy y0 r v f w g) (fun r u => gsY_X11_misfit_1 NF p1 p2 v f w g = (r, u) ∧ KV [] u.1 v ∧ KF [7, 8, 24] u.2.1 f ∧ YI u.1 ∧ YC u.2.1 ∧ progOK (u.2.1 4) (u.2.1 5) (u.1 9).toInt.toNat ∧ u.1 0 = v 0 ∧ u.1 1 = v 1 ∧ u.1 2 = v 2 ∧ u.1 3 = v 3 ∧ u.1 4 = v 4 ∧ u.1 5 = v 5 ∧ u.1 8 = v 8 ∧ u.1 9 = v 9 ∧ u.1 10 = v 10 ∧ u.1 13 = v 13 ∧ u.1 14 = v 14 ∧ u.1 15 = v 15 ∧ u.1 17 = v 17 ∧ u.1 18 = v 18 ∧ u.1 24 = v 24 ∧ u.1 25 = v 25 ∧ u.1 35 = v 35 ∧ u.1 36 = v 36 ∧ u.1 38 = v 38 ∧ u.1 39 = v 39) (fun u => YW cy y0 r u.1 u.2.1 u.2.2.1 u.2.2.2) := by
  refine ctI_of (by decide) (Nat.le_of_ble_eq_true rfl) (fun p e s m below meth c A ls Q hx hb hml hts hown hE hP hD hA hl ret => ?_)
  have hUv : (v 35).toInt + (v 36).toInt ≤ 40 := hIv.2
  have hM_v : KV [] v v := fun _ _ => rfl
  have hA_f : KF [7, 8, 24] f f := fun _ _ => rfl
  have hown : s.vm.findClass RX11 = some m.cls := hown
  have hS : va_S A s.heap s.heap [] := va_S.rf
  have hl : lv_has ls 3 [(0, .ref y0), (1, .int p1), (2, .int p2)] := hl
  refine lv_aload_n hx hb dX11_misfit_0 rfl (lv_at hl 0 rfl) ?_
  refine cbVv (n := 0) (rest := []) hx hb hml hown hts hE hP hD hS hA (sY_X11_fill_1 NF l dC dI cy y0 r  v f w g hIv hCf hRf ) k_1739 k_1741 k_71 k_114 k_1742 (by decide +kernel) ⟨Nat.le_of_ble_eq_true rfl, Nat.le_of_ble_eq_true rfl⟩ 0 11 rfl rfl (rfl) hl.1 rfl (Nat.le_of_ble_eq_true rfl) dX11_misfit_1 (fun u H locs hw hP hD hS => ?_)
  obtain ⟨hG1, hw⟩ := hw
  obtain ⟨v2, f3, w4, g5⟩ := u
  obtain ⟨kV_v2, kF_f3, hIv2, hCf3, hRf3, hk0_v2, hk1_v2, hk2_v2, hk3_v2, hk4_v2, hk5_v2, hk8_v2, hk9_v2, hk10_v2, hk13_v2, hk14_v2, hk15_v2, hk17_v2, hk18_v2, hk24_v2, hk25_v2, hk35_v2, hk36_v2, hk38_v2, hk39_v2⟩ := hw
  have hM_v2 : KV [] v2 v := KV.tr kV_v2 hM_v rfl
  have hA_f3 : KF [7, 8, 24] f3 f := KF.tr kF_f3 hA_f rfl
  have hP : va_P (dC, dI) vwCl (YW cy y0 r v2 f3 w4 g5) H := hP
  have hD : va_D A (YW cy y0 r v2 f3 w4 g5) := hD
  have hUv2 : (v2 35).toInt + (v2 36).toInt ≤ 40 := hIv2.2
  have hq9_v2 : v2 9 = (v 9) := hk9_v2
  have zq9_v2 := congrArg Int32.toInt hq9_v2
  refine lv_aload_n hx hb dX11_misfit_4 rfl (lv_at hl 0 rfl) ?_
  refine lv_iload_n hx hb dX11_misfit_5 rfl (lv_at hl 1 rfl) ?_
  refine cbVi (n := 1) (rest := []) hx hb hml hown hts hE hP hD hS hA (sY_X11_isMan_1 NF l dC dI cy y0 r p1 v2 f3 w4 g5 hIv2 hCf3 hRf3 ) k_1732 k_1734 k_70 k_114 k_1735 (by decide +kernel) ⟨Nat.le_of_ble_eq_true rfl, Nat.le_of_ble_eq_true rfl⟩ 0 11 rfl rfl (rfl) hl.1 rfl (Nat.le_of_ble_eq_true rfl) dX11_misfit_6 (fun r6 u H locs hw hP hD hS => ?_)
  obtain ⟨hG7, hw⟩ := hw
  rcases hw with ⟨g8, g8_0, g8_1, g8_2⟩ | ⟨g8⟩
  · skip
    subst g8
    refine lv_if_eq (tgt := 29) hx hb dX11_misfit_9 (by decide) (fun c0 => absurd c0 (by decide)) (fun _ => ?_)
    refine lv_aload_n hx hb dX11_misfit_12 rfl (lv_at hl 0 rfl) ?_
    refine lv_iload_n hx hb dX11_misfit_13 rfl (lv_at hl 2 rfl) ?_
    refine cbVi (n := 1) (rest := []) hx hb hml hown hts hE hP hD hS hA (sY_X11_isCoat_1 NF l dC dI cy y0 r p2 v2 f3 w4 g5 hIv2 hCf3 hRf3 ) k_1771 k_1773 k_75 k_114 k_1774 (by decide +kernel) ⟨Nat.le_of_ble_eq_true rfl, Nat.le_of_ble_eq_true rfl⟩ 0 11 rfl rfl (rfl) hl.1 rfl (Nat.le_of_ble_eq_true rfl) dX11_misfit_14 (fun r9 u H locs hw hP hD hS => ?_)
    obtain ⟨hG10, hw⟩ := hw
    rcases hw with ⟨g11, g11_0, g11_1, g11_2⟩ | ⟨g11⟩
    · skip
      subst g11
      refine lv_if_eq (tgt := 29) hx hb dX11_misfit_17 (by decide) (fun c0 => absurd c0 (by decide)) (fun _ => ?_)
      refine lv_aload_n hx hb dX11_misfit_20 rfl (lv_at hl 0 rfl) ?_
      refine lv_iload_n hx hb dX11_misfit_21 rfl (lv_at hl 1 rfl) ?_
      refine lv_iload_n hx hb dX11_misfit_22 rfl (lv_at hl 2 rfl) ?_
      refine cbVi (n := 2) (rest := []) hx hb hml hown hts hE hP hD hS hA (sY_X11_misfitOf_1 NF l dC dI cy y0 r p1 p2 v2 f3 w4 g5 hIv2 hCf3 hRf3 ⟨show (0 : Int) ≤ p1.toInt by omega, show p1.toInt ≤ (5 : Int) by omega⟩ ⟨show (0 : Int) ≤ p2.toInt by omega, show p2.toInt ≤ (5 : Int) by omega⟩) k_1751 k_1753 k_74 k_114 k_1754 (by decide +kernel) ⟨Nat.le_of_ble_eq_true rfl, Nat.le_of_ble_eq_true rfl⟩ 0 11 rfl rfl (rfl) hl.1 rfl (Nat.le_of_ble_eq_true rfl) dX11_misfit_23 (fun r12 u H locs hw hP hD hS => ?_)
      obtain ⟨hG13, hw⟩ := hw
      obtain ⟨v14, f15, w16, g17⟩ := u
      obtain ⟨kV_v14, kF_f15, hIv14, hCf15, hRf15, hk0_v14, hk1_v14, hk2_v14, hk3_v14, hk4_v14, hk5_v14, hk8_v14, hk9_v14, hk10_v14, hk13_v14, hk14_v14, hk15_v14, hk17_v14, hk18_v14, hk24_v14, hk25_v14, hk35_v14, hk36_v14, hk38_v14, hk39_v14⟩ := hw
      have hM_v14 : KV [] v14 v := KV.tr kV_v14 hM_v2 rfl
      have hA_f15 : KF [7, 8, 24] f15 f := KF.tr kF_f15 hA_f3 rfl
      have hP : va_P (dC, dI) vwCl (YW cy y0 r v14 f15 w16 g17) H := hP
      have hD : va_D A (YW cy y0 r v14 f15 w16 g17) := hD
      have hUv14 : (v14 35).toInt + (v14 36).toInt ≤ 40 := hIv14.2
      have hq9_v14 : v14 9 = (v 9) := hk9_v14.trans hq9_v2
      have zq9_v14 := congrArg Int32.toInt hq9_v14
      refine lv_goto (tgt := 30) hx hb dX11_misfit_26 (by decide) ?_
      exact ret r12 (v14, f15, w16, g17) _ _ _ _ _ _ rfl ⟨(gsY_X11_misfit_1_q0 hG1 hG7 hG10 hG13), hM_v14, hA_f15, hIv14, hCf15, hRf15, (hk0_v14.trans hk0_v2), (hk1_v14.trans hk1_v2), (hk2_v14.trans hk2_v2), (hk3_v14.trans hk3_v2), (hk4_v14.trans hk4_v2), (hk5_v14.trans hk5_v2), (hk8_v14.trans hk8_v2), (hk9_v14.trans hk9_v2), (hk10_v14.trans hk10_v2), (hk13_v14.trans hk13_v2), (hk14_v14.trans hk14_v2), (hk15_v14.trans hk15_v2), (hk17_v14.trans hk17_v2), (hk18_v14.trans hk18_v2), (hk24_v14.trans hk24_v2), (hk25_v14.trans hk25_v2), (hk35_v14.trans hk35_v2), (hk36_v14.trans hk36_v2), (hk38_v14.trans hk38_v2), (hk39_v14.trans hk39_v2)⟩ hP hD hS dX11_misfit_30 (Nat.le_refl _) (Nat.le_refl _)
    · skip
      subst g11
      refine lv_if_eq (tgt := 29) hx hb dX11_misfit_17 (by decide) (fun _ => ?_) (fun c0 => absurd (by decide) c0)
      refine lv_iconst (v := (-1)) hx hb dX11_misfit_29 (by decide) ?_
      exact ret (-1) (v2, f3, w4, g5) _ _ _ _ _ _ rfl ⟨(gsY_X11_misfit_1_q1 hG1 hG7 hG10), hM_v2, hA_f3, hIv2, hCf3, hRf3, hk0_v2, hk1_v2, hk2_v2, hk3_v2, hk4_v2, hk5_v2, hk8_v2, hk9_v2, hk10_v2, hk13_v2, hk14_v2, hk15_v2, hk17_v2, hk18_v2, hk24_v2, hk25_v2, hk35_v2, hk36_v2, hk38_v2, hk39_v2⟩ hP hD hS dX11_misfit_30 (Nat.le_refl _) (Nat.le_refl _)
  · skip
    subst g8
    refine lv_if_eq (tgt := 29) hx hb dX11_misfit_9 (by decide) (fun _ => ?_) (fun c0 => absurd (by decide) c0)
    refine lv_iconst (v := (-1)) hx hb dX11_misfit_29 (by decide) ?_
    exact ret (-1) (v2, f3, w4, g5) _ _ _ _ _ _ rfl ⟨(gsY_X11_misfit_1_q2 hG1 hG7), hM_v2, hA_f3, hIv2, hCf3, hRf3, hk0_v2, hk1_v2, hk2_v2, hk3_v2, hk4_v2, hk5_v2, hk8_v2, hk9_v2, hk10_v2, hk13_v2, hk14_v2, hk15_v2, hk17_v2, hk18_v2, hk24_v2, hk25_v2, hk35_v2, hk36_v2, hk38_v2, hk39_v2⟩ hP hD hS dX11_misfit_30 (Nat.le_refl _) (Nat.le_refl _)
set_option maxHeartbeats 4000000 in
set_option maxRecDepth 100000 in
theorem sY_X11_act_1 (NF : Nat) (l : Launch) (dC : Nat → ClassId) (dI : Nat → Nat → Nat) (cy : Nat → ClassId) (y0 : Nat) (r : Nat → Nat)  (v : Nat → Int32) (f : Nat → Nat → Int32) (w : Int64) (g : Nat → Int64) (hIv : YI v) (hCf : YC f) (hRf : progOK (f 4) (f 5) (v 9).toInt.toNat)  : ctV l (dC, dI) cy yX11_act cX11_act 2 2 81 0 0 ((Nat → Int32) × (Nat → Nat → Int32) × (Int64) × (Nat → Int64)) [.ref y0] (YW cy y0 r v f w g) (fun u => gsY_X11_act_1 NF v f w g = u ∧ KV [35, 36] u.1 v ∧ KF [24, 25] u.2.1 f ∧ YI u.1 ∧ YC u.2.1 ∧ progOK (u.2.1 4) (u.2.1 5) (u.1 9).toInt.toNat ∧ u.1 0 = v 0 ∧ u.1 1 = v 1 ∧ u.1 2 = v 2 ∧ u.1 3 = v 3 ∧ u.1 4 = v 4 ∧ u.1 5 = v 5 ∧ u.1 8 = v 8 ∧ u.1 9 = v 9 ∧ u.1 10 = v 10 ∧ u.1 13 = v 13 ∧ u.1 14 = v 14 ∧ u.1 15 = v 15 ∧ u.1 17 = v 17 ∧ u.1 18 = v 18 ∧ u.1 24 = v 24 ∧ u.1 25 = v 25 ∧ u.1 38 = v 38 ∧ u.1 39 = v 39) (fun u => YW cy y0 r u.1 u.2.1 u.2.2.1 u.2.2.2) := by
  refine ctV_of (by decide) (Nat.le_of_ble_eq_true rfl) (fun p e s m below meth c A ls Q hx hb hml hts hown hnm hE hP hD hA hl ret => ?_)
  have hUv : (v 35).toInt + (v 36).toInt ≤ 40 := hIv.2
  have hM_v : KV [35, 36] v v := fun _ _ => rfl
  have hA_f : KF [24, 25] f f := fun _ _ => rfl
  have hown : s.vm.findClass RX11 = some m.cls := hown
  have hS : va_S A s.heap s.heap [] := va_S.rf
  have hl : lv_has ls 2 [(0, .ref y0)] := hl
  refine lv_aload_n hx hb dX11_act_0 rfl (lv_at hl 0 rfl) ?_
  refine va_get (D := (dC, dI)) (ci := 11) (v := .int (v 35)) (C := RX11) (T := TX11) (N := 79) hx hb hts inB_11 hown hE.1 hP 0 rfl rfl 62 (by decide) (hts _ k_1382) (fun _ h9 => h9) rfl dX11_act_1 ?_
  have b35_v : 0 ≤ (v 35).toInt ∧ (v 35).toInt ≤ 40 := YIb.b hIv.1 35 (by decide)
  refine lv_bipush (v := 40) hx hb dX11_act_4 (by decide) ?_
  refine lv_icmp_ne (tgt := 49) hx hb dX11_act_6 (by decide) (fun c1 => ?_) (fun c1 => ?_)
  · skip
    have zc1 : ¬ ((v 35).toInt = 40) := by rw [fa_eq, show (40 : Int32).toInt = 40 from by decide] at c1; exact c1
    refine lv_iconst (v := 0) hx hb dX11_act_49 (by decide) ?_
    refine lv_istore_n (lv' := [(1, .int 0), (0, .ref y0)]) hx hb dX11_act_50 rfl hl (by decide) rfl (fun ls hl => ?_)
    have lp2 : ∀ (n2 : Nat) (l1_2 : Int32) (v2 : Nat → Int32) (f2 : Nat → Nat → Int32) (w2 : Int64) (g2 : Nat → Int64), YI v2 → YC f2 → progOK (f2 4) (f2 5) (v2 9).toInt.toNat → v2 0 = (v 0) → v2 1 = (v 1) → v2 2 = (v 2) → v2 3 = (v 3) → v2 4 = (v 4) → v2 5 = (v 5) → v2 8 = (v 8) → v2 9 = (v 9) → v2 10 = (v 10) → v2 13 = (v 13) → v2 14 = (v 14) → v2 15 = (v 15) → v2 17 = (v 17) → v2 18 = (v 18) → v2 24 = (v 24) → v2 25 = (v 25) → v2 35 = (v 35) → v2 36 = (v 36) → v2 38 = (v 38) → v2 39 = (v 39) → gsY_X11_act_1_L2 NF v n2 l1_2 v2 f2 w2 g2 = (gsY_X11_act_1 NF v f w g) → ((0 : Int) ≤ l1_2.toInt ∧ l1_2.toInt ≤ 2147483647) → KV [35, 36] v2 v → KF [24, 25] f2 f → (2147483647 - l1_2.toInt).toNat < n2 → ∀ (H : Heap) (locs : List Loc) (ls : Array Slot), va_P (dC, dI) vwCl (YW cy y0 r v2 f2 w2 g2) H → va_D A (YW cy y0 r v2 f2 w2 g2) → va_S A s.heap H locs → lv_has ls 2 [(1, .int l1_2), (0, .ref y0)] → W p l e { frames := 2, cells := 0, slots := 0, locals := 81 } s m ([.ref y0] : List Value).toArray below meth c H locs 0 0 Q (F0 m 51 ls []) := by
      intro n2
      induction n2 with
      | zero => intro l1_2 v2 f2 w2 g2 hIv2 hCf2 hRf2 hq0_v2 hq1_v2 hq2_v2 hq3_v2 hq4_v2 hq5_v2 hq8_v2 hq9_v2 hq10_v2 hq13_v2 hq14_v2 hq15_v2 hq17_v2 hq18_v2 hq24_v2 hq25_v2 hq35_v2 hq36_v2 hq38_v2 hq39_v2 hT2 hr1_2 hM_v2 hA_f2 hm; exact absurd hm (Nat.not_lt_zero _)
      | succ n2 ih2 =>
        intro l1_2 v2 f2 w2 g2 hIv2 hCf2 hRf2 hq0_v2 hq1_v2 hq2_v2 hq3_v2 hq4_v2 hq5_v2 hq8_v2 hq9_v2 hq10_v2 hq13_v2 hq14_v2 hq15_v2 hq17_v2 hq18_v2 hq24_v2 hq25_v2 hq35_v2 hq36_v2 hq38_v2 hq39_v2 hT2 hr1_2 hM_v2 hA_f2 hm2 H locs ls hP hD hS hl
        have hUv2 : (v2 35).toInt + (v2 36).toInt ≤ 40 := hIv2.2
        have zq9_v2 := congrArg Int32.toInt hq9_v2
        have zq35_v2 := congrArg Int32.toInt hq35_v2
        have zq36_v2 := congrArg Int32.toInt hq36_v2
        refine lv_iload_n hx hb dX11_act_51 rfl (lv_at hl 0 rfl) ?_
        refine lv_bipush (v := 39) hx hb dX11_act_52 (by decide) ?_
        refine lv_icmp_ge (tgt := 83) hx hb dX11_act_54 (by decide) (fun c3 => ?_) (fun c3 => ?_)
        · skip
          have zc3 : 39 ≤ l1_2.toInt := by rw [fa_le, show (39 : Int32).toInt = 39 from by decide] at c3; exact c3
          refine lv_aload_n hx hb dX11_act_83 rfl (lv_at hl 1 rfl) ?_
          refine lv_dup hx hb dX11_act_84 rfl ?_
          refine va_get (D := (dC, dI)) (ci := 11) (v := .int (v2 35)) (C := RX11) (T := TX11) (N := 79) hx hb hts inB_11 hown hE.1 hP 0 rfl rfl 62 (by decide) (hts _ k_1382) (fun _ h9 => h9) rfl dX11_act_85 ?_
          refine tI (y := (v 35)) hq35_v2 ?_
          have b35_v : 0 ≤ (v 35).toInt ∧ (v 35).toInt ≤ 40 := YIb.b hIv.1 35 (by decide)
          refine lv_iconst (v := 1) hx hb dX11_act_88 (by decide) ?_
          refine lv_iadd hx hb dX11_act_89 ?_
          refine lv_topi (fun t4 et4 => ?_)
          have rg5 := fb_rng (v 35)
          have zt4 : t4.toInt = (v 35).toInt + 1 := by rw [et4]; exact add_i rfl (by decide) (by omega) (by omega)
          refine va_put (D := (dC, dI)) (ci := 11) (v := .int t4) (ty := tyX11 62) (C := RX11) (T := TX11) (N := 79) hx hb hts inB_11 tyX11 tyX11_ok nmX11 hown hE.1 hP hD hS 0 rfl rfl 62 (by decide) (hts _ k_1382) (fun _ h9 => h9) rfl (tyX11_ok 62 (by decide)) rfl rfl (Nat.le_of_ble_eq_true rfl) dX11_act_90 (fun H locs hP hD hS => ?_)
          have hP : va_P (dC, dI) vwCl (YW cy y0 r (upd v2 35 t4) f2 w2 g2) H := hP
          have hD : va_D A (YW cy y0 r (upd v2 35 t4) f2 w2 g2) := hD
          refine lv_aload_n hx hb dX11_act_93 rfl (lv_at hl 1 rfl) ?_
          refine lv_iconst (v := 0) hx hb dX11_act_94 (by decide) ?_
          refine va_put (D := (dC, dI)) (ci := 11) (v := .int 0) (ty := tyX11 63) (C := RX11) (T := TX11) (N := 79) hx hb hts inB_11 tyX11 tyX11_ok nmX11 hown hE.1 hP hD hS 0 rfl rfl 63 (by decide) (hts _ k_1383) (fun _ h9 => h9) rfl (tyX11_ok 63 (by decide)) rfl rfl (Nat.le_of_ble_eq_true rfl) dX11_act_95 (fun H locs hP hD hS => ?_)
          have hP : va_P (dC, dI) vwCl (YW cy y0 r (upd (upd v2 35 t4) 36 0) f2 w2 g2) H := hP
          have hD : va_D A (YW cy y0 r (upd (upd v2 35 t4) 36 0) f2 w2 g2) := hD
          refine lv_aload_n hx hb dX11_act_98 rfl (lv_at hl 1 rfl) ?_
          refine cbVv (n := 0) (rest := []) hx hb hml hown hts hE hP hD hS hA (sY_X11_fill_1 NF l dC dI cy y0 r  (upd (upd v2 35 t4) 36 0) f2 w2 g2 ⟨(YIb.upd (j := 36) (x := 0) (YIb.upd (j := 35) (x := t4) hIv2.1 (show (0 : Int) ≤ t4.toInt by omega) (show t4.toInt ≤ (40 : Int) by omega)) (by decide) (by decide)), (by have q9 := hIv2.2; have q0 : (0 : Int32).toInt = 0 := (by decide); show t4.toInt + (0 : Int32).toInt ≤ 40; omega)⟩ hCf2 hRf2 ) k_1739 k_1741 k_71 k_114 k_1742 (by decide +kernel) ⟨Nat.le_of_ble_eq_true rfl, Nat.le_of_ble_eq_true rfl⟩ 0 11 rfl rfl (rfl) hl.1 rfl (Nat.le_of_ble_eq_true rfl) dX11_act_99 (fun u H locs hw hP hD hS => ?_)
          obtain ⟨hG6, hw⟩ := hw
          obtain ⟨v7, f8, w9, g10⟩ := u
          obtain ⟨kV_v7, kF_f8, hIv7, hCf8, hRf8, hk0_v7, hk1_v7, hk2_v7, hk3_v7, hk4_v7, hk5_v7, hk8_v7, hk9_v7, hk10_v7, hk13_v7, hk14_v7, hk15_v7, hk17_v7, hk18_v7, hk24_v7, hk25_v7, hk35_v7, hk36_v7, hk38_v7, hk39_v7⟩ := hw
          have hM_v7 : KV [35, 36] v7 v := KV.tr kV_v7 (KV.up (j := 36) (x := 0) (KV.up (j := 35) (x := t4) hM_v2 rfl) rfl) rfl
          have hA_f8 : KF [24, 25] f8 f := KF.tr kF_f8 hA_f2 rfl
          have hP : va_P (dC, dI) vwCl (YW cy y0 r v7 f8 w9 g10) H := hP
          have hD : va_D A (YW cy y0 r v7 f8 w9 g10) := hD
          have hUv7 : (v7 35).toInt + (v7 36).toInt ≤ 40 := hIv7.2
          have hq9_v7 : v7 9 = (v 9) := hk9_v7.trans hq9_v2
          have zq9_v7 := congrArg Int32.toInt hq9_v7
          have hq35_v7 : v7 35 = t4 := hk35_v7
          have zq35_v7 := congrArg Int32.toInt hq35_v7
          have hq36_v7 : v7 36 = 0 := hk36_v7
          have zq36_v7 := congrArg Int32.toInt hq36_v7
          exact ret (v7, f8, w9, g10) _ _ _ _ _ _ ⟨(hT2.symm.trans (gsY_X11_act_1_q0 c3 et4 hG6)), hM_v7, hA_f8, hIv7, hCf8, hRf8, (hk0_v7.trans (show v2 0 = v 0 from hq0_v2)), (hk1_v7.trans (show v2 1 = v 1 from hq1_v2)), (hk2_v7.trans (show v2 2 = v 2 from hq2_v2)), (hk3_v7.trans (show v2 3 = v 3 from hq3_v2)), (hk4_v7.trans (show v2 4 = v 4 from hq4_v2)), (hk5_v7.trans (show v2 5 = v 5 from hq5_v2)), (hk8_v7.trans (show v2 8 = v 8 from hq8_v2)), (hk9_v7.trans (show v2 9 = v 9 from hq9_v2)), (hk10_v7.trans (show v2 10 = v 10 from hq10_v2)), (hk13_v7.trans (show v2 13 = v 13 from hq13_v2)), (hk14_v7.trans (show v2 14 = v 14 from hq14_v2)), (hk15_v7.trans (show v2 15 = v 15 from hq15_v2)), (hk17_v7.trans (show v2 17 = v 17 from hq17_v2)), (hk18_v7.trans (show v2 18 = v 18 from hq18_v2)), (hk24_v7.trans (show v2 24 = v 24 from hq24_v2)), (hk25_v7.trans (show v2 25 = v 25 from hq25_v2)), (hk38_v7.trans (show v2 38 = v 38 from hq38_v2)), (hk39_v7.trans (show v2 39 = v 39 from hq39_v2))⟩ hP hD hS dX11_act_102 (Nat.le_refl _) (Nat.le_refl _)
        · skip
          have zc3 : ¬ (39 ≤ l1_2.toInt) := by rw [fa_le, show (39 : Int32).toInt = 39 from by decide] at c3; exact c3
          refine lv_aload_n hx hb dX11_act_57 rfl (lv_at hl 1 rfl) ?_
          refine va_get (D := (dC, dI)) (ci := 11) (v := .ref (r 61)) (C := RX11) (T := TX11) (N := 79) hx hb hts inB_11 hown hE.1 hP 0 rfl rfl 61 (by decide) (hts _ k_1381) (fun _ h9 => h9) rfl dX11_act_58 ?_
          refine lv_bipush (v := 39) hx hb dX11_act_61 (by decide) ?_
          refine lv_aload_n hx hb dX11_act_63 rfl (lv_at hl 1 rfl) ?_
          refine va_get (D := (dC, dI)) (ci := 11) (v := .int (v2 35)) (C := RX11) (T := TX11) (N := 79) hx hb hts inB_11 hown hE.1 hP 0 rfl rfl 62 (by decide) (hts _ k_1382) (fun _ h9 => h9) rfl dX11_act_64 ?_
          refine tI (y := (v 35)) hq35_v2 ?_
          have b35_v : 0 ≤ (v 35).toInt ∧ (v 35).toInt ≤ 40 := YIb.b hIv.1 35 (by decide)
          refine lv_imul hx hb dX11_act_67 ?_
          refine lv_topi (fun t11 et11 => ?_)
          have rg12 := fb_rng (v 35)
          have zt11 : t11.toInt = 39 * (v 35).toInt := by rw [et11]; exact mul_i (by decide) rfl (by omega) (by omega)
          refine lv_iload_n hx hb dX11_act_68 rfl (lv_at hl 0 rfl) ?_
          refine lv_iadd hx hb dX11_act_69 ?_
          refine lv_topi (fun t13 et13 => ?_)
          have rg14 := fb_rng t11
          have rg15 := fb_rng l1_2
          have zt13 : t13.toInt = t11.toInt + l1_2.toInt := by rw [et13]; exact add_i rfl rfl (by omega) (by omega)
          refine lv_aload_n hx hb dX11_act_70 rfl (lv_at hl 1 rfl) ?_
          refine va_get (D := (dC, dI)) (ci := 11) (v := .ref (r 59)) (C := RX11) (T := TX11) (N := 79) hx hb hts inB_11 hown hE.1 hP 0 rfl rfl 59 (by decide) (hts _ k_1379) (fun _ h9 => h9) rfl dX11_act_71 ?_
          refine lv_iload_n hx hb dX11_act_74 rfl (lv_at hl 0 rfl) ?_
          refine ldI hx hb hE hP 24 rfl (vp_in_iff.mpr ⟨by omega, by omega⟩) rfl rfl dX11_act_75 ?_
          refine lv_topi (fun t16 et16 => ?_)
          have zt16 : l1_2.toInt.toNat % 39 < 6 ∨ 12 ≤ l1_2.toInt.toNat % 39 ∨ (-1 ≤ t16.toInt ∧ t16.toInt ≤ 5) := by rw [et16]; exact wear_ld hCf2.1 (show l1_2.toInt.toNat < 39 by omega)
          refine stI hx hb hE hP hD hS 26 rfl (vp_in_iff.mpr ⟨by omega, by omega⟩) rfl dX11_act_76 (fun H locs hP hD hS => ?_)
          obtain ⟨f17, ef17, hP, hD⟩ : ∃ fz9, fz9 = upd2 f2 25 (upd (f2 25) t13.toNatClampNeg t16) ∧ va_P (dC, dI) vwCl (YW cy y0 r v2 fz9 w2 g2) H ∧ va_D A (YW cy y0 r v2 fz9 w2 g2) := ⟨_, rfl, hP, hD⟩
          have hCf17 : YC f17 := by rw [ef17]; exact ⟨hCf2.1, hCf2.2.1, (wear_st hCf2.2.2.1 (by show t13.toInt.toNat % 39 < 6 ∨ 12 ≤ t13.toInt.toNat % 39 ∨ (-1 ≤ t16.toInt ∧ t16.toInt ≤ 5); omega)), hCf2.2.2.2.1, hCf2.2.2.2.2.1, hCf2.2.2.2.2.2⟩
          have hRf17 : progOK (f17 4) (f17 5) (v2 9).toInt.toNat := by rw [ef17]; exact hRf2
          have hA_f17 : KF [24, 25] f17 f := by rw [ef17]; exact KF.up hA_f2 rfl
          obtain ⟨t18, et18⟩ : ∃ y : Int32, y = l1_2 + 1 := ⟨_, rfl⟩
          have zt18 : t18.toInt = l1_2.toInt + 1 := by rw [et18]; exact add_i rfl (by decide) (by omega) (by omega)
          refine lv_iinc (v := t18) (lv' := [(1, .int t18), (0, .ref y0)]) hx hb dX11_act_77 hl (k := 0) rfl (by rw [et18]; rfl) (by decide) rfl (fun ls hl => ?_)
          refine lv_goto (tgt := 51) hx hb dX11_act_80 (by decide) ?_
          have rg19 := fb_rng t18
          exact ih2 t18 v2 f17 w2 g2 hIv2 hCf17 hRf17 hq0_v2 hq1_v2 hq2_v2 hq3_v2 hq4_v2 hq5_v2 hq8_v2 hq9_v2 hq10_v2 hq13_v2 hq14_v2 hq15_v2 hq17_v2 hq18_v2 hq24_v2 hq25_v2 hq35_v2 hq36_v2 hq38_v2 hq39_v2 ((gsY_X11_act_1_q1 c3 et11 et13 et16 ef17 et18).symm.trans hT2) ⟨show (0 : Int) ≤ t18.toInt by omega, show t18.toInt ≤ (2147483647 : Int) by omega⟩ hM_v2 hA_f17 (by show (2147483647 - t18.toInt).toNat < n2; omega) _ _ _ hP hD hS (lv_sub hl [0, 1] rfl)
    exact lp2 (4294967296 + NF) 0 v f w g hIv hCf hRf rfl rfl rfl rfl rfl rfl rfl rfl rfl rfl rfl rfl rfl rfl rfl rfl rfl rfl rfl rfl (gsY_X11_act_1_q2 c1).symm ⟨by decide, by decide⟩ hM_v hA_f (by have q1 : (0 : Int32).toInt = 0 := (by decide); show (2147483647 - (0 : Int32).toInt).toNat < 4294967296 + NF; omega) _ _ _ hP hD hS (lv_sub hl [0, 1] rfl)
  · skip
    have zc1 : (v 35).toInt = 40 := by rw [fa_eq, show (40 : Int32).toInt = 40 from by decide] at c1; exact c1
    refine lv_iconst (v := 0) hx hb dX11_act_9 (by decide) ?_
    refine lv_istore_n (lv' := [(1, .int 0), (0, .ref y0)]) hx hb dX11_act_10 rfl hl (by decide) rfl (fun ls hl => ?_)
    have lp20 : ∀ (n20 : Nat) (l1_20 : Int32) (v20 : Nat → Int32) (f20 : Nat → Nat → Int32) (w20 : Int64) (g20 : Nat → Int64), YI v20 → YC f20 → progOK (f20 4) (f20 5) (v20 9).toInt.toNat → v20 0 = (v 0) → v20 1 = (v 1) → v20 2 = (v 2) → v20 3 = (v 3) → v20 4 = (v 4) → v20 5 = (v 5) → v20 8 = (v 8) → v20 9 = (v 9) → v20 10 = (v 10) → v20 13 = (v 13) → v20 14 = (v 14) → v20 15 = (v 15) → v20 17 = (v 17) → v20 18 = (v 18) → v20 24 = (v 24) → v20 25 = (v 25) → v20 35 = (v 35) → v20 36 = (v 36) → v20 38 = (v 38) → v20 39 = (v 39) → gsY_X11_act_1_L20 NF v n20 l1_20 v20 f20 w20 g20 = (gsY_X11_act_1 NF v f w g) → ((0 : Int) ≤ l1_20.toInt ∧ l1_20.toInt ≤ 2147483647) → KV [35, 36] v20 v → KF [24, 25] f20 f → (2147483647 - l1_20.toInt).toNat < n20 → ∀ (H : Heap) (locs : List Loc) (ls : Array Slot), va_P (dC, dI) vwCl (YW cy y0 r v20 f20 w20 g20) H → va_D A (YW cy y0 r v20 f20 w20 g20) → va_S A s.heap H locs → lv_has ls 2 [(1, .int l1_20), (0, .ref y0)] → W p l e { frames := 2, cells := 0, slots := 0, locals := 81 } s m ([.ref y0] : List Value).toArray below meth c H locs 0 0 Q (F0 m 11 ls []) := by
      intro n20
      induction n20 with
      | zero => intro l1_20 v20 f20 w20 g20 hIv20 hCf20 hRf20 hq0_v20 hq1_v20 hq2_v20 hq3_v20 hq4_v20 hq5_v20 hq8_v20 hq9_v20 hq10_v20 hq13_v20 hq14_v20 hq15_v20 hq17_v20 hq18_v20 hq24_v20 hq25_v20 hq35_v20 hq36_v20 hq38_v20 hq39_v20 hT20 hr1_20 hM_v20 hA_f20 hm; exact absurd hm (Nat.not_lt_zero _)
      | succ n20 ih20 =>
        intro l1_20 v20 f20 w20 g20 hIv20 hCf20 hRf20 hq0_v20 hq1_v20 hq2_v20 hq3_v20 hq4_v20 hq5_v20 hq8_v20 hq9_v20 hq10_v20 hq13_v20 hq14_v20 hq15_v20 hq17_v20 hq18_v20 hq24_v20 hq25_v20 hq35_v20 hq36_v20 hq38_v20 hq39_v20 hT20 hr1_20 hM_v20 hA_f20 hm20 H locs ls hP hD hS hl
        have hUv20 : (v20 35).toInt + (v20 36).toInt ≤ 40 := hIv20.2
        have zq9_v20 := congrArg Int32.toInt hq9_v20
        have zq35_v20 := congrArg Int32.toInt hq35_v20
        have zq36_v20 := congrArg Int32.toInt hq36_v20
        refine lv_iload_n hx hb dX11_act_11 rfl (lv_at hl 0 rfl) ?_
        refine lv_sipush (v := 1521) hx hb dX11_act_12 (by decide) ?_
        refine lv_icmp_ge (tgt := 39) hx hb dX11_act_15 (by decide) (fun c21 => ?_) (fun c21 => ?_)
        · skip
          have zc21 : 1521 ≤ l1_20.toInt := by rw [fa_le, show (1521 : Int32).toInt = 1521 from by decide] at c21; exact c21
          refine lv_aload_n hx hb dX11_act_39 rfl (lv_at hl 1 rfl) ?_
          refine lv_dup hx hb dX11_act_40 rfl ?_
          refine va_get (D := (dC, dI)) (ci := 11) (v := .int (v20 35)) (C := RX11) (T := TX11) (N := 79) hx hb hts inB_11 hown hE.1 hP 0 rfl rfl 62 (by decide) (hts _ k_1382) (fun _ h9 => h9) rfl dX11_act_41 ?_
          refine tI (y := (v 35)) hq35_v20 ?_
          have b35_v : 0 ≤ (v 35).toInt ∧ (v 35).toInt ≤ 40 := YIb.b hIv.1 35 (by decide)
          refine lv_iconst (v := 1) hx hb dX11_act_44 (by decide) ?_
          refine lv_isub hx hb dX11_act_45 ?_
          refine lv_topi (fun t22 et22 => ?_)
          have rg23 := fb_rng (v 35)
          have zt22 : t22.toInt = (v 35).toInt - 1 := by rw [et22]; exact sub_i rfl (by decide) (by omega) (by omega)
          refine va_put (D := (dC, dI)) (ci := 11) (v := .int t22) (ty := tyX11 62) (C := RX11) (T := TX11) (N := 79) hx hb hts inB_11 tyX11 tyX11_ok nmX11 hown hE.1 hP hD hS 0 rfl rfl 62 (by decide) (hts _ k_1382) (fun _ h9 => h9) rfl (tyX11_ok 62 (by decide)) rfl rfl (Nat.le_of_ble_eq_true rfl) dX11_act_46 (fun H locs hP hD hS => ?_)
          have hP : va_P (dC, dI) vwCl (YW cy y0 r (upd v20 35 t22) f20 w20 g20) H := hP
          have hD : va_D A (YW cy y0 r (upd v20 35 t22) f20 w20 g20) := hD
          refine lv_iconst (v := 0) hx hb dX11_act_49 (by decide) ?_
          refine lv_istore_n (lv' := [(1, .int 0), (0, .ref y0)]) hx hb dX11_act_50 rfl hl (by decide) rfl (fun ls hl => ?_)
          have lp24 : ∀ (n24 : Nat) (l1_24 : Int32) (v24 : Nat → Int32) (f24 : Nat → Nat → Int32) (w24 : Int64) (g24 : Nat → Int64), YI v24 → YC f24 → progOK (f24 4) (f24 5) (v24 9).toInt.toNat → v24 0 = (v 0) → v24 1 = (v 1) → v24 2 = (v 2) → v24 3 = (v 3) → v24 4 = (v 4) → v24 5 = (v 5) → v24 8 = (v 8) → v24 9 = (v 9) → v24 10 = (v 10) → v24 13 = (v 13) → v24 14 = (v 14) → v24 15 = (v 15) → v24 17 = (v 17) → v24 18 = (v 18) → v24 24 = (v 24) → v24 25 = (v 25) → v24 35 = t22 → v24 36 = (v 36) → v24 38 = (v 38) → v24 39 = (v 39) → gsY_X11_act_1_L24 NF t22 n24 l1_24 v24 f24 w24 g24 = (gsY_X11_act_1 NF v f w g) → ((0 : Int) ≤ l1_24.toInt ∧ l1_24.toInt ≤ 2147483647) → KV [35, 36] v24 v → KF [24, 25] f24 f → (2147483647 - l1_24.toInt).toNat < n24 → ∀ (H : Heap) (locs : List Loc) (ls : Array Slot), va_P (dC, dI) vwCl (YW cy y0 r v24 f24 w24 g24) H → va_D A (YW cy y0 r v24 f24 w24 g24) → va_S A s.heap H locs → lv_has ls 2 [(1, .int l1_24), (0, .ref y0)] → W p l e { frames := 2, cells := 0, slots := 0, locals := 81 } s m ([.ref y0] : List Value).toArray below meth c H locs 0 0 Q (F0 m 51 ls []) := by
            intro n24
            induction n24 with
            | zero => intro l1_24 v24 f24 w24 g24 hIv24 hCf24 hRf24 hq0_v24 hq1_v24 hq2_v24 hq3_v24 hq4_v24 hq5_v24 hq8_v24 hq9_v24 hq10_v24 hq13_v24 hq14_v24 hq15_v24 hq17_v24 hq18_v24 hq24_v24 hq25_v24 hq35_v24 hq36_v24 hq38_v24 hq39_v24 hT24 hr1_24 hM_v24 hA_f24 hm; exact absurd hm (Nat.not_lt_zero _)
            | succ n24 ih24 =>
              intro l1_24 v24 f24 w24 g24 hIv24 hCf24 hRf24 hq0_v24 hq1_v24 hq2_v24 hq3_v24 hq4_v24 hq5_v24 hq8_v24 hq9_v24 hq10_v24 hq13_v24 hq14_v24 hq15_v24 hq17_v24 hq18_v24 hq24_v24 hq25_v24 hq35_v24 hq36_v24 hq38_v24 hq39_v24 hT24 hr1_24 hM_v24 hA_f24 hm24 H locs ls hP hD hS hl
              have hUv24 : (v24 35).toInt + (v24 36).toInt ≤ 40 := hIv24.2
              have zq9_v24 := congrArg Int32.toInt hq9_v24
              have zq35_v24 := congrArg Int32.toInt hq35_v24
              have zq36_v24 := congrArg Int32.toInt hq36_v24
              refine lv_iload_n hx hb dX11_act_51 rfl (lv_at hl 0 rfl) ?_
              refine lv_bipush (v := 39) hx hb dX11_act_52 (by decide) ?_
              refine lv_icmp_ge (tgt := 83) hx hb dX11_act_54 (by decide) (fun c25 => ?_) (fun c25 => ?_)
              · skip
                have zc25 : 39 ≤ l1_24.toInt := by rw [fa_le, show (39 : Int32).toInt = 39 from by decide] at c25; exact c25
                refine lv_aload_n hx hb dX11_act_83 rfl (lv_at hl 1 rfl) ?_
                refine lv_dup hx hb dX11_act_84 rfl ?_
                refine va_get (D := (dC, dI)) (ci := 11) (v := .int (v24 35)) (C := RX11) (T := TX11) (N := 79) hx hb hts inB_11 hown hE.1 hP 0 rfl rfl 62 (by decide) (hts _ k_1382) (fun _ h9 => h9) rfl dX11_act_85 ?_
                refine tI (y := t22) hq35_v24 ?_
                refine lv_iconst (v := 1) hx hb dX11_act_88 (by decide) ?_
                refine lv_iadd hx hb dX11_act_89 ?_
                refine lv_topi (fun t26 et26 => ?_)
                have rg27 := fb_rng t22
                have zt26 : t26.toInt = t22.toInt + 1 := by rw [et26]; exact add_i rfl (by decide) (by omega) (by omega)
                refine va_put (D := (dC, dI)) (ci := 11) (v := .int t26) (ty := tyX11 62) (C := RX11) (T := TX11) (N := 79) hx hb hts inB_11 tyX11 tyX11_ok nmX11 hown hE.1 hP hD hS 0 rfl rfl 62 (by decide) (hts _ k_1382) (fun _ h9 => h9) rfl (tyX11_ok 62 (by decide)) rfl rfl (Nat.le_of_ble_eq_true rfl) dX11_act_90 (fun H locs hP hD hS => ?_)
                have hP : va_P (dC, dI) vwCl (YW cy y0 r (upd v24 35 t26) f24 w24 g24) H := hP
                have hD : va_D A (YW cy y0 r (upd v24 35 t26) f24 w24 g24) := hD
                refine lv_aload_n hx hb dX11_act_93 rfl (lv_at hl 1 rfl) ?_
                refine lv_iconst (v := 0) hx hb dX11_act_94 (by decide) ?_
                refine va_put (D := (dC, dI)) (ci := 11) (v := .int 0) (ty := tyX11 63) (C := RX11) (T := TX11) (N := 79) hx hb hts inB_11 tyX11 tyX11_ok nmX11 hown hE.1 hP hD hS 0 rfl rfl 63 (by decide) (hts _ k_1383) (fun _ h9 => h9) rfl (tyX11_ok 63 (by decide)) rfl rfl (Nat.le_of_ble_eq_true rfl) dX11_act_95 (fun H locs hP hD hS => ?_)
                have hP : va_P (dC, dI) vwCl (YW cy y0 r (upd (upd v24 35 t26) 36 0) f24 w24 g24) H := hP
                have hD : va_D A (YW cy y0 r (upd (upd v24 35 t26) 36 0) f24 w24 g24) := hD
                refine lv_aload_n hx hb dX11_act_98 rfl (lv_at hl 1 rfl) ?_
                refine cbVv (n := 0) (rest := []) hx hb hml hown hts hE hP hD hS hA (sY_X11_fill_1 NF l dC dI cy y0 r  (upd (upd v24 35 t26) 36 0) f24 w24 g24 ⟨(YIb.upd (j := 36) (x := 0) (YIb.upd (j := 35) (x := t26) hIv24.1 (show (0 : Int) ≤ t26.toInt by omega) (show t26.toInt ≤ (40 : Int) by omega)) (by decide) (by decide)), (by have q9 := hIv24.2; have q0 : (0 : Int32).toInt = 0 := (by decide); show t26.toInt + (0 : Int32).toInt ≤ 40; omega)⟩ hCf24 hRf24 ) k_1739 k_1741 k_71 k_114 k_1742 (by decide +kernel) ⟨Nat.le_of_ble_eq_true rfl, Nat.le_of_ble_eq_true rfl⟩ 0 11 rfl rfl (rfl) hl.1 rfl (Nat.le_of_ble_eq_true rfl) dX11_act_99 (fun u H locs hw hP hD hS => ?_)
                obtain ⟨hG28, hw⟩ := hw
                obtain ⟨v29, f30, w31, g32⟩ := u
                obtain ⟨kV_v29, kF_f30, hIv29, hCf30, hRf30, hk0_v29, hk1_v29, hk2_v29, hk3_v29, hk4_v29, hk5_v29, hk8_v29, hk9_v29, hk10_v29, hk13_v29, hk14_v29, hk15_v29, hk17_v29, hk18_v29, hk24_v29, hk25_v29, hk35_v29, hk36_v29, hk38_v29, hk39_v29⟩ := hw
                have hM_v29 : KV [35, 36] v29 v := KV.tr kV_v29 (KV.up (j := 36) (x := 0) (KV.up (j := 35) (x := t26) hM_v24 rfl) rfl) rfl
                have hA_f30 : KF [24, 25] f30 f := KF.tr kF_f30 hA_f24 rfl
                have hP : va_P (dC, dI) vwCl (YW cy y0 r v29 f30 w31 g32) H := hP
                have hD : va_D A (YW cy y0 r v29 f30 w31 g32) := hD
                have hUv29 : (v29 35).toInt + (v29 36).toInt ≤ 40 := hIv29.2
                have hq9_v29 : v29 9 = (v 9) := hk9_v29.trans hq9_v24
                have zq9_v29 := congrArg Int32.toInt hq9_v29
                have hq35_v29 : v29 35 = t26 := hk35_v29
                have zq35_v29 := congrArg Int32.toInt hq35_v29
                have hq36_v29 : v29 36 = 0 := hk36_v29
                have zq36_v29 := congrArg Int32.toInt hq36_v29
                exact ret (v29, f30, w31, g32) _ _ _ _ _ _ ⟨(hT24.symm.trans (gsY_X11_act_1_q3 c25 et26 hG28)), hM_v29, hA_f30, hIv29, hCf30, hRf30, (hk0_v29.trans hq0_v24), (hk1_v29.trans hq1_v24), (hk2_v29.trans hq2_v24), (hk3_v29.trans hq3_v24), (hk4_v29.trans hq4_v24), (hk5_v29.trans hq5_v24), (hk8_v29.trans hq8_v24), (hk9_v29.trans hq9_v24), (hk10_v29.trans hq10_v24), (hk13_v29.trans hq13_v24), (hk14_v29.trans hq14_v24), (hk15_v29.trans hq15_v24), (hk17_v29.trans hq17_v24), (hk18_v29.trans hq18_v24), (hk24_v29.trans hq24_v24), (hk25_v29.trans hq25_v24), (hk38_v29.trans hq38_v24), (hk39_v29.trans hq39_v24)⟩ hP hD hS dX11_act_102 (Nat.le_refl _) (Nat.le_refl _)
              · skip
                have zc25 : ¬ (39 ≤ l1_24.toInt) := by rw [fa_le, show (39 : Int32).toInt = 39 from by decide] at c25; exact c25
                refine lv_aload_n hx hb dX11_act_57 rfl (lv_at hl 1 rfl) ?_
                refine va_get (D := (dC, dI)) (ci := 11) (v := .ref (r 61)) (C := RX11) (T := TX11) (N := 79) hx hb hts inB_11 hown hE.1 hP 0 rfl rfl 61 (by decide) (hts _ k_1381) (fun _ h9 => h9) rfl dX11_act_58 ?_
                refine lv_bipush (v := 39) hx hb dX11_act_61 (by decide) ?_
                refine lv_aload_n hx hb dX11_act_63 rfl (lv_at hl 1 rfl) ?_
                refine va_get (D := (dC, dI)) (ci := 11) (v := .int (v24 35)) (C := RX11) (T := TX11) (N := 79) hx hb hts inB_11 hown hE.1 hP 0 rfl rfl 62 (by decide) (hts _ k_1382) (fun _ h9 => h9) rfl dX11_act_64 ?_
                refine tI (y := t22) hq35_v24 ?_
                refine lv_imul hx hb dX11_act_67 ?_
                refine lv_topi (fun t33 et33 => ?_)
                have rg34 := fb_rng t22
                have zt33 : t33.toInt = 39 * t22.toInt := by rw [et33]; exact mul_i (by decide) rfl (by omega) (by omega)
                refine lv_iload_n hx hb dX11_act_68 rfl (lv_at hl 0 rfl) ?_
                refine lv_iadd hx hb dX11_act_69 ?_
                refine lv_topi (fun t35 et35 => ?_)
                have rg36 := fb_rng t33
                have rg37 := fb_rng l1_24
                have zt35 : t35.toInt = t33.toInt + l1_24.toInt := by rw [et35]; exact add_i rfl rfl (by omega) (by omega)
                refine lv_aload_n hx hb dX11_act_70 rfl (lv_at hl 1 rfl) ?_
                refine va_get (D := (dC, dI)) (ci := 11) (v := .ref (r 59)) (C := RX11) (T := TX11) (N := 79) hx hb hts inB_11 hown hE.1 hP 0 rfl rfl 59 (by decide) (hts _ k_1379) (fun _ h9 => h9) rfl dX11_act_71 ?_
                refine lv_iload_n hx hb dX11_act_74 rfl (lv_at hl 0 rfl) ?_
                refine ldI hx hb hE hP 24 rfl (vp_in_iff.mpr ⟨by omega, by omega⟩) rfl rfl dX11_act_75 ?_
                refine lv_topi (fun t38 et38 => ?_)
                have zt38 : l1_24.toInt.toNat % 39 < 6 ∨ 12 ≤ l1_24.toInt.toNat % 39 ∨ (-1 ≤ t38.toInt ∧ t38.toInt ≤ 5) := by rw [et38]; exact wear_ld hCf24.1 (show l1_24.toInt.toNat < 39 by omega)
                refine stI hx hb hE hP hD hS 26 rfl (vp_in_iff.mpr ⟨by omega, by omega⟩) rfl dX11_act_76 (fun H locs hP hD hS => ?_)
                obtain ⟨f39, ef39, hP, hD⟩ : ∃ fz9, fz9 = upd2 f24 25 (upd (f24 25) t35.toNatClampNeg t38) ∧ va_P (dC, dI) vwCl (YW cy y0 r v24 fz9 w24 g24) H ∧ va_D A (YW cy y0 r v24 fz9 w24 g24) := ⟨_, rfl, hP, hD⟩
                have hCf39 : YC f39 := by rw [ef39]; exact ⟨hCf24.1, hCf24.2.1, (wear_st hCf24.2.2.1 (by show t35.toInt.toNat % 39 < 6 ∨ 12 ≤ t35.toInt.toNat % 39 ∨ (-1 ≤ t38.toInt ∧ t38.toInt ≤ 5); omega)), hCf24.2.2.2.1, hCf24.2.2.2.2.1, hCf24.2.2.2.2.2⟩
                have hRf39 : progOK (f39 4) (f39 5) (v24 9).toInt.toNat := by rw [ef39]; exact hRf24
                have hA_f39 : KF [24, 25] f39 f := by rw [ef39]; exact KF.up hA_f24 rfl
                obtain ⟨t40, et40⟩ : ∃ y : Int32, y = l1_24 + 1 := ⟨_, rfl⟩
                have zt40 : t40.toInt = l1_24.toInt + 1 := by rw [et40]; exact add_i rfl (by decide) (by omega) (by omega)
                refine lv_iinc (v := t40) (lv' := [(1, .int t40), (0, .ref y0)]) hx hb dX11_act_77 hl (k := 0) rfl (by rw [et40]; rfl) (by decide) rfl (fun ls hl => ?_)
                refine lv_goto (tgt := 51) hx hb dX11_act_80 (by decide) ?_
                have rg41 := fb_rng t40
                exact ih24 t40 v24 f39 w24 g24 hIv24 hCf39 hRf39 hq0_v24 hq1_v24 hq2_v24 hq3_v24 hq4_v24 hq5_v24 hq8_v24 hq9_v24 hq10_v24 hq13_v24 hq14_v24 hq15_v24 hq17_v24 hq18_v24 hq24_v24 hq25_v24 hq35_v24 hq36_v24 hq38_v24 hq39_v24 ((gsY_X11_act_1_q4 c25 et33 et35 et38 ef39 et40).symm.trans hT24) ⟨show (0 : Int) ≤ t40.toInt by omega, show t40.toInt ≤ (2147483647 : Int) by omega⟩ hM_v24 hA_f39 (by show (2147483647 - t40.toInt).toNat < n24; omega) _ _ _ hP hD hS (lv_sub hl [0, 1] rfl)
          exact lp24 (4294967296 + NF) 0 (upd v20 35 t22) f20 w20 g20 ⟨(YIb.upd (j := 35) (x := t22) hIv20.1 (show (0 : Int) ≤ t22.toInt by omega) (show t22.toInt ≤ (40 : Int) by omega)), (by have q9 := hIv20.2; show t22.toInt + (v20 36).toInt ≤ 40; omega)⟩ hCf20 hRf20 hq0_v20 hq1_v20 hq2_v20 hq3_v20 hq4_v20 hq5_v20 hq8_v20 hq9_v20 hq10_v20 hq13_v20 hq14_v20 hq15_v20 hq17_v20 hq18_v20 hq24_v20 hq25_v20 rfl hq36_v20 hq38_v20 hq39_v20 ((gsY_X11_act_1_q5 c21 et22).symm.trans hT20) ⟨by decide, by decide⟩ (KV.up (j := 35) (x := t22) hM_v20 rfl) hA_f20 (by have q1 : (0 : Int32).toInt = 0 := (by decide); show (2147483647 - (0 : Int32).toInt).toNat < 4294967296 + NF; omega) _ _ _ hP hD hS (lv_sub hl [0, 1] rfl)
        · skip
          have zc21 : ¬ (1521 ≤ l1_20.toInt) := by rw [fa_le, show (1521 : Int32).toInt = 1521 from by decide] at c21; exact c21
          refine lv_aload_n hx hb dX11_act_18 rfl (lv_at hl 1 rfl) ?_
          refine va_get (D := (dC, dI)) (ci := 11) (v := .ref (r 61)) (C := RX11) (T := TX11) (N := 79) hx hb hts inB_11 hown hE.1 hP 0 rfl rfl 61 (by decide) (hts _ k_1381) (fun _ h9 => h9) rfl dX11_act_19 ?_
          refine lv_iload_n hx hb dX11_act_22 rfl (lv_at hl 0 rfl) ?_
          refine lv_aload_n hx hb dX11_act_23 rfl (lv_at hl 1 rfl) ?_
          refine va_get (D := (dC, dI)) (ci := 11) (v := .ref (r 61)) (C := RX11) (T := TX11) (N := 79) hx hb hts inB_11 hown hE.1 hP 0 rfl rfl 61 (by decide) (hts _ k_1381) (fun _ h9 => h9) rfl dX11_act_24 ?_
          refine lv_bipush (v := 39) hx hb dX11_act_27 (by decide) ?_
          refine lv_iload_n hx hb dX11_act_29 rfl (lv_at hl 0 rfl) ?_
          refine lv_iadd hx hb dX11_act_30 ?_
          refine lv_topi (fun t42 et42 => ?_)
          have rg43 := fb_rng l1_20
          have zt42 : t42.toInt = 39 + l1_20.toInt := by rw [et42]; exact add_i (by decide) rfl (by omega) (by omega)
          refine ldI hx hb hE hP 26 rfl (vp_in_iff.mpr ⟨by omega, by omega⟩) rfl rfl dX11_act_31 ?_
          refine lv_topi (fun t44 et44 => ?_)
          have zt44 : t42.toInt.toNat % 39 < 6 ∨ 12 ≤ t42.toInt.toNat % 39 ∨ (-1 ≤ t44.toInt ∧ t44.toInt ≤ 5) := by rw [et44]; exact wear_ld hCf20.2.2.1 (show t42.toInt.toNat < 1560 by omega)
          refine stI hx hb hE hP hD hS 26 rfl (vp_in_iff.mpr ⟨by omega, by omega⟩) rfl dX11_act_32 (fun H locs hP hD hS => ?_)
          obtain ⟨f45, ef45, hP, hD⟩ : ∃ fz9, fz9 = upd2 f20 25 (upd (f20 25) l1_20.toNatClampNeg t44) ∧ va_P (dC, dI) vwCl (YW cy y0 r v20 fz9 w20 g20) H ∧ va_D A (YW cy y0 r v20 fz9 w20 g20) := ⟨_, rfl, hP, hD⟩
          have hCf45 : YC f45 := by rw [ef45]; exact ⟨hCf20.1, hCf20.2.1, (wear_st hCf20.2.2.1 (by show l1_20.toInt.toNat % 39 < 6 ∨ 12 ≤ l1_20.toInt.toNat % 39 ∨ (-1 ≤ t44.toInt ∧ t44.toInt ≤ 5); omega)), hCf20.2.2.2.1, hCf20.2.2.2.2.1, hCf20.2.2.2.2.2⟩
          have hRf45 : progOK (f45 4) (f45 5) (v20 9).toInt.toNat := by rw [ef45]; exact hRf20
          have hA_f45 : KF [24, 25] f45 f := by rw [ef45]; exact KF.up hA_f20 rfl
          obtain ⟨t46, et46⟩ : ∃ y : Int32, y = l1_20 + 1 := ⟨_, rfl⟩
          have zt46 : t46.toInt = l1_20.toInt + 1 := by rw [et46]; exact add_i rfl (by decide) (by omega) (by omega)
          refine lv_iinc (v := t46) (lv' := [(1, .int t46), (0, .ref y0)]) hx hb dX11_act_33 hl (k := 0) rfl (by rw [et46]; rfl) (by decide) rfl (fun ls hl => ?_)
          refine lv_goto (tgt := 11) hx hb dX11_act_36 (by decide) ?_
          have rg47 := fb_rng t46
          exact ih20 t46 v20 f45 w20 g20 hIv20 hCf45 hRf45 hq0_v20 hq1_v20 hq2_v20 hq3_v20 hq4_v20 hq5_v20 hq8_v20 hq9_v20 hq10_v20 hq13_v20 hq14_v20 hq15_v20 hq17_v20 hq18_v20 hq24_v20 hq25_v20 hq35_v20 hq36_v20 hq38_v20 hq39_v20 ((gsY_X11_act_1_q6 c21 et42 et44 ef45 et46).symm.trans hT20) ⟨show (0 : Int) ≤ t46.toInt by omega, show t46.toInt ≤ (2147483647 : Int) by omega⟩ hM_v20 hA_f45 (by show (2147483647 - t46.toInt).toNat < n20; omega) _ _ _ hP hD hS (lv_sub hl [0, 1] rfl)
    exact lp20 (4294967296 + NF) 0 v f w g hIv hCf hRf rfl rfl rfl rfl rfl rfl rfl rfl rfl rfl rfl rfl rfl rfl rfl rfl rfl rfl rfl rfl (gsY_X11_act_1_q7 c1).symm ⟨by decide, by decide⟩ hM_v hA_f (by have q1 : (0 : Int32).toInt = 0 := (by decide); show (2147483647 - (0 : Int32).toInt).toNat < 4294967296 + NF; omega) _ _ _ hP hD hS (lv_sub hl [0, 1] rfl)
set_option maxHeartbeats 4000000 in
set_option maxRecDepth 100000 in
theorem sY_X11_drawRain_1 (NF : Nat) (l : Launch) (dC : Nat → ClassId) (dI : Nat → Nat → Nat) (cy : Nat → ClassId) (y0 : Nat) (r : Nat → Nat)  (v : Nat → Int32) (f : Nat → Nat → Int32) (w : Int64) (g : Nat → Int64) (hIv : YI v) (hCf : YC f) (hRf : progOK (f 4) (f 5) (v 9).toInt.toNat)  : ctI l (dC, dI) cy yX11_drawRain cX11_drawRain 1 .boolean 1 60 0 0 ((Nat → Int32) × (Nat → Nat → Int32) × (Int64) × (Nat → Int64)) [.ref y0] (YW cy y0 r v f w g) (fun r u => gsY_X11_drawRain_1 NF v f w g = (r, u) ∧ KV [] u.1 v ∧ KF [24] u.2.1 f ∧ YI u.1 ∧ YC u.2.1 ∧ progOK (u.2.1 4) (u.2.1 5) (u.1 9).toInt.toNat ∧ u.1 0 = v 0 ∧ u.1 1 = v 1 ∧ u.1 2 = v 2 ∧ u.1 3 = v 3 ∧ u.1 4 = v 4 ∧ u.1 5 = v 5 ∧ u.1 8 = v 8 ∧ u.1 9 = v 9 ∧ u.1 10 = v 10 ∧ u.1 13 = v 13 ∧ u.1 14 = v 14 ∧ u.1 15 = v 15 ∧ u.1 17 = v 17 ∧ u.1 18 = v 18 ∧ u.1 24 = v 24 ∧ u.1 25 = v 25 ∧ u.1 35 = v 35 ∧ u.1 36 = v 36 ∧ u.1 38 = v 38 ∧ u.1 39 = v 39 ∧ ((r = 1) ∨ (r = 0))) (fun u => YW cy y0 r u.1 u.2.1 u.2.2.1 u.2.2.2) := by
  refine ctI_of (by decide) (Nat.le_of_ble_eq_true rfl) (fun p e s m below meth c A ls Q hx hb hml hts hown hE hP hD hA hl ret => ?_)
  have hUv : (v 35).toInt + (v 36).toInt ≤ 40 := hIv.2
  have hM_v : KV [] v v := fun _ _ => rfl
  have hA_f : KF [24] f f := fun _ _ => rfl
  have hown : s.vm.findClass RX11 = some m.cls := hown
  have hS : va_S A s.heap s.heap [] := va_S.rf
  have hl : lv_has ls 1 [(0, .ref y0)] := hl
  refine lv_aload_n hx hb dX11_drawRain_0 rfl (lv_at hl 0 rfl) ?_
  refine va_get (D := (dC, dI)) (ci := 11) (v := .ref (r 60)) (C := RX11) (T := TX11) (N := 79) hx hb hts inB_11 hown hE.1 hP 0 rfl rfl 60 (by decide) (hts _ k_1380) (fun _ h9 => h9) rfl dX11_drawRain_1 ?_
  refine lv_bipush (v := 38) hx hb dX11_drawRain_4 (by decide) ?_
  refine lv_aload_n hx hb dX11_drawRain_6 rfl (lv_at hl 0 rfl) ?_
  refine va_get (D := (dC, dI)) (ci := 11) (v := .ref (r 60)) (C := RX11) (T := TX11) (N := 79) hx hb hts inB_11 hown hE.1 hP 0 rfl rfl 60 (by decide) (hts _ k_1380) (fun _ h9 => h9) rfl dX11_drawRain_7 ?_
  refine lv_bipush (v := 38) hx hb dX11_drawRain_10 (by decide) ?_
  refine ldI hx hb hE hP 25 rfl (vp_in_nI (n := 38) (by decide) (by decide)) rfl rfl dX11_drawRain_12 ?_
  refine lv_topi (fun t1 et1 => ?_)
  have zt1 : 38 % 39 < 6 ∨ 12 ≤ 38 % 39 ∨ (-1 ≤ t1.toInt ∧ t1.toInt ≤ 5) := by rw [et1]; exact wear_ld hCf.2.1 (show 38 < 39 by omega)
  refine lv_sipush (v := 137) hx hb dX11_drawRain_13 (by decide) ?_
  refine lv_imul hx hb dX11_drawRain_16 ?_
  refine lv_topi (fun t2 et2 => ?_)
  refine lv_bipush (v := 71) hx hb dX11_drawRain_17 (by decide) ?_
  refine lv_iadd hx hb dX11_drawRain_19 ?_
  refine lv_topi (fun t3 et3 => ?_)
  refine lv_sipush (v := 1000) hx hb dX11_drawRain_20 (by decide) ?_
  refine lv_irem hx hb dX11_drawRain_23 (by decide) ?_
  refine lv_topi (fun t4 et4 => ?_)
  refine stI hx hb hE hP hD hS 25 rfl (vp_in_nI (n := 38) (by decide) (by decide)) rfl dX11_drawRain_24 (fun H locs hP hD hS => ?_)
  obtain ⟨f5, ef5, hP, hD⟩ : ∃ fz9, fz9 = upd2 f 24 (upd (f 24) (38 : Int32).toNatClampNeg t4) ∧ va_P (dC, dI) vwCl (YW cy y0 r v fz9 w g) H ∧ va_D A (YW cy y0 r v fz9 w g) := ⟨_, rfl, hP, hD⟩
  have hCf5 : YC f5 := by rw [ef5]; exact ⟨hCf.1, (wear_st hCf.2.1 (by show 38 % 39 < 6 ∨ 12 ≤ 38 % 39 ∨ (-1 ≤ t4.toInt ∧ t4.toInt ≤ 5); omega)), hCf.2.2.1, hCf.2.2.2.1, hCf.2.2.2.2.1, hCf.2.2.2.2.2⟩
  have hRf5 : progOK (f5 4) (f5 5) (v 9).toInt.toNat := by rw [ef5]; exact hRf
  have hA_f5 : KF [24] f5 f := by rw [ef5]; exact KF.up hA_f rfl
  refine lv_aload_n hx hb dX11_drawRain_25 rfl (lv_at hl 0 rfl) ?_
  refine va_get (D := (dC, dI)) (ci := 11) (v := .ref (r 60)) (C := RX11) (T := TX11) (N := 79) hx hb hts inB_11 hown hE.1 hP 0 rfl rfl 60 (by decide) (hts _ k_1380) (fun _ h9 => h9) rfl dX11_drawRain_26 ?_
  refine lv_bipush (v := 38) hx hb dX11_drawRain_29 (by decide) ?_
  refine ldI hx hb hE hP 25 rfl (vp_in_nI (n := 38) (by decide) (by decide)) rfl rfl dX11_drawRain_31 ?_
  refine lv_topi (fun t6 et6 => ?_)
  have zt6 : 38 % 39 < 6 ∨ 12 ≤ 38 % 39 ∨ (-1 ≤ t6.toInt ∧ t6.toInt ≤ 5) := by rw [et6]; exact wear_ld hCf5.2.1 (show 38 < 39 by omega)
  refine lv_bipush (v := 100) hx hb dX11_drawRain_32 (by decide) ?_
  refine lv_irem hx hb dX11_drawRain_34 (by decide) ?_
  refine lv_topi (fun t7 et7 => ?_)
  refine lv_aload_n hx hb dX11_drawRain_35 rfl (lv_at hl 0 rfl) ?_
  refine va_get (D := (dC, dI)) (ci := 11) (v := .int (v 29)) (C := RX11) (T := TX11) (N := 79) hx hb hts inB_11 hown hE.1 hP 0 rfl rfl 53 (by decide) (hts _ k_1373) (fun _ h9 => h9) rfl dX11_drawRain_36 ?_
  refine lv_icmp_ge (tgt := 46) hx hb dX11_drawRain_39 (by decide) (fun c8 => ?_) (fun c8 => ?_)
  · skip
    have zc8 : (v 29).toInt ≤ t7.toInt := by rw [fa_le] at c8; exact c8
    have rg9 := fb_rng t7
    have rg10 := fb_rng (v 29)
    refine lv_iconst (v := 0) hx hb dX11_drawRain_46 (by decide) ?_
    exact ret 0 (v, f5, w, g) _ _ _ _ _ _ rfl ⟨(gsY_X11_drawRain_1_q0 et1 et2 et3 et4 ef5 et6 et7 c8), hM_v, hA_f5, hIv, hCf5, hRf5, rfl, rfl, rfl, rfl, rfl, rfl, rfl, rfl, rfl, rfl, rfl, rfl, rfl, rfl, rfl, rfl, rfl, rfl, rfl, rfl, (Or.inr rfl)⟩ hP hD hS dX11_drawRain_47 (Nat.le_refl _) (Nat.le_refl _)
  · skip
    have zc8 : ¬ ((v 29).toInt ≤ t7.toInt) := by rw [fa_le] at c8; exact c8
    have rg11 := fb_rng t7
    have rg12 := fb_rng (v 29)
    refine lv_iconst (v := 1) hx hb dX11_drawRain_42 (by decide) ?_
    refine lv_goto (tgt := 47) hx hb dX11_drawRain_43 (by decide) ?_
    exact ret 1 (v, f5, w, g) _ _ _ _ _ _ rfl ⟨(gsY_X11_drawRain_1_q1 et1 et2 et3 et4 ef5 et6 et7 c8), hM_v, hA_f5, hIv, hCf5, hRf5, rfl, rfl, rfl, rfl, rfl, rfl, rfl, rfl, rfl, rfl, rfl, rfl, rfl, rfl, rfl, rfl, rfl, rfl, rfl, rfl, (Or.inl rfl)⟩ hP hD hS dX11_drawRain_47 (Nat.le_refl _) (Nat.le_refl _)
set_option maxHeartbeats 4000000 in
set_option maxRecDepth 100000 in
theorem sY_X11_wearers_1 (NF : Nat) (l : Launch) (dC : Nat → ClassId) (dI : Nat → Nat → Nat) (cy : Nat → ClassId) (y0 : Nat) (r : Nat → Nat)  (v : Nat → Int32) (f : Nat → Nat → Int32) (w : Int64) (g : Nat → Int64) (hIv : YI v) (hCf : YC f) (hRf : progOK (f 4) (f 5) (v 9).toInt.toNat)  : ctI l (dC, dI) cy yX11_wearers cX11_wearers 3 .int 2 80 0 0 Unit [.ref y0] (YW cy y0 r v f w g) (fun r u => gsY_X11_wearers_1 NF v f w g = r ∧ ((0 : Int) ≤ r.toInt ∧ r.toInt ≤ 63)) (fun u => YW cy y0 r v f w g) := by
  refine ctI_of (by decide) (Nat.le_of_ble_eq_true rfl) (fun p e s m below meth c A ls Q hx hb hml hts hown hE hP hD hA hl ret => ?_)
  have hUv : (v 35).toInt + (v 36).toInt ≤ 40 := hIv.2
  have hown : s.vm.findClass RX11 = some m.cls := hown
  have hS : va_S A s.heap s.heap [] := va_S.rf
  have hl : lv_has ls 3 [(0, .ref y0)] := hl
  refine lv_iconst (v := 0) hx hb dX11_wearers_0 (by decide) ?_
  refine lv_istore_n (lv' := [(1, .int 0), (0, .ref y0)]) hx hb dX11_wearers_1 rfl hl (by decide) rfl (fun ls hl => ?_)
  refine lv_iconst (v := 0) hx hb dX11_wearers_2 (by decide) ?_
  refine lv_istore_n (lv' := [(2, .int 0), (1, .int 0), (0, .ref y0)]) hx hb dX11_wearers_3 rfl hl (by decide) rfl (fun ls hl => ?_)
  have lp1 : ∀ (n1 : Nat) (l1_1 : Int32) (l2_1 : Int32), gsY_X11_wearers_1_L1 NF v f w g n1 l1_1 l2_1 = (gsY_X11_wearers_1 NF v f w g) → ((0 : Int) ≤ l1_1.toInt ∧ l1_1.toInt ≤ 63) → ((0 : Int) ≤ l2_1.toInt ∧ l2_1.toInt ≤ 2147483647) → (2147483647 - l2_1.toInt).toNat < n1 → ∀ (H : Heap) (locs : List Loc) (ls : Array Slot), va_P (dC, dI) vwCl (YW cy y0 r v f w g) H → va_D A (YW cy y0 r v f w g) → va_S A s.heap H locs → lv_has ls 3 [(2, .int l2_1), (1, .int l1_1), (0, .ref y0)] → W p l e { frames := 2, cells := 0, slots := 0, locals := 80 } s m ([.ref y0] : List Value).toArray below meth c H locs 0 0 Q (F0 m 4 ls []) := by
    intro n1
    induction n1 with
    | zero => intro l1_1 l2_1 hT1 hr1_1 hr2_1 hm; exact absurd hm (Nat.not_lt_zero _)
    | succ n1 ih1 =>
      intro l1_1 l2_1 hT1 hr1_1 hr2_1 hm1 H locs ls hP hD hS hl
      refine lv_iload_n hx hb dX11_wearers_4 rfl (lv_at hl 0 rfl) ?_
      refine lv_aload_n hx hb dX11_wearers_5 rfl (lv_at hl 2 rfl) ?_
      refine va_get (D := (dC, dI)) (ci := 11) (v := .int (v 24)) (C := RX11) (T := TX11) (N := 79) hx hb hts inB_11 hown hE.1 hP 0 rfl rfl 48 (by decide) (hts _ k_1368) (fun _ h9 => h9) rfl dX11_wearers_6 ?_
      have b24_v : 0 ≤ (v 24).toInt ∧ (v 24).toInt ≤ 6 := YIb.b hIv.1 24 (by decide)
      refine lv_icmp_ge (tgt := 43) hx hb dX11_wearers_9 (by decide) (fun c2 => ?_) (fun c2 => ?_)
      · skip
        have zc2 : (v 24).toInt ≤ l2_1.toInt := by rw [fa_le] at c2; exact c2
        have rg3 := fb_rng l2_1
        have rg4 := fb_rng (v 24)
        refine lv_iload_n hx hb dX11_wearers_43 rfl (lv_at hl 1 rfl) ?_
        exact ret l1_1 () _ _ _ _ _ _ rfl ⟨(hT1.symm.trans (gsY_X11_wearers_1_q0 c2)), ⟨by omega, by omega⟩⟩ hP hD hS dX11_wearers_44 (Nat.le_refl _) (Nat.le_refl _)
      · skip
        have zc2 : ¬ ((v 24).toInt ≤ l2_1.toInt) := by rw [fa_le] at c2; exact c2
        have rg5 := fb_rng l2_1
        have rg6 := fb_rng (v 24)
        refine lv_iload_n hx hb dX11_wearers_12 rfl (lv_at hl 1 rfl) ?_
        refine lv_aload_n hx hb dX11_wearers_13 rfl (lv_at hl 2 rfl) ?_
        refine va_get (D := (dC, dI)) (ci := 11) (v := .ref (r 60)) (C := RX11) (T := TX11) (N := 79) hx hb hts inB_11 hown hE.1 hP 0 rfl rfl 60 (by decide) (hts _ k_1380) (fun _ h9 => h9) rfl dX11_wearers_14 ?_
        refine lv_bipush (v := 6) hx hb dX11_wearers_17 (by decide) ?_
        refine lv_iload_n hx hb dX11_wearers_19 rfl (lv_at hl 0 rfl) ?_
        refine lv_iadd hx hb dX11_wearers_20 ?_
        refine lv_topi (fun t7 et7 => ?_)
        have zt7 : t7.toInt = 6 + l2_1.toInt := by rw [et7]; exact add_i (by decide) rfl (by omega) (by omega)
        refine ldI hx hb hE hP 25 rfl (vp_in_iff.mpr ⟨by omega, by omega⟩) rfl rfl dX11_wearers_21 ?_
        refine lv_topi (fun t8 et8 => ?_)
        have zt8 : t7.toInt.toNat % 39 < 6 ∨ 12 ≤ t7.toInt.toNat % 39 ∨ (-1 ≤ t8.toInt ∧ t8.toInt ≤ 5) := by rw [et8]; exact wear_ld hCf.2.1 (show t7.toInt.toNat < 39 by omega)
        refine lv_if_lt (tgt := 29) hx hb dX11_wearers_22 (by decide) (fun c9 => ?_) (fun c9 => ?_)
        · skip
          have zc9 : t8.toInt < 0 := by rw [fa_lt, show (0 : Int32).toInt = 0 from by decide] at c9; exact c9
          refine lv_iconst (v := 0) hx hb dX11_wearers_29 (by decide) ?_
          have lt10 : (0 : Int32).toInt = 0 := by decide
          refine cbSi (n := 1) (rest := [.int l1_1]) hx hb hml hown hts hE hP hD hS hA (sY_X11_truth_1 NF l dC dI cy y0 r 0 v f w g hIv hCf hRf ) k_1761 k_1762 k_114 k_1763 (by decide +kernel) ⟨Nat.le_of_ble_eq_true rfl, Nat.le_of_ble_eq_true rfl⟩ (rfl) hl.1 rfl (Nat.le_of_ble_eq_true rfl) dX11_wearers_30 (fun r11 u H locs hw hP hD hS => ?_)
          obtain ⟨hG12, hw⟩ := hw
          refine lv_iload_n hx hb dX11_wearers_33 rfl (lv_at hl 0 rfl) ?_
          refine lv_ishl hx hb dX11_wearers_34 ?_
          refine lv_topi (fun t13 et13 => ?_)
          have zt13 : 0 ≤ t13.toInt ∧ t13.toInt ≤ 32 := by rw [et13]; exact shl01_rng (by omega) (by omega) (by omega) (by omega)
          refine lv_ior hx hb dX11_wearers_35 ?_
          refine lv_topi (fun t14 et14 => ?_)
          have zt14 : 0 ≤ t14.toInt ∧ t14.toInt ≤ 63 := by rw [et14]; exact or_rng (by omega) (by omega) (by omega) (by omega)
          refine lv_istore_n (lv' := [(1, .int t14), (2, .int l2_1), (0, .ref y0)]) hx hb dX11_wearers_36 rfl hl (by decide) rfl (fun ls hl => ?_)
          obtain ⟨t15, et15⟩ : ∃ y : Int32, y = l2_1 + 1 := ⟨_, rfl⟩
          have zt15 : t15.toInt = l2_1.toInt + 1 := by rw [et15]; exact add_i rfl (by decide) (by omega) (by omega)
          refine lv_iinc (v := t15) (lv' := [(2, .int t15), (1, .int t14), (0, .ref y0)]) hx hb dX11_wearers_37 hl (k := 1) rfl (by rw [et15]; rfl) (by decide) rfl (fun ls hl => ?_)
          refine lv_goto (tgt := 4) hx hb dX11_wearers_40 (by decide) ?_
          have rg16 := fb_rng t14
          have rg17 := fb_rng t15
          exact ih1 t14 t15 ((gsY_X11_wearers_1_q1 c2 et7 et8 c9 hG12.symm et13 et14 et15).symm.trans hT1) ⟨show (0 : Int) ≤ t14.toInt by omega, show t14.toInt ≤ (63 : Int) by omega⟩ ⟨show (0 : Int) ≤ t15.toInt by omega, show t15.toInt ≤ (2147483647 : Int) by omega⟩ (by show (2147483647 - t15.toInt).toNat < n1; omega) _ _ _ hP hD hS (lv_sub hl [0, 1, 2] rfl)
        · skip
          have zc9 : ¬ (t8.toInt < 0) := by rw [fa_lt, show (0 : Int32).toInt = 0 from by decide] at c9; exact c9
          refine lv_iconst (v := 1) hx hb dX11_wearers_25 (by decide) ?_
          refine lv_goto (tgt := 30) hx hb dX11_wearers_26 (by decide) ?_
          have lt18 : (1 : Int32).toInt = 1 := by decide
          refine cbSi (n := 1) (rest := [.int l1_1]) hx hb hml hown hts hE hP hD hS hA (sY_X11_truth_1 NF l dC dI cy y0 r 1 v f w g hIv hCf hRf ) k_1761 k_1762 k_114 k_1763 (by decide +kernel) ⟨Nat.le_of_ble_eq_true rfl, Nat.le_of_ble_eq_true rfl⟩ (rfl) hl.1 rfl (Nat.le_of_ble_eq_true rfl) dX11_wearers_30 (fun r19 u H locs hw hP hD hS => ?_)
          obtain ⟨hG20, hw⟩ := hw
          refine lv_iload_n hx hb dX11_wearers_33 rfl (lv_at hl 0 rfl) ?_
          refine lv_ishl hx hb dX11_wearers_34 ?_
          refine lv_topi (fun t21 et21 => ?_)
          have zt21 : 0 ≤ t21.toInt ∧ t21.toInt ≤ 32 := by rw [et21]; exact shl01_rng (by omega) (by omega) (by omega) (by omega)
          refine lv_ior hx hb dX11_wearers_35 ?_
          refine lv_topi (fun t22 et22 => ?_)
          have zt22 : 0 ≤ t22.toInt ∧ t22.toInt ≤ 63 := by rw [et22]; exact or_rng (by omega) (by omega) (by omega) (by omega)
          refine lv_istore_n (lv' := [(1, .int t22), (2, .int l2_1), (0, .ref y0)]) hx hb dX11_wearers_36 rfl hl (by decide) rfl (fun ls hl => ?_)
          obtain ⟨t23, et23⟩ : ∃ y : Int32, y = l2_1 + 1 := ⟨_, rfl⟩
          have zt23 : t23.toInt = l2_1.toInt + 1 := by rw [et23]; exact add_i rfl (by decide) (by omega) (by omega)
          refine lv_iinc (v := t23) (lv' := [(2, .int t23), (1, .int t22), (0, .ref y0)]) hx hb dX11_wearers_37 hl (k := 1) rfl (by rw [et23]; rfl) (by decide) rfl (fun ls hl => ?_)
          refine lv_goto (tgt := 4) hx hb dX11_wearers_40 (by decide) ?_
          have rg24 := fb_rng t22
          have rg25 := fb_rng t23
          exact ih1 t22 t23 ((gsY_X11_wearers_1_q2 c2 et7 et8 c9 hG20.symm et21 et22 et23).symm.trans hT1) ⟨show (0 : Int) ≤ t22.toInt by omega, show t22.toInt ≤ (63 : Int) by omega⟩ ⟨show (0 : Int) ≤ t23.toInt by omega, show t23.toInt ≤ (2147483647 : Int) by omega⟩ (by show (2147483647 - t23.toInt).toNat < n1; omega) _ _ _ hP hD hS (lv_sub hl [0, 1, 2] rfl)
  exact lp1 (4294967296 + NF) 0 0 gsY_X11_wearers_1_q3.symm ⟨by decide, by decide⟩ ⟨by decide, by decide⟩ (by have q2 : (0 : Int32).toInt = 0 := (by decide); have q1 : (0 : Int32).toInt = 0 := (by decide); show (2147483647 - (0 : Int32).toInt).toNat < 4294967296 + NF; omega) _ _ _ hP hD hS (lv_sub hl [0, 1, 2] rfl)
set_option maxHeartbeats 4000000 in
set_option maxRecDepth 100000 in
theorem sY_X11_fits_1 (NF : Nat) (l : Launch) (dC : Nat → ClassId) (dI : Nat → Nat → Nat) (cy : Nat → ClassId) (y0 : Nat) (r : Nat → Nat) (p1 : Int32) (p2 : Int32) (v : Nat → Int32) (f : Nat → Nat → Int32) (w : Int64) (g : Nat → Int64) (hIv : YI v) (hCf : YC f) (hRf : progOK (f 4) (f 5) (v 9).toInt.toNat) (hp1 : (0 : Int) ≤ p1.toInt ∧ p1.toInt ≤ 5) (hp2 : (-1 : Int) ≤ p2.toInt ∧ p2.toInt ≤ 5) : ctI l (dC, dI) cy yX11_fits cX11_fits 3 .boolean 4 126 0 0 ((Nat → Int32) × (Nat → Nat → Int32) × (Int64) × (Nat → Int64)) [.ref y0, .int p1, .int p2] (YW cy y0 r v f w g) (fun r u => gsY_X11_fits_1 NF p1 p2 v f w g = (r, u) ∧ KV [] u.1 v ∧ KF [7, 8] u.2.1 f ∧ YI u.1 ∧ YC u.2.1 ∧ progOK (u.2.1 4) (u.2.1 5) (u.1 9).toInt.toNat ∧ u.1 0 = v 0 ∧ u.1 1 = v 1 ∧ u.1 2 = v 2 ∧ u.1 3 = v 3 ∧ u.1 4 = v 4 ∧ u.1 5 = v 5 ∧ u.1 8 = v 8 ∧ u.1 9 = v 9 ∧ u.1 10 = v 10 ∧ u.1 13 = v 13 ∧ u.1 14 = v 14 ∧ u.1 15 = v 15 ∧ u.1 17 = v 17 ∧ u.1 18 = v 18 ∧ u.1 24 = v 24 ∧ u.1 25 = v 25 ∧ u.1 35 = v 35 ∧ u.1 36 = v 36 ∧ u.1 38 = v 38 ∧ u.1 39 = v 39 ∧ ((r = 1) ∨ (r = 0))) (fun u => YW cy y0 r u.1 u.2.1 u.2.2.1 u.2.2.2) := by
  refine ctI_of (by decide) (Nat.le_of_ble_eq_true rfl) (fun p e s m below meth c A ls Q hx hb hml hts hown hE hP hD hA hl ret => ?_)
  have hUv : (v 35).toInt + (v 36).toInt ≤ 40 := hIv.2
  have hM_v : KV [] v v := fun _ _ => rfl
  have hA_f : KF [7, 8] f f := fun _ _ => rfl
  have hown : s.vm.findClass RX11 = some m.cls := hown
  have hS : va_S A s.heap s.heap [] := va_S.rf
  have hl : lv_has ls 3 [(0, .ref y0), (1, .int p1), (2, .int p2)] := hl
  refine lv_iload_n hx hb dX11_fits_0 rfl (lv_at hl 2 rfl) ?_
  refine lv_if_lt (tgt := 21) hx hb dX11_fits_1 (by decide) (fun c1 => ?_) (fun c1 => ?_)
  · skip
    have zc1 : p2.toInt < 0 := by rw [fa_lt, show (0 : Int32).toInt = 0 from by decide] at c1; exact c1
    refine lv_iconst (v := 0) hx hb dX11_fits_21 (by decide) ?_
    exact ret 0 (v, f, w, g) _ _ _ _ _ _ rfl ⟨(gsY_X11_fits_1_q0 c1), hM_v, hA_f, hIv, hCf, hRf, rfl, rfl, rfl, rfl, rfl, rfl, rfl, rfl, rfl, rfl, rfl, rfl, rfl, rfl, rfl, rfl, rfl, rfl, rfl, rfl, (Or.inr rfl)⟩ hP hD hS dX11_fits_22 (Nat.le_refl _) (Nat.le_refl _)
  · skip
    have zc1 : ¬ (p2.toInt < 0) := by rw [fa_lt, show (0 : Int32).toInt = 0 from by decide] at c1; exact c1
    refine lv_aload_n hx hb dX11_fits_4 rfl (lv_at hl 0 rfl) ?_
    refine lv_iload_n hx hb dX11_fits_5 rfl (lv_at hl 1 rfl) ?_
    refine lv_iload_n hx hb dX11_fits_6 rfl (lv_at hl 2 rfl) ?_
    refine cbVi (n := 2) (rest := []) hx hb hml hown hts hE hP hD hS hA (sY_X11_misfitOf_1 NF l dC dI cy y0 r p1 p2 v f w g hIv hCf hRf ⟨show (0 : Int) ≤ p1.toInt by omega, show p1.toInt ≤ (5 : Int) by omega⟩ ⟨show (0 : Int) ≤ p2.toInt by omega, show p2.toInt ≤ (5 : Int) by omega⟩) k_1751 k_1753 k_74 k_114 k_1754 (by decide +kernel) ⟨Nat.le_of_ble_eq_true rfl, Nat.le_of_ble_eq_true rfl⟩ 0 11 rfl rfl (rfl) hl.1 rfl (Nat.le_of_ble_eq_true rfl) dX11_fits_7 (fun r2 u H locs hw hP hD hS => ?_)
    obtain ⟨hG3, hw⟩ := hw
    obtain ⟨v4, f5, w6, g7⟩ := u
    obtain ⟨kV_v4, kF_f5, hIv4, hCf5, hRf5, hk0_v4, hk1_v4, hk2_v4, hk3_v4, hk4_v4, hk5_v4, hk8_v4, hk9_v4, hk10_v4, hk13_v4, hk14_v4, hk15_v4, hk17_v4, hk18_v4, hk24_v4, hk25_v4, hk35_v4, hk36_v4, hk38_v4, hk39_v4⟩ := hw
    have hM_v4 : KV [] v4 v := KV.tr kV_v4 hM_v rfl
    have hA_f5 : KF [7, 8] f5 f := KF.tr kF_f5 hA_f rfl
    have hP : va_P (dC, dI) vwCl (YW cy y0 r v4 f5 w6 g7) H := hP
    have hD : va_D A (YW cy y0 r v4 f5 w6 g7) := hD
    have hUv4 : (v4 35).toInt + (v4 36).toInt ≤ 40 := hIv4.2
    have hq9_v4 : v4 9 = (v 9) := hk9_v4
    have zq9_v4 := congrArg Int32.toInt hq9_v4
    refine lv_aload_n hx hb dX11_fits_10 rfl (lv_at hl 0 rfl) ?_
    refine va_get (D := (dC, dI)) (ci := 11) (v := .int (v4 26)) (C := RX11) (T := TX11) (N := 79) hx hb hts inB_11 hown hE.1 hP 0 rfl rfl 50 (by decide) (hts _ k_1370) (fun _ h9 => h9) rfl dX11_fits_11 ?_
    refine lv_icmp_gt (tgt := 21) hx hb dX11_fits_14 (by decide) (fun c8 => ?_) (fun c8 => ?_)
    · skip
      have zc8 : (v4 26).toInt < r2.toInt := by rw [fa_lt] at c8; exact c8
      have rg9 := fb_rng r2
      have rg10 := fb_rng (v4 26)
      refine lv_iconst (v := 0) hx hb dX11_fits_21 (by decide) ?_
      exact ret 0 (v4, f5, w6, g7) _ _ _ _ _ _ rfl ⟨(gsY_X11_fits_1_q1 c1 hG3 c8), hM_v4, hA_f5, hIv4, hCf5, hRf5, hk0_v4, hk1_v4, hk2_v4, hk3_v4, hk4_v4, hk5_v4, hk8_v4, hk9_v4, hk10_v4, hk13_v4, hk14_v4, hk15_v4, hk17_v4, hk18_v4, hk24_v4, hk25_v4, hk35_v4, hk36_v4, hk38_v4, hk39_v4, (Or.inr rfl)⟩ hP hD hS dX11_fits_22 (Nat.le_refl _) (Nat.le_refl _)
    · skip
      have zc8 : ¬ ((v4 26).toInt < r2.toInt) := by rw [fa_lt] at c8; exact c8
      have rg11 := fb_rng r2
      have rg12 := fb_rng (v4 26)
      refine lv_iconst (v := 1) hx hb dX11_fits_17 (by decide) ?_
      refine lv_goto (tgt := 22) hx hb dX11_fits_18 (by decide) ?_
      exact ret 1 (v4, f5, w6, g7) _ _ _ _ _ _ rfl ⟨(gsY_X11_fits_1_q2 c1 hG3 c8), hM_v4, hA_f5, hIv4, hCf5, hRf5, hk0_v4, hk1_v4, hk2_v4, hk3_v4, hk4_v4, hk5_v4, hk8_v4, hk9_v4, hk10_v4, hk13_v4, hk14_v4, hk15_v4, hk17_v4, hk18_v4, hk24_v4, hk25_v4, hk35_v4, hk36_v4, hk38_v4, hk39_v4, (Or.inl rfl)⟩ hP hD hS dX11_fits_22 (Nat.le_refl _) (Nat.le_refl _)
set_option maxHeartbeats 4000000 in
set_option maxRecDepth 100000 in
theorem sY_X11_fitsOwn_1 (NF : Nat) (l : Launch) (dC : Nat → ClassId) (dI : Nat → Nat → Nat) (cy : Nat → ClassId) (y0 : Nat) (r : Nat → Nat) (p1 : Int32) (v : Nat → Int32) (f : Nat → Nat → Int32) (w : Int64) (g : Nat → Int64) (hIv : YI v) (hCf : YC f) (hRf : progOK (f 4) (f 5) (v 9).toInt.toNat) (hp1 : (0 : Int) ≤ p1.toInt ∧ p1.toInt ≤ 5) : ctI l (dC, dI) cy yX11_fitsOwn cX11_fitsOwn 2 .boolean 5 148 0 0 ((Nat → Int32) × (Nat → Nat → Int32) × (Int64) × (Nat → Int64)) [.ref y0, .int p1] (YW cy y0 r v f w g) (fun r u => gsY_X11_fitsOwn_1 NF p1 v f w g = (r, u) ∧ KV [] u.1 v ∧ KF [7, 8] u.2.1 f ∧ YI u.1 ∧ YC u.2.1 ∧ progOK (u.2.1 4) (u.2.1 5) (u.1 9).toInt.toNat ∧ u.1 0 = v 0 ∧ u.1 1 = v 1 ∧ u.1 2 = v 2 ∧ u.1 3 = v 3 ∧ u.1 4 = v 4 ∧ u.1 5 = v 5 ∧ u.1 8 = v 8 ∧ u.1 9 = v 9 ∧ u.1 10 = v 10 ∧ u.1 13 = v 13 ∧ u.1 14 = v 14 ∧ u.1 15 = v 15 ∧ u.1 17 = v 17 ∧ u.1 18 = v 18 ∧ u.1 24 = v 24 ∧ u.1 25 = v 25 ∧ u.1 35 = v 35 ∧ u.1 36 = v 36 ∧ u.1 38 = v 38 ∧ u.1 39 = v 39 ∧ ((r = 1) ∨ (r = 0))) (fun u => YW cy y0 r u.1 u.2.1 u.2.2.1 u.2.2.2) := by
  refine ctI_of (by decide) (Nat.le_of_ble_eq_true rfl) (fun p e s m below meth c A ls Q hx hb hml hts hown hE hP hD hA hl ret => ?_)
  have hUv : (v 35).toInt + (v 36).toInt ≤ 40 := hIv.2
  have hM_v : KV [] v v := fun _ _ => rfl
  have hA_f : KF [7, 8] f f := fun _ _ => rfl
  have hown : s.vm.findClass RX11 = some m.cls := hown
  have hS : va_S A s.heap s.heap [] := va_S.rf
  have hl : lv_has ls 2 [(0, .ref y0), (1, .int p1)] := hl
  refine lv_aload_n hx hb dX11_fitsOwn_0 rfl (lv_at hl 0 rfl) ?_
  refine lv_iload_n hx hb dX11_fitsOwn_1 rfl (lv_at hl 1 rfl) ?_
  refine lv_aload_n hx hb dX11_fitsOwn_2 rfl (lv_at hl 0 rfl) ?_
  refine va_get (D := (dC, dI)) (ci := 11) (v := .ref (r 60)) (C := RX11) (T := TX11) (N := 79) hx hb hts inB_11 hown hE.1 hP 0 rfl rfl 60 (by decide) (hts _ k_1380) (fun _ h9 => h9) rfl dX11_fitsOwn_3 ?_
  refine lv_bipush (v := 6) hx hb dX11_fitsOwn_6 (by decide) ?_
  refine lv_iload_n hx hb dX11_fitsOwn_8 rfl (lv_at hl 1 rfl) ?_
  refine lv_iadd hx hb dX11_fitsOwn_9 ?_
  refine lv_topi (fun t1 et1 => ?_)
  have rg2 := fb_rng p1
  have zt1 : t1.toInt = 6 + p1.toInt := by rw [et1]; exact add_i (by decide) rfl (by omega) (by omega)
  refine ldI hx hb hE hP 25 rfl (vp_in_iff.mpr ⟨by omega, by omega⟩) rfl rfl dX11_fitsOwn_10 ?_
  refine lv_topi (fun t3 et3 => ?_)
  have zt3 : t1.toInt.toNat % 39 < 6 ∨ 12 ≤ t1.toInt.toNat % 39 ∨ (-1 ≤ t3.toInt ∧ t3.toInt ≤ 5) := by rw [et3]; exact wear_ld hCf.2.1 (show t1.toInt.toNat < 39 by omega)
  refine cbVi (n := 2) (rest := []) hx hb hml hown hts hE hP hD hS hA (sY_X11_fits_1 NF l dC dI cy y0 r p1 t3 v f w g hIv hCf hRf ⟨show (0 : Int) ≤ p1.toInt by omega, show p1.toInt ≤ (5 : Int) by omega⟩ ⟨show (-1 : Int) ≤ t3.toInt by omega, show t3.toInt ≤ (5 : Int) by omega⟩) k_1747 k_1749 k_73 k_114 k_1750 (by decide +kernel) ⟨Nat.le_of_ble_eq_true rfl, Nat.le_of_ble_eq_true rfl⟩ 0 11 rfl rfl (rfl) hl.1 rfl (Nat.le_of_ble_eq_true rfl) dX11_fitsOwn_11 (fun r4 u H locs hw hP hD hS => ?_)
  obtain ⟨hG5, hw⟩ := hw
  obtain ⟨v6, f7, w8, g9⟩ := u
  obtain ⟨kV_v6, kF_f7, hIv6, hCf7, hRf7, hk0_v6, hk1_v6, hk2_v6, hk3_v6, hk4_v6, hk5_v6, hk8_v6, hk9_v6, hk10_v6, hk13_v6, hk14_v6, hk15_v6, hk17_v6, hk18_v6, hk24_v6, hk25_v6, hk35_v6, hk36_v6, hk38_v6, hk39_v6, hw⟩ := hw
  have hM_v6 : KV [] v6 v := KV.tr kV_v6 hM_v rfl
  have hA_f7 : KF [7, 8] f7 f := KF.tr kF_f7 hA_f rfl
  have hP : va_P (dC, dI) vwCl (YW cy y0 r v6 f7 w8 g9) H := hP
  have hD : va_D A (YW cy y0 r v6 f7 w8 g9) := hD
  have hUv6 : (v6 35).toInt + (v6 36).toInt ≤ 40 := hIv6.2
  have hq9_v6 : v6 9 = (v 9) := hk9_v6
  have zq9_v6 := congrArg Int32.toInt hq9_v6
  rcases hw with ⟨g10⟩ | ⟨g10⟩
  · skip
    subst g10
    exact ret 1 (v6, f7, w8, g9) _ _ _ _ _ _ rfl ⟨(gsY_X11_fitsOwn_1_q0 et1 et3 hG5), hM_v6, hA_f7, hIv6, hCf7, hRf7, hk0_v6, hk1_v6, hk2_v6, hk3_v6, hk4_v6, hk5_v6, hk8_v6, hk9_v6, hk10_v6, hk13_v6, hk14_v6, hk15_v6, hk17_v6, hk18_v6, hk24_v6, hk25_v6, hk35_v6, hk36_v6, hk38_v6, hk39_v6, (Or.inl rfl)⟩ hP hD hS dX11_fitsOwn_14 (Nat.le_refl _) (Nat.le_refl _)
  · skip
    subst g10
    exact ret 0 (v6, f7, w8, g9) _ _ _ _ _ _ rfl ⟨(gsY_X11_fitsOwn_1_q1 et1 et3 hG5), hM_v6, hA_f7, hIv6, hCf7, hRf7, hk0_v6, hk1_v6, hk2_v6, hk3_v6, hk4_v6, hk5_v6, hk8_v6, hk9_v6, hk10_v6, hk13_v6, hk14_v6, hk15_v6, hk17_v6, hk18_v6, hk24_v6, hk25_v6, hk35_v6, hk36_v6, hk38_v6, hk39_v6, (Or.inr rfl)⟩ hP hD hS dX11_fitsOwn_14 (Nat.le_refl _) (Nat.le_refl _)
set_option maxHeartbeats 4000000 in
set_option maxRecDepth 100000 in
theorem sY_X11_fittedOnes_1 (NF : Nat) (l : Launch) (dC : Nat → ClassId) (dI : Nat → Nat → Nat) (cy : Nat → ClassId) (y0 : Nat) (r : Nat → Nat)  (v : Nat → Int32) (f : Nat → Nat → Int32) (w : Int64) (g : Nat → Int64) (hIv : YI v) (hCf : YC f) (hRf : progOK (f 4) (f 5) (v 9).toInt.toNat)  : ctI l (dC, dI) cy yX11_fittedOnes cX11_fittedOnes 3 .int 6 169 0 0 ((Nat → Int32) × (Nat → Nat → Int32) × (Int64) × (Nat → Int64)) [.ref y0] (YW cy y0 r v f w g) (fun r u => gsY_X11_fittedOnes_1 NF v f w g = (r, u) ∧ KV [] u.1 v ∧ KF [7, 8] u.2.1 f ∧ YI u.1 ∧ YC u.2.1 ∧ progOK (u.2.1 4) (u.2.1 5) (u.1 9).toInt.toNat ∧ u.1 0 = v 0 ∧ u.1 1 = v 1 ∧ u.1 2 = v 2 ∧ u.1 3 = v 3 ∧ u.1 4 = v 4 ∧ u.1 5 = v 5 ∧ u.1 8 = v 8 ∧ u.1 9 = v 9 ∧ u.1 10 = v 10 ∧ u.1 13 = v 13 ∧ u.1 14 = v 14 ∧ u.1 15 = v 15 ∧ u.1 17 = v 17 ∧ u.1 18 = v 18 ∧ u.1 24 = v 24 ∧ u.1 25 = v 25 ∧ u.1 35 = v 35 ∧ u.1 36 = v 36 ∧ u.1 38 = v 38 ∧ u.1 39 = v 39) (fun u => YW cy y0 r u.1 u.2.1 u.2.2.1 u.2.2.2) := by
  refine ctI_of (by decide) (Nat.le_of_ble_eq_true rfl) (fun p e s m below meth c A ls Q hx hb hml hts hown hE hP hD hA hl ret => ?_)
  have hUv : (v 35).toInt + (v 36).toInt ≤ 40 := hIv.2
  have hM_v : KV [] v v := fun _ _ => rfl
  have hA_f : KF [7, 8] f f := fun _ _ => rfl
  have hown : s.vm.findClass RX11 = some m.cls := hown
  have hS : va_S A s.heap s.heap [] := va_S.rf
  have hl : lv_has ls 3 [(0, .ref y0)] := hl
  refine lv_iconst (v := 0) hx hb dX11_fittedOnes_0 (by decide) ?_
  refine lv_istore_n (lv' := [(1, .int 0), (0, .ref y0)]) hx hb dX11_fittedOnes_1 rfl hl (by decide) rfl (fun ls hl => ?_)
  refine lv_iconst (v := 0) hx hb dX11_fittedOnes_2 (by decide) ?_
  refine lv_istore_n (lv' := [(2, .int 0), (1, .int 0), (0, .ref y0)]) hx hb dX11_fittedOnes_3 rfl hl (by decide) rfl (fun ls hl => ?_)
  have lp1 : ∀ (n1 : Nat) (l1_1 : Int32) (l2_1 : Int32) (v1 : Nat → Int32) (f1 : Nat → Nat → Int32) (w1 : Int64) (g1 : Nat → Int64), YI v1 → YC f1 → progOK (f1 4) (f1 5) (v1 9).toInt.toNat → v1 0 = (v 0) → v1 1 = (v 1) → v1 2 = (v 2) → v1 3 = (v 3) → v1 4 = (v 4) → v1 5 = (v 5) → v1 8 = (v 8) → v1 9 = (v 9) → v1 10 = (v 10) → v1 13 = (v 13) → v1 14 = (v 14) → v1 15 = (v 15) → v1 17 = (v 17) → v1 18 = (v 18) → v1 24 = (v 24) → v1 25 = (v 25) → v1 35 = (v 35) → v1 36 = (v 36) → v1 38 = (v 38) → v1 39 = (v 39) → gsY_X11_fittedOnes_1_L1 NF v n1 l1_1 l2_1 v1 f1 w1 g1 = (gsY_X11_fittedOnes_1 NF v f w g) → ((0 : Int) ≤ l2_1.toInt ∧ l2_1.toInt ≤ 2147483647) → KV [] v1 v → KF [7, 8] f1 f → (2147483647 - l2_1.toInt).toNat < n1 → ∀ (H : Heap) (locs : List Loc) (ls : Array Slot), va_P (dC, dI) vwCl (YW cy y0 r v1 f1 w1 g1) H → va_D A (YW cy y0 r v1 f1 w1 g1) → va_S A s.heap H locs → lv_has ls 3 [(2, .int l2_1), (1, .int l1_1), (0, .ref y0)] → W p l e { frames := 6, cells := 0, slots := 0, locals := 169 } s m ([.ref y0] : List Value).toArray below meth c H locs 0 0 Q (F0 m 4 ls []) := by
    intro n1
    induction n1 with
    | zero => intro l1_1 l2_1 v1 f1 w1 g1 hIv1 hCf1 hRf1 hq0_v1 hq1_v1 hq2_v1 hq3_v1 hq4_v1 hq5_v1 hq8_v1 hq9_v1 hq10_v1 hq13_v1 hq14_v1 hq15_v1 hq17_v1 hq18_v1 hq24_v1 hq25_v1 hq35_v1 hq36_v1 hq38_v1 hq39_v1 hT1 hr2_1 hM_v1 hA_f1 hm; exact absurd hm (Nat.not_lt_zero _)
    | succ n1 ih1 =>
      intro l1_1 l2_1 v1 f1 w1 g1 hIv1 hCf1 hRf1 hq0_v1 hq1_v1 hq2_v1 hq3_v1 hq4_v1 hq5_v1 hq8_v1 hq9_v1 hq10_v1 hq13_v1 hq14_v1 hq15_v1 hq17_v1 hq18_v1 hq24_v1 hq25_v1 hq35_v1 hq36_v1 hq38_v1 hq39_v1 hT1 hr2_1 hM_v1 hA_f1 hm1 H locs ls hP hD hS hl
      have hUv1 : (v1 35).toInt + (v1 36).toInt ≤ 40 := hIv1.2
      have zq9_v1 := congrArg Int32.toInt hq9_v1
      refine lv_iload_n hx hb dX11_fittedOnes_4 rfl (lv_at hl 0 rfl) ?_
      refine lv_aload_n hx hb dX11_fittedOnes_5 rfl (lv_at hl 2 rfl) ?_
      refine va_get (D := (dC, dI)) (ci := 11) (v := .int (v1 24)) (C := RX11) (T := TX11) (N := 79) hx hb hts inB_11 hown hE.1 hP 0 rfl rfl 48 (by decide) (hts _ k_1368) (fun _ h9 => h9) rfl dX11_fittedOnes_6 ?_
      refine tI (y := (v 24)) hq24_v1 ?_
      have b24_v : 0 ≤ (v 24).toInt ∧ (v 24).toInt ≤ 6 := YIb.b hIv.1 24 (by decide)
      refine lv_icmp_ge (tgt := 31) hx hb dX11_fittedOnes_9 (by decide) (fun c2 => ?_) (fun c2 => ?_)
      · skip
        have zc2 : (v 24).toInt ≤ l2_1.toInt := by rw [fa_le] at c2; exact c2
        have rg3 := fb_rng l2_1
        have rg4 := fb_rng (v 24)
        refine lv_iload_n hx hb dX11_fittedOnes_31 rfl (lv_at hl 1 rfl) ?_
        exact ret l1_1 (v1, f1, w1, g1) _ _ _ _ _ _ rfl ⟨(hT1.symm.trans (gsY_X11_fittedOnes_1_q0 c2)), hM_v1, hA_f1, hIv1, hCf1, hRf1, (show v1 0 = v 0 from hq0_v1), (show v1 1 = v 1 from hq1_v1), (show v1 2 = v 2 from hq2_v1), (show v1 3 = v 3 from hq3_v1), (show v1 4 = v 4 from hq4_v1), (show v1 5 = v 5 from hq5_v1), (show v1 8 = v 8 from hq8_v1), (show v1 9 = v 9 from hq9_v1), (show v1 10 = v 10 from hq10_v1), (show v1 13 = v 13 from hq13_v1), (show v1 14 = v 14 from hq14_v1), (show v1 15 = v 15 from hq15_v1), (show v1 17 = v 17 from hq17_v1), (show v1 18 = v 18 from hq18_v1), (show v1 24 = v 24 from hq24_v1), (show v1 25 = v 25 from hq25_v1), (show v1 35 = v 35 from hq35_v1), (show v1 36 = v 36 from hq36_v1), (show v1 38 = v 38 from hq38_v1), (show v1 39 = v 39 from hq39_v1)⟩ hP hD hS dX11_fittedOnes_32 (Nat.le_refl _) (Nat.le_refl _)
      · skip
        have zc2 : ¬ ((v 24).toInt ≤ l2_1.toInt) := by rw [fa_le] at c2; exact c2
        have rg5 := fb_rng l2_1
        have rg6 := fb_rng (v 24)
        refine lv_iload_n hx hb dX11_fittedOnes_12 rfl (lv_at hl 1 rfl) ?_
        refine lv_aload_n hx hb dX11_fittedOnes_13 rfl (lv_at hl 2 rfl) ?_
        refine lv_iload_n hx hb dX11_fittedOnes_14 rfl (lv_at hl 0 rfl) ?_
        refine cbVi (n := 1) (rest := [.int l1_1]) hx hb hml hown hts hE hP hD hS hA (sY_X11_fitsOwn_1 NF l dC dI cy y0 r l2_1 v1 f1 w1 g1 hIv1 hCf1 hRf1 ⟨show (0 : Int) ≤ l2_1.toInt by omega, show l2_1.toInt ≤ (5 : Int) by omega⟩) k_1813 k_1815 k_82 k_114 k_1816 (by decide +kernel) ⟨Nat.le_of_ble_eq_true rfl, Nat.le_of_ble_eq_true rfl⟩ 0 11 rfl rfl (rfl) hl.1 rfl (Nat.le_of_ble_eq_true rfl) dX11_fittedOnes_15 (fun r7 u H locs hw hP hD hS => ?_)
        obtain ⟨hG8, hw⟩ := hw
        obtain ⟨v9, f10, w11, g12⟩ := u
        obtain ⟨kV_v9, kF_f10, hIv9, hCf10, hRf10, hk0_v9, hk1_v9, hk2_v9, hk3_v9, hk4_v9, hk5_v9, hk8_v9, hk9_v9, hk10_v9, hk13_v9, hk14_v9, hk15_v9, hk17_v9, hk18_v9, hk24_v9, hk25_v9, hk35_v9, hk36_v9, hk38_v9, hk39_v9, hw⟩ := hw
        have hM_v9 : KV [] v9 v := KV.tr kV_v9 hM_v1 rfl
        have hA_f10 : KF [7, 8] f10 f := KF.tr kF_f10 hA_f1 rfl
        have hP : va_P (dC, dI) vwCl (YW cy y0 r v9 f10 w11 g12) H := hP
        have hD : va_D A (YW cy y0 r v9 f10 w11 g12) := hD
        have hUv9 : (v9 35).toInt + (v9 36).toInt ≤ 40 := hIv9.2
        have hq0_v9 : v9 0 = (v 0) := hk0_v9.trans hq0_v1
        have hq1_v9 : v9 1 = (v 1) := hk1_v9.trans hq1_v1
        have hq2_v9 : v9 2 = (v 2) := hk2_v9.trans hq2_v1
        have hq3_v9 : v9 3 = (v 3) := hk3_v9.trans hq3_v1
        have hq4_v9 : v9 4 = (v 4) := hk4_v9.trans hq4_v1
        have hq5_v9 : v9 5 = (v 5) := hk5_v9.trans hq5_v1
        have hq8_v9 : v9 8 = (v 8) := hk8_v9.trans hq8_v1
        have hq9_v9 : v9 9 = (v 9) := hk9_v9.trans hq9_v1
        have zq9_v9 := congrArg Int32.toInt hq9_v9
        have hq10_v9 : v9 10 = (v 10) := hk10_v9.trans hq10_v1
        have hq13_v9 : v9 13 = (v 13) := hk13_v9.trans hq13_v1
        have hq14_v9 : v9 14 = (v 14) := hk14_v9.trans hq14_v1
        have hq15_v9 : v9 15 = (v 15) := hk15_v9.trans hq15_v1
        have hq17_v9 : v9 17 = (v 17) := hk17_v9.trans hq17_v1
        have hq18_v9 : v9 18 = (v 18) := hk18_v9.trans hq18_v1
        have hq24_v9 : v9 24 = (v 24) := hk24_v9.trans hq24_v1
        have hq25_v9 : v9 25 = (v 25) := hk25_v9.trans hq25_v1
        have hq35_v9 : v9 35 = (v 35) := hk35_v9.trans hq35_v1
        have hq36_v9 : v9 36 = (v 36) := hk36_v9.trans hq36_v1
        have hq38_v9 : v9 38 = (v 38) := hk38_v9.trans hq38_v1
        have hq39_v9 : v9 39 = (v 39) := hk39_v9.trans hq39_v1
        rcases hw with ⟨g13⟩ | ⟨g13⟩
        · skip
          subst g13
          have lt14 : (1 : Int32).toInt = 1 := by decide
          refine cbSi (n := 1) (rest := [.int l1_1]) hx hb hml hown hts hE hP hD hS hA (sY_X11_truth_1 NF l dC dI cy y0 r 1 v9 f10 w11 g12 hIv9 hCf10 hRf10 ) k_1761 k_1762 k_114 k_1763 (by decide +kernel) ⟨Nat.le_of_ble_eq_true rfl, Nat.le_of_ble_eq_true rfl⟩ (rfl) hl.1 rfl (Nat.le_of_ble_eq_true rfl) dX11_fittedOnes_18 (fun r15 u H locs hw hP hD hS => ?_)
          obtain ⟨hG16, hw⟩ := hw
          refine lv_iload_n hx hb dX11_fittedOnes_21 rfl (lv_at hl 0 rfl) ?_
          refine lv_ishl hx hb dX11_fittedOnes_22 ?_
          refine lv_topi (fun t17 et17 => ?_)
          have zt17 : 0 ≤ t17.toInt ∧ t17.toInt ≤ 32 := by rw [et17]; exact shl01_rng (by omega) (by omega) (by omega) (by omega)
          refine lv_ior hx hb dX11_fittedOnes_23 ?_
          refine lv_topi (fun t18 et18 => ?_)
          refine lv_istore_n (lv' := [(1, .int t18), (2, .int l2_1), (0, .ref y0)]) hx hb dX11_fittedOnes_24 rfl hl (by decide) rfl (fun ls hl => ?_)
          obtain ⟨t19, et19⟩ : ∃ y : Int32, y = l2_1 + 1 := ⟨_, rfl⟩
          have zt19 : t19.toInt = l2_1.toInt + 1 := by rw [et19]; exact add_i rfl (by decide) (by omega) (by omega)
          refine lv_iinc (v := t19) (lv' := [(2, .int t19), (1, .int t18), (0, .ref y0)]) hx hb dX11_fittedOnes_25 hl (k := 1) rfl (by rw [et19]; rfl) (by decide) rfl (fun ls hl => ?_)
          refine lv_goto (tgt := 4) hx hb dX11_fittedOnes_28 (by decide) ?_
          have rg20 := fb_rng t19
          exact ih1 t18 t19 v9 f10 w11 g12 hIv9 hCf10 hRf10 hq0_v9 hq1_v9 hq2_v9 hq3_v9 hq4_v9 hq5_v9 hq8_v9 hq9_v9 hq10_v9 hq13_v9 hq14_v9 hq15_v9 hq17_v9 hq18_v9 hq24_v9 hq25_v9 hq35_v9 hq36_v9 hq38_v9 hq39_v9 ((gsY_X11_fittedOnes_1_q1 c2 hG8 hG16.symm et17 et18 et19).symm.trans hT1) ⟨show (0 : Int) ≤ t19.toInt by omega, show t19.toInt ≤ (2147483647 : Int) by omega⟩ hM_v9 hA_f10 (by show (2147483647 - t19.toInt).toNat < n1; omega) _ _ _ hP hD hS (lv_sub hl [0, 1, 2] rfl)
        · skip
          subst g13
          have lt21 : (0 : Int32).toInt = 0 := by decide
          refine cbSi (n := 1) (rest := [.int l1_1]) hx hb hml hown hts hE hP hD hS hA (sY_X11_truth_1 NF l dC dI cy y0 r 0 v9 f10 w11 g12 hIv9 hCf10 hRf10 ) k_1761 k_1762 k_114 k_1763 (by decide +kernel) ⟨Nat.le_of_ble_eq_true rfl, Nat.le_of_ble_eq_true rfl⟩ (rfl) hl.1 rfl (Nat.le_of_ble_eq_true rfl) dX11_fittedOnes_18 (fun r22 u H locs hw hP hD hS => ?_)
          obtain ⟨hG23, hw⟩ := hw
          refine lv_iload_n hx hb dX11_fittedOnes_21 rfl (lv_at hl 0 rfl) ?_
          refine lv_ishl hx hb dX11_fittedOnes_22 ?_
          refine lv_topi (fun t24 et24 => ?_)
          have zt24 : 0 ≤ t24.toInt ∧ t24.toInt ≤ 32 := by rw [et24]; exact shl01_rng (by omega) (by omega) (by omega) (by omega)
          refine lv_ior hx hb dX11_fittedOnes_23 ?_
          refine lv_topi (fun t25 et25 => ?_)
          refine lv_istore_n (lv' := [(1, .int t25), (2, .int l2_1), (0, .ref y0)]) hx hb dX11_fittedOnes_24 rfl hl (by decide) rfl (fun ls hl => ?_)
          obtain ⟨t26, et26⟩ : ∃ y : Int32, y = l2_1 + 1 := ⟨_, rfl⟩
          have zt26 : t26.toInt = l2_1.toInt + 1 := by rw [et26]; exact add_i rfl (by decide) (by omega) (by omega)
          refine lv_iinc (v := t26) (lv' := [(2, .int t26), (1, .int t25), (0, .ref y0)]) hx hb dX11_fittedOnes_25 hl (k := 1) rfl (by rw [et26]; rfl) (by decide) rfl (fun ls hl => ?_)
          refine lv_goto (tgt := 4) hx hb dX11_fittedOnes_28 (by decide) ?_
          have rg27 := fb_rng t26
          exact ih1 t25 t26 v9 f10 w11 g12 hIv9 hCf10 hRf10 hq0_v9 hq1_v9 hq2_v9 hq3_v9 hq4_v9 hq5_v9 hq8_v9 hq9_v9 hq10_v9 hq13_v9 hq14_v9 hq15_v9 hq17_v9 hq18_v9 hq24_v9 hq25_v9 hq35_v9 hq36_v9 hq38_v9 hq39_v9 ((gsY_X11_fittedOnes_1_q2 c2 hG8 hG23.symm et24 et25 et26).symm.trans hT1) ⟨show (0 : Int) ≤ t26.toInt by omega, show t26.toInt ≤ (2147483647 : Int) by omega⟩ hM_v9 hA_f10 (by show (2147483647 - t26.toInt).toNat < n1; omega) _ _ _ hP hD hS (lv_sub hl [0, 1, 2] rfl)
  exact lp1 (4294967296 + NF) 0 0 v f w g hIv hCf hRf rfl rfl rfl rfl rfl rfl rfl rfl rfl rfl rfl rfl rfl rfl rfl rfl rfl rfl rfl rfl gsY_X11_fittedOnes_1_q3.symm ⟨by decide, by decide⟩ hM_v hA_f (by have q2 : (0 : Int32).toInt = 0 := (by decide); have q1 : (0 : Int32).toInt = 0 := (by decide); show (2147483647 - (0 : Int32).toInt).toNat < 4294967296 + NF; omega) _ _ _ hP hD hS (lv_sub hl [0, 1, 2] rfl)
set_option maxHeartbeats 4000000 in
set_option maxRecDepth 100000 in
theorem sY_X11_wearer_1 (NF : Nat) (l : Launch) (dC : Nat → ClassId) (dI : Nat → Nat → Nat) (cy : Nat → ClassId) (y0 : Nat) (r : Nat → Nat) (p1 : Int32) (v : Nat → Int32) (f : Nat → Nat → Int32) (w : Int64) (g : Nat → Int64) (hIv : YI v) (hCf : YC f) (hRf : progOK (f 4) (f 5) (v 9).toInt.toNat)  : ctI l (dC, dI) cy yX11_wearer cX11_wearer 4 .int 1 60 0 0 Unit [.ref y0, .int p1] (YW cy y0 r v f w g) (fun r u => gsY_X11_wearer_1 NF p1 v f w g = r) (fun u => YW cy y0 r v f w g) := by
  refine ctI_of (by decide) (Nat.le_of_ble_eq_true rfl) (fun p e s m below meth c A ls Q hx hb hml hts hown hE hP hD hA hl ret => ?_)
  have hUv : (v 35).toInt + (v 36).toInt ≤ 40 := hIv.2
  have hown : s.vm.findClass RX11 = some m.cls := hown
  have hS : va_S A s.heap s.heap [] := va_S.rf
  have hl : lv_has ls 4 [(0, .ref y0), (1, .int p1)] := hl
  refine lv_iconst (v := (-1)) hx hb dX11_wearer_0 (by decide) ?_
  refine lv_istore_n (lv' := [(2, .int (-1)), (0, .ref y0), (1, .int p1)]) hx hb dX11_wearer_1 rfl hl (by decide) rfl (fun ls hl => ?_)
  refine lv_iconst (v := 0) hx hb dX11_wearer_2 (by decide) ?_
  refine lv_istore_n (lv' := [(3, .int 0), (2, .int (-1)), (0, .ref y0), (1, .int p1)]) hx hb dX11_wearer_3 rfl hl (by decide) rfl (fun ls hl => ?_)
  have lp1 : ∀ (n1 : Nat) (l2_1 : Int32) (l3_1 : Int32), gsY_X11_wearer_1_L1 NF p1 v f n1 l2_1 l3_1 = (gsY_X11_wearer_1 NF p1 v f w g) → ((0 : Int) ≤ l3_1.toInt ∧ l3_1.toInt ≤ 2147483647) → (2147483647 - l3_1.toInt).toNat < n1 → ∀ (H : Heap) (locs : List Loc) (ls : Array Slot), va_P (dC, dI) vwCl (YW cy y0 r v f w g) H → va_D A (YW cy y0 r v f w g) → va_S A s.heap H locs → lv_has ls 4 [(3, .int l3_1), (2, .int l2_1), (0, .ref y0), (1, .int p1)] → W p l e { frames := 1, cells := 0, slots := 0, locals := 60 } s m ([.ref y0, .int p1] : List Value).toArray below meth c H locs 0 0 Q (F0 m 4 ls []) := by
    intro n1
    induction n1 with
    | zero => intro l2_1 l3_1 hT1 hr3_1 hm; exact absurd hm (Nat.not_lt_zero _)
    | succ n1 ih1 =>
      intro l2_1 l3_1 hT1 hr3_1 hm1 H locs ls hP hD hS hl
      refine lv_iload_n hx hb dX11_wearer_4 rfl (lv_at hl 0 rfl) ?_
      refine lv_aload_n hx hb dX11_wearer_5 rfl (lv_at hl 2 rfl) ?_
      refine va_get (D := (dC, dI)) (ci := 11) (v := .int (v 24)) (C := RX11) (T := TX11) (N := 79) hx hb hts inB_11 hown hE.1 hP 0 rfl rfl 48 (by decide) (hts _ k_1368) (fun _ h9 => h9) rfl dX11_wearer_6 ?_
      have b24_v : 0 ≤ (v 24).toInt ∧ (v 24).toInt ≤ 6 := YIb.b hIv.1 24 (by decide)
      refine lv_icmp_ge (tgt := 37) hx hb dX11_wearer_9 (by decide) (fun c2 => ?_) (fun c2 => ?_)
      · skip
        have zc2 : (v 24).toInt ≤ l3_1.toInt := by rw [fa_le] at c2; exact c2
        have rg3 := fb_rng l3_1
        have rg4 := fb_rng (v 24)
        refine lv_iload_n hx hb dX11_wearer_37 rfl (lv_at hl 1 rfl) ?_
        exact ret l2_1 () _ _ _ _ _ _ rfl (hT1.symm.trans (gsY_X11_wearer_1_q0 c2)) hP hD hS dX11_wearer_38 (Nat.le_refl _) (Nat.le_refl _)
      · skip
        have zc2 : ¬ ((v 24).toInt ≤ l3_1.toInt) := by rw [fa_le] at c2; exact c2
        have rg5 := fb_rng l3_1
        have rg6 := fb_rng (v 24)
        refine lv_aload_n hx hb dX11_wearer_12 rfl (lv_at hl 2 rfl) ?_
        refine va_get (D := (dC, dI)) (ci := 11) (v := .ref (r 60)) (C := RX11) (T := TX11) (N := 79) hx hb hts inB_11 hown hE.1 hP 0 rfl rfl 60 (by decide) (hts _ k_1380) (fun _ h9 => h9) rfl dX11_wearer_13 ?_
        refine lv_bipush (v := 6) hx hb dX11_wearer_16 (by decide) ?_
        refine lv_iload_n hx hb dX11_wearer_18 rfl (lv_at hl 0 rfl) ?_
        refine lv_iadd hx hb dX11_wearer_19 ?_
        refine lv_topi (fun t7 et7 => ?_)
        have zt7 : t7.toInt = 6 + l3_1.toInt := by rw [et7]; exact add_i (by decide) rfl (by omega) (by omega)
        refine ldI hx hb hE hP 25 rfl (vp_in_iff.mpr ⟨by omega, by omega⟩) rfl rfl dX11_wearer_20 ?_
        refine lv_topi (fun t8 et8 => ?_)
        have zt8 : t7.toInt.toNat % 39 < 6 ∨ 12 ≤ t7.toInt.toNat % 39 ∨ (-1 ≤ t8.toInt ∧ t8.toInt ≤ 5) := by rw [et8]; exact wear_ld hCf.2.1 (show t7.toInt.toNat < 39 by omega)
        refine lv_iload_n hx hb dX11_wearer_21 rfl (lv_at hl 3 rfl) ?_
        refine lv_icmp_ne (tgt := 29) hx hb dX11_wearer_22 (by decide) (fun c9 => ?_) (fun c9 => ?_)
        · skip
          have zc9 : ¬ (t8.toInt = p1.toInt) := by rw [fa_eq] at c9; exact c9
          have rg10 := fb_rng t8
          have rg11 := fb_rng p1
          refine lv_iload_n hx hb dX11_wearer_29 rfl (lv_at hl 1 rfl) ?_
          refine lv_istore_n (lv' := [(2, .int l2_1), (3, .int l3_1), (0, .ref y0), (1, .int p1)]) hx hb dX11_wearer_30 rfl hl (by decide) rfl (fun ls hl => ?_)
          obtain ⟨t12, et12⟩ : ∃ y : Int32, y = l3_1 + 1 := ⟨_, rfl⟩
          have zt12 : t12.toInt = l3_1.toInt + 1 := by rw [et12]; exact add_i rfl (by decide) (by omega) (by omega)
          refine lv_iinc (v := t12) (lv' := [(3, .int t12), (2, .int l2_1), (0, .ref y0), (1, .int p1)]) hx hb dX11_wearer_31 hl (k := 1) rfl (by rw [et12]; rfl) (by decide) rfl (fun ls hl => ?_)
          refine lv_goto (tgt := 4) hx hb dX11_wearer_34 (by decide) ?_
          have rg13 := fb_rng t12
          exact ih1 l2_1 t12 ((gsY_X11_wearer_1_q1 c2 et7 et8 c9 et12).symm.trans hT1) ⟨show (0 : Int) ≤ t12.toInt by omega, show t12.toInt ≤ (2147483647 : Int) by omega⟩ (by show (2147483647 - t12.toInt).toNat < n1; omega) _ _ _ hP hD hS (lv_sub hl [0, 1, 2, 3] rfl)
        · skip
          have zc9 : t8.toInt = p1.toInt := by rw [fa_eq] at c9; exact c9
          have rg14 := fb_rng t8
          have rg15 := fb_rng p1
          refine lv_iload_n hx hb dX11_wearer_25 rfl (lv_at hl 0 rfl) ?_
          refine lv_goto (tgt := 30) hx hb dX11_wearer_26 (by decide) ?_
          refine lv_istore_n (lv' := [(2, .int l3_1), (3, .int l3_1), (0, .ref y0), (1, .int p1)]) hx hb dX11_wearer_30 rfl hl (by decide) rfl (fun ls hl => ?_)
          obtain ⟨t16, et16⟩ : ∃ y : Int32, y = l3_1 + 1 := ⟨_, rfl⟩
          have zt16 : t16.toInt = l3_1.toInt + 1 := by rw [et16]; exact add_i rfl (by decide) (by omega) (by omega)
          refine lv_iinc (v := t16) (lv' := [(3, .int t16), (2, .int l3_1), (0, .ref y0), (1, .int p1)]) hx hb dX11_wearer_31 hl (k := 1) rfl (by rw [et16]; rfl) (by decide) rfl (fun ls hl => ?_)
          refine lv_goto (tgt := 4) hx hb dX11_wearer_34 (by decide) ?_
          have rg17 := fb_rng t16
          exact ih1 l3_1 t16 ((gsY_X11_wearer_1_q2 c2 et7 et8 c9 et16).symm.trans hT1) ⟨show (0 : Int) ≤ t16.toInt by omega, show t16.toInt ≤ (2147483647 : Int) by omega⟩ (by show (2147483647 - t16.toInt).toNat < n1; omega) _ _ _ hP hD hS (lv_sub hl [0, 1, 2, 3] rfl)
  exact lp1 (4294967296 + NF) (-1) 0 gsY_X11_wearer_1_q3.symm ⟨by decide, by decide⟩ (by have q3 : (0 : Int32).toInt = 0 := (by decide); have q2 : ((-1) : Int32).toInt = -1 := (by decide); show (2147483647 - (0 : Int32).toInt).toNat < 4294967296 + NF; omega) _ _ _ hP hD hS (lv_sub hl [0, 1, 2, 3] rfl)
set_option maxHeartbeats 4000000 in
set_option maxRecDepth 100000 in
theorem sY_X11_lesser_1 (NF : Nat) (l : Launch) (dC : Nat → ClassId) (dI : Nat → Nat → Nat) (cy : Nat → ClassId) (y0 : Nat) (r : Nat → Nat) (p0 : Int32) (p1 : Int32) (v : Nat → Int32) (f : Nat → Nat → Int32) (w : Int64) (g : Nat → Int64) (hIv : YI v) (hCf : YC f) (hRf : progOK (f 4) (f 5) (v 9).toInt.toNat)  : ctI l (dC, dI) cy yX11_lesser cX11_lesser 2 .int 1 60 0 0 Unit [.int p0, .int p1] (YW cy y0 r v f w g) (fun r u => gsY_X11_lesser_1 NF p0 p1 v f w g = r ∧ (r.toInt ≤ p0.toInt) ∧ (r.toInt ≤ p1.toInt)) (fun u => YW cy y0 r v f w g) := by
  refine ctI_of (by decide) (Nat.le_of_ble_eq_true rfl) (fun p e s m below meth c A ls Q hx hb hml hts hown hE hP hD hA hl ret => ?_)
  have hUv : (v 35).toInt + (v 36).toInt ≤ 40 := hIv.2
  have hown : s.vm.findClass RX11 = some m.cls := hown
  have hS : va_S A s.heap s.heap [] := va_S.rf
  have hl : lv_has ls 2 [(0, .int p0), (1, .int p1)] := hl
  refine lv_iload_n hx hb dX11_lesser_0 rfl (lv_at hl 0 rfl) ?_
  refine lv_iload_n hx hb dX11_lesser_1 rfl (lv_at hl 1 rfl) ?_
  refine lv_icmp_ge (tgt := 9) hx hb dX11_lesser_2 (by decide) (fun c1 => ?_) (fun c1 => ?_)
  · skip
    have zc1 : p1.toInt ≤ p0.toInt := by rw [fa_le] at c1; exact c1
    have rg2 := fb_rng p0
    have rg3 := fb_rng p1
    refine lv_iload_n hx hb dX11_lesser_9 rfl (lv_at hl 1 rfl) ?_
    exact ret p1 () _ _ _ _ _ _ rfl ⟨(gsY_X11_lesser_1_q0 c1), (by show p1.toInt ≤ p0.toInt; omega), (by show p1.toInt ≤ p1.toInt; omega)⟩ hP hD hS dX11_lesser_10 (Nat.le_refl _) (Nat.le_refl _)
  · skip
    have zc1 : ¬ (p1.toInt ≤ p0.toInt) := by rw [fa_le] at c1; exact c1
    have rg4 := fb_rng p0
    have rg5 := fb_rng p1
    refine lv_iload_n hx hb dX11_lesser_5 rfl (lv_at hl 0 rfl) ?_
    refine lv_goto (tgt := 10) hx hb dX11_lesser_6 (by decide) ?_
    exact ret p0 () _ _ _ _ _ _ rfl ⟨(gsY_X11_lesser_1_q1 c1), (by show p0.toInt ≤ p0.toInt; omega), (by show p0.toInt ≤ p1.toInt; omega)⟩ hP hD hS dX11_lesser_10 (Nat.le_refl _) (Nat.le_refl _)
set_option maxHeartbeats 4000000 in
set_option maxRecDepth 100000 in
theorem sY_X11_greater_1 (NF : Nat) (l : Launch) (dC : Nat → ClassId) (dI : Nat → Nat → Nat) (cy : Nat → ClassId) (y0 : Nat) (r : Nat → Nat) (p0 : Int32) (p1 : Int32) (v : Nat → Int32) (f : Nat → Nat → Int32) (w : Int64) (g : Nat → Int64) (hIv : YI v) (hCf : YC f) (hRf : progOK (f 4) (f 5) (v 9).toInt.toNat)  : ctI l (dC, dI) cy yX11_greater cX11_greater 2 .int 1 60 0 0 Unit [.int p0, .int p1] (YW cy y0 r v f w g) (fun r u => gsY_X11_greater_1 NF p0 p1 v f w g = r) (fun u => YW cy y0 r v f w g) := by
  refine ctI_of (by decide) (Nat.le_of_ble_eq_true rfl) (fun p e s m below meth c A ls Q hx hb hml hts hown hE hP hD hA hl ret => ?_)
  have hUv : (v 35).toInt + (v 36).toInt ≤ 40 := hIv.2
  have hown : s.vm.findClass RX11 = some m.cls := hown
  have hS : va_S A s.heap s.heap [] := va_S.rf
  have hl : lv_has ls 2 [(0, .int p0), (1, .int p1)] := hl
  refine lv_iload_n hx hb dX11_greater_0 rfl (lv_at hl 0 rfl) ?_
  refine lv_iload_n hx hb dX11_greater_1 rfl (lv_at hl 1 rfl) ?_
  refine lv_icmp_le (tgt := 9) hx hb dX11_greater_2 (by decide) (fun c1 => ?_) (fun c1 => ?_)
  · skip
    have zc1 : p0.toInt ≤ p1.toInt := by rw [fa_le] at c1; exact c1
    have rg2 := fb_rng p0
    have rg3 := fb_rng p1
    refine lv_iload_n hx hb dX11_greater_9 rfl (lv_at hl 1 rfl) ?_
    exact ret p1 () _ _ _ _ _ _ rfl (gsY_X11_greater_1_q0 c1) hP hD hS dX11_greater_10 (Nat.le_refl _) (Nat.le_refl _)
  · skip
    have zc1 : ¬ (p0.toInt ≤ p1.toInt) := by rw [fa_le] at c1; exact c1
    have rg4 := fb_rng p0
    have rg5 := fb_rng p1
    refine lv_iload_n hx hb dX11_greater_5 rfl (lv_at hl 0 rfl) ?_
    refine lv_goto (tgt := 10) hx hb dX11_greater_6 (by decide) ?_
    exact ret p0 () _ _ _ _ _ _ rfl (gsY_X11_greater_1_q1 c1) hP hD hS dX11_greater_10 (Nat.le_refl _) (Nat.le_refl _)
set_option maxHeartbeats 4000000 in
set_option maxRecDepth 100000 in
theorem sY_X11_goDay_1 (NF : Nat) (l : Launch) (dC : Nat → ClassId) (dI : Nat → Nat → Nat) (cy : Nat → ClassId) (y0 : Nat) (r : Nat → Nat) (p1 : Int32) (v : Nat → Int32) (f : Nat → Nat → Int32) (w : Int64) (g : Nat → Int64) (hIv : YI v) (hCf : YC f) (hRf : progOK (f 4) (f 5) (v 9).toInt.toNat)  : ctI l (dC, dI) cy yX11_goDay cX11_goDay 4 .int 7 191 0 0 ((Nat → Int32) × (Nat → Nat → Int32) × (Int64) × (Nat → Int64)) [.ref y0, .int p1] (YW cy y0 r v f w g) (fun r u => gsY_X11_goDay_1 NF p1 v f w g = (r, u) ∧ KV [] u.1 v ∧ KF [7, 8, 24] u.2.1 f ∧ YI u.1 ∧ YC u.2.1 ∧ progOK (u.2.1 4) (u.2.1 5) (u.1 9).toInt.toNat ∧ u.1 0 = v 0 ∧ u.1 1 = v 1 ∧ u.1 2 = v 2 ∧ u.1 3 = v 3 ∧ u.1 4 = v 4 ∧ u.1 5 = v 5 ∧ u.1 8 = v 8 ∧ u.1 9 = v 9 ∧ u.1 10 = v 10 ∧ u.1 13 = v 13 ∧ u.1 14 = v 14 ∧ u.1 15 = v 15 ∧ u.1 17 = v 17 ∧ u.1 18 = v 18 ∧ u.1 24 = v 24 ∧ u.1 25 = v 25 ∧ u.1 35 = v 35 ∧ u.1 36 = v 36 ∧ u.1 38 = v 38 ∧ u.1 39 = v 39) (fun u => YW cy y0 r u.1 u.2.1 u.2.2.1 u.2.2.2) := by
  refine ctI_of (by decide) (Nat.le_of_ble_eq_true rfl) (fun p e s m below meth c A ls Q hx hb hml hts hown hE hP hD hA hl ret => ?_)
  have hUv : (v 35).toInt + (v 36).toInt ≤ 40 := hIv.2
  have hM_v : KV [] v v := fun _ _ => rfl
  have hA_f : KF [7, 8, 24] f f := fun _ _ => rfl
  have hown : s.vm.findClass RX11 = some m.cls := hown
  have hS : va_S A s.heap s.heap [] := va_S.rf
  have hl : lv_has ls 4 [(0, .ref y0), (1, .int p1)] := hl
  refine lv_iconst (v := 0) hx hb dX11_goDay_0 (by decide) ?_
  refine lv_istore_n (lv' := [(2, .int 0), (0, .ref y0), (1, .int p1)]) hx hb dX11_goDay_1 rfl hl (by decide) rfl (fun ls hl => ?_)
  have lp1 : ∀ (n1 : Nat) (l2_1 : Int32) (v1 : Nat → Int32) (f1 : Nat → Nat → Int32) (w1 : Int64) (g1 : Nat → Int64), YI v1 → YC f1 → progOK (f1 4) (f1 5) (v1 9).toInt.toNat → v1 0 = (v 0) → v1 1 = (v 1) → v1 2 = (v 2) → v1 3 = (v 3) → v1 4 = (v 4) → v1 5 = (v 5) → v1 8 = (v 8) → v1 9 = (v 9) → v1 10 = (v 10) → v1 13 = (v 13) → v1 14 = (v 14) → v1 15 = (v 15) → v1 17 = (v 17) → v1 18 = (v 18) → v1 24 = (v 24) → v1 25 = (v 25) → v1 35 = (v 35) → v1 36 = (v 36) → v1 38 = (v 38) → v1 39 = (v 39) → gsY_X11_goDay_1_L1 NF p1 v n1 l2_1 v1 f1 w1 g1 = (gsY_X11_goDay_1 NF p1 v f w g) → ((0 : Int) ≤ l2_1.toInt ∧ l2_1.toInt ≤ 2147483647) → KV [] v1 v → KF [7, 8, 24] f1 f → (2147483647 - l2_1.toInt).toNat < n1 → ∀ (H : Heap) (locs : List Loc) (ls : Array Slot), va_P (dC, dI) vwCl (YW cy y0 r v1 f1 w1 g1) H → va_D A (YW cy y0 r v1 f1 w1 g1) → va_S A s.heap H locs → lv_has ls 4 [(2, .int l2_1), (0, .ref y0), (1, .int p1)] → W p l e { frames := 7, cells := 0, slots := 0, locals := 191 } s m ([.ref y0, .int p1] : List Value).toArray below meth c H locs 0 0 Q (F0 m 2 ls []) := by
    intro n1
    induction n1 with
    | zero => intro l2_1 v1 f1 w1 g1 hIv1 hCf1 hRf1 hq0_v1 hq1_v1 hq2_v1 hq3_v1 hq4_v1 hq5_v1 hq8_v1 hq9_v1 hq10_v1 hq13_v1 hq14_v1 hq15_v1 hq17_v1 hq18_v1 hq24_v1 hq25_v1 hq35_v1 hq36_v1 hq38_v1 hq39_v1 hT1 hr2_1 hM_v1 hA_f1 hm; exact absurd hm (Nat.not_lt_zero _)
    | succ n1 ih1 =>
      intro l2_1 v1 f1 w1 g1 hIv1 hCf1 hRf1 hq0_v1 hq1_v1 hq2_v1 hq3_v1 hq4_v1 hq5_v1 hq8_v1 hq9_v1 hq10_v1 hq13_v1 hq14_v1 hq15_v1 hq17_v1 hq18_v1 hq24_v1 hq25_v1 hq35_v1 hq36_v1 hq38_v1 hq39_v1 hT1 hr2_1 hM_v1 hA_f1 hm1 H locs ls hP hD hS hl
      have hUv1 : (v1 35).toInt + (v1 36).toInt ≤ 40 := hIv1.2
      have zq9_v1 := congrArg Int32.toInt hq9_v1
      refine lv_iload_n hx hb dX11_goDay_2 rfl (lv_at hl 0 rfl) ?_
      refine lv_aload_n hx hb dX11_goDay_3 rfl (lv_at hl 1 rfl) ?_
      refine va_get (D := (dC, dI)) (ci := 11) (v := .int (v1 24)) (C := RX11) (T := TX11) (N := 79) hx hb hts inB_11 hown hE.1 hP 0 rfl rfl 48 (by decide) (hts _ k_1368) (fun _ h9 => h9) rfl dX11_goDay_4 ?_
      refine tI (y := (v 24)) hq24_v1 ?_
      have b24_v : 0 ≤ (v 24).toInt ∧ (v 24).toInt ≤ 6 := YIb.b hIv.1 24 (by decide)
      refine lv_icmp_ge (tgt := 40) hx hb dX11_goDay_7 (by decide) (fun c2 => ?_) (fun c2 => ?_)
      · skip
        have zc2 : (v 24).toInt ≤ l2_1.toInt := by rw [fa_le] at c2; exact c2
        have rg3 := fb_rng l2_1
        have rg4 := fb_rng (v 24)
        refine lv_iconst (v := 0) hx hb dX11_goDay_40 (by decide) ?_
        refine lv_istore_n (lv' := [(2, .int 0), (0, .ref y0), (1, .int p1)]) hx hb dX11_goDay_41 rfl hl (by decide) rfl (fun ls hl => ?_)
        have lp5 : ∀ (n5 : Nat) (l2_5 : Int32) (v5 : Nat → Int32) (f5 : Nat → Nat → Int32) (w5 : Int64) (g5 : Nat → Int64), YI v5 → YC f5 → progOK (f5 4) (f5 5) (v5 9).toInt.toNat → v5 0 = (v 0) → v5 1 = (v 1) → v5 2 = (v 2) → v5 3 = (v 3) → v5 4 = (v 4) → v5 5 = (v 5) → v5 8 = (v 8) → v5 9 = (v 9) → v5 10 = (v 10) → v5 13 = (v 13) → v5 14 = (v 14) → v5 15 = (v 15) → v5 17 = (v 17) → v5 18 = (v 18) → v5 24 = (v 24) → v5 25 = (v 25) → v5 35 = (v 35) → v5 36 = (v 36) → v5 38 = (v 38) → v5 39 = (v 39) → gsY_X11_goDay_1_L5 NF p1 v n5 l2_5 v5 f5 w5 g5 = (gsY_X11_goDay_1 NF p1 v f w g) → ((0 : Int) ≤ l2_5.toInt ∧ l2_5.toInt ≤ 2147483647) → KV [] v5 v → KF [7, 8, 24] f5 f → (2147483647 - l2_5.toInt).toNat < n5 → ∀ (H : Heap) (locs : List Loc) (ls : Array Slot), va_P (dC, dI) vwCl (YW cy y0 r v5 f5 w5 g5) H → va_D A (YW cy y0 r v5 f5 w5 g5) → va_S A s.heap H locs → lv_has ls 4 [(2, .int l2_5), (0, .ref y0), (1, .int p1)] → W p l e { frames := 7, cells := 0, slots := 0, locals := 191 } s m ([.ref y0, .int p1] : List Value).toArray below meth c H locs 0 0 Q (F0 m 42 ls []) := by
          intro n5
          induction n5 with
          | zero => intro l2_5 v5 f5 w5 g5 hIv5 hCf5 hRf5 hq0_v5 hq1_v5 hq2_v5 hq3_v5 hq4_v5 hq5_v5 hq8_v5 hq9_v5 hq10_v5 hq13_v5 hq14_v5 hq15_v5 hq17_v5 hq18_v5 hq24_v5 hq25_v5 hq35_v5 hq36_v5 hq38_v5 hq39_v5 hT5 hr2_5 hM_v5 hA_f5 hm; exact absurd hm (Nat.not_lt_zero _)
          | succ n5 ih5 =>
            intro l2_5 v5 f5 w5 g5 hIv5 hCf5 hRf5 hq0_v5 hq1_v5 hq2_v5 hq3_v5 hq4_v5 hq5_v5 hq8_v5 hq9_v5 hq10_v5 hq13_v5 hq14_v5 hq15_v5 hq17_v5 hq18_v5 hq24_v5 hq25_v5 hq35_v5 hq36_v5 hq38_v5 hq39_v5 hT5 hr2_5 hM_v5 hA_f5 hm5 H locs ls hP hD hS hl
            have hUv5 : (v5 35).toInt + (v5 36).toInt ≤ 40 := hIv5.2
            have zq9_v5 := congrArg Int32.toInt hq9_v5
            refine lv_iload_n hx hb dX11_goDay_42 rfl (lv_at hl 0 rfl) ?_
            refine lv_aload_n hx hb dX11_goDay_43 rfl (lv_at hl 1 rfl) ?_
            refine va_get (D := (dC, dI)) (ci := 11) (v := .int (v5 25)) (C := RX11) (T := TX11) (N := 79) hx hb hts inB_11 hown hE.1 hP 0 rfl rfl 49 (by decide) (hts _ k_1369) (fun _ h9 => h9) rfl dX11_goDay_44 ?_
            refine tI (y := (v 25)) hq25_v5 ?_
            have b25_v : 0 ≤ (v 25).toInt ∧ (v 25).toInt ≤ 6 := YIb.b hIv.1 25 (by decide)
            refine lv_icmp_ge (tgt := 146) hx hb dX11_goDay_47 (by decide) (fun c6 => ?_) (fun c6 => ?_)
            · skip
              have zc6 : (v 25).toInt ≤ l2_5.toInt := by rw [fa_le] at c6; exact c6
              have rg7 := fb_rng l2_5
              have rg8 := fb_rng (v 25)
              refine lv_aload_n hx hb dX11_goDay_146 rfl (lv_at hl 1 rfl) ?_
              refine va_get (D := (dC, dI)) (ci := 11) (v := .ref (r 60)) (C := RX11) (T := TX11) (N := 79) hx hb hts inB_11 hown hE.1 hP 0 rfl rfl 60 (by decide) (hts _ k_1380) (fun _ h9 => h9) rfl dX11_goDay_147 ?_
              refine lv_bipush (v := 37) hx hb dX11_goDay_150 (by decide) ?_
              refine lv_dup2_11 hx hb dX11_goDay_152 rfl rfl ?_
              refine ldI hx hb hE hP 25 rfl (vp_in_nI (n := 37) (by decide) (by decide)) rfl rfl dX11_goDay_153 ?_
              refine lv_topi (fun t9 et9 => ?_)
              have zt9 : 37 % 39 < 6 ∨ 12 ≤ 37 % 39 ∨ (-1 ≤ t9.toInt ∧ t9.toInt ≤ 5) := by rw [et9]; exact wear_ld hCf5.2.1 (show 37 < 39 by omega)
              refine lv_iconst (v := 1) hx hb dX11_goDay_154 (by decide) ?_
              refine lv_iadd hx hb dX11_goDay_155 ?_
              refine lv_topi (fun t10 et10 => ?_)
              refine stI hx hb hE hP hD hS 25 rfl (vp_in_nI (n := 37) (by decide) (by decide)) rfl dX11_goDay_156 (fun H locs hP hD hS => ?_)
              obtain ⟨f11, ef11, hP, hD⟩ : ∃ fz9, fz9 = upd2 f5 24 (upd (f5 24) (37 : Int32).toNatClampNeg t10) ∧ va_P (dC, dI) vwCl (YW cy y0 r v5 fz9 w5 g5) H ∧ va_D A (YW cy y0 r v5 fz9 w5 g5) := ⟨_, rfl, hP, hD⟩
              have hCf11 : YC f11 := by rw [ef11]; exact ⟨hCf5.1, (wear_st hCf5.2.1 (by show 37 % 39 < 6 ∨ 12 ≤ 37 % 39 ∨ (-1 ≤ t10.toInt ∧ t10.toInt ≤ 5); omega)), hCf5.2.2.1, hCf5.2.2.2.1, hCf5.2.2.2.2.1, hCf5.2.2.2.2.2⟩
              have hRf11 : progOK (f11 4) (f11 5) (v5 9).toInt.toNat := by rw [ef11]; exact hRf5
              have hA_f11 : KF [7, 8, 24] f11 f := by rw [ef11]; exact KF.up hA_f5 rfl
              refine lv_aload_n hx hb dX11_goDay_157 rfl (lv_at hl 1 rfl) ?_
              refine cbVi (n := 0) (rest := []) hx hb hml hown hts hE hP hD hS hA (sY_X11_wearers_1 NF l dC dI cy y0 r  v5 f11 w5 g5 hIv5 hCf11 hRf11 ) k_1805 k_1807 k_80 k_114 k_1808 (by decide +kernel) ⟨Nat.le_of_ble_eq_true rfl, Nat.le_of_ble_eq_true rfl⟩ 0 11 rfl rfl (rfl) hl.1 rfl (Nat.le_of_ble_eq_true rfl) dX11_goDay_158 (fun r12 u H locs hw hP hD hS => ?_)
              obtain ⟨hG13, hw⟩ := hw
              refine lv_aload_n hx hb dX11_goDay_161 rfl (lv_at hl 1 rfl) ?_
              refine cbVi (n := 0) (rest := [.int r12]) hx hb hml hown hts hE hP hD hS hA (sY_X11_fittedOnes_1 NF l dC dI cy y0 r  v5 f11 w5 g5 hIv5 hCf11 hRf11 ) k_1809 k_1811 k_81 k_114 k_1812 (by decide +kernel) ⟨Nat.le_of_ble_eq_true rfl, Nat.le_of_ble_eq_true rfl⟩ 0 11 rfl rfl (rfl) hl.1 rfl (Nat.le_of_ble_eq_true rfl) dX11_goDay_162 (fun r14 u H locs hw hP hD hS => ?_)
              obtain ⟨hG15, hw⟩ := hw
              obtain ⟨v16, f17, w18, g19⟩ := u
              obtain ⟨kV_v16, kF_f17, hIv16, hCf17, hRf17, hk0_v16, hk1_v16, hk2_v16, hk3_v16, hk4_v16, hk5_v16, hk8_v16, hk9_v16, hk10_v16, hk13_v16, hk14_v16, hk15_v16, hk17_v16, hk18_v16, hk24_v16, hk25_v16, hk35_v16, hk36_v16, hk38_v16, hk39_v16⟩ := hw
              have hM_v16 : KV [] v16 v := KV.tr kV_v16 hM_v5 rfl
              have hA_f17 : KF [7, 8, 24] f17 f := KF.tr kF_f17 hA_f11 rfl
              have hP : va_P (dC, dI) vwCl (YW cy y0 r v16 f17 w18 g19) H := hP
              have hD : va_D A (YW cy y0 r v16 f17 w18 g19) := hD
              have hUv16 : (v16 35).toInt + (v16 36).toInt ≤ 40 := hIv16.2
              have hq0_v16 : v16 0 = (v 0) := hk0_v16.trans hq0_v5
              have hq1_v16 : v16 1 = (v 1) := hk1_v16.trans hq1_v5
              have hq2_v16 : v16 2 = (v 2) := hk2_v16.trans hq2_v5
              have hq3_v16 : v16 3 = (v 3) := hk3_v16.trans hq3_v5
              have hq4_v16 : v16 4 = (v 4) := hk4_v16.trans hq4_v5
              have hq5_v16 : v16 5 = (v 5) := hk5_v16.trans hq5_v5
              have hq8_v16 : v16 8 = (v 8) := hk8_v16.trans hq8_v5
              have hq9_v16 : v16 9 = (v 9) := hk9_v16.trans hq9_v5
              have zq9_v16 := congrArg Int32.toInt hq9_v16
              have hq10_v16 : v16 10 = (v 10) := hk10_v16.trans hq10_v5
              have hq13_v16 : v16 13 = (v 13) := hk13_v16.trans hq13_v5
              have hq14_v16 : v16 14 = (v 14) := hk14_v16.trans hq14_v5
              have hq15_v16 : v16 15 = (v 15) := hk15_v16.trans hq15_v5
              have hq17_v16 : v16 17 = (v 17) := hk17_v16.trans hq17_v5
              have hq18_v16 : v16 18 = (v 18) := hk18_v16.trans hq18_v5
              have hq24_v16 : v16 24 = (v 24) := hk24_v16.trans hq24_v5
              have hq25_v16 : v16 25 = (v 25) := hk25_v16.trans hq25_v5
              have hq35_v16 : v16 35 = (v 35) := hk35_v16.trans hq35_v5
              have hq36_v16 : v16 36 = (v 36) := hk36_v16.trans hq36_v5
              have hq38_v16 : v16 38 = (v 38) := hk38_v16.trans hq38_v5
              have hq39_v16 : v16 39 = (v 39) := hk39_v16.trans hq39_v5
              refine lv_iconst (v := (-1)) hx hb dX11_goDay_165 (by decide) ?_
              refine lv_ixor hx hb dX11_goDay_166 ?_
              refine lv_topi (fun t20 et20 => ?_)
              refine lv_iand hx hb dX11_goDay_167 ?_
              refine lv_topi (fun t21 et21 => ?_)
              have zt21 : 0 ≤ t21.toInt ∧ t21.toInt ≤ 63 := by rw [et21]; exact and_left (by omega) (by omega)
              refine lv_istore_n (lv' := [(2, .int t21), (0, .ref y0), (1, .int p1)]) hx hb dX11_goDay_168 rfl hl (by decide) rfl (fun ls hl => ?_)
              refine lv_iconst (v := 0) hx hb dX11_goDay_169 (by decide) ?_
              refine lv_istore_n (lv' := [(3, .int 0), (2, .int t21), (0, .ref y0), (1, .int p1)]) hx hb dX11_goDay_170 rfl hl (by decide) rfl (fun ls hl => ?_)
              have lp22 : ∀ (n22 : Nat) (l3_22 : Int32) (v22 : Nat → Int32) (f22 : Nat → Nat → Int32) (w22 : Int64) (g22 : Nat → Int64), YI v22 → YC f22 → progOK (f22 4) (f22 5) (v22 9).toInt.toNat → v22 0 = (v 0) → v22 1 = (v 1) → v22 2 = (v 2) → v22 3 = (v 3) → v22 4 = (v 4) → v22 5 = (v 5) → v22 8 = (v 8) → v22 9 = (v 9) → v22 10 = (v 10) → v22 13 = (v 13) → v22 14 = (v 14) → v22 15 = (v 15) → v22 17 = (v 17) → v22 18 = (v 18) → v22 24 = (v 24) → v22 25 = (v 25) → v22 35 = (v 35) → v22 36 = (v 36) → v22 38 = (v 38) → v22 39 = (v 39) → gsY_X11_goDay_1_L22 NF v t21 n22 l3_22 v22 f22 w22 g22 = (gsY_X11_goDay_1 NF p1 v f w g) → ((0 : Int) ≤ l3_22.toInt ∧ l3_22.toInt ≤ 2147483647) → KV [] v22 v → KF [7, 8, 24] f22 f → (2147483647 - l3_22.toInt).toNat < n22 → ∀ (H : Heap) (locs : List Loc) (ls : Array Slot), va_P (dC, dI) vwCl (YW cy y0 r v22 f22 w22 g22) H → va_D A (YW cy y0 r v22 f22 w22 g22) → va_S A s.heap H locs → lv_has ls 4 [(3, .int l3_22), (2, .int t21), (0, .ref y0), (1, .int p1)] → W p l e { frames := 7, cells := 0, slots := 0, locals := 191 } s m ([.ref y0, .int p1] : List Value).toArray below meth c H locs 0 0 Q (F0 m 171 ls []) := by
                intro n22
                induction n22 with
                | zero => intro l3_22 v22 f22 w22 g22 hIv22 hCf22 hRf22 hq0_v22 hq1_v22 hq2_v22 hq3_v22 hq4_v22 hq5_v22 hq8_v22 hq9_v22 hq10_v22 hq13_v22 hq14_v22 hq15_v22 hq17_v22 hq18_v22 hq24_v22 hq25_v22 hq35_v22 hq36_v22 hq38_v22 hq39_v22 hT22 hr3_22 hM_v22 hA_f22 hm; exact absurd hm (Nat.not_lt_zero _)
                | succ n22 ih22 =>
                  intro l3_22 v22 f22 w22 g22 hIv22 hCf22 hRf22 hq0_v22 hq1_v22 hq2_v22 hq3_v22 hq4_v22 hq5_v22 hq8_v22 hq9_v22 hq10_v22 hq13_v22 hq14_v22 hq15_v22 hq17_v22 hq18_v22 hq24_v22 hq25_v22 hq35_v22 hq36_v22 hq38_v22 hq39_v22 hT22 hr3_22 hM_v22 hA_f22 hm22 H locs ls hP hD hS hl
                  have hUv22 : (v22 35).toInt + (v22 36).toInt ≤ 40 := hIv22.2
                  have zq9_v22 := congrArg Int32.toInt hq9_v22
                  refine lv_iload_n hx hb dX11_goDay_171 rfl (lv_at hl 0 rfl) ?_
                  refine lv_aload_n hx hb dX11_goDay_172 rfl (lv_at hl 2 rfl) ?_
                  refine va_get (D := (dC, dI)) (ci := 11) (v := .int (v22 24)) (C := RX11) (T := TX11) (N := 79) hx hb hts inB_11 hown hE.1 hP 0 rfl rfl 48 (by decide) (hts _ k_1368) (fun _ h9 => h9) rfl dX11_goDay_173 ?_
                  refine tI (y := (v 24)) hq24_v22 ?_
                  have b24_v : 0 ≤ (v 24).toInt ∧ (v 24).toInt ≤ 6 := YIb.b hIv.1 24 (by decide)
                  refine lv_icmp_ge (tgt := 204) hx hb dX11_goDay_176 (by decide) (fun c23 => ?_) (fun c23 => ?_)
                  · skip
                    have zc23 : (v 24).toInt ≤ l3_22.toInt := by rw [fa_le] at c23; exact c23
                    have rg24 := fb_rng l3_22
                    refine lv_iload_n hx hb dX11_goDay_204 rfl (lv_at hl 1 rfl) ?_
                    exact ret t21 (v22, f22, w22, g22) _ _ _ _ _ _ rfl ⟨(hT22.symm.trans (gsY_X11_goDay_1_q0 c23)), hM_v22, hA_f22, hIv22, hCf22, hRf22, hq0_v22, hq1_v22, hq2_v22, hq3_v22, hq4_v22, hq5_v22, hq8_v22, hq9_v22, hq10_v22, hq13_v22, hq14_v22, hq15_v22, hq17_v22, hq18_v22, hq24_v22, hq25_v22, hq35_v22, hq36_v22, hq38_v22, hq39_v22⟩ hP hD hS dX11_goDay_205 (Nat.le_refl _) (Nat.le_refl _)
                  · skip
                    have zc23 : ¬ ((v 24).toInt ≤ l3_22.toInt) := by rw [fa_le] at c23; exact c23
                    have rg25 := fb_rng l3_22
                    refine lv_iload_n hx hb dX11_goDay_179 rfl (lv_at hl 1 rfl) ?_
                    refine lv_iload_n hx hb dX11_goDay_180 rfl (lv_at hl 0 rfl) ?_
                    refine lv_ishr hx hb dX11_goDay_181 ?_
                    refine lv_topi (fun t26 et26 => ?_)
                    refine lv_iconst (v := 1) hx hb dX11_goDay_182 (by decide) ?_
                    refine lv_iand hx hb dX11_goDay_183 ?_
                    refine lv_topi (fun t27 et27 => ?_)
                    have zt27 : 0 ≤ t27.toInt ∧ t27.toInt < 2 := by rw [et27]; exact and_rng _ (k := 1) (by decide) (by decide)
                    refine lv_iconst (v := 1) hx hb dX11_goDay_184 (by decide) ?_
                    refine lv_icmp_ne (tgt := 198) hx hb dX11_goDay_185 (by decide) (fun c28 => ?_) (fun c28 => ?_)
                    · skip
                      have zc28 : ¬ (t27.toInt = 1) := by rw [fa_eq, show (1 : Int32).toInt = 1 from by decide] at c28; exact c28
                      obtain ⟨t29, et29⟩ : ∃ y : Int32, y = l3_22 + 1 := ⟨_, rfl⟩
                      have zt29 : t29.toInt = l3_22.toInt + 1 := by rw [et29]; exact add_i rfl (by decide) (by omega) (by omega)
                      refine lv_iinc (v := t29) (lv' := [(3, .int t29), (2, .int t21), (0, .ref y0), (1, .int p1)]) hx hb dX11_goDay_198 hl (k := 0) rfl (by rw [et29]; rfl) (by decide) rfl (fun ls hl => ?_)
                      refine lv_goto (tgt := 171) hx hb dX11_goDay_201 (by decide) ?_
                      have rg30 := fb_rng t29
                      exact ih22 t29 v22 f22 w22 g22 hIv22 hCf22 hRf22 hq0_v22 hq1_v22 hq2_v22 hq3_v22 hq4_v22 hq5_v22 hq8_v22 hq9_v22 hq10_v22 hq13_v22 hq14_v22 hq15_v22 hq17_v22 hq18_v22 hq24_v22 hq25_v22 hq35_v22 hq36_v22 hq38_v22 hq39_v22 ((gsY_X11_goDay_1_q1 c23 et26 et27 c28 et29).symm.trans hT22) ⟨show (0 : Int) ≤ t29.toInt by omega, show t29.toInt ≤ (2147483647 : Int) by omega⟩ hM_v22 hA_f22 (by show (2147483647 - t29.toInt).toNat < n22; omega) _ _ _ hP hD hS (lv_sub hl [0, 1, 2, 3] rfl)
                    · skip
                      have zc28 : t27.toInt = 1 := by rw [fa_eq, show (1 : Int32).toInt = 1 from by decide] at c28; exact c28
                      refine lv_aload_n hx hb dX11_goDay_188 rfl (lv_at hl 2 rfl) ?_
                      refine va_get (D := (dC, dI)) (ci := 11) (v := .ref (r 60)) (C := RX11) (T := TX11) (N := 79) hx hb hts inB_11 hown hE.1 hP 0 rfl rfl 60 (by decide) (hts _ k_1380) (fun _ h9 => h9) rfl dX11_goDay_189 ?_
                      refine lv_bipush (v := 6) hx hb dX11_goDay_192 (by decide) ?_
                      refine lv_iload_n hx hb dX11_goDay_194 rfl (lv_at hl 0 rfl) ?_
                      refine lv_iadd hx hb dX11_goDay_195 ?_
                      refine lv_topi (fun t31 et31 => ?_)
                      have zt31 : t31.toInt = 6 + l3_22.toInt := by rw [et31]; exact add_i (by decide) rfl (by omega) (by omega)
                      refine lv_iconst (v := (-1)) hx hb dX11_goDay_196 (by decide) ?_
                      refine stI hx hb hE hP hD hS 25 rfl (vp_in_iff.mpr ⟨by omega, by omega⟩) rfl dX11_goDay_197 (fun H locs hP hD hS => ?_)
                      obtain ⟨f32, ef32, hP, hD⟩ : ∃ fz9, fz9 = upd2 f22 24 (upd (f22 24) t31.toNatClampNeg (-1)) ∧ va_P (dC, dI) vwCl (YW cy y0 r v22 fz9 w22 g22) H ∧ va_D A (YW cy y0 r v22 fz9 w22 g22) := ⟨_, rfl, hP, hD⟩
                      have hCf32 : YC f32 := by rw [ef32]; exact ⟨hCf22.1, (wear_st hCf22.2.1 (by have q9 : ((-1) : Int32).toInt = -1 := (by decide); show t31.toInt.toNat % 39 < 6 ∨ 12 ≤ t31.toInt.toNat % 39 ∨ (-1 ≤ ((-1) : Int32).toInt ∧ ((-1) : Int32).toInt ≤ 5); omega)), hCf22.2.2.1, hCf22.2.2.2.1, hCf22.2.2.2.2.1, hCf22.2.2.2.2.2⟩
                      have hRf32 : progOK (f32 4) (f32 5) (v22 9).toInt.toNat := by rw [ef32]; exact hRf22
                      have hA_f32 : KF [7, 8, 24] f32 f := by rw [ef32]; exact KF.up hA_f22 rfl
                      obtain ⟨t33, et33⟩ : ∃ y : Int32, y = l3_22 + 1 := ⟨_, rfl⟩
                      have zt33 : t33.toInt = l3_22.toInt + 1 := by rw [et33]; exact add_i rfl (by decide) (by omega) (by omega)
                      refine lv_iinc (v := t33) (lv' := [(3, .int t33), (2, .int t21), (0, .ref y0), (1, .int p1)]) hx hb dX11_goDay_198 hl (k := 0) rfl (by rw [et33]; rfl) (by decide) rfl (fun ls hl => ?_)
                      refine lv_goto (tgt := 171) hx hb dX11_goDay_201 (by decide) ?_
                      have rg34 := fb_rng t33
                      exact ih22 t33 v22 f32 w22 g22 hIv22 hCf32 hRf32 hq0_v22 hq1_v22 hq2_v22 hq3_v22 hq4_v22 hq5_v22 hq8_v22 hq9_v22 hq10_v22 hq13_v22 hq14_v22 hq15_v22 hq17_v22 hq18_v22 hq24_v22 hq25_v22 hq35_v22 hq36_v22 hq38_v22 hq39_v22 ((gsY_X11_goDay_1_q2 c23 et26 et27 c28 et31 ef32 et33).symm.trans hT22) ⟨show (0 : Int) ≤ t33.toInt by omega, show t33.toInt ≤ (2147483647 : Int) by omega⟩ hM_v22 hA_f32 (by show (2147483647 - t33.toInt).toNat < n22; omega) _ _ _ hP hD hS (lv_sub hl [0, 1, 2, 3] rfl)
              exact lp22 (4294967296 + NF) 0 v16 f17 w18 g19 hIv16 hCf17 hRf17 hq0_v16 hq1_v16 hq2_v16 hq3_v16 hq4_v16 hq5_v16 hq8_v16 hq9_v16 hq10_v16 hq13_v16 hq14_v16 hq15_v16 hq17_v16 hq18_v16 hq24_v16 hq25_v16 hq35_v16 hq36_v16 hq38_v16 hq39_v16 ((gsY_X11_goDay_1_q3 c6 et9 et10 ef11 hG13.symm hG15 et20 et21).symm.trans hT5) ⟨by decide, by decide⟩ hM_v16 hA_f17 (by have q3 : (0 : Int32).toInt = 0 := (by decide); show (2147483647 - (0 : Int32).toInt).toNat < 4294967296 + NF; omega) _ _ _ hP hD hS (lv_sub hl [0, 1, 2, 3] rfl)
            · skip
              have zc6 : ¬ ((v 25).toInt ≤ l2_5.toInt) := by rw [fa_le] at c6; exact c6
              have rg35 := fb_rng l2_5
              have rg36 := fb_rng (v 25)
              refine lv_aload_n hx hb dX11_goDay_50 rfl (lv_at hl 1 rfl) ?_
              refine lv_iload_n hx hb dX11_goDay_51 rfl (lv_at hl 0 rfl) ?_
              refine cbVi (n := 1) (rest := []) hx hb hml hown hts hE hP hD hS hA (sY_X11_wearer_1 NF l dC dI cy y0 r l2_5 v5 f5 w5 g5 hIv5 hCf5 hRf5 ) k_1775 k_1777 k_76 k_114 k_1778 (by decide +kernel) ⟨Nat.le_of_ble_eq_true rfl, Nat.le_of_ble_eq_true rfl⟩ 0 11 rfl rfl (rfl) hl.1 rfl (Nat.le_of_ble_eq_true rfl) dX11_goDay_52 (fun r37 u H locs hw hP hD hS => ?_)
              have hG38 := hw
              refine lv_if_ge (tgt := 61) hx hb dX11_goDay_55 (by decide) (fun c39 => ?_) (fun c39 => ?_)
              · skip
                have zc39 : 0 ≤ r37.toInt := by rw [fa_le, show (0 : Int32).toInt = 0 from by decide] at c39; exact c39
                refine lv_aload_n hx hb dX11_goDay_61 rfl (lv_at hl 1 rfl) ?_
                refine va_get (D := (dC, dI)) (ci := 11) (v := .ref (r 60)) (C := RX11) (T := TX11) (N := 79) hx hb hts inB_11 hown hE.1 hP 0 rfl rfl 60 (by decide) (hts _ k_1380) (fun _ h9 => h9) rfl dX11_goDay_62 ?_
                refine lv_bipush (v := 30) hx hb dX11_goDay_65 (by decide) ?_
                refine lv_iload_n hx hb dX11_goDay_67 rfl (lv_at hl 0 rfl) ?_
                refine lv_iadd hx hb dX11_goDay_68 ?_
                refine lv_topi (fun t40 et40 => ?_)
                have zt40 : t40.toInt = 30 + l2_5.toInt := by rw [et40]; exact add_i (by decide) rfl (by omega) (by omega)
                refine lv_bipush (v := 99) hx hb dX11_goDay_69 (by decide) ?_
                refine lv_aload_n hx hb dX11_goDay_71 rfl (lv_at hl 1 rfl) ?_
                refine va_get (D := (dC, dI)) (ci := 11) (v := .ref (r 60)) (C := RX11) (T := TX11) (N := 79) hx hb hts inB_11 hown hE.1 hP 0 rfl rfl 60 (by decide) (hts _ k_1380) (fun _ h9 => h9) rfl dX11_goDay_72 ?_
                refine lv_bipush (v := 30) hx hb dX11_goDay_75 (by decide) ?_
                refine lv_iload_n hx hb dX11_goDay_77 rfl (lv_at hl 0 rfl) ?_
                refine lv_iadd hx hb dX11_goDay_78 ?_
                refine tI (y := t40) et40.symm ?_
                refine ldI hx hb hE hP 25 rfl (vp_in_iff.mpr ⟨by omega, by omega⟩) rfl rfl dX11_goDay_79 ?_
                refine lv_topi (fun t41 et41 => ?_)
                have zt41 : t40.toInt.toNat % 39 < 6 ∨ 12 ≤ t40.toInt.toNat % 39 ∨ (-1 ≤ t41.toInt ∧ t41.toInt ≤ 5) := by rw [et41]; exact wear_ld hCf5.2.1 (show t40.toInt.toNat < 39 by omega)
                refine lv_iconst (v := 1) hx hb dX11_goDay_80 (by decide) ?_
                refine lv_iadd hx hb dX11_goDay_81 ?_
                refine lv_topi (fun t42 et42 => ?_)
                have lt43 : (99 : Int32).toInt = 99 := by decide
                refine cbSi (n := 2) (rest := [.int t40, .ref (r 60)]) hx hb hml hown hts hE hP hD hS hA (sY_X11_lesser_1 NF l dC dI cy y0 r 99 t42 v5 f5 w5 g5 hIv5 hCf5 hRf5 ) k_1799 k_1800 k_114 k_1801 (by decide +kernel) ⟨Nat.le_of_ble_eq_true rfl, Nat.le_of_ble_eq_true rfl⟩ (rfl) hl.1 rfl (Nat.le_of_ble_eq_true rfl) dX11_goDay_82 (fun r44 u H locs hw hP hD hS => ?_)
                obtain ⟨hG45, hw⟩ := hw
                obtain ⟨pp46, pp47⟩ := hw
                have pp46 : r44.toInt ≤ (99 : Int32).toInt := pp46
                have pp47 : r44.toInt ≤ t42.toInt := pp47
                refine stI hx hb hE hP hD hS 25 rfl (vp_in_iff.mpr ⟨by omega, by omega⟩) rfl dX11_goDay_85 (fun H locs hP hD hS => ?_)
                obtain ⟨f48, ef48, hP, hD⟩ : ∃ fz9, fz9 = upd2 f5 24 (upd (f5 24) t40.toNatClampNeg r44) ∧ va_P (dC, dI) vwCl (YW cy y0 r v5 fz9 w5 g5) H ∧ va_D A (YW cy y0 r v5 fz9 w5 g5) := ⟨_, rfl, hP, hD⟩
                have hCf48 : YC f48 := by rw [ef48]; exact ⟨hCf5.1, (wear_st hCf5.2.1 (by show t40.toInt.toNat % 39 < 6 ∨ 12 ≤ t40.toInt.toNat % 39 ∨ (-1 ≤ r44.toInt ∧ r44.toInt ≤ 5); omega)), hCf5.2.2.1, hCf5.2.2.2.1, hCf5.2.2.2.2.1, hCf5.2.2.2.2.2⟩
                have hRf48 : progOK (f48 4) (f48 5) (v5 9).toInt.toNat := by rw [ef48]; exact hRf5
                have hA_f48 : KF [7, 8, 24] f48 f := by rw [ef48]; exact KF.up hA_f5 rfl
                refine lv_aload_n hx hb dX11_goDay_86 rfl (lv_at hl 1 rfl) ?_
                refine va_get (D := (dC, dI)) (ci := 11) (v := .ref (r 60)) (C := RX11) (T := TX11) (N := 79) hx hb hts inB_11 hown hE.1 hP 0 rfl rfl 60 (by decide) (hts _ k_1380) (fun _ h9 => h9) rfl dX11_goDay_87 ?_
                refine lv_bipush (v := 12) hx hb dX11_goDay_90 (by decide) ?_
                refine lv_iload_n hx hb dX11_goDay_92 rfl (lv_at hl 0 rfl) ?_
                refine lv_iadd hx hb dX11_goDay_93 ?_
                refine lv_topi (fun t49 et49 => ?_)
                have zt49 : t49.toInt = 12 + l2_5.toInt := by rw [et49]; exact add_i (by decide) rfl (by omega) (by omega)
                refine lv_iconst (v := 0) hx hb dX11_goDay_94 (by decide) ?_
                refine lv_aload_n hx hb dX11_goDay_95 rfl (lv_at hl 1 rfl) ?_
                refine va_get (D := (dC, dI)) (ci := 11) (v := .ref (r 60)) (C := RX11) (T := TX11) (N := 79) hx hb hts inB_11 hown hE.1 hP 0 rfl rfl 60 (by decide) (hts _ k_1380) (fun _ h9 => h9) rfl dX11_goDay_96 ?_
                refine lv_bipush (v := 12) hx hb dX11_goDay_99 (by decide) ?_
                refine lv_iload_n hx hb dX11_goDay_101 rfl (lv_at hl 0 rfl) ?_
                refine lv_iadd hx hb dX11_goDay_102 ?_
                refine tI (y := t49) et49.symm ?_
                refine ldI hx hb hE hP 25 rfl (vp_in_iff.mpr ⟨by omega, by omega⟩) rfl rfl dX11_goDay_103 ?_
                refine lv_topi (fun t50 et50 => ?_)
                have zt50 : t49.toInt.toNat % 39 < 6 ∨ 12 ≤ t49.toInt.toNat % 39 ∨ (-1 ≤ t50.toInt ∧ t50.toInt ≤ 5) := by rw [et50]; exact wear_ld hCf48.2.1 (show t49.toInt.toNat < 39 by omega)
                refine lv_iload_n hx hb dX11_goDay_104 rfl (lv_at hl 2 rfl) ?_
                refine cbSi (n := 1) (rest := [.int t50, .int 0, .int t49, .ref (r 60)]) hx hb hml hown hts hE hP hD hS hA (sY_X11_truth_1 NF l dC dI cy y0 r p1 v5 f48 w5 g5 hIv5 hCf48 hRf48 ) k_1761 k_1762 k_114 k_1763 (by decide +kernel) ⟨Nat.le_of_ble_eq_true rfl, Nat.le_of_ble_eq_true rfl⟩ (rfl) hl.1 rfl (Nat.le_of_ble_eq_true rfl) dX11_goDay_105 (fun r51 u H locs hw hP hD hS => ?_)
                obtain ⟨hG52, hw⟩ := hw
                refine lv_isub hx hb dX11_goDay_108 ?_
                refine lv_topi (fun t53 et53 => ?_)
                refine cbSi (n := 2) (rest := [.int t49, .ref (r 60)]) hx hb hml hown hts hE hP hD hS hA (sY_X11_greater_1 NF l dC dI cy y0 r 0 t53 v5 f48 w5 g5 hIv5 hCf48 hRf48 ) k_1802 k_1803 k_114 k_1804 (by decide +kernel) ⟨Nat.le_of_ble_eq_true rfl, Nat.le_of_ble_eq_true rfl⟩ (rfl) hl.1 rfl (Nat.le_of_ble_eq_true rfl) dX11_goDay_109 (fun r54 u H locs hw hP hD hS => ?_)
                have hG55 := hw
                refine stI hx hb hE hP hD hS 25 rfl (vp_in_iff.mpr ⟨by omega, by omega⟩) rfl dX11_goDay_112 (fun H locs hP hD hS => ?_)
                obtain ⟨f56, ef56, hP, hD⟩ : ∃ fz9, fz9 = upd2 f48 24 (upd (f48 24) t49.toNatClampNeg r54) ∧ va_P (dC, dI) vwCl (YW cy y0 r v5 fz9 w5 g5) H ∧ va_D A (YW cy y0 r v5 fz9 w5 g5) := ⟨_, rfl, hP, hD⟩
                have hCf56 : YC f56 := by rw [ef56]; exact ⟨hCf48.1, (wear_st hCf48.2.1 (by show t49.toInt.toNat % 39 < 6 ∨ 12 ≤ t49.toInt.toNat % 39 ∨ (-1 ≤ r54.toInt ∧ r54.toInt ≤ 5); omega)), hCf48.2.2.1, hCf48.2.2.2.1, hCf48.2.2.2.2.1, hCf48.2.2.2.2.2⟩
                have hRf56 : progOK (f56 4) (f56 5) (v5 9).toInt.toNat := by rw [ef56]; exact hRf48
                have hA_f56 : KF [7, 8, 24] f56 f := by rw [ef56]; exact KF.up hA_f48 rfl
                refine lv_aload_n hx hb dX11_goDay_113 rfl (lv_at hl 1 rfl) ?_
                refine va_get (D := (dC, dI)) (ci := 11) (v := .ref (r 60)) (C := RX11) (T := TX11) (N := 79) hx hb hts inB_11 hown hE.1 hP 0 rfl rfl 60 (by decide) (hts _ k_1380) (fun _ h9 => h9) rfl dX11_goDay_114 ?_
                refine lv_bipush (v := 18) hx hb dX11_goDay_117 (by decide) ?_
                refine lv_iload_n hx hb dX11_goDay_119 rfl (lv_at hl 0 rfl) ?_
                refine lv_iadd hx hb dX11_goDay_120 ?_
                refine lv_topi (fun t57 et57 => ?_)
                have zt57 : t57.toInt = 18 + l2_5.toInt := by rw [et57]; exact add_i (by decide) rfl (by omega) (by omega)
                refine lv_iconst (v := 0) hx hb dX11_goDay_121 (by decide) ?_
                refine lv_aload_n hx hb dX11_goDay_122 rfl (lv_at hl 1 rfl) ?_
                refine va_get (D := (dC, dI)) (ci := 11) (v := .ref (r 60)) (C := RX11) (T := TX11) (N := 79) hx hb hts inB_11 hown hE.1 hP 0 rfl rfl 60 (by decide) (hts _ k_1380) (fun _ h9 => h9) rfl dX11_goDay_123 ?_
                refine lv_bipush (v := 18) hx hb dX11_goDay_126 (by decide) ?_
                refine lv_iload_n hx hb dX11_goDay_128 rfl (lv_at hl 0 rfl) ?_
                refine lv_iadd hx hb dX11_goDay_129 ?_
                refine tI (y := t57) et57.symm ?_
                refine ldI hx hb hE hP 25 rfl (vp_in_iff.mpr ⟨by omega, by omega⟩) rfl rfl dX11_goDay_130 ?_
                refine lv_topi (fun t58 et58 => ?_)
                have zt58 : t57.toInt.toNat % 39 < 6 ∨ 12 ≤ t57.toInt.toNat % 39 ∨ (-1 ≤ t58.toInt ∧ t58.toInt ≤ 5) := by rw [et58]; exact wear_ld hCf56.2.1 (show t57.toInt.toNat < 39 by omega)
                refine lv_iload_n hx hb dX11_goDay_131 rfl (lv_at hl 2 rfl) ?_
                refine cbSi (n := 1) (rest := [.int t58, .int 0, .int t57, .ref (r 60)]) hx hb hml hown hts hE hP hD hS hA (sY_X11_truth_1 NF l dC dI cy y0 r p1 v5 f56 w5 g5 hIv5 hCf56 hRf56 ) k_1761 k_1762 k_114 k_1763 (by decide +kernel) ⟨Nat.le_of_ble_eq_true rfl, Nat.le_of_ble_eq_true rfl⟩ (rfl) hl.1 rfl (Nat.le_of_ble_eq_true rfl) dX11_goDay_132 (fun r59 u H locs hw hP hD hS => ?_)
                obtain ⟨hG60, hw⟩ := hw
                refine lv_isub hx hb dX11_goDay_135 ?_
                refine lv_topi (fun t61 et61 => ?_)
                refine cbSi (n := 2) (rest := [.int t57, .ref (r 60)]) hx hb hml hown hts hE hP hD hS hA (sY_X11_greater_1 NF l dC dI cy y0 r 0 t61 v5 f56 w5 g5 hIv5 hCf56 hRf56 ) k_1802 k_1803 k_114 k_1804 (by decide +kernel) ⟨Nat.le_of_ble_eq_true rfl, Nat.le_of_ble_eq_true rfl⟩ (rfl) hl.1 rfl (Nat.le_of_ble_eq_true rfl) dX11_goDay_136 (fun r62 u H locs hw hP hD hS => ?_)
                have hG63 := hw
                refine stI hx hb hE hP hD hS 25 rfl (vp_in_iff.mpr ⟨by omega, by omega⟩) rfl dX11_goDay_139 (fun H locs hP hD hS => ?_)
                obtain ⟨f64, ef64, hP, hD⟩ : ∃ fz9, fz9 = upd2 f56 24 (upd (f56 24) t57.toNatClampNeg r62) ∧ va_P (dC, dI) vwCl (YW cy y0 r v5 fz9 w5 g5) H ∧ va_D A (YW cy y0 r v5 fz9 w5 g5) := ⟨_, rfl, hP, hD⟩
                have hCf64 : YC f64 := by rw [ef64]; exact ⟨hCf56.1, (wear_st hCf56.2.1 (by show t57.toInt.toNat % 39 < 6 ∨ 12 ≤ t57.toInt.toNat % 39 ∨ (-1 ≤ r62.toInt ∧ r62.toInt ≤ 5); omega)), hCf56.2.2.1, hCf56.2.2.2.1, hCf56.2.2.2.2.1, hCf56.2.2.2.2.2⟩
                have hRf64 : progOK (f64 4) (f64 5) (v5 9).toInt.toNat := by rw [ef64]; exact hRf56
                have hA_f64 : KF [7, 8, 24] f64 f := by rw [ef64]; exact KF.up hA_f56 rfl
                obtain ⟨t65, et65⟩ : ∃ y : Int32, y = l2_5 + 1 := ⟨_, rfl⟩
                have zt65 : t65.toInt = l2_5.toInt + 1 := by rw [et65]; exact add_i rfl (by decide) (by omega) (by omega)
                refine lv_iinc (v := t65) (lv' := [(2, .int t65), (0, .ref y0), (1, .int p1)]) hx hb dX11_goDay_140 hl (k := 0) rfl (by rw [et65]; rfl) (by decide) rfl (fun ls hl => ?_)
                refine lv_goto (tgt := 42) hx hb dX11_goDay_143 (by decide) ?_
                have rg66 := fb_rng t65
                exact ih5 t65 v5 f64 w5 g5 hIv5 hCf64 hRf64 hq0_v5 hq1_v5 hq2_v5 hq3_v5 hq4_v5 hq5_v5 hq8_v5 hq9_v5 hq10_v5 hq13_v5 hq14_v5 hq15_v5 hq17_v5 hq18_v5 hq24_v5 hq25_v5 hq35_v5 hq36_v5 hq38_v5 hq39_v5 ((gsY_X11_goDay_1_q4 c6 hG38.symm c39 et40 et41 et42 hG45.symm ef48 et49 et50 hG52.symm et53 hG55.symm ef56 et57 et58 hG60.symm et61 hG63.symm ef64 et65).symm.trans hT5) ⟨show (0 : Int) ≤ t65.toInt by omega, show t65.toInt ≤ (2147483647 : Int) by omega⟩ hM_v5 hA_f64 (by show (2147483647 - t65.toInt).toNat < n5; omega) _ _ _ hP hD hS (lv_sub hl [0, 1, 2] rfl)
              · skip
                have zc39 : ¬ (0 ≤ r37.toInt) := by rw [fa_le, show (0 : Int32).toInt = 0 from by decide] at c39; exact c39
                refine lv_goto (tgt := 140) hx hb dX11_goDay_58 (by decide) ?_
                obtain ⟨t67, et67⟩ : ∃ y : Int32, y = l2_5 + 1 := ⟨_, rfl⟩
                have zt67 : t67.toInt = l2_5.toInt + 1 := by rw [et67]; exact add_i rfl (by decide) (by omega) (by omega)
                refine lv_iinc (v := t67) (lv' := [(2, .int t67), (0, .ref y0), (1, .int p1)]) hx hb dX11_goDay_140 hl (k := 0) rfl (by rw [et67]; rfl) (by decide) rfl (fun ls hl => ?_)
                refine lv_goto (tgt := 42) hx hb dX11_goDay_143 (by decide) ?_
                have rg68 := fb_rng t67
                exact ih5 t67 v5 f5 w5 g5 hIv5 hCf5 hRf5 hq0_v5 hq1_v5 hq2_v5 hq3_v5 hq4_v5 hq5_v5 hq8_v5 hq9_v5 hq10_v5 hq13_v5 hq14_v5 hq15_v5 hq17_v5 hq18_v5 hq24_v5 hq25_v5 hq35_v5 hq36_v5 hq38_v5 hq39_v5 ((gsY_X11_goDay_1_q5 c6 hG38.symm c39 et67).symm.trans hT5) ⟨show (0 : Int) ≤ t67.toInt by omega, show t67.toInt ≤ (2147483647 : Int) by omega⟩ hM_v5 hA_f5 (by show (2147483647 - t67.toInt).toNat < n5; omega) _ _ _ hP hD hS (lv_sub hl [0, 1, 2] rfl)
        exact lp5 (4294967296 + NF) 0 v1 f1 w1 g1 hIv1 hCf1 hRf1 hq0_v1 hq1_v1 hq2_v1 hq3_v1 hq4_v1 hq5_v1 hq8_v1 hq9_v1 hq10_v1 hq13_v1 hq14_v1 hq15_v1 hq17_v1 hq18_v1 hq24_v1 hq25_v1 hq35_v1 hq36_v1 hq38_v1 hq39_v1 ((gsY_X11_goDay_1_q6 c2).symm.trans hT1) ⟨by decide, by decide⟩ hM_v1 hA_f1 (by have q2 : (0 : Int32).toInt = 0 := (by decide); show (2147483647 - (0 : Int32).toInt).toNat < 4294967296 + NF; omega) _ _ _ hP hD hS (lv_sub hl [0, 1, 2] rfl)
      · skip
        have zc2 : ¬ ((v 24).toInt ≤ l2_1.toInt) := by rw [fa_le] at c2; exact c2
        have rg69 := fb_rng l2_1
        have rg70 := fb_rng (v 24)
        refine lv_aload_n hx hb dX11_goDay_10 rfl (lv_at hl 1 rfl) ?_
        refine va_get (D := (dC, dI)) (ci := 11) (v := .ref (r 60)) (C := RX11) (T := TX11) (N := 79) hx hb hts inB_11 hown hE.1 hP 0 rfl rfl 60 (by decide) (hts _ k_1380) (fun _ h9 => h9) rfl dX11_goDay_11 ?_
        refine lv_iload_n hx hb dX11_goDay_14 rfl (lv_at hl 0 rfl) ?_
        refine lv_bipush (v := 99) hx hb dX11_goDay_15 (by decide) ?_
        refine lv_aload_n hx hb dX11_goDay_17 rfl (lv_at hl 1 rfl) ?_
        refine va_get (D := (dC, dI)) (ci := 11) (v := .ref (r 60)) (C := RX11) (T := TX11) (N := 79) hx hb hts inB_11 hown hE.1 hP 0 rfl rfl 60 (by decide) (hts _ k_1380) (fun _ h9 => h9) rfl dX11_goDay_18 ?_
        refine lv_iload_n hx hb dX11_goDay_21 rfl (lv_at hl 0 rfl) ?_
        refine ldI hx hb hE hP 25 rfl (vp_in_iff.mpr ⟨by omega, by omega⟩) rfl rfl dX11_goDay_22 ?_
        refine lv_topi (fun t71 et71 => ?_)
        have zt71 : l2_1.toInt.toNat % 39 < 6 ∨ 12 ≤ l2_1.toInt.toNat % 39 ∨ (-1 ≤ t71.toInt ∧ t71.toInt ≤ 5) := by rw [et71]; exact wear_ld hCf1.2.1 (show l2_1.toInt.toNat < 39 by omega)
        refine lv_aload_n hx hb dX11_goDay_23 rfl (lv_at hl 1 rfl) ?_
        refine va_get (D := (dC, dI)) (ci := 11) (v := .ref (r 36)) (C := RX11) (T := TX11) (N := 79) hx hb hts inB_11 hown hE.1 hP 0 rfl rfl 36 (by decide) (hts _ k_1356) (fun _ h9 => h9) rfl dX11_goDay_24 ?_
        refine lv_iload_n hx hb dX11_goDay_27 rfl (lv_at hl 0 rfl) ?_
        refine ldI hx hb hE hP 19 rfl (vp_in_iff.mpr ⟨by omega, by omega⟩) rfl rfl dX11_goDay_28 ?_
        refine lv_topi (fun t72 et72 => ?_)
        refine lv_iadd hx hb dX11_goDay_29 ?_
        refine lv_topi (fun t73 et73 => ?_)
        have lt74 : (99 : Int32).toInt = 99 := by decide
        refine cbSi (n := 2) (rest := [.int l2_1, .ref (r 60)]) hx hb hml hown hts hE hP hD hS hA (sY_X11_lesser_1 NF l dC dI cy y0 r 99 t73 v1 f1 w1 g1 hIv1 hCf1 hRf1 ) k_1799 k_1800 k_114 k_1801 (by decide +kernel) ⟨Nat.le_of_ble_eq_true rfl, Nat.le_of_ble_eq_true rfl⟩ (rfl) hl.1 rfl (Nat.le_of_ble_eq_true rfl) dX11_goDay_30 (fun r75 u H locs hw hP hD hS => ?_)
        obtain ⟨hG76, hw⟩ := hw
        obtain ⟨pp77, pp78⟩ := hw
        have pp77 : r75.toInt ≤ (99 : Int32).toInt := pp77
        have pp78 : r75.toInt ≤ t73.toInt := pp78
        refine stI hx hb hE hP hD hS 25 rfl (vp_in_iff.mpr ⟨by omega, by omega⟩) rfl dX11_goDay_33 (fun H locs hP hD hS => ?_)
        obtain ⟨f79, ef79, hP, hD⟩ : ∃ fz9, fz9 = upd2 f1 24 (upd (f1 24) l2_1.toNatClampNeg r75) ∧ va_P (dC, dI) vwCl (YW cy y0 r v1 fz9 w1 g1) H ∧ va_D A (YW cy y0 r v1 fz9 w1 g1) := ⟨_, rfl, hP, hD⟩
        have hCf79 : YC f79 := by rw [ef79]; exact ⟨hCf1.1, (wear_st hCf1.2.1 (by show l2_1.toInt.toNat % 39 < 6 ∨ 12 ≤ l2_1.toInt.toNat % 39 ∨ (-1 ≤ r75.toInt ∧ r75.toInt ≤ 5); omega)), hCf1.2.2.1, hCf1.2.2.2.1, hCf1.2.2.2.2.1, hCf1.2.2.2.2.2⟩
        have hRf79 : progOK (f79 4) (f79 5) (v1 9).toInt.toNat := by rw [ef79]; exact hRf1
        have hA_f79 : KF [7, 8, 24] f79 f := by rw [ef79]; exact KF.up hA_f1 rfl
        obtain ⟨t80, et80⟩ : ∃ y : Int32, y = l2_1 + 1 := ⟨_, rfl⟩
        have zt80 : t80.toInt = l2_1.toInt + 1 := by rw [et80]; exact add_i rfl (by decide) (by omega) (by omega)
        refine lv_iinc (v := t80) (lv' := [(2, .int t80), (0, .ref y0), (1, .int p1)]) hx hb dX11_goDay_34 hl (k := 0) rfl (by rw [et80]; rfl) (by decide) rfl (fun ls hl => ?_)
        refine lv_goto (tgt := 2) hx hb dX11_goDay_37 (by decide) ?_
        have rg81 := fb_rng t80
        exact ih1 t80 v1 f79 w1 g1 hIv1 hCf79 hRf79 hq0_v1 hq1_v1 hq2_v1 hq3_v1 hq4_v1 hq5_v1 hq8_v1 hq9_v1 hq10_v1 hq13_v1 hq14_v1 hq15_v1 hq17_v1 hq18_v1 hq24_v1 hq25_v1 hq35_v1 hq36_v1 hq38_v1 hq39_v1 ((gsY_X11_goDay_1_q7 c2 et71 et72 et73 hG76.symm ef79 et80).symm.trans hT1) ⟨show (0 : Int) ≤ t80.toInt by omega, show t80.toInt ≤ (2147483647 : Int) by omega⟩ hM_v1 hA_f79 (by show (2147483647 - t80.toInt).toNat < n1; omega) _ _ _ hP hD hS (lv_sub hl [0, 1, 2] rfl)
  exact lp1 (4294967296 + NF) 0 v f w g hIv hCf hRf rfl rfl rfl rfl rfl rfl rfl rfl rfl rfl rfl rfl rfl rfl rfl rfl rfl rfl rfl rfl gsY_X11_goDay_1_q8.symm ⟨by decide, by decide⟩ hM_v hA_f (by have q2 : (0 : Int32).toInt = 0 := (by decide); show (2147483647 - (0 : Int32).toInt).toNat < 4294967296 + NF; omega) _ _ _ hP hD hS (lv_sub hl [0, 1, 2] rfl)
