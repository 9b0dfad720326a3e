set_option maxHeartbeats 4000000 in
set_option maxRecDepth 100000 in
theorem sX_X7_set_1 (NF : Nat) (l : Launch) (dC : Nat → ClassId) (dI : Nat → Nat → Nat) (cy : Nat → ClassId) (x0 : Nat) (x : Nat → Nat) (p1 : Int32) (p2 : Int32) (v : Nat → Int32) (f : Nat → Nat → Int32) (hIv : XI v)  : ctV l (dC, dI) cy yX7_set cX7_set 3 1 60 0 0 ((Nat → Int32) × (Nat → Nat → Int32)) [.ref (x 3), .int p1, .int p2] (XW cy x0 x v f) (fun u => gsX_X7_set_1 NF p1 p2 v f = u ∧ KV [11, 12, 13, 14, 15] u.1 v ∧ KF [] u.2 f ∧ XI u.1 ∧ u.1 0 = v 0 ∧ u.1 1 = v 1 ∧ u.1 7 = v 7 ∧ u.1 8 = v 8 ∧ u.1 9 = v 9 ∧ u.1 10 = v 10 ∧ u.1 31 = v 31 ∧ u.1 32 = v 32) (fun u => XW cy x0 x u.1 u.2) := by
  refine ctV_of (by decide) (Nat.le_of_ble_eq_true rfl) (fun p e s m below meth c A ls Q hx hb hml hts hown hnm hE hP hD hA hl ret => ?_)
  have hM_v : KV [11, 12, 13, 14, 15] v v := fun _ _ => rfl
  have hA_f : KF [] f f := fun _ _ => rfl
  have hown : s.vm.findClass RX7 = some m.cls := hown
  have hS : va_S A s.heap s.heap [] := va_S.rf
  have hl : lv_has ls 3 [(0, .ref (x 3)), (1, .int p1), (2, .int p2)] := hl
  refine lv_iload_n hx hb dX7_set_0 rfl (lv_at hl 1 rfl) ?_
  by_cases c1 : p1 = 104
  · skip
    refine lv_tableIn (off := 31) (tgt := 32) hx hb dX7_set_1 (by rw [c1]; decide) (by rw [c1]; decide) (by rw [c1]; decide) (by decide) ?_
    have zc1 : p1.toInt = 104 := by rw [fa_eq, show (104 : Int32).toInt = 104 from by decide] at c1; exact c1
    refine lv_aload_n hx hb dX7_set_32 rfl (lv_at hl 0 rfl) ?_
    refine lv_iload_n hx hb dX7_set_33 rfl (lv_at hl 2 rfl) ?_
    refine va_put (D := (dC, dI)) (ci := 7) (v := .int p2) (ty := tyX7 5) (C := RX7) (T := TX7) (N := 10) hx hb hts inB_7 tyX7 tyX7_ok nmX7 hown hE.1 hP hD hS 4 rfl rfl 5 (by decide) (hts _ k_228) (fun _ h9 => h9) rfl (tyX7_ok 5 (by decide)) rfl rfl (Nat.le_of_ble_eq_true rfl) dX7_set_34 (fun H locs hP hD hS => ?_)
    have hP : va_P (dC, dI) vwCl (XW cy x0 x (upd v 11 p2) f) H := hP
    have hD : va_D A (XW cy x0 x (upd v 11 p2) f) := hD
    refine lv_goto (tgt := 69) hx hb dX7_set_37 (by decide) ?_
    exact ret ((upd v 11 p2), f) _ _ _ _ _ _ ⟨(gsX_X7_set_1_q0 c1), (KV.up (j := 11) (x := p2) hM_v rfl), hA_f, (XI.upd (j := 11) (x := p2) hIv (rlo _) (rhi _)), rfl, rfl, rfl, rfl, rfl, rfl, rfl, rfl⟩ hP hD hS dX7_set_69 (Nat.le_refl _) (Nat.le_refl _)
  · skip
    have zc1 : ¬ (p1.toInt = 104) := by rw [fa_eq, show (104 : Int32).toInt = 104 from by decide] at c1; exact c1
    by_cases c2 : p1 = 105
    · skip
      refine lv_tableIn (off := 39) (tgt := 40) hx hb dX7_set_1 (by rw [c2]; decide) (by rw [c2]; decide) (by rw [c2]; decide) (by decide) ?_
      have zc2 : p1.toInt = 105 := by rw [fa_eq, show (105 : Int32).toInt = 105 from by decide] at c2; exact c2
      refine lv_aload_n hx hb dX7_set_40 rfl (lv_at hl 0 rfl) ?_
      refine lv_iload_n hx hb dX7_set_41 rfl (lv_at hl 2 rfl) ?_
      refine va_put (D := (dC, dI)) (ci := 7) (v := .int p2) (ty := tyX7 6) (C := RX7) (T := TX7) (N := 10) hx hb hts inB_7 tyX7 tyX7_ok nmX7 hown hE.1 hP hD hS 4 rfl rfl 6 (by decide) (hts _ k_234) (fun _ h9 => h9) rfl (tyX7_ok 6 (by decide)) rfl rfl (Nat.le_of_ble_eq_true rfl) dX7_set_42 (fun H locs hP hD hS => ?_)
      have hP : va_P (dC, dI) vwCl (XW cy x0 x (upd v 12 p2) f) H := hP
      have hD : va_D A (XW cy x0 x (upd v 12 p2) f) := hD
      refine lv_goto (tgt := 69) hx hb dX7_set_45 (by decide) ?_
      exact ret ((upd v 12 p2), f) _ _ _ _ _ _ ⟨(gsX_X7_set_1_q1 c1 c2), (KV.up (j := 12) (x := p2) hM_v rfl), hA_f, (XI.upd (j := 12) (x := p2) hIv (rlo _) (rhi _)), rfl, rfl, rfl, rfl, rfl, rfl, rfl, rfl⟩ hP hD hS dX7_set_69 (Nat.le_refl _) (Nat.le_refl _)
    · skip
      have zc2 : ¬ (p1.toInt = 105) := by rw [fa_eq, show (105 : Int32).toInt = 105 from by decide] at c2; exact c2
      by_cases c3 : p1 = 106
      · skip
        refine lv_tableIn (off := 47) (tgt := 48) hx hb dX7_set_1 (by rw [c3]; decide) (by rw [c3]; decide) (by rw [c3]; decide) (by decide) ?_
        have zc3 : p1.toInt = 106 := by rw [fa_eq, show (106 : Int32).toInt = 106 from by decide] at c3; exact c3
        refine lv_aload_n hx hb dX7_set_48 rfl (lv_at hl 0 rfl) ?_
        refine lv_iload_n hx hb dX7_set_49 rfl (lv_at hl 2 rfl) ?_
        refine va_put (D := (dC, dI)) (ci := 7) (v := .int p2) (ty := tyX7 7) (C := RX7) (T := TX7) (N := 10) hx hb hts inB_7 tyX7 tyX7_ok nmX7 hown hE.1 hP hD hS 4 rfl rfl 7 (by decide) (hts _ k_237) (fun _ h9 => h9) rfl (tyX7_ok 7 (by decide)) rfl rfl (Nat.le_of_ble_eq_true rfl) dX7_set_50 (fun H locs hP hD hS => ?_)
        have hP : va_P (dC, dI) vwCl (XW cy x0 x (upd v 13 p2) f) H := hP
        have hD : va_D A (XW cy x0 x (upd v 13 p2) f) := hD
        refine lv_goto (tgt := 69) hx hb dX7_set_53 (by decide) ?_
        exact ret ((upd v 13 p2), f) _ _ _ _ _ _ ⟨(gsX_X7_set_1_q2 c1 c2 c3), (KV.up (j := 13) (x := p2) hM_v rfl), hA_f, (XI.upd (j := 13) (x := p2) hIv (rlo _) (rhi _)), rfl, rfl, rfl, rfl, rfl, rfl, rfl, rfl⟩ hP hD hS dX7_set_69 (Nat.le_refl _) (Nat.le_refl _)
      · skip
        have zc3 : ¬ (p1.toInt = 106) := by rw [fa_eq, show (106 : Int32).toInt = 106 from by decide] at c3; exact c3
        by_cases c4 : p1 = 107
        · skip
          refine lv_tableIn (off := 55) (tgt := 56) hx hb dX7_set_1 (by rw [c4]; decide) (by rw [c4]; decide) (by rw [c4]; decide) (by decide) ?_
          have zc4 : p1.toInt = 107 := by rw [fa_eq, show (107 : Int32).toInt = 107 from by decide] at c4; exact c4
          refine lv_aload_n hx hb dX7_set_56 rfl (lv_at hl 0 rfl) ?_
          refine lv_iload_n hx hb dX7_set_57 rfl (lv_at hl 2 rfl) ?_
          refine va_put (D := (dC, dI)) (ci := 7) (v := .int p2) (ty := tyX7 8) (C := RX7) (T := TX7) (N := 10) hx hb hts inB_7 tyX7 tyX7_ok nmX7 hown hE.1 hP hD hS 4 rfl rfl 8 (by decide) (hts _ k_240) (fun _ h9 => h9) rfl (tyX7_ok 8 (by decide)) rfl rfl (Nat.le_of_ble_eq_true rfl) dX7_set_58 (fun H locs hP hD hS => ?_)
          have hP : va_P (dC, dI) vwCl (XW cy x0 x (upd v 14 p2) f) H := hP
          have hD : va_D A (XW cy x0 x (upd v 14 p2) f) := hD
          refine lv_goto (tgt := 69) hx hb dX7_set_61 (by decide) ?_
          exact ret ((upd v 14 p2), f) _ _ _ _ _ _ ⟨(gsX_X7_set_1_q3 c1 c2 c3 c4), (KV.up (j := 14) (x := p2) hM_v rfl), hA_f, (XI.upd (j := 14) (x := p2) hIv (rlo _) (rhi _)), rfl, rfl, rfl, rfl, rfl, rfl, rfl, rfl⟩ hP hD hS dX7_set_69 (Nat.le_refl _) (Nat.le_refl _)
        · skip
          have zc4 : ¬ (p1.toInt = 107) := by rw [fa_eq, show (107 : Int32).toInt = 107 from by decide] at c4; exact c4
          refine lv_tableOut (tgt := 64) hx hb dX7_set_1 (by omega) (by decide) ?_
          refine lv_aload_n hx hb dX7_set_64 rfl (lv_at hl 0 rfl) ?_
          refine lv_iload_n hx hb dX7_set_65 rfl (lv_at hl 2 rfl) ?_
          refine va_put (D := (dC, dI)) (ci := 7) (v := .int p2) (ty := tyX7 9) (C := RX7) (T := TX7) (N := 10) hx hb hts inB_7 tyX7 tyX7_ok nmX7 hown hE.1 hP hD hS 4 rfl rfl 9 (by decide) (hts _ k_243) (fun _ h9 => h9) rfl (tyX7_ok 9 (by decide)) rfl rfl (Nat.le_of_ble_eq_true rfl) dX7_set_66 (fun H locs hP hD hS => ?_)
          have hP : va_P (dC, dI) vwCl (XW cy x0 x (upd v 15 p2) f) H := hP
          have hD : va_D A (XW cy x0 x (upd v 15 p2) f) := hD
          exact ret ((upd v 15 p2), f) _ _ _ _ _ _ ⟨(gsX_X7_set_1_q4 c1 c2 c3 c4), (KV.up (j := 15) (x := p2) hM_v rfl), hA_f, (XI.upd (j := 15) (x := p2) hIv (rlo _) (rhi _)), rfl, rfl, rfl, rfl, rfl, rfl, rfl, rfl⟩ hP hD hS dX7_set_69 (Nat.le_refl _) (Nat.le_refl _)
set_option maxHeartbeats 4000000 in
set_option maxRecDepth 100000 in
theorem sX_X6_settingLine_1 (NF : Nat) (l : Launch) (dC : Nat → ClassId) (dI : Nat → Nat → Nat) (cy : Nat → ClassId) (x0 : Nat) (x : Nat → Nat) (p1 : Int32) (v : Nat → Int32) (f : Nat → Nat → Int32) (hIv : XI v)  : ctIS l (dC, dI) cy yX6_settingLine cX6_settingLine 4 .boolean 8 213 0 0 ((Nat → Int32) × (Nat → Nat → Int32)) [.ref (x 2), .int p1] (XW cy x0 x v f) (fun r u => gsX_X6_settingLine_1 NF p1 v f = (r, u) ∧ KV [2, 3, 4, 5, 6, 7, 8, 11, 12, 13, 14, 15] u.1 v ∧ KF [] u.2 f ∧ XI u.1 ∧ u.1 0 = v 0 ∧ u.1 1 = v 1 ∧ u.1 9 = v 9 ∧ u.1 10 = v 10 ∧ u.1 31 = v 31 ∧ u.1 32 = v 32 ∧ ((r = 1) ∨ (r = 0))) (fun u => XW cy x0 x u.1 u.2) := by
  refine ctIS_of (by decide) (Nat.le_of_ble_eq_true rfl) (fun p e s m below meth c A ls Q hx hb hml hts hown hE hF hT hP hD hA hl ret => ?_)
  have hM_v : KV [2, 3, 4, 5, 6, 7, 8, 11, 12, 13, 14, 15] v v := fun _ _ => rfl
  have hA_f : KF [] f f := fun _ _ => rfl
  have hown : s.vm.findClass RX6 = some m.cls := hown
  have hS : va_S A s.heap s.heap [] := va_S.rf
  have hl : lv_has ls 4 [(0, .ref (x 2)), (1, .int p1)] := hl
  refine lv_aload_n hx hb dX6_settingLine_0 rfl (lv_at hl 0 rfl) ?_
  refine va_get (D := (dC, dI)) (ci := 6) (v := .ref (x 0)) (C := RX6) (T := TX6) (N := 7) hx hb hts inB_6 hown hE.1 hP 3 rfl rfl 0 (by decide) (hts _ k_265) (fun _ h9 => h9) rfl dX6_settingLine_1 ?_
  refine va_getN (D := (dC, dI)) (ci := 9) (v := .int (v 2)) (C := RX9) (T := TX9) (N := 6) hx hb hts inB_9 hown hE.1 hP 1 rfl rfl 2 (by decide) (va_Nw.use rfl (hE.2 _ k_139)) (fun _ h9 => h9) rfl dX6_settingLine_4 ?_
  refine lv_istore_n (lv' := [(2, .int (v 2)), (0, .ref (x 2)), (1, .int p1)]) hx hb dX6_settingLine_7 rfl hl (by decide) rfl (fun ls hl => ?_)
  refine lv_aload_n hx hb dX6_settingLine_8 rfl (lv_at hl 1 rfl) ?_
  refine lv_iload_n hx hb dX6_settingLine_9 rfl (lv_at hl 0 rfl) ?_
  refine csVi (n := 1) (rest := []) hx hb hml hown hts hE hP hD hS hA hF hT (sX_X6_opened_1 NF l dC dI cy x0 x (v 2) v f hIv ) k_736 k_738 k_14 k_103 k_739 (by decide +kernel) ⟨Nat.le_of_ble_eq_true rfl, Nat.le_of_ble_eq_true rfl⟩ 3 6 rfl rfl (rfl) hl.1 rfl (Nat.le_of_ble_eq_true rfl) dX6_settingLine_10 (fun r1 u H locs hw hP hD hS => ?_)
  obtain ⟨hG2, hw⟩ := hw
  obtain ⟨v3, f4⟩ := u
  obtain ⟨kV_v3, kF_f4, hIv3, hk0_v3, hk1_v3, hk9_v3, hk10_v3, hk31_v3, hk32_v3, hw⟩ := hw
  have hM_v3 : KV [2, 3, 4, 5, 6, 7, 8, 11, 12, 13, 14, 15] v3 v := KV.tr kV_v3 hM_v rfl
  have hA_f4 : KF [] f4 f := KF.tr kF_f4 hA_f rfl
  have hP : va_P (dC, dI) vwCl (XW cy x0 x v3 f4) H := hP
  have hD : va_D A (XW cy x0 x v3 f4) := hD
  have hq0_v3 : v3 0 = (v 0) := hk0_v3
  have hq1_v3 : v3 1 = (v 1) := hk1_v3
  have hq9_v3 : v3 9 = (v 9) := hk9_v3
  have hq10_v3 : v3 10 = (v 10) := hk10_v3
  have hq31_v3 : v3 31 = (v 31) := hk31_v3
  have hq32_v3 : v3 32 = (v 32) := hk32_v3
  rcases hw with ⟨g5⟩ | ⟨g5⟩
  · skip
    subst g5
    refine lv_if_eq (tgt := 24) hx hb dX6_settingLine_13 (by decide) (fun c0 => absurd c0 (by decide)) (fun _ => ?_)
    refine lv_aload_n hx hb dX6_settingLine_16 rfl (lv_at hl 1 rfl) ?_
    refine lv_iload_n hx hb dX6_settingLine_17 rfl (lv_at hl 2 rfl) ?_
    refine csVi (n := 1) (rest := []) hx hb hml hown hts hE hP hD hS hA hF hT (sX_X6_numbered_1 NF l dC dI cy x0 x p1 v3 f4 hIv3 ) k_712 k_714 k_10 k_103 k_715 (by decide +kernel) ⟨Nat.le_of_ble_eq_true rfl, Nat.le_of_ble_eq_true rfl⟩ 3 6 rfl rfl (rfl) hl.1 rfl (Nat.le_of_ble_eq_true rfl) dX6_settingLine_18 (fun r6 u H locs hw hP hD hS => ?_)
    obtain ⟨hG7, hw⟩ := hw
    obtain ⟨v8, f9⟩ := u
    obtain ⟨kV_v8, kF_f9, hIv8, hk0_v8, hk1_v8, hk9_v8, hk10_v8, hk31_v8, hk32_v8⟩ := hw
    have hM_v8 : KV [2, 3, 4, 5, 6, 7, 8, 11, 12, 13, 14, 15] v8 v := KV.tr kV_v8 hM_v3 rfl
    have hA_f9 : KF [] f9 f := KF.tr kF_f9 hA_f4 rfl
    have hP : va_P (dC, dI) vwCl (XW cy x0 x v8 f9) H := hP
    have hD : va_D A (XW cy x0 x v8 f9) := hD
    have hq0_v8 : v8 0 = (v 0) := hk0_v8.trans hq0_v3
    have hq1_v8 : v8 1 = (v 1) := hk1_v8.trans hq1_v3
    have hq9_v8 : v8 9 = (v 9) := hk9_v8.trans hq9_v3
    have hq10_v8 : v8 10 = (v 10) := hk10_v8.trans hq10_v3
    have hq31_v8 : v8 31 = (v 31) := hk31_v8.trans hq31_v3
    have hq32_v8 : v8 32 = (v 32) := hk32_v8.trans hq32_v3
    refine lv_goto (tgt := 25) hx hb dX6_settingLine_21 (by decide) ?_
    refine lv_istore_n (lv' := [(3, .int r6), (2, .int (v 2)), (0, .ref (x 2)), (1, .int p1)]) hx hb dX6_settingLine_25 rfl hl (by decide) rfl (fun ls hl => ?_)
    refine lv_iload_n hx hb dX6_settingLine_26 rfl (lv_at hl 0 rfl) ?_
    refine lv_if_ge (tgt := 32) hx hb dX6_settingLine_27 (by decide) (fun c10 => ?_) (fun c10 => ?_)
    · skip
      have zc10 : 0 ≤ r6.toInt := by rw [fa_le, show (0 : Int32).toInt = 0 from by decide] at c10; exact c10
      refine lv_aload_n hx hb dX6_settingLine_32 rfl (lv_at hl 2 rfl) ?_
      refine va_get (D := (dC, dI)) (ci := 6) (v := .ref (x 3)) (C := RX6) (T := TX6) (N := 7) hx hb hts inB_6 hown hE.1 hP 3 rfl rfl 1 (by decide) (hts _ k_266) (fun _ h9 => h9) rfl dX6_settingLine_33 ?_
      refine lv_iload_n hx hb dX6_settingLine_36 rfl (lv_at hl 1 rfl) ?_
      refine lv_iload_n hx hb dX6_settingLine_37 rfl (lv_at hl 0 rfl) ?_
      refine cbVv (n := 2) (rest := []) hx hb hml hown hts hE hP hD hS hA (sX_X7_set_1 NF l dC dI cy x0 x (v 2) r6 v8 f9 hIv8 ) k_763 k_764 k_765 k_104 k_766 (by decide +kernel) ⟨Nat.le_of_ble_eq_true rfl, Nat.le_of_ble_eq_true rfl⟩ 4 7 rfl rfl (rfl) hl.1 rfl (Nat.le_of_ble_eq_true rfl) dX6_settingLine_38 (fun u H locs hw hP hD hS => ?_)
      obtain ⟨hG11, hw⟩ := hw
      obtain ⟨v12, f13⟩ := u
      obtain ⟨kV_v12, kF_f13, hIv12, hk0_v12, hk1_v12, hk7_v12, hk8_v12, hk9_v12, hk10_v12, hk31_v12, hk32_v12⟩ := hw
      have hM_v12 : KV [2, 3, 4, 5, 6, 7, 8, 11, 12, 13, 14, 15] v12 v := KV.tr kV_v12 hM_v8 rfl
      have hA_f13 : KF [] f13 f := KF.tr kF_f13 hA_f9 rfl
      have hP : va_P (dC, dI) vwCl (XW cy x0 x v12 f13) H := hP
      have hD : va_D A (XW cy x0 x v12 f13) := hD
      have hq0_v12 : v12 0 = (v 0) := hk0_v12.trans hq0_v8
      have hq1_v12 : v12 1 = (v 1) := hk1_v12.trans hq1_v8
      have hq7_v12 : v12 7 = (v8 7) := hk7_v12
      have hq8_v12 : v12 8 = (v8 8) := hk8_v12
      have hq9_v12 : v12 9 = (v 9) := hk9_v12.trans hq9_v8
      have hq10_v12 : v12 10 = (v 10) := hk10_v12.trans hq10_v8
      have hq31_v12 : v12 31 = (v 31) := hk31_v12.trans hq31_v8
      have hq32_v12 : v12 32 = (v 32) := hk32_v12.trans hq32_v8
      refine lv_iconst (v := 1) hx hb dX6_settingLine_41 (by decide) ?_
      exact ret 1 (v12, f13) _ _ _ _ _ _ rfl ⟨(gsX_X6_settingLine_1_q0 hG2 hG7 c10 hG11), hM_v12, hA_f13, hIv12, (hk0_v12.trans (hk0_v8.trans hk0_v3)), (hk1_v12.trans (hk1_v8.trans hk1_v3)), (hk9_v12.trans (hk9_v8.trans hk9_v3)), (hk10_v12.trans (hk10_v8.trans hk10_v3)), (hk31_v12.trans (hk31_v8.trans hk31_v3)), (hk32_v12.trans (hk32_v8.trans hk32_v3)), (Or.inl rfl)⟩ hP hD hS dX6_settingLine_42 (Nat.le_refl _) (Nat.le_refl _)
    · skip
      have zc10 : ¬ (0 ≤ r6.toInt) := by rw [fa_le, show (0 : Int32).toInt = 0 from by decide] at c10; exact c10
      refine lv_iconst (v := 0) hx hb dX6_settingLine_30 (by decide) ?_
      exact ret 0 (v8, f9) _ _ _ _ _ _ rfl ⟨(gsX_X6_settingLine_1_q1 hG2 hG7 c10), hM_v8, hA_f9, hIv8, (hk0_v8.trans hk0_v3), (hk1_v8.trans hk1_v3), (hk9_v8.trans hk9_v3), (hk10_v8.trans hk10_v3), (hk31_v8.trans hk31_v3), (hk32_v8.trans hk32_v3), (Or.inr rfl)⟩ hP hD hS dX6_settingLine_31 (Nat.le_refl _) (Nat.le_refl _)
  · skip
    subst g5
    refine lv_if_eq (tgt := 24) hx hb dX6_settingLine_13 (by decide) (fun _ => ?_) (fun c0 => absurd (by decide) c0)
    refine lv_iconst (v := (-1)) hx hb dX6_settingLine_24 (by decide) ?_
    refine lv_istore_n (lv' := [(3, .int (-1)), (2, .int (v 2)), (0, .ref (x 2)), (1, .int p1)]) hx hb dX6_settingLine_25 rfl hl (by decide) rfl (fun ls hl => ?_)
    refine lv_iload_n hx hb dX6_settingLine_26 rfl (lv_at hl 0 rfl) ?_
    refine lv_if_ge (tgt := 32) hx hb dX6_settingLine_27 (by decide) (fun c0 => absurd c0 (by decide)) (fun _ => ?_)
    refine lv_iconst (v := 0) hx hb dX6_settingLine_30 (by decide) ?_
    exact ret 0 (v3, f4) _ _ _ _ _ _ rfl ⟨(gsX_X6_settingLine_1_q2 hG2), hM_v3, hA_f4, hIv3, hk0_v3, hk1_v3, hk9_v3, hk10_v3, hk31_v3, hk32_v3, (Or.inr rfl)⟩ hP hD hS dX6_settingLine_31 (Nat.le_refl _) (Nat.le_refl _)
