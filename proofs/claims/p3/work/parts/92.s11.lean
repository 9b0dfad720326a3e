set_option maxHeartbeats 4000000 in
set_option maxRecDepth 100000 in
theorem sX_X7_set_1 (l : Launch) (dC : Nat → ClassId) (dI : Nat → Nat → Nat) (cy : Nat → ClassId) (x0 : Nat) (x : Nat → Nat) (p1 : Int32) (p2 : Int32) (v : Nat → Int32) (f : Nat → Nat → Int32) (hIv : XI v)  : ctV l (dC, dI) cy yX7_set cX7_set 3 1 60 0 0 ((Nat → Int32) × (Nat → Nat → Int32)) [.ref (x 3), .int p1, .int p2] (XW cy x0 x v f) (fun u => XI u.1 ∧ u.1 0 = v 0 ∧ u.1 1 = v 1 ∧ u.1 9 = v 9 ∧ u.1 10 = v 10 ∧ u.1 31 = v 31 ∧ u.1 32 = v 32) (fun u => XW cy x0 x u.1 u.2) := by
  refine ctV_of (by decide) (Nat.le_of_ble_eq_true rfl) (fun p e s m below meth c A ls Q hx hb hml hts hown hnm hE hP hD hA hl ret => ?_)
  have hown : s.vm.findClass RX7 = some m.cls := hown
  have hS : va_S A s.heap s.heap [] := va_S.rf
  have hl : lv_has ls 3 [(0, .ref (x 3)), (1, .int p1), (2, .int p2)] := hl
  refine lv_iload_n hx hb dX7_set_0 rfl (lv_at hl 1 rfl) ?_
  by_cases c1 : p1 = 104
  · skip
    refine lv_tableIn (off := 31) (tgt := 32) hx hb dX7_set_1 (by rw [c1]; decide) (by rw [c1]; decide) (by rw [c1]; decide) (by decide) ?_
    have zc1 : p1.toInt = 104 := by rw [fa_eq, show (104 : Int32).toInt = 104 from by decide] at c1; exact c1
    refine lv_aload_n hx hb dX7_set_32 rfl (lv_at hl 0 rfl) ?_
    refine lv_iload_n hx hb dX7_set_33 rfl (lv_at hl 2 rfl) ?_
    refine va_put (D := (dC, dI)) (ci := 7) (v := .int p2) (ty := tyX7 5) (C := RX7) (T := TX7) (N := 10) hx hb hts inB_7 tyX7 tyX7_ok nmX7 hown hE.1 hP hD hS 4 rfl rfl 5 (by decide) (hts _ k_228) (fun _ h9 => h9) rfl (tyX7_ok 5 (by decide)) rfl rfl (Nat.le_of_ble_eq_true rfl) dX7_set_34 (fun H locs hP hD hS => ?_)
    have hP : va_P (dC, dI) vwCl (XW cy x0 x (upd v 11 p2) f) H := hP
    have hD : va_D A (XW cy x0 x (upd v 11 p2) f) := hD
    refine lv_goto (tgt := 69) hx hb dX7_set_37 (by decide) ?_
    exact ret ((upd v 11 p2), f) _ _ _ _ _ _ ⟨(XI.upd (j := 11) (x := p2) hIv (rlo _) (rhi _)), rfl, rfl, rfl, rfl, rfl, rfl⟩ hP hD hS dX7_set_69 (Nat.le_refl _) (Nat.le_refl _)
  · skip
    have zc1 : ¬ (p1.toInt = 104) := by rw [fa_eq, show (104 : Int32).toInt = 104 from by decide] at c1; exact c1
    by_cases c2 : p1 = 105
    · skip
      refine lv_tableIn (off := 39) (tgt := 40) hx hb dX7_set_1 (by rw [c2]; decide) (by rw [c2]; decide) (by rw [c2]; decide) (by decide) ?_
      have zc2 : p1.toInt = 105 := by rw [fa_eq, show (105 : Int32).toInt = 105 from by decide] at c2; exact c2
      refine lv_aload_n hx hb dX7_set_40 rfl (lv_at hl 0 rfl) ?_
      refine lv_iload_n hx hb dX7_set_41 rfl (lv_at hl 2 rfl) ?_
      refine va_put (D := (dC, dI)) (ci := 7) (v := .int p2) (ty := tyX7 6) (C := RX7) (T := TX7) (N := 10) hx hb hts inB_7 tyX7 tyX7_ok nmX7 hown hE.1 hP hD hS 4 rfl rfl 6 (by decide) (hts _ k_234) (fun _ h9 => h9) rfl (tyX7_ok 6 (by decide)) rfl rfl (Nat.le_of_ble_eq_true rfl) dX7_set_42 (fun H locs hP hD hS => ?_)
      have hP : va_P (dC, dI) vwCl (XW cy x0 x (upd v 12 p2) f) H := hP
      have hD : va_D A (XW cy x0 x (upd v 12 p2) f) := hD
      refine lv_goto (tgt := 69) hx hb dX7_set_45 (by decide) ?_
      exact ret ((upd v 12 p2), f) _ _ _ _ _ _ ⟨(XI.upd (j := 12) (x := p2) hIv (rlo _) (rhi _)), rfl, rfl, rfl, rfl, rfl, rfl⟩ hP hD hS dX7_set_69 (Nat.le_refl _) (Nat.le_refl _)
    · skip
      have zc2 : ¬ (p1.toInt = 105) := by rw [fa_eq, show (105 : Int32).toInt = 105 from by decide] at c2; exact c2
      by_cases c3 : p1 = 106
      · skip
        refine lv_tableIn (off := 47) (tgt := 48) hx hb dX7_set_1 (by rw [c3]; decide) (by rw [c3]; decide) (by rw [c3]; decide) (by decide) ?_
        have zc3 : p1.toInt = 106 := by rw [fa_eq, show (106 : Int32).toInt = 106 from by decide] at c3; exact c3
        refine lv_aload_n hx hb dX7_set_48 rfl (lv_at hl 0 rfl) ?_
        refine lv_iload_n hx hb dX7_set_49 rfl (lv_at hl 2 rfl) ?_
        refine va_put (D := (dC, dI)) (ci := 7) (v := .int p2) (ty := tyX7 7) (C := RX7) (T := TX7) (N := 10) hx hb hts inB_7 tyX7 tyX7_ok nmX7 hown hE.1 hP hD hS 4 rfl rfl 7 (by decide) (hts _ k_237) (fun _ h9 => h9) rfl (tyX7_ok 7 (by decide)) rfl rfl (Nat.le_of_ble_eq_true rfl) dX7_set_50 (fun H locs hP hD hS => ?_)
        have hP : va_P (dC, dI) vwCl (XW cy x0 x (upd v 13 p2) f) H := hP
        have hD : va_D A (XW cy x0 x (upd v 13 p2) f) := hD
        refine lv_goto (tgt := 69) hx hb dX7_set_53 (by decide) ?_
        exact ret ((upd v 13 p2), f) _ _ _ _ _ _ ⟨(XI.upd (j := 13) (x := p2) hIv (rlo _) (rhi _)), rfl, rfl, rfl, rfl, rfl, rfl⟩ hP hD hS dX7_set_69 (Nat.le_refl _) (Nat.le_refl _)
      · skip
        have zc3 : ¬ (p1.toInt = 106) := by rw [fa_eq, show (106 : Int32).toInt = 106 from by decide] at c3; exact c3
        by_cases c4 : p1 = 107
        · skip
          refine lv_tableIn (off := 55) (tgt := 56) hx hb dX7_set_1 (by rw [c4]; decide) (by rw [c4]; decide) (by rw [c4]; decide) (by decide) ?_
          have zc4 : p1.toInt = 107 := by rw [fa_eq, show (107 : Int32).toInt = 107 from by decide] at c4; exact c4
          refine lv_aload_n hx hb dX7_set_56 rfl (lv_at hl 0 rfl) ?_
          refine lv_iload_n hx hb dX7_set_57 rfl (lv_at hl 2 rfl) ?_
          refine va_put (D := (dC, dI)) (ci := 7) (v := .int p2) (ty := tyX7 8) (C := RX7) (T := TX7) (N := 10) hx hb hts inB_7 tyX7 tyX7_ok nmX7 hown hE.1 hP hD hS 4 rfl rfl 8 (by decide) (hts _ k_240) (fun _ h9 => h9) rfl (tyX7_ok 8 (by decide)) rfl rfl (Nat.le_of_ble_eq_true rfl) dX7_set_58 (fun H locs hP hD hS => ?_)
          have hP : va_P (dC, dI) vwCl (XW cy x0 x (upd v 14 p2) f) H := hP
          have hD : va_D A (XW cy x0 x (upd v 14 p2) f) := hD
          refine lv_goto (tgt := 69) hx hb dX7_set_61 (by decide) ?_
          exact ret ((upd v 14 p2), f) _ _ _ _ _ _ ⟨(XI.upd (j := 14) (x := p2) hIv (rlo _) (rhi _)), rfl, rfl, rfl, rfl, rfl, rfl⟩ hP hD hS dX7_set_69 (Nat.le_refl _) (Nat.le_refl _)
        · skip
          have zc4 : ¬ (p1.toInt = 107) := by rw [fa_eq, show (107 : Int32).toInt = 107 from by decide] at c4; exact c4
          refine lv_tableOut (tgt := 64) hx hb dX7_set_1 (by omega) (by decide) ?_
          refine lv_aload_n hx hb dX7_set_64 rfl (lv_at hl 0 rfl) ?_
          refine lv_iload_n hx hb dX7_set_65 rfl (lv_at hl 2 rfl) ?_
          refine va_put (D := (dC, dI)) (ci := 7) (v := .int p2) (ty := tyX7 9) (C := RX7) (T := TX7) (N := 10) hx hb hts inB_7 tyX7 tyX7_ok nmX7 hown hE.1 hP hD hS 4 rfl rfl 9 (by decide) (hts _ k_243) (fun _ h9 => h9) rfl (tyX7_ok 9 (by decide)) rfl rfl (Nat.le_of_ble_eq_true rfl) dX7_set_66 (fun H locs hP hD hS => ?_)
          have hP : va_P (dC, dI) vwCl (XW cy x0 x (upd v 15 p2) f) H := hP
          have hD : va_D A (XW cy x0 x (upd v 15 p2) f) := hD
          exact ret ((upd v 15 p2), f) _ _ _ _ _ _ ⟨(XI.upd (j := 15) (x := p2) hIv (rlo _) (rhi _)), rfl, rfl, rfl, rfl, rfl, rfl⟩ hP hD hS dX7_set_69 (Nat.le_refl _) (Nat.le_refl _)
set_option maxHeartbeats 4000000 in
set_option maxRecDepth 100000 in
theorem sX_X6_settingLine_1 (l : Launch) (dC : Nat → ClassId) (dI : Nat → Nat → Nat) (cy : Nat → ClassId) (x0 : Nat) (x : Nat → Nat) (p1 : Int32) (v : Nat → Int32) (f : Nat → Nat → Int32) (hIv : XI v)  : ctIS l (dC, dI) cy yX6_settingLine cX6_settingLine 4 .boolean 8 213 0 0 ((Nat → Int32) × (Nat → Nat → Int32)) [.ref (x 2), .int p1] (XW cy x0 x v f) (fun r u => XI u.1 ∧ u.1 0 = v 0 ∧ u.1 1 = v 1 ∧ u.1 9 = v 9 ∧ u.1 10 = v 10 ∧ u.1 31 = v 31 ∧ u.1 32 = v 32 ∧ ((r = 1) ∨ (r = 0))) (fun u => XW cy x0 x u.1 u.2) := by
  refine ctIS_of (by decide) (Nat.le_of_ble_eq_true rfl) (fun p e s m below meth c A ls Q hx hb hml hts hown hE hF hT hP hD hA hl ret => ?_)
  have hown : s.vm.findClass RX6 = some m.cls := hown
  have hS : va_S A s.heap s.heap [] := va_S.rf
  have hl : lv_has ls 4 [(0, .ref (x 2)), (1, .int p1)] := hl
  refine lv_aload_n hx hb dX6_settingLine_0 rfl (lv_at hl 0 rfl) ?_
  refine va_get (D := (dC, dI)) (ci := 6) (v := .ref (x 0)) (C := RX6) (T := TX6) (N := 7) hx hb hts inB_6 hown hE.1 hP 3 rfl rfl 0 (by decide) (hts _ k_265) (fun _ h9 => h9) rfl dX6_settingLine_1 ?_
  refine va_getN (D := (dC, dI)) (ci := 9) (v := .int (v 2)) (C := RX9) (T := TX9) (N := 6) hx hb hts inB_9 hown hE.1 hP 1 rfl rfl 2 (by decide) (va_Nw.use rfl (hE.2 _ k_139)) (fun _ h9 => h9) rfl dX6_settingLine_4 ?_
  refine lv_istore_n (lv' := [(2, .int (v 2)), (0, .ref (x 2)), (1, .int p1)]) hx hb dX6_settingLine_7 rfl hl (by decide) rfl (fun ls hl => ?_)
  refine lv_aload_n hx hb dX6_settingLine_8 rfl (lv_at hl 1 rfl) ?_
  refine lv_iload_n hx hb dX6_settingLine_9 rfl (lv_at hl 0 rfl) ?_
  refine csVi (n := 1) (rest := []) hx hb hml hown hts hE hP hD hS hA hF hT (sX_X6_opened_1 l dC dI cy x0 x (v 2) v f hIv ) k_736 k_738 k_14 k_103 k_739 (by decide +kernel) ⟨Nat.le_of_ble_eq_true rfl, Nat.le_of_ble_eq_true rfl⟩ 3 6 rfl rfl (rfl) hl.1 rfl (Nat.le_of_ble_eq_true rfl) dX6_settingLine_10 (fun r1 u H locs hw hP hD hS => ?_)
  obtain ⟨v2, f3⟩ := u
  obtain ⟨hIv2, hk0_v2, hk1_v2, hk9_v2, hk10_v2, hk31_v2, hk32_v2, hw⟩ := hw
  have hP : va_P (dC, dI) vwCl (XW cy x0 x v2 f3) H := hP
  have hD : va_D A (XW cy x0 x v2 f3) := hD
  have hq0_v2 : v2 0 = (v 0) := hk0_v2
  have hq1_v2 : v2 1 = (v 1) := hk1_v2
  have hq9_v2 : v2 9 = (v 9) := hk9_v2
  have hq10_v2 : v2 10 = (v 10) := hk10_v2
  have hq31_v2 : v2 31 = (v 31) := hk31_v2
  have hq32_v2 : v2 32 = (v 32) := hk32_v2
  rcases hw with ⟨g4⟩ | ⟨g4⟩
  · skip
    subst g4
    refine lv_if_eq (tgt := 24) hx hb dX6_settingLine_13 (by decide) (fun c0 => absurd c0 (by decide)) (fun _ => ?_)
    refine lv_aload_n hx hb dX6_settingLine_16 rfl (lv_at hl 1 rfl) ?_
    refine lv_iload_n hx hb dX6_settingLine_17 rfl (lv_at hl 2 rfl) ?_
    refine csVi (n := 1) (rest := []) hx hb hml hown hts hE hP hD hS hA hF hT (sX_X6_numbered_1 l dC dI cy x0 x p1 v2 f3 hIv2 ) k_712 k_714 k_10 k_103 k_715 (by decide +kernel) ⟨Nat.le_of_ble_eq_true rfl, Nat.le_of_ble_eq_true rfl⟩ 3 6 rfl rfl (rfl) hl.1 rfl (Nat.le_of_ble_eq_true rfl) dX6_settingLine_18 (fun r5 u H locs hw hP hD hS => ?_)
    obtain ⟨v6, f7⟩ := u
    obtain ⟨hIv6, hk0_v6, hk1_v6, hk9_v6, hk10_v6, hk31_v6, hk32_v6⟩ := hw
    have hP : va_P (dC, dI) vwCl (XW cy x0 x v6 f7) H := hP
    have hD : va_D A (XW cy x0 x v6 f7) := hD
    have hq0_v6 : v6 0 = (v 0) := hk0_v6.trans hq0_v2
    have hq1_v6 : v6 1 = (v 1) := hk1_v6.trans hq1_v2
    have hq9_v6 : v6 9 = (v 9) := hk9_v6.trans hq9_v2
    have hq10_v6 : v6 10 = (v 10) := hk10_v6.trans hq10_v2
    have hq31_v6 : v6 31 = (v 31) := hk31_v6.trans hq31_v2
    have hq32_v6 : v6 32 = (v 32) := hk32_v6.trans hq32_v2
    refine lv_goto (tgt := 25) hx hb dX6_settingLine_21 (by decide) ?_
    refine lv_istore_n (lv' := [(3, .int r5), (2, .int (v 2)), (0, .ref (x 2)), (1, .int p1)]) hx hb dX6_settingLine_25 rfl hl (by decide) rfl (fun ls hl => ?_)
    refine lv_iload_n hx hb dX6_settingLine_26 rfl (lv_at hl 0 rfl) ?_
    refine lv_if_ge (tgt := 32) hx hb dX6_settingLine_27 (by decide) (fun c8 => ?_) (fun c8 => ?_)
    · skip
      have zc8 : 0 ≤ r5.toInt := by rw [fa_le, show (0 : Int32).toInt = 0 from by decide] at c8; exact c8
      refine lv_aload_n hx hb dX6_settingLine_32 rfl (lv_at hl 2 rfl) ?_
      refine va_get (D := (dC, dI)) (ci := 6) (v := .ref (x 3)) (C := RX6) (T := TX6) (N := 7) hx hb hts inB_6 hown hE.1 hP 3 rfl rfl 1 (by decide) (hts _ k_266) (fun _ h9 => h9) rfl dX6_settingLine_33 ?_
      refine lv_iload_n hx hb dX6_settingLine_36 rfl (lv_at hl 1 rfl) ?_
      refine lv_iload_n hx hb dX6_settingLine_37 rfl (lv_at hl 0 rfl) ?_
      refine cbVv (n := 2) (rest := []) hx hb hml hown hts hE hP hD hS hA (sX_X7_set_1 l dC dI cy x0 x (v 2) r5 v6 f7 hIv6 ) k_763 k_764 k_765 k_104 k_766 (by decide +kernel) ⟨Nat.le_of_ble_eq_true rfl, Nat.le_of_ble_eq_true rfl⟩ 4 7 rfl rfl (rfl) hl.1 rfl (Nat.le_of_ble_eq_true rfl) dX6_settingLine_38 (fun u H locs hw hP hD hS => ?_)
      obtain ⟨v9, f10⟩ := u
      obtain ⟨hIv9, hk0_v9, hk1_v9, hk9_v9, hk10_v9, hk31_v9, hk32_v9⟩ := hw
      have hP : va_P (dC, dI) vwCl (XW cy x0 x v9 f10) H := hP
      have hD : va_D A (XW cy x0 x v9 f10) := hD
      have hq0_v9 : v9 0 = (v 0) := hk0_v9.trans hq0_v6
      have hq1_v9 : v9 1 = (v 1) := hk1_v9.trans hq1_v6
      have hq9_v9 : v9 9 = (v 9) := hk9_v9.trans hq9_v6
      have hq10_v9 : v9 10 = (v 10) := hk10_v9.trans hq10_v6
      have hq31_v9 : v9 31 = (v 31) := hk31_v9.trans hq31_v6
      have hq32_v9 : v9 32 = (v 32) := hk32_v9.trans hq32_v6
      refine lv_iconst (v := 1) hx hb dX6_settingLine_41 (by decide) ?_
      exact ret 1 (v9, f10) _ _ _ _ _ _ rfl ⟨hIv9, (hk0_v9.trans (hk0_v6.trans hk0_v2)), (hk1_v9.trans (hk1_v6.trans hk1_v2)), (hk9_v9.trans (hk9_v6.trans hk9_v2)), (hk10_v9.trans (hk10_v6.trans hk10_v2)), (hk31_v9.trans (hk31_v6.trans hk31_v2)), (hk32_v9.trans (hk32_v6.trans hk32_v2)), (Or.inl rfl)⟩ hP hD hS dX6_settingLine_42 (Nat.le_refl _) (Nat.le_refl _)
    · skip
      have zc8 : ¬ (0 ≤ r5.toInt) := by rw [fa_le, show (0 : Int32).toInt = 0 from by decide] at c8; exact c8
      refine lv_iconst (v := 0) hx hb dX6_settingLine_30 (by decide) ?_
      exact ret 0 (v6, f7) _ _ _ _ _ _ rfl ⟨hIv6, (hk0_v6.trans hk0_v2), (hk1_v6.trans hk1_v2), (hk9_v6.trans hk9_v2), (hk10_v6.trans hk10_v2), (hk31_v6.trans hk31_v2), (hk32_v6.trans hk32_v2), (Or.inr rfl)⟩ hP hD hS dX6_settingLine_31 (Nat.le_refl _) (Nat.le_refl _)
  · skip
    subst g4
    refine lv_if_eq (tgt := 24) hx hb dX6_settingLine_13 (by decide) (fun _ => ?_) (fun c0 => absurd (by decide) c0)
    refine lv_iconst (v := (-1)) hx hb dX6_settingLine_24 (by decide) ?_
    refine lv_istore_n (lv' := [(3, .int (-1)), (2, .int (v 2)), (0, .ref (x 2)), (1, .int p1)]) hx hb dX6_settingLine_25 rfl hl (by decide) rfl (fun ls hl => ?_)
    refine lv_iload_n hx hb dX6_settingLine_26 rfl (lv_at hl 0 rfl) ?_
    refine lv_if_ge (tgt := 32) hx hb dX6_settingLine_27 (by decide) (fun c0 => absurd c0 (by decide)) (fun _ => ?_)
    refine lv_iconst (v := 0) hx hb dX6_settingLine_30 (by decide) ?_
    exact ret 0 (v2, f3) _ _ _ _ _ _ rfl ⟨hIv2, hk0_v2, hk1_v2, hk9_v2, hk10_v2, hk31_v2, hk32_v2, (Or.inr rfl)⟩ hP hD hS dX6_settingLine_31 (Nat.le_refl _) (Nat.le_refl _)
set_option maxHeartbeats 4000000 in
set_option maxRecDepth 100000 in
theorem sX_X6_line_1 (l : Launch) (dC : Nat → ClassId) (dI : Nat → Nat → Nat) (cy : Nat → ClassId) (x0 : Nat) (x : Nat → Nat)  (v : Nat → Int32) (f : Nat → Nat → Int32) (hIv : XI v)  : ctIS l (dC, dI) cy yX6_line cX6_line 1 .boolean 63 1575 0 0 ((Nat → Int32) × (Nat → Nat → Int32)) [.ref (x 2)] (XW cy x0 x v f) (fun r u => XI u.1 ∧ u.1 0 = v 0 ∧ u.1 1 = v 1 ∧ ((r = 1) ∨ (r = 0))) (fun u => XW cy x0 x u.1 u.2) := by
  refine ctIS_of (by decide) (Nat.le_of_ble_eq_true rfl) (fun p e s m below meth c A ls Q hx hb hml hts hown hE hF hT hP hD hA hl ret => ?_)
  have hown : s.vm.findClass RX6 = some m.cls := hown
  have hS : va_S A s.heap s.heap [] := va_S.rf
  have hl : lv_has ls 1 [(0, .ref (x 2))] := hl
  refine lv_aload_n hx hb dX6_line_0 rfl (lv_at hl 0 rfl) ?_
  refine va_get (D := (dC, dI)) (ci := 6) (v := .ref (x 0)) (C := RX6) (T := TX6) (N := 7) hx hb hts inB_6 hown hE.1 hP 3 rfl rfl 0 (by decide) (hts _ k_265) (fun _ h9 => h9) rfl dX6_line_1 ?_
  refine va_getN (D := (dC, dI)) (ci := 9) (v := .int (v 2)) (C := RX9) (T := TX9) (N := 6) hx hb hts inB_9 hown hE.1 hP 1 rfl rfl 2 (by decide) (va_Nw.use rfl (hE.2 _ k_139)) (fun _ h9 => h9) rfl dX6_line_4 ?_
  by_cases c1 : (v 2) = 101
  · skip
    refine lv_tableIn (off := 45) (tgt := 52) hx hb dX6_line_7 (by rw [c1]; decide) (by rw [c1]; decide) (by rw [c1]; decide) (by decide) ?_
    have zc1 : (v 2).toInt = 101 := by rw [fa_eq, show (101 : Int32).toInt = 101 from by decide] at c1; exact c1
    refine lv_aload_n hx hb dX6_line_52 rfl (lv_at hl 0 rfl) ?_
    refine csVi (n := 0) (rest := []) hx hb hml hown hts hE hP hD hS hA hF hT (sX_X6_manLine_1 l dC dI cy x0 x  v f hIv ) k_687 k_689 k_5 k_103 k_690 (by decide +kernel) ⟨Nat.le_of_ble_eq_true rfl, Nat.le_of_ble_eq_true rfl⟩ 3 6 rfl rfl (rfl) hl.1 rfl (Nat.le_of_ble_eq_true rfl) dX6_line_53 (fun r2 u H locs hw hP hD hS => ?_)
    obtain ⟨v3, f4⟩ := u
    obtain ⟨hIv3, hk0_v3, hk1_v3, hk10_v3, hk32_v3, hw⟩ := hw
    have hP : va_P (dC, dI) vwCl (XW cy x0 x v3 f4) H := hP
    have hD : va_D A (XW cy x0 x v3 f4) := hD
    have hq0_v3 : v3 0 = (v 0) := hk0_v3
    have hq1_v3 : v3 1 = (v 1) := hk1_v3
    have hq10_v3 : v3 10 = (v 10) := hk10_v3
    have hq32_v3 : v3 32 = (v 32) := hk32_v3
    rcases hw with ⟨g5⟩ | ⟨g5⟩
    · skip
      subst g5
      refine lv_if_eq (tgt := 70) hx hb dX6_line_56 (by decide) (fun c0 => absurd c0 (by decide)) (fun _ => ?_)
      refine lv_aload_n hx hb dX6_line_59 rfl (lv_at hl 0 rfl) ?_
      refine csVi (n := 0) (rest := []) hx hb hml hown hts hE hP hD hS hA hF hT (sX_X6_closing_1 l dC dI cy x0 x  v3 f4 hIv3 ) k_720 k_722 k_11 k_103 k_723 (by decide +kernel) ⟨Nat.le_of_ble_eq_true rfl, Nat.le_of_ble_eq_true rfl⟩ 3 6 rfl rfl (rfl) hl.1 rfl (Nat.le_of_ble_eq_true rfl) dX6_line_60 (fun r6 u H locs hw hP hD hS => ?_)
      obtain ⟨v7, f8⟩ := u
      obtain ⟨hIv7, hk0_v7, hk1_v7, hk9_v7, hk10_v7, hk31_v7, hk32_v7, hw⟩ := hw
      have hP : va_P (dC, dI) vwCl (XW cy x0 x v7 f8) H := hP
      have hD : va_D A (XW cy x0 x v7 f8) := hD
      have hq0_v7 : v7 0 = (v 0) := hk0_v7.trans hq0_v3
      have hq1_v7 : v7 1 = (v 1) := hk1_v7.trans hq1_v3
      have hq9_v7 : v7 9 = (v3 9) := hk9_v7
      have hq10_v7 : v7 10 = (v 10) := hk10_v7.trans hq10_v3
      have hq31_v7 : v7 31 = (v3 31) := hk31_v7
      have hq32_v7 : v7 32 = (v 32) := hk32_v7.trans hq32_v3
      rcases hw with ⟨g9⟩ | ⟨g9⟩
      · skip
        subst g9
        refine lv_if_eq (tgt := 70) hx hb dX6_line_63 (by decide) (fun c0 => absurd c0 (by decide)) (fun _ => ?_)
        refine lv_iconst (v := 1) hx hb dX6_line_66 (by decide) ?_
        refine lv_goto (tgt := 71) hx hb dX6_line_67 (by decide) ?_
        exact ret 1 (v7, f8) _ _ _ _ _ _ rfl ⟨hIv7, (hk0_v7.trans hk0_v3), (hk1_v7.trans hk1_v3), (Or.inl rfl)⟩ hP hD hS dX6_line_71 (Nat.le_refl _) (Nat.le_refl _)
      · skip
        subst g9
        refine lv_if_eq (tgt := 70) hx hb dX6_line_63 (by decide) (fun _ => ?_) (fun c0 => absurd (by decide) c0)
        refine lv_iconst (v := 0) hx hb dX6_line_70 (by decide) ?_
        exact ret 0 (v7, f8) _ _ _ _ _ _ rfl ⟨hIv7, (hk0_v7.trans hk0_v3), (hk1_v7.trans hk1_v3), (Or.inr rfl)⟩ hP hD hS dX6_line_71 (Nat.le_refl _) (Nat.le_refl _)
    · skip
      subst g5
      refine lv_if_eq (tgt := 70) hx hb dX6_line_56 (by decide) (fun _ => ?_) (fun c0 => absurd (by decide) c0)
      refine lv_iconst (v := 0) hx hb dX6_line_70 (by decide) ?_
      exact ret 0 (v3, f4) _ _ _ _ _ _ rfl ⟨hIv3, hk0_v3, hk1_v3, (Or.inr rfl)⟩ hP hD hS dX6_line_71 (Nat.le_refl _) (Nat.le_refl _)
  · skip
    have zc1 : ¬ ((v 2).toInt = 101) := by rw [fa_eq, show (101 : Int32).toInt = 101 from by decide] at c1; exact c1
    by_cases c10 : (v 2) = 102
    · skip
      refine lv_tableIn (off := 65) (tgt := 72) hx hb dX6_line_7 (by rw [c10]; decide) (by rw [c10]; decide) (by rw [c10]; decide) (by decide) ?_
      have zc10 : (v 2).toInt = 102 := by rw [fa_eq, show (102 : Int32).toInt = 102 from by decide] at c10; exact c10
      refine lv_aload_n hx hb dX6_line_72 rfl (lv_at hl 0 rfl) ?_
      refine csVi (n := 0) (rest := []) hx hb hml hown hts hE hP hD hS hA hF hT (sX_X6_coatLine_1 l dC dI cy x0 x  v f hIv ) k_728 k_730 k_13 k_103 k_731 (by decide +kernel) ⟨Nat.le_of_ble_eq_true rfl, Nat.le_of_ble_eq_true rfl⟩ 3 6 rfl rfl (rfl) hl.1 rfl (Nat.le_of_ble_eq_true rfl) dX6_line_73 (fun r11 u H locs hw hP hD hS => ?_)
      obtain ⟨v12, f13⟩ := u
      obtain ⟨hIv12, hk0_v12, hk1_v12, hk9_v12, hk31_v12, hw⟩ := hw
      have hP : va_P (dC, dI) vwCl (XW cy x0 x v12 f13) H := hP
      have hD : va_D A (XW cy x0 x v12 f13) := hD
      have hq0_v12 : v12 0 = (v 0) := hk0_v12
      have hq1_v12 : v12 1 = (v 1) := hk1_v12
      have hq9_v12 : v12 9 = (v 9) := hk9_v12
      have hq31_v12 : v12 31 = (v 31) := hk31_v12
      rcases hw with ⟨g14⟩ | ⟨g14⟩
      · skip
        subst g14
        refine lv_if_eq (tgt := 90) hx hb dX6_line_76 (by decide) (fun c0 => absurd c0 (by decide)) (fun _ => ?_)
        refine lv_aload_n hx hb dX6_line_79 rfl (lv_at hl 0 rfl) ?_
        refine csVi (n := 0) (rest := []) hx hb hml hown hts hE hP hD hS hA hF hT (sX_X6_closing_1 l dC dI cy x0 x  v12 f13 hIv12 ) k_720 k_722 k_11 k_103 k_723 (by decide +kernel) ⟨Nat.le_of_ble_eq_true rfl, Nat.le_of_ble_eq_true rfl⟩ 3 6 rfl rfl (rfl) hl.1 rfl (Nat.le_of_ble_eq_true rfl) dX6_line_80 (fun r15 u H locs hw hP hD hS => ?_)
        obtain ⟨v16, f17⟩ := u
        obtain ⟨hIv16, hk0_v16, hk1_v16, hk9_v16, hk10_v16, hk31_v16, hk32_v16, hw⟩ := hw
        have hP : va_P (dC, dI) vwCl (XW cy x0 x v16 f17) H := hP
        have hD : va_D A (XW cy x0 x v16 f17) := hD
        have hq0_v16 : v16 0 = (v 0) := hk0_v16.trans hq0_v12
        have hq1_v16 : v16 1 = (v 1) := hk1_v16.trans hq1_v12
        have hq9_v16 : v16 9 = (v 9) := hk9_v16.trans hq9_v12
        have hq10_v16 : v16 10 = (v12 10) := hk10_v16
        have hq31_v16 : v16 31 = (v 31) := hk31_v16.trans hq31_v12
        have hq32_v16 : v16 32 = (v12 32) := hk32_v16
        rcases hw with ⟨g18⟩ | ⟨g18⟩
        · skip
          subst g18
          refine lv_if_eq (tgt := 90) hx hb dX6_line_83 (by decide) (fun c0 => absurd c0 (by decide)) (fun _ => ?_)
          refine lv_iconst (v := 1) hx hb dX6_line_86 (by decide) ?_
          refine lv_goto (tgt := 91) hx hb dX6_line_87 (by decide) ?_
          exact ret 1 (v16, f17) _ _ _ _ _ _ rfl ⟨hIv16, (hk0_v16.trans hk0_v12), (hk1_v16.trans hk1_v12), (Or.inl rfl)⟩ hP hD hS dX6_line_91 (Nat.le_refl _) (Nat.le_refl _)
        · skip
          subst g18
          refine lv_if_eq (tgt := 90) hx hb dX6_line_83 (by decide) (fun _ => ?_) (fun c0 => absurd (by decide) c0)
          refine lv_iconst (v := 0) hx hb dX6_line_90 (by decide) ?_
          exact ret 0 (v16, f17) _ _ _ _ _ _ rfl ⟨hIv16, (hk0_v16.trans hk0_v12), (hk1_v16.trans hk1_v12), (Or.inr rfl)⟩ hP hD hS dX6_line_91 (Nat.le_refl _) (Nat.le_refl _)
      · skip
        subst g14
        refine lv_if_eq (tgt := 90) hx hb dX6_line_76 (by decide) (fun _ => ?_) (fun c0 => absurd (by decide) c0)
        refine lv_iconst (v := 0) hx hb dX6_line_90 (by decide) ?_
        exact ret 0 (v12, f13) _ _ _ _ _ _ rfl ⟨hIv12, hk0_v12, hk1_v12, (Or.inr rfl)⟩ hP hD hS dX6_line_91 (Nat.le_refl _) (Nat.le_refl _)
    · skip
      have zc10 : ¬ ((v 2).toInt = 102) := by rw [fa_eq, show (102 : Int32).toInt = 102 from by decide] at c10; exact c10
      by_cases c19 : (v 2) = 103
      · skip
        refine lv_tableIn (off := 85) (tgt := 92) hx hb dX6_line_7 (by rw [c19]; decide) (by rw [c19]; decide) (by rw [c19]; decide) (by decide) ?_
        have zc19 : (v 2).toInt = 103 := by rw [fa_eq, show (103 : Int32).toInt = 103 from by decide] at c19; exact c19
        refine lv_aload_n hx hb dX6_line_92 rfl (lv_at hl 0 rfl) ?_
        refine lv_bipush (v := 103) hx hb dX6_line_93 (by decide) ?_
        refine csVi (n := 1) (rest := []) hx hb hml hown hts hE hP hD hS hA hF hT (sX_X6_opened_1 l dC dI cy x0 x 103 v f hIv ) k_736 k_738 k_14 k_103 k_739 (by decide +kernel) ⟨Nat.le_of_ble_eq_true rfl, Nat.le_of_ble_eq_true rfl⟩ 3 6 rfl rfl (rfl) hl.1 rfl (Nat.le_of_ble_eq_true rfl) dX6_line_95 (fun r20 u H locs hw hP hD hS => ?_)
        obtain ⟨v21, f22⟩ := u
        obtain ⟨hIv21, hk0_v21, hk1_v21, hk9_v21, hk10_v21, hk31_v21, hk32_v21, hw⟩ := hw
        have hP : va_P (dC, dI) vwCl (XW cy x0 x v21 f22) H := hP
        have hD : va_D A (XW cy x0 x v21 f22) := hD
        have hq0_v21 : v21 0 = (v 0) := hk0_v21
        have hq1_v21 : v21 1 = (v 1) := hk1_v21
        have hq9_v21 : v21 9 = (v 9) := hk9_v21
        have hq10_v21 : v21 10 = (v 10) := hk10_v21
        have hq31_v21 : v21 31 = (v 31) := hk31_v21
        have hq32_v21 : v21 32 = (v 32) := hk32_v21
        rcases hw with ⟨g23⟩ | ⟨g23⟩
        · skip
          subst g23
          refine lv_if_eq (tgt := 121) hx hb dX6_line_98 (by decide) (fun c0 => absurd c0 (by decide)) (fun _ => ?_)
          refine lv_aload_n hx hb dX6_line_101 rfl (lv_at hl 0 rfl) ?_
          refine lv_iconst (v := 0) hx hb dX6_line_102 (by decide) ?_
          refine lv_iconst (v := 0) hx hb dX6_line_103 (by decide) ?_
          refine csVi (n := 2) (rest := []) hx hb hml hown hts hE hP hD hS hA hF hT (sX_X6_expression_1 l dC dI cy x0 x  v21 f22 hIv21 ) k_740 k_742 k_15 k_103 k_743 (by decide +kernel) ⟨Nat.le_of_ble_eq_true rfl, Nat.le_of_ble_eq_true rfl⟩ 3 6 rfl rfl (rfl) hl.1 rfl (Nat.le_of_ble_eq_true rfl) dX6_line_104 (fun r24 u H locs hw hP hD hS => ?_)
          obtain ⟨v25, f26⟩ := u
          obtain ⟨hIv25, hk0_v25, hk1_v25, hk9_v25, hk10_v25, hk31_v25, hk32_v25, hw⟩ := hw
          have hP : va_P (dC, dI) vwCl (XW cy x0 x v25 f26) H := hP
          have hD : va_D A (XW cy x0 x v25 f26) := hD
          have hq0_v25 : v25 0 = (v 0) := hk0_v25.trans hq0_v21
          have hq1_v25 : v25 1 = (v 1) := hk1_v25.trans hq1_v21
          have hq9_v25 : v25 9 = (v 9) := hk9_v25.trans hq9_v21
          have hq10_v25 : v25 10 = (v 10) := hk10_v25.trans hq10_v21
          have hq31_v25 : v25 31 = (v 31) := hk31_v25.trans hq31_v21
          have hq32_v25 : v25 32 = (v 32) := hk32_v25.trans hq32_v21
          rcases hw with ⟨g27⟩ | ⟨g27⟩
          · skip
            subst g27
            refine lv_if_eq (tgt := 121) hx hb dX6_line_107 (by decide) (fun c0 => absurd c0 (by decide)) (fun _ => ?_)
            refine lv_aload_n hx hb dX6_line_110 rfl (lv_at hl 0 rfl) ?_
            refine csVi (n := 0) (rest := []) hx hb hml hown hts hE hP hD hS hA hF hT (sX_X6_closing_1 l dC dI cy x0 x  v25 f26 hIv25 ) k_720 k_722 k_11 k_103 k_723 (by decide +kernel) ⟨Nat.le_of_ble_eq_true rfl, Nat.le_of_ble_eq_true rfl⟩ 3 6 rfl rfl (rfl) hl.1 rfl (Nat.le_of_ble_eq_true rfl) dX6_line_111 (fun r28 u H locs hw hP hD hS => ?_)
            obtain ⟨v29, f30⟩ := u
            obtain ⟨hIv29, hk0_v29, hk1_v29, hk9_v29, hk10_v29, hk31_v29, hk32_v29, hw⟩ := hw
            have hP : va_P (dC, dI) vwCl (XW cy x0 x v29 f30) H := hP
            have hD : va_D A (XW cy x0 x v29 f30) := hD
            have hq0_v29 : v29 0 = (v 0) := hk0_v29.trans hq0_v25
            have hq1_v29 : v29 1 = (v 1) := hk1_v29.trans hq1_v25
            have hq9_v29 : v29 9 = (v 9) := hk9_v29.trans hq9_v25
            have hq10_v29 : v29 10 = (v 10) := hk10_v29.trans hq10_v25
            have hq31_v29 : v29 31 = (v 31) := hk31_v29.trans hq31_v25
            have hq32_v29 : v29 32 = (v 32) := hk32_v29.trans hq32_v25
            rcases hw with ⟨g31⟩ | ⟨g31⟩
            · skip
              subst g31
              refine lv_if_eq (tgt := 121) hx hb dX6_line_114 (by decide) (fun c0 => absurd c0 (by decide)) (fun _ => ?_)
              refine lv_iconst (v := 1) hx hb dX6_line_117 (by decide) ?_
              refine lv_goto (tgt := 122) hx hb dX6_line_118 (by decide) ?_
              exact ret 1 (v29, f30) _ _ _ _ _ _ rfl ⟨hIv29, (hk0_v29.trans (hk0_v25.trans hk0_v21)), (hk1_v29.trans (hk1_v25.trans hk1_v21)), (Or.inl rfl)⟩ hP hD hS dX6_line_122 (Nat.le_refl _) (Nat.le_refl _)
            · skip
              subst g31
              refine lv_if_eq (tgt := 121) hx hb dX6_line_114 (by decide) (fun _ => ?_) (fun c0 => absurd (by decide) c0)
              refine lv_iconst (v := 0) hx hb dX6_line_121 (by decide) ?_
              exact ret 0 (v29, f30) _ _ _ _ _ _ rfl ⟨hIv29, (hk0_v29.trans (hk0_v25.trans hk0_v21)), (hk1_v29.trans (hk1_v25.trans hk1_v21)), (Or.inr rfl)⟩ hP hD hS dX6_line_122 (Nat.le_refl _) (Nat.le_refl _)
          · skip
            subst g27
            refine lv_if_eq (tgt := 121) hx hb dX6_line_107 (by decide) (fun _ => ?_) (fun c0 => absurd (by decide) c0)
            refine lv_iconst (v := 0) hx hb dX6_line_121 (by decide) ?_
            exact ret 0 (v25, f26) _ _ _ _ _ _ rfl ⟨hIv25, (hk0_v25.trans hk0_v21), (hk1_v25.trans hk1_v21), (Or.inr rfl)⟩ hP hD hS dX6_line_122 (Nat.le_refl _) (Nat.le_refl _)
        · skip
          subst g23
          refine lv_if_eq (tgt := 121) hx hb dX6_line_98 (by decide) (fun _ => ?_) (fun c0 => absurd (by decide) c0)
          refine lv_iconst (v := 0) hx hb dX6_line_121 (by decide) ?_
          exact ret 0 (v21, f22) _ _ _ _ _ _ rfl ⟨hIv21, hk0_v21, hk1_v21, (Or.inr rfl)⟩ hP hD hS dX6_line_122 (Nat.le_refl _) (Nat.le_refl _)
      · skip
        have zc19 : ¬ ((v 2).toInt = 103) := by rw [fa_eq, show (103 : Int32).toInt = 103 from by decide] at c19; exact c19
        by_cases c32 : (v 2) = 104
        · skip
          refine lv_tableIn (off := 116) (tgt := 123) hx hb dX6_line_7 (by rw [c32]; decide) (by rw [c32]; decide) (by rw [c32]; decide) (by decide) ?_
          have zc32 : (v 2).toInt = 104 := by rw [fa_eq, show (104 : Int32).toInt = 104 from by decide] at c32; exact c32
          refine lv_aload_n hx hb dX6_line_123 rfl (lv_at hl 0 rfl) ?_
          refine lv_sipush (v := 999) hx hb dX6_line_124 (by decide) ?_
          refine csVi (n := 1) (rest := []) hx hb hml hown hts hE hP hD hS hA hF hT (sX_X6_settingLine_1 l dC dI cy x0 x 999 v f hIv ) k_759 k_761 k_18 k_103 k_762 (by decide +kernel) ⟨Nat.le_of_ble_eq_true rfl, Nat.le_of_ble_eq_true rfl⟩ 3 6 rfl rfl (rfl) hl.1 rfl (Nat.le_of_ble_eq_true rfl) dX6_line_127 (fun r33 u H locs hw hP hD hS => ?_)
          obtain ⟨v34, f35⟩ := u
          obtain ⟨hIv34, hk0_v34, hk1_v34, hk9_v34, hk10_v34, hk31_v34, hk32_v34, hw⟩ := hw
          have hP : va_P (dC, dI) vwCl (XW cy x0 x v34 f35) H := hP
          have hD : va_D A (XW cy x0 x v34 f35) := hD
          have hq0_v34 : v34 0 = (v 0) := hk0_v34
          have hq1_v34 : v34 1 = (v 1) := hk1_v34
          have hq9_v34 : v34 9 = (v 9) := hk9_v34
          have hq10_v34 : v34 10 = (v 10) := hk10_v34
          have hq31_v34 : v34 31 = (v 31) := hk31_v34
          have hq32_v34 : v34 32 = (v 32) := hk32_v34
          rcases hw with ⟨g36⟩ | ⟨g36⟩
          · skip
            subst g36
            refine lv_if_eq (tgt := 144) hx hb dX6_line_130 (by decide) (fun c0 => absurd c0 (by decide)) (fun _ => ?_)
            refine lv_aload_n hx hb dX6_line_133 rfl (lv_at hl 0 rfl) ?_
            refine csVi (n := 0) (rest := []) hx hb hml hown hts hE hP hD hS hA hF hT (sX_X6_closing_1 l dC dI cy x0 x  v34 f35 hIv34 ) k_720 k_722 k_11 k_103 k_723 (by decide +kernel) ⟨Nat.le_of_ble_eq_true rfl, Nat.le_of_ble_eq_true rfl⟩ 3 6 rfl rfl (rfl) hl.1 rfl (Nat.le_of_ble_eq_true rfl) dX6_line_134 (fun r37 u H locs hw hP hD hS => ?_)
            obtain ⟨v38, f39⟩ := u
            obtain ⟨hIv38, hk0_v38, hk1_v38, hk9_v38, hk10_v38, hk31_v38, hk32_v38, hw⟩ := hw
            have hP : va_P (dC, dI) vwCl (XW cy x0 x v38 f39) H := hP
            have hD : va_D A (XW cy x0 x v38 f39) := hD
            have hq0_v38 : v38 0 = (v 0) := hk0_v38.trans hq0_v34
            have hq1_v38 : v38 1 = (v 1) := hk1_v38.trans hq1_v34
            have hq9_v38 : v38 9 = (v 9) := hk9_v38.trans hq9_v34
            have hq10_v38 : v38 10 = (v 10) := hk10_v38.trans hq10_v34
            have hq31_v38 : v38 31 = (v 31) := hk31_v38.trans hq31_v34
            have hq32_v38 : v38 32 = (v 32) := hk32_v38.trans hq32_v34
            rcases hw with ⟨g40⟩ | ⟨g40⟩
            · skip
              subst g40
              refine lv_if_eq (tgt := 144) hx hb dX6_line_137 (by decide) (fun c0 => absurd c0 (by decide)) (fun _ => ?_)
              refine lv_iconst (v := 1) hx hb dX6_line_140 (by decide) ?_
              refine lv_goto (tgt := 145) hx hb dX6_line_141 (by decide) ?_
              exact ret 1 (v38, f39) _ _ _ _ _ _ rfl ⟨hIv38, (hk0_v38.trans hk0_v34), (hk1_v38.trans hk1_v34), (Or.inl rfl)⟩ hP hD hS dX6_line_145 (Nat.le_refl _) (Nat.le_refl _)
            · skip
              subst g40
              refine lv_if_eq (tgt := 144) hx hb dX6_line_137 (by decide) (fun _ => ?_) (fun c0 => absurd (by decide) c0)
              refine lv_iconst (v := 0) hx hb dX6_line_144 (by decide) ?_
              exact ret 0 (v38, f39) _ _ _ _ _ _ rfl ⟨hIv38, (hk0_v38.trans hk0_v34), (hk1_v38.trans hk1_v34), (Or.inr rfl)⟩ hP hD hS dX6_line_145 (Nat.le_refl _) (Nat.le_refl _)
          · skip
            subst g36
            refine lv_if_eq (tgt := 144) hx hb dX6_line_130 (by decide) (fun _ => ?_) (fun c0 => absurd (by decide) c0)
            refine lv_iconst (v := 0) hx hb dX6_line_144 (by decide) ?_
            exact ret 0 (v34, f35) _ _ _ _ _ _ rfl ⟨hIv34, hk0_v34, hk1_v34, (Or.inr rfl)⟩ hP hD hS dX6_line_145 (Nat.le_refl _) (Nat.le_refl _)
        · skip
          have zc32 : ¬ ((v 2).toInt = 104) := by rw [fa_eq, show (104 : Int32).toInt = 104 from by decide] at c32; exact c32
          by_cases c41 : (v 2) = 105
          · skip
            refine lv_tableIn (off := 116) (tgt := 123) hx hb dX6_line_7 (by rw [c41]; decide) (by rw [c41]; decide) (by rw [c41]; decide) (by decide) ?_
            have zc41 : (v 2).toInt = 105 := by rw [fa_eq, show (105 : Int32).toInt = 105 from by decide] at c41; exact c41
            refine lv_aload_n hx hb dX6_line_123 rfl (lv_at hl 0 rfl) ?_
            refine lv_sipush (v := 999) hx hb dX6_line_124 (by decide) ?_
            refine csVi (n := 1) (rest := []) hx hb hml hown hts hE hP hD hS hA hF hT (sX_X6_settingLine_1 l dC dI cy x0 x 999 v f hIv ) k_759 k_761 k_18 k_103 k_762 (by decide +kernel) ⟨Nat.le_of_ble_eq_true rfl, Nat.le_of_ble_eq_true rfl⟩ 3 6 rfl rfl (rfl) hl.1 rfl (Nat.le_of_ble_eq_true rfl) dX6_line_127 (fun r42 u H locs hw hP hD hS => ?_)
            obtain ⟨v43, f44⟩ := u
            obtain ⟨hIv43, hk0_v43, hk1_v43, hk9_v43, hk10_v43, hk31_v43, hk32_v43, hw⟩ := hw
            have hP : va_P (dC, dI) vwCl (XW cy x0 x v43 f44) H := hP
            have hD : va_D A (XW cy x0 x v43 f44) := hD
            have hq0_v43 : v43 0 = (v 0) := hk0_v43
            have hq1_v43 : v43 1 = (v 1) := hk1_v43
            have hq9_v43 : v43 9 = (v 9) := hk9_v43
            have hq10_v43 : v43 10 = (v 10) := hk10_v43
            have hq31_v43 : v43 31 = (v 31) := hk31_v43
            have hq32_v43 : v43 32 = (v 32) := hk32_v43
            rcases hw with ⟨g45⟩ | ⟨g45⟩
            · skip
              subst g45
              refine lv_if_eq (tgt := 144) hx hb dX6_line_130 (by decide) (fun c0 => absurd c0 (by decide)) (fun _ => ?_)
              refine lv_aload_n hx hb dX6_line_133 rfl (lv_at hl 0 rfl) ?_
              refine csVi (n := 0) (rest := []) hx hb hml hown hts hE hP hD hS hA hF hT (sX_X6_closing_1 l dC dI cy x0 x  v43 f44 hIv43 ) k_720 k_722 k_11 k_103 k_723 (by decide +kernel) ⟨Nat.le_of_ble_eq_true rfl, Nat.le_of_ble_eq_true rfl⟩ 3 6 rfl rfl (rfl) hl.1 rfl (Nat.le_of_ble_eq_true rfl) dX6_line_134 (fun r46 u H locs hw hP hD hS => ?_)
              obtain ⟨v47, f48⟩ := u
              obtain ⟨hIv47, hk0_v47, hk1_v47, hk9_v47, hk10_v47, hk31_v47, hk32_v47, hw⟩ := hw
              have hP : va_P (dC, dI) vwCl (XW cy x0 x v47 f48) H := hP
              have hD : va_D A (XW cy x0 x v47 f48) := hD
              have hq0_v47 : v47 0 = (v 0) := hk0_v47.trans hq0_v43
              have hq1_v47 : v47 1 = (v 1) := hk1_v47.trans hq1_v43
              have hq9_v47 : v47 9 = (v 9) := hk9_v47.trans hq9_v43
              have hq10_v47 : v47 10 = (v 10) := hk10_v47.trans hq10_v43
              have hq31_v47 : v47 31 = (v 31) := hk31_v47.trans hq31_v43
              have hq32_v47 : v47 32 = (v 32) := hk32_v47.trans hq32_v43
              rcases hw with ⟨g49⟩ | ⟨g49⟩
              · skip
                subst g49
                refine lv_if_eq (tgt := 144) hx hb dX6_line_137 (by decide) (fun c0 => absurd c0 (by decide)) (fun _ => ?_)
                refine lv_iconst (v := 1) hx hb dX6_line_140 (by decide) ?_
                refine lv_goto (tgt := 145) hx hb dX6_line_141 (by decide) ?_
                exact ret 1 (v47, f48) _ _ _ _ _ _ rfl ⟨hIv47, (hk0_v47.trans hk0_v43), (hk1_v47.trans hk1_v43), (Or.inl rfl)⟩ hP hD hS dX6_line_145 (Nat.le_refl _) (Nat.le_refl _)
              · skip
                subst g49
                refine lv_if_eq (tgt := 144) hx hb dX6_line_137 (by decide) (fun _ => ?_) (fun c0 => absurd (by decide) c0)
                refine lv_iconst (v := 0) hx hb dX6_line_144 (by decide) ?_
                exact ret 0 (v47, f48) _ _ _ _ _ _ rfl ⟨hIv47, (hk0_v47.trans hk0_v43), (hk1_v47.trans hk1_v43), (Or.inr rfl)⟩ hP hD hS dX6_line_145 (Nat.le_refl _) (Nat.le_refl _)
            · skip
              subst g45
              refine lv_if_eq (tgt := 144) hx hb dX6_line_130 (by decide) (fun _ => ?_) (fun c0 => absurd (by decide) c0)
              refine lv_iconst (v := 0) hx hb dX6_line_144 (by decide) ?_
              exact ret 0 (v43, f44) _ _ _ _ _ _ rfl ⟨hIv43, hk0_v43, hk1_v43, (Or.inr rfl)⟩ hP hD hS dX6_line_145 (Nat.le_refl _) (Nat.le_refl _)
          · skip
            have zc41 : ¬ ((v 2).toInt = 105) := by rw [fa_eq, show (105 : Int32).toInt = 105 from by decide] at c41; exact c41
            by_cases c50 : (v 2) = 106
            · skip
              refine lv_tableIn (off := 139) (tgt := 146) hx hb dX6_line_7 (by rw [c50]; decide) (by rw [c50]; decide) (by rw [c50]; decide) (by decide) ?_
              have zc50 : (v 2).toInt = 106 := by rw [fa_eq, show (106 : Int32).toInt = 106 from by decide] at c50; exact c50
              refine lv_aload_n hx hb dX6_line_146 rfl (lv_at hl 0 rfl) ?_
              refine lv_bipush (v := 99) hx hb dX6_line_147 (by decide) ?_
              refine csVi (n := 1) (rest := []) hx hb hml hown hts hE hP hD hS hA hF hT (sX_X6_settingLine_1 l dC dI cy x0 x 99 v f hIv ) k_759 k_761 k_18 k_103 k_762 (by decide +kernel) ⟨Nat.le_of_ble_eq_true rfl, Nat.le_of_ble_eq_true rfl⟩ 3 6 rfl rfl (rfl) hl.1 rfl (Nat.le_of_ble_eq_true rfl) dX6_line_149 (fun r51 u H locs hw hP hD hS => ?_)
              obtain ⟨v52, f53⟩ := u
              obtain ⟨hIv52, hk0_v52, hk1_v52, hk9_v52, hk10_v52, hk31_v52, hk32_v52, hw⟩ := hw
              have hP : va_P (dC, dI) vwCl (XW cy x0 x v52 f53) H := hP
              have hD : va_D A (XW cy x0 x v52 f53) := hD
              have hq0_v52 : v52 0 = (v 0) := hk0_v52
              have hq1_v52 : v52 1 = (v 1) := hk1_v52
              have hq9_v52 : v52 9 = (v 9) := hk9_v52
              have hq10_v52 : v52 10 = (v 10) := hk10_v52
              have hq31_v52 : v52 31 = (v 31) := hk31_v52
              have hq32_v52 : v52 32 = (v 32) := hk32_v52
              rcases hw with ⟨g54⟩ | ⟨g54⟩
              · skip
                subst g54
                refine lv_if_eq (tgt := 166) hx hb dX6_line_152 (by decide) (fun c0 => absurd c0 (by decide)) (fun _ => ?_)
                refine lv_aload_n hx hb dX6_line_155 rfl (lv_at hl 0 rfl) ?_
                refine csVi (n := 0) (rest := []) hx hb hml hown hts hE hP hD hS hA hF hT (sX_X6_closing_1 l dC dI cy x0 x  v52 f53 hIv52 ) k_720 k_722 k_11 k_103 k_723 (by decide +kernel) ⟨Nat.le_of_ble_eq_true rfl, Nat.le_of_ble_eq_true rfl⟩ 3 6 rfl rfl (rfl) hl.1 rfl (Nat.le_of_ble_eq_true rfl) dX6_line_156 (fun r55 u H locs hw hP hD hS => ?_)
                obtain ⟨v56, f57⟩ := u
                obtain ⟨hIv56, hk0_v56, hk1_v56, hk9_v56, hk10_v56, hk31_v56, hk32_v56, hw⟩ := hw
                have hP : va_P (dC, dI) vwCl (XW cy x0 x v56 f57) H := hP
                have hD : va_D A (XW cy x0 x v56 f57) := hD
                have hq0_v56 : v56 0 = (v 0) := hk0_v56.trans hq0_v52
                have hq1_v56 : v56 1 = (v 1) := hk1_v56.trans hq1_v52
                have hq9_v56 : v56 9 = (v 9) := hk9_v56.trans hq9_v52
                have hq10_v56 : v56 10 = (v 10) := hk10_v56.trans hq10_v52
                have hq31_v56 : v56 31 = (v 31) := hk31_v56.trans hq31_v52
                have hq32_v56 : v56 32 = (v 32) := hk32_v56.trans hq32_v52
                rcases hw with ⟨g58⟩ | ⟨g58⟩
                · skip
                  subst g58
                  refine lv_if_eq (tgt := 166) hx hb dX6_line_159 (by decide) (fun c0 => absurd c0 (by decide)) (fun _ => ?_)
                  refine lv_iconst (v := 1) hx hb dX6_line_162 (by decide) ?_
                  refine lv_goto (tgt := 167) hx hb dX6_line_163 (by decide) ?_
                  exact ret 1 (v56, f57) _ _ _ _ _ _ rfl ⟨hIv56, (hk0_v56.trans hk0_v52), (hk1_v56.trans hk1_v52), (Or.inl rfl)⟩ hP hD hS dX6_line_167 (Nat.le_refl _) (Nat.le_refl _)
                · skip
                  subst g58
                  refine lv_if_eq (tgt := 166) hx hb dX6_line_159 (by decide) (fun _ => ?_) (fun c0 => absurd (by decide) c0)
                  refine lv_iconst (v := 0) hx hb dX6_line_166 (by decide) ?_
                  exact ret 0 (v56, f57) _ _ _ _ _ _ rfl ⟨hIv56, (hk0_v56.trans hk0_v52), (hk1_v56.trans hk1_v52), (Or.inr rfl)⟩ hP hD hS dX6_line_167 (Nat.le_refl _) (Nat.le_refl _)
              · skip
                subst g54
                refine lv_if_eq (tgt := 166) hx hb dX6_line_152 (by decide) (fun _ => ?_) (fun c0 => absurd (by decide) c0)
                refine lv_iconst (v := 0) hx hb dX6_line_166 (by decide) ?_
                exact ret 0 (v52, f53) _ _ _ _ _ _ rfl ⟨hIv52, hk0_v52, hk1_v52, (Or.inr rfl)⟩ hP hD hS dX6_line_167 (Nat.le_refl _) (Nat.le_refl _)
            · skip
              have zc50 : ¬ ((v 2).toInt = 106) := by rw [fa_eq, show (106 : Int32).toInt = 106 from by decide] at c50; exact c50
              by_cases c59 : (v 2) = 107
              · skip
                refine lv_tableIn (off := 161) (tgt := 168) hx hb dX6_line_7 (by rw [c59]; decide) (by rw [c59]; decide) (by rw [c59]; decide) (by decide) ?_
                have zc59 : (v 2).toInt = 107 := by rw [fa_eq, show (107 : Int32).toInt = 107 from by decide] at c59; exact c59
                refine lv_aload_n hx hb dX6_line_168 rfl (lv_at hl 0 rfl) ?_
                refine lv_bipush (v := 100) hx hb dX6_line_169 (by decide) ?_
                refine csVi (n := 1) (rest := []) hx hb hml hown hts hE hP hD hS hA hF hT (sX_X6_settingLine_1 l dC dI cy x0 x 100 v f hIv ) k_759 k_761 k_18 k_103 k_762 (by decide +kernel) ⟨Nat.le_of_ble_eq_true rfl, Nat.le_of_ble_eq_true rfl⟩ 3 6 rfl rfl (rfl) hl.1 rfl (Nat.le_of_ble_eq_true rfl) dX6_line_171 (fun r60 u H locs hw hP hD hS => ?_)
                obtain ⟨v61, f62⟩ := u
                obtain ⟨hIv61, hk0_v61, hk1_v61, hk9_v61, hk10_v61, hk31_v61, hk32_v61, hw⟩ := hw
                have hP : va_P (dC, dI) vwCl (XW cy x0 x v61 f62) H := hP
                have hD : va_D A (XW cy x0 x v61 f62) := hD
                have hq0_v61 : v61 0 = (v 0) := hk0_v61
                have hq1_v61 : v61 1 = (v 1) := hk1_v61
                have hq9_v61 : v61 9 = (v 9) := hk9_v61
                have hq10_v61 : v61 10 = (v 10) := hk10_v61
                have hq31_v61 : v61 31 = (v 31) := hk31_v61
                have hq32_v61 : v61 32 = (v 32) := hk32_v61
                rcases hw with ⟨g63⟩ | ⟨g63⟩
                · skip
                  subst g63
                  refine lv_if_eq (tgt := 188) hx hb dX6_line_174 (by decide) (fun c0 => absurd c0 (by decide)) (fun _ => ?_)
                  refine lv_aload_n hx hb dX6_line_177 rfl (lv_at hl 0 rfl) ?_
                  refine csVi (n := 0) (rest := []) hx hb hml hown hts hE hP hD hS hA hF hT (sX_X6_closing_1 l dC dI cy x0 x  v61 f62 hIv61 ) k_720 k_722 k_11 k_103 k_723 (by decide +kernel) ⟨Nat.le_of_ble_eq_true rfl, Nat.le_of_ble_eq_true rfl⟩ 3 6 rfl rfl (rfl) hl.1 rfl (Nat.le_of_ble_eq_true rfl) dX6_line_178 (fun r64 u H locs hw hP hD hS => ?_)
                  obtain ⟨v65, f66⟩ := u
                  obtain ⟨hIv65, hk0_v65, hk1_v65, hk9_v65, hk10_v65, hk31_v65, hk32_v65, hw⟩ := hw
                  have hP : va_P (dC, dI) vwCl (XW cy x0 x v65 f66) H := hP
                  have hD : va_D A (XW cy x0 x v65 f66) := hD
                  have hq0_v65 : v65 0 = (v 0) := hk0_v65.trans hq0_v61
                  have hq1_v65 : v65 1 = (v 1) := hk1_v65.trans hq1_v61
                  have hq9_v65 : v65 9 = (v 9) := hk9_v65.trans hq9_v61
                  have hq10_v65 : v65 10 = (v 10) := hk10_v65.trans hq10_v61
                  have hq31_v65 : v65 31 = (v 31) := hk31_v65.trans hq31_v61
                  have hq32_v65 : v65 32 = (v 32) := hk32_v65.trans hq32_v61
                  rcases hw with ⟨g67⟩ | ⟨g67⟩
                  · skip
                    subst g67
                    refine lv_if_eq (tgt := 188) hx hb dX6_line_181 (by decide) (fun c0 => absurd c0 (by decide)) (fun _ => ?_)
                    refine lv_iconst (v := 1) hx hb dX6_line_184 (by decide) ?_
                    refine lv_goto (tgt := 189) hx hb dX6_line_185 (by decide) ?_
                    exact ret 1 (v65, f66) _ _ _ _ _ _ rfl ⟨hIv65, (hk0_v65.trans hk0_v61), (hk1_v65.trans hk1_v61), (Or.inl rfl)⟩ hP hD hS dX6_line_189 (Nat.le_refl _) (Nat.le_refl _)
                  · skip
                    subst g67
                    refine lv_if_eq (tgt := 188) hx hb dX6_line_181 (by decide) (fun _ => ?_) (fun c0 => absurd (by decide) c0)
                    refine lv_iconst (v := 0) hx hb dX6_line_188 (by decide) ?_
                    exact ret 0 (v65, f66) _ _ _ _ _ _ rfl ⟨hIv65, (hk0_v65.trans hk0_v61), (hk1_v65.trans hk1_v61), (Or.inr rfl)⟩ hP hD hS dX6_line_189 (Nat.le_refl _) (Nat.le_refl _)
                · skip
                  subst g63
                  refine lv_if_eq (tgt := 188) hx hb dX6_line_174 (by decide) (fun _ => ?_) (fun c0 => absurd (by decide) c0)
                  refine lv_iconst (v := 0) hx hb dX6_line_188 (by decide) ?_
                  exact ret 0 (v61, f62) _ _ _ _ _ _ rfl ⟨hIv61, hk0_v61, hk1_v61, (Or.inr rfl)⟩ hP hD hS dX6_line_189 (Nat.le_refl _) (Nat.le_refl _)
              · skip
                have zc59 : ¬ ((v 2).toInt = 107) := by rw [fa_eq, show (107 : Int32).toInt = 107 from by decide] at c59; exact c59
                by_cases c68 : (v 2) = 108
                · skip
                  refine lv_tableIn (off := 116) (tgt := 123) hx hb dX6_line_7 (by rw [c68]; decide) (by rw [c68]; decide) (by rw [c68]; decide) (by decide) ?_
                  have zc68 : (v 2).toInt = 108 := by rw [fa_eq, show (108 : Int32).toInt = 108 from by decide] at c68; exact c68
                  refine lv_aload_n hx hb dX6_line_123 rfl (lv_at hl 0 rfl) ?_
                  refine lv_sipush (v := 999) hx hb dX6_line_124 (by decide) ?_
                  refine csVi (n := 1) (rest := []) hx hb hml hown hts hE hP hD hS hA hF hT (sX_X6_settingLine_1 l dC dI cy x0 x 999 v f hIv ) k_759 k_761 k_18 k_103 k_762 (by decide +kernel) ⟨Nat.le_of_ble_eq_true rfl, Nat.le_of_ble_eq_true rfl⟩ 3 6 rfl rfl (rfl) hl.1 rfl (Nat.le_of_ble_eq_true rfl) dX6_line_127 (fun r69 u H locs hw hP hD hS => ?_)
                  obtain ⟨v70, f71⟩ := u
                  obtain ⟨hIv70, hk0_v70, hk1_v70, hk9_v70, hk10_v70, hk31_v70, hk32_v70, hw⟩ := hw
                  have hP : va_P (dC, dI) vwCl (XW cy x0 x v70 f71) H := hP
                  have hD : va_D A (XW cy x0 x v70 f71) := hD
                  have hq0_v70 : v70 0 = (v 0) := hk0_v70
                  have hq1_v70 : v70 1 = (v 1) := hk1_v70
                  have hq9_v70 : v70 9 = (v 9) := hk9_v70
                  have hq10_v70 : v70 10 = (v 10) := hk10_v70
                  have hq31_v70 : v70 31 = (v 31) := hk31_v70
                  have hq32_v70 : v70 32 = (v 32) := hk32_v70
                  rcases hw with ⟨g72⟩ | ⟨g72⟩
                  · skip
                    subst g72
                    refine lv_if_eq (tgt := 144) hx hb dX6_line_130 (by decide) (fun c0 => absurd c0 (by decide)) (fun _ => ?_)
                    refine lv_aload_n hx hb dX6_line_133 rfl (lv_at hl 0 rfl) ?_
                    refine csVi (n := 0) (rest := []) hx hb hml hown hts hE hP hD hS hA hF hT (sX_X6_closing_1 l dC dI cy x0 x  v70 f71 hIv70 ) k_720 k_722 k_11 k_103 k_723 (by decide +kernel) ⟨Nat.le_of_ble_eq_true rfl, Nat.le_of_ble_eq_true rfl⟩ 3 6 rfl rfl (rfl) hl.1 rfl (Nat.le_of_ble_eq_true rfl) dX6_line_134 (fun r73 u H locs hw hP hD hS => ?_)
                    obtain ⟨v74, f75⟩ := u
                    obtain ⟨hIv74, hk0_v74, hk1_v74, hk9_v74, hk10_v74, hk31_v74, hk32_v74, hw⟩ := hw
                    have hP : va_P (dC, dI) vwCl (XW cy x0 x v74 f75) H := hP
                    have hD : va_D A (XW cy x0 x v74 f75) := hD
                    have hq0_v74 : v74 0 = (v 0) := hk0_v74.trans hq0_v70
                    have hq1_v74 : v74 1 = (v 1) := hk1_v74.trans hq1_v70
                    have hq9_v74 : v74 9 = (v 9) := hk9_v74.trans hq9_v70
                    have hq10_v74 : v74 10 = (v 10) := hk10_v74.trans hq10_v70
                    have hq31_v74 : v74 31 = (v 31) := hk31_v74.trans hq31_v70
                    have hq32_v74 : v74 32 = (v 32) := hk32_v74.trans hq32_v70
                    rcases hw with ⟨g76⟩ | ⟨g76⟩
                    · skip
                      subst g76
                      refine lv_if_eq (tgt := 144) hx hb dX6_line_137 (by decide) (fun c0 => absurd c0 (by decide)) (fun _ => ?_)
                      refine lv_iconst (v := 1) hx hb dX6_line_140 (by decide) ?_
                      refine lv_goto (tgt := 145) hx hb dX6_line_141 (by decide) ?_
                      exact ret 1 (v74, f75) _ _ _ _ _ _ rfl ⟨hIv74, (hk0_v74.trans hk0_v70), (hk1_v74.trans hk1_v70), (Or.inl rfl)⟩ hP hD hS dX6_line_145 (Nat.le_refl _) (Nat.le_refl _)
                    · skip
                      subst g76
                      refine lv_if_eq (tgt := 144) hx hb dX6_line_137 (by decide) (fun _ => ?_) (fun c0 => absurd (by decide) c0)
                      refine lv_iconst (v := 0) hx hb dX6_line_144 (by decide) ?_
                      exact ret 0 (v74, f75) _ _ _ _ _ _ rfl ⟨hIv74, (hk0_v74.trans hk0_v70), (hk1_v74.trans hk1_v70), (Or.inr rfl)⟩ hP hD hS dX6_line_145 (Nat.le_refl _) (Nat.le_refl _)
                  · skip
                    subst g72
                    refine lv_if_eq (tgt := 144) hx hb dX6_line_130 (by decide) (fun _ => ?_) (fun c0 => absurd (by decide) c0)
                    refine lv_iconst (v := 0) hx hb dX6_line_144 (by decide) ?_
                    exact ret 0 (v70, f71) _ _ _ _ _ _ rfl ⟨hIv70, hk0_v70, hk1_v70, (Or.inr rfl)⟩ hP hD hS dX6_line_145 (Nat.le_refl _) (Nat.le_refl _)
                · skip
                  have zc68 : ¬ ((v 2).toInt = 108) := by rw [fa_eq, show (108 : Int32).toInt = 108 from by decide] at c68; exact c68
                  refine lv_tableOut (tgt := 190) hx hb dX6_line_7 (by omega) (by decide) ?_
                  refine lv_aload_n hx hb dX6_line_190 rfl (lv_at hl 0 rfl) ?_
                  refine cbVi (n := 0) (rest := []) hx hb hml hown hts hE hP hD hS hA (sX_X6_refuse_1 l dC dI cy x0 x  v f hIv ) k_691 k_693 k_6 k_103 k_694 (by decide +kernel) ⟨Nat.le_of_ble_eq_true rfl, Nat.le_of_ble_eq_true rfl⟩ 3 6 rfl rfl (rfl) hl.1 rfl (Nat.le_of_ble_eq_true rfl) dX6_line_191 (fun r77 u H locs hw hP hD hS => ?_)
                  obtain ⟨v78, f79⟩ := u
                  obtain ⟨hIv78, hk0_v78, hk1_v78, hk9_v78, hk10_v78, hk31_v78, hk32_v78, hw⟩ := hw
                  have hP : va_P (dC, dI) vwCl (XW cy x0 x v78 f79) H := hP
                  have hD : va_D A (XW cy x0 x v78 f79) := hD
                  have hq0_v78 : v78 0 = (v 0) := hk0_v78
                  have hq1_v78 : v78 1 = (v 1) := hk1_v78
                  have hq9_v78 : v78 9 = (v 9) := hk9_v78
                  have hq10_v78 : v78 10 = (v 10) := hk10_v78
                  have hq31_v78 : v78 31 = (v 31) := hk31_v78
                  have hq32_v78 : v78 32 = (v 32) := hk32_v78
                  rcases hw with ⟨g80⟩ | ⟨g80⟩
                  · skip
                    subst g80
                    exact ret 1 (v78, f79) _ _ _ _ _ _ rfl ⟨hIv78, hk0_v78, hk1_v78, (Or.inl rfl)⟩ hP hD hS dX6_line_194 (Nat.le_refl _) (Nat.le_refl _)
                  · skip
                    subst g80
                    exact ret 0 (v78, f79) _ _ _ _ _ _ rfl ⟨hIv78, hk0_v78, hk1_v78, (Or.inr rfl)⟩ hP hD hS dX6_line_194 (Nat.le_refl _) (Nat.le_refl _)
set_option maxHeartbeats 4000000 in
set_option maxRecDepth 100000 in
theorem sX_X6_read_1 (l : Launch) (dC : Nat → ClassId) (dI : Nat → Nat → Nat) (cy : Nat → ClassId) (x0 : Nat) (x : Nat → Nat)  (v : Nat → Int32) (f : Nat → Nat → Int32) (hIv : XI v)  : ctIS l (dC, dI) cy yX6_read cX6_read 2 .boolean 64 1595 0 0 ((Nat → Int32) × (Nat → Nat → Int32)) [.ref (x 2)] (XW cy x0 x v f) (fun r u => XI u.1 ∧ u.1 0 = v 0 ∧ u.1 1 = v 1 ∧ ((r = 1) ∨ (r = 0))) (fun u => XW cy x0 x u.1 u.2) := by
  refine ctIS_of (by decide) (Nat.le_of_ble_eq_true rfl) (fun p e s m below meth c A ls Q hx hb hml hts hown hE hF hT hP hD hA hl ret => ?_)
  have hown : s.vm.findClass RX6 = some m.cls := hown
  have hS : va_S A s.heap s.heap [] := va_S.rf
  have hl : lv_has ls 2 [(0, .ref (x 2))] := hl
  refine lv_aload_n hx hb dX6_read_0 rfl (lv_at hl 0 rfl) ?_
  refine va_get (D := (dC, dI)) (ci := 6) (v := .ref (x 3)) (C := RX6) (T := TX6) (N := 7) hx hb hts inB_6 hown hE.1 hP 3 rfl rfl 1 (by decide) (hts _ k_266) (fun _ h9 => h9) rfl dX6_read_1 ?_
  refine cbVv (n := 0) (rest := []) hx hb hml hown hts hE hP hD hS hA (sX_X7_clear_1 l dC dI cy x0 x  v f hIv ) k_546 k_547 k_548 k_104 k_549 (by decide +kernel) ⟨Nat.le_of_ble_eq_true rfl, Nat.le_of_ble_eq_true rfl⟩ 4 7 rfl rfl (rfl) hl.1 rfl (Nat.le_of_ble_eq_true rfl) dX6_read_4 (fun u H locs hw hP hD hS => ?_)
  obtain ⟨v1, f2⟩ := u
  obtain ⟨hIv1, hk0_v1, hk1_v1⟩ := hw
  have hP : va_P (dC, dI) vwCl (XW cy x0 x v1 f2) H := hP
  have hD : va_D A (XW cy x0 x v1 f2) := hD
  have hq0_v1 : v1 0 = (v 0) := hk0_v1
  have hq1_v1 : v1 1 = (v 1) := hk1_v1
  refine lv_aload_n hx hb dX6_read_7 rfl (lv_at hl 0 rfl) ?_
  refine lv_iconst (v := 0) hx hb dX6_read_8 (by decide) ?_
  refine va_put (D := (dC, dI)) (ci := 6) (v := .int 0) (ty := tyX6 4) (C := RX6) (T := TX6) (N := 7) hx hb hts inB_6 tyX6 tyX6_ok nmX6 hown hE.1 hP hD hS 3 rfl rfl 4 (by decide) (hts _ k_270) (fun _ h9 => h9) rfl (tyX6_ok 4 (by decide)) rfl rfl (Nat.le_of_ble_eq_true rfl) dX6_read_9 (fun H locs hP hD hS => ?_)
  have hP : va_P (dC, dI) vwCl (XW cy x0 x (upd v1 6 0) f2) H := hP
  have hD : va_D A (XW cy x0 x (upd v1 6 0) f2) := hD
  refine lv_aload_n hx hb dX6_read_12 rfl (lv_at hl 0 rfl) ?_
  refine lv_iconst (v := 0) hx hb dX6_read_13 (by decide) ?_
  refine va_put (D := (dC, dI)) (ci := 6) (v := .int 0) (ty := tyX6 5) (C := RX6) (T := TX6) (N := 7) hx hb hts inB_6 tyX6 tyX6_ok nmX6 hown hE.1 hP hD hS 3 rfl rfl 5 (by decide) (hts _ k_271) (fun _ h9 => h9) rfl (tyX6_ok 5 (by decide)) rfl rfl (Nat.le_of_ble_eq_true rfl) dX6_read_14 (fun H locs hP hD hS => ?_)
  have hP : va_P (dC, dI) vwCl (XW cy x0 x (upd (upd v1 6 0) 7 0) f2) H := hP
  have hD : va_D A (XW cy x0 x (upd (upd v1 6 0) 7 0) f2) := hD
  refine lv_aload_n hx hb dX6_read_17 rfl (lv_at hl 0 rfl) ?_
  refine lv_iconst (v := (-1)) hx hb dX6_read_18 (by decide) ?_
  refine va_put (D := (dC, dI)) (ci := 6) (v := .int (-1)) (ty := tyX6 6) (C := RX6) (T := TX6) (N := 7) hx hb hts inB_6 tyX6 tyX6_ok nmX6 hown hE.1 hP hD hS 3 rfl rfl 6 (by decide) (hts _ k_273) (fun _ h9 => h9) rfl (tyX6_ok 6 (by decide)) rfl rfl (Nat.le_of_ble_eq_true rfl) dX6_read_19 (fun H locs hP hD hS => ?_)
  have hP : va_P (dC, dI) vwCl (XW cy x0 x (upd (upd (upd v1 6 0) 7 0) 8 (-1)) f2) H := hP
  have hD : va_D A (XW cy x0 x (upd (upd (upd v1 6 0) 7 0) 8 (-1)) f2) := hD
  refine lv_aload_n hx hb dX6_read_22 rfl (lv_at hl 0 rfl) ?_
  refine va_get (D := (dC, dI)) (ci := 6) (v := .ref (x 0)) (C := RX6) (T := TX6) (N := 7) hx hb hts inB_6 hown hE.1 hP 3 rfl rfl 0 (by decide) (hts _ k_265) (fun _ h9 => h9) rfl dX6_read_23 ?_
  refine csVv (n := 0) (rest := []) hx hb hml hown hts hE hP hD hS hA hF hT (sX_X9_rewind_1 l dC dI cy x0 x  (upd (upd (upd v1 6 0) 7 0) 8 (-1)) f2 (XI.upd (j := 8) (x := (-1)) (XI.upd (j := 7) (x := 0) (XI.upd (j := 6) (x := 0) hIv1 (rlo _) (rhi _)) (rlo _) (rhi _)) (rlo _) (rhi _)) ) k_554 k_555 k_556 k_102 k_557 (by decide +kernel) ⟨Nat.le_of_ble_eq_true rfl, Nat.le_of_ble_eq_true rfl⟩ 1 9 rfl rfl (rfl) hl.1 rfl (Nat.le_of_ble_eq_true rfl) dX6_read_26 (fun u H locs hw hP hD hS => ?_)
  obtain ⟨v3, f4⟩ := u
  obtain ⟨hIv3, hk0_v3, hk1_v3, hk9_v3, hk10_v3, hk31_v3, hk32_v3⟩ := hw
  have hP : va_P (dC, dI) vwCl (XW cy x0 x v3 f4) H := hP
  have hD : va_D A (XW cy x0 x v3 f4) := hD
  have hq0_v3 : v3 0 = (v 0) := hk0_v3.trans hq0_v1
  have hq1_v3 : v3 1 = (v 1) := hk1_v3.trans hq1_v1
  have hq9_v3 : v3 9 = (v1 9) := hk9_v3
  have hq10_v3 : v3 10 = (v1 10) := hk10_v3
  have hq31_v3 : v3 31 = (v1 31) := hk31_v3
  have hq32_v3 : v3 32 = (v1 32) := hk32_v3
  refine lv_iconst (v := 0) hx hb dX6_read_29 (by decide) ?_
  refine lv_istore_n (lv' := [(1, .int 0), (0, .ref (x 2))]) hx hb dX6_read_30 rfl hl (by decide) rfl (fun ls hl => ?_)
  have lp5 : ∀ (n5 : Nat) (l1_5 : Int32) (v5 : Nat → Int32) (f5 : Nat → Nat → Int32), XI v5 → v5 0 = (v 0) → v5 1 = (v 1) → ((0 : Int) ≤ l1_5.toInt ∧ l1_5.toInt ≤ 2147483647) → (2147483647 - l1_5.toInt).toNat < n5 → ∀ (H : Heap) (locs : List Loc) (ls : Array Slot), va_P (dC, dI) vwCl (XW cy x0 x v5 f5) H → va_D A (XW cy x0 x v5 f5) → va_S A s.heap H locs → lv_has ls 2 [(1, .int l1_5), (0, .ref (x 2))] → W p l e { frames := 64, cells := 0, slots := 0, locals := 1595 } s m ([.ref (x 2)] : List Value).toArray below meth c H locs 0 0 Q (F0 m 31 ls []) := by
    intro n5
    induction n5 with
    | zero => intro l1_5 v5 f5 hIv5 hq0_v5 hq1_v5 hr1_5 hm; exact absurd hm (Nat.not_lt_zero _)
    | succ n5 ih5 =>
      intro l1_5 v5 f5 hIv5 hq0_v5 hq1_v5 hr1_5 hm5 H locs ls hP hD hS hl
      refine lv_iload_n hx hb dX6_read_31 rfl (lv_at hl 0 rfl) ?_
      refine lv_sipush (v := 1600) hx hb dX6_read_32 (by decide) ?_
      refine lv_icmp_ge (tgt := 63) hx hb dX6_read_35 (by decide) (fun c6 => ?_) (fun c6 => ?_)
      · skip
        have zc6 : 1600 ≤ l1_5.toInt := by rw [fa_le, show (1600 : Int32).toInt = 1600 from by decide] at c6; exact c6
        refine lv_iconst (v := 1) hx hb dX6_read_63 (by decide) ?_
        exact ret 1 (v5, f5) _ _ _ _ _ _ rfl ⟨hIv5, hq0_v5, hq1_v5, (Or.inl rfl)⟩ hP hD hS dX6_read_64 (Nat.le_refl _) (Nat.le_refl _)
      · skip
        have zc6 : ¬ (1600 ≤ l1_5.toInt) := by rw [fa_le, show (1600 : Int32).toInt = 1600 from by decide] at c6; exact c6
        refine lv_aload_n hx hb dX6_read_38 rfl (lv_at hl 1 rfl) ?_
        refine va_get (D := (dC, dI)) (ci := 6) (v := .ref (x 0)) (C := RX6) (T := TX6) (N := 7) hx hb hts inB_6 hown hE.1 hP 3 rfl rfl 0 (by decide) (hts _ k_265) (fun _ h9 => h9) rfl dX6_read_39 ?_
        refine va_getN (D := (dC, dI)) (ci := 9) (v := .int (v5 2)) (C := RX9) (T := TX9) (N := 6) hx hb hts inB_9 hown hE.1 hP 1 rfl rfl 2 (by decide) (va_Nw.use rfl (hE.2 _ k_139)) (fun _ h9 => h9) rfl dX6_read_42 ?_
        refine lv_if_eq (tgt := 63) hx hb dX6_read_45 (by decide) (fun c7 => ?_) (fun c7 => ?_)
        · skip
          have zc7 : (v5 2).toInt = 0 := by rw [fa_eq, show (0 : Int32).toInt = 0 from by decide] at c7; exact c7
          refine lv_iconst (v := 1) hx hb dX6_read_63 (by decide) ?_
          exact ret 1 (v5, f5) _ _ _ _ _ _ rfl ⟨hIv5, hq0_v5, hq1_v5, (Or.inl rfl)⟩ hP hD hS dX6_read_64 (Nat.le_refl _) (Nat.le_refl _)
        · skip
          have zc7 : ¬ ((v5 2).toInt = 0) := by rw [fa_eq, show (0 : Int32).toInt = 0 from by decide] at c7; exact c7
          refine lv_aload_n hx hb dX6_read_48 rfl (lv_at hl 1 rfl) ?_
          refine csVi (n := 0) (rest := []) hx hb hml hown hts hE hP hD hS hA hF hT (sX_X6_line_1 l dC dI cy x0 x  v5 f5 hIv5 ) k_683 k_685 k_4 k_103 k_686 (by decide +kernel) ⟨Nat.le_of_ble_eq_true rfl, Nat.le_of_ble_eq_true rfl⟩ 3 6 rfl rfl (rfl) hl.1 rfl (Nat.le_of_ble_eq_true rfl) dX6_read_49 (fun r8 u H locs hw hP hD hS => ?_)
          obtain ⟨v9, f10⟩ := u
          obtain ⟨hIv9, hk0_v9, hk1_v9, hw⟩ := hw
          have hP : va_P (dC, dI) vwCl (XW cy x0 x v9 f10) H := hP
          have hD : va_D A (XW cy x0 x v9 f10) := hD
          have hq0_v9 : v9 0 = (v 0) := hk0_v9.trans hq0_v5
          have hq1_v9 : v9 1 = (v 1) := hk1_v9.trans hq1_v5
          rcases hw with ⟨g11⟩ | ⟨g11⟩
          · skip
            subst g11
            refine lv_if_ne (tgt := 57) hx hb dX6_read_52 (by decide) (fun _ => ?_) (fun c0 => absurd c0 (by decide))
            obtain ⟨t12, et12⟩ : ∃ y : Int32, y = l1_5 + 1 := ⟨_, rfl⟩
            have rg13 := fb_rng l1_5
            have zt12 : t12.toInt = l1_5.toInt + 1 := by rw [et12]; exact add_i rfl (by decide) (by omega) (by omega)
            refine lv_iinc (v := t12) (lv' := [(1, .int t12), (0, .ref (x 2))]) hx hb dX6_read_57 hl (k := 0) rfl (by rw [et12]; rfl) (by decide) rfl (fun ls hl => ?_)
            refine lv_goto (tgt := 31) hx hb dX6_read_60 (by decide) ?_
            have rg14 := fb_rng t12
            exact ih5 t12 v9 f10 hIv9 hq0_v9 hq1_v9 ⟨show (0 : Int) ≤ t12.toInt by omega, show t12.toInt ≤ (2147483647 : Int) by omega⟩ (by show (2147483647 - t12.toInt).toNat < n5; omega) _ _ _ hP hD hS (lv_sub hl [0, 1] rfl)
          · skip
            subst g11
            refine lv_if_ne (tgt := 57) hx hb dX6_read_52 (by decide) (fun c0 => absurd (by decide) c0) (fun _ => ?_)
            refine lv_iconst (v := 0) hx hb dX6_read_55 (by decide) ?_
            exact ret 0 (v9, f10) _ _ _ _ _ _ rfl ⟨hIv9, (hk0_v9.trans hq0_v5), (hk1_v9.trans hq1_v5), (Or.inr rfl)⟩ hP hD hS dX6_read_56 (Nat.le_refl _) (Nat.le_refl _)
  exact lp5 _ 0 v3 f4 hIv3 hq0_v3 hq1_v3 ⟨by decide, by decide⟩ (Nat.lt_succ_self _) _ _ _ hP hD hS (lv_sub hl [0, 1] rfl)
set_option maxHeartbeats 4000000 in
set_option maxRecDepth 100000 in
theorem sX_X4_copy_1 (l : Launch) (dC : Nat → ClassId) (dI : Nat → Nat → Nat) (cy : Nat → ClassId) (x0 : Nat) (x : Nat → Nat)  (v : Nat → Int32) (f : Nat → Nat → Int32) (hIv : XI v)  : ctV l (dC, dI) cy yX4_copy cX4_copy 2 1 100 0 0 ((Nat → Int32) × (Nat → Nat → Int32)) [.ref (x 15), .ref (x 6)] (XW cy x0 x v f) (fun u => XI u.1 ∧ u.1 0 = v 0 ∧ u.1 1 = v 1 ∧ u.1 9 = v 9 ∧ u.1 10 = v 10 ∧ u.1 31 = v 31 ∧ u.1 32 = v 32) (fun u => XW cy x0 x u.1 u.2) := by
  refine ctV_of (by decide) (Nat.le_of_ble_eq_true rfl) (fun p e s m below meth c A ls Q hx hb hml hts hown hnm hE hP hD hA hl ret => ?_)
  have hown : s.vm.findClass RX4 = some m.cls := hown
  have hS : va_S A s.heap s.heap [] := va_S.rf
  have hl : lv_has ls 2 [(0, .ref (x 15)), (1, .ref (x 6))] := hl
  refine lv_aload_n hx hb dX4_copy_0 rfl (lv_at hl 1 rfl) ?_
  refine va_get (D := (dC, dI)) (ci := 4) (v := .ref (x 7)) (C := RX4) (T := TX4) (N := 6) hx hb hts inB_4 hown hE.1 hP 7 rfl rfl 0 (by decide) (hts _ k_178) (fun _ h9 => h9) rfl dX4_copy_1 ?_
  refine lv_iconst (v := 0) hx hb dX4_copy_4 (by decide) ?_
  refine lv_aload_n hx hb dX4_copy_5 rfl (lv_at hl 0 rfl) ?_
  refine va_get (D := (dC, dI)) (ci := 4) (v := .ref (x 16)) (C := RX4) (T := TX4) (N := 6) hx hb hts inB_4 hown hE.1 hP 16 rfl rfl 0 (by decide) (hts _ k_178) (fun _ h9 => h9) rfl dX4_copy_6 ?_
  refine lv_iconst (v := 0) hx hb dX4_copy_9 (by decide) ?_
  refine lv_sipush (v := 300) hx hb dX4_copy_10 (by decide) ?_
  refine cpG (zs := 0) (zd := 0) (zn := 300) hx hb (by rw [hml]; exact hl.1.symm) hown (hts _ k_776) (hts _ k_337) (hts _ k_336) (hts _ k_108) hE hP hD hS 8 17 rfl rfl (by decide) (by decide) (by decide) (by omega) (by omega) (by omega) (by omega) (by omega) (Nat.le_of_ble_eq_true rfl) (Nat.le_of_ble_eq_true rfl) dX4_copy_13 (fun g9 H locs hP hD hS => ?_)
  obtain ⟨f1, hP, hD⟩ : ∃ fz9, va_P (dC, dI) vwCl (XW cy x0 x v fz9) H ∧ va_D A (XW cy x0 x v fz9) := ⟨upd2 f 11 g9, hP, hD⟩
  refine lv_aload_n hx hb dX4_copy_16 rfl (lv_at hl 1 rfl) ?_
  refine va_get (D := (dC, dI)) (ci := 4) (v := .ref (x 8)) (C := RX4) (T := TX4) (N := 6) hx hb hts inB_4 hown hE.1 hP 7 rfl rfl 1 (by decide) (hts _ k_179) (fun _ h9 => h9) rfl dX4_copy_17 ?_
  refine lv_iconst (v := 0) hx hb dX4_copy_20 (by decide) ?_
  refine lv_aload_n hx hb dX4_copy_21 rfl (lv_at hl 0 rfl) ?_
  refine va_get (D := (dC, dI)) (ci := 4) (v := .ref (x 17)) (C := RX4) (T := TX4) (N := 6) hx hb hts inB_4 hown hE.1 hP 16 rfl rfl 1 (by decide) (hts _ k_179) (fun _ h9 => h9) rfl dX4_copy_22 ?_
  refine lv_iconst (v := 0) hx hb dX4_copy_25 (by decide) ?_
  refine lv_sipush (v := 300) hx hb dX4_copy_26 (by decide) ?_
  refine cpG (zs := 0) (zd := 0) (zn := 300) hx hb (by rw [hml]; exact hl.1.symm) hown (hts _ k_776) (hts _ k_337) (hts _ k_336) (hts _ k_108) hE hP hD hS 9 18 rfl rfl (by decide) (by decide) (by decide) (by omega) (by omega) (by omega) (by omega) (by omega) (Nat.le_of_ble_eq_true rfl) (Nat.le_of_ble_eq_true rfl) dX4_copy_29 (fun g9 H locs hP hD hS => ?_)
  obtain ⟨f2, hP, hD⟩ : ∃ fz9, va_P (dC, dI) vwCl (XW cy x0 x v fz9) H ∧ va_D A (XW cy x0 x v fz9) := ⟨upd2 f1 12 g9, hP, hD⟩
  refine lv_aload_n hx hb dX4_copy_32 rfl (lv_at hl 0 rfl) ?_
  refine lv_aload_n hx hb dX4_copy_33 rfl (lv_at hl 1 rfl) ?_
  refine va_get (D := (dC, dI)) (ci := 4) (v := .int (v 16)) (C := RX4) (T := TX4) (N := 6) hx hb hts inB_4 hown hE.1 hP 7 rfl rfl 4 (by decide) (hts _ k_182) (fun _ h9 => h9) rfl dX4_copy_34 ?_
  have b16_v : 0 ≤ (v 16).toInt ∧ (v 16).toInt ≤ 300 := XI.b hIv 16 (by decide)
  refine va_put (D := (dC, dI)) (ci := 4) (v := .int (v 16)) (ty := tyX4 4) (C := RX4) (T := TX4) (N := 6) hx hb hts inB_4 tyX4 tyX4_ok nmX4 hown hE.1 hP hD hS 16 rfl rfl 4 (by decide) (hts _ k_182) (fun _ h9 => h9) rfl (tyX4_ok 4 (by decide)) rfl rfl (Nat.le_of_ble_eq_true rfl) dX4_copy_37 (fun H locs hP hD hS => ?_)
  have hP : va_P (dC, dI) vwCl (XW cy x0 x (upd v 18 (v 16)) f2) H := hP
  have hD : va_D A (XW cy x0 x (upd v 18 (v 16)) f2) := hD
  refine lv_aload_n hx hb dX4_copy_40 rfl (lv_at hl 0 rfl) ?_
  refine lv_aload_n hx hb dX4_copy_41 rfl (lv_at hl 1 rfl) ?_
  refine va_get (D := (dC, dI)) (ci := 4) (v := .int (v 17)) (C := RX4) (T := TX4) (N := 6) hx hb hts inB_4 hown hE.1 hP 7 rfl rfl 5 (by decide) (hts _ k_183) (fun _ h9 => h9) rfl dX4_copy_42 ?_
  refine va_put (D := (dC, dI)) (ci := 4) (v := .int (v 17)) (ty := tyX4 5) (C := RX4) (T := TX4) (N := 6) hx hb hts inB_4 tyX4 tyX4_ok nmX4 hown hE.1 hP hD hS 16 rfl rfl 5 (by decide) (hts _ k_183) (fun _ h9 => h9) rfl (tyX4_ok 5 (by decide)) rfl rfl (Nat.le_of_ble_eq_true rfl) dX4_copy_45 (fun H locs hP hD hS => ?_)
  have hP : va_P (dC, dI) vwCl (XW cy x0 x (upd (upd v 18 (v 16)) 19 (v 17)) f2) H := hP
  have hD : va_D A (XW cy x0 x (upd (upd v 18 (v 16)) 19 (v 17)) f2) := hD
  exact ret ((upd (upd v 18 (v 16)) 19 (v 17)), f2) _ _ _ _ _ _ ⟨(XI.upd (j := 19) (x := (v 17)) (XI.upd (j := 18) (x := (v 16)) hIv (show (0 : Int) ≤ (v 16).toInt by omega) (show (v 16).toInt ≤ (300 : Int) by omega)) (rlo _) (rhi _)), rfl, rfl, rfl, rfl, rfl, rfl⟩ hP hD hS dX4_copy_48 (Nat.le_refl _) (Nat.le_refl _)
set_option maxHeartbeats 4000000 in
set_option maxRecDepth 100000 in
theorem sX_X7_copy_1 (l : Launch) (dC : Nat → ClassId) (dI : Nat → Nat → Nat) (cy : Nat → ClassId) (x0 : Nat) (x : Nat → Nat)  (v : Nat → Int32) (f : Nat → Nat → Int32) (hIv : XI v)  : ctV l (dC, dI) cy yX7_copy cX7_copy 2 2 121 0 0 ((Nat → Int32) × (Nat → Nat → Int32)) [.ref (x 26), .ref (x 3)] (XW cy x0 x v f) (fun u => XI u.1 ∧ u.1 0 = v 0 ∧ u.1 1 = v 1) (fun u => XW cy x0 x u.1 u.2) := by
  refine ctV_of (by decide) (Nat.le_of_ble_eq_true rfl) (fun p e s m below meth c A ls Q hx hb hml hts hown hnm hE hP hD hA hl ret => ?_)
  have hown : s.vm.findClass RX7 = some m.cls := hown
  have hS : va_S A s.heap s.heap [] := va_S.rf
  have hl : lv_has ls 2 [(0, .ref (x 26)), (1, .ref (x 3))] := hl
  refine lv_aload_n hx hb dX7_copy_0 rfl (lv_at hl 1 rfl) ?_
  refine va_get (D := (dC, dI)) (ci := 7) (v := .ref (x 4)) (C := RX7) (T := TX7) (N := 10) hx hb hts inB_7 hown hE.1 hP 4 rfl rfl 0 (by decide) (hts _ k_204) (fun _ h9 => h9) rfl dX7_copy_1 ?_
  refine lv_iconst (v := 0) hx hb dX7_copy_4 (by decide) ?_
  refine lv_aload_n hx hb dX7_copy_5 rfl (lv_at hl 0 rfl) ?_
  refine va_get (D := (dC, dI)) (ci := 7) (v := .ref (x 13)) (C := RX7) (T := TX7) (N := 10) hx hb hts inB_7 hown hE.1 hP 27 rfl rfl 0 (by decide) (hts _ k_204) (fun _ h9 => h9) rfl dX7_copy_6 ?_
  refine lv_iconst (v := 0) hx hb dX7_copy_9 (by decide) ?_
  refine lv_aload_n hx hb dX7_copy_10 rfl (lv_at hl 0 rfl) ?_
  refine va_get (D := (dC, dI)) (ci := 7) (v := .ref (x 13)) (C := RX7) (T := TX7) (N := 10) hx hb hts inB_7 hown hE.1 hP 27 rfl rfl 0 (by decide) (hts _ k_204) (fun _ h9 => h9) rfl dX7_copy_11 ?_
  refine va_alen (v := 18) hx hb hE.1 hP 14 1 rfl rfl rfl dX7_copy_14 ?_
  refine cpG (zs := 0) (zd := 0) (zn := 18) hx hb (by rw [hml]; exact hl.1.symm) hown (hts _ k_771) (hts _ k_337) (hts _ k_336) (hts _ k_108) hE hP hD hS 5 14 rfl rfl (by decide) (by decide) (by decide) (by omega) (by omega) (by omega) (by omega) (by omega) (Nat.le_of_ble_eq_true rfl) (Nat.le_of_ble_eq_true rfl) dX7_copy_15 (fun g9 H locs hP hD hS => ?_)
  obtain ⟨f1, hP, hD⟩ : ∃ fz9, va_P (dC, dI) vwCl (XW cy x0 x v fz9) H ∧ va_D A (XW cy x0 x v fz9) := ⟨upd2 f 9 g9, hP, hD⟩
  refine lv_aload_n hx hb dX7_copy_18 rfl (lv_at hl 1 rfl) ?_
  refine va_get (D := (dC, dI)) (ci := 7) (v := .ref (x 5)) (C := RX7) (T := TX7) (N := 10) hx hb hts inB_7 hown hE.1 hP 4 rfl rfl 1 (by decide) (hts _ k_205) (fun _ h9 => h9) rfl dX7_copy_19 ?_
  refine lv_iconst (v := 0) hx hb dX7_copy_22 (by decide) ?_
  refine lv_aload_n hx hb dX7_copy_23 rfl (lv_at hl 0 rfl) ?_
  refine va_get (D := (dC, dI)) (ci := 7) (v := .ref (x 14)) (C := RX7) (T := TX7) (N := 10) hx hb hts inB_7 hown hE.1 hP 27 rfl rfl 1 (by decide) (hts _ k_205) (fun _ h9 => h9) rfl dX7_copy_24 ?_
  refine lv_iconst (v := 0) hx hb dX7_copy_27 (by decide) ?_
  refine lv_aload_n hx hb dX7_copy_28 rfl (lv_at hl 0 rfl) ?_
  refine va_get (D := (dC, dI)) (ci := 7) (v := .ref (x 14)) (C := RX7) (T := TX7) (N := 10) hx hb hts inB_7 hown hE.1 hP 27 rfl rfl 1 (by decide) (hts _ k_205) (fun _ h9 => h9) rfl dX7_copy_29 ?_
  refine va_alen (v := 24) hx hb hE.1 hP 15 1 rfl rfl rfl dX7_copy_32 ?_
  refine cpG (zs := 0) (zd := 0) (zn := 24) hx hb (by rw [hml]; exact hl.1.symm) hown (hts _ k_771) (hts _ k_337) (hts _ k_336) (hts _ k_108) hE hP hD hS 6 15 rfl rfl (by decide) (by decide) (by decide) (by omega) (by omega) (by omega) (by omega) (by omega) (Nat.le_of_ble_eq_true rfl) (Nat.le_of_ble_eq_true rfl) dX7_copy_33 (fun g9 H locs hP hD hS => ?_)
  obtain ⟨f2, hP, hD⟩ : ∃ fz9, va_P (dC, dI) vwCl (XW cy x0 x v fz9) H ∧ va_D A (XW cy x0 x v fz9) := ⟨upd2 f1 10 g9, hP, hD⟩
  refine lv_aload_n hx hb dX7_copy_36 rfl (lv_at hl 0 rfl) ?_
  refine va_get (D := (dC, dI)) (ci := 7) (v := .ref (x 15)) (C := RX7) (T := TX7) (N := 10) hx hb hts inB_7 hown hE.1 hP 27 rfl rfl 2 (by decide) (hts _ k_206) (fun _ h9 => h9) rfl dX7_copy_37 ?_
  refine lv_aload_n hx hb dX7_copy_40 rfl (lv_at hl 1 rfl) ?_
  refine va_get (D := (dC, dI)) (ci := 7) (v := .ref (x 6)) (C := RX7) (T := TX7) (N := 10) hx hb hts inB_7 hown hE.1 hP 4 rfl rfl 2 (by decide) (hts _ k_206) (fun _ h9 => h9) rfl dX7_copy_41 ?_
  refine cbVv (n := 1) (rest := []) hx hb hml hown hts hE hP hD hS hA (sX_X4_copy_1 l dC dI cy x0 x  v f2 hIv ) k_772 k_773 k_774 k_105 k_775 (by decide +kernel) ⟨Nat.le_of_ble_eq_true rfl, Nat.le_of_ble_eq_true rfl⟩ 16 4 rfl rfl (rfl) hl.1 rfl (Nat.le_of_ble_eq_true rfl) dX7_copy_44 (fun u H locs hw hP hD hS => ?_)
  obtain ⟨v3, f4⟩ := u
  obtain ⟨hIv3, hk0_v3, hk1_v3, hk9_v3, hk10_v3, hk31_v3, hk32_v3⟩ := hw
  have hP : va_P (dC, dI) vwCl (XW cy x0 x v3 f4) H := hP
  have hD : va_D A (XW cy x0 x v3 f4) := hD
  have hq0_v3 : v3 0 = (v 0) := hk0_v3
  have hq1_v3 : v3 1 = (v 1) := hk1_v3
  have hq9_v3 : v3 9 = (v 9) := hk9_v3
  have hq10_v3 : v3 10 = (v 10) := hk10_v3
  have hq31_v3 : v3 31 = (v 31) := hk31_v3
  have hq32_v3 : v3 32 = (v 32) := hk32_v3
  refine lv_aload_n hx hb dX7_copy_47 rfl (lv_at hl 0 rfl) ?_
  refine lv_aload_n hx hb dX7_copy_48 rfl (lv_at hl 1 rfl) ?_
  refine va_get (D := (dC, dI)) (ci := 7) (v := .int (v3 9)) (C := RX7) (T := TX7) (N := 10) hx hb hts inB_7 hown hE.1 hP 4 rfl rfl 3 (by decide) (hts _ k_212) (fun _ h9 => h9) rfl dX7_copy_49 ?_
  refine tI (y := (v 9)) hq9_v3 ?_
  have b9_v : 0 ≤ (v 9).toInt ∧ (v 9).toInt ≤ 6 := XI.b hIv 9 (by decide)
  refine va_put (D := (dC, dI)) (ci := 7) (v := .int (v 9)) (ty := tyX7 3) (C := RX7) (T := TX7) (N := 10) hx hb hts inB_7 tyX7 tyX7_ok nmX7 hown hE.1 hP hD hS 27 rfl rfl 3 (by decide) (hts _ k_212) (fun _ h9 => h9) rfl (tyX7_ok 3 (by decide)) rfl rfl (Nat.le_of_ble_eq_true rfl) dX7_copy_52 (fun H locs hP hD hS => ?_)
  have hP : va_P (dC, dI) vwCl (XW cy x0 x (upd v3 31 (v 9)) f4) H := hP
  have hD : va_D A (XW cy x0 x (upd v3 31 (v 9)) f4) := hD
  refine lv_aload_n hx hb dX7_copy_55 rfl (lv_at hl 0 rfl) ?_
  refine lv_aload_n hx hb dX7_copy_56 rfl (lv_at hl 1 rfl) ?_
  refine va_get (D := (dC, dI)) (ci := 7) (v := .int (v3 10)) (C := RX7) (T := TX7) (N := 10) hx hb hts inB_7 hown hE.1 hP 4 rfl rfl 4 (by decide) (hts _ k_220) (fun _ h9 => h9) rfl dX7_copy_57 ?_
  refine tI (y := (v 10)) hq10_v3 ?_
  have b10_v : 0 ≤ (v 10).toInt ∧ (v 10).toInt ≤ 6 := XI.b hIv 10 (by decide)
  refine va_put (D := (dC, dI)) (ci := 7) (v := .int (v 10)) (ty := tyX7 4) (C := RX7) (T := TX7) (N := 10) hx hb hts inB_7 tyX7 tyX7_ok nmX7 hown hE.1 hP hD hS 27 rfl rfl 4 (by decide) (hts _ k_220) (fun _ h9 => h9) rfl (tyX7_ok 4 (by decide)) rfl rfl (Nat.le_of_ble_eq_true rfl) dX7_copy_60 (fun H locs hP hD hS => ?_)
  have hP : va_P (dC, dI) vwCl (XW cy x0 x (upd (upd v3 31 (v 9)) 32 (v 10)) f4) H := hP
  have hD : va_D A (XW cy x0 x (upd (upd v3 31 (v 9)) 32 (v 10)) f4) := hD
  refine lv_aload_n hx hb dX7_copy_63 rfl (lv_at hl 0 rfl) ?_
  refine lv_aload_n hx hb dX7_copy_64 rfl (lv_at hl 1 rfl) ?_
  refine va_get (D := (dC, dI)) (ci := 7) (v := .int (v3 11)) (C := RX7) (T := TX7) (N := 10) hx hb hts inB_7 hown hE.1 hP 4 rfl rfl 5 (by decide) (hts _ k_228) (fun _ h9 => h9) rfl dX7_copy_65 ?_
  refine va_put (D := (dC, dI)) (ci := 7) (v := .int (v3 11)) (ty := tyX7 5) (C := RX7) (T := TX7) (N := 10) hx hb hts inB_7 tyX7 tyX7_ok nmX7 hown hE.1 hP hD hS 27 rfl rfl 5 (by decide) (hts _ k_228) (fun _ h9 => h9) rfl (tyX7_ok 5 (by decide)) rfl rfl (Nat.le_of_ble_eq_true rfl) dX7_copy_68 (fun H locs hP hD hS => ?_)
  have hP : va_P (dC, dI) vwCl (XW cy x0 x (upd (upd (upd v3 31 (v 9)) 32 (v 10)) 33 (v3 11)) f4) H := hP
  have hD : va_D A (XW cy x0 x (upd (upd (upd v3 31 (v 9)) 32 (v 10)) 33 (v3 11)) f4) := hD
  refine lv_aload_n hx hb dX7_copy_71 rfl (lv_at hl 0 rfl) ?_
  refine lv_aload_n hx hb dX7_copy_72 rfl (lv_at hl 1 rfl) ?_
  refine va_get (D := (dC, dI)) (ci := 7) (v := .int (v3 12)) (C := RX7) (T := TX7) (N := 10) hx hb hts inB_7 hown hE.1 hP 4 rfl rfl 6 (by decide) (hts _ k_234) (fun _ h9 => h9) rfl dX7_copy_73 ?_
  refine va_put (D := (dC, dI)) (ci := 7) (v := .int (v3 12)) (ty := tyX7 6) (C := RX7) (T := TX7) (N := 10) hx hb hts inB_7 tyX7 tyX7_ok nmX7 hown hE.1 hP hD hS 27 rfl rfl 6 (by decide) (hts _ k_234) (fun _ h9 => h9) rfl (tyX7_ok 6 (by decide)) rfl rfl (Nat.le_of_ble_eq_true rfl) dX7_copy_76 (fun H locs hP hD hS => ?_)
  have hP : va_P (dC, dI) vwCl (XW cy x0 x (upd (upd (upd (upd v3 31 (v 9)) 32 (v 10)) 33 (v3 11)) 34 (v3 12)) f4) H := hP
  have hD : va_D A (XW cy x0 x (upd (upd (upd (upd v3 31 (v 9)) 32 (v 10)) 33 (v3 11)) 34 (v3 12)) f4) := hD
  refine lv_aload_n hx hb dX7_copy_79 rfl (lv_at hl 0 rfl) ?_
  refine lv_aload_n hx hb dX7_copy_80 rfl (lv_at hl 1 rfl) ?_
  refine va_get (D := (dC, dI)) (ci := 7) (v := .int (v3 13)) (C := RX7) (T := TX7) (N := 10) hx hb hts inB_7 hown hE.1 hP 4 rfl rfl 7 (by decide) (hts _ k_237) (fun _ h9 => h9) rfl dX7_copy_81 ?_
  refine va_put (D := (dC, dI)) (ci := 7) (v := .int (v3 13)) (ty := tyX7 7) (C := RX7) (T := TX7) (N := 10) hx hb hts inB_7 tyX7 tyX7_ok nmX7 hown hE.1 hP hD hS 27 rfl rfl 7 (by decide) (hts _ k_237) (fun _ h9 => h9) rfl (tyX7_ok 7 (by decide)) rfl rfl (Nat.le_of_ble_eq_true rfl) dX7_copy_84 (fun H locs hP hD hS => ?_)
  have hP : va_P (dC, dI) vwCl (XW cy x0 x (upd (upd (upd (upd (upd v3 31 (v 9)) 32 (v 10)) 33 (v3 11)) 34 (v3 12)) 35 (v3 13)) f4) H := hP
  have hD : va_D A (XW cy x0 x (upd (upd (upd (upd (upd v3 31 (v 9)) 32 (v 10)) 33 (v3 11)) 34 (v3 12)) 35 (v3 13)) f4) := hD
  refine lv_aload_n hx hb dX7_copy_87 rfl (lv_at hl 0 rfl) ?_
  refine lv_aload_n hx hb dX7_copy_88 rfl (lv_at hl 1 rfl) ?_
  refine va_get (D := (dC, dI)) (ci := 7) (v := .int (v3 14)) (C := RX7) (T := TX7) (N := 10) hx hb hts inB_7 hown hE.1 hP 4 rfl rfl 8 (by decide) (hts _ k_240) (fun _ h9 => h9) rfl dX7_copy_89 ?_
  refine va_put (D := (dC, dI)) (ci := 7) (v := .int (v3 14)) (ty := tyX7 8) (C := RX7) (T := TX7) (N := 10) hx hb hts inB_7 tyX7 tyX7_ok nmX7 hown hE.1 hP hD hS 27 rfl rfl 8 (by decide) (hts _ k_240) (fun _ h9 => h9) rfl (tyX7_ok 8 (by decide)) rfl rfl (Nat.le_of_ble_eq_true rfl) dX7_copy_92 (fun H locs hP hD hS => ?_)
  have hP : va_P (dC, dI) vwCl (XW cy x0 x (upd (upd (upd (upd (upd (upd v3 31 (v 9)) 32 (v 10)) 33 (v3 11)) 34 (v3 12)) 35 (v3 13)) 36 (v3 14)) f4) H := hP
  have hD : va_D A (XW cy x0 x (upd (upd (upd (upd (upd (upd v3 31 (v 9)) 32 (v 10)) 33 (v3 11)) 34 (v3 12)) 35 (v3 13)) 36 (v3 14)) f4) := hD
  refine lv_aload_n hx hb dX7_copy_95 rfl (lv_at hl 0 rfl) ?_
  refine lv_aload_n hx hb dX7_copy_96 rfl (lv_at hl 1 rfl) ?_
  refine va_get (D := (dC, dI)) (ci := 7) (v := .int (v3 15)) (C := RX7) (T := TX7) (N := 10) hx hb hts inB_7 hown hE.1 hP 4 rfl rfl 9 (by decide) (hts _ k_243) (fun _ h9 => h9) rfl dX7_copy_97 ?_
  refine va_put (D := (dC, dI)) (ci := 7) (v := .int (v3 15)) (ty := tyX7 9) (C := RX7) (T := TX7) (N := 10) hx hb hts inB_7 tyX7 tyX7_ok nmX7 hown hE.1 hP hD hS 27 rfl rfl 9 (by decide) (hts _ k_243) (fun _ h9 => h9) rfl (tyX7_ok 9 (by decide)) rfl rfl (Nat.le_of_ble_eq_true rfl) dX7_copy_100 (fun H locs hP hD hS => ?_)
  have hP : va_P (dC, dI) vwCl (XW cy x0 x (upd (upd (upd (upd (upd (upd (upd v3 31 (v 9)) 32 (v 10)) 33 (v3 11)) 34 (v3 12)) 35 (v3 13)) 36 (v3 14)) 37 (v3 15)) f4) H := hP
  have hD : va_D A (XW cy x0 x (upd (upd (upd (upd (upd (upd (upd v3 31 (v 9)) 32 (v 10)) 33 (v3 11)) 34 (v3 12)) 35 (v3 13)) 36 (v3 14)) 37 (v3 15)) f4) := hD
  exact ret ((upd (upd (upd (upd (upd (upd (upd v3 31 (v 9)) 32 (v 10)) 33 (v3 11)) 34 (v3 12)) 35 (v3 13)) 36 (v3 14)) 37 (v3 15)), f4) _ _ _ _ _ _ ⟨(XI.upd (j := 37) (x := (v3 15)) (XI.upd (j := 36) (x := (v3 14)) (XI.upd (j := 35) (x := (v3 13)) (XI.upd (j := 34) (x := (v3 12)) (XI.upd (j := 33) (x := (v3 11)) (XI.upd (j := 32) (x := (v 10)) (XI.upd (j := 31) (x := (v 9)) hIv3 (show (0 : Int) ≤ (v 9).toInt by omega) (show (v 9).toInt ≤ (6 : Int) by omega)) (show (0 : Int) ≤ (v 10).toInt by omega) (show (v 10).toInt ≤ (6 : Int) by omega)) (rlo _) (rhi _)) (rlo _) (rhi _)) (rlo _) (rhi _)) (rlo _) (rhi _)) (rlo _) (rhi _)), hk0_v3, hk1_v3⟩ hP hD hS dX7_copy_103 (Nat.le_refl _) (Nat.le_refl _)
set_option maxHeartbeats 4000000 in
set_option maxRecDepth 100000 in
theorem sX_X1_muster_1 (l : Launch) (dC : Nat → ClassId) (dI : Nat → Nat → Nat) (cy : Nat → ClassId) (x0 : Nat) (x : Nat → Nat)  (v : Nat → Int32) (f : Nat → Nat → Int32) (hIv : XI v)  : ctV l (dC, dI) cy yX1_muster cX1_muster 3 3 103 0 0 ((Nat → Int32) × (Nat → Nat → Int32)) [.ref (x 21)] (XW cy x0 x v f) (fun u => XI u.1 ∧ u.1 0 = v 0 ∧ u.1 1 = v 1 ∧ u.1 9 = v 9 ∧ u.1 10 = v 10 ∧ u.1 31 = v 31 ∧ u.1 32 = v 32) (fun u => XW cy x0 x u.1 u.2) := by
  refine ctV_of (by decide) (Nat.le_of_ble_eq_true rfl) (fun p e s m below meth c A ls Q hx hb hml hts hown hnm hE hP hD hA hl ret => ?_)
  have hown : s.vm.findClass RX1 = some m.cls := hown
  have hS : va_S A s.heap s.heap [] := va_S.rf
  have hl : lv_has ls 3 [(0, .ref (x 21))] := hl
  refine lv_iconst (v := 0) hx hb dX1_muster_0 (by decide) ?_
  refine lv_istore_n (lv' := [(1, .int 0), (0, .ref (x 21))]) hx hb dX1_muster_1 rfl hl (by decide) rfl (fun ls hl => ?_)
  have lp1 : ∀ (n1 : Nat) (l1_1 : Int32) (v1 : Nat → Int32) (f1 : Nat → Nat → Int32), XI v1 → v1 0 = (v 0) → v1 1 = (v 1) → v1 9 = (v 9) → v1 10 = (v 10) → v1 31 = (v 31) → v1 32 = (v 32) → ((0 : Int) ≤ l1_1.toInt ∧ l1_1.toInt ≤ 2147483647) → (2147483647 - l1_1.toInt).toNat < n1 → ∀ (H : Heap) (locs : List Loc) (ls : Array Slot), va_P (dC, dI) vwCl (XW cy x0 x v1 f1) H → va_D A (XW cy x0 x v1 f1) → va_S A s.heap H locs → lv_has ls 3 [(1, .int l1_1), (0, .ref (x 21))] → W p l e { frames := 3, cells := 0, slots := 0, locals := 103 } s m ([.ref (x 21)] : List Value).toArray below meth c H locs 0 0 Q (F0 m 2 ls []) := by
    intro n1
    induction n1 with
    | zero => intro l1_1 v1 f1 hIv1 hq0_v1 hq1_v1 hq9_v1 hq10_v1 hq31_v1 hq32_v1 hr1_1 hm; exact absurd hm (Nat.not_lt_zero _)
    | succ n1 ih1 =>
      intro l1_1 v1 f1 hIv1 hq0_v1 hq1_v1 hq9_v1 hq10_v1 hq31_v1 hq32_v1 hr1_1 hm1 H locs ls hP hD hS hl
      refine lv_iload_n hx hb dX1_muster_2 rfl (lv_at hl 0 rfl) ?_
      refine lv_bipush (v := 6) hx hb dX1_muster_3 (by decide) ?_
      refine lv_icmp_ge (tgt := 39) hx hb dX1_muster_5 (by decide) (fun c2 => ?_) (fun c2 => ?_)
      · skip
        have zc2 : 6 ≤ l1_1.toInt := by rw [fa_le, show (6 : Int32).toInt = 6 from by decide] at c2; exact c2
        refine lv_iconst (v := 0) hx hb dX1_muster_39 (by decide) ?_
        refine lv_istore_n (lv' := [(1, .int 0), (0, .ref (x 21))]) hx hb dX1_muster_40 rfl hl (by decide) rfl (fun ls hl => ?_)
        have lp3 : ∀ (n3 : Nat) (l1_3 : Int32) (v3 : Nat → Int32) (f3 : Nat → Nat → Int32), XI v3 → v3 0 = (v 0) → v3 1 = (v 1) → v3 9 = (v 9) → v3 10 = (v 10) → v3 31 = (v 31) → v3 32 = (v 32) → ((0 : Int) ≤ l1_3.toInt ∧ l1_3.toInt ≤ 2147483647) → (2147483647 - l1_3.toInt).toNat < n3 → ∀ (H : Heap) (locs : List Loc) (ls : Array Slot), va_P (dC, dI) vwCl (XW cy x0 x v3 f3) H → va_D A (XW cy x0 x v3 f3) → va_S A s.heap H locs → lv_has ls 3 [(1, .int l1_3), (0, .ref (x 21))] → W p l e { frames := 3, cells := 0, slots := 0, locals := 103 } s m ([.ref (x 21)] : List Value).toArray below meth c H locs 0 0 Q (F0 m 41 ls []) := by
          intro n3
          induction n3 with
          | zero => intro l1_3 v3 f3 hIv3 hq0_v3 hq1_v3 hq9_v3 hq10_v3 hq31_v3 hq32_v3 hr1_3 hm; exact absurd hm (Nat.not_lt_zero _)
          | succ n3 ih3 =>
            intro l1_3 v3 f3 hIv3 hq0_v3 hq1_v3 hq9_v3 hq10_v3 hq31_v3 hq32_v3 hr1_3 hm3 H locs ls hP hD hS hl
            refine lv_iload_n hx hb dX1_muster_41 rfl (lv_at hl 0 rfl) ?_
            refine lv_bipush (v := 6) hx hb dX1_muster_42 (by decide) ?_
            refine lv_icmp_ge (tgt := 89) hx hb dX1_muster_44 (by decide) (fun c4 => ?_) (fun c4 => ?_)
            · skip
              have zc4 : 6 ≤ l1_3.toInt := by rw [fa_le, show (6 : Int32).toInt = 6 from by decide] at c4; exact c4
              refine lv_aload_n hx hb dX1_muster_89 rfl (lv_at hl 1 rfl) ?_
              refine va_get (D := (dC, dI)) (ci := 1) (v := .ref (x 22)) (C := RX1) (T := TX1) (N := 2) hx hb hts inB_1 hown hE.1 hP 22 rfl rfl 1 (by decide) (hts _ k_319) (fun _ h9 => h9) rfl dX1_muster_90 ?_
              refine lv_bipush (v := 42) hx hb dX1_muster_93 (by decide) ?_
              refine lv_iconst (v := 0) hx hb dX1_muster_95 (by decide) ?_
              refine stI hx hb hE hP hD hS 23 rfl (vp_in_nI (n := 42) (by decide) (by decide)) rfl dX1_muster_96 (fun H locs hP hD hS => ?_)
              obtain ⟨f5, hP, hD⟩ : ∃ fz9, va_P (dC, dI) vwCl (XW cy x0 x v3 fz9) H ∧ va_D A (XW cy x0 x v3 fz9) := ⟨upd2 f3 15 (upd (f3 15) (42 : Int32).toNatClampNeg 0), hP, hD⟩
              refine lv_aload_n hx hb dX1_muster_97 rfl (lv_at hl 1 rfl) ?_
              refine va_get (D := (dC, dI)) (ci := 1) (v := .ref (x 22)) (C := RX1) (T := TX1) (N := 2) hx hb hts inB_1 hown hE.1 hP 22 rfl rfl 1 (by decide) (hts _ k_319) (fun _ h9 => h9) rfl dX1_muster_98 ?_
              refine lv_bipush (v := 43) hx hb dX1_muster_101 (by decide) ?_
              refine lv_aload_n hx hb dX1_muster_103 rfl (lv_at hl 1 rfl) ?_
              refine va_get (D := (dC, dI)) (ci := 1) (v := .ref (x 26)) (C := RX1) (T := TX1) (N := 2) hx hb hts inB_1 hown hE.1 hP 22 rfl rfl 0 (by decide) (hts _ k_318) (fun _ h9 => h9) rfl dX1_muster_104 ?_
              refine va_getN (D := (dC, dI)) (ci := 7) (v := .int (v3 37)) (C := RX7) (T := TX7) (N := 10) hx hb hts inB_7 hown hE.1 hP 27 rfl rfl 9 (by decide) (va_Nw.use rfl (hE.2 _ k_242)) (fun _ h9 => h9) rfl dX1_muster_107 ?_
              refine stI hx hb hE hP hD hS 23 rfl (vp_in_nI (n := 43) (by decide) (by decide)) rfl dX1_muster_110 (fun H locs hP hD hS => ?_)
              obtain ⟨f6, hP, hD⟩ : ∃ fz9, va_P (dC, dI) vwCl (XW cy x0 x v3 fz9) H ∧ va_D A (XW cy x0 x v3 fz9) := ⟨upd2 f5 15 (upd (f5 15) (43 : Int32).toNatClampNeg (v3 37)), hP, hD⟩
              exact ret (v3, f6) _ _ _ _ _ _ ⟨hIv3, hq0_v3, hq1_v3, hq9_v3, hq10_v3, hq31_v3, hq32_v3⟩ hP hD hS dX1_muster_111 (Nat.le_refl _) (Nat.le_refl _)
            · skip
              have zc4 : ¬ (6 ≤ l1_3.toInt) := by rw [fa_le, show (6 : Int32).toInt = 6 from by decide] at c4; exact c4
              refine lv_iconst (v := 0) hx hb dX1_muster_47 (by decide) ?_
              refine lv_istore_n (lv' := [(2, .int 0), (1, .int l1_3), (0, .ref (x 21))]) hx hb dX1_muster_48 rfl hl (by decide) rfl (fun ls hl => ?_)
              have lp7 : ∀ (n7 : Nat) (l2_7 : Int32) (v7 : Nat → Int32) (f7 : Nat → Nat → Int32), XI v7 → v7 0 = (v 0) → v7 1 = (v 1) → v7 9 = (v 9) → v7 10 = (v 10) → v7 31 = (v 31) → v7 32 = (v 32) → ((0 : Int) ≤ l2_7.toInt ∧ l2_7.toInt ≤ 2147483647) → (2147483647 - l2_7.toInt).toNat < n7 → ∀ (H : Heap) (locs : List Loc) (ls : Array Slot), va_P (dC, dI) vwCl (XW cy x0 x v7 f7) H → va_D A (XW cy x0 x v7 f7) → va_S A s.heap H locs → lv_has ls 3 [(2, .int l2_7), (1, .int l1_3), (0, .ref (x 21))] → W p l e { frames := 3, cells := 0, slots := 0, locals := 103 } s m ([.ref (x 21)] : List Value).toArray below meth c H locs 0 0 Q (F0 m 49 ls []) := by
                intro n7
                induction n7 with
                | zero => intro l2_7 v7 f7 hIv7 hq0_v7 hq1_v7 hq9_v7 hq10_v7 hq31_v7 hq32_v7 hr2_7 hm; exact absurd hm (Nat.not_lt_zero _)
                | succ n7 ih7 =>
                  intro l2_7 v7 f7 hIv7 hq0_v7 hq1_v7 hq9_v7 hq10_v7 hq31_v7 hq32_v7 hr2_7 hm7 H locs ls hP hD hS hl
                  refine lv_iload_n hx hb dX1_muster_49 rfl (lv_at hl 0 rfl) ?_
                  refine lv_iconst (v := 5) hx hb dX1_muster_50 (by decide) ?_
                  refine lv_icmp_ge (tgt := 83) hx hb dX1_muster_51 (by decide) (fun c8 => ?_) (fun c8 => ?_)
                  · skip
                    have zc8 : 5 ≤ l2_7.toInt := by rw [fa_le, show (5 : Int32).toInt = 5 from by decide] at c8; exact c8
                    obtain ⟨t9, et9⟩ : ∃ y : Int32, y = l1_3 + 1 := ⟨_, rfl⟩
                    have rg10 := fb_rng l1_3
                    have zt9 : t9.toInt = l1_3.toInt + 1 := by rw [et9]; exact add_i rfl (by decide) (by omega) (by omega)
                    refine lv_iinc (v := t9) (lv' := [(1, .int t9), (2, .int l2_7), (0, .ref (x 21))]) hx hb dX1_muster_83 hl (k := 1) rfl (by rw [et9]; rfl) (by decide) rfl (fun ls hl => ?_)
                    refine lv_goto (tgt := 41) hx hb dX1_muster_86 (by decide) ?_
                    have rg11 := fb_rng t9
                    exact ih3 t9 v7 f7 hIv7 hq0_v7 hq1_v7 hq9_v7 hq10_v7 hq31_v7 hq32_v7 ⟨show (0 : Int) ≤ t9.toInt by omega, show t9.toInt ≤ (2147483647 : Int) by omega⟩ (by show (2147483647 - t9.toInt).toNat < n3; omega) _ _ _ hP hD hS (lv_sub hl [0, 2] rfl)
                  · skip
                    have zc8 : ¬ (5 ≤ l2_7.toInt) := by rw [fa_le, show (5 : Int32).toInt = 5 from by decide] at c8; exact c8
                    refine lv_aload_n hx hb dX1_muster_54 rfl (lv_at hl 2 rfl) ?_
                    refine va_get (D := (dC, dI)) (ci := 1) (v := .ref (x 22)) (C := RX1) (T := TX1) (N := 2) hx hb hts inB_1 hown hE.1 hP 22 rfl rfl 1 (by decide) (hts _ k_319) (fun _ h9 => h9) rfl dX1_muster_55 ?_
                    refine lv_bipush (v := 12) hx hb dX1_muster_58 (by decide) ?_
                    refine lv_iload_n hx hb dX1_muster_60 rfl (lv_at hl 0 rfl) ?_
                    refine lv_bipush (v := 6) hx hb dX1_muster_61 (by decide) ?_
                    refine lv_imul hx hb dX1_muster_63 ?_
                    refine lv_topi (fun t12 et12 => ?_)
                    have rg13 := fb_rng l2_7
                    have zt12 : t12.toInt = l2_7.toInt * 6 := by rw [et12]; exact mul_i rfl (by decide) (by omega) (by omega)
                    refine lv_iadd hx hb dX1_muster_64 ?_
                    refine lv_topi (fun t14 et14 => ?_)
                    have rg15 := fb_rng t12
                    have zt14 : t14.toInt = 12 + t12.toInt := by rw [et14]; exact add_i (by decide) rfl (by omega) (by omega)
                    refine lv_iload_n hx hb dX1_muster_65 rfl (lv_at hl 1 rfl) ?_
                    refine lv_iadd hx hb dX1_muster_66 ?_
                    refine lv_topi (fun t16 et16 => ?_)
                    have rg17 := fb_rng t14
                    have rg18 := fb_rng l1_3
                    have zt16 : t16.toInt = t14.toInt + l1_3.toInt := by rw [et16]; exact add_i rfl rfl (by omega) (by omega)
                    refine lv_aload_n hx hb dX1_muster_67 rfl (lv_at hl 2 rfl) ?_
                    refine va_get (D := (dC, dI)) (ci := 1) (v := .ref (x 26)) (C := RX1) (T := TX1) (N := 2) hx hb hts inB_1 hown hE.1 hP 22 rfl rfl 0 (by decide) (hts _ k_318) (fun _ h9 => h9) rfl dX1_muster_68 ?_
                    refine lv_iload_n hx hb dX1_muster_71 rfl (lv_at hl 0 rfl) ?_
                    refine lv_iload_n hx hb dX1_muster_72 rfl (lv_at hl 1 rfl) ?_
                    refine cbVi (n := 2) (rest := [.int t16, .ref (x 22)]) hx hb hml hown hts hE hP hD hS hA (sX_X7_coatPart_1 l dC dI cy x0 x l2_7 l1_3 v7 f7 hIv7 ) k_310 k_311 k_312 k_104 k_313 (by decide +kernel) ⟨Nat.le_of_ble_eq_true rfl, Nat.le_of_ble_eq_true rfl⟩ 27 7 rfl rfl (rfl) hl.1 rfl (Nat.le_of_ble_eq_true rfl) dX1_muster_73 (fun r19 u H locs hw hP hD hS => ?_)
                    refine stI hx hb hE hP hD hS 23 rfl (vp_in_iff.mpr ⟨by omega, by omega⟩) rfl dX1_muster_76 (fun H locs hP hD hS => ?_)
                    obtain ⟨f20, hP, hD⟩ : ∃ fz9, va_P (dC, dI) vwCl (XW cy x0 x v7 fz9) H ∧ va_D A (XW cy x0 x v7 fz9) := ⟨upd2 f7 15 (upd (f7 15) t16.toNatClampNeg r19), hP, hD⟩
                    obtain ⟨t21, et21⟩ : ∃ y : Int32, y = l2_7 + 1 := ⟨_, rfl⟩
                    have zt21 : t21.toInt = l2_7.toInt + 1 := by rw [et21]; exact add_i rfl (by decide) (by omega) (by omega)
                    refine lv_iinc (v := t21) (lv' := [(2, .int t21), (1, .int l1_3), (0, .ref (x 21))]) hx hb dX1_muster_77 hl (k := 0) rfl (by rw [et21]; rfl) (by decide) rfl (fun ls hl => ?_)
                    refine lv_goto (tgt := 49) hx hb dX1_muster_80 (by decide) ?_
                    have rg22 := fb_rng t21
                    exact ih7 t21 v7 f20 hIv7 hq0_v7 hq1_v7 hq9_v7 hq10_v7 hq31_v7 hq32_v7 ⟨show (0 : Int) ≤ t21.toInt by omega, show t21.toInt ≤ (2147483647 : Int) by omega⟩ (by show (2147483647 - t21.toInt).toNat < n7; omega) _ _ _ hP hD hS (lv_sub hl [0, 1, 2] rfl)
              exact lp7 _ 0 v3 f3 hIv3 hq0_v3 hq1_v3 hq9_v3 hq10_v3 hq31_v3 hq32_v3 ⟨by decide, by decide⟩ (Nat.lt_succ_self _) _ _ _ hP hD hS (lv_sub hl [0, 1, 2] rfl)
        exact lp3 _ 0 v1 f1 hIv1 hq0_v1 hq1_v1 hq9_v1 hq10_v1 hq31_v1 hq32_v1 ⟨by decide, by decide⟩ (Nat.lt_succ_self _) _ _ _ hP hD hS (lv_sub hl [0, 1] rfl)
      · skip
        have zc2 : ¬ (6 ≤ l1_1.toInt) := by rw [fa_le, show (6 : Int32).toInt = 6 from by decide] at c2; exact c2
        refine lv_aload_n hx hb dX1_muster_8 rfl (lv_at hl 1 rfl) ?_
        refine va_get (D := (dC, dI)) (ci := 1) (v := .ref (x 22)) (C := RX1) (T := TX1) (N := 2) hx hb hts inB_1 hown hE.1 hP 22 rfl rfl 1 (by decide) (hts _ k_319) (fun _ h9 => h9) rfl dX1_muster_9 ?_
        refine lv_iload_n hx hb dX1_muster_12 rfl (lv_at hl 0 rfl) ?_
        refine lv_aload_n hx hb dX1_muster_13 rfl (lv_at hl 1 rfl) ?_
        refine va_get (D := (dC, dI)) (ci := 1) (v := .ref (x 26)) (C := RX1) (T := TX1) (N := 2) hx hb hts inB_1 hown hE.1 hP 22 rfl rfl 0 (by decide) (hts _ k_318) (fun _ h9 => h9) rfl dX1_muster_14 ?_
        refine lv_iconst (v := 1) hx hb dX1_muster_17 (by decide) ?_
        refine lv_iload_n hx hb dX1_muster_18 rfl (lv_at hl 0 rfl) ?_
        refine cbVi (n := 2) (rest := [.int l1_1, .ref (x 22)]) hx hb hml hown hts hE hP hD hS hA (sX_X7_manPart_1 l dC dI cy x0 x 1 l1_1 v1 f1 hIv1 ) k_302 k_303 k_304 k_104 k_305 (by decide +kernel) ⟨Nat.le_of_ble_eq_true rfl, Nat.le_of_ble_eq_true rfl⟩ 27 7 rfl rfl (rfl) hl.1 rfl (Nat.le_of_ble_eq_true rfl) dX1_muster_19 (fun r23 u H locs hw hP hD hS => ?_)
        refine stI hx hb hE hP hD hS 23 rfl (vp_in_iff.mpr ⟨by omega, by omega⟩) rfl dX1_muster_22 (fun H locs hP hD hS => ?_)
        obtain ⟨f24, hP, hD⟩ : ∃ fz9, va_P (dC, dI) vwCl (XW cy x0 x v1 fz9) H ∧ va_D A (XW cy x0 x v1 fz9) := ⟨upd2 f1 15 (upd (f1 15) l1_1.toNatClampNeg r23), hP, hD⟩
        refine lv_aload_n hx hb dX1_muster_23 rfl (lv_at hl 1 rfl) ?_
        refine va_get (D := (dC, dI)) (ci := 1) (v := .ref (x 22)) (C := RX1) (T := TX1) (N := 2) hx hb hts inB_1 hown hE.1 hP 22 rfl rfl 1 (by decide) (hts _ k_319) (fun _ h9 => h9) rfl dX1_muster_24 ?_
        refine lv_bipush (v := 6) hx hb dX1_muster_27 (by decide) ?_
        refine lv_iload_n hx hb dX1_muster_29 rfl (lv_at hl 0 rfl) ?_
        refine lv_iadd hx hb dX1_muster_30 ?_
        refine lv_topi (fun t25 et25 => ?_)
        have rg26 := fb_rng l1_1
        have zt25 : t25.toInt = 6 + l1_1.toInt := by rw [et25]; exact add_i (by decide) rfl (by omega) (by omega)
        refine lv_iconst (v := (-1)) hx hb dX1_muster_31 (by decide) ?_
        refine stI hx hb hE hP hD hS 23 rfl (vp_in_iff.mpr ⟨by omega, by omega⟩) rfl dX1_muster_32 (fun H locs hP hD hS => ?_)
        obtain ⟨f27, hP, hD⟩ : ∃ fz9, va_P (dC, dI) vwCl (XW cy x0 x v1 fz9) H ∧ va_D A (XW cy x0 x v1 fz9) := ⟨upd2 f24 15 (upd (f24 15) t25.toNatClampNeg (-1)), hP, hD⟩
        obtain ⟨t28, et28⟩ : ∃ y : Int32, y = l1_1 + 1 := ⟨_, rfl⟩
        have zt28 : t28.toInt = l1_1.toInt + 1 := by rw [et28]; exact add_i rfl (by decide) (by omega) (by omega)
        refine lv_iinc (v := t28) (lv' := [(1, .int t28), (0, .ref (x 21))]) hx hb dX1_muster_33 hl (k := 0) rfl (by rw [et28]; rfl) (by decide) rfl (fun ls hl => ?_)
        refine lv_goto (tgt := 2) hx hb dX1_muster_36 (by decide) ?_
        have rg29 := fb_rng t28
        exact ih1 t28 v1 f27 hIv1 hq0_v1 hq1_v1 hq9_v1 hq10_v1 hq31_v1 hq32_v1 ⟨show (0 : Int) ≤ t28.toInt by omega, show t28.toInt ≤ (2147483647 : Int) by omega⟩ (by show (2147483647 - t28.toInt).toNat < n1; omega) _ _ _ hP hD hS (lv_sub hl [0, 1] rfl)
  exact lp1 _ 0 v f hIv rfl rfl rfl rfl rfl rfl ⟨by decide, by decide⟩ (Nat.lt_succ_self _) _ _ _ hP hD hS (lv_sub hl [0, 1] rfl)
set_option maxHeartbeats 4000000 in
set_option maxRecDepth 100000 in
theorem sX_X5_forgetAll_1 (l : Launch) (dC : Nat → ClassId) (dI : Nat → Nat → Nat) (cy : Nat → ClassId) (x0 : Nat) (x : Nat → Nat)  (v : Nat → Int32) (f : Nat → Nat → Int32) (hIv : XI v)  : ctV l (dC, dI) cy yX5_forgetAll cX5_forgetAll 1 3 142 0 0 ((Nat → Int32) × (Nat → Nat → Int32)) [.ref (x 20)] (XW cy x0 x v f) (fun u => XI u.1 ∧ u.1 0 = v 0 ∧ u.1 1 = v 1 ∧ u.1 9 = v 9 ∧ u.1 10 = v 10 ∧ u.1 31 = v 31 ∧ u.1 32 = v 32) (fun u => XW cy x0 x u.1 u.2) := by
  refine ctV_of (by decide) (Nat.le_of_ble_eq_true rfl) (fun p e s m below meth c A ls Q hx hb hml hts hown hnm hE hP hD hA hl ret => ?_)
  have hown : s.vm.findClass RX5 = some m.cls := hown
  have hS : va_S A s.heap s.heap [] := va_S.rf
  have hl : lv_has ls 1 [(0, .ref (x 20))] := hl
  refine lv_aload_n hx hb dX5_forgetAll_0 rfl (lv_at hl 0 rfl) ?_
  refine lv_iconst (v := 0) hx hb dX5_forgetAll_1 (by decide) ?_
  refine va_put (D := (dC, dI)) (ci := 5) (v := .int 0) (ty := tyX5 3) (C := RX5) (T := TX5) (N := 7) hx hb hts inB_5 tyX5 tyX5_ok nmX5 hown hE.1 hP hD hS 21 rfl rfl 3 (by decide) (hts _ k_341) (fun _ h9 => h9) rfl (tyX5_ok 3 (by decide)) rfl rfl (Nat.le_of_ble_eq_true rfl) dX5_forgetAll_2 (fun H locs hP hD hS => ?_)
  have hP : va_P (dC, dI) vwCl (XW cy x0 x (upd v 20 0) f) H := hP
  have hD : va_D A (XW cy x0 x (upd v 20 0) f) := hD
  refine lv_aload_n hx hb dX5_forgetAll_5 rfl (lv_at hl 0 rfl) ?_
  refine cbVv (n := 0) (rest := []) hx hb hml hown hts hE hP hD hS hA (sX_X5_forgetActs_1 l dC dI cy x0 x  (upd v 20 0) f (XI.upd (j := 20) (x := 0) hIv (rlo _) (rhi _)) ) k_782 k_784 k_19 k_107 k_785 (by decide +kernel) ⟨Nat.le_of_ble_eq_true rfl, Nat.le_of_ble_eq_true rfl⟩ 21 5 rfl rfl (rfl) hl.1 rfl (Nat.le_of_ble_eq_true rfl) dX5_forgetAll_6 (fun u H locs hw hP hD hS => ?_)
  obtain ⟨v1, f2⟩ := u
  obtain ⟨hIv1, hk0_v1, hk1_v1, hk9_v1, hk10_v1, hk31_v1, hk32_v1⟩ := hw
  have hP : va_P (dC, dI) vwCl (XW cy x0 x v1 f2) H := hP
  have hD : va_D A (XW cy x0 x v1 f2) := hD
  have hq0_v1 : v1 0 = (v 0) := hk0_v1
  have hq1_v1 : v1 1 = (v 1) := hk1_v1
  have hq9_v1 : v1 9 = (v 9) := hk9_v1
  have hq10_v1 : v1 10 = (v 10) := hk10_v1
  have hq31_v1 : v1 31 = (v 31) := hk31_v1
  have hq32_v1 : v1 32 = (v 32) := hk32_v1
  exact ret (v1, f2) _ _ _ _ _ _ ⟨hIv1, hk0_v1, hk1_v1, hk9_v1, hk10_v1, hk31_v1, hk32_v1⟩ hP hD hS dX5_forgetAll_9 (Nat.le_refl _) (Nat.le_refl _)
set_option maxHeartbeats 4000000 in
set_option maxRecDepth 100000 in
theorem sX_J7_fill_53178_2 (l : Launch) (dC : Nat → ClassId) (dI : Nat → Nat → Nat) (cy : Nat → ClassId) (x0 : Nat) (x : Nat → Nat) (p1 : Int32) (v : Nat → Int32) (f : Nat → Nat → Int32) (hIv : XI v)  : ctV l (dC, dI) cy yJ7_fill_53178 cJ7_fill_53178 4 1 60 0 0 ((Nat → Int32) × (Nat → Nat → Int32)) [.ref (x 40), .int p1] (XW cy x0 x v f) (fun u => XI u.1 ∧ u.1 0 = v 0 ∧ u.1 1 = v 1 ∧ u.1 9 = v 9 ∧ u.1 10 = v 10 ∧ u.1 31 = v 31 ∧ u.1 32 = v 32) (fun u => XW cy x0 x u.1 u.2) := by
  refine ctV_of (by decide) (Nat.le_of_ble_eq_true rfl) (fun p e s m below meth c A ls Q hx hb hml hts hown hnm hE hP hD hA hl ret => ?_)
  have hown : s.vm.findClass RJ7 = some m.cls := hown
  have hS : va_S A s.heap s.heap [] := va_S.rf
  have hl : lv_has ls 4 [(0, .ref (x 40)), (1, .int p1)] := hl
  refine lv_iconst (v := 0) hx hb dJ7_fill_53178_0 (by decide) ?_
  refine lv_istore_n (lv' := [(2, .int 0), (0, .ref (x 40)), (1, .int p1)]) hx hb dJ7_fill_53178_1 rfl hl (by decide) rfl (fun ls hl => ?_)
  refine lv_aload_n hx hb dJ7_fill_53178_2 rfl (lv_at hl 1 rfl) ?_
  refine va_alen (v := 21) hx hb hE.1 hP 41 1 rfl rfl rfl dJ7_fill_53178_3 ?_
  refine lv_istore_n (lv' := [(3, .int 21), (2, .int 0), (0, .ref (x 40)), (1, .int p1)]) hx hb dJ7_fill_53178_4 rfl hl (by decide) rfl (fun ls hl => ?_)
  have lp1 : ∀ (n1 : Nat) (l2_1 : Int32) (v1 : Nat → Int32) (f1 : Nat → Nat → Int32), XI v1 → v1 0 = (v 0) → v1 1 = (v 1) → v1 9 = (v 9) → v1 10 = (v 10) → v1 31 = (v 31) → v1 32 = (v 32) → ((0 : Int) ≤ l2_1.toInt ∧ l2_1.toInt ≤ 2147483647) → (2147483647 - l2_1.toInt).toNat < n1 → ∀ (H : Heap) (locs : List Loc) (ls : Array Slot), va_P (dC, dI) vwCl (XW cy x0 x v1 f1) H → va_D A (XW cy x0 x v1 f1) → va_S A s.heap H locs → lv_has ls 4 [(3, .int 21), (2, .int l2_1), (0, .ref (x 40)), (1, .int p1)] → W p l e { frames := 1, cells := 0, slots := 0, locals := 60 } s m ([.ref (x 40), .int p1] : List Value).toArray below meth c H locs 0 0 Q (F0 m 5 ls []) := by
    intro n1
    induction n1 with
    | zero => intro l2_1 v1 f1 hIv1 hq0_v1 hq1_v1 hq9_v1 hq10_v1 hq31_v1 hq32_v1 hr2_1 hm; exact absurd hm (Nat.not_lt_zero _)
    | succ n1 ih1 =>
      intro l2_1 v1 f1 hIv1 hq0_v1 hq1_v1 hq9_v1 hq10_v1 hq31_v1 hq32_v1 hr2_1 hm1 H locs ls hP hD hS hl
      refine lv_iload_n hx hb dJ7_fill_53178_5 rfl (lv_at hl 1 rfl) ?_
      refine lv_iload_n hx hb dJ7_fill_53178_6 rfl (lv_at hl 0 rfl) ?_
      refine lv_icmp_ge (tgt := 20) hx hb dJ7_fill_53178_7 (by decide) (fun c2 => ?_) (fun c2 => ?_)
      · skip
        have zc2 : 21 ≤ l2_1.toInt := by rw [fa_le, show (21 : Int32).toInt = 21 from by decide] at c2; exact c2
        exact ret (v1, f1) _ _ _ _ _ _ ⟨hIv1, (show v1 0 = v 0 from hq0_v1), (show v1 1 = v 1 from hq1_v1), (show v1 9 = v 9 from hq9_v1), (show v1 10 = v 10 from hq10_v1), (show v1 31 = v 31 from hq31_v1), (show v1 32 = v 32 from hq32_v1)⟩ hP hD hS dJ7_fill_53178_20 (Nat.le_refl _) (Nat.le_refl _)
      · skip
        have zc2 : ¬ (21 ≤ l2_1.toInt) := by rw [fa_le, show (21 : Int32).toInt = 21 from by decide] at c2; exact c2
        refine lv_aload_n hx hb dJ7_fill_53178_10 rfl (lv_at hl 2 rfl) ?_
        refine lv_iload_n hx hb dJ7_fill_53178_11 rfl (lv_at hl 1 rfl) ?_
        refine lv_iload_n hx hb dJ7_fill_53178_12 rfl (lv_at hl 3 rfl) ?_
        refine stI hx hb hE hP hD hS 41 rfl (vp_in_iff.mpr ⟨by omega, by omega⟩) rfl dJ7_fill_53178_13 (fun H locs hP hD hS => ?_)
        obtain ⟨f3, hP, hD⟩ : ∃ fz9, va_P (dC, dI) vwCl (XW cy x0 x v1 fz9) H ∧ va_D A (XW cy x0 x v1 fz9) := ⟨upd2 f1 27 (upd (f1 27) l2_1.toNatClampNeg p1), hP, hD⟩
        obtain ⟨t4, et4⟩ : ∃ y : Int32, y = l2_1 + 1 := ⟨_, rfl⟩
        have rg5 := fb_rng l2_1
        have zt4 : t4.toInt = l2_1.toInt + 1 := by rw [et4]; exact add_i rfl (by decide) (by omega) (by omega)
        refine lv_iinc (v := t4) (lv' := [(2, .int t4), (3, .int 21), (0, .ref (x 40)), (1, .int p1)]) hx hb dJ7_fill_53178_14 hl (k := 1) rfl (by rw [et4]; rfl) (by decide) rfl (fun ls hl => ?_)
        refine lv_goto (tgt := 5) hx hb dJ7_fill_53178_17 (by decide) ?_
        have rg6 := fb_rng t4
        exact ih1 t4 v1 f3 hIv1 hq0_v1 hq1_v1 hq9_v1 hq10_v1 hq31_v1 hq32_v1 ⟨show (0 : Int) ≤ t4.toInt by omega, show t4.toInt ≤ (2147483647 : Int) by omega⟩ (by show (2147483647 - t4.toInt).toNat < n1; omega) _ _ _ hP hD hS (lv_sub hl [1, 0, 2, 3] rfl)
  exact lp1 _ 0 v f hIv rfl rfl rfl rfl rfl rfl ⟨by decide, by decide⟩ (Nat.lt_succ_self _) _ _ _ hP hD hS (lv_sub hl [0, 1, 2, 3] rfl)
set_option maxHeartbeats 4000000 in
set_option maxRecDepth 100000 in
theorem sX_X8_clear_1 (l : Launch) (dC : Nat → ClassId) (dI : Nat → Nat → Nat) (cy : Nat → ClassId) (x0 : Nat) (x : Nat → Nat)  (v : Nat → Int32) (f : Nat → Nat → Int32) (hIv : XI v)  : ctV l (dC, dI) cy yX8_clear cX8_clear 1 2 83 0 0 ((Nat → Int32) × (Nat → Nat → Int32)) [.ref (x 35)] (XW cy x0 x v f) (fun u => XI u.1 ∧ u.1 0 = v 0 ∧ u.1 1 = v 1 ∧ u.1 9 = v 9 ∧ u.1 10 = v 10 ∧ u.1 31 = v 31 ∧ u.1 32 = v 32) (fun u => XW cy x0 x u.1 u.2) := by
  refine ctV_of (by decide) (Nat.le_of_ble_eq_true rfl) (fun p e s m below meth c A ls Q hx hb hml hts hown hnm hE hP hD hA hl ret => ?_)
  have hown : s.vm.findClass RX8 = some m.cls := hown
  have hS : va_S A s.heap s.heap [] := va_S.rf
  have hl : lv_has ls 1 [(0, .ref (x 35))] := hl
  refine lv_aload_n hx hb dX8_clear_0 rfl (lv_at hl 0 rfl) ?_
  refine lv_iconst (v := 0) hx hb dX8_clear_1 (by decide) ?_
  refine va_put (D := (dC, dI)) (ci := 8) (v := .int 0) (ty := tyX8 5) (C := RX8) (T := TX8) (N := 7) hx hb hts inB_8 tyX8 tyX8_ok nmX8 hown hE.1 hP hD hS 36 rfl rfl 5 (by decide) (hts _ k_472) (fun _ h9 => h9) rfl (tyX8_ok 5 (by decide)) rfl rfl (Nat.le_of_ble_eq_true rfl) dX8_clear_2 (fun H locs hP hD hS => ?_)
  have hP : va_P (dC, dI) vwCl (XW cy x0 x (upd v 41 0) f) H := hP
  have hD : va_D A (XW cy x0 x (upd v 41 0) f) := hD
  refine lv_aload_n hx hb dX8_clear_5 rfl (lv_at hl 0 rfl) ?_
  refine va_get (D := (dC, dI)) (ci := 8) (v := .ref (x 40)) (C := RX8) (T := TX8) (N := 7) hx hb hts inB_8 hown hE.1 hP 36 rfl rfl 6 (by decide) (hts _ k_474) (fun _ h9 => h9) rfl dX8_clear_6 ?_
  refine lv_iconst (v := (-1)) hx hb dX8_clear_9 (by decide) ?_
  refine cbSv (n := 2) (rest := []) hx hb hml hown hts hE hP hD hS hA (sX_J7_fill_53178_2 l dC dI cy x0 x (-1) (upd v 41 0) f (XI.upd (j := 41) (x := 0) hIv (by decide) (by decide)) ) k_464 k_465 k_113 k_466 (by decide +kernel) ⟨Nat.le_of_ble_eq_true rfl, Nat.le_of_ble_eq_true rfl⟩ (rfl) hl.1 rfl (Nat.le_of_ble_eq_true rfl) dX8_clear_10 (fun u H locs hw hP hD hS => ?_)
  obtain ⟨v1, f2⟩ := u
  obtain ⟨hIv1, hk0_v1, hk1_v1, hk9_v1, hk10_v1, hk31_v1, hk32_v1⟩ := hw
  have hP : va_P (dC, dI) vwCl (XW cy x0 x v1 f2) H := hP
  have hD : va_D A (XW cy x0 x v1 f2) := hD
  have hq0_v1 : v1 0 = (v 0) := hk0_v1
  have hq1_v1 : v1 1 = (v 1) := hk1_v1
  have hq9_v1 : v1 9 = (v 9) := hk9_v1
  have hq10_v1 : v1 10 = (v 10) := hk10_v1
  have hq31_v1 : v1 31 = (v 31) := hk31_v1
  have hq32_v1 : v1 32 = (v 32) := hk32_v1
  exact ret (v1, f2) _ _ _ _ _ _ ⟨hIv1, hk0_v1, hk1_v1, hk9_v1, hk10_v1, hk31_v1, hk32_v1⟩ hP hD hS dX8_clear_13 (Nat.le_refl _) (Nat.le_refl _)
set_option maxHeartbeats 4000000 in
set_option maxRecDepth 100000 in
theorem sX_X10_regiment_1 (l : Launch) (dC : Nat → ClassId) (dI : Nat → Nat → Nat) (cy : Nat → ClassId) (x0 : Nat) (x : Nat → Nat)  (v : Nat → Int32) (f : Nat → Nat → Int32) (hIv : XI v)  : ctIS l (dC, dI) cy yX10_regiment cX10_regiment 2 .int 65 1616 0 0 ((Nat → Int32) × (Nat → Nat → Int32)) [.ref x0] (XW cy x0 x v f) (fun r u => XI u.1 ∧ u.1 0 = v 0 ∧ ((u.1 1).toInt = 0)) (fun u => XW cy x0 x u.1 u.2) := by
  refine ctIS_of (by decide) (Nat.le_of_ble_eq_true rfl) (fun p e s m below meth c A ls Q hx hb hml hts hown hE hF hT hP hD hA hl ret => ?_)
  have hown : s.vm.findClass RX10 = some m.cls := hown
  have hS : va_S A s.heap s.heap [] := va_S.rf
  have hl : lv_has ls 2 [(0, .ref x0)] := hl
  refine lv_aload_n hx hb dX10_regiment_0 rfl (lv_at hl 0 rfl) ?_
  refine va_get (D := (dC, dI)) (ci := 10) (v := .ref (x 2)) (C := RX10) (T := TX10) (N := 10) hx hb hts inB_10 hown hE.1 hP 0 rfl rfl 1 (by decide) (hts _ k_492) (fun _ h9 => h9) rfl dX10_regiment_1 ?_
  refine csVi (n := 0) (rest := []) hx hb hml hown hts hE hP hD hS hA hF hT (sX_X6_read_1 l dC dI cy x0 x  v f hIv ) k_542 k_543 k_544 k_103 k_545 (by decide +kernel) ⟨Nat.le_of_ble_eq_true rfl, Nat.le_of_ble_eq_true rfl⟩ 3 6 rfl rfl (rfl) hl.1 rfl (Nat.le_of_ble_eq_true rfl) dX10_regiment_4 (fun r1 u H locs hw hP hD hS => ?_)
  obtain ⟨v2, f3⟩ := u
  obtain ⟨hIv2, hk0_v2, hk1_v2, hw⟩ := hw
  have hP : va_P (dC, dI) vwCl (XW cy x0 x v2 f3) H := hP
  have hD : va_D A (XW cy x0 x v2 f3) := hD
  have hq0_v2 : v2 0 = (v 0) := hk0_v2
  have hq1_v2 : v2 1 = (v 1) := hk1_v2
  rcases hw with ⟨g4⟩ | ⟨g4⟩
  · skip
    subst g4
    refine lv_istore_n (lv' := [(1, .int 1), (0, .ref x0)]) hx hb dX10_regiment_7 rfl hl (by decide) rfl (fun ls hl => ?_)
    refine lv_aload_n hx hb dX10_regiment_8 rfl (lv_at hl 1 rfl) ?_
    refine va_get (D := (dC, dI)) (ci := 10) (v := .ref (x 0)) (C := RX10) (T := TX10) (N := 10) hx hb hts inB_10 hown hE.1 hP 0 rfl rfl 0 (by decide) (hts _ k_491) (fun _ h9 => h9) rfl dX10_regiment_9 ?_
    refine lv_iconst (v := 0) hx hb dX10_regiment_12 (by decide) ?_
    refine va_putN (D := (dC, dI)) (ci := 9) (v := .int 0) (ty := tyX9 1) (C := RX9) (T := TX9) (N := 6) hx hb hts inB_9 tyX9 tyX9_ok nmX9 hown hE.1 hP hD hS 1 rfl rfl 1 (by decide) (va_Nw.use rfl (hE.2 _ k_138)) (fun _ h9 => h9) rfl (tyX9_ok 1 (by decide)) rfl rfl (Nat.le_of_ble_eq_true rfl) dX10_regiment_13 (fun H locs hP hD hS => ?_)
    have hP : va_P (dC, dI) vwCl (XW cy x0 x (upd v2 1 0) f3) H := hP
    have hD : va_D A (XW cy x0 x (upd v2 1 0) f3) := hD
    refine lv_iload_n hx hb dX10_regiment_16 rfl (lv_at hl 0 rfl) ?_
    refine lv_if_ne (tgt := 22) hx hb dX10_regiment_17 (by decide) (fun _ => ?_) (fun c0 => absurd c0 (by decide))
    refine lv_aload_n hx hb dX10_regiment_22 rfl (lv_at hl 1 rfl) ?_
    refine va_get (D := (dC, dI)) (ci := 10) (v := .ref (x 26)) (C := RX10) (T := TX10) (N := 10) hx hb hts inB_10 hown hE.1 hP 0 rfl rfl 2 (by decide) (hts _ k_493) (fun _ h9 => h9) rfl dX10_regiment_23 ?_
    refine lv_aload_n hx hb dX10_regiment_26 rfl (lv_at hl 1 rfl) ?_
    refine va_get (D := (dC, dI)) (ci := 10) (v := .ref (x 2)) (C := RX10) (T := TX10) (N := 10) hx hb hts inB_10 hown hE.1 hP 0 rfl rfl 1 (by decide) (hts _ k_492) (fun _ h9 => h9) rfl dX10_regiment_27 ?_
    refine va_getN (D := (dC, dI)) (ci := 6) (v := .ref (x 3)) (C := RX6) (T := TX6) (N := 7) hx hb hts inB_6 hown hE.1 hP 3 rfl rfl 1 (by decide) (va_Nw.use rfl (hE.2 _ k_267)) (fun _ h9 => h9) rfl dX10_regiment_30 ?_
    refine cbVv (n := 1) (rest := []) hx hb hml hown hts hE hP hD hS hA (sX_X7_copy_1 l dC dI cy x0 x  (upd v2 1 0) f3 (XI.upd (j := 1) (x := 0) hIv2 (by decide) (by decide)) ) k_767 k_768 k_769 k_104 k_770 (by decide +kernel) ⟨Nat.le_of_ble_eq_true rfl, Nat.le_of_ble_eq_true rfl⟩ 27 7 rfl rfl (rfl) hl.1 rfl (Nat.le_of_ble_eq_true rfl) dX10_regiment_33 (fun u H locs hw hP hD hS => ?_)
    obtain ⟨v5, f6⟩ := u
    obtain ⟨hIv5, hk0_v5, hk1_v5⟩ := hw
    have hP : va_P (dC, dI) vwCl (XW cy x0 x v5 f6) H := hP
    have hD : va_D A (XW cy x0 x v5 f6) := hD
    have hq0_v5 : v5 0 = (v 0) := hk0_v5.trans hq0_v2
    have hq1_v5 : v5 1 = 0 := hk1_v5
    refine lv_aload_n hx hb dX10_regiment_36 rfl (lv_at hl 1 rfl) ?_
    refine va_get (D := (dC, dI)) (ci := 10) (v := .ref (x 21)) (C := RX10) (T := TX10) (N := 10) hx hb hts inB_10 hown hE.1 hP 0 rfl rfl 3 (by decide) (hts _ k_494) (fun _ h9 => h9) rfl dX10_regiment_37 ?_
    refine cbVv (n := 0) (rest := []) hx hb hml hown hts hE hP hD hS hA (sX_X1_muster_1 l dC dI cy x0 x  v5 f6 hIv5 ) k_777 k_299 k_300 k_106 k_301 (by decide +kernel) ⟨Nat.le_of_ble_eq_true rfl, Nat.le_of_ble_eq_true rfl⟩ 22 1 rfl rfl (rfl) hl.1 rfl (Nat.le_of_ble_eq_true rfl) dX10_regiment_40 (fun u H locs hw hP hD hS => ?_)
    obtain ⟨v7, f8⟩ := u
    obtain ⟨hIv7, hk0_v7, hk1_v7, hk9_v7, hk10_v7, hk31_v7, hk32_v7⟩ := hw
    have hP : va_P (dC, dI) vwCl (XW cy x0 x v7 f8) H := hP
    have hD : va_D A (XW cy x0 x v7 f8) := hD
    have hq0_v7 : v7 0 = (v 0) := hk0_v7.trans hq0_v5
    have hq1_v7 : v7 1 = 0 := hk1_v7.trans hq1_v5
    have hq9_v7 : v7 9 = (v5 9) := hk9_v7
    have hq10_v7 : v7 10 = (v5 10) := hk10_v7
    have hq31_v7 : v7 31 = (v5 31) := hk31_v7
    have hq32_v7 : v7 32 = (v5 32) := hk32_v7
    refine lv_aload_n hx hb dX10_regiment_43 rfl (lv_at hl 1 rfl) ?_
    refine va_get (D := (dC, dI)) (ci := 10) (v := .ref (x 20)) (C := RX10) (T := TX10) (N := 10) hx hb hts inB_10 hown hE.1 hP 0 rfl rfl 4 (by decide) (hts _ k_495) (fun _ h9 => h9) rfl dX10_regiment_44 ?_
    refine cbVv (n := 0) (rest := []) hx hb hml hown hts hE hP hD hS hA (sX_X5_forgetAll_1 l dC dI cy x0 x  v7 f8 hIv7 ) k_778 k_779 k_780 k_107 k_781 (by decide +kernel) ⟨Nat.le_of_ble_eq_true rfl, Nat.le_of_ble_eq_true rfl⟩ 21 5 rfl rfl (rfl) hl.1 rfl (Nat.le_of_ble_eq_true rfl) dX10_regiment_47 (fun u H locs hw hP hD hS => ?_)
    obtain ⟨v9, f10⟩ := u
    obtain ⟨hIv9, hk0_v9, hk1_v9, hk9_v9, hk10_v9, hk31_v9, hk32_v9⟩ := hw
    have hP : va_P (dC, dI) vwCl (XW cy x0 x v9 f10) H := hP
    have hD : va_D A (XW cy x0 x v9 f10) := hD
    have hq0_v9 : v9 0 = (v 0) := hk0_v9.trans hq0_v7
    have hq1_v9 : v9 1 = 0 := hk1_v9.trans hq1_v7
    have hq9_v9 : v9 9 = (v5 9) := hk9_v9.trans hq9_v7
    have hq10_v9 : v9 10 = (v5 10) := hk10_v9.trans hq10_v7
    have hq31_v9 : v9 31 = (v5 31) := hk31_v9.trans hq31_v7
    have hq32_v9 : v9 32 = (v5 32) := hk32_v9.trans hq32_v7
    refine lv_aload_n hx hb dX10_regiment_50 rfl (lv_at hl 1 rfl) ?_
    refine va_get (D := (dC, dI)) (ci := 10) (v := .ref (x 31)) (C := RX10) (T := TX10) (N := 10) hx hb hts inB_10 hown hE.1 hP 0 rfl rfl 7 (by decide) (hts _ k_498) (fun _ h9 => h9) rfl dX10_regiment_51 ?_
    refine cbVv (n := 0) (rest := []) hx hb hml hown hts hE hP hD hS hA (sX_X0_clear_1 l dC dI cy x0 x  v9 f10 hIv9 ) k_786 k_787 k_788 k_111 k_789 (by decide +kernel) ⟨Nat.le_of_ble_eq_true rfl, Nat.le_of_ble_eq_true rfl⟩ 32 0 rfl rfl (rfl) hl.1 rfl (Nat.le_of_ble_eq_true rfl) dX10_regiment_54 (fun u H locs hw hP hD hS => ?_)
    obtain ⟨v11, f12⟩ := u
    obtain ⟨hIv11, hk0_v11, hk1_v11, hk9_v11, hk10_v11, hk31_v11, hk32_v11⟩ := hw
    have hP : va_P (dC, dI) vwCl (XW cy x0 x v11 f12) H := hP
    have hD : va_D A (XW cy x0 x v11 f12) := hD
    have hq0_v11 : v11 0 = (v 0) := hk0_v11.trans hq0_v9
    have hq1_v11 : v11 1 = 0 := hk1_v11.trans hq1_v9
    have hq9_v11 : v11 9 = (v5 9) := hk9_v11.trans hq9_v9
    have hq10_v11 : v11 10 = (v5 10) := hk10_v11.trans hq10_v9
    have hq31_v11 : v11 31 = (v5 31) := hk31_v11.trans hq31_v9
    have hq32_v11 : v11 32 = (v5 32) := hk32_v11.trans hq32_v9
    refine lv_aload_n hx hb dX10_regiment_57 rfl (lv_at hl 1 rfl) ?_
    refine va_get (D := (dC, dI)) (ci := 10) (v := .ref (x 35)) (C := RX10) (T := TX10) (N := 10) hx hb hts inB_10 hown hE.1 hP 0 rfl rfl 8 (by decide) (hts _ k_499) (fun _ h9 => h9) rfl dX10_regiment_58 ?_
    refine cbVv (n := 0) (rest := []) hx hb hml hown hts hE hP hD hS hA (sX_X8_clear_1 l dC dI cy x0 x  v11 f12 hIv11 ) k_790 k_791 k_792 k_112 k_793 (by decide +kernel) ⟨Nat.le_of_ble_eq_true rfl, Nat.le_of_ble_eq_true rfl⟩ 36 8 rfl rfl (rfl) hl.1 rfl (Nat.le_of_ble_eq_true rfl) dX10_regiment_61 (fun u H locs hw hP hD hS => ?_)
    obtain ⟨v13, f14⟩ := u
    obtain ⟨hIv13, hk0_v13, hk1_v13, hk9_v13, hk10_v13, hk31_v13, hk32_v13⟩ := hw
    have hP : va_P (dC, dI) vwCl (XW cy x0 x v13 f14) H := hP
    have hD : va_D A (XW cy x0 x v13 f14) := hD
    have hq0_v13 : v13 0 = (v 0) := hk0_v13.trans hq0_v11
    have hq1_v13 : v13 1 = 0 := hk1_v13.trans hq1_v11
    have hq9_v13 : v13 9 = (v5 9) := hk9_v13.trans hq9_v11
    have hq10_v13 : v13 10 = (v5 10) := hk10_v13.trans hq10_v11
    have hq31_v13 : v13 31 = (v5 31) := hk31_v13.trans hq31_v11
    have hq32_v13 : v13 32 = (v5 32) := hk32_v13.trans hq32_v11
    refine lv_aload_n hx hb dX10_regiment_64 rfl (lv_at hl 1 rfl) ?_
    refine va_get (D := (dC, dI)) (ci := 10) (v := .ref (x 26)) (C := RX10) (T := TX10) (N := 10) hx hb hts inB_10 hown hE.1 hP 0 rfl rfl 2 (by decide) (hts _ k_493) (fun _ h9 => h9) rfl dX10_regiment_65 ?_
    refine va_getN (D := (dC, dI)) (ci := 7) (v := .int (v13 31)) (C := RX7) (T := TX7) (N := 10) hx hb hts inB_7 hown hE.1 hP 27 rfl rfl 3 (by decide) (va_Nw.use rfl (hE.2 _ k_214)) (fun _ h9 => h9) rfl dX10_regiment_68 ?_
    refine tI (y := (v5 31)) hq31_v13 ?_
    have b31_v5 : 0 ≤ (v5 31).toInt ∧ (v5 31).toInt ≤ 6 := XI.b hIv5 31 (by decide)
    exact ret (v5 31) (v13, f14) _ _ _ _ _ _ rfl ⟨hIv13, (hk0_v13.trans (hk0_v11.trans (hk0_v9.trans (hk0_v7.trans (hk0_v5.trans hk0_v2))))), (by show (v13 1).toInt = 0; rw [hq1_v13]; decide)⟩ hP hD hS dX10_regiment_71 (Nat.le_refl _) (Nat.le_refl _)
  · skip
    subst g4
    refine lv_istore_n (lv' := [(1, .int 0), (0, .ref x0)]) hx hb dX10_regiment_7 rfl hl (by decide) rfl (fun ls hl => ?_)
    refine lv_aload_n hx hb dX10_regiment_8 rfl (lv_at hl 1 rfl) ?_
    refine va_get (D := (dC, dI)) (ci := 10) (v := .ref (x 0)) (C := RX10) (T := TX10) (N := 10) hx hb hts inB_10 hown hE.1 hP 0 rfl rfl 0 (by decide) (hts _ k_491) (fun _ h9 => h9) rfl dX10_regiment_9 ?_
    refine lv_iconst (v := 0) hx hb dX10_regiment_12 (by decide) ?_
    refine va_putN (D := (dC, dI)) (ci := 9) (v := .int 0) (ty := tyX9 1) (C := RX9) (T := TX9) (N := 6) hx hb hts inB_9 tyX9 tyX9_ok nmX9 hown hE.1 hP hD hS 1 rfl rfl 1 (by decide) (va_Nw.use rfl (hE.2 _ k_138)) (fun _ h9 => h9) rfl (tyX9_ok 1 (by decide)) rfl rfl (Nat.le_of_ble_eq_true rfl) dX10_regiment_13 (fun H locs hP hD hS => ?_)
    have hP : va_P (dC, dI) vwCl (XW cy x0 x (upd v2 1 0) f3) H := hP
    have hD : va_D A (XW cy x0 x (upd v2 1 0) f3) := hD
    refine lv_iload_n hx hb dX10_regiment_16 rfl (lv_at hl 0 rfl) ?_
    refine lv_if_ne (tgt := 22) hx hb dX10_regiment_17 (by decide) (fun c0 => absurd (by decide) c0) (fun _ => ?_)
    refine lv_iconst (v := (-1)) hx hb dX10_regiment_20 (by decide) ?_
    exact ret (-1) ((upd v2 1 0), f3) _ _ _ _ _ _ rfl ⟨(XI.upd (j := 1) (x := 0) hIv2 (by decide) (by decide)), hk0_v2, (by have q0 : (0 : Int32).toInt = 0 := (by decide); show (0 : Int32).toInt = 0; decide)⟩ hP hD hS dX10_regiment_21 (Nat.le_refl _) (Nat.le_refl _)
