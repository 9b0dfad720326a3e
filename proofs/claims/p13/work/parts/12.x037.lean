set_option maxHeartbeats 4000000 in
set_option maxRecDepth 100000 in
theorem sX_X6_line_1 (NF : Nat) (l : Launch) (dC : Nat → ClassId) (dI : Nat → Nat → Nat) (cy : Nat → ClassId) (x0 : Nat) (x : Nat → Nat)  (v : Nat → Int32) (f : Nat → Nat → Int32) (hIv : XI v)  : ctIS l (dC, dI) cy yX6_line cX6_line 1 .boolean 63 1575 0 0 ((Nat → Int32) × (Nat → Nat → Int32)) [.ref (x 2)] (XW cy x0 x v f) (fun r u => gsX_X6_line_1 NF v f = (r, u) ∧ KV [2, 3, 4, 5, 6, 7, 8, 9, 10, 11, 12, 13, 14, 15, 16, 17] u.1 v ∧ KF [1, 2, 3, 4, 7, 8] u.2 f ∧ XI u.1 ∧ u.1 0 = v 0 ∧ u.1 1 = v 1 ∧ ((r = 1) ∨ (r = 0))) (fun u => XW cy x0 x u.1 u.2) := by
  refine ctIS_of (by decide) (Nat.le_of_ble_eq_true rfl) (fun p e s m below meth c A ls Q hx hb hml hts hown hE hF hT hP hD hA hl ret => ?_)
  have hM_v : KV [2, 3, 4, 5, 6, 7, 8, 9, 10, 11, 12, 13, 14, 15, 16, 17] v v := fun _ _ => rfl
  have hA_f : KF [1, 2, 3, 4, 7, 8] f f := fun _ _ => rfl
  have hown : s.vm.findClass RX6 = some m.cls := hown
  have hS : va_S A s.heap s.heap [] := va_S.rf
  have hl : lv_has ls 1 [(0, .ref (x 2))] := hl
  refine lv_aload_n hx hb dX6_line_0 rfl (lv_at hl 0 rfl) ?_
  refine va_get (D := (dC, dI)) (ci := 6) (v := .ref (x 0)) (C := RX6) (T := TX6) (N := 7) hx hb hts inB_6 hown hE.1 hP 3 rfl rfl 0 (by decide) (hts _ k_265) (fun _ h9 => h9) rfl dX6_line_1 ?_
  refine va_getN (D := (dC, dI)) (ci := 9) (v := .int (v 2)) (C := RX9) (T := TX9) (N := 6) hx hb hts inB_9 hown hE.1 hP 1 rfl rfl 2 (by decide) (va_Nw.use rfl (hE.2 _ k_139)) (fun _ h9 => h9) rfl dX6_line_4 ?_
  by_cases c1 : (v 2) = 101
  · skip
    refine lv_tableIn (off := 45) (tgt := 52) hx hb dX6_line_7 (by rw [c1]; decide) (by rw [c1]; decide) (by rw [c1]; decide) (by decide) ?_
    have zc1 : (v 2).toInt = 101 := by rw [fa_eq, show (101 : Int32).toInt = 101 from by decide] at c1; exact c1
    refine lv_aload_n hx hb dX6_line_52 rfl (lv_at hl 0 rfl) ?_
    refine csVi (n := 0) (rest := []) hx hb hml hown hts hE hP hD hS hA hF hT (sX_X6_manLine_1 NF l dC dI cy x0 x  v f hIv ) k_687 k_689 k_5 k_103 k_690 (by decide +kernel) ⟨Nat.le_of_ble_eq_true rfl, Nat.le_of_ble_eq_true rfl⟩ 3 6 rfl rfl (rfl) hl.1 rfl (Nat.le_of_ble_eq_true rfl) dX6_line_53 (fun r2 u H locs hw hP hD hS => ?_)
    obtain ⟨hG3, hw⟩ := hw
    obtain ⟨v4, f5⟩ := u
    obtain ⟨kV_v4, kF_f5, hIv4, hk0_v4, hk1_v4, hk10_v4, hk32_v4, hw⟩ := hw
    have hM_v4 : KV [2, 3, 4, 5, 6, 7, 8, 9, 10, 11, 12, 13, 14, 15, 16, 17] v4 v := KV.tr kV_v4 hM_v rfl
    have hA_f5 : KF [1, 2, 3, 4, 7, 8] f5 f := KF.tr kF_f5 hA_f rfl
    have hP : va_P (dC, dI) vwCl (XW cy x0 x v4 f5) H := hP
    have hD : va_D A (XW cy x0 x v4 f5) := hD
    have hq0_v4 : v4 0 = (v 0) := hk0_v4
    have hq1_v4 : v4 1 = (v 1) := hk1_v4
    have hq10_v4 : v4 10 = (v 10) := hk10_v4
    have hq32_v4 : v4 32 = (v 32) := hk32_v4
    rcases hw with ⟨g6⟩ | ⟨g6⟩
    · skip
      subst g6
      refine lv_if_eq (tgt := 70) hx hb dX6_line_56 (by decide) (fun c0 => absurd c0 (by decide)) (fun _ => ?_)
      refine lv_aload_n hx hb dX6_line_59 rfl (lv_at hl 0 rfl) ?_
      refine csVi (n := 0) (rest := []) hx hb hml hown hts hE hP hD hS hA hF hT (sX_X6_closing_1 NF l dC dI cy x0 x  v4 f5 hIv4 ) k_720 k_722 k_11 k_103 k_723 (by decide +kernel) ⟨Nat.le_of_ble_eq_true rfl, Nat.le_of_ble_eq_true rfl⟩ 3 6 rfl rfl (rfl) hl.1 rfl (Nat.le_of_ble_eq_true rfl) dX6_line_60 (fun r7 u H locs hw hP hD hS => ?_)
      obtain ⟨hG8, hw⟩ := hw
      obtain ⟨v9, f10⟩ := u
      obtain ⟨kV_v9, kF_f10, hIv9, hk0_v9, hk1_v9, hk9_v9, hk10_v9, hk31_v9, hk32_v9, hw⟩ := hw
      have hM_v9 : KV [2, 3, 4, 5, 6, 7, 8, 9, 10, 11, 12, 13, 14, 15, 16, 17] v9 v := KV.tr kV_v9 hM_v4 rfl
      have hA_f10 : KF [1, 2, 3, 4, 7, 8] f10 f := KF.tr kF_f10 hA_f5 rfl
      have hP : va_P (dC, dI) vwCl (XW cy x0 x v9 f10) H := hP
      have hD : va_D A (XW cy x0 x v9 f10) := hD
      have hq0_v9 : v9 0 = (v 0) := hk0_v9.trans hq0_v4
      have hq1_v9 : v9 1 = (v 1) := hk1_v9.trans hq1_v4
      have hq9_v9 : v9 9 = (v4 9) := hk9_v9
      have hq10_v9 : v9 10 = (v 10) := hk10_v9.trans hq10_v4
      have hq31_v9 : v9 31 = (v4 31) := hk31_v9
      have hq32_v9 : v9 32 = (v 32) := hk32_v9.trans hq32_v4
      rcases hw with ⟨g11⟩ | ⟨g11⟩
      · skip
        subst g11
        refine lv_if_eq (tgt := 70) hx hb dX6_line_63 (by decide) (fun c0 => absurd c0 (by decide)) (fun _ => ?_)
        refine lv_iconst (v := 1) hx hb dX6_line_66 (by decide) ?_
        refine lv_goto (tgt := 71) hx hb dX6_line_67 (by decide) ?_
        exact ret 1 (v9, f10) _ _ _ _ _ _ rfl ⟨(gsX_X6_line_1_q0 c1 hG3 hG8), hM_v9, hA_f10, hIv9, (hk0_v9.trans hk0_v4), (hk1_v9.trans hk1_v4), (Or.inl rfl)⟩ hP hD hS dX6_line_71 (Nat.le_refl _) (Nat.le_refl _)
      · skip
        subst g11
        refine lv_if_eq (tgt := 70) hx hb dX6_line_63 (by decide) (fun _ => ?_) (fun c0 => absurd (by decide) c0)
        refine lv_iconst (v := 0) hx hb dX6_line_70 (by decide) ?_
        exact ret 0 (v9, f10) _ _ _ _ _ _ rfl ⟨(gsX_X6_line_1_q1 c1 hG3 hG8), hM_v9, hA_f10, hIv9, (hk0_v9.trans hk0_v4), (hk1_v9.trans hk1_v4), (Or.inr rfl)⟩ hP hD hS dX6_line_71 (Nat.le_refl _) (Nat.le_refl _)
    · skip
      subst g6
      refine lv_if_eq (tgt := 70) hx hb dX6_line_56 (by decide) (fun _ => ?_) (fun c0 => absurd (by decide) c0)
      refine lv_iconst (v := 0) hx hb dX6_line_70 (by decide) ?_
      exact ret 0 (v4, f5) _ _ _ _ _ _ rfl ⟨(gsX_X6_line_1_q2 c1 hG3), hM_v4, hA_f5, hIv4, hk0_v4, hk1_v4, (Or.inr rfl)⟩ hP hD hS dX6_line_71 (Nat.le_refl _) (Nat.le_refl _)
  · skip
    have zc1 : ¬ ((v 2).toInt = 101) := by rw [fa_eq, show (101 : Int32).toInt = 101 from by decide] at c1; exact c1
    by_cases c12 : (v 2) = 102
    · skip
      refine lv_tableIn (off := 65) (tgt := 72) hx hb dX6_line_7 (by rw [c12]; decide) (by rw [c12]; decide) (by rw [c12]; decide) (by decide) ?_
      have zc12 : (v 2).toInt = 102 := by rw [fa_eq, show (102 : Int32).toInt = 102 from by decide] at c12; exact c12
      refine lv_aload_n hx hb dX6_line_72 rfl (lv_at hl 0 rfl) ?_
      refine csVi (n := 0) (rest := []) hx hb hml hown hts hE hP hD hS hA hF hT (sX_X6_coatLine_1 NF l dC dI cy x0 x  v f hIv ) k_728 k_730 k_13 k_103 k_731 (by decide +kernel) ⟨Nat.le_of_ble_eq_true rfl, Nat.le_of_ble_eq_true rfl⟩ 3 6 rfl rfl (rfl) hl.1 rfl (Nat.le_of_ble_eq_true rfl) dX6_line_73 (fun r13 u H locs hw hP hD hS => ?_)
      obtain ⟨hG14, hw⟩ := hw
      obtain ⟨v15, f16⟩ := u
      obtain ⟨kV_v15, kF_f16, hIv15, hk0_v15, hk1_v15, hk9_v15, hk31_v15, hw⟩ := hw
      have hM_v15 : KV [2, 3, 4, 5, 6, 7, 8, 9, 10, 11, 12, 13, 14, 15, 16, 17] v15 v := KV.tr kV_v15 hM_v rfl
      have hA_f16 : KF [1, 2, 3, 4, 7, 8] f16 f := KF.tr kF_f16 hA_f rfl
      have hP : va_P (dC, dI) vwCl (XW cy x0 x v15 f16) H := hP
      have hD : va_D A (XW cy x0 x v15 f16) := hD
      have hq0_v15 : v15 0 = (v 0) := hk0_v15
      have hq1_v15 : v15 1 = (v 1) := hk1_v15
      have hq9_v15 : v15 9 = (v 9) := hk9_v15
      have hq31_v15 : v15 31 = (v 31) := hk31_v15
      rcases hw with ⟨g17⟩ | ⟨g17⟩
      · skip
        subst g17
        refine lv_if_eq (tgt := 90) hx hb dX6_line_76 (by decide) (fun c0 => absurd c0 (by decide)) (fun _ => ?_)
        refine lv_aload_n hx hb dX6_line_79 rfl (lv_at hl 0 rfl) ?_
        refine csVi (n := 0) (rest := []) hx hb hml hown hts hE hP hD hS hA hF hT (sX_X6_closing_1 NF l dC dI cy x0 x  v15 f16 hIv15 ) k_720 k_722 k_11 k_103 k_723 (by decide +kernel) ⟨Nat.le_of_ble_eq_true rfl, Nat.le_of_ble_eq_true rfl⟩ 3 6 rfl rfl (rfl) hl.1 rfl (Nat.le_of_ble_eq_true rfl) dX6_line_80 (fun r18 u H locs hw hP hD hS => ?_)
        obtain ⟨hG19, hw⟩ := hw
        obtain ⟨v20, f21⟩ := u
        obtain ⟨kV_v20, kF_f21, hIv20, hk0_v20, hk1_v20, hk9_v20, hk10_v20, hk31_v20, hk32_v20, hw⟩ := hw
        have hM_v20 : KV [2, 3, 4, 5, 6, 7, 8, 9, 10, 11, 12, 13, 14, 15, 16, 17] v20 v := KV.tr kV_v20 hM_v15 rfl
        have hA_f21 : KF [1, 2, 3, 4, 7, 8] f21 f := KF.tr kF_f21 hA_f16 rfl
        have hP : va_P (dC, dI) vwCl (XW cy x0 x v20 f21) H := hP
        have hD : va_D A (XW cy x0 x v20 f21) := hD
        have hq0_v20 : v20 0 = (v 0) := hk0_v20.trans hq0_v15
        have hq1_v20 : v20 1 = (v 1) := hk1_v20.trans hq1_v15
        have hq9_v20 : v20 9 = (v 9) := hk9_v20.trans hq9_v15
        have hq10_v20 : v20 10 = (v15 10) := hk10_v20
        have hq31_v20 : v20 31 = (v 31) := hk31_v20.trans hq31_v15
        have hq32_v20 : v20 32 = (v15 32) := hk32_v20
        rcases hw with ⟨g22⟩ | ⟨g22⟩
        · skip
          subst g22
          refine lv_if_eq (tgt := 90) hx hb dX6_line_83 (by decide) (fun c0 => absurd c0 (by decide)) (fun _ => ?_)
          refine lv_iconst (v := 1) hx hb dX6_line_86 (by decide) ?_
          refine lv_goto (tgt := 91) hx hb dX6_line_87 (by decide) ?_
          exact ret 1 (v20, f21) _ _ _ _ _ _ rfl ⟨(gsX_X6_line_1_q3 c1 c12 hG14 hG19), hM_v20, hA_f21, hIv20, (hk0_v20.trans hk0_v15), (hk1_v20.trans hk1_v15), (Or.inl rfl)⟩ hP hD hS dX6_line_91 (Nat.le_refl _) (Nat.le_refl _)
        · skip
          subst g22
          refine lv_if_eq (tgt := 90) hx hb dX6_line_83 (by decide) (fun _ => ?_) (fun c0 => absurd (by decide) c0)
          refine lv_iconst (v := 0) hx hb dX6_line_90 (by decide) ?_
          exact ret 0 (v20, f21) _ _ _ _ _ _ rfl ⟨(gsX_X6_line_1_q4 c1 c12 hG14 hG19), hM_v20, hA_f21, hIv20, (hk0_v20.trans hk0_v15), (hk1_v20.trans hk1_v15), (Or.inr rfl)⟩ hP hD hS dX6_line_91 (Nat.le_refl _) (Nat.le_refl _)
      · skip
        subst g17
        refine lv_if_eq (tgt := 90) hx hb dX6_line_76 (by decide) (fun _ => ?_) (fun c0 => absurd (by decide) c0)
        refine lv_iconst (v := 0) hx hb dX6_line_90 (by decide) ?_
        exact ret 0 (v15, f16) _ _ _ _ _ _ rfl ⟨(gsX_X6_line_1_q5 c1 c12 hG14), hM_v15, hA_f16, hIv15, hk0_v15, hk1_v15, (Or.inr rfl)⟩ hP hD hS dX6_line_91 (Nat.le_refl _) (Nat.le_refl _)
    · skip
      have zc12 : ¬ ((v 2).toInt = 102) := by rw [fa_eq, show (102 : Int32).toInt = 102 from by decide] at c12; exact c12
      by_cases c23 : (v 2) = 103
      · skip
        refine lv_tableIn (off := 85) (tgt := 92) hx hb dX6_line_7 (by rw [c23]; decide) (by rw [c23]; decide) (by rw [c23]; decide) (by decide) ?_
        have zc23 : (v 2).toInt = 103 := by rw [fa_eq, show (103 : Int32).toInt = 103 from by decide] at c23; exact c23
        refine lv_aload_n hx hb dX6_line_92 rfl (lv_at hl 0 rfl) ?_
        refine lv_bipush (v := 103) hx hb dX6_line_93 (by decide) ?_
        refine csVi (n := 1) (rest := []) hx hb hml hown hts hE hP hD hS hA hF hT (sX_X6_opened_1 NF l dC dI cy x0 x 103 v f hIv ) k_736 k_738 k_14 k_103 k_739 (by decide +kernel) ⟨Nat.le_of_ble_eq_true rfl, Nat.le_of_ble_eq_true rfl⟩ 3 6 rfl rfl (rfl) hl.1 rfl (Nat.le_of_ble_eq_true rfl) dX6_line_95 (fun r24 u H locs hw hP hD hS => ?_)
        obtain ⟨hG25, hw⟩ := hw
        obtain ⟨v26, f27⟩ := u
        obtain ⟨kV_v26, kF_f27, hIv26, hk0_v26, hk1_v26, hk9_v26, hk10_v26, hk31_v26, hk32_v26, hw⟩ := hw
        have hM_v26 : KV [2, 3, 4, 5, 6, 7, 8, 9, 10, 11, 12, 13, 14, 15, 16, 17] v26 v := KV.tr kV_v26 hM_v rfl
        have hA_f27 : KF [1, 2, 3, 4, 7, 8] f27 f := KF.tr kF_f27 hA_f rfl
        have hP : va_P (dC, dI) vwCl (XW cy x0 x v26 f27) H := hP
        have hD : va_D A (XW cy x0 x v26 f27) := hD
        have hq0_v26 : v26 0 = (v 0) := hk0_v26
        have hq1_v26 : v26 1 = (v 1) := hk1_v26
        have hq9_v26 : v26 9 = (v 9) := hk9_v26
        have hq10_v26 : v26 10 = (v 10) := hk10_v26
        have hq31_v26 : v26 31 = (v 31) := hk31_v26
        have hq32_v26 : v26 32 = (v 32) := hk32_v26
        rcases hw with ⟨g28⟩ | ⟨g28⟩
        · skip
          subst g28
          refine lv_if_eq (tgt := 121) hx hb dX6_line_98 (by decide) (fun c0 => absurd c0 (by decide)) (fun _ => ?_)
          refine lv_aload_n hx hb dX6_line_101 rfl (lv_at hl 0 rfl) ?_
          refine lv_iconst (v := 0) hx hb dX6_line_102 (by decide) ?_
          refine lv_iconst (v := 0) hx hb dX6_line_103 (by decide) ?_
          refine csVi (n := 2) (rest := []) hx hb hml hown hts hE hP hD hS hA hF hT (sX_X6_expression_1 NF l dC dI cy x0 x  v26 f27 hIv26 ) k_740 k_742 k_15 k_103 k_743 (by decide +kernel) ⟨Nat.le_of_ble_eq_true rfl, Nat.le_of_ble_eq_true rfl⟩ 3 6 rfl rfl (rfl) hl.1 rfl (Nat.le_of_ble_eq_true rfl) dX6_line_104 (fun r29 u H locs hw hP hD hS => ?_)
          obtain ⟨hG30, hw⟩ := hw
          obtain ⟨v31, f32⟩ := u
          obtain ⟨kV_v31, kF_f32, hIv31, hk0_v31, hk1_v31, hk9_v31, hk10_v31, hk31_v31, hk32_v31, hw⟩ := hw
          have hM_v31 : KV [2, 3, 4, 5, 6, 7, 8, 9, 10, 11, 12, 13, 14, 15, 16, 17] v31 v := KV.tr kV_v31 hM_v26 rfl
          have hA_f32 : KF [1, 2, 3, 4, 7, 8] f32 f := KF.tr kF_f32 hA_f27 rfl
          have hP : va_P (dC, dI) vwCl (XW cy x0 x v31 f32) H := hP
          have hD : va_D A (XW cy x0 x v31 f32) := hD
          have hq0_v31 : v31 0 = (v 0) := hk0_v31.trans hq0_v26
          have hq1_v31 : v31 1 = (v 1) := hk1_v31.trans hq1_v26
          have hq9_v31 : v31 9 = (v 9) := hk9_v31.trans hq9_v26
          have hq10_v31 : v31 10 = (v 10) := hk10_v31.trans hq10_v26
          have hq31_v31 : v31 31 = (v 31) := hk31_v31.trans hq31_v26
          have hq32_v31 : v31 32 = (v 32) := hk32_v31.trans hq32_v26
          rcases hw with ⟨g33⟩ | ⟨g33⟩
          · skip
            subst g33
            refine lv_if_eq (tgt := 121) hx hb dX6_line_107 (by decide) (fun c0 => absurd c0 (by decide)) (fun _ => ?_)
            refine lv_aload_n hx hb dX6_line_110 rfl (lv_at hl 0 rfl) ?_
            refine csVi (n := 0) (rest := []) hx hb hml hown hts hE hP hD hS hA hF hT (sX_X6_closing_1 NF l dC dI cy x0 x  v31 f32 hIv31 ) k_720 k_722 k_11 k_103 k_723 (by decide +kernel) ⟨Nat.le_of_ble_eq_true rfl, Nat.le_of_ble_eq_true rfl⟩ 3 6 rfl rfl (rfl) hl.1 rfl (Nat.le_of_ble_eq_true rfl) dX6_line_111 (fun r34 u H locs hw hP hD hS => ?_)
            obtain ⟨hG35, hw⟩ := hw
            obtain ⟨v36, f37⟩ := u
            obtain ⟨kV_v36, kF_f37, hIv36, hk0_v36, hk1_v36, hk9_v36, hk10_v36, hk31_v36, hk32_v36, hw⟩ := hw
            have hM_v36 : KV [2, 3, 4, 5, 6, 7, 8, 9, 10, 11, 12, 13, 14, 15, 16, 17] v36 v := KV.tr kV_v36 hM_v31 rfl
            have hA_f37 : KF [1, 2, 3, 4, 7, 8] f37 f := KF.tr kF_f37 hA_f32 rfl
            have hP : va_P (dC, dI) vwCl (XW cy x0 x v36 f37) H := hP
            have hD : va_D A (XW cy x0 x v36 f37) := hD
            have hq0_v36 : v36 0 = (v 0) := hk0_v36.trans hq0_v31
            have hq1_v36 : v36 1 = (v 1) := hk1_v36.trans hq1_v31
            have hq9_v36 : v36 9 = (v 9) := hk9_v36.trans hq9_v31
            have hq10_v36 : v36 10 = (v 10) := hk10_v36.trans hq10_v31
            have hq31_v36 : v36 31 = (v 31) := hk31_v36.trans hq31_v31
            have hq32_v36 : v36 32 = (v 32) := hk32_v36.trans hq32_v31
            rcases hw with ⟨g38⟩ | ⟨g38⟩
            · skip
              subst g38
              refine lv_if_eq (tgt := 121) hx hb dX6_line_114 (by decide) (fun c0 => absurd c0 (by decide)) (fun _ => ?_)
              refine lv_iconst (v := 1) hx hb dX6_line_117 (by decide) ?_
              refine lv_goto (tgt := 122) hx hb dX6_line_118 (by decide) ?_
              exact ret 1 (v36, f37) _ _ _ _ _ _ rfl ⟨(gsX_X6_line_1_q6 c1 c12 c23 hG25 hG30 hG35), hM_v36, hA_f37, hIv36, (hk0_v36.trans (hk0_v31.trans hk0_v26)), (hk1_v36.trans (hk1_v31.trans hk1_v26)), (Or.inl rfl)⟩ hP hD hS dX6_line_122 (Nat.le_refl _) (Nat.le_refl _)
            · skip
              subst g38
              refine lv_if_eq (tgt := 121) hx hb dX6_line_114 (by decide) (fun _ => ?_) (fun c0 => absurd (by decide) c0)
              refine lv_iconst (v := 0) hx hb dX6_line_121 (by decide) ?_
              exact ret 0 (v36, f37) _ _ _ _ _ _ rfl ⟨(gsX_X6_line_1_q7 c1 c12 c23 hG25 hG30 hG35), hM_v36, hA_f37, hIv36, (hk0_v36.trans (hk0_v31.trans hk0_v26)), (hk1_v36.trans (hk1_v31.trans hk1_v26)), (Or.inr rfl)⟩ hP hD hS dX6_line_122 (Nat.le_refl _) (Nat.le_refl _)
          · skip
            subst g33
            refine lv_if_eq (tgt := 121) hx hb dX6_line_107 (by decide) (fun _ => ?_) (fun c0 => absurd (by decide) c0)
            refine lv_iconst (v := 0) hx hb dX6_line_121 (by decide) ?_
            exact ret 0 (v31, f32) _ _ _ _ _ _ rfl ⟨(gsX_X6_line_1_q8 c1 c12 c23 hG25 hG30), hM_v31, hA_f32, hIv31, (hk0_v31.trans hk0_v26), (hk1_v31.trans hk1_v26), (Or.inr rfl)⟩ hP hD hS dX6_line_122 (Nat.le_refl _) (Nat.le_refl _)
        · skip
          subst g28
          refine lv_if_eq (tgt := 121) hx hb dX6_line_98 (by decide) (fun _ => ?_) (fun c0 => absurd (by decide) c0)
          refine lv_iconst (v := 0) hx hb dX6_line_121 (by decide) ?_
          exact ret 0 (v26, f27) _ _ _ _ _ _ rfl ⟨(gsX_X6_line_1_q9 c1 c12 c23 hG25), hM_v26, hA_f27, hIv26, hk0_v26, hk1_v26, (Or.inr rfl)⟩ hP hD hS dX6_line_122 (Nat.le_refl _) (Nat.le_refl _)
      · skip
        have zc23 : ¬ ((v 2).toInt = 103) := by rw [fa_eq, show (103 : Int32).toInt = 103 from by decide] at c23; exact c23
        by_cases c39 : (v 2) = 104
        · skip
          refine lv_tableIn (off := 116) (tgt := 123) hx hb dX6_line_7 (by rw [c39]; decide) (by rw [c39]; decide) (by rw [c39]; decide) (by decide) ?_
          have zc39 : (v 2).toInt = 104 := by rw [fa_eq, show (104 : Int32).toInt = 104 from by decide] at c39; exact c39
          refine lv_aload_n hx hb dX6_line_123 rfl (lv_at hl 0 rfl) ?_
          refine lv_sipush (v := 999) hx hb dX6_line_124 (by decide) ?_
          refine csVi (n := 1) (rest := []) hx hb hml hown hts hE hP hD hS hA hF hT (sX_X6_settingLine_1 NF l dC dI cy x0 x 999 v f hIv ) k_759 k_761 k_18 k_103 k_762 (by decide +kernel) ⟨Nat.le_of_ble_eq_true rfl, Nat.le_of_ble_eq_true rfl⟩ 3 6 rfl rfl (rfl) hl.1 rfl (Nat.le_of_ble_eq_true rfl) dX6_line_127 (fun r40 u H locs hw hP hD hS => ?_)
          obtain ⟨hG41, hw⟩ := hw
          obtain ⟨v42, f43⟩ := u
          obtain ⟨kV_v42, kF_f43, hIv42, hk0_v42, hk1_v42, hk9_v42, hk10_v42, hk31_v42, hk32_v42, hw⟩ := hw
          have hM_v42 : KV [2, 3, 4, 5, 6, 7, 8, 9, 10, 11, 12, 13, 14, 15, 16, 17] v42 v := KV.tr kV_v42 hM_v rfl
          have hA_f43 : KF [1, 2, 3, 4, 7, 8] f43 f := KF.tr kF_f43 hA_f rfl
          have hP : va_P (dC, dI) vwCl (XW cy x0 x v42 f43) H := hP
          have hD : va_D A (XW cy x0 x v42 f43) := hD
          have hq0_v42 : v42 0 = (v 0) := hk0_v42
          have hq1_v42 : v42 1 = (v 1) := hk1_v42
          have hq9_v42 : v42 9 = (v 9) := hk9_v42
          have hq10_v42 : v42 10 = (v 10) := hk10_v42
          have hq31_v42 : v42 31 = (v 31) := hk31_v42
          have hq32_v42 : v42 32 = (v 32) := hk32_v42
          rcases hw with ⟨g44⟩ | ⟨g44⟩
          · skip
            subst g44
            refine lv_if_eq (tgt := 144) hx hb dX6_line_130 (by decide) (fun c0 => absurd c0 (by decide)) (fun _ => ?_)
            refine lv_aload_n hx hb dX6_line_133 rfl (lv_at hl 0 rfl) ?_
            refine csVi (n := 0) (rest := []) hx hb hml hown hts hE hP hD hS hA hF hT (sX_X6_closing_1 NF l dC dI cy x0 x  v42 f43 hIv42 ) k_720 k_722 k_11 k_103 k_723 (by decide +kernel) ⟨Nat.le_of_ble_eq_true rfl, Nat.le_of_ble_eq_true rfl⟩ 3 6 rfl rfl (rfl) hl.1 rfl (Nat.le_of_ble_eq_true rfl) dX6_line_134 (fun r45 u H locs hw hP hD hS => ?_)
            obtain ⟨hG46, hw⟩ := hw
            obtain ⟨v47, f48⟩ := u
            obtain ⟨kV_v47, kF_f48, hIv47, hk0_v47, hk1_v47, hk9_v47, hk10_v47, hk31_v47, hk32_v47, hw⟩ := hw
            have hM_v47 : KV [2, 3, 4, 5, 6, 7, 8, 9, 10, 11, 12, 13, 14, 15, 16, 17] v47 v := KV.tr kV_v47 hM_v42 rfl
            have hA_f48 : KF [1, 2, 3, 4, 7, 8] f48 f := KF.tr kF_f48 hA_f43 rfl
            have hP : va_P (dC, dI) vwCl (XW cy x0 x v47 f48) H := hP
            have hD : va_D A (XW cy x0 x v47 f48) := hD
            have hq0_v47 : v47 0 = (v 0) := hk0_v47.trans hq0_v42
            have hq1_v47 : v47 1 = (v 1) := hk1_v47.trans hq1_v42
            have hq9_v47 : v47 9 = (v 9) := hk9_v47.trans hq9_v42
            have hq10_v47 : v47 10 = (v 10) := hk10_v47.trans hq10_v42
            have hq31_v47 : v47 31 = (v 31) := hk31_v47.trans hq31_v42
            have hq32_v47 : v47 32 = (v 32) := hk32_v47.trans hq32_v42
            rcases hw with ⟨g49⟩ | ⟨g49⟩
            · skip
              subst g49
              refine lv_if_eq (tgt := 144) hx hb dX6_line_137 (by decide) (fun c0 => absurd c0 (by decide)) (fun _ => ?_)
              refine lv_iconst (v := 1) hx hb dX6_line_140 (by decide) ?_
              refine lv_goto (tgt := 145) hx hb dX6_line_141 (by decide) ?_
              exact ret 1 (v47, f48) _ _ _ _ _ _ rfl ⟨(gsX_X6_line_1_q10 c1 c12 c23 c39 hG41 hG46), hM_v47, hA_f48, hIv47, (hk0_v47.trans hk0_v42), (hk1_v47.trans hk1_v42), (Or.inl rfl)⟩ hP hD hS dX6_line_145 (Nat.le_refl _) (Nat.le_refl _)
            · skip
              subst g49
              refine lv_if_eq (tgt := 144) hx hb dX6_line_137 (by decide) (fun _ => ?_) (fun c0 => absurd (by decide) c0)
              refine lv_iconst (v := 0) hx hb dX6_line_144 (by decide) ?_
              exact ret 0 (v47, f48) _ _ _ _ _ _ rfl ⟨(gsX_X6_line_1_q11 c1 c12 c23 c39 hG41 hG46), hM_v47, hA_f48, hIv47, (hk0_v47.trans hk0_v42), (hk1_v47.trans hk1_v42), (Or.inr rfl)⟩ hP hD hS dX6_line_145 (Nat.le_refl _) (Nat.le_refl _)
          · skip
            subst g44
            refine lv_if_eq (tgt := 144) hx hb dX6_line_130 (by decide) (fun _ => ?_) (fun c0 => absurd (by decide) c0)
            refine lv_iconst (v := 0) hx hb dX6_line_144 (by decide) ?_
            exact ret 0 (v42, f43) _ _ _ _ _ _ rfl ⟨(gsX_X6_line_1_q12 c1 c12 c23 c39 hG41), hM_v42, hA_f43, hIv42, hk0_v42, hk1_v42, (Or.inr rfl)⟩ hP hD hS dX6_line_145 (Nat.le_refl _) (Nat.le_refl _)
        · skip
          have zc39 : ¬ ((v 2).toInt = 104) := by rw [fa_eq, show (104 : Int32).toInt = 104 from by decide] at c39; exact c39
          by_cases c50 : (v 2) = 105
          · skip
            refine lv_tableIn (off := 116) (tgt := 123) hx hb dX6_line_7 (by rw [c50]; decide) (by rw [c50]; decide) (by rw [c50]; decide) (by decide) ?_
            have zc50 : (v 2).toInt = 105 := by rw [fa_eq, show (105 : Int32).toInt = 105 from by decide] at c50; exact c50
            refine lv_aload_n hx hb dX6_line_123 rfl (lv_at hl 0 rfl) ?_
            refine lv_sipush (v := 999) hx hb dX6_line_124 (by decide) ?_
            refine csVi (n := 1) (rest := []) hx hb hml hown hts hE hP hD hS hA hF hT (sX_X6_settingLine_1 NF l dC dI cy x0 x 999 v f hIv ) k_759 k_761 k_18 k_103 k_762 (by decide +kernel) ⟨Nat.le_of_ble_eq_true rfl, Nat.le_of_ble_eq_true rfl⟩ 3 6 rfl rfl (rfl) hl.1 rfl (Nat.le_of_ble_eq_true rfl) dX6_line_127 (fun r51 u H locs hw hP hD hS => ?_)
            obtain ⟨hG52, hw⟩ := hw
            obtain ⟨v53, f54⟩ := u
            obtain ⟨kV_v53, kF_f54, hIv53, hk0_v53, hk1_v53, hk9_v53, hk10_v53, hk31_v53, hk32_v53, hw⟩ := hw
            have hM_v53 : KV [2, 3, 4, 5, 6, 7, 8, 9, 10, 11, 12, 13, 14, 15, 16, 17] v53 v := KV.tr kV_v53 hM_v rfl
            have hA_f54 : KF [1, 2, 3, 4, 7, 8] f54 f := KF.tr kF_f54 hA_f rfl
            have hP : va_P (dC, dI) vwCl (XW cy x0 x v53 f54) H := hP
            have hD : va_D A (XW cy x0 x v53 f54) := hD
            have hq0_v53 : v53 0 = (v 0) := hk0_v53
            have hq1_v53 : v53 1 = (v 1) := hk1_v53
            have hq9_v53 : v53 9 = (v 9) := hk9_v53
            have hq10_v53 : v53 10 = (v 10) := hk10_v53
            have hq31_v53 : v53 31 = (v 31) := hk31_v53
            have hq32_v53 : v53 32 = (v 32) := hk32_v53
            rcases hw with ⟨g55⟩ | ⟨g55⟩
            · skip
              subst g55
              refine lv_if_eq (tgt := 144) hx hb dX6_line_130 (by decide) (fun c0 => absurd c0 (by decide)) (fun _ => ?_)
              refine lv_aload_n hx hb dX6_line_133 rfl (lv_at hl 0 rfl) ?_
              refine csVi (n := 0) (rest := []) hx hb hml hown hts hE hP hD hS hA hF hT (sX_X6_closing_1 NF l dC dI cy x0 x  v53 f54 hIv53 ) k_720 k_722 k_11 k_103 k_723 (by decide +kernel) ⟨Nat.le_of_ble_eq_true rfl, Nat.le_of_ble_eq_true rfl⟩ 3 6 rfl rfl (rfl) hl.1 rfl (Nat.le_of_ble_eq_true rfl) dX6_line_134 (fun r56 u H locs hw hP hD hS => ?_)
              obtain ⟨hG57, hw⟩ := hw
              obtain ⟨v58, f59⟩ := u
              obtain ⟨kV_v58, kF_f59, hIv58, hk0_v58, hk1_v58, hk9_v58, hk10_v58, hk31_v58, hk32_v58, hw⟩ := hw
              have hM_v58 : KV [2, 3, 4, 5, 6, 7, 8, 9, 10, 11, 12, 13, 14, 15, 16, 17] v58 v := KV.tr kV_v58 hM_v53 rfl
              have hA_f59 : KF [1, 2, 3, 4, 7, 8] f59 f := KF.tr kF_f59 hA_f54 rfl
              have hP : va_P (dC, dI) vwCl (XW cy x0 x v58 f59) H := hP
              have hD : va_D A (XW cy x0 x v58 f59) := hD
              have hq0_v58 : v58 0 = (v 0) := hk0_v58.trans hq0_v53
              have hq1_v58 : v58 1 = (v 1) := hk1_v58.trans hq1_v53
              have hq9_v58 : v58 9 = (v 9) := hk9_v58.trans hq9_v53
              have hq10_v58 : v58 10 = (v 10) := hk10_v58.trans hq10_v53
              have hq31_v58 : v58 31 = (v 31) := hk31_v58.trans hq31_v53
              have hq32_v58 : v58 32 = (v 32) := hk32_v58.trans hq32_v53
              rcases hw with ⟨g60⟩ | ⟨g60⟩
              · skip
                subst g60
                refine lv_if_eq (tgt := 144) hx hb dX6_line_137 (by decide) (fun c0 => absurd c0 (by decide)) (fun _ => ?_)
                refine lv_iconst (v := 1) hx hb dX6_line_140 (by decide) ?_
                refine lv_goto (tgt := 145) hx hb dX6_line_141 (by decide) ?_
                exact ret 1 (v58, f59) _ _ _ _ _ _ rfl ⟨(gsX_X6_line_1_q13 c1 c12 c23 c39 c50 hG52 hG57), hM_v58, hA_f59, hIv58, (hk0_v58.trans hk0_v53), (hk1_v58.trans hk1_v53), (Or.inl rfl)⟩ hP hD hS dX6_line_145 (Nat.le_refl _) (Nat.le_refl _)
              · skip
                subst g60
                refine lv_if_eq (tgt := 144) hx hb dX6_line_137 (by decide) (fun _ => ?_) (fun c0 => absurd (by decide) c0)
                refine lv_iconst (v := 0) hx hb dX6_line_144 (by decide) ?_
                exact ret 0 (v58, f59) _ _ _ _ _ _ rfl ⟨(gsX_X6_line_1_q14 c1 c12 c23 c39 c50 hG52 hG57), hM_v58, hA_f59, hIv58, (hk0_v58.trans hk0_v53), (hk1_v58.trans hk1_v53), (Or.inr rfl)⟩ hP hD hS dX6_line_145 (Nat.le_refl _) (Nat.le_refl _)
            · skip
              subst g55
              refine lv_if_eq (tgt := 144) hx hb dX6_line_130 (by decide) (fun _ => ?_) (fun c0 => absurd (by decide) c0)
              refine lv_iconst (v := 0) hx hb dX6_line_144 (by decide) ?_
              exact ret 0 (v53, f54) _ _ _ _ _ _ rfl ⟨(gsX_X6_line_1_q15 c1 c12 c23 c39 c50 hG52), hM_v53, hA_f54, hIv53, hk0_v53, hk1_v53, (Or.inr rfl)⟩ hP hD hS dX6_line_145 (Nat.le_refl _) (Nat.le_refl _)
          · skip
            have zc50 : ¬ ((v 2).toInt = 105) := by rw [fa_eq, show (105 : Int32).toInt = 105 from by decide] at c50; exact c50
            by_cases c61 : (v 2) = 106
            · skip
              refine lv_tableIn (off := 139) (tgt := 146) hx hb dX6_line_7 (by rw [c61]; decide) (by rw [c61]; decide) (by rw [c61]; decide) (by decide) ?_
              have zc61 : (v 2).toInt = 106 := by rw [fa_eq, show (106 : Int32).toInt = 106 from by decide] at c61; exact c61
              refine lv_aload_n hx hb dX6_line_146 rfl (lv_at hl 0 rfl) ?_
              refine lv_bipush (v := 99) hx hb dX6_line_147 (by decide) ?_
              refine csVi (n := 1) (rest := []) hx hb hml hown hts hE hP hD hS hA hF hT (sX_X6_settingLine_1 NF l dC dI cy x0 x 99 v f hIv ) k_759 k_761 k_18 k_103 k_762 (by decide +kernel) ⟨Nat.le_of_ble_eq_true rfl, Nat.le_of_ble_eq_true rfl⟩ 3 6 rfl rfl (rfl) hl.1 rfl (Nat.le_of_ble_eq_true rfl) dX6_line_149 (fun r62 u H locs hw hP hD hS => ?_)
              obtain ⟨hG63, hw⟩ := hw
              obtain ⟨v64, f65⟩ := u
              obtain ⟨kV_v64, kF_f65, hIv64, hk0_v64, hk1_v64, hk9_v64, hk10_v64, hk31_v64, hk32_v64, hw⟩ := hw
              have hM_v64 : KV [2, 3, 4, 5, 6, 7, 8, 9, 10, 11, 12, 13, 14, 15, 16, 17] v64 v := KV.tr kV_v64 hM_v rfl
              have hA_f65 : KF [1, 2, 3, 4, 7, 8] f65 f := KF.tr kF_f65 hA_f rfl
              have hP : va_P (dC, dI) vwCl (XW cy x0 x v64 f65) H := hP
              have hD : va_D A (XW cy x0 x v64 f65) := hD
              have hq0_v64 : v64 0 = (v 0) := hk0_v64
              have hq1_v64 : v64 1 = (v 1) := hk1_v64
              have hq9_v64 : v64 9 = (v 9) := hk9_v64
              have hq10_v64 : v64 10 = (v 10) := hk10_v64
              have hq31_v64 : v64 31 = (v 31) := hk31_v64
              have hq32_v64 : v64 32 = (v 32) := hk32_v64
              rcases hw with ⟨g66⟩ | ⟨g66⟩
              · skip
                subst g66
                refine lv_if_eq (tgt := 166) hx hb dX6_line_152 (by decide) (fun c0 => absurd c0 (by decide)) (fun _ => ?_)
                refine lv_aload_n hx hb dX6_line_155 rfl (lv_at hl 0 rfl) ?_
                refine csVi (n := 0) (rest := []) hx hb hml hown hts hE hP hD hS hA hF hT (sX_X6_closing_1 NF l dC dI cy x0 x  v64 f65 hIv64 ) k_720 k_722 k_11 k_103 k_723 (by decide +kernel) ⟨Nat.le_of_ble_eq_true rfl, Nat.le_of_ble_eq_true rfl⟩ 3 6 rfl rfl (rfl) hl.1 rfl (Nat.le_of_ble_eq_true rfl) dX6_line_156 (fun r67 u H locs hw hP hD hS => ?_)
                obtain ⟨hG68, hw⟩ := hw
                obtain ⟨v69, f70⟩ := u
                obtain ⟨kV_v69, kF_f70, hIv69, hk0_v69, hk1_v69, hk9_v69, hk10_v69, hk31_v69, hk32_v69, hw⟩ := hw
                have hM_v69 : KV [2, 3, 4, 5, 6, 7, 8, 9, 10, 11, 12, 13, 14, 15, 16, 17] v69 v := KV.tr kV_v69 hM_v64 rfl
                have hA_f70 : KF [1, 2, 3, 4, 7, 8] f70 f := KF.tr kF_f70 hA_f65 rfl
                have hP : va_P (dC, dI) vwCl (XW cy x0 x v69 f70) H := hP
                have hD : va_D A (XW cy x0 x v69 f70) := hD
                have hq0_v69 : v69 0 = (v 0) := hk0_v69.trans hq0_v64
                have hq1_v69 : v69 1 = (v 1) := hk1_v69.trans hq1_v64
                have hq9_v69 : v69 9 = (v 9) := hk9_v69.trans hq9_v64
                have hq10_v69 : v69 10 = (v 10) := hk10_v69.trans hq10_v64
                have hq31_v69 : v69 31 = (v 31) := hk31_v69.trans hq31_v64
                have hq32_v69 : v69 32 = (v 32) := hk32_v69.trans hq32_v64
                rcases hw with ⟨g71⟩ | ⟨g71⟩
                · skip
                  subst g71
                  refine lv_if_eq (tgt := 166) hx hb dX6_line_159 (by decide) (fun c0 => absurd c0 (by decide)) (fun _ => ?_)
                  refine lv_iconst (v := 1) hx hb dX6_line_162 (by decide) ?_
                  refine lv_goto (tgt := 167) hx hb dX6_line_163 (by decide) ?_
                  exact ret 1 (v69, f70) _ _ _ _ _ _ rfl ⟨(gsX_X6_line_1_q16 c1 c12 c23 c39 c50 c61 hG63 hG68), hM_v69, hA_f70, hIv69, (hk0_v69.trans hk0_v64), (hk1_v69.trans hk1_v64), (Or.inl rfl)⟩ hP hD hS dX6_line_167 (Nat.le_refl _) (Nat.le_refl _)
                · skip
                  subst g71
                  refine lv_if_eq (tgt := 166) hx hb dX6_line_159 (by decide) (fun _ => ?_) (fun c0 => absurd (by decide) c0)
                  refine lv_iconst (v := 0) hx hb dX6_line_166 (by decide) ?_
                  exact ret 0 (v69, f70) _ _ _ _ _ _ rfl ⟨(gsX_X6_line_1_q17 c1 c12 c23 c39 c50 c61 hG63 hG68), hM_v69, hA_f70, hIv69, (hk0_v69.trans hk0_v64), (hk1_v69.trans hk1_v64), (Or.inr rfl)⟩ hP hD hS dX6_line_167 (Nat.le_refl _) (Nat.le_refl _)
              · skip
                subst g66
                refine lv_if_eq (tgt := 166) hx hb dX6_line_152 (by decide) (fun _ => ?_) (fun c0 => absurd (by decide) c0)
                refine lv_iconst (v := 0) hx hb dX6_line_166 (by decide) ?_
                exact ret 0 (v64, f65) _ _ _ _ _ _ rfl ⟨(gsX_X6_line_1_q18 c1 c12 c23 c39 c50 c61 hG63), hM_v64, hA_f65, hIv64, hk0_v64, hk1_v64, (Or.inr rfl)⟩ hP hD hS dX6_line_167 (Nat.le_refl _) (Nat.le_refl _)
            · skip
              have zc61 : ¬ ((v 2).toInt = 106) := by rw [fa_eq, show (106 : Int32).toInt = 106 from by decide] at c61; exact c61
              by_cases c72 : (v 2) = 107
              · skip
                refine lv_tableIn (off := 161) (tgt := 168) hx hb dX6_line_7 (by rw [c72]; decide) (by rw [c72]; decide) (by rw [c72]; decide) (by decide) ?_
                have zc72 : (v 2).toInt = 107 := by rw [fa_eq, show (107 : Int32).toInt = 107 from by decide] at c72; exact c72
                refine lv_aload_n hx hb dX6_line_168 rfl (lv_at hl 0 rfl) ?_
                refine lv_bipush (v := 100) hx hb dX6_line_169 (by decide) ?_
                refine csVi (n := 1) (rest := []) hx hb hml hown hts hE hP hD hS hA hF hT (sX_X6_settingLine_1 NF l dC dI cy x0 x 100 v f hIv ) k_759 k_761 k_18 k_103 k_762 (by decide +kernel) ⟨Nat.le_of_ble_eq_true rfl, Nat.le_of_ble_eq_true rfl⟩ 3 6 rfl rfl (rfl) hl.1 rfl (Nat.le_of_ble_eq_true rfl) dX6_line_171 (fun r73 u H locs hw hP hD hS => ?_)
                obtain ⟨hG74, hw⟩ := hw
                obtain ⟨v75, f76⟩ := u
                obtain ⟨kV_v75, kF_f76, hIv75, hk0_v75, hk1_v75, hk9_v75, hk10_v75, hk31_v75, hk32_v75, hw⟩ := hw
                have hM_v75 : KV [2, 3, 4, 5, 6, 7, 8, 9, 10, 11, 12, 13, 14, 15, 16, 17] v75 v := KV.tr kV_v75 hM_v rfl
                have hA_f76 : KF [1, 2, 3, 4, 7, 8] f76 f := KF.tr kF_f76 hA_f rfl
                have hP : va_P (dC, dI) vwCl (XW cy x0 x v75 f76) H := hP
                have hD : va_D A (XW cy x0 x v75 f76) := hD
                have hq0_v75 : v75 0 = (v 0) := hk0_v75
                have hq1_v75 : v75 1 = (v 1) := hk1_v75
                have hq9_v75 : v75 9 = (v 9) := hk9_v75
                have hq10_v75 : v75 10 = (v 10) := hk10_v75
                have hq31_v75 : v75 31 = (v 31) := hk31_v75
                have hq32_v75 : v75 32 = (v 32) := hk32_v75
                rcases hw with ⟨g77⟩ | ⟨g77⟩
                · skip
                  subst g77
                  refine lv_if_eq (tgt := 188) hx hb dX6_line_174 (by decide) (fun c0 => absurd c0 (by decide)) (fun _ => ?_)
                  refine lv_aload_n hx hb dX6_line_177 rfl (lv_at hl 0 rfl) ?_
                  refine csVi (n := 0) (rest := []) hx hb hml hown hts hE hP hD hS hA hF hT (sX_X6_closing_1 NF l dC dI cy x0 x  v75 f76 hIv75 ) k_720 k_722 k_11 k_103 k_723 (by decide +kernel) ⟨Nat.le_of_ble_eq_true rfl, Nat.le_of_ble_eq_true rfl⟩ 3 6 rfl rfl (rfl) hl.1 rfl (Nat.le_of_ble_eq_true rfl) dX6_line_178 (fun r78 u H locs hw hP hD hS => ?_)
                  obtain ⟨hG79, hw⟩ := hw
                  obtain ⟨v80, f81⟩ := u
                  obtain ⟨kV_v80, kF_f81, hIv80, hk0_v80, hk1_v80, hk9_v80, hk10_v80, hk31_v80, hk32_v80, hw⟩ := hw
                  have hM_v80 : KV [2, 3, 4, 5, 6, 7, 8, 9, 10, 11, 12, 13, 14, 15, 16, 17] v80 v := KV.tr kV_v80 hM_v75 rfl
                  have hA_f81 : KF [1, 2, 3, 4, 7, 8] f81 f := KF.tr kF_f81 hA_f76 rfl
                  have hP : va_P (dC, dI) vwCl (XW cy x0 x v80 f81) H := hP
                  have hD : va_D A (XW cy x0 x v80 f81) := hD
                  have hq0_v80 : v80 0 = (v 0) := hk0_v80.trans hq0_v75
                  have hq1_v80 : v80 1 = (v 1) := hk1_v80.trans hq1_v75
                  have hq9_v80 : v80 9 = (v 9) := hk9_v80.trans hq9_v75
                  have hq10_v80 : v80 10 = (v 10) := hk10_v80.trans hq10_v75
                  have hq31_v80 : v80 31 = (v 31) := hk31_v80.trans hq31_v75
                  have hq32_v80 : v80 32 = (v 32) := hk32_v80.trans hq32_v75
                  rcases hw with ⟨g82⟩ | ⟨g82⟩
                  · skip
                    subst g82
                    refine lv_if_eq (tgt := 188) hx hb dX6_line_181 (by decide) (fun c0 => absurd c0 (by decide)) (fun _ => ?_)
                    refine lv_iconst (v := 1) hx hb dX6_line_184 (by decide) ?_
                    refine lv_goto (tgt := 189) hx hb dX6_line_185 (by decide) ?_
                    exact ret 1 (v80, f81) _ _ _ _ _ _ rfl ⟨(gsX_X6_line_1_q19 c1 c12 c23 c39 c50 c61 c72 hG74 hG79), hM_v80, hA_f81, hIv80, (hk0_v80.trans hk0_v75), (hk1_v80.trans hk1_v75), (Or.inl rfl)⟩ hP hD hS dX6_line_189 (Nat.le_refl _) (Nat.le_refl _)
                  · skip
                    subst g82
                    refine lv_if_eq (tgt := 188) hx hb dX6_line_181 (by decide) (fun _ => ?_) (fun c0 => absurd (by decide) c0)
                    refine lv_iconst (v := 0) hx hb dX6_line_188 (by decide) ?_
                    exact ret 0 (v80, f81) _ _ _ _ _ _ rfl ⟨(gsX_X6_line_1_q20 c1 c12 c23 c39 c50 c61 c72 hG74 hG79), hM_v80, hA_f81, hIv80, (hk0_v80.trans hk0_v75), (hk1_v80.trans hk1_v75), (Or.inr rfl)⟩ hP hD hS dX6_line_189 (Nat.le_refl _) (Nat.le_refl _)
                · skip
                  subst g77
                  refine lv_if_eq (tgt := 188) hx hb dX6_line_174 (by decide) (fun _ => ?_) (fun c0 => absurd (by decide) c0)
                  refine lv_iconst (v := 0) hx hb dX6_line_188 (by decide) ?_
                  exact ret 0 (v75, f76) _ _ _ _ _ _ rfl ⟨(gsX_X6_line_1_q21 c1 c12 c23 c39 c50 c61 c72 hG74), hM_v75, hA_f76, hIv75, hk0_v75, hk1_v75, (Or.inr rfl)⟩ hP hD hS dX6_line_189 (Nat.le_refl _) (Nat.le_refl _)
              · skip
                have zc72 : ¬ ((v 2).toInt = 107) := by rw [fa_eq, show (107 : Int32).toInt = 107 from by decide] at c72; exact c72
                by_cases c83 : (v 2) = 108
                · skip
                  refine lv_tableIn (off := 116) (tgt := 123) hx hb dX6_line_7 (by rw [c83]; decide) (by rw [c83]; decide) (by rw [c83]; decide) (by decide) ?_
                  have zc83 : (v 2).toInt = 108 := by rw [fa_eq, show (108 : Int32).toInt = 108 from by decide] at c83; exact c83
                  refine lv_aload_n hx hb dX6_line_123 rfl (lv_at hl 0 rfl) ?_
                  refine lv_sipush (v := 999) hx hb dX6_line_124 (by decide) ?_
                  refine csVi (n := 1) (rest := []) hx hb hml hown hts hE hP hD hS hA hF hT (sX_X6_settingLine_1 NF l dC dI cy x0 x 999 v f hIv ) k_759 k_761 k_18 k_103 k_762 (by decide +kernel) ⟨Nat.le_of_ble_eq_true rfl, Nat.le_of_ble_eq_true rfl⟩ 3 6 rfl rfl (rfl) hl.1 rfl (Nat.le_of_ble_eq_true rfl) dX6_line_127 (fun r84 u H locs hw hP hD hS => ?_)
                  obtain ⟨hG85, hw⟩ := hw
                  obtain ⟨v86, f87⟩ := u
                  obtain ⟨kV_v86, kF_f87, hIv86, hk0_v86, hk1_v86, hk9_v86, hk10_v86, hk31_v86, hk32_v86, hw⟩ := hw
                  have hM_v86 : KV [2, 3, 4, 5, 6, 7, 8, 9, 10, 11, 12, 13, 14, 15, 16, 17] v86 v := KV.tr kV_v86 hM_v rfl
                  have hA_f87 : KF [1, 2, 3, 4, 7, 8] f87 f := KF.tr kF_f87 hA_f rfl
                  have hP : va_P (dC, dI) vwCl (XW cy x0 x v86 f87) H := hP
                  have hD : va_D A (XW cy x0 x v86 f87) := hD
                  have hq0_v86 : v86 0 = (v 0) := hk0_v86
                  have hq1_v86 : v86 1 = (v 1) := hk1_v86
                  have hq9_v86 : v86 9 = (v 9) := hk9_v86
                  have hq10_v86 : v86 10 = (v 10) := hk10_v86
                  have hq31_v86 : v86 31 = (v 31) := hk31_v86
                  have hq32_v86 : v86 32 = (v 32) := hk32_v86
                  rcases hw with ⟨g88⟩ | ⟨g88⟩
                  · skip
                    subst g88
                    refine lv_if_eq (tgt := 144) hx hb dX6_line_130 (by decide) (fun c0 => absurd c0 (by decide)) (fun _ => ?_)
                    refine lv_aload_n hx hb dX6_line_133 rfl (lv_at hl 0 rfl) ?_
                    refine csVi (n := 0) (rest := []) hx hb hml hown hts hE hP hD hS hA hF hT (sX_X6_closing_1 NF l dC dI cy x0 x  v86 f87 hIv86 ) k_720 k_722 k_11 k_103 k_723 (by decide +kernel) ⟨Nat.le_of_ble_eq_true rfl, Nat.le_of_ble_eq_true rfl⟩ 3 6 rfl rfl (rfl) hl.1 rfl (Nat.le_of_ble_eq_true rfl) dX6_line_134 (fun r89 u H locs hw hP hD hS => ?_)
                    obtain ⟨hG90, hw⟩ := hw
                    obtain ⟨v91, f92⟩ := u
                    obtain ⟨kV_v91, kF_f92, hIv91, hk0_v91, hk1_v91, hk9_v91, hk10_v91, hk31_v91, hk32_v91, hw⟩ := hw
                    have hM_v91 : KV [2, 3, 4, 5, 6, 7, 8, 9, 10, 11, 12, 13, 14, 15, 16, 17] v91 v := KV.tr kV_v91 hM_v86 rfl
                    have hA_f92 : KF [1, 2, 3, 4, 7, 8] f92 f := KF.tr kF_f92 hA_f87 rfl
                    have hP : va_P (dC, dI) vwCl (XW cy x0 x v91 f92) H := hP
                    have hD : va_D A (XW cy x0 x v91 f92) := hD
                    have hq0_v91 : v91 0 = (v 0) := hk0_v91.trans hq0_v86
                    have hq1_v91 : v91 1 = (v 1) := hk1_v91.trans hq1_v86
                    have hq9_v91 : v91 9 = (v 9) := hk9_v91.trans hq9_v86
                    have hq10_v91 : v91 10 = (v 10) := hk10_v91.trans hq10_v86
                    have hq31_v91 : v91 31 = (v 31) := hk31_v91.trans hq31_v86
                    have hq32_v91 : v91 32 = (v 32) := hk32_v91.trans hq32_v86
                    rcases hw with ⟨g93⟩ | ⟨g93⟩
                    · skip
                      subst g93
                      refine lv_if_eq (tgt := 144) hx hb dX6_line_137 (by decide) (fun c0 => absurd c0 (by decide)) (fun _ => ?_)
                      refine lv_iconst (v := 1) hx hb dX6_line_140 (by decide) ?_
                      refine lv_goto (tgt := 145) hx hb dX6_line_141 (by decide) ?_
                      exact ret 1 (v91, f92) _ _ _ _ _ _ rfl ⟨(gsX_X6_line_1_q22 c1 c12 c23 c39 c50 c61 c72 c83 hG85 hG90), hM_v91, hA_f92, hIv91, (hk0_v91.trans hk0_v86), (hk1_v91.trans hk1_v86), (Or.inl rfl)⟩ hP hD hS dX6_line_145 (Nat.le_refl _) (Nat.le_refl _)
                    · skip
                      subst g93
                      refine lv_if_eq (tgt := 144) hx hb dX6_line_137 (by decide) (fun _ => ?_) (fun c0 => absurd (by decide) c0)
                      refine lv_iconst (v := 0) hx hb dX6_line_144 (by decide) ?_
                      exact ret 0 (v91, f92) _ _ _ _ _ _ rfl ⟨(gsX_X6_line_1_q23 c1 c12 c23 c39 c50 c61 c72 c83 hG85 hG90), hM_v91, hA_f92, hIv91, (hk0_v91.trans hk0_v86), (hk1_v91.trans hk1_v86), (Or.inr rfl)⟩ hP hD hS dX6_line_145 (Nat.le_refl _) (Nat.le_refl _)
                  · skip
                    subst g88
                    refine lv_if_eq (tgt := 144) hx hb dX6_line_130 (by decide) (fun _ => ?_) (fun c0 => absurd (by decide) c0)
                    refine lv_iconst (v := 0) hx hb dX6_line_144 (by decide) ?_
                    exact ret 0 (v86, f87) _ _ _ _ _ _ rfl ⟨(gsX_X6_line_1_q24 c1 c12 c23 c39 c50 c61 c72 c83 hG85), hM_v86, hA_f87, hIv86, hk0_v86, hk1_v86, (Or.inr rfl)⟩ hP hD hS dX6_line_145 (Nat.le_refl _) (Nat.le_refl _)
                · skip
                  have zc83 : ¬ ((v 2).toInt = 108) := by rw [fa_eq, show (108 : Int32).toInt = 108 from by decide] at c83; exact c83
                  refine lv_tableOut (tgt := 190) hx hb dX6_line_7 (by omega) (by decide) ?_
                  refine lv_aload_n hx hb dX6_line_190 rfl (lv_at hl 0 rfl) ?_
                  refine cbVi (n := 0) (rest := []) hx hb hml hown hts hE hP hD hS hA (sX_X6_refuse_1 NF l dC dI cy x0 x  v f hIv ) k_691 k_693 k_6 k_103 k_694 (by decide +kernel) ⟨Nat.le_of_ble_eq_true rfl, Nat.le_of_ble_eq_true rfl⟩ 3 6 rfl rfl (rfl) hl.1 rfl (Nat.le_of_ble_eq_true rfl) dX6_line_191 (fun r94 u H locs hw hP hD hS => ?_)
                  obtain ⟨hG95, hw⟩ := hw
                  obtain ⟨v96, f97⟩ := u
                  obtain ⟨kV_v96, kF_f97, hIv96, hk0_v96, hk1_v96, hk9_v96, hk10_v96, hk31_v96, hk32_v96, hw⟩ := hw
                  have hM_v96 : KV [2, 3, 4, 5, 6, 7, 8, 9, 10, 11, 12, 13, 14, 15, 16, 17] v96 v := KV.tr kV_v96 hM_v rfl
                  have hA_f97 : KF [1, 2, 3, 4, 7, 8] f97 f := KF.tr kF_f97 hA_f rfl
                  have hP : va_P (dC, dI) vwCl (XW cy x0 x v96 f97) H := hP
                  have hD : va_D A (XW cy x0 x v96 f97) := hD
                  have hq0_v96 : v96 0 = (v 0) := hk0_v96
                  have hq1_v96 : v96 1 = (v 1) := hk1_v96
                  have hq9_v96 : v96 9 = (v 9) := hk9_v96
                  have hq10_v96 : v96 10 = (v 10) := hk10_v96
                  have hq31_v96 : v96 31 = (v 31) := hk31_v96
                  have hq32_v96 : v96 32 = (v 32) := hk32_v96
                  rcases hw with ⟨g98⟩ | ⟨g98⟩
                  · skip
                    subst g98
                    exact ret 1 (v96, f97) _ _ _ _ _ _ rfl ⟨(gsX_X6_line_1_q25 c1 c12 c23 c39 c50 c61 c72 c83 hG95), hM_v96, hA_f97, hIv96, hk0_v96, hk1_v96, (Or.inl rfl)⟩ hP hD hS dX6_line_194 (Nat.le_refl _) (Nat.le_refl _)
                  · skip
                    subst g98
                    exact ret 0 (v96, f97) _ _ _ _ _ _ rfl ⟨(gsX_X6_line_1_q26 c1 c12 c23 c39 c50 c61 c72 c83 hG95), hM_v96, hA_f97, hIv96, hk0_v96, hk1_v96, (Or.inr rfl)⟩ hP hD hS dX6_line_194 (Nat.le_refl _) (Nat.le_refl _)
