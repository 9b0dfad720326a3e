set_option maxHeartbeats 4000000 in
set_option maxRecDepth 100000 in
theorem sX_X6_manLine_1 (NF : Nat) (l : Launch) (dC : Nat → ClassId) (dI : Nat → Nat → Nat) (cy : Nat → ClassId) (x0 : Nat) (x : Nat → Nat)  (v : Nat → Int32) (f : Nat → Nat → Int32) (hIv : XI v)  : ctIS l (dC, dI) cy yX6_manLine cX6_manLine 4 .boolean 9 235 0 0 ((Nat → Int32) × (Nat → Nat → Int32)) [.ref (x 2)] (XW cy x0 x v f) (fun r u => gsX_X6_manLine_1 NF v f = (r, u) ∧ KV [2, 3, 4, 5, 7, 8, 9] u.1 v ∧ KF [1, 7] u.2 f ∧ XI u.1 ∧ u.1 0 = v 0 ∧ u.1 1 = v 1 ∧ u.1 10 = v 10 ∧ u.1 32 = v 32 ∧ ((r = 1) ∨ (r = 0))) (fun u => XW cy x0 x u.1 u.2) := by
  refine ctIS_of (by decide) (Nat.le_of_ble_eq_true rfl) (fun p e s m below meth c A ls Q hx hb hml hts hown hE hF hT hP hD hA hl ret => ?_)
  have hM_v : KV [2, 3, 4, 5, 7, 8, 9] v v := fun _ _ => rfl
  have hA_f : KF [1, 7] f f := fun _ _ => rfl
  have hown : s.vm.findClass RX6 = some m.cls := hown
  have hS : va_S A s.heap s.heap [] := va_S.rf
  have hl : lv_has ls 4 [(0, .ref (x 2))] := hl
  refine lv_aload_n hx hb dX6_manLine_0 rfl (lv_at hl 0 rfl) ?_
  refine va_get (D := (dC, dI)) (ci := 6) (v := .ref (x 3)) (C := RX6) (T := TX6) (N := 7) hx hb hts inB_6 hown hE.1 hP 3 rfl rfl 1 (by decide) (hts _ k_266) (fun _ h9 => h9) rfl dX6_manLine_1 ?_
  refine va_getN (D := (dC, dI)) (ci := 7) (v := .int (v 9)) (C := RX7) (T := TX7) (N := 10) hx hb hts inB_7 hown hE.1 hP 4 rfl rfl 3 (by decide) (va_Nw.use rfl (hE.2 _ k_218)) (fun _ h9 => h9) rfl dX6_manLine_4 ?_
  have b9_v : 0 ≤ (v 9).toInt ∧ (v 9).toInt ≤ 6 := XI.b hIv 9 (by decide)
  refine lv_bipush (v := 6) hx hb dX6_manLine_7 (by decide) ?_
  refine lv_icmp_lt (tgt := 17) hx hb dX6_manLine_9 (by decide) (fun c1 => ?_) (fun c1 => ?_)
  · skip
    have zc1 : (v 9).toInt < 6 := by rw [fa_lt, show (6 : Int32).toInt = 6 from by decide] at c1; exact c1
    refine lv_aload_n hx hb dX6_manLine_17 rfl (lv_at hl 0 rfl) ?_
    refine va_get (D := (dC, dI)) (ci := 6) (v := .ref (x 0)) (C := RX6) (T := TX6) (N := 7) hx hb hts inB_6 hown hE.1 hP 3 rfl rfl 0 (by decide) (hts _ k_265) (fun _ h9 => h9) rfl dX6_manLine_18 ?_
    refine csVv (n := 0) (rest := []) hx hb hml hown hts hE hP hD hS hA hF hT (sX_X9_advance_1 NF l dC dI cy x0 x  v f hIv ) k_699 k_559 k_560 k_102 k_561 (by decide +kernel) ⟨Nat.le_of_ble_eq_true rfl, Nat.le_of_ble_eq_true rfl⟩ 1 9 rfl rfl (rfl) hl.1 rfl (Nat.le_of_ble_eq_true rfl) dX6_manLine_21 (fun u H locs hw hP hD hS => ?_)
    obtain ⟨hG2, hw⟩ := hw
    obtain ⟨v3, f4⟩ := u
    obtain ⟨kV_v3, kF_f4, hIv3, hk0_v3, hk1_v3, hk7_v3, hk8_v3, hk9_v3, hk10_v3, hk31_v3, hk32_v3⟩ := hw
    have hM_v3 : KV [2, 3, 4, 5, 7, 8, 9] v3 v := KV.tr kV_v3 hM_v rfl
    have hA_f4 : KF [1, 7] f4 f := KF.tr kF_f4 hA_f rfl
    have hP : va_P (dC, dI) vwCl (XW cy x0 x v3 f4) H := hP
    have hD : va_D A (XW cy x0 x v3 f4) := hD
    have hq0_v3 : v3 0 = (v 0) := hk0_v3
    have hq1_v3 : v3 1 = (v 1) := hk1_v3
    have hq7_v3 : v3 7 = (v 7) := hk7_v3
    have hq8_v3 : v3 8 = (v 8) := hk8_v3
    have hq9_v3 : v3 9 = (v 9) := hk9_v3
    have hq10_v3 : v3 10 = (v 10) := hk10_v3
    have hq31_v3 : v3 31 = (v 31) := hk31_v3
    have hq32_v3 : v3 32 = (v 32) := hk32_v3
    refine lv_aload_n hx hb dX6_manLine_24 rfl (lv_at hl 0 rfl) ?_
    refine lv_aload_n hx hb dX6_manLine_25 rfl (lv_at hl 0 rfl) ?_
    refine va_get (D := (dC, dI)) (ci := 6) (v := .ref (x 11)) (C := RX6) (T := TX6) (N := 7) hx hb hts inB_6 hown hE.1 hP 3 rfl rfl 2 (by decide) (hts _ k_268) (fun _ h9 => h9) rfl dX6_manLine_26 ?_
    refine lv_aload_n hx hb dX6_manLine_29 rfl (lv_at hl 0 rfl) ?_
    refine va_get (D := (dC, dI)) (ci := 6) (v := .ref (x 3)) (C := RX6) (T := TX6) (N := 7) hx hb hts inB_6 hown hE.1 hP 3 rfl rfl 1 (by decide) (hts _ k_266) (fun _ h9 => h9) rfl dX6_manLine_30 ?_
    refine va_getN (D := (dC, dI)) (ci := 7) (v := .int (v3 9)) (C := RX7) (T := TX7) (N := 10) hx hb hts inB_7 hown hE.1 hP 4 rfl rfl 3 (by decide) (va_Nw.use rfl (hE.2 _ k_218)) (fun _ h9 => h9) rfl dX6_manLine_33 ?_
    refine tI (y := (v 9)) hq9_v3 ?_
    have b9_v : 0 ≤ (v 9).toInt ∧ (v 9).toInt ≤ 6 := XI.b hIv 9 (by decide)
    refine csVi (n := 2) (rest := []) hx hb hml hown hts hE hP hD hS hA hF hT (sX_X6_name_1 NF l dC dI cy x0 x (v 9) v3 f4 hIv3 ) k_700 k_702 k_8 k_103 k_703 (by decide +kernel) ⟨Nat.le_of_ble_eq_true rfl, Nat.le_of_ble_eq_true rfl⟩ 3 6 rfl rfl (rfl) hl.1 rfl (Nat.le_of_ble_eq_true rfl) dX6_manLine_36 (fun r5 u H locs hw hP hD hS => ?_)
    obtain ⟨hG6, hw⟩ := hw
    obtain ⟨v7, f8⟩ := u
    obtain ⟨kV_v7, kF_f8, hIv7, hk0_v7, hk1_v7, hk9_v7, hk10_v7, hk31_v7, hk32_v7, hw⟩ := hw
    have hM_v7 : KV [2, 3, 4, 5, 7, 8, 9] v7 v := KV.tr kV_v7 hM_v3 rfl
    have hA_f8 : KF [1, 7] f8 f := KF.tr kF_f8 hA_f4 rfl
    have hP : va_P (dC, dI) vwCl (XW cy x0 x v7 f8) H := hP
    have hD : va_D A (XW cy x0 x v7 f8) := hD
    have hq0_v7 : v7 0 = (v 0) := hk0_v7.trans hq0_v3
    have hq1_v7 : v7 1 = (v 1) := hk1_v7.trans hq1_v3
    have hq9_v7 : v7 9 = (v 9) := hk9_v7.trans hq9_v3
    have hq10_v7 : v7 10 = (v 10) := hk10_v7.trans hq10_v3
    have hq31_v7 : v7 31 = (v 31) := hk31_v7.trans hq31_v3
    have hq32_v7 : v7 32 = (v 32) := hk32_v7.trans hq32_v3
    rcases hw with ⟨g9⟩ | ⟨g9⟩
    · skip
      subst g9
      refine lv_if_ne (tgt := 44) hx hb dX6_manLine_39 (by decide) (fun _ => ?_) (fun c0 => absurd c0 (by decide))
      refine lv_aload_n hx hb dX6_manLine_44 rfl (lv_at hl 0 rfl) ?_
      refine lv_bipush (v := 109) hx hb dX6_manLine_45 (by decide) ?_
      refine lv_bipush (v := 99) hx hb dX6_manLine_47 (by decide) ?_
      refine csVi (n := 2) (rest := []) hx hb hml hown hts hE hP hD hS hA hF hT (sX_X6_labelled_1 NF l dC dI cy x0 x 109 99 v7 f8 hIv7 ) k_708 k_710 k_9 k_103 k_711 (by decide +kernel) ⟨Nat.le_of_ble_eq_true rfl, Nat.le_of_ble_eq_true rfl⟩ 3 6 rfl rfl (rfl) hl.1 rfl (Nat.le_of_ble_eq_true rfl) dX6_manLine_49 (fun r10 u H locs hw hP hD hS => ?_)
      obtain ⟨hG11, hw⟩ := hw
      obtain ⟨v12, f13⟩ := u
      obtain ⟨kV_v12, kF_f13, hIv12, hk0_v12, hk1_v12, hk9_v12, hk10_v12, hk31_v12, hk32_v12⟩ := hw
      have hM_v12 : KV [2, 3, 4, 5, 7, 8, 9] v12 v := KV.tr kV_v12 hM_v7 rfl
      have hA_f13 : KF [1, 7] f13 f := KF.tr kF_f13 hA_f8 rfl
      have hP : va_P (dC, dI) vwCl (XW cy x0 x v12 f13) H := hP
      have hD : va_D A (XW cy x0 x v12 f13) := hD
      have hq0_v12 : v12 0 = (v 0) := hk0_v12.trans hq0_v7
      have hq1_v12 : v12 1 = (v 1) := hk1_v12.trans hq1_v7
      have hq9_v12 : v12 9 = (v 9) := hk9_v12.trans hq9_v7
      have hq10_v12 : v12 10 = (v 10) := hk10_v12.trans hq10_v7
      have hq31_v12 : v12 31 = (v 31) := hk31_v12.trans hq31_v7
      have hq32_v12 : v12 32 = (v 32) := hk32_v12.trans hq32_v7
      refine lv_istore_n (lv' := [(1, .int r10), (0, .ref (x 2))]) hx hb dX6_manLine_52 rfl hl (by decide) rfl (fun ls hl => ?_)
      refine lv_iload_n hx hb dX6_manLine_53 rfl (lv_at hl 0 rfl) ?_
      refine lv_if_ge (tgt := 61) hx hb dX6_manLine_54 (by decide) (fun c14 => ?_) (fun c14 => ?_)
      · skip
        have zc14 : 0 ≤ r10.toInt := by rw [fa_le, show (0 : Int32).toInt = 0 from by decide] at c14; exact c14
        refine lv_aload_n hx hb dX6_manLine_61 rfl (lv_at hl 1 rfl) ?_
        refine lv_bipush (v := 110) hx hb dX6_manLine_62 (by decide) ?_
        refine lv_bipush (v := 99) hx hb dX6_manLine_64 (by decide) ?_
        refine csVi (n := 2) (rest := []) hx hb hml hown hts hE hP hD hS hA hF hT (sX_X6_labelled_1 NF l dC dI cy x0 x 110 99 v12 f13 hIv12 ) k_708 k_710 k_9 k_103 k_711 (by decide +kernel) ⟨Nat.le_of_ble_eq_true rfl, Nat.le_of_ble_eq_true rfl⟩ 3 6 rfl rfl (rfl) hl.1 rfl (Nat.le_of_ble_eq_true rfl) dX6_manLine_66 (fun r15 u H locs hw hP hD hS => ?_)
        obtain ⟨hG16, hw⟩ := hw
        obtain ⟨v17, f18⟩ := u
        obtain ⟨kV_v17, kF_f18, hIv17, hk0_v17, hk1_v17, hk9_v17, hk10_v17, hk31_v17, hk32_v17⟩ := hw
        have hM_v17 : KV [2, 3, 4, 5, 7, 8, 9] v17 v := KV.tr kV_v17 hM_v12 rfl
        have hA_f18 : KF [1, 7] f18 f := KF.tr kF_f18 hA_f13 rfl
        have hP : va_P (dC, dI) vwCl (XW cy x0 x v17 f18) H := hP
        have hD : va_D A (XW cy x0 x v17 f18) := hD
        have hq0_v17 : v17 0 = (v 0) := hk0_v17.trans hq0_v12
        have hq1_v17 : v17 1 = (v 1) := hk1_v17.trans hq1_v12
        have hq9_v17 : v17 9 = (v 9) := hk9_v17.trans hq9_v12
        have hq10_v17 : v17 10 = (v 10) := hk10_v17.trans hq10_v12
        have hq31_v17 : v17 31 = (v 31) := hk31_v17.trans hq31_v12
        have hq32_v17 : v17 32 = (v 32) := hk32_v17.trans hq32_v12
        refine lv_istore_n (lv' := [(2, .int r15), (1, .int r10), (0, .ref (x 2))]) hx hb dX6_manLine_69 rfl hl (by decide) rfl (fun ls hl => ?_)
        refine lv_iload_n hx hb dX6_manLine_70 rfl (lv_at hl 0 rfl) ?_
        refine lv_if_ge (tgt := 78) hx hb dX6_manLine_71 (by decide) (fun c19 => ?_) (fun c19 => ?_)
        · skip
          have zc19 : 0 ≤ r15.toInt := by rw [fa_le, show (0 : Int32).toInt = 0 from by decide] at c19; exact c19
          refine lv_aload_n hx hb dX6_manLine_78 rfl (lv_at hl 2 rfl) ?_
          refine va_get (D := (dC, dI)) (ci := 6) (v := .ref (x 0)) (C := RX6) (T := TX6) (N := 7) hx hb hts inB_6 hown hE.1 hP 3 rfl rfl 0 (by decide) (hts _ k_265) (fun _ h9 => h9) rfl dX6_manLine_79 ?_
          refine va_getN (D := (dC, dI)) (ci := 9) (v := .int (v17 2)) (C := RX9) (T := TX9) (N := 6) hx hb hts inB_9 hown hE.1 hP 1 rfl rfl 2 (by decide) (va_Nw.use rfl (hE.2 _ k_139)) (fun _ h9 => h9) rfl dX6_manLine_82 ?_
          refine lv_bipush (v := 111) hx hb dX6_manLine_85 (by decide) ?_
          refine lv_icmp_ne (tgt := 101) hx hb dX6_manLine_87 (by decide) (fun c20 => ?_) (fun c20 => ?_)
          · skip
            have zc20 : ¬ ((v17 2).toInt = 111) := by rw [fa_eq, show (111 : Int32).toInt = 111 from by decide] at c20; exact c20
            refine lv_iconst (v := 0) hx hb dX6_manLine_101 (by decide) ?_
            refine lv_istore_n (lv' := [(3, .int 0), (2, .int r15), (1, .int r10), (0, .ref (x 2))]) hx hb dX6_manLine_102 rfl hl (by decide) rfl (fun ls hl => ?_)
            refine lv_iload_n hx hb dX6_manLine_103 rfl (lv_at hl 0 rfl) ?_
            refine lv_if_ge (tgt := 109) hx hb dX6_manLine_104 (by decide) (fun _ => ?_) (fun c0 => absurd (by decide) c0)
            refine lv_aload_n hx hb dX6_manLine_109 rfl (lv_at hl 3 rfl) ?_
            refine va_get (D := (dC, dI)) (ci := 6) (v := .ref (x 3)) (C := RX6) (T := TX6) (N := 7) hx hb hts inB_6 hown hE.1 hP 3 rfl rfl 1 (by decide) (hts _ k_266) (fun _ h9 => h9) rfl dX6_manLine_110 ?_
            refine lv_iload_n hx hb dX6_manLine_113 rfl (lv_at hl 2 rfl) ?_
            refine lv_iload_n hx hb dX6_manLine_114 rfl (lv_at hl 1 rfl) ?_
            refine lv_iload_n hx hb dX6_manLine_115 rfl (lv_at hl 0 rfl) ?_
            refine cbVv (n := 3) (rest := []) hx hb hml hown hts hE hP hD hS hA (sX_X7_addMan_1 NF l dC dI cy x0 x r10 r15 0 v17 f18 hIv17 ) k_716 k_717 k_718 k_104 k_719 (by decide +kernel) ⟨Nat.le_of_ble_eq_true rfl, Nat.le_of_ble_eq_true rfl⟩ 4 7 rfl rfl (rfl) hl.1 rfl (Nat.le_of_ble_eq_true rfl) dX6_manLine_116 (fun u H locs hw hP hD hS => ?_)
            obtain ⟨hG21, hw⟩ := hw
            obtain ⟨v22, f23⟩ := u
            obtain ⟨kV_v22, kF_f23, hIv22, hk0_v22, hk1_v22, hk7_v22, hk8_v22, hk10_v22, hk32_v22⟩ := hw
            have hM_v22 : KV [2, 3, 4, 5, 7, 8, 9] v22 v := KV.tr kV_v22 hM_v17 rfl
            have hA_f23 : KF [1, 7] f23 f := KF.tr kF_f23 hA_f18 rfl
            have hP : va_P (dC, dI) vwCl (XW cy x0 x v22 f23) H := hP
            have hD : va_D A (XW cy x0 x v22 f23) := hD
            have hq0_v22 : v22 0 = (v 0) := hk0_v22.trans hq0_v17
            have hq1_v22 : v22 1 = (v 1) := hk1_v22.trans hq1_v17
            have hq7_v22 : v22 7 = (v17 7) := hk7_v22
            have hq8_v22 : v22 8 = (v17 8) := hk8_v22
            have hq10_v22 : v22 10 = (v 10) := hk10_v22.trans hq10_v17
            have hq32_v22 : v22 32 = (v 32) := hk32_v22.trans hq32_v17
            refine lv_iconst (v := 1) hx hb dX6_manLine_119 (by decide) ?_
            exact ret 1 (v22, f23) _ _ _ _ _ _ rfl ⟨(gsX_X6_manLine_1_q0 c1 hG2 hG6 hG11 c14 hG16 c19 c20 hG21), hM_v22, hA_f23, hIv22, (hk0_v22.trans (hk0_v17.trans (hk0_v12.trans (hk0_v7.trans hk0_v3)))), (hk1_v22.trans (hk1_v17.trans (hk1_v12.trans (hk1_v7.trans hk1_v3)))), (hk10_v22.trans (hk10_v17.trans (hk10_v12.trans (hk10_v7.trans hk10_v3)))), (hk32_v22.trans (hk32_v17.trans (hk32_v12.trans (hk32_v7.trans hk32_v3)))), (Or.inl rfl)⟩ hP hD hS dX6_manLine_120 (Nat.le_refl _) (Nat.le_refl _)
          · skip
            have zc20 : (v17 2).toInt = 111 := by rw [fa_eq, show (111 : Int32).toInt = 111 from by decide] at c20; exact c20
            refine lv_aload_n hx hb dX6_manLine_90 rfl (lv_at hl 2 rfl) ?_
            refine lv_bipush (v := 111) hx hb dX6_manLine_91 (by decide) ?_
            refine lv_bipush (v := 9) hx hb dX6_manLine_93 (by decide) ?_
            refine csVi (n := 2) (rest := []) hx hb hml hown hts hE hP hD hS hA hF hT (sX_X6_labelled_1 NF l dC dI cy x0 x 111 9 v17 f18 hIv17 ) k_708 k_710 k_9 k_103 k_711 (by decide +kernel) ⟨Nat.le_of_ble_eq_true rfl, Nat.le_of_ble_eq_true rfl⟩ 3 6 rfl rfl (rfl) hl.1 rfl (Nat.le_of_ble_eq_true rfl) dX6_manLine_95 (fun r24 u H locs hw hP hD hS => ?_)
            obtain ⟨hG25, hw⟩ := hw
            obtain ⟨v26, f27⟩ := u
            obtain ⟨kV_v26, kF_f27, hIv26, hk0_v26, hk1_v26, hk9_v26, hk10_v26, hk31_v26, hk32_v26⟩ := hw
            have hM_v26 : KV [2, 3, 4, 5, 7, 8, 9] v26 v := KV.tr kV_v26 hM_v17 rfl
            have hA_f27 : KF [1, 7] f27 f := KF.tr kF_f27 hA_f18 rfl
            have hP : va_P (dC, dI) vwCl (XW cy x0 x v26 f27) H := hP
            have hD : va_D A (XW cy x0 x v26 f27) := hD
            have hq0_v26 : v26 0 = (v 0) := hk0_v26.trans hq0_v17
            have hq1_v26 : v26 1 = (v 1) := hk1_v26.trans hq1_v17
            have hq9_v26 : v26 9 = (v 9) := hk9_v26.trans hq9_v17
            have hq10_v26 : v26 10 = (v 10) := hk10_v26.trans hq10_v17
            have hq31_v26 : v26 31 = (v 31) := hk31_v26.trans hq31_v17
            have hq32_v26 : v26 32 = (v 32) := hk32_v26.trans hq32_v17
            refine lv_goto (tgt := 102) hx hb dX6_manLine_98 (by decide) ?_
            refine lv_istore_n (lv' := [(3, .int r24), (2, .int r15), (1, .int r10), (0, .ref (x 2))]) hx hb dX6_manLine_102 rfl hl (by decide) rfl (fun ls hl => ?_)
            refine lv_iload_n hx hb dX6_manLine_103 rfl (lv_at hl 0 rfl) ?_
            refine lv_if_ge (tgt := 109) hx hb dX6_manLine_104 (by decide) (fun c28 => ?_) (fun c28 => ?_)
            · skip
              have zc28 : 0 ≤ r24.toInt := by rw [fa_le, show (0 : Int32).toInt = 0 from by decide] at c28; exact c28
              refine lv_aload_n hx hb dX6_manLine_109 rfl (lv_at hl 3 rfl) ?_
              refine va_get (D := (dC, dI)) (ci := 6) (v := .ref (x 3)) (C := RX6) (T := TX6) (N := 7) hx hb hts inB_6 hown hE.1 hP 3 rfl rfl 1 (by decide) (hts _ k_266) (fun _ h9 => h9) rfl dX6_manLine_110 ?_
              refine lv_iload_n hx hb dX6_manLine_113 rfl (lv_at hl 2 rfl) ?_
              refine lv_iload_n hx hb dX6_manLine_114 rfl (lv_at hl 1 rfl) ?_
              refine lv_iload_n hx hb dX6_manLine_115 rfl (lv_at hl 0 rfl) ?_
              refine cbVv (n := 3) (rest := []) hx hb hml hown hts hE hP hD hS hA (sX_X7_addMan_1 NF l dC dI cy x0 x r10 r15 r24 v26 f27 hIv26 ) k_716 k_717 k_718 k_104 k_719 (by decide +kernel) ⟨Nat.le_of_ble_eq_true rfl, Nat.le_of_ble_eq_true rfl⟩ 4 7 rfl rfl (rfl) hl.1 rfl (Nat.le_of_ble_eq_true rfl) dX6_manLine_116 (fun u H locs hw hP hD hS => ?_)
              obtain ⟨hG29, hw⟩ := hw
              obtain ⟨v30, f31⟩ := u
              obtain ⟨kV_v30, kF_f31, hIv30, hk0_v30, hk1_v30, hk7_v30, hk8_v30, hk10_v30, hk32_v30⟩ := hw
              have hM_v30 : KV [2, 3, 4, 5, 7, 8, 9] v30 v := KV.tr kV_v30 hM_v26 rfl
              have hA_f31 : KF [1, 7] f31 f := KF.tr kF_f31 hA_f27 rfl
              have hP : va_P (dC, dI) vwCl (XW cy x0 x v30 f31) H := hP
              have hD : va_D A (XW cy x0 x v30 f31) := hD
              have hq0_v30 : v30 0 = (v 0) := hk0_v30.trans hq0_v26
              have hq1_v30 : v30 1 = (v 1) := hk1_v30.trans hq1_v26
              have hq7_v30 : v30 7 = (v26 7) := hk7_v30
              have hq8_v30 : v30 8 = (v26 8) := hk8_v30
              have hq10_v30 : v30 10 = (v 10) := hk10_v30.trans hq10_v26
              have hq32_v30 : v30 32 = (v 32) := hk32_v30.trans hq32_v26
              refine lv_iconst (v := 1) hx hb dX6_manLine_119 (by decide) ?_
              exact ret 1 (v30, f31) _ _ _ _ _ _ rfl ⟨(gsX_X6_manLine_1_q1 c1 hG2 hG6 hG11 c14 hG16 c19 c20 hG25 c28 hG29), hM_v30, hA_f31, hIv30, (hk0_v30.trans (hk0_v26.trans (hk0_v17.trans (hk0_v12.trans (hk0_v7.trans hk0_v3))))), (hk1_v30.trans (hk1_v26.trans (hk1_v17.trans (hk1_v12.trans (hk1_v7.trans hk1_v3))))), (hk10_v30.trans (hk10_v26.trans (hk10_v17.trans (hk10_v12.trans (hk10_v7.trans hk10_v3))))), (hk32_v30.trans (hk32_v26.trans (hk32_v17.trans (hk32_v12.trans (hk32_v7.trans hk32_v3))))), (Or.inl rfl)⟩ hP hD hS dX6_manLine_120 (Nat.le_refl _) (Nat.le_refl _)
            · skip
              have zc28 : ¬ (0 ≤ r24.toInt) := by rw [fa_le, show (0 : Int32).toInt = 0 from by decide] at c28; exact c28
              refine lv_iconst (v := 0) hx hb dX6_manLine_107 (by decide) ?_
              exact ret 0 (v26, f27) _ _ _ _ _ _ rfl ⟨(gsX_X6_manLine_1_q2 c1 hG2 hG6 hG11 c14 hG16 c19 c20 hG25 c28), hM_v26, hA_f27, hIv26, (hk0_v26.trans (hk0_v17.trans (hk0_v12.trans (hk0_v7.trans hk0_v3)))), (hk1_v26.trans (hk1_v17.trans (hk1_v12.trans (hk1_v7.trans hk1_v3)))), (hk10_v26.trans (hk10_v17.trans (hk10_v12.trans (hk10_v7.trans hk10_v3)))), (hk32_v26.trans (hk32_v17.trans (hk32_v12.trans (hk32_v7.trans hk32_v3)))), (Or.inr rfl)⟩ hP hD hS dX6_manLine_108 (Nat.le_refl _) (Nat.le_refl _)
        · skip
          have zc19 : ¬ (0 ≤ r15.toInt) := by rw [fa_le, show (0 : Int32).toInt = 0 from by decide] at c19; exact c19
          refine lv_iconst (v := (-1)) hx hb dX6_manLine_74 (by decide) ?_
          refine lv_goto (tgt := 102) hx hb dX6_manLine_75 (by decide) ?_
          refine lv_istore_n (lv' := [(3, .int (-1)), (2, .int r15), (1, .int r10), (0, .ref (x 2))]) hx hb dX6_manLine_102 rfl hl (by decide) rfl (fun ls hl => ?_)
          refine lv_iload_n hx hb dX6_manLine_103 rfl (lv_at hl 0 rfl) ?_
          refine lv_if_ge (tgt := 109) hx hb dX6_manLine_104 (by decide) (fun c0 => absurd c0 (by decide)) (fun _ => ?_)
          refine lv_iconst (v := 0) hx hb dX6_manLine_107 (by decide) ?_
          exact ret 0 (v17, f18) _ _ _ _ _ _ rfl ⟨(gsX_X6_manLine_1_q3 c1 hG2 hG6 hG11 c14 hG16 c19), hM_v17, hA_f18, hIv17, (hk0_v17.trans (hk0_v12.trans (hk0_v7.trans hk0_v3))), (hk1_v17.trans (hk1_v12.trans (hk1_v7.trans hk1_v3))), (hk10_v17.trans (hk10_v12.trans (hk10_v7.trans hk10_v3))), (hk32_v17.trans (hk32_v12.trans (hk32_v7.trans hk32_v3))), (Or.inr rfl)⟩ hP hD hS dX6_manLine_108 (Nat.le_refl _) (Nat.le_refl _)
      · skip
        have zc14 : ¬ (0 ≤ r10.toInt) := by rw [fa_le, show (0 : Int32).toInt = 0 from by decide] at c14; exact c14
        refine lv_iconst (v := (-1)) hx hb dX6_manLine_57 (by decide) ?_
        refine lv_goto (tgt := 69) hx hb dX6_manLine_58 (by decide) ?_
        refine lv_istore_n (lv' := [(2, .int (-1)), (1, .int r10), (0, .ref (x 2))]) hx hb dX6_manLine_69 rfl hl (by decide) rfl (fun ls hl => ?_)
        refine lv_iload_n hx hb dX6_manLine_70 rfl (lv_at hl 0 rfl) ?_
        refine lv_if_ge (tgt := 78) hx hb dX6_manLine_71 (by decide) (fun c0 => absurd c0 (by decide)) (fun _ => ?_)
        refine lv_iconst (v := (-1)) hx hb dX6_manLine_74 (by decide) ?_
        refine lv_goto (tgt := 102) hx hb dX6_manLine_75 (by decide) ?_
        refine lv_istore_n (lv' := [(3, .int (-1)), (2, .int (-1)), (1, .int r10), (0, .ref (x 2))]) hx hb dX6_manLine_102 rfl hl (by decide) rfl (fun ls hl => ?_)
        refine lv_iload_n hx hb dX6_manLine_103 rfl (lv_at hl 0 rfl) ?_
        refine lv_if_ge (tgt := 109) hx hb dX6_manLine_104 (by decide) (fun c0 => absurd c0 (by decide)) (fun _ => ?_)
        refine lv_iconst (v := 0) hx hb dX6_manLine_107 (by decide) ?_
        exact ret 0 (v12, f13) _ _ _ _ _ _ rfl ⟨(gsX_X6_manLine_1_q4 c1 hG2 hG6 hG11 c14), hM_v12, hA_f13, hIv12, (hk0_v12.trans (hk0_v7.trans hk0_v3)), (hk1_v12.trans (hk1_v7.trans hk1_v3)), (hk10_v12.trans (hk10_v7.trans hk10_v3)), (hk32_v12.trans (hk32_v7.trans hk32_v3)), (Or.inr rfl)⟩ hP hD hS dX6_manLine_108 (Nat.le_refl _) (Nat.le_refl _)
    · skip
      subst g9
      refine lv_if_ne (tgt := 44) hx hb dX6_manLine_39 (by decide) (fun c0 => absurd (by decide) c0) (fun _ => ?_)
      refine lv_iconst (v := 0) hx hb dX6_manLine_42 (by decide) ?_
      exact ret 0 (v7, f8) _ _ _ _ _ _ rfl ⟨(gsX_X6_manLine_1_q5 c1 hG2 hG6), hM_v7, hA_f8, hIv7, (hk0_v7.trans hk0_v3), (hk1_v7.trans hk1_v3), (hk10_v7.trans hk10_v3), (hk32_v7.trans hk32_v3), (Or.inr rfl)⟩ hP hD hS dX6_manLine_43 (Nat.le_refl _) (Nat.le_refl _)
  · skip
    have zc1 : ¬ ((v 9).toInt < 6) := by rw [fa_lt, show (6 : Int32).toInt = 6 from by decide] at c1; exact c1
    refine lv_aload_n hx hb dX6_manLine_12 rfl (lv_at hl 0 rfl) ?_
    refine cbVi (n := 0) (rest := []) hx hb hml hown hts hE hP hD hS hA (sX_X6_refuse_1 NF l dC dI cy x0 x  v f hIv ) k_691 k_693 k_6 k_103 k_694 (by decide +kernel) ⟨Nat.le_of_ble_eq_true rfl, Nat.le_of_ble_eq_true rfl⟩ 3 6 rfl rfl (rfl) hl.1 rfl (Nat.le_of_ble_eq_true rfl) dX6_manLine_13 (fun r32 u H locs hw hP hD hS => ?_)
    obtain ⟨hG33, hw⟩ := hw
    obtain ⟨v34, f35⟩ := u
    obtain ⟨kV_v34, kF_f35, hIv34, hk0_v34, hk1_v34, hk9_v34, hk10_v34, hk31_v34, hk32_v34, hw⟩ := hw
    have hM_v34 : KV [2, 3, 4, 5, 7, 8, 9] v34 v := KV.tr kV_v34 hM_v rfl
    have hA_f35 : KF [1, 7] f35 f := KF.tr kF_f35 hA_f rfl
    have hP : va_P (dC, dI) vwCl (XW cy x0 x v34 f35) H := hP
    have hD : va_D A (XW cy x0 x v34 f35) := hD
    have hq0_v34 : v34 0 = (v 0) := hk0_v34
    have hq1_v34 : v34 1 = (v 1) := hk1_v34
    have hq9_v34 : v34 9 = (v 9) := hk9_v34
    have hq10_v34 : v34 10 = (v 10) := hk10_v34
    have hq31_v34 : v34 31 = (v 31) := hk31_v34
    have hq32_v34 : v34 32 = (v 32) := hk32_v34
    rcases hw with ⟨g36⟩ | ⟨g36⟩
    · skip
      subst g36
      exact ret 1 (v34, f35) _ _ _ _ _ _ rfl ⟨(gsX_X6_manLine_1_q6 c1 hG33), hM_v34, hA_f35, hIv34, hk0_v34, hk1_v34, hk10_v34, hk32_v34, (Or.inl rfl)⟩ hP hD hS dX6_manLine_16 (Nat.le_refl _) (Nat.le_refl _)
    · skip
      subst g36
      exact ret 0 (v34, f35) _ _ _ _ _ _ rfl ⟨(gsX_X6_manLine_1_q7 c1 hG33), hM_v34, hA_f35, hIv34, hk0_v34, hk1_v34, hk10_v34, hk32_v34, (Or.inr rfl)⟩ hP hD hS dX6_manLine_16 (Nat.le_refl _) (Nat.le_refl _)
set_option maxHeartbeats 4000000 in
set_option maxRecDepth 100000 in
theorem sX_X6_taken_1 (NF : Nat) (l : Launch) (dC : Nat → ClassId) (dI : Nat → Nat → Nat) (cy : Nat → ClassId) (x0 : Nat) (x : Nat → Nat) (p1 : Int32) (v : Nat → Int32) (f : Nat → Nat → Int32) (hIv : XI v)  : ctIS l (dC, dI) cy yX6_taken cX6_taken 2 .boolean 7 191 0 0 ((Nat → Int32) × (Nat → Nat → Int32)) [.ref (x 2), .int p1] (XW cy x0 x v f) (fun r u => gsX_X6_taken_1 NF p1 v f = (r, u) ∧ KV [2, 3, 4, 5, 7, 8] u.1 v ∧ KF [] u.2 f ∧ XI u.1 ∧ u.1 0 = v 0 ∧ u.1 1 = v 1 ∧ u.1 9 = v 9 ∧ u.1 10 = v 10 ∧ u.1 31 = v 31 ∧ u.1 32 = v 32 ∧ ((r = 1) ∨ (r = 0))) (fun u => XW cy x0 x u.1 u.2) := by
  refine ctIS_of (by decide) (Nat.le_of_ble_eq_true rfl) (fun p e s m below meth c A ls Q hx hb hml hts hown hE hF hT hP hD hA hl ret => ?_)
  have hM_v : KV [2, 3, 4, 5, 7, 8] v v := fun _ _ => rfl
  have hA_f : KF [] f f := fun _ _ => rfl
  have hown : s.vm.findClass RX6 = some m.cls := hown
  have hS : va_S A s.heap s.heap [] := va_S.rf
  have hl : lv_has ls 2 [(0, .ref (x 2)), (1, .int p1)] := hl
  refine lv_aload_n hx hb dX6_taken_0 rfl (lv_at hl 0 rfl) ?_
  refine va_get (D := (dC, dI)) (ci := 6) (v := .ref (x 0)) (C := RX6) (T := TX6) (N := 7) hx hb hts inB_6 hown hE.1 hP 3 rfl rfl 0 (by decide) (hts _ k_265) (fun _ h9 => h9) rfl dX6_taken_1 ?_
  refine va_getN (D := (dC, dI)) (ci := 9) (v := .int (v 2)) (C := RX9) (T := TX9) (N := 6) hx hb hts inB_9 hown hE.1 hP 1 rfl rfl 2 (by decide) (va_Nw.use rfl (hE.2 _ k_139)) (fun _ h9 => h9) rfl dX6_taken_4 ?_
  refine lv_iload_n hx hb dX6_taken_7 rfl (lv_at hl 1 rfl) ?_
  refine lv_icmp_eq (tgt := 16) hx hb dX6_taken_8 (by decide) (fun c1 => ?_) (fun c1 => ?_)
  · skip
    have zc1 : (v 2).toInt = p1.toInt := by rw [fa_eq] at c1; exact c1
    have rg2 := fb_rng (v 2)
    have rg3 := fb_rng p1
    refine lv_aload_n hx hb dX6_taken_16 rfl (lv_at hl 0 rfl) ?_
    refine va_get (D := (dC, dI)) (ci := 6) (v := .ref (x 0)) (C := RX6) (T := TX6) (N := 7) hx hb hts inB_6 hown hE.1 hP 3 rfl rfl 0 (by decide) (hts _ k_265) (fun _ h9 => h9) rfl dX6_taken_17 ?_
    refine csVv (n := 0) (rest := []) hx hb hml hown hts hE hP hD hS hA hF hT (sX_X9_advance_1 NF l dC dI cy x0 x  v f hIv ) k_699 k_559 k_560 k_102 k_561 (by decide +kernel) ⟨Nat.le_of_ble_eq_true rfl, Nat.le_of_ble_eq_true rfl⟩ 1 9 rfl rfl (rfl) hl.1 rfl (Nat.le_of_ble_eq_true rfl) dX6_taken_20 (fun u H locs hw hP hD hS => ?_)
    obtain ⟨hG4, hw⟩ := hw
    obtain ⟨v5, f6⟩ := u
    obtain ⟨kV_v5, kF_f6, hIv5, hk0_v5, hk1_v5, hk7_v5, hk8_v5, hk9_v5, hk10_v5, hk31_v5, hk32_v5⟩ := hw
    have hM_v5 : KV [2, 3, 4, 5, 7, 8] v5 v := KV.tr kV_v5 hM_v rfl
    have hA_f6 : KF [] f6 f := KF.tr kF_f6 hA_f rfl
    have hP : va_P (dC, dI) vwCl (XW cy x0 x v5 f6) H := hP
    have hD : va_D A (XW cy x0 x v5 f6) := hD
    have hq0_v5 : v5 0 = (v 0) := hk0_v5
    have hq1_v5 : v5 1 = (v 1) := hk1_v5
    have hq7_v5 : v5 7 = (v 7) := hk7_v5
    have hq8_v5 : v5 8 = (v 8) := hk8_v5
    have hq9_v5 : v5 9 = (v 9) := hk9_v5
    have hq10_v5 : v5 10 = (v 10) := hk10_v5
    have hq31_v5 : v5 31 = (v 31) := hk31_v5
    have hq32_v5 : v5 32 = (v 32) := hk32_v5
    refine lv_iconst (v := 1) hx hb dX6_taken_23 (by decide) ?_
    exact ret 1 (v5, f6) _ _ _ _ _ _ rfl ⟨(gsX_X6_taken_1_q0 c1 hG4), hM_v5, hA_f6, hIv5, hk0_v5, hk1_v5, hk9_v5, hk10_v5, hk31_v5, hk32_v5, (Or.inl rfl)⟩ hP hD hS dX6_taken_24 (Nat.le_refl _) (Nat.le_refl _)
  · skip
    have zc1 : ¬ ((v 2).toInt = p1.toInt) := by rw [fa_eq] at c1; exact c1
    have rg7 := fb_rng (v 2)
    have rg8 := fb_rng p1
    refine lv_aload_n hx hb dX6_taken_11 rfl (lv_at hl 0 rfl) ?_
    refine cbVi (n := 0) (rest := []) hx hb hml hown hts hE hP hD hS hA (sX_X6_refuse_1 NF l dC dI cy x0 x  v f hIv ) k_691 k_693 k_6 k_103 k_694 (by decide +kernel) ⟨Nat.le_of_ble_eq_true rfl, Nat.le_of_ble_eq_true rfl⟩ 3 6 rfl rfl (rfl) hl.1 rfl (Nat.le_of_ble_eq_true rfl) dX6_taken_12 (fun r9 u H locs hw hP hD hS => ?_)
    obtain ⟨hG10, hw⟩ := hw
    obtain ⟨v11, f12⟩ := u
    obtain ⟨kV_v11, kF_f12, hIv11, hk0_v11, hk1_v11, hk9_v11, hk10_v11, hk31_v11, hk32_v11, hw⟩ := hw
    have hM_v11 : KV [2, 3, 4, 5, 7, 8] v11 v := KV.tr kV_v11 hM_v rfl
    have hA_f12 : KF [] f12 f := KF.tr kF_f12 hA_f rfl
    have hP : va_P (dC, dI) vwCl (XW cy x0 x v11 f12) H := hP
    have hD : va_D A (XW cy x0 x v11 f12) := hD
    have hq0_v11 : v11 0 = (v 0) := hk0_v11
    have hq1_v11 : v11 1 = (v 1) := hk1_v11
    have hq9_v11 : v11 9 = (v 9) := hk9_v11
    have hq10_v11 : v11 10 = (v 10) := hk10_v11
    have hq31_v11 : v11 31 = (v 31) := hk31_v11
    have hq32_v11 : v11 32 = (v 32) := hk32_v11
    rcases hw with ⟨g13⟩ | ⟨g13⟩
    · skip
      subst g13
      exact ret 1 (v11, f12) _ _ _ _ _ _ rfl ⟨(gsX_X6_taken_1_q1 c1 hG10), hM_v11, hA_f12, hIv11, hk0_v11, hk1_v11, hk9_v11, hk10_v11, hk31_v11, hk32_v11, (Or.inl rfl)⟩ hP hD hS dX6_taken_15 (Nat.le_refl _) (Nat.le_refl _)
    · skip
      subst g13
      exact ret 0 (v11, f12) _ _ _ _ _ _ rfl ⟨(gsX_X6_taken_1_q2 c1 hG10), hM_v11, hA_f12, hIv11, hk0_v11, hk1_v11, hk9_v11, hk10_v11, hk31_v11, hk32_v11, (Or.inr rfl)⟩ hP hD hS dX6_taken_15 (Nat.le_refl _) (Nat.le_refl _)
set_option maxHeartbeats 4000000 in
set_option maxRecDepth 100000 in
theorem sX_X6_closing_1 (NF : Nat) (l : Launch) (dC : Nat → ClassId) (dI : Nat → Nat → Nat) (cy : Nat → ClassId) (x0 : Nat) (x : Nat → Nat)  (v : Nat → Int32) (f : Nat → Nat → Int32) (hIv : XI v)  : ctIS l (dC, dI) cy yX6_closing cX6_closing 1 .boolean 8 212 0 0 ((Nat → Int32) × (Nat → Nat → Int32)) [.ref (x 2)] (XW cy x0 x v f) (fun r u => gsX_X6_closing_1 NF v f = (r, u) ∧ KV [2, 3, 4, 5, 7, 8] u.1 v ∧ KF [] u.2 f ∧ XI u.1 ∧ u.1 0 = v 0 ∧ u.1 1 = v 1 ∧ u.1 9 = v 9 ∧ u.1 10 = v 10 ∧ u.1 31 = v 31 ∧ u.1 32 = v 32 ∧ ((r = 1) ∨ (r = 0))) (fun u => XW cy x0 x u.1 u.2) := by
  refine ctIS_of (by decide) (Nat.le_of_ble_eq_true rfl) (fun p e s m below meth c A ls Q hx hb hml hts hown hE hF hT hP hD hA hl ret => ?_)
  have hM_v : KV [2, 3, 4, 5, 7, 8] v v := fun _ _ => rfl
  have hA_f : KF [] f f := fun _ _ => rfl
  have hown : s.vm.findClass RX6 = some m.cls := hown
  have hS : va_S A s.heap s.heap [] := va_S.rf
  have hl : lv_has ls 1 [(0, .ref (x 2))] := hl
  refine lv_aload_n hx hb dX6_closing_0 rfl (lv_at hl 0 rfl) ?_
  refine lv_bipush (v := 59) hx hb dX6_closing_1 (by decide) ?_
  refine csVi (n := 1) (rest := []) hx hb hml hown hts hE hP hD hS hA hF hT (sX_X6_taken_1 NF l dC dI cy x0 x 59 v f hIv ) k_724 k_726 k_12 k_103 k_727 (by decide +kernel) ⟨Nat.le_of_ble_eq_true rfl, Nat.le_of_ble_eq_true rfl⟩ 3 6 rfl rfl (rfl) hl.1 rfl (Nat.le_of_ble_eq_true rfl) dX6_closing_3 (fun r1 u H locs hw hP hD hS => ?_)
  obtain ⟨hG2, hw⟩ := hw
  obtain ⟨v3, f4⟩ := u
  obtain ⟨kV_v3, kF_f4, hIv3, hk0_v3, hk1_v3, hk9_v3, hk10_v3, hk31_v3, hk32_v3, hw⟩ := hw
  have hM_v3 : KV [2, 3, 4, 5, 7, 8] v3 v := KV.tr kV_v3 hM_v rfl
  have hA_f4 : KF [] f4 f := KF.tr kF_f4 hA_f rfl
  have hP : va_P (dC, dI) vwCl (XW cy x0 x v3 f4) H := hP
  have hD : va_D A (XW cy x0 x v3 f4) := hD
  have hq0_v3 : v3 0 = (v 0) := hk0_v3
  have hq1_v3 : v3 1 = (v 1) := hk1_v3
  have hq9_v3 : v3 9 = (v 9) := hk9_v3
  have hq10_v3 : v3 10 = (v 10) := hk10_v3
  have hq31_v3 : v3 31 = (v 31) := hk31_v3
  have hq32_v3 : v3 32 = (v 32) := hk32_v3
  rcases hw with ⟨g5⟩ | ⟨g5⟩
  · skip
    subst g5
    exact ret 1 (v3, f4) _ _ _ _ _ _ rfl ⟨(gsX_X6_closing_1_q0 hG2), hM_v3, hA_f4, hIv3, hk0_v3, hk1_v3, hk9_v3, hk10_v3, hk31_v3, hk32_v3, (Or.inl rfl)⟩ hP hD hS dX6_closing_6 (Nat.le_refl _) (Nat.le_refl _)
  · skip
    subst g5
    exact ret 0 (v3, f4) _ _ _ _ _ _ rfl ⟨(gsX_X6_closing_1_q1 hG2), hM_v3, hA_f4, hIv3, hk0_v3, hk1_v3, hk9_v3, hk10_v3, hk31_v3, hk32_v3, (Or.inr rfl)⟩ hP hD hS dX6_closing_6 (Nat.le_refl _) (Nat.le_refl _)
