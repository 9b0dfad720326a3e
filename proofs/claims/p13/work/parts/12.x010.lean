set_option maxHeartbeats 4000000 in
set_option maxRecDepth 100000 in
theorem sX_X6_coatLine_1 (NF : Nat) (l : Launch) (dC : Nat → ClassId) (dI : Nat → Nat → Nat) (cy : Nat → ClassId) (x0 : Nat) (x : Nat → Nat)  (v : Nat → Int32) (f : Nat → Nat → Int32) (hIv : XI v)  : ctIS l (dC, dI) cy yX6_coatLine cX6_coatLine 5 .boolean 9 235 0 0 ((Nat → Int32) × (Nat → Nat → Int32)) [.ref (x 2)] (XW cy x0 x v f) (fun r u => gsX_X6_coatLine_1 NF v f = (r, u) ∧ KV [2, 3, 4, 5, 7, 8, 10] u.1 v ∧ KF [2, 8] u.2 f ∧ XI u.1 ∧ u.1 0 = v 0 ∧ u.1 1 = v 1 ∧ u.1 9 = v 9 ∧ u.1 31 = v 31 ∧ ((r = 1) ∨ (r = 0))) (fun u => XW cy x0 x u.1 u.2) := by
  refine ctIS_of (by decide) (Nat.le_of_ble_eq_true rfl) (fun p e s m below meth c A ls Q hx hb hml hts hown hE hF hT hP hD hA hl ret => ?_)
  have hM_v : KV [2, 3, 4, 5, 7, 8, 10] v v := fun _ _ => rfl
  have hA_f : KF [2, 8] f f := fun _ _ => rfl
  have hown : s.vm.findClass RX6 = some m.cls := hown
  have hS : va_S A s.heap s.heap [] := va_S.rf
  have hl : lv_has ls 5 [(0, .ref (x 2))] := hl
  refine lv_aload_n hx hb dX6_coatLine_0 rfl (lv_at hl 0 rfl) ?_
  refine va_get (D := (dC, dI)) (ci := 6) (v := .ref (x 3)) (C := RX6) (T := TX6) (N := 7) hx hb hts inB_6 hown hE.1 hP 3 rfl rfl 1 (by decide) (hts _ k_266) (fun _ h9 => h9) rfl dX6_coatLine_1 ?_
  refine va_getN (D := (dC, dI)) (ci := 7) (v := .int (v 10)) (C := RX7) (T := TX7) (N := 10) hx hb hts inB_7 hown hE.1 hP 4 rfl rfl 4 (by decide) (va_Nw.use rfl (hE.2 _ k_224)) (fun _ h9 => h9) rfl dX6_coatLine_4 ?_
  have b10_v : 0 ≤ (v 10).toInt ∧ (v 10).toInt ≤ 6 := XI.b hIv 10 (by decide)
  refine lv_bipush (v := 6) hx hb dX6_coatLine_7 (by decide) ?_
  refine lv_icmp_lt (tgt := 17) hx hb dX6_coatLine_9 (by decide) (fun c1 => ?_) (fun c1 => ?_)
  · skip
    have zc1 : (v 10).toInt < 6 := by rw [fa_lt, show (6 : Int32).toInt = 6 from by decide] at c1; exact c1
    refine lv_aload_n hx hb dX6_coatLine_17 rfl (lv_at hl 0 rfl) ?_
    refine va_get (D := (dC, dI)) (ci := 6) (v := .ref (x 0)) (C := RX6) (T := TX6) (N := 7) hx hb hts inB_6 hown hE.1 hP 3 rfl rfl 0 (by decide) (hts _ k_265) (fun _ h9 => h9) rfl dX6_coatLine_18 ?_
    refine csVv (n := 0) (rest := []) hx hb hml hown hts hE hP hD hS hA hF hT (sX_X9_advance_1 NF l dC dI cy x0 x  v f hIv ) k_699 k_559 k_560 k_102 k_561 (by decide +kernel) ⟨Nat.le_of_ble_eq_true rfl, Nat.le_of_ble_eq_true rfl⟩ 1 9 rfl rfl (rfl) hl.1 rfl (Nat.le_of_ble_eq_true rfl) dX6_coatLine_21 (fun u H locs hw hP hD hS => ?_)
    obtain ⟨hG2, hw⟩ := hw
    obtain ⟨v3, f4⟩ := u
    obtain ⟨kV_v3, kF_f4, hIv3, hk0_v3, hk1_v3, hk7_v3, hk8_v3, hk9_v3, hk10_v3, hk31_v3, hk32_v3⟩ := hw
    have hM_v3 : KV [2, 3, 4, 5, 7, 8, 10] v3 v := KV.tr kV_v3 hM_v rfl
    have hA_f4 : KF [2, 8] f4 f := KF.tr kF_f4 hA_f rfl
    have hP : va_P (dC, dI) vwCl (XW cy x0 x v3 f4) H := hP
    have hD : va_D A (XW cy x0 x v3 f4) := hD
    have hq0_v3 : v3 0 = (v 0) := hk0_v3
    have hq1_v3 : v3 1 = (v 1) := hk1_v3
    have hq7_v3 : v3 7 = (v 7) := hk7_v3
    have hq8_v3 : v3 8 = (v 8) := hk8_v3
    have hq9_v3 : v3 9 = (v 9) := hk9_v3
    have hq10_v3 : v3 10 = (v 10) := hk10_v3
    have hq31_v3 : v3 31 = (v 31) := hk31_v3
    have hq32_v3 : v3 32 = (v 32) := hk32_v3
    refine lv_aload_n hx hb dX6_coatLine_24 rfl (lv_at hl 0 rfl) ?_
    refine lv_aload_n hx hb dX6_coatLine_25 rfl (lv_at hl 0 rfl) ?_
    refine va_get (D := (dC, dI)) (ci := 6) (v := .ref (x 12)) (C := RX6) (T := TX6) (N := 7) hx hb hts inB_6 hown hE.1 hP 3 rfl rfl 3 (by decide) (hts _ k_269) (fun _ h9 => h9) rfl dX6_coatLine_26 ?_
    refine lv_aload_n hx hb dX6_coatLine_29 rfl (lv_at hl 0 rfl) ?_
    refine va_get (D := (dC, dI)) (ci := 6) (v := .ref (x 3)) (C := RX6) (T := TX6) (N := 7) hx hb hts inB_6 hown hE.1 hP 3 rfl rfl 1 (by decide) (hts _ k_266) (fun _ h9 => h9) rfl dX6_coatLine_30 ?_
    refine va_getN (D := (dC, dI)) (ci := 7) (v := .int (v3 10)) (C := RX7) (T := TX7) (N := 10) hx hb hts inB_7 hown hE.1 hP 4 rfl rfl 4 (by decide) (va_Nw.use rfl (hE.2 _ k_224)) (fun _ h9 => h9) rfl dX6_coatLine_33 ?_
    refine tI (y := (v 10)) hq10_v3 ?_
    have b10_v : 0 ≤ (v 10).toInt ∧ (v 10).toInt ≤ 6 := XI.b hIv 10 (by decide)
    refine csVi (n := 2) (rest := []) hx hb hml hown hts hE hP hD hS hA hF hT (sX_X6_name_2 NF l dC dI cy x0 x (v 10) v3 f4 hIv3 ) k_700 k_702 k_8 k_103 k_703 (by decide +kernel) ⟨Nat.le_of_ble_eq_true rfl, Nat.le_of_ble_eq_true rfl⟩ 3 6 rfl rfl (rfl) hl.1 rfl (Nat.le_of_ble_eq_true rfl) dX6_coatLine_36 (fun r5 u H locs hw hP hD hS => ?_)
    obtain ⟨hG6, hw⟩ := hw
    obtain ⟨v7, f8⟩ := u
    obtain ⟨kV_v7, kF_f8, hIv7, hk0_v7, hk1_v7, hk9_v7, hk10_v7, hk31_v7, hk32_v7, hw⟩ := hw
    have hM_v7 : KV [2, 3, 4, 5, 7, 8, 10] v7 v := KV.tr kV_v7 hM_v3 rfl
    have hA_f8 : KF [2, 8] f8 f := KF.tr kF_f8 hA_f4 rfl
    have hP : va_P (dC, dI) vwCl (XW cy x0 x v7 f8) H := hP
    have hD : va_D A (XW cy x0 x v7 f8) := hD
    have hq0_v7 : v7 0 = (v 0) := hk0_v7.trans hq0_v3
    have hq1_v7 : v7 1 = (v 1) := hk1_v7.trans hq1_v3
    have hq9_v7 : v7 9 = (v 9) := hk9_v7.trans hq9_v3
    have hq10_v7 : v7 10 = (v 10) := hk10_v7.trans hq10_v3
    have hq31_v7 : v7 31 = (v 31) := hk31_v7.trans hq31_v3
    have hq32_v7 : v7 32 = (v 32) := hk32_v7.trans hq32_v3
    rcases hw with ⟨g9⟩ | ⟨g9⟩
    · skip
      subst g9
      refine lv_if_ne (tgt := 44) hx hb dX6_coatLine_39 (by decide) (fun _ => ?_) (fun c0 => absurd c0 (by decide))
      refine lv_aload_n hx hb dX6_coatLine_44 rfl (lv_at hl 0 rfl) ?_
      refine lv_bipush (v := 109) hx hb dX6_coatLine_45 (by decide) ?_
      refine lv_bipush (v := 99) hx hb dX6_coatLine_47 (by decide) ?_
      refine csVi (n := 2) (rest := []) hx hb hml hown hts hE hP hD hS hA hF hT (sX_X6_labelled_1 NF l dC dI cy x0 x 109 99 v7 f8 hIv7 ) k_708 k_710 k_9 k_103 k_711 (by decide +kernel) ⟨Nat.le_of_ble_eq_true rfl, Nat.le_of_ble_eq_true rfl⟩ 3 6 rfl rfl (rfl) hl.1 rfl (Nat.le_of_ble_eq_true rfl) dX6_coatLine_49 (fun r10 u H locs hw hP hD hS => ?_)
      obtain ⟨hG11, hw⟩ := hw
      obtain ⟨v12, f13⟩ := u
      obtain ⟨kV_v12, kF_f13, hIv12, hk0_v12, hk1_v12, hk9_v12, hk10_v12, hk31_v12, hk32_v12⟩ := hw
      have hM_v12 : KV [2, 3, 4, 5, 7, 8, 10] v12 v := KV.tr kV_v12 hM_v7 rfl
      have hA_f13 : KF [2, 8] f13 f := KF.tr kF_f13 hA_f8 rfl
      have hP : va_P (dC, dI) vwCl (XW cy x0 x v12 f13) H := hP
      have hD : va_D A (XW cy x0 x v12 f13) := hD
      have hq0_v12 : v12 0 = (v 0) := hk0_v12.trans hq0_v7
      have hq1_v12 : v12 1 = (v 1) := hk1_v12.trans hq1_v7
      have hq9_v12 : v12 9 = (v 9) := hk9_v12.trans hq9_v7
      have hq10_v12 : v12 10 = (v 10) := hk10_v12.trans hq10_v7
      have hq31_v12 : v12 31 = (v 31) := hk31_v12.trans hq31_v7
      have hq32_v12 : v12 32 = (v 32) := hk32_v12.trans hq32_v7
      refine lv_istore_n (lv' := [(1, .int r10), (0, .ref (x 2))]) hx hb dX6_coatLine_52 rfl hl (by decide) rfl (fun ls hl => ?_)
      refine lv_iload_n hx hb dX6_coatLine_53 rfl (lv_at hl 0 rfl) ?_
      refine lv_if_ge (tgt := 61) hx hb dX6_coatLine_54 (by decide) (fun c14 => ?_) (fun c14 => ?_)
      · skip
        have zc14 : 0 ≤ r10.toInt := by rw [fa_le, show (0 : Int32).toInt = 0 from by decide] at c14; exact c14
        refine lv_aload_n hx hb dX6_coatLine_61 rfl (lv_at hl 1 rfl) ?_
        refine lv_bipush (v := 110) hx hb dX6_coatLine_62 (by decide) ?_
        refine lv_bipush (v := 99) hx hb dX6_coatLine_64 (by decide) ?_
        refine csVi (n := 2) (rest := []) hx hb hml hown hts hE hP hD hS hA hF hT (sX_X6_labelled_1 NF l dC dI cy x0 x 110 99 v12 f13 hIv12 ) k_708 k_710 k_9 k_103 k_711 (by decide +kernel) ⟨Nat.le_of_ble_eq_true rfl, Nat.le_of_ble_eq_true rfl⟩ 3 6 rfl rfl (rfl) hl.1 rfl (Nat.le_of_ble_eq_true rfl) dX6_coatLine_66 (fun r15 u H locs hw hP hD hS => ?_)
        obtain ⟨hG16, hw⟩ := hw
        obtain ⟨v17, f18⟩ := u
        obtain ⟨kV_v17, kF_f18, hIv17, hk0_v17, hk1_v17, hk9_v17, hk10_v17, hk31_v17, hk32_v17⟩ := hw
        have hM_v17 : KV [2, 3, 4, 5, 7, 8, 10] v17 v := KV.tr kV_v17 hM_v12 rfl
        have hA_f18 : KF [2, 8] f18 f := KF.tr kF_f18 hA_f13 rfl
        have hP : va_P (dC, dI) vwCl (XW cy x0 x v17 f18) H := hP
        have hD : va_D A (XW cy x0 x v17 f18) := hD
        have hq0_v17 : v17 0 = (v 0) := hk0_v17.trans hq0_v12
        have hq1_v17 : v17 1 = (v 1) := hk1_v17.trans hq1_v12
        have hq9_v17 : v17 9 = (v 9) := hk9_v17.trans hq9_v12
        have hq10_v17 : v17 10 = (v 10) := hk10_v17.trans hq10_v12
        have hq31_v17 : v17 31 = (v 31) := hk31_v17.trans hq31_v12
        have hq32_v17 : v17 32 = (v 32) := hk32_v17.trans hq32_v12
        refine lv_istore_n (lv' := [(2, .int r15), (1, .int r10), (0, .ref (x 2))]) hx hb dX6_coatLine_69 rfl hl (by decide) rfl (fun ls hl => ?_)
        refine lv_iload_n hx hb dX6_coatLine_70 rfl (lv_at hl 0 rfl) ?_
        refine lv_if_ge (tgt := 78) hx hb dX6_coatLine_71 (by decide) (fun c19 => ?_) (fun c19 => ?_)
        · skip
          have zc19 : 0 ≤ r15.toInt := by rw [fa_le, show (0 : Int32).toInt = 0 from by decide] at c19; exact c19
          refine lv_aload_n hx hb dX6_coatLine_78 rfl (lv_at hl 2 rfl) ?_
          refine va_get (D := (dC, dI)) (ci := 6) (v := .ref (x 0)) (C := RX6) (T := TX6) (N := 7) hx hb hts inB_6 hown hE.1 hP 3 rfl rfl 0 (by decide) (hts _ k_265) (fun _ h9 => h9) rfl dX6_coatLine_79 ?_
          refine va_getN (D := (dC, dI)) (ci := 9) (v := .int (v17 2)) (C := RX9) (T := TX9) (N := 6) hx hb hts inB_9 hown hE.1 hP 1 rfl rfl 2 (by decide) (va_Nw.use rfl (hE.2 _ k_139)) (fun _ h9 => h9) rfl dX6_coatLine_82 ?_
          refine lv_bipush (v := 112) hx hb dX6_coatLine_85 (by decide) ?_
          refine lv_icmp_ne (tgt := 101) hx hb dX6_coatLine_87 (by decide) (fun c20 => ?_) (fun c20 => ?_)
          · skip
            have zc20 : ¬ ((v17 2).toInt = 112) := by rw [fa_eq, show (112 : Int32).toInt = 112 from by decide] at c20; exact c20
            refine lv_iconst (v := 0) hx hb dX6_coatLine_101 (by decide) ?_
            refine lv_istore_n (lv' := [(3, .int 0), (2, .int r15), (1, .int r10), (0, .ref (x 2))]) hx hb dX6_coatLine_102 rfl hl (by decide) rfl (fun ls hl => ?_)
            refine lv_iload_n hx hb dX6_coatLine_103 rfl (lv_at hl 0 rfl) ?_
            refine lv_if_ge (tgt := 111) hx hb dX6_coatLine_104 (by decide) (fun _ => ?_) (fun c0 => absurd (by decide) c0)
            refine lv_aload_n hx hb dX6_coatLine_111 rfl (lv_at hl 3 rfl) ?_
            refine va_get (D := (dC, dI)) (ci := 6) (v := .ref (x 0)) (C := RX6) (T := TX6) (N := 7) hx hb hts inB_6 hown hE.1 hP 3 rfl rfl 0 (by decide) (hts _ k_265) (fun _ h9 => h9) rfl dX6_coatLine_112 ?_
            refine va_getN (D := (dC, dI)) (ci := 9) (v := .int (v17 2)) (C := RX9) (T := TX9) (N := 6) hx hb hts inB_9 hown hE.1 hP 1 rfl rfl 2 (by decide) (va_Nw.use rfl (hE.2 _ k_139)) (fun _ h9 => h9) rfl dX6_coatLine_115 ?_
            refine lv_bipush (v := 120) hx hb dX6_coatLine_118 (by decide) ?_
            refine lv_icmp_ne (tgt := 134) hx hb dX6_coatLine_120 (by decide) (fun c21 => ?_) (fun c21 => ?_)
            · skip
              have zc21 : ¬ ((v17 2).toInt = 120) := by rw [fa_eq, show (120 : Int32).toInt = 120 from by decide] at c21; exact c21
              refine lv_iconst (v := 0) hx hb dX6_coatLine_134 (by decide) ?_
              refine lv_istore (lv' := [(4, .int 0), (3, .int 0), (2, .int r15), (1, .int r10), (0, .ref (x 2))]) hx hb dX6_coatLine_135 hl (by decide) rfl (fun ls hl => ?_)
              refine lv_iload hx hb dX6_coatLine_137 (lv_at hl 0 rfl) ?_
              refine lv_if_ge (tgt := 144) hx hb dX6_coatLine_139 (by decide) (fun _ => ?_) (fun c0 => absurd (by decide) c0)
              refine lv_aload_n hx hb dX6_coatLine_144 rfl (lv_at hl 4 rfl) ?_
              refine va_get (D := (dC, dI)) (ci := 6) (v := .ref (x 3)) (C := RX6) (T := TX6) (N := 7) hx hb hts inB_6 hown hE.1 hP 3 rfl rfl 1 (by decide) (hts _ k_266) (fun _ h9 => h9) rfl dX6_coatLine_145 ?_
              refine lv_iload_n hx hb dX6_coatLine_148 rfl (lv_at hl 3 rfl) ?_
              refine lv_iload_n hx hb dX6_coatLine_149 rfl (lv_at hl 2 rfl) ?_
              refine lv_iload_n hx hb dX6_coatLine_150 rfl (lv_at hl 1 rfl) ?_
              refine lv_iload hx hb dX6_coatLine_151 (lv_at hl 0 rfl) ?_
              refine cbVv (n := 4) (rest := []) hx hb hml hown hts hE hP hD hS hA (sX_X7_addCoat_1 NF l dC dI cy x0 x r10 r15 0 0 v17 f18 hIv17 ) k_732 k_733 k_734 k_104 k_735 (by decide +kernel) ⟨Nat.le_of_ble_eq_true rfl, Nat.le_of_ble_eq_true rfl⟩ 4 7 rfl rfl (rfl) hl.1 rfl (Nat.le_of_ble_eq_true rfl) dX6_coatLine_153 (fun u H locs hw hP hD hS => ?_)
              obtain ⟨hG22, hw⟩ := hw
              obtain ⟨v23, f24⟩ := u
              obtain ⟨kV_v23, kF_f24, hIv23, hk0_v23, hk1_v23, hk7_v23, hk8_v23, hk9_v23, hk31_v23⟩ := hw
              have hM_v23 : KV [2, 3, 4, 5, 7, 8, 10] v23 v := KV.tr kV_v23 hM_v17 rfl
              have hA_f24 : KF [2, 8] f24 f := KF.tr kF_f24 hA_f18 rfl
              have hP : va_P (dC, dI) vwCl (XW cy x0 x v23 f24) H := hP
              have hD : va_D A (XW cy x0 x v23 f24) := hD
              have hq0_v23 : v23 0 = (v 0) := hk0_v23.trans hq0_v17
              have hq1_v23 : v23 1 = (v 1) := hk1_v23.trans hq1_v17
              have hq7_v23 : v23 7 = (v17 7) := hk7_v23
              have hq8_v23 : v23 8 = (v17 8) := hk8_v23
              have hq9_v23 : v23 9 = (v 9) := hk9_v23.trans hq9_v17
              have hq31_v23 : v23 31 = (v 31) := hk31_v23.trans hq31_v17
              refine lv_iconst (v := 1) hx hb dX6_coatLine_156 (by decide) ?_
              exact ret 1 (v23, f24) _ _ _ _ _ _ rfl ⟨(gsX_X6_coatLine_1_q0 c1 hG2 hG6 hG11 c14 hG16 c19 c20 c21 hG22), hM_v23, hA_f24, hIv23, (hk0_v23.trans (hk0_v17.trans (hk0_v12.trans (hk0_v7.trans hk0_v3)))), (hk1_v23.trans (hk1_v17.trans (hk1_v12.trans (hk1_v7.trans hk1_v3)))), (hk9_v23.trans (hk9_v17.trans (hk9_v12.trans (hk9_v7.trans hk9_v3)))), (hk31_v23.trans (hk31_v17.trans (hk31_v12.trans (hk31_v7.trans hk31_v3)))), (Or.inl rfl)⟩ hP hD hS dX6_coatLine_157 (Nat.le_refl _) (Nat.le_refl _)
            · skip
              have zc21 : (v17 2).toInt = 120 := by rw [fa_eq, show (120 : Int32).toInt = 120 from by decide] at c21; exact c21
              refine lv_aload_n hx hb dX6_coatLine_123 rfl (lv_at hl 3 rfl) ?_
              refine lv_bipush (v := 120) hx hb dX6_coatLine_124 (by decide) ?_
              refine lv_bipush (v := 99) hx hb dX6_coatLine_126 (by decide) ?_
              refine csVi (n := 2) (rest := []) hx hb hml hown hts hE hP hD hS hA hF hT (sX_X6_labelled_1 NF l dC dI cy x0 x 120 99 v17 f18 hIv17 ) k_708 k_710 k_9 k_103 k_711 (by decide +kernel) ⟨Nat.le_of_ble_eq_true rfl, Nat.le_of_ble_eq_true rfl⟩ 3 6 rfl rfl (rfl) hl.1 rfl (Nat.le_of_ble_eq_true rfl) dX6_coatLine_128 (fun r25 u H locs hw hP hD hS => ?_)
              obtain ⟨hG26, hw⟩ := hw
              obtain ⟨v27, f28⟩ := u
              obtain ⟨kV_v27, kF_f28, hIv27, hk0_v27, hk1_v27, hk9_v27, hk10_v27, hk31_v27, hk32_v27⟩ := hw
              have hM_v27 : KV [2, 3, 4, 5, 7, 8, 10] v27 v := KV.tr kV_v27 hM_v17 rfl
              have hA_f28 : KF [2, 8] f28 f := KF.tr kF_f28 hA_f18 rfl
              have hP : va_P (dC, dI) vwCl (XW cy x0 x v27 f28) H := hP
              have hD : va_D A (XW cy x0 x v27 f28) := hD
              have hq0_v27 : v27 0 = (v 0) := hk0_v27.trans hq0_v17
              have hq1_v27 : v27 1 = (v 1) := hk1_v27.trans hq1_v17
              have hq9_v27 : v27 9 = (v 9) := hk9_v27.trans hq9_v17
              have hq10_v27 : v27 10 = (v 10) := hk10_v27.trans hq10_v17
              have hq31_v27 : v27 31 = (v 31) := hk31_v27.trans hq31_v17
              have hq32_v27 : v27 32 = (v 32) := hk32_v27.trans hq32_v17
              refine lv_goto (tgt := 135) hx hb dX6_coatLine_131 (by decide) ?_
              refine lv_istore (lv' := [(4, .int r25), (3, .int 0), (2, .int r15), (1, .int r10), (0, .ref (x 2))]) hx hb dX6_coatLine_135 hl (by decide) rfl (fun ls hl => ?_)
              refine lv_iload hx hb dX6_coatLine_137 (lv_at hl 0 rfl) ?_
              refine lv_if_ge (tgt := 144) hx hb dX6_coatLine_139 (by decide) (fun c29 => ?_) (fun c29 => ?_)
              · skip
                have zc29 : 0 ≤ r25.toInt := by rw [fa_le, show (0 : Int32).toInt = 0 from by decide] at c29; exact c29
                refine lv_aload_n hx hb dX6_coatLine_144 rfl (lv_at hl 4 rfl) ?_
                refine va_get (D := (dC, dI)) (ci := 6) (v := .ref (x 3)) (C := RX6) (T := TX6) (N := 7) hx hb hts inB_6 hown hE.1 hP 3 rfl rfl 1 (by decide) (hts _ k_266) (fun _ h9 => h9) rfl dX6_coatLine_145 ?_
                refine lv_iload_n hx hb dX6_coatLine_148 rfl (lv_at hl 3 rfl) ?_
                refine lv_iload_n hx hb dX6_coatLine_149 rfl (lv_at hl 2 rfl) ?_
                refine lv_iload_n hx hb dX6_coatLine_150 rfl (lv_at hl 1 rfl) ?_
                refine lv_iload hx hb dX6_coatLine_151 (lv_at hl 0 rfl) ?_
                refine cbVv (n := 4) (rest := []) hx hb hml hown hts hE hP hD hS hA (sX_X7_addCoat_1 NF l dC dI cy x0 x r10 r15 0 r25 v27 f28 hIv27 ) k_732 k_733 k_734 k_104 k_735 (by decide +kernel) ⟨Nat.le_of_ble_eq_true rfl, Nat.le_of_ble_eq_true rfl⟩ 4 7 rfl rfl (rfl) hl.1 rfl (Nat.le_of_ble_eq_true rfl) dX6_coatLine_153 (fun u H locs hw hP hD hS => ?_)
                obtain ⟨hG30, hw⟩ := hw
                obtain ⟨v31, f32⟩ := u
                obtain ⟨kV_v31, kF_f32, hIv31, hk0_v31, hk1_v31, hk7_v31, hk8_v31, hk9_v31, hk31_v31⟩ := hw
                have hM_v31 : KV [2, 3, 4, 5, 7, 8, 10] v31 v := KV.tr kV_v31 hM_v27 rfl
                have hA_f32 : KF [2, 8] f32 f := KF.tr kF_f32 hA_f28 rfl
                have hP : va_P (dC, dI) vwCl (XW cy x0 x v31 f32) H := hP
                have hD : va_D A (XW cy x0 x v31 f32) := hD
                have hq0_v31 : v31 0 = (v 0) := hk0_v31.trans hq0_v27
                have hq1_v31 : v31 1 = (v 1) := hk1_v31.trans hq1_v27
                have hq7_v31 : v31 7 = (v27 7) := hk7_v31
                have hq8_v31 : v31 8 = (v27 8) := hk8_v31
                have hq9_v31 : v31 9 = (v 9) := hk9_v31.trans hq9_v27
                have hq31_v31 : v31 31 = (v 31) := hk31_v31.trans hq31_v27
                refine lv_iconst (v := 1) hx hb dX6_coatLine_156 (by decide) ?_
                exact ret 1 (v31, f32) _ _ _ _ _ _ rfl ⟨(gsX_X6_coatLine_1_q1 c1 hG2 hG6 hG11 c14 hG16 c19 c20 c21 hG26 c29 hG30), hM_v31, hA_f32, hIv31, (hk0_v31.trans (hk0_v27.trans (hk0_v17.trans (hk0_v12.trans (hk0_v7.trans hk0_v3))))), (hk1_v31.trans (hk1_v27.trans (hk1_v17.trans (hk1_v12.trans (hk1_v7.trans hk1_v3))))), (hk9_v31.trans (hk9_v27.trans (hk9_v17.trans (hk9_v12.trans (hk9_v7.trans hk9_v3))))), (hk31_v31.trans (hk31_v27.trans (hk31_v17.trans (hk31_v12.trans (hk31_v7.trans hk31_v3))))), (Or.inl rfl)⟩ hP hD hS dX6_coatLine_157 (Nat.le_refl _) (Nat.le_refl _)
              · skip
                have zc29 : ¬ (0 ≤ r25.toInt) := by rw [fa_le, show (0 : Int32).toInt = 0 from by decide] at c29; exact c29
                refine lv_iconst (v := 0) hx hb dX6_coatLine_142 (by decide) ?_
                exact ret 0 (v27, f28) _ _ _ _ _ _ rfl ⟨(gsX_X6_coatLine_1_q2 c1 hG2 hG6 hG11 c14 hG16 c19 c20 c21 hG26 c29), hM_v27, hA_f28, hIv27, (hk0_v27.trans (hk0_v17.trans (hk0_v12.trans (hk0_v7.trans hk0_v3)))), (hk1_v27.trans (hk1_v17.trans (hk1_v12.trans (hk1_v7.trans hk1_v3)))), (hk9_v27.trans (hk9_v17.trans (hk9_v12.trans (hk9_v7.trans hk9_v3)))), (hk31_v27.trans (hk31_v17.trans (hk31_v12.trans (hk31_v7.trans hk31_v3)))), (Or.inr rfl)⟩ hP hD hS dX6_coatLine_143 (Nat.le_refl _) (Nat.le_refl _)
          · skip
            have zc20 : (v17 2).toInt = 112 := by rw [fa_eq, show (112 : Int32).toInt = 112 from by decide] at c20; exact c20
            refine lv_aload_n hx hb dX6_coatLine_90 rfl (lv_at hl 2 rfl) ?_
            refine lv_bipush (v := 112) hx hb dX6_coatLine_91 (by decide) ?_
            refine lv_bipush (v := 20) hx hb dX6_coatLine_93 (by decide) ?_
            refine csVi (n := 2) (rest := []) hx hb hml hown hts hE hP hD hS hA hF hT (sX_X6_labelled_1 NF l dC dI cy x0 x 112 20 v17 f18 hIv17 ) k_708 k_710 k_9 k_103 k_711 (by decide +kernel) ⟨Nat.le_of_ble_eq_true rfl, Nat.le_of_ble_eq_true rfl⟩ 3 6 rfl rfl (rfl) hl.1 rfl (Nat.le_of_ble_eq_true rfl) dX6_coatLine_95 (fun r33 u H locs hw hP hD hS => ?_)
            obtain ⟨hG34, hw⟩ := hw
            obtain ⟨v35, f36⟩ := u
            obtain ⟨kV_v35, kF_f36, hIv35, hk0_v35, hk1_v35, hk9_v35, hk10_v35, hk31_v35, hk32_v35⟩ := hw
            have hM_v35 : KV [2, 3, 4, 5, 7, 8, 10] v35 v := KV.tr kV_v35 hM_v17 rfl
            have hA_f36 : KF [2, 8] f36 f := KF.tr kF_f36 hA_f18 rfl
            have hP : va_P (dC, dI) vwCl (XW cy x0 x v35 f36) H := hP
            have hD : va_D A (XW cy x0 x v35 f36) := hD
            have hq0_v35 : v35 0 = (v 0) := hk0_v35.trans hq0_v17
            have hq1_v35 : v35 1 = (v 1) := hk1_v35.trans hq1_v17
            have hq9_v35 : v35 9 = (v 9) := hk9_v35.trans hq9_v17
            have hq10_v35 : v35 10 = (v 10) := hk10_v35.trans hq10_v17
            have hq31_v35 : v35 31 = (v 31) := hk31_v35.trans hq31_v17
            have hq32_v35 : v35 32 = (v 32) := hk32_v35.trans hq32_v17
            refine lv_goto (tgt := 102) hx hb dX6_coatLine_98 (by decide) ?_
            refine lv_istore_n (lv' := [(3, .int r33), (2, .int r15), (1, .int r10), (0, .ref (x 2))]) hx hb dX6_coatLine_102 rfl hl (by decide) rfl (fun ls hl => ?_)
            refine lv_iload_n hx hb dX6_coatLine_103 rfl (lv_at hl 0 rfl) ?_
            refine lv_if_ge (tgt := 111) hx hb dX6_coatLine_104 (by decide) (fun c37 => ?_) (fun c37 => ?_)
            · skip
              have zc37 : 0 ≤ r33.toInt := by rw [fa_le, show (0 : Int32).toInt = 0 from by decide] at c37; exact c37
              refine lv_aload_n hx hb dX6_coatLine_111 rfl (lv_at hl 3 rfl) ?_
              refine va_get (D := (dC, dI)) (ci := 6) (v := .ref (x 0)) (C := RX6) (T := TX6) (N := 7) hx hb hts inB_6 hown hE.1 hP 3 rfl rfl 0 (by decide) (hts _ k_265) (fun _ h9 => h9) rfl dX6_coatLine_112 ?_
              refine va_getN (D := (dC, dI)) (ci := 9) (v := .int (v35 2)) (C := RX9) (T := TX9) (N := 6) hx hb hts inB_9 hown hE.1 hP 1 rfl rfl 2 (by decide) (va_Nw.use rfl (hE.2 _ k_139)) (fun _ h9 => h9) rfl dX6_coatLine_115 ?_
              refine lv_bipush (v := 120) hx hb dX6_coatLine_118 (by decide) ?_
              refine lv_icmp_ne (tgt := 134) hx hb dX6_coatLine_120 (by decide) (fun c38 => ?_) (fun c38 => ?_)
              · skip
                have zc38 : ¬ ((v35 2).toInt = 120) := by rw [fa_eq, show (120 : Int32).toInt = 120 from by decide] at c38; exact c38
                refine lv_iconst (v := 0) hx hb dX6_coatLine_134 (by decide) ?_
                refine lv_istore (lv' := [(4, .int 0), (3, .int r33), (2, .int r15), (1, .int r10), (0, .ref (x 2))]) hx hb dX6_coatLine_135 hl (by decide) rfl (fun ls hl => ?_)
                refine lv_iload hx hb dX6_coatLine_137 (lv_at hl 0 rfl) ?_
                refine lv_if_ge (tgt := 144) hx hb dX6_coatLine_139 (by decide) (fun _ => ?_) (fun c0 => absurd (by decide) c0)
                refine lv_aload_n hx hb dX6_coatLine_144 rfl (lv_at hl 4 rfl) ?_
                refine va_get (D := (dC, dI)) (ci := 6) (v := .ref (x 3)) (C := RX6) (T := TX6) (N := 7) hx hb hts inB_6 hown hE.1 hP 3 rfl rfl 1 (by decide) (hts _ k_266) (fun _ h9 => h9) rfl dX6_coatLine_145 ?_
                refine lv_iload_n hx hb dX6_coatLine_148 rfl (lv_at hl 3 rfl) ?_
                refine lv_iload_n hx hb dX6_coatLine_149 rfl (lv_at hl 2 rfl) ?_
                refine lv_iload_n hx hb dX6_coatLine_150 rfl (lv_at hl 1 rfl) ?_
                refine lv_iload hx hb dX6_coatLine_151 (lv_at hl 0 rfl) ?_
                refine cbVv (n := 4) (rest := []) hx hb hml hown hts hE hP hD hS hA (sX_X7_addCoat_1 NF l dC dI cy x0 x r10 r15 r33 0 v35 f36 hIv35 ) k_732 k_733 k_734 k_104 k_735 (by decide +kernel) ⟨Nat.le_of_ble_eq_true rfl, Nat.le_of_ble_eq_true rfl⟩ 4 7 rfl rfl (rfl) hl.1 rfl (Nat.le_of_ble_eq_true rfl) dX6_coatLine_153 (fun u H locs hw hP hD hS => ?_)
                obtain ⟨hG39, hw⟩ := hw
                obtain ⟨v40, f41⟩ := u
                obtain ⟨kV_v40, kF_f41, hIv40, hk0_v40, hk1_v40, hk7_v40, hk8_v40, hk9_v40, hk31_v40⟩ := hw
                have hM_v40 : KV [2, 3, 4, 5, 7, 8, 10] v40 v := KV.tr kV_v40 hM_v35 rfl
                have hA_f41 : KF [2, 8] f41 f := KF.tr kF_f41 hA_f36 rfl
                have hP : va_P (dC, dI) vwCl (XW cy x0 x v40 f41) H := hP
                have hD : va_D A (XW cy x0 x v40 f41) := hD
                have hq0_v40 : v40 0 = (v 0) := hk0_v40.trans hq0_v35
                have hq1_v40 : v40 1 = (v 1) := hk1_v40.trans hq1_v35
                have hq7_v40 : v40 7 = (v35 7) := hk7_v40
                have hq8_v40 : v40 8 = (v35 8) := hk8_v40
                have hq9_v40 : v40 9 = (v 9) := hk9_v40.trans hq9_v35
                have hq31_v40 : v40 31 = (v 31) := hk31_v40.trans hq31_v35
                refine lv_iconst (v := 1) hx hb dX6_coatLine_156 (by decide) ?_
                exact ret 1 (v40, f41) _ _ _ _ _ _ rfl ⟨(gsX_X6_coatLine_1_q3 c1 hG2 hG6 hG11 c14 hG16 c19 c20 hG34 c37 c38 hG39), hM_v40, hA_f41, hIv40, (hk0_v40.trans (hk0_v35.trans (hk0_v17.trans (hk0_v12.trans (hk0_v7.trans hk0_v3))))), (hk1_v40.trans (hk1_v35.trans (hk1_v17.trans (hk1_v12.trans (hk1_v7.trans hk1_v3))))), (hk9_v40.trans (hk9_v35.trans (hk9_v17.trans (hk9_v12.trans (hk9_v7.trans hk9_v3))))), (hk31_v40.trans (hk31_v35.trans (hk31_v17.trans (hk31_v12.trans (hk31_v7.trans hk31_v3))))), (Or.inl rfl)⟩ hP hD hS dX6_coatLine_157 (Nat.le_refl _) (Nat.le_refl _)
              · skip
                have zc38 : (v35 2).toInt = 120 := by rw [fa_eq, show (120 : Int32).toInt = 120 from by decide] at c38; exact c38
                refine lv_aload_n hx hb dX6_coatLine_123 rfl (lv_at hl 3 rfl) ?_
                refine lv_bipush (v := 120) hx hb dX6_coatLine_124 (by decide) ?_
                refine lv_bipush (v := 99) hx hb dX6_coatLine_126 (by decide) ?_
                refine csVi (n := 2) (rest := []) hx hb hml hown hts hE hP hD hS hA hF hT (sX_X6_labelled_1 NF l dC dI cy x0 x 120 99 v35 f36 hIv35 ) k_708 k_710 k_9 k_103 k_711 (by decide +kernel) ⟨Nat.le_of_ble_eq_true rfl, Nat.le_of_ble_eq_true rfl⟩ 3 6 rfl rfl (rfl) hl.1 rfl (Nat.le_of_ble_eq_true rfl) dX6_coatLine_128 (fun r42 u H locs hw hP hD hS => ?_)
                obtain ⟨hG43, hw⟩ := hw
                obtain ⟨v44, f45⟩ := u
                obtain ⟨kV_v44, kF_f45, hIv44, hk0_v44, hk1_v44, hk9_v44, hk10_v44, hk31_v44, hk32_v44⟩ := hw
                have hM_v44 : KV [2, 3, 4, 5, 7, 8, 10] v44 v := KV.tr kV_v44 hM_v35 rfl
                have hA_f45 : KF [2, 8] f45 f := KF.tr kF_f45 hA_f36 rfl
                have hP : va_P (dC, dI) vwCl (XW cy x0 x v44 f45) H := hP
                have hD : va_D A (XW cy x0 x v44 f45) := hD
                have hq0_v44 : v44 0 = (v 0) := hk0_v44.trans hq0_v35
                have hq1_v44 : v44 1 = (v 1) := hk1_v44.trans hq1_v35
                have hq9_v44 : v44 9 = (v 9) := hk9_v44.trans hq9_v35
                have hq10_v44 : v44 10 = (v 10) := hk10_v44.trans hq10_v35
                have hq31_v44 : v44 31 = (v 31) := hk31_v44.trans hq31_v35
                have hq32_v44 : v44 32 = (v 32) := hk32_v44.trans hq32_v35
                refine lv_goto (tgt := 135) hx hb dX6_coatLine_131 (by decide) ?_
                refine lv_istore (lv' := [(4, .int r42), (3, .int r33), (2, .int r15), (1, .int r10), (0, .ref (x 2))]) hx hb dX6_coatLine_135 hl (by decide) rfl (fun ls hl => ?_)
                refine lv_iload hx hb dX6_coatLine_137 (lv_at hl 0 rfl) ?_
                refine lv_if_ge (tgt := 144) hx hb dX6_coatLine_139 (by decide) (fun c46 => ?_) (fun c46 => ?_)
                · skip
                  have zc46 : 0 ≤ r42.toInt := by rw [fa_le, show (0 : Int32).toInt = 0 from by decide] at c46; exact c46
                  refine lv_aload_n hx hb dX6_coatLine_144 rfl (lv_at hl 4 rfl) ?_
                  refine va_get (D := (dC, dI)) (ci := 6) (v := .ref (x 3)) (C := RX6) (T := TX6) (N := 7) hx hb hts inB_6 hown hE.1 hP 3 rfl rfl 1 (by decide) (hts _ k_266) (fun _ h9 => h9) rfl dX6_coatLine_145 ?_
                  refine lv_iload_n hx hb dX6_coatLine_148 rfl (lv_at hl 3 rfl) ?_
                  refine lv_iload_n hx hb dX6_coatLine_149 rfl (lv_at hl 2 rfl) ?_
                  refine lv_iload_n hx hb dX6_coatLine_150 rfl (lv_at hl 1 rfl) ?_
                  refine lv_iload hx hb dX6_coatLine_151 (lv_at hl 0 rfl) ?_
                  refine cbVv (n := 4) (rest := []) hx hb hml hown hts hE hP hD hS hA (sX_X7_addCoat_1 NF l dC dI cy x0 x r10 r15 r33 r42 v44 f45 hIv44 ) k_732 k_733 k_734 k_104 k_735 (by decide +kernel) ⟨Nat.le_of_ble_eq_true rfl, Nat.le_of_ble_eq_true rfl⟩ 4 7 rfl rfl (rfl) hl.1 rfl (Nat.le_of_ble_eq_true rfl) dX6_coatLine_153 (fun u H locs hw hP hD hS => ?_)
                  obtain ⟨hG47, hw⟩ := hw
                  obtain ⟨v48, f49⟩ := u
                  obtain ⟨kV_v48, kF_f49, hIv48, hk0_v48, hk1_v48, hk7_v48, hk8_v48, hk9_v48, hk31_v48⟩ := hw
                  have hM_v48 : KV [2, 3, 4, 5, 7, 8, 10] v48 v := KV.tr kV_v48 hM_v44 rfl
                  have hA_f49 : KF [2, 8] f49 f := KF.tr kF_f49 hA_f45 rfl
                  have hP : va_P (dC, dI) vwCl (XW cy x0 x v48 f49) H := hP
                  have hD : va_D A (XW cy x0 x v48 f49) := hD
                  have hq0_v48 : v48 0 = (v 0) := hk0_v48.trans hq0_v44
                  have hq1_v48 : v48 1 = (v 1) := hk1_v48.trans hq1_v44
                  have hq7_v48 : v48 7 = (v44 7) := hk7_v48
                  have hq8_v48 : v48 8 = (v44 8) := hk8_v48
                  have hq9_v48 : v48 9 = (v 9) := hk9_v48.trans hq9_v44
                  have hq31_v48 : v48 31 = (v 31) := hk31_v48.trans hq31_v44
                  refine lv_iconst (v := 1) hx hb dX6_coatLine_156 (by decide) ?_
                  exact ret 1 (v48, f49) _ _ _ _ _ _ rfl ⟨(gsX_X6_coatLine_1_q4 c1 hG2 hG6 hG11 c14 hG16 c19 c20 hG34 c37 c38 hG43 c46 hG47), hM_v48, hA_f49, hIv48, (hk0_v48.trans (hk0_v44.trans (hk0_v35.trans (hk0_v17.trans (hk0_v12.trans (hk0_v7.trans hk0_v3)))))), (hk1_v48.trans (hk1_v44.trans (hk1_v35.trans (hk1_v17.trans (hk1_v12.trans (hk1_v7.trans hk1_v3)))))), (hk9_v48.trans (hk9_v44.trans (hk9_v35.trans (hk9_v17.trans (hk9_v12.trans (hk9_v7.trans hk9_v3)))))), (hk31_v48.trans (hk31_v44.trans (hk31_v35.trans (hk31_v17.trans (hk31_v12.trans (hk31_v7.trans hk31_v3)))))), (Or.inl rfl)⟩ hP hD hS dX6_coatLine_157 (Nat.le_refl _) (Nat.le_refl _)
                · skip
                  have zc46 : ¬ (0 ≤ r42.toInt) := by rw [fa_le, show (0 : Int32).toInt = 0 from by decide] at c46; exact c46
                  refine lv_iconst (v := 0) hx hb dX6_coatLine_142 (by decide) ?_
                  exact ret 0 (v44, f45) _ _ _ _ _ _ rfl ⟨(gsX_X6_coatLine_1_q5 c1 hG2 hG6 hG11 c14 hG16 c19 c20 hG34 c37 c38 hG43 c46), hM_v44, hA_f45, hIv44, (hk0_v44.trans (hk0_v35.trans (hk0_v17.trans (hk0_v12.trans (hk0_v7.trans hk0_v3))))), (hk1_v44.trans (hk1_v35.trans (hk1_v17.trans (hk1_v12.trans (hk1_v7.trans hk1_v3))))), (hk9_v44.trans (hk9_v35.trans (hk9_v17.trans (hk9_v12.trans (hk9_v7.trans hk9_v3))))), (hk31_v44.trans (hk31_v35.trans (hk31_v17.trans (hk31_v12.trans (hk31_v7.trans hk31_v3))))), (Or.inr rfl)⟩ hP hD hS dX6_coatLine_143 (Nat.le_refl _) (Nat.le_refl _)
            · skip
              have zc37 : ¬ (0 ≤ r33.toInt) := by rw [fa_le, show (0 : Int32).toInt = 0 from by decide] at c37; exact c37
              refine lv_iconst (v := (-1)) hx hb dX6_coatLine_107 (by decide) ?_
              refine lv_goto (tgt := 135) hx hb dX6_coatLine_108 (by decide) ?_
              refine lv_istore (lv' := [(4, .int (-1)), (3, .int r33), (2, .int r15), (1, .int r10), (0, .ref (x 2))]) hx hb dX6_coatLine_135 hl (by decide) rfl (fun ls hl => ?_)
              refine lv_iload hx hb dX6_coatLine_137 (lv_at hl 0 rfl) ?_
              refine lv_if_ge (tgt := 144) hx hb dX6_coatLine_139 (by decide) (fun c0 => absurd c0 (by decide)) (fun _ => ?_)
              refine lv_iconst (v := 0) hx hb dX6_coatLine_142 (by decide) ?_
              exact ret 0 (v35, f36) _ _ _ _ _ _ rfl ⟨(gsX_X6_coatLine_1_q6 c1 hG2 hG6 hG11 c14 hG16 c19 c20 hG34 c37), hM_v35, hA_f36, hIv35, (hk0_v35.trans (hk0_v17.trans (hk0_v12.trans (hk0_v7.trans hk0_v3)))), (hk1_v35.trans (hk1_v17.trans (hk1_v12.trans (hk1_v7.trans hk1_v3)))), (hk9_v35.trans (hk9_v17.trans (hk9_v12.trans (hk9_v7.trans hk9_v3)))), (hk31_v35.trans (hk31_v17.trans (hk31_v12.trans (hk31_v7.trans hk31_v3)))), (Or.inr rfl)⟩ hP hD hS dX6_coatLine_143 (Nat.le_refl _) (Nat.le_refl _)
        · skip
          have zc19 : ¬ (0 ≤ r15.toInt) := by rw [fa_le, show (0 : Int32).toInt = 0 from by decide] at c19; exact c19
          refine lv_iconst (v := (-1)) hx hb dX6_coatLine_74 (by decide) ?_
          refine lv_goto (tgt := 102) hx hb dX6_coatLine_75 (by decide) ?_
          refine lv_istore_n (lv' := [(3, .int (-1)), (2, .int r15), (1, .int r10), (0, .ref (x 2))]) hx hb dX6_coatLine_102 rfl hl (by decide) rfl (fun ls hl => ?_)
          refine lv_iload_n hx hb dX6_coatLine_103 rfl (lv_at hl 0 rfl) ?_
          refine lv_if_ge (tgt := 111) hx hb dX6_coatLine_104 (by decide) (fun c0 => absurd c0 (by decide)) (fun _ => ?_)
          refine lv_iconst (v := (-1)) hx hb dX6_coatLine_107 (by decide) ?_
          refine lv_goto (tgt := 135) hx hb dX6_coatLine_108 (by decide) ?_
          refine lv_istore (lv' := [(4, .int (-1)), (3, .int (-1)), (2, .int r15), (1, .int r10), (0, .ref (x 2))]) hx hb dX6_coatLine_135 hl (by decide) rfl (fun ls hl => ?_)
          refine lv_iload hx hb dX6_coatLine_137 (lv_at hl 0 rfl) ?_
          refine lv_if_ge (tgt := 144) hx hb dX6_coatLine_139 (by decide) (fun c0 => absurd c0 (by decide)) (fun _ => ?_)
          refine lv_iconst (v := 0) hx hb dX6_coatLine_142 (by decide) ?_
          exact ret 0 (v17, f18) _ _ _ _ _ _ rfl ⟨(gsX_X6_coatLine_1_q7 c1 hG2 hG6 hG11 c14 hG16 c19), hM_v17, hA_f18, hIv17, (hk0_v17.trans (hk0_v12.trans (hk0_v7.trans hk0_v3))), (hk1_v17.trans (hk1_v12.trans (hk1_v7.trans hk1_v3))), (hk9_v17.trans (hk9_v12.trans (hk9_v7.trans hk9_v3))), (hk31_v17.trans (hk31_v12.trans (hk31_v7.trans hk31_v3))), (Or.inr rfl)⟩ hP hD hS dX6_coatLine_143 (Nat.le_refl _) (Nat.le_refl _)
      · skip
        have zc14 : ¬ (0 ≤ r10.toInt) := by rw [fa_le, show (0 : Int32).toInt = 0 from by decide] at c14; exact c14
        refine lv_iconst (v := (-1)) hx hb dX6_coatLine_57 (by decide) ?_
        refine lv_goto (tgt := 69) hx hb dX6_coatLine_58 (by decide) ?_
        refine lv_istore_n (lv' := [(2, .int (-1)), (1, .int r10), (0, .ref (x 2))]) hx hb dX6_coatLine_69 rfl hl (by decide) rfl (fun ls hl => ?_)
        refine lv_iload_n hx hb dX6_coatLine_70 rfl (lv_at hl 0 rfl) ?_
        refine lv_if_ge (tgt := 78) hx hb dX6_coatLine_71 (by decide) (fun c0 => absurd c0 (by decide)) (fun _ => ?_)
        refine lv_iconst (v := (-1)) hx hb dX6_coatLine_74 (by decide) ?_
        refine lv_goto (tgt := 102) hx hb dX6_coatLine_75 (by decide) ?_
        refine lv_istore_n (lv' := [(3, .int (-1)), (2, .int (-1)), (1, .int r10), (0, .ref (x 2))]) hx hb dX6_coatLine_102 rfl hl (by decide) rfl (fun ls hl => ?_)
        refine lv_iload_n hx hb dX6_coatLine_103 rfl (lv_at hl 0 rfl) ?_
        refine lv_if_ge (tgt := 111) hx hb dX6_coatLine_104 (by decide) (fun c0 => absurd c0 (by decide)) (fun _ => ?_)
        refine lv_iconst (v := (-1)) hx hb dX6_coatLine_107 (by decide) ?_
        refine lv_goto (tgt := 135) hx hb dX6_coatLine_108 (by decide) ?_
        refine lv_istore (lv' := [(4, .int (-1)), (3, .int (-1)), (2, .int (-1)), (1, .int r10), (0, .ref (x 2))]) hx hb dX6_coatLine_135 hl (by decide) rfl (fun ls hl => ?_)
        refine lv_iload hx hb dX6_coatLine_137 (lv_at hl 0 rfl) ?_
        refine lv_if_ge (tgt := 144) hx hb dX6_coatLine_139 (by decide) (fun c0 => absurd c0 (by decide)) (fun _ => ?_)
        refine lv_iconst (v := 0) hx hb dX6_coatLine_142 (by decide) ?_
        exact ret 0 (v12, f13) _ _ _ _ _ _ rfl ⟨(gsX_X6_coatLine_1_q8 c1 hG2 hG6 hG11 c14), hM_v12, hA_f13, hIv12, (hk0_v12.trans (hk0_v7.trans hk0_v3)), (hk1_v12.trans (hk1_v7.trans hk1_v3)), (hk9_v12.trans (hk9_v7.trans hk9_v3)), (hk31_v12.trans (hk31_v7.trans hk31_v3)), (Or.inr rfl)⟩ hP hD hS dX6_coatLine_143 (Nat.le_refl _) (Nat.le_refl _)
    · skip
      subst g9
      refine lv_if_ne (tgt := 44) hx hb dX6_coatLine_39 (by decide) (fun c0 => absurd (by decide) c0) (fun _ => ?_)
      refine lv_iconst (v := 0) hx hb dX6_coatLine_42 (by decide) ?_
      exact ret 0 (v7, f8) _ _ _ _ _ _ rfl ⟨(gsX_X6_coatLine_1_q9 c1 hG2 hG6), hM_v7, hA_f8, hIv7, (hk0_v7.trans hk0_v3), (hk1_v7.trans hk1_v3), (hk9_v7.trans hk9_v3), (hk31_v7.trans hk31_v3), (Or.inr rfl)⟩ hP hD hS dX6_coatLine_43 (Nat.le_refl _) (Nat.le_refl _)
  · skip
    have zc1 : ¬ ((v 10).toInt < 6) := by rw [fa_lt, show (6 : Int32).toInt = 6 from by decide] at c1; exact c1
    refine lv_aload_n hx hb dX6_coatLine_12 rfl (lv_at hl 0 rfl) ?_
    refine cbVi (n := 0) (rest := []) hx hb hml hown hts hE hP hD hS hA (sX_X6_refuse_1 NF l dC dI cy x0 x  v f hIv ) k_691 k_693 k_6 k_103 k_694 (by decide +kernel) ⟨Nat.le_of_ble_eq_true rfl, Nat.le_of_ble_eq_true rfl⟩ 3 6 rfl rfl (rfl) hl.1 rfl (Nat.le_of_ble_eq_true rfl) dX6_coatLine_13 (fun r50 u H locs hw hP hD hS => ?_)
    obtain ⟨hG51, hw⟩ := hw
    obtain ⟨v52, f53⟩ := u
    obtain ⟨kV_v52, kF_f53, hIv52, hk0_v52, hk1_v52, hk9_v52, hk10_v52, hk31_v52, hk32_v52, hw⟩ := hw
    have hM_v52 : KV [2, 3, 4, 5, 7, 8, 10] v52 v := KV.tr kV_v52 hM_v rfl
    have hA_f53 : KF [2, 8] f53 f := KF.tr kF_f53 hA_f rfl
    have hP : va_P (dC, dI) vwCl (XW cy x0 x v52 f53) H := hP
    have hD : va_D A (XW cy x0 x v52 f53) := hD
    have hq0_v52 : v52 0 = (v 0) := hk0_v52
    have hq1_v52 : v52 1 = (v 1) := hk1_v52
    have hq9_v52 : v52 9 = (v 9) := hk9_v52
    have hq10_v52 : v52 10 = (v 10) := hk10_v52
    have hq31_v52 : v52 31 = (v 31) := hk31_v52
    have hq32_v52 : v52 32 = (v 32) := hk32_v52
    rcases hw with ⟨g54⟩ | ⟨g54⟩
    · skip
      subst g54
      exact ret 1 (v52, f53) _ _ _ _ _ _ rfl ⟨(gsX_X6_coatLine_1_q10 c1 hG51), hM_v52, hA_f53, hIv52, hk0_v52, hk1_v52, hk9_v52, hk31_v52, (Or.inl rfl)⟩ hP hD hS dX6_coatLine_16 (Nat.le_refl _) (Nat.le_refl _)
    · skip
      subst g54
      exact ret 0 (v52, f53) _ _ _ _ _ _ rfl ⟨(gsX_X6_coatLine_1_q11 c1 hG51), hM_v52, hA_f53, hIv52, hk0_v52, hk1_v52, hk9_v52, hk31_v52, (Or.inr rfl)⟩ hP hD hS dX6_coatLine_16 (Nat.le_refl _) (Nat.le_refl _)
set_option maxHeartbeats 4000000 in
set_option maxRecDepth 100000 in
theorem sX_X6_opened_1 (NF : Nat) (l : Launch) (dC : Nat → ClassId) (dI : Nat → Nat → Nat) (cy : Nat → ClassId) (x0 : Nat) (x : Nat → Nat) (p1 : Int32) (v : Nat → Int32) (f : Nat → Nat → Int32) (hIv : XI v)  : ctIS l (dC, dI) cy yX6_opened cX6_opened 3 .boolean 7 191 0 0 ((Nat → Int32) × (Nat → Nat → Int32)) [.ref (x 2), .int p1] (XW cy x0 x v f) (fun r u => gsX_X6_opened_1 NF p1 v f = (r, u) ∧ KV [2, 3, 4, 5, 6, 7, 8] u.1 v ∧ KF [] u.2 f ∧ XI u.1 ∧ u.1 0 = v 0 ∧ u.1 1 = v 1 ∧ u.1 9 = v 9 ∧ u.1 10 = v 10 ∧ u.1 31 = v 31 ∧ u.1 32 = v 32 ∧ ((r = 1) ∨ (r = 0))) (fun u => XW cy x0 x u.1 u.2) := by
  refine ctIS_of (by decide) (Nat.le_of_ble_eq_true rfl) (fun p e s m below meth c A ls Q hx hb hml hts hown hE hF hT hP hD hA hl ret => ?_)
  have hM_v : KV [2, 3, 4, 5, 6, 7, 8] v v := fun _ _ => rfl
  have hA_f : KF [] f f := fun _ _ => rfl
  have hown : s.vm.findClass RX6 = some m.cls := hown
  have hS : va_S A s.heap s.heap [] := va_S.rf
  have hl : lv_has ls 3 [(0, .ref (x 2)), (1, .int p1)] := hl
  refine lv_iconst (v := 1) hx hb dX6_opened_0 (by decide) ?_
  refine lv_iload_n hx hb dX6_opened_1 rfl (lv_at hl 1 rfl) ?_
  refine lv_bipush (v := 103) hx hb dX6_opened_2 (by decide) ?_
  refine lv_isub hx hb dX6_opened_4 ?_
  refine lv_topi (fun t1 et1 => ?_)
  refine lv_ishl hx hb dX6_opened_5 ?_
  refine lv_topi (fun t2 et2 => ?_)
  refine lv_istore_n (lv' := [(2, .int t2), (0, .ref (x 2)), (1, .int p1)]) hx hb dX6_opened_6 rfl hl (by decide) rfl (fun ls hl => ?_)
  refine lv_aload_n hx hb dX6_opened_7 rfl (lv_at hl 1 rfl) ?_
  refine va_get (D := (dC, dI)) (ci := 6) (v := .int (v 6)) (C := RX6) (T := TX6) (N := 7) hx hb hts inB_6 hown hE.1 hP 3 rfl rfl 4 (by decide) (hts _ k_270) (fun _ h9 => h9) rfl dX6_opened_8 ?_
  refine lv_iload_n hx hb dX6_opened_11 rfl (lv_at hl 0 rfl) ?_
  refine lv_iand hx hb dX6_opened_12 ?_
  refine lv_topi (fun t3 et3 => ?_)
  refine lv_if_eq (tgt := 21) hx hb dX6_opened_13 (by decide) (fun c4 => ?_) (fun c4 => ?_)
  · skip
    have zc4 : t3.toInt = 0 := by rw [fa_eq, show (0 : Int32).toInt = 0 from by decide] at c4; exact c4
    refine lv_aload_n hx hb dX6_opened_21 rfl (lv_at hl 1 rfl) ?_
    refine lv_dup hx hb dX6_opened_22 rfl ?_
    refine va_get (D := (dC, dI)) (ci := 6) (v := .int (v 6)) (C := RX6) (T := TX6) (N := 7) hx hb hts inB_6 hown hE.1 hP 3 rfl rfl 4 (by decide) (hts _ k_270) (fun _ h9 => h9) rfl dX6_opened_23 ?_
    refine lv_iload_n hx hb dX6_opened_26 rfl (lv_at hl 0 rfl) ?_
    refine lv_ior hx hb dX6_opened_27 ?_
    refine lv_topi (fun t5 et5 => ?_)
    refine va_put (D := (dC, dI)) (ci := 6) (v := .int t5) (ty := tyX6 4) (C := RX6) (T := TX6) (N := 7) hx hb hts inB_6 tyX6 tyX6_ok nmX6 hown hE.1 hP hD hS 3 rfl rfl 4 (by decide) (hts _ k_270) (fun _ h9 => h9) rfl (tyX6_ok 4 (by decide)) rfl rfl (Nat.le_of_ble_eq_true rfl) dX6_opened_28 (fun H locs hP hD hS => ?_)
    have hP : va_P (dC, dI) vwCl (XW cy x0 x (upd v 6 t5) f) H := hP
    have hD : va_D A (XW cy x0 x (upd v 6 t5) f) := hD
    refine lv_aload_n hx hb dX6_opened_31 rfl (lv_at hl 1 rfl) ?_
    refine va_get (D := (dC, dI)) (ci := 6) (v := .ref (x 0)) (C := RX6) (T := TX6) (N := 7) hx hb hts inB_6 hown hE.1 hP 3 rfl rfl 0 (by decide) (hts _ k_265) (fun _ h9 => h9) rfl dX6_opened_32 ?_
    refine csVv (n := 0) (rest := []) hx hb hml hown hts hE hP hD hS hA hF hT (sX_X9_advance_1 NF l dC dI cy x0 x  (upd v 6 t5) f (XI.upd (j := 6) (x := t5) hIv (rlo _) (rhi _)) ) k_699 k_559 k_560 k_102 k_561 (by decide +kernel) ⟨Nat.le_of_ble_eq_true rfl, Nat.le_of_ble_eq_true rfl⟩ 1 9 rfl rfl (rfl) hl.1 rfl (Nat.le_of_ble_eq_true rfl) dX6_opened_35 (fun u H locs hw hP hD hS => ?_)
    obtain ⟨hG6, hw⟩ := hw
    obtain ⟨v7, f8⟩ := u
    obtain ⟨kV_v7, kF_f8, hIv7, hk0_v7, hk1_v7, hk7_v7, hk8_v7, hk9_v7, hk10_v7, hk31_v7, hk32_v7⟩ := hw
    have hM_v7 : KV [2, 3, 4, 5, 6, 7, 8] v7 v := KV.tr kV_v7 (KV.up (j := 6) (x := t5) hM_v rfl) rfl
    have hA_f8 : KF [] f8 f := KF.tr kF_f8 hA_f rfl
    have hP : va_P (dC, dI) vwCl (XW cy x0 x v7 f8) H := hP
    have hD : va_D A (XW cy x0 x v7 f8) := hD
    have hq0_v7 : v7 0 = (v 0) := hk0_v7
    have hq1_v7 : v7 1 = (v 1) := hk1_v7
    have hq7_v7 : v7 7 = (v 7) := hk7_v7
    have hq8_v7 : v7 8 = (v 8) := hk8_v7
    have hq9_v7 : v7 9 = (v 9) := hk9_v7
    have hq10_v7 : v7 10 = (v 10) := hk10_v7
    have hq31_v7 : v7 31 = (v 31) := hk31_v7
    have hq32_v7 : v7 32 = (v 32) := hk32_v7
    refine lv_iconst (v := 1) hx hb dX6_opened_38 (by decide) ?_
    exact ret 1 (v7, f8) _ _ _ _ _ _ rfl ⟨(gsX_X6_opened_1_q0 et1 et2 et3 c4 et5 hG6), hM_v7, hA_f8, hIv7, hk0_v7, hk1_v7, hk9_v7, hk10_v7, hk31_v7, hk32_v7, (Or.inl rfl)⟩ hP hD hS dX6_opened_39 (Nat.le_refl _) (Nat.le_refl _)
  · skip
    have zc4 : ¬ (t3.toInt = 0) := by rw [fa_eq, show (0 : Int32).toInt = 0 from by decide] at c4; exact c4
    refine lv_aload_n hx hb dX6_opened_16 rfl (lv_at hl 1 rfl) ?_
    refine cbVi (n := 0) (rest := []) hx hb hml hown hts hE hP hD hS hA (sX_X6_refuse_1 NF l dC dI cy x0 x  v f hIv ) k_691 k_693 k_6 k_103 k_694 (by decide +kernel) ⟨Nat.le_of_ble_eq_true rfl, Nat.le_of_ble_eq_true rfl⟩ 3 6 rfl rfl (rfl) hl.1 rfl (Nat.le_of_ble_eq_true rfl) dX6_opened_17 (fun r9 u H locs hw hP hD hS => ?_)
    obtain ⟨hG10, hw⟩ := hw
    obtain ⟨v11, f12⟩ := u
    obtain ⟨kV_v11, kF_f12, hIv11, hk0_v11, hk1_v11, hk9_v11, hk10_v11, hk31_v11, hk32_v11, hw⟩ := hw
    have hM_v11 : KV [2, 3, 4, 5, 6, 7, 8] v11 v := KV.tr kV_v11 hM_v rfl
    have hA_f12 : KF [] f12 f := KF.tr kF_f12 hA_f rfl
    have hP : va_P (dC, dI) vwCl (XW cy x0 x v11 f12) H := hP
    have hD : va_D A (XW cy x0 x v11 f12) := hD
    have hq0_v11 : v11 0 = (v 0) := hk0_v11
    have hq1_v11 : v11 1 = (v 1) := hk1_v11
    have hq9_v11 : v11 9 = (v 9) := hk9_v11
    have hq10_v11 : v11 10 = (v 10) := hk10_v11
    have hq31_v11 : v11 31 = (v 31) := hk31_v11
    have hq32_v11 : v11 32 = (v 32) := hk32_v11
    rcases hw with ⟨g13⟩ | ⟨g13⟩
    · skip
      subst g13
      exact ret 1 (v11, f12) _ _ _ _ _ _ rfl ⟨(gsX_X6_opened_1_q1 et1 et2 et3 c4 hG10), hM_v11, hA_f12, hIv11, hk0_v11, hk1_v11, hk9_v11, hk10_v11, hk31_v11, hk32_v11, (Or.inl rfl)⟩ hP hD hS dX6_opened_20 (Nat.le_refl _) (Nat.le_refl _)
    · skip
      subst g13
      exact ret 0 (v11, f12) _ _ _ _ _ _ rfl ⟨(gsX_X6_opened_1_q2 et1 et2 et3 c4 hG10), hM_v11, hA_f12, hIv11, hk0_v11, hk1_v11, hk9_v11, hk10_v11, hk31_v11, hk32_v11, (Or.inr rfl)⟩ hP hD hS dX6_opened_20 (Nat.le_refl _) (Nat.le_refl _)
