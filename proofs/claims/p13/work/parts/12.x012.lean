set_option maxHeartbeats 4000000 in
set_option maxRecDepth 100000 in
theorem sX_X6_unit_8 (NF : Nat) (l : Launch) (dC : Nat → ClassId) (dI : Nat → Nat → Nat) (cy : Nat → ClassId) (x0 : Nat) (x : Nat → Nat)  (v : Nat → Int32) (f : Nat → Nat → Int32) (hIv : XI v)  : ctIS l (dC, dI) cy yX6_unit cX6_unit 4 .boolean 7 191 0 0 ((Nat → Int32) × (Nat → Nat → Int32)) [.ref (x 2), .int 7] (XW cy x0 x v f) (fun r u => gsX_X6_unit_8 NF v f = (r, u) ∧ KV [2, 3, 4, 5, 7, 8, 16, 17] u.1 v ∧ KF [3, 4] u.2 f ∧ XI u.1 ∧ u.1 0 = v 0 ∧ u.1 1 = v 1 ∧ u.1 9 = v 9 ∧ u.1 10 = v 10 ∧ u.1 31 = v 31 ∧ u.1 32 = v 32 ∧ ((r = 1) ∨ (r = 0))) (fun u => XW cy x0 x u.1 u.2) := by
  refine ctIS_of (by decide) (Nat.le_of_ble_eq_true rfl) (fun p e s m below meth c A ls Q hx hb hml hts hown hE hF hT hP hD hA hl ret => ?_)
  have hM_v : KV [2, 3, 4, 5, 7, 8, 16, 17] v v := fun _ _ => rfl
  have hA_f : KF [3, 4] f f := fun _ _ => rfl
  have hown : s.vm.findClass RX6 = some m.cls := hown
  have hS : va_S A s.heap s.heap [] := va_S.rf
  have hl : lv_has ls 4 [(0, .ref (x 2)), (1, .int 7)] := hl
  refine lv_aload_n hx hb dX6_unit_0 rfl (lv_at hl 0 rfl) ?_
  refine va_get (D := (dC, dI)) (ci := 6) (v := .ref (x 0)) (C := RX6) (T := TX6) (N := 7) hx hb hts inB_6 hown hE.1 hP 3 rfl rfl 0 (by decide) (hts _ k_265) (fun _ h9 => h9) rfl dX6_unit_1 ?_
  refine va_getN (D := (dC, dI)) (ci := 9) (v := .int (v 2)) (C := RX9) (T := TX9) (N := 6) hx hb hts inB_9 hown hE.1 hP 1 rfl rfl 2 (by decide) (va_Nw.use rfl (hE.2 _ k_139)) (fun _ h9 => h9) rfl dX6_unit_4 ?_
  refine lv_istore_n (lv' := [(2, .int (v 2)), (0, .ref (x 2)), (1, .int 7)]) hx hb dX6_unit_7 rfl hl (by decide) rfl (fun ls hl => ?_)
  refine lv_iload_n hx hb dX6_unit_8 rfl (lv_at hl 0 rfl) ?_
  refine lv_iconst (v := 2) hx hb dX6_unit_9 (by decide) ?_
  refine lv_icmp_eq (tgt := 25) hx hb dX6_unit_10 (by decide) (fun c1 => ?_) (fun c1 => ?_)
  · skip
    have zc1 : (v 2).toInt = 2 := by rw [fa_eq, show (2 : Int32).toInt = 2 from by decide] at c1; exact c1
    refine lv_iconst (v := 1) hx hb dX6_unit_25 (by decide) ?_
    refine lv_goto (tgt := 30) hx hb dX6_unit_26 (by decide) ?_
    refine lv_istore_n (lv' := [(3, .int 1), (2, .int (v 2)), (0, .ref (x 2)), (1, .int 7)]) hx hb dX6_unit_30 rfl hl (by decide) rfl (fun ls hl => ?_)
    refine lv_iload_n hx hb dX6_unit_31 rfl (lv_at hl 0 rfl) ?_
    refine lv_if_ne (tgt := 41) hx hb dX6_unit_32 (by decide) (fun _ => ?_) (fun c0 => absurd c0 (by decide))
    refine lv_aload_n hx hb dX6_unit_41 rfl (lv_at hl 2 rfl) ?_
    refine va_get (D := (dC, dI)) (ci := 6) (v := .ref (x 3)) (C := RX6) (T := TX6) (N := 7) hx hb hts inB_6 hown hE.1 hP 3 rfl rfl 1 (by decide) (hts _ k_266) (fun _ h9 => h9) rfl dX6_unit_42 ?_
    refine va_getN (D := (dC, dI)) (ci := 7) (v := .ref (x 6)) (C := RX7) (T := TX7) (N := 10) hx hb hts inB_7 hown hE.1 hP 4 rfl rfl 2 (by decide) (va_Nw.use rfl (hE.2 _ k_210)) (fun _ h9 => h9) rfl dX6_unit_45 ?_
    refine va_getN (D := (dC, dI)) (ci := 4) (v := .int (v 17)) (C := RX4) (T := TX4) (N := 6) hx hb hts inB_4 hown hE.1 hP 7 rfl rfl 5 (by decide) (va_Nw.use rfl (hE.2 _ k_184)) (fun _ h9 => h9) rfl dX6_unit_48 ?_
    refine lv_bipush (v := 30) hx hb dX6_unit_51 (by decide) ?_
    refine lv_icmp_lt (tgt := 61) hx hb dX6_unit_53 (by decide) (fun c2 => ?_) (fun c2 => ?_)
    · skip
      have zc2 : (v 17).toInt < 30 := by rw [fa_lt, show (30 : Int32).toInt = 30 from by decide] at c2; exact c2
      refine lv_iload_n hx hb dX6_unit_61 rfl (lv_at hl 0 rfl) ?_
      refine lv_if_eq (tgt := 108) hx hb dX6_unit_62 (by decide) (fun c0 => absurd c0 (by decide)) (fun _ => ?_)
      refine lv_aload_n hx hb dX6_unit_65 rfl (lv_at hl 2 rfl) ?_
      refine va_get (D := (dC, dI)) (ci := 6) (v := .ref (x 3)) (C := RX6) (T := TX6) (N := 7) hx hb hts inB_6 hown hE.1 hP 3 rfl rfl 1 (by decide) (hts _ k_266) (fun _ h9 => h9) rfl dX6_unit_66 ?_
      refine va_getN (D := (dC, dI)) (ci := 7) (v := .ref (x 6)) (C := RX7) (T := TX7) (N := 10) hx hb hts inB_7 hown hE.1 hP 4 rfl rfl 2 (by decide) (va_Nw.use rfl (hE.2 _ k_210)) (fun _ h9 => h9) rfl dX6_unit_69 ?_
      refine lv_iload_n hx hb dX6_unit_72 rfl (lv_at hl 1 rfl) ?_
      refine lv_aload_n hx hb dX6_unit_73 rfl (lv_at hl 2 rfl) ?_
      refine va_get (D := (dC, dI)) (ci := 6) (v := .ref (x 0)) (C := RX6) (T := TX6) (N := 7) hx hb hts inB_6 hown hE.1 hP 3 rfl rfl 0 (by decide) (hts _ k_265) (fun _ h9 => h9) rfl dX6_unit_74 ?_
      refine va_getN (D := (dC, dI)) (ci := 9) (v := .int (v 5)) (C := RX9) (T := TX9) (N := 6) hx hb hts inB_9 hown hE.1 hP 1 rfl rfl 5 (by decide) (va_Nw.use rfl (hE.2 _ k_145)) (fun _ h9 => h9) rfl dX6_unit_77 ?_
      refine cbVv (n := 2) (rest := []) hx hb hml hown hts hE hP hD hS hA (sX_X4_add_1 NF l dC dI cy x0 x (v 2) (v 5) v f hIv ) k_748 k_749 k_750 k_105 k_751 (by decide +kernel) ⟨Nat.le_of_ble_eq_true rfl, Nat.le_of_ble_eq_true rfl⟩ 7 4 rfl rfl (rfl) hl.1 rfl (Nat.le_of_ble_eq_true rfl) dX6_unit_80 (fun u H locs hw hP hD hS => ?_)
      obtain ⟨hG3, hw⟩ := hw
      obtain ⟨v4, f5⟩ := u
      obtain ⟨kV_v4, kF_f5, hIv4, hk0_v4, hk1_v4, hk7_v4, hk8_v4, hk9_v4, hk10_v4, hk31_v4, hk32_v4⟩ := hw
      have hM_v4 : KV [2, 3, 4, 5, 7, 8, 16, 17] v4 v := KV.tr kV_v4 hM_v rfl
      have hA_f5 : KF [3, 4] f5 f := KF.tr kF_f5 hA_f rfl
      have hP : va_P (dC, dI) vwCl (XW cy x0 x v4 f5) H := hP
      have hD : va_D A (XW cy x0 x v4 f5) := hD
      have hq0_v4 : v4 0 = (v 0) := hk0_v4
      have hq1_v4 : v4 1 = (v 1) := hk1_v4
      have hq7_v4 : v4 7 = (v 7) := hk7_v4
      have hq8_v4 : v4 8 = (v 8) := hk8_v4
      have hq9_v4 : v4 9 = (v 9) := hk9_v4
      have hq10_v4 : v4 10 = (v 10) := hk10_v4
      have hq31_v4 : v4 31 = (v 31) := hk31_v4
      have hq32_v4 : v4 32 = (v 32) := hk32_v4
      refine lv_aload_n hx hb dX6_unit_83 rfl (lv_at hl 2 rfl) ?_
      refine va_get (D := (dC, dI)) (ci := 6) (v := .ref (x 3)) (C := RX6) (T := TX6) (N := 7) hx hb hts inB_6 hown hE.1 hP 3 rfl rfl 1 (by decide) (hts _ k_266) (fun _ h9 => h9) rfl dX6_unit_84 ?_
      refine va_getN (D := (dC, dI)) (ci := 7) (v := .ref (x 6)) (C := RX7) (T := TX7) (N := 10) hx hb hts inB_7 hown hE.1 hP 4 rfl rfl 2 (by decide) (va_Nw.use rfl (hE.2 _ k_210)) (fun _ h9 => h9) rfl dX6_unit_87 ?_
      refine lv_dup hx hb dX6_unit_90 rfl ?_
      refine va_getN (D := (dC, dI)) (ci := 4) (v := .int (v4 17)) (C := RX4) (T := TX4) (N := 6) hx hb hts inB_4 hown hE.1 hP 7 rfl rfl 5 (by decide) (va_Nw.use rfl (hE.2 _ k_184)) (fun _ h9 => h9) rfl dX6_unit_91 ?_
      refine lv_iconst (v := 1) hx hb dX6_unit_94 (by decide) ?_
      refine lv_iadd hx hb dX6_unit_95 ?_
      refine lv_topi (fun t6 et6 => ?_)
      refine va_putN (D := (dC, dI)) (ci := 4) (v := .int t6) (ty := tyX4 5) (C := RX4) (T := TX4) (N := 6) hx hb hts inB_4 tyX4 tyX4_ok nmX4 hown hE.1 hP hD hS 7 rfl rfl 5 (by decide) (va_Nw.use rfl (hE.2 _ k_184)) (fun _ h9 => h9) rfl (tyX4_ok 5 (by decide)) rfl rfl (Nat.le_of_ble_eq_true rfl) dX6_unit_96 (fun H locs hP hD hS => ?_)
      have hP : va_P (dC, dI) vwCl (XW cy x0 x (upd v4 17 t6) f5) H := hP
      have hD : va_D A (XW cy x0 x (upd v4 17 t6) f5) := hD
      refine lv_aload_n hx hb dX6_unit_99 rfl (lv_at hl 2 rfl) ?_
      refine va_get (D := (dC, dI)) (ci := 6) (v := .ref (x 0)) (C := RX6) (T := TX6) (N := 7) hx hb hts inB_6 hown hE.1 hP 3 rfl rfl 0 (by decide) (hts _ k_265) (fun _ h9 => h9) rfl dX6_unit_100 ?_
      refine csVv (n := 0) (rest := []) hx hb hml hown hts hE hP hD hS hA hF hT (sX_X9_advance_1 NF l dC dI cy x0 x  (upd v4 17 t6) f5 (XI.upd (j := 17) (x := t6) hIv4 (rlo _) (rhi _)) ) k_699 k_559 k_560 k_102 k_561 (by decide +kernel) ⟨Nat.le_of_ble_eq_true rfl, Nat.le_of_ble_eq_true rfl⟩ 1 9 rfl rfl (rfl) hl.1 rfl (Nat.le_of_ble_eq_true rfl) dX6_unit_103 (fun u H locs hw hP hD hS => ?_)
      obtain ⟨hG7, hw⟩ := hw
      obtain ⟨v8, f9⟩ := u
      obtain ⟨kV_v8, kF_f9, hIv8, hk0_v8, hk1_v8, hk7_v8, hk8_v8, hk9_v8, hk10_v8, hk31_v8, hk32_v8⟩ := hw
      have hM_v8 : KV [2, 3, 4, 5, 7, 8, 16, 17] v8 v := KV.tr kV_v8 (KV.up (j := 17) (x := t6) hM_v4 rfl) rfl
      have hA_f9 : KF [3, 4] f9 f := KF.tr kF_f9 hA_f5 rfl
      have hP : va_P (dC, dI) vwCl (XW cy x0 x v8 f9) H := hP
      have hD : va_D A (XW cy x0 x v8 f9) := hD
      have hq0_v8 : v8 0 = (v 0) := hk0_v8.trans hq0_v4
      have hq1_v8 : v8 1 = (v 1) := hk1_v8.trans hq1_v4
      have hq7_v8 : v8 7 = (v 7) := hk7_v8.trans hq7_v4
      have hq8_v8 : v8 8 = (v 8) := hk8_v8.trans hq8_v4
      have hq9_v8 : v8 9 = (v 9) := hk9_v8.trans hq9_v4
      have hq10_v8 : v8 10 = (v 10) := hk10_v8.trans hq10_v4
      have hq31_v8 : v8 31 = (v 31) := hk31_v8.trans hq31_v4
      have hq32_v8 : v8 32 = (v 32) := hk32_v8.trans hq32_v4
      refine lv_iconst (v := 1) hx hb dX6_unit_106 (by decide) ?_
      exact ret 1 (v8, f9) _ _ _ _ _ _ rfl ⟨(gsX_X6_unit_8_q0 c1 c2 hG3 et6 hG7), hM_v8, hA_f9, hIv8, (hk0_v8.trans hk0_v4), (hk1_v8.trans hk1_v4), (hk9_v8.trans hk9_v4), (hk10_v8.trans hk10_v4), (hk31_v8.trans hk31_v4), (hk32_v8.trans hk32_v4), (Or.inl rfl)⟩ hP hD hS dX6_unit_107 (Nat.le_refl _) (Nat.le_refl _)
    · skip
      have zc2 : ¬ ((v 17).toInt < 30) := by rw [fa_lt, show (30 : Int32).toInt = 30 from by decide] at c2; exact c2
      refine lv_aload_n hx hb dX6_unit_56 rfl (lv_at hl 2 rfl) ?_
      refine cbVi (n := 0) (rest := []) hx hb hml hown hts hE hP hD hS hA (sX_X6_refuse_1 NF l dC dI cy x0 x  v f hIv ) k_691 k_693 k_6 k_103 k_694 (by decide +kernel) ⟨Nat.le_of_ble_eq_true rfl, Nat.le_of_ble_eq_true rfl⟩ 3 6 rfl rfl (rfl) hl.1 rfl (Nat.le_of_ble_eq_true rfl) dX6_unit_57 (fun r10 u H locs hw hP hD hS => ?_)
      obtain ⟨hG11, hw⟩ := hw
      obtain ⟨v12, f13⟩ := u
      obtain ⟨kV_v12, kF_f13, hIv12, hk0_v12, hk1_v12, hk9_v12, hk10_v12, hk31_v12, hk32_v12, hw⟩ := hw
      have hM_v12 : KV [2, 3, 4, 5, 7, 8, 16, 17] v12 v := KV.tr kV_v12 hM_v rfl
      have hA_f13 : KF [3, 4] f13 f := KF.tr kF_f13 hA_f rfl
      have hP : va_P (dC, dI) vwCl (XW cy x0 x v12 f13) H := hP
      have hD : va_D A (XW cy x0 x v12 f13) := hD
      have hq0_v12 : v12 0 = (v 0) := hk0_v12
      have hq1_v12 : v12 1 = (v 1) := hk1_v12
      have hq9_v12 : v12 9 = (v 9) := hk9_v12
      have hq10_v12 : v12 10 = (v 10) := hk10_v12
      have hq31_v12 : v12 31 = (v 31) := hk31_v12
      have hq32_v12 : v12 32 = (v 32) := hk32_v12
      rcases hw with ⟨g14⟩ | ⟨g14⟩
      · skip
        subst g14
        exact ret 1 (v12, f13) _ _ _ _ _ _ rfl ⟨(gsX_X6_unit_8_q1 c1 c2 hG11), hM_v12, hA_f13, hIv12, hk0_v12, hk1_v12, hk9_v12, hk10_v12, hk31_v12, hk32_v12, (Or.inl rfl)⟩ hP hD hS dX6_unit_60 (Nat.le_refl _) (Nat.le_refl _)
      · skip
        subst g14
        exact ret 0 (v12, f13) _ _ _ _ _ _ rfl ⟨(gsX_X6_unit_8_q2 c1 c2 hG11), hM_v12, hA_f13, hIv12, hk0_v12, hk1_v12, hk9_v12, hk10_v12, hk31_v12, hk32_v12, (Or.inr rfl)⟩ hP hD hS dX6_unit_60 (Nat.le_refl _) (Nat.le_refl _)
  · skip
    have zc1 : ¬ ((v 2).toInt = 2) := by rw [fa_eq, show (2 : Int32).toInt = 2 from by decide] at c1; exact c1
    refine lv_iload_n hx hb dX6_unit_13 rfl (lv_at hl 0 rfl) ?_
    refine lv_bipush (v := 116) hx hb dX6_unit_14 (by decide) ?_
    refine lv_icmp_lt (tgt := 29) hx hb dX6_unit_16 (by decide) (fun c15 => ?_) (fun c15 => ?_)
    · skip
      have zc15 : (v 2).toInt < 116 := by rw [fa_lt, show (116 : Int32).toInt = 116 from by decide] at c15; exact c15
      refine lv_iconst (v := 0) hx hb dX6_unit_29 (by decide) ?_
      refine lv_istore_n (lv' := [(3, .int 0), (2, .int (v 2)), (0, .ref (x 2)), (1, .int 7)]) hx hb dX6_unit_30 rfl hl (by decide) rfl (fun ls hl => ?_)
      refine lv_iload_n hx hb dX6_unit_31 rfl (lv_at hl 0 rfl) ?_
      refine lv_if_ne (tgt := 41) hx hb dX6_unit_32 (by decide) (fun c0 => absurd (by decide) c0) (fun _ => ?_)
      refine lv_iload_n hx hb dX6_unit_35 rfl (lv_at hl 1 rfl) ?_
      refine lv_bipush (v := 40) hx hb dX6_unit_36 (by decide) ?_
      refine lv_icmp_ne (tgt := 56) hx hb dX6_unit_38 (by decide) (fun c16 => ?_) (fun c16 => ?_)
      · skip
        have zc16 : ¬ ((v 2).toInt = 40) := by rw [fa_eq, show (40 : Int32).toInt = 40 from by decide] at c16; exact c16
        refine lv_aload_n hx hb dX6_unit_56 rfl (lv_at hl 2 rfl) ?_
        refine cbVi (n := 0) (rest := []) hx hb hml hown hts hE hP hD hS hA (sX_X6_refuse_1 NF l dC dI cy x0 x  v f hIv ) k_691 k_693 k_6 k_103 k_694 (by decide +kernel) ⟨Nat.le_of_ble_eq_true rfl, Nat.le_of_ble_eq_true rfl⟩ 3 6 rfl rfl (rfl) hl.1 rfl (Nat.le_of_ble_eq_true rfl) dX6_unit_57 (fun r17 u H locs hw hP hD hS => ?_)
        obtain ⟨hG18, hw⟩ := hw
        obtain ⟨v19, f20⟩ := u
        obtain ⟨kV_v19, kF_f20, hIv19, hk0_v19, hk1_v19, hk9_v19, hk10_v19, hk31_v19, hk32_v19, hw⟩ := hw
        have hM_v19 : KV [2, 3, 4, 5, 7, 8, 16, 17] v19 v := KV.tr kV_v19 hM_v rfl
        have hA_f20 : KF [3, 4] f20 f := KF.tr kF_f20 hA_f rfl
        have hP : va_P (dC, dI) vwCl (XW cy x0 x v19 f20) H := hP
        have hD : va_D A (XW cy x0 x v19 f20) := hD
        have hq0_v19 : v19 0 = (v 0) := hk0_v19
        have hq1_v19 : v19 1 = (v 1) := hk1_v19
        have hq9_v19 : v19 9 = (v 9) := hk9_v19
        have hq10_v19 : v19 10 = (v 10) := hk10_v19
        have hq31_v19 : v19 31 = (v 31) := hk31_v19
        have hq32_v19 : v19 32 = (v 32) := hk32_v19
        rcases hw with ⟨g21⟩ | ⟨g21⟩
        · skip
          subst g21
          exact ret 1 (v19, f20) _ _ _ _ _ _ rfl ⟨(gsX_X6_unit_8_q3 c1 c15 c16 hG18), hM_v19, hA_f20, hIv19, hk0_v19, hk1_v19, hk9_v19, hk10_v19, hk31_v19, hk32_v19, (Or.inl rfl)⟩ hP hD hS dX6_unit_60 (Nat.le_refl _) (Nat.le_refl _)
        · skip
          subst g21
          exact ret 0 (v19, f20) _ _ _ _ _ _ rfl ⟨(gsX_X6_unit_8_q4 c1 c15 c16 hG18), hM_v19, hA_f20, hIv19, hk0_v19, hk1_v19, hk9_v19, hk10_v19, hk31_v19, hk32_v19, (Or.inr rfl)⟩ hP hD hS dX6_unit_60 (Nat.le_refl _) (Nat.le_refl _)
      · skip
        have zc16 : (v 2).toInt = 40 := by rw [fa_eq, show (40 : Int32).toInt = 40 from by decide] at c16; exact c16
        refine lv_aload_n hx hb dX6_unit_41 rfl (lv_at hl 2 rfl) ?_
        refine va_get (D := (dC, dI)) (ci := 6) (v := .ref (x 3)) (C := RX6) (T := TX6) (N := 7) hx hb hts inB_6 hown hE.1 hP 3 rfl rfl 1 (by decide) (hts _ k_266) (fun _ h9 => h9) rfl dX6_unit_42 ?_
        refine va_getN (D := (dC, dI)) (ci := 7) (v := .ref (x 6)) (C := RX7) (T := TX7) (N := 10) hx hb hts inB_7 hown hE.1 hP 4 rfl rfl 2 (by decide) (va_Nw.use rfl (hE.2 _ k_210)) (fun _ h9 => h9) rfl dX6_unit_45 ?_
        refine va_getN (D := (dC, dI)) (ci := 4) (v := .int (v 17)) (C := RX4) (T := TX4) (N := 6) hx hb hts inB_4 hown hE.1 hP 7 rfl rfl 5 (by decide) (va_Nw.use rfl (hE.2 _ k_184)) (fun _ h9 => h9) rfl dX6_unit_48 ?_
        refine lv_bipush (v := 30) hx hb dX6_unit_51 (by decide) ?_
        refine lv_icmp_lt (tgt := 61) hx hb dX6_unit_53 (by decide) (fun c22 => ?_) (fun c22 => ?_)
        · skip
          have zc22 : (v 17).toInt < 30 := by rw [fa_lt, show (30 : Int32).toInt = 30 from by decide] at c22; exact c22
          refine lv_iload_n hx hb dX6_unit_61 rfl (lv_at hl 0 rfl) ?_
          refine lv_if_eq (tgt := 108) hx hb dX6_unit_62 (by decide) (fun _ => ?_) (fun c0 => absurd (by decide) c0)
          refine lv_iload_n hx hb dX6_unit_108 rfl (lv_at hl 3 rfl) ?_
          refine lv_bipush (v := 7) hx hb dX6_unit_109 (by decide) ?_
          refine lv_icmp_lt (tgt := 119) hx hb dX6_unit_111 (by decide) (fun c0 => absurd c0 (by decide)) (fun _ => ?_)
          refine lv_aload_n hx hb dX6_unit_114 rfl (lv_at hl 2 rfl) ?_
          refine cbVi (n := 0) (rest := []) hx hb hml hown hts hE hP hD hS hA (sX_X6_refuse_1 NF l dC dI cy x0 x  v f hIv ) k_691 k_693 k_6 k_103 k_694 (by decide +kernel) ⟨Nat.le_of_ble_eq_true rfl, Nat.le_of_ble_eq_true rfl⟩ 3 6 rfl rfl (rfl) hl.1 rfl (Nat.le_of_ble_eq_true rfl) dX6_unit_115 (fun r23 u H locs hw hP hD hS => ?_)
          obtain ⟨hG24, hw⟩ := hw
          obtain ⟨v25, f26⟩ := u
          obtain ⟨kV_v25, kF_f26, hIv25, hk0_v25, hk1_v25, hk9_v25, hk10_v25, hk31_v25, hk32_v25, hw⟩ := hw
          have hM_v25 : KV [2, 3, 4, 5, 7, 8, 16, 17] v25 v := KV.tr kV_v25 hM_v rfl
          have hA_f26 : KF [3, 4] f26 f := KF.tr kF_f26 hA_f rfl
          have hP : va_P (dC, dI) vwCl (XW cy x0 x v25 f26) H := hP
          have hD : va_D A (XW cy x0 x v25 f26) := hD
          have hq0_v25 : v25 0 = (v 0) := hk0_v25
          have hq1_v25 : v25 1 = (v 1) := hk1_v25
          have hq9_v25 : v25 9 = (v 9) := hk9_v25
          have hq10_v25 : v25 10 = (v 10) := hk10_v25
          have hq31_v25 : v25 31 = (v 31) := hk31_v25
          have hq32_v25 : v25 32 = (v 32) := hk32_v25
          rcases hw with ⟨g27⟩ | ⟨g27⟩
          · skip
            subst g27
            exact ret 1 (v25, f26) _ _ _ _ _ _ rfl ⟨(gsX_X6_unit_8_q5 c1 c15 c16 c22 hG24), hM_v25, hA_f26, hIv25, hk0_v25, hk1_v25, hk9_v25, hk10_v25, hk31_v25, hk32_v25, (Or.inl rfl)⟩ hP hD hS dX6_unit_118 (Nat.le_refl _) (Nat.le_refl _)
          · skip
            subst g27
            exact ret 0 (v25, f26) _ _ _ _ _ _ rfl ⟨(gsX_X6_unit_8_q6 c1 c15 c16 c22 hG24), hM_v25, hA_f26, hIv25, hk0_v25, hk1_v25, hk9_v25, hk10_v25, hk31_v25, hk32_v25, (Or.inr rfl)⟩ hP hD hS dX6_unit_118 (Nat.le_refl _) (Nat.le_refl _)
        · skip
          have zc22 : ¬ ((v 17).toInt < 30) := by rw [fa_lt, show (30 : Int32).toInt = 30 from by decide] at c22; exact c22
          refine lv_aload_n hx hb dX6_unit_56 rfl (lv_at hl 2 rfl) ?_
          refine cbVi (n := 0) (rest := []) hx hb hml hown hts hE hP hD hS hA (sX_X6_refuse_1 NF l dC dI cy x0 x  v f hIv ) k_691 k_693 k_6 k_103 k_694 (by decide +kernel) ⟨Nat.le_of_ble_eq_true rfl, Nat.le_of_ble_eq_true rfl⟩ 3 6 rfl rfl (rfl) hl.1 rfl (Nat.le_of_ble_eq_true rfl) dX6_unit_57 (fun r28 u H locs hw hP hD hS => ?_)
          obtain ⟨hG29, hw⟩ := hw
          obtain ⟨v30, f31⟩ := u
          obtain ⟨kV_v30, kF_f31, hIv30, hk0_v30, hk1_v30, hk9_v30, hk10_v30, hk31_v30, hk32_v30, hw⟩ := hw
          have hM_v30 : KV [2, 3, 4, 5, 7, 8, 16, 17] v30 v := KV.tr kV_v30 hM_v rfl
          have hA_f31 : KF [3, 4] f31 f := KF.tr kF_f31 hA_f rfl
          have hP : va_P (dC, dI) vwCl (XW cy x0 x v30 f31) H := hP
          have hD : va_D A (XW cy x0 x v30 f31) := hD
          have hq0_v30 : v30 0 = (v 0) := hk0_v30
          have hq1_v30 : v30 1 = (v 1) := hk1_v30
          have hq9_v30 : v30 9 = (v 9) := hk9_v30
          have hq10_v30 : v30 10 = (v 10) := hk10_v30
          have hq31_v30 : v30 31 = (v 31) := hk31_v30
          have hq32_v30 : v30 32 = (v 32) := hk32_v30
          rcases hw with ⟨g32⟩ | ⟨g32⟩
          · skip
            subst g32
            exact ret 1 (v30, f31) _ _ _ _ _ _ rfl ⟨(gsX_X6_unit_8_q7 c1 c15 c16 c22 hG29), hM_v30, hA_f31, hIv30, hk0_v30, hk1_v30, hk9_v30, hk10_v30, hk31_v30, hk32_v30, (Or.inl rfl)⟩ hP hD hS dX6_unit_60 (Nat.le_refl _) (Nat.le_refl _)
          · skip
            subst g32
            exact ret 0 (v30, f31) _ _ _ _ _ _ rfl ⟨(gsX_X6_unit_8_q8 c1 c15 c16 c22 hG29), hM_v30, hA_f31, hIv30, hk0_v30, hk1_v30, hk9_v30, hk10_v30, hk31_v30, hk32_v30, (Or.inr rfl)⟩ hP hD hS dX6_unit_60 (Nat.le_refl _) (Nat.le_refl _)
    · skip
      have zc15 : ¬ ((v 2).toInt < 116) := by rw [fa_lt, show (116 : Int32).toInt = 116 from by decide] at c15; exact c15
      refine lv_iload_n hx hb dX6_unit_19 rfl (lv_at hl 0 rfl) ?_
      refine lv_bipush (v := 121) hx hb dX6_unit_20 (by decide) ?_
      refine lv_icmp_gt (tgt := 29) hx hb dX6_unit_22 (by decide) (fun c33 => ?_) (fun c33 => ?_)
      · skip
        have zc33 : 121 < (v 2).toInt := by rw [fa_lt, show (121 : Int32).toInt = 121 from by decide] at c33; exact c33
        refine lv_iconst (v := 0) hx hb dX6_unit_29 (by decide) ?_
        refine lv_istore_n (lv' := [(3, .int 0), (2, .int (v 2)), (0, .ref (x 2)), (1, .int 7)]) hx hb dX6_unit_30 rfl hl (by decide) rfl (fun ls hl => ?_)
        refine lv_iload_n hx hb dX6_unit_31 rfl (lv_at hl 0 rfl) ?_
        refine lv_if_ne (tgt := 41) hx hb dX6_unit_32 (by decide) (fun c0 => absurd (by decide) c0) (fun _ => ?_)
        refine lv_iload_n hx hb dX6_unit_35 rfl (lv_at hl 1 rfl) ?_
        refine lv_bipush (v := 40) hx hb dX6_unit_36 (by decide) ?_
        refine lv_icmp_ne (tgt := 56) hx hb dX6_unit_38 (by decide) (fun c34 => ?_) (fun c34 => ?_)
        · skip
          have zc34 : ¬ ((v 2).toInt = 40) := by rw [fa_eq, show (40 : Int32).toInt = 40 from by decide] at c34; exact c34
          refine lv_aload_n hx hb dX6_unit_56 rfl (lv_at hl 2 rfl) ?_
          refine cbVi (n := 0) (rest := []) hx hb hml hown hts hE hP hD hS hA (sX_X6_refuse_1 NF l dC dI cy x0 x  v f hIv ) k_691 k_693 k_6 k_103 k_694 (by decide +kernel) ⟨Nat.le_of_ble_eq_true rfl, Nat.le_of_ble_eq_true rfl⟩ 3 6 rfl rfl (rfl) hl.1 rfl (Nat.le_of_ble_eq_true rfl) dX6_unit_57 (fun r35 u H locs hw hP hD hS => ?_)
          obtain ⟨hG36, hw⟩ := hw
          obtain ⟨v37, f38⟩ := u
          obtain ⟨kV_v37, kF_f38, hIv37, hk0_v37, hk1_v37, hk9_v37, hk10_v37, hk31_v37, hk32_v37, hw⟩ := hw
          have hM_v37 : KV [2, 3, 4, 5, 7, 8, 16, 17] v37 v := KV.tr kV_v37 hM_v rfl
          have hA_f38 : KF [3, 4] f38 f := KF.tr kF_f38 hA_f rfl
          have hP : va_P (dC, dI) vwCl (XW cy x0 x v37 f38) H := hP
          have hD : va_D A (XW cy x0 x v37 f38) := hD
          have hq0_v37 : v37 0 = (v 0) := hk0_v37
          have hq1_v37 : v37 1 = (v 1) := hk1_v37
          have hq9_v37 : v37 9 = (v 9) := hk9_v37
          have hq10_v37 : v37 10 = (v 10) := hk10_v37
          have hq31_v37 : v37 31 = (v 31) := hk31_v37
          have hq32_v37 : v37 32 = (v 32) := hk32_v37
          rcases hw with ⟨g39⟩ | ⟨g39⟩
          · skip
            subst g39
            exact ret 1 (v37, f38) _ _ _ _ _ _ rfl ⟨(gsX_X6_unit_8_q9 c1 c15 c33 c34 hG36), hM_v37, hA_f38, hIv37, hk0_v37, hk1_v37, hk9_v37, hk10_v37, hk31_v37, hk32_v37, (Or.inl rfl)⟩ hP hD hS dX6_unit_60 (Nat.le_refl _) (Nat.le_refl _)
          · skip
            subst g39
            exact ret 0 (v37, f38) _ _ _ _ _ _ rfl ⟨(gsX_X6_unit_8_q10 c1 c15 c33 c34 hG36), hM_v37, hA_f38, hIv37, hk0_v37, hk1_v37, hk9_v37, hk10_v37, hk31_v37, hk32_v37, (Or.inr rfl)⟩ hP hD hS dX6_unit_60 (Nat.le_refl _) (Nat.le_refl _)
        · skip
          have zc34 : (v 2).toInt = 40 := by rw [fa_eq, show (40 : Int32).toInt = 40 from by decide] at c34; exact c34
          refine lv_aload_n hx hb dX6_unit_41 rfl (lv_at hl 2 rfl) ?_
          refine va_get (D := (dC, dI)) (ci := 6) (v := .ref (x 3)) (C := RX6) (T := TX6) (N := 7) hx hb hts inB_6 hown hE.1 hP 3 rfl rfl 1 (by decide) (hts _ k_266) (fun _ h9 => h9) rfl dX6_unit_42 ?_
          refine va_getN (D := (dC, dI)) (ci := 7) (v := .ref (x 6)) (C := RX7) (T := TX7) (N := 10) hx hb hts inB_7 hown hE.1 hP 4 rfl rfl 2 (by decide) (va_Nw.use rfl (hE.2 _ k_210)) (fun _ h9 => h9) rfl dX6_unit_45 ?_
          refine va_getN (D := (dC, dI)) (ci := 4) (v := .int (v 17)) (C := RX4) (T := TX4) (N := 6) hx hb hts inB_4 hown hE.1 hP 7 rfl rfl 5 (by decide) (va_Nw.use rfl (hE.2 _ k_184)) (fun _ h9 => h9) rfl dX6_unit_48 ?_
          refine lv_bipush (v := 30) hx hb dX6_unit_51 (by decide) ?_
          refine lv_icmp_lt (tgt := 61) hx hb dX6_unit_53 (by decide) (fun c40 => ?_) (fun c40 => ?_)
          · skip
            have zc40 : (v 17).toInt < 30 := by rw [fa_lt, show (30 : Int32).toInt = 30 from by decide] at c40; exact c40
            refine lv_iload_n hx hb dX6_unit_61 rfl (lv_at hl 0 rfl) ?_
            refine lv_if_eq (tgt := 108) hx hb dX6_unit_62 (by decide) (fun _ => ?_) (fun c0 => absurd (by decide) c0)
            refine lv_iload_n hx hb dX6_unit_108 rfl (lv_at hl 3 rfl) ?_
            refine lv_bipush (v := 7) hx hb dX6_unit_109 (by decide) ?_
            refine lv_icmp_lt (tgt := 119) hx hb dX6_unit_111 (by decide) (fun c0 => absurd c0 (by decide)) (fun _ => ?_)
            refine lv_aload_n hx hb dX6_unit_114 rfl (lv_at hl 2 rfl) ?_
            refine cbVi (n := 0) (rest := []) hx hb hml hown hts hE hP hD hS hA (sX_X6_refuse_1 NF l dC dI cy x0 x  v f hIv ) k_691 k_693 k_6 k_103 k_694 (by decide +kernel) ⟨Nat.le_of_ble_eq_true rfl, Nat.le_of_ble_eq_true rfl⟩ 3 6 rfl rfl (rfl) hl.1 rfl (Nat.le_of_ble_eq_true rfl) dX6_unit_115 (fun r41 u H locs hw hP hD hS => ?_)
            obtain ⟨hG42, hw⟩ := hw
            obtain ⟨v43, f44⟩ := u
            obtain ⟨kV_v43, kF_f44, hIv43, hk0_v43, hk1_v43, hk9_v43, hk10_v43, hk31_v43, hk32_v43, hw⟩ := hw
            have hM_v43 : KV [2, 3, 4, 5, 7, 8, 16, 17] v43 v := KV.tr kV_v43 hM_v rfl
            have hA_f44 : KF [3, 4] f44 f := KF.tr kF_f44 hA_f rfl
            have hP : va_P (dC, dI) vwCl (XW cy x0 x v43 f44) H := hP
            have hD : va_D A (XW cy x0 x v43 f44) := hD
            have hq0_v43 : v43 0 = (v 0) := hk0_v43
            have hq1_v43 : v43 1 = (v 1) := hk1_v43
            have hq9_v43 : v43 9 = (v 9) := hk9_v43
            have hq10_v43 : v43 10 = (v 10) := hk10_v43
            have hq31_v43 : v43 31 = (v 31) := hk31_v43
            have hq32_v43 : v43 32 = (v 32) := hk32_v43
            rcases hw with ⟨g45⟩ | ⟨g45⟩
            · skip
              subst g45
              exact ret 1 (v43, f44) _ _ _ _ _ _ rfl ⟨(gsX_X6_unit_8_q11 c1 c15 c33 c34 c40 hG42), hM_v43, hA_f44, hIv43, hk0_v43, hk1_v43, hk9_v43, hk10_v43, hk31_v43, hk32_v43, (Or.inl rfl)⟩ hP hD hS dX6_unit_118 (Nat.le_refl _) (Nat.le_refl _)
            · skip
              subst g45
              exact ret 0 (v43, f44) _ _ _ _ _ _ rfl ⟨(gsX_X6_unit_8_q12 c1 c15 c33 c34 c40 hG42), hM_v43, hA_f44, hIv43, hk0_v43, hk1_v43, hk9_v43, hk10_v43, hk31_v43, hk32_v43, (Or.inr rfl)⟩ hP hD hS dX6_unit_118 (Nat.le_refl _) (Nat.le_refl _)
          · skip
            have zc40 : ¬ ((v 17).toInt < 30) := by rw [fa_lt, show (30 : Int32).toInt = 30 from by decide] at c40; exact c40
            refine lv_aload_n hx hb dX6_unit_56 rfl (lv_at hl 2 rfl) ?_
            refine cbVi (n := 0) (rest := []) hx hb hml hown hts hE hP hD hS hA (sX_X6_refuse_1 NF l dC dI cy x0 x  v f hIv ) k_691 k_693 k_6 k_103 k_694 (by decide +kernel) ⟨Nat.le_of_ble_eq_true rfl, Nat.le_of_ble_eq_true rfl⟩ 3 6 rfl rfl (rfl) hl.1 rfl (Nat.le_of_ble_eq_true rfl) dX6_unit_57 (fun r46 u H locs hw hP hD hS => ?_)
            obtain ⟨hG47, hw⟩ := hw
            obtain ⟨v48, f49⟩ := u
            obtain ⟨kV_v48, kF_f49, hIv48, hk0_v48, hk1_v48, hk9_v48, hk10_v48, hk31_v48, hk32_v48, hw⟩ := hw
            have hM_v48 : KV [2, 3, 4, 5, 7, 8, 16, 17] v48 v := KV.tr kV_v48 hM_v rfl
            have hA_f49 : KF [3, 4] f49 f := KF.tr kF_f49 hA_f rfl
            have hP : va_P (dC, dI) vwCl (XW cy x0 x v48 f49) H := hP
            have hD : va_D A (XW cy x0 x v48 f49) := hD
            have hq0_v48 : v48 0 = (v 0) := hk0_v48
            have hq1_v48 : v48 1 = (v 1) := hk1_v48
            have hq9_v48 : v48 9 = (v 9) := hk9_v48
            have hq10_v48 : v48 10 = (v 10) := hk10_v48
            have hq31_v48 : v48 31 = (v 31) := hk31_v48
            have hq32_v48 : v48 32 = (v 32) := hk32_v48
            rcases hw with ⟨g50⟩ | ⟨g50⟩
            · skip
              subst g50
              exact ret 1 (v48, f49) _ _ _ _ _ _ rfl ⟨(gsX_X6_unit_8_q13 c1 c15 c33 c34 c40 hG47), hM_v48, hA_f49, hIv48, hk0_v48, hk1_v48, hk9_v48, hk10_v48, hk31_v48, hk32_v48, (Or.inl rfl)⟩ hP hD hS dX6_unit_60 (Nat.le_refl _) (Nat.le_refl _)
            · skip
              subst g50
              exact ret 0 (v48, f49) _ _ _ _ _ _ rfl ⟨(gsX_X6_unit_8_q14 c1 c15 c33 c34 c40 hG47), hM_v48, hA_f49, hIv48, hk0_v48, hk1_v48, hk9_v48, hk10_v48, hk31_v48, hk32_v48, (Or.inr rfl)⟩ hP hD hS dX6_unit_60 (Nat.le_refl _) (Nat.le_refl _)
      · skip
        have zc33 : ¬ (121 < (v 2).toInt) := by rw [fa_lt, show (121 : Int32).toInt = 121 from by decide] at c33; exact c33
        refine lv_iconst (v := 1) hx hb dX6_unit_25 (by decide) ?_
        refine lv_goto (tgt := 30) hx hb dX6_unit_26 (by decide) ?_
        refine lv_istore_n (lv' := [(3, .int 1), (2, .int (v 2)), (0, .ref (x 2)), (1, .int 7)]) hx hb dX6_unit_30 rfl hl (by decide) rfl (fun ls hl => ?_)
        refine lv_iload_n hx hb dX6_unit_31 rfl (lv_at hl 0 rfl) ?_
        refine lv_if_ne (tgt := 41) hx hb dX6_unit_32 (by decide) (fun _ => ?_) (fun c0 => absurd c0 (by decide))
        refine lv_aload_n hx hb dX6_unit_41 rfl (lv_at hl 2 rfl) ?_
        refine va_get (D := (dC, dI)) (ci := 6) (v := .ref (x 3)) (C := RX6) (T := TX6) (N := 7) hx hb hts inB_6 hown hE.1 hP 3 rfl rfl 1 (by decide) (hts _ k_266) (fun _ h9 => h9) rfl dX6_unit_42 ?_
        refine va_getN (D := (dC, dI)) (ci := 7) (v := .ref (x 6)) (C := RX7) (T := TX7) (N := 10) hx hb hts inB_7 hown hE.1 hP 4 rfl rfl 2 (by decide) (va_Nw.use rfl (hE.2 _ k_210)) (fun _ h9 => h9) rfl dX6_unit_45 ?_
        refine va_getN (D := (dC, dI)) (ci := 4) (v := .int (v 17)) (C := RX4) (T := TX4) (N := 6) hx hb hts inB_4 hown hE.1 hP 7 rfl rfl 5 (by decide) (va_Nw.use rfl (hE.2 _ k_184)) (fun _ h9 => h9) rfl dX6_unit_48 ?_
        refine lv_bipush (v := 30) hx hb dX6_unit_51 (by decide) ?_
        refine lv_icmp_lt (tgt := 61) hx hb dX6_unit_53 (by decide) (fun c51 => ?_) (fun c51 => ?_)
        · skip
          have zc51 : (v 17).toInt < 30 := by rw [fa_lt, show (30 : Int32).toInt = 30 from by decide] at c51; exact c51
          refine lv_iload_n hx hb dX6_unit_61 rfl (lv_at hl 0 rfl) ?_
          refine lv_if_eq (tgt := 108) hx hb dX6_unit_62 (by decide) (fun c0 => absurd c0 (by decide)) (fun _ => ?_)
          refine lv_aload_n hx hb dX6_unit_65 rfl (lv_at hl 2 rfl) ?_
          refine va_get (D := (dC, dI)) (ci := 6) (v := .ref (x 3)) (C := RX6) (T := TX6) (N := 7) hx hb hts inB_6 hown hE.1 hP 3 rfl rfl 1 (by decide) (hts _ k_266) (fun _ h9 => h9) rfl dX6_unit_66 ?_
          refine va_getN (D := (dC, dI)) (ci := 7) (v := .ref (x 6)) (C := RX7) (T := TX7) (N := 10) hx hb hts inB_7 hown hE.1 hP 4 rfl rfl 2 (by decide) (va_Nw.use rfl (hE.2 _ k_210)) (fun _ h9 => h9) rfl dX6_unit_69 ?_
          refine lv_iload_n hx hb dX6_unit_72 rfl (lv_at hl 1 rfl) ?_
          refine lv_aload_n hx hb dX6_unit_73 rfl (lv_at hl 2 rfl) ?_
          refine va_get (D := (dC, dI)) (ci := 6) (v := .ref (x 0)) (C := RX6) (T := TX6) (N := 7) hx hb hts inB_6 hown hE.1 hP 3 rfl rfl 0 (by decide) (hts _ k_265) (fun _ h9 => h9) rfl dX6_unit_74 ?_
          refine va_getN (D := (dC, dI)) (ci := 9) (v := .int (v 5)) (C := RX9) (T := TX9) (N := 6) hx hb hts inB_9 hown hE.1 hP 1 rfl rfl 5 (by decide) (va_Nw.use rfl (hE.2 _ k_145)) (fun _ h9 => h9) rfl dX6_unit_77 ?_
          refine cbVv (n := 2) (rest := []) hx hb hml hown hts hE hP hD hS hA (sX_X4_add_1 NF l dC dI cy x0 x (v 2) (v 5) v f hIv ) k_748 k_749 k_750 k_105 k_751 (by decide +kernel) ⟨Nat.le_of_ble_eq_true rfl, Nat.le_of_ble_eq_true rfl⟩ 7 4 rfl rfl (rfl) hl.1 rfl (Nat.le_of_ble_eq_true rfl) dX6_unit_80 (fun u H locs hw hP hD hS => ?_)
          obtain ⟨hG52, hw⟩ := hw
          obtain ⟨v53, f54⟩ := u
          obtain ⟨kV_v53, kF_f54, hIv53, hk0_v53, hk1_v53, hk7_v53, hk8_v53, hk9_v53, hk10_v53, hk31_v53, hk32_v53⟩ := hw
          have hM_v53 : KV [2, 3, 4, 5, 7, 8, 16, 17] v53 v := KV.tr kV_v53 hM_v rfl
          have hA_f54 : KF [3, 4] f54 f := KF.tr kF_f54 hA_f rfl
          have hP : va_P (dC, dI) vwCl (XW cy x0 x v53 f54) H := hP
          have hD : va_D A (XW cy x0 x v53 f54) := hD
          have hq0_v53 : v53 0 = (v 0) := hk0_v53
          have hq1_v53 : v53 1 = (v 1) := hk1_v53
          have hq7_v53 : v53 7 = (v 7) := hk7_v53
          have hq8_v53 : v53 8 = (v 8) := hk8_v53
          have hq9_v53 : v53 9 = (v 9) := hk9_v53
          have hq10_v53 : v53 10 = (v 10) := hk10_v53
          have hq31_v53 : v53 31 = (v 31) := hk31_v53
          have hq32_v53 : v53 32 = (v 32) := hk32_v53
          refine lv_aload_n hx hb dX6_unit_83 rfl (lv_at hl 2 rfl) ?_
          refine va_get (D := (dC, dI)) (ci := 6) (v := .ref (x 3)) (C := RX6) (T := TX6) (N := 7) hx hb hts inB_6 hown hE.1 hP 3 rfl rfl 1 (by decide) (hts _ k_266) (fun _ h9 => h9) rfl dX6_unit_84 ?_
          refine va_getN (D := (dC, dI)) (ci := 7) (v := .ref (x 6)) (C := RX7) (T := TX7) (N := 10) hx hb hts inB_7 hown hE.1 hP 4 rfl rfl 2 (by decide) (va_Nw.use rfl (hE.2 _ k_210)) (fun _ h9 => h9) rfl dX6_unit_87 ?_
          refine lv_dup hx hb dX6_unit_90 rfl ?_
          refine va_getN (D := (dC, dI)) (ci := 4) (v := .int (v53 17)) (C := RX4) (T := TX4) (N := 6) hx hb hts inB_4 hown hE.1 hP 7 rfl rfl 5 (by decide) (va_Nw.use rfl (hE.2 _ k_184)) (fun _ h9 => h9) rfl dX6_unit_91 ?_
          refine lv_iconst (v := 1) hx hb dX6_unit_94 (by decide) ?_
          refine lv_iadd hx hb dX6_unit_95 ?_
          refine lv_topi (fun t55 et55 => ?_)
          refine va_putN (D := (dC, dI)) (ci := 4) (v := .int t55) (ty := tyX4 5) (C := RX4) (T := TX4) (N := 6) hx hb hts inB_4 tyX4 tyX4_ok nmX4 hown hE.1 hP hD hS 7 rfl rfl 5 (by decide) (va_Nw.use rfl (hE.2 _ k_184)) (fun _ h9 => h9) rfl (tyX4_ok 5 (by decide)) rfl rfl (Nat.le_of_ble_eq_true rfl) dX6_unit_96 (fun H locs hP hD hS => ?_)
          have hP : va_P (dC, dI) vwCl (XW cy x0 x (upd v53 17 t55) f54) H := hP
          have hD : va_D A (XW cy x0 x (upd v53 17 t55) f54) := hD
          refine lv_aload_n hx hb dX6_unit_99 rfl (lv_at hl 2 rfl) ?_
          refine va_get (D := (dC, dI)) (ci := 6) (v := .ref (x 0)) (C := RX6) (T := TX6) (N := 7) hx hb hts inB_6 hown hE.1 hP 3 rfl rfl 0 (by decide) (hts _ k_265) (fun _ h9 => h9) rfl dX6_unit_100 ?_
          refine csVv (n := 0) (rest := []) hx hb hml hown hts hE hP hD hS hA hF hT (sX_X9_advance_1 NF l dC dI cy x0 x  (upd v53 17 t55) f54 (XI.upd (j := 17) (x := t55) hIv53 (rlo _) (rhi _)) ) k_699 k_559 k_560 k_102 k_561 (by decide +kernel) ⟨Nat.le_of_ble_eq_true rfl, Nat.le_of_ble_eq_true rfl⟩ 1 9 rfl rfl (rfl) hl.1 rfl (Nat.le_of_ble_eq_true rfl) dX6_unit_103 (fun u H locs hw hP hD hS => ?_)
          obtain ⟨hG56, hw⟩ := hw
          obtain ⟨v57, f58⟩ := u
          obtain ⟨kV_v57, kF_f58, hIv57, hk0_v57, hk1_v57, hk7_v57, hk8_v57, hk9_v57, hk10_v57, hk31_v57, hk32_v57⟩ := hw
          have hM_v57 : KV [2, 3, 4, 5, 7, 8, 16, 17] v57 v := KV.tr kV_v57 (KV.up (j := 17) (x := t55) hM_v53 rfl) rfl
          have hA_f58 : KF [3, 4] f58 f := KF.tr kF_f58 hA_f54 rfl
          have hP : va_P (dC, dI) vwCl (XW cy x0 x v57 f58) H := hP
          have hD : va_D A (XW cy x0 x v57 f58) := hD
          have hq0_v57 : v57 0 = (v 0) := hk0_v57.trans hq0_v53
          have hq1_v57 : v57 1 = (v 1) := hk1_v57.trans hq1_v53
          have hq7_v57 : v57 7 = (v 7) := hk7_v57.trans hq7_v53
          have hq8_v57 : v57 8 = (v 8) := hk8_v57.trans hq8_v53
          have hq9_v57 : v57 9 = (v 9) := hk9_v57.trans hq9_v53
          have hq10_v57 : v57 10 = (v 10) := hk10_v57.trans hq10_v53
          have hq31_v57 : v57 31 = (v 31) := hk31_v57.trans hq31_v53
          have hq32_v57 : v57 32 = (v 32) := hk32_v57.trans hq32_v53
          refine lv_iconst (v := 1) hx hb dX6_unit_106 (by decide) ?_
          exact ret 1 (v57, f58) _ _ _ _ _ _ rfl ⟨(gsX_X6_unit_8_q15 c1 c15 c33 c51 hG52 et55 hG56), hM_v57, hA_f58, hIv57, (hk0_v57.trans hk0_v53), (hk1_v57.trans hk1_v53), (hk9_v57.trans hk9_v53), (hk10_v57.trans hk10_v53), (hk31_v57.trans hk31_v53), (hk32_v57.trans hk32_v53), (Or.inl rfl)⟩ hP hD hS dX6_unit_107 (Nat.le_refl _) (Nat.le_refl _)
        · skip
          have zc51 : ¬ ((v 17).toInt < 30) := by rw [fa_lt, show (30 : Int32).toInt = 30 from by decide] at c51; exact c51
          refine lv_aload_n hx hb dX6_unit_56 rfl (lv_at hl 2 rfl) ?_
          refine cbVi (n := 0) (rest := []) hx hb hml hown hts hE hP hD hS hA (sX_X6_refuse_1 NF l dC dI cy x0 x  v f hIv ) k_691 k_693 k_6 k_103 k_694 (by decide +kernel) ⟨Nat.le_of_ble_eq_true rfl, Nat.le_of_ble_eq_true rfl⟩ 3 6 rfl rfl (rfl) hl.1 rfl (Nat.le_of_ble_eq_true rfl) dX6_unit_57 (fun r59 u H locs hw hP hD hS => ?_)
          obtain ⟨hG60, hw⟩ := hw
          obtain ⟨v61, f62⟩ := u
          obtain ⟨kV_v61, kF_f62, hIv61, hk0_v61, hk1_v61, hk9_v61, hk10_v61, hk31_v61, hk32_v61, hw⟩ := hw
          have hM_v61 : KV [2, 3, 4, 5, 7, 8, 16, 17] v61 v := KV.tr kV_v61 hM_v rfl
          have hA_f62 : KF [3, 4] f62 f := KF.tr kF_f62 hA_f rfl
          have hP : va_P (dC, dI) vwCl (XW cy x0 x v61 f62) H := hP
          have hD : va_D A (XW cy x0 x v61 f62) := hD
          have hq0_v61 : v61 0 = (v 0) := hk0_v61
          have hq1_v61 : v61 1 = (v 1) := hk1_v61
          have hq9_v61 : v61 9 = (v 9) := hk9_v61
          have hq10_v61 : v61 10 = (v 10) := hk10_v61
          have hq31_v61 : v61 31 = (v 31) := hk31_v61
          have hq32_v61 : v61 32 = (v 32) := hk32_v61
          rcases hw with ⟨g63⟩ | ⟨g63⟩
          · skip
            subst g63
            exact ret 1 (v61, f62) _ _ _ _ _ _ rfl ⟨(gsX_X6_unit_8_q16 c1 c15 c33 c51 hG60), hM_v61, hA_f62, hIv61, hk0_v61, hk1_v61, hk9_v61, hk10_v61, hk31_v61, hk32_v61, (Or.inl rfl)⟩ hP hD hS dX6_unit_60 (Nat.le_refl _) (Nat.le_refl _)
          · skip
            subst g63
            exact ret 0 (v61, f62) _ _ _ _ _ _ rfl ⟨(gsX_X6_unit_8_q17 c1 c15 c33 c51 hG60), hM_v61, hA_f62, hIv61, hk0_v61, hk1_v61, hk9_v61, hk10_v61, hk31_v61, hk32_v61, (Or.inr rfl)⟩ hP hD hS dX6_unit_60 (Nat.le_refl _) (Nat.le_refl _)
set_option maxHeartbeats 4000000 in
set_option maxRecDepth 100000 in
theorem sX_X6_expression_48 (NF : Nat) (l : Launch) (dC : Nat → ClassId) (dI : Nat → Nat → Nat) (cy : Nat → ClassId) (x0 : Nat) (x : Nat → Nat)  (v : Nat → Int32) (f : Nat → Nat → Int32) (hIv : XI v)  : ctIS l (dC, dI) cy yX6_expression cX6_expression 6 .boolean 8 214 0 0 ((Nat → Int32) × (Nat → Nat → Int32)) [.ref (x 2), .int 5, .int 7] (XW cy x0 x v f) (fun r u => gsX_X6_expression_48 NF v f = (r, u) ∧ KV [2, 3, 4, 5, 7, 8, 16, 17] u.1 v ∧ KF [3, 4] u.2 f ∧ XI u.1 ∧ u.1 0 = v 0 ∧ u.1 1 = v 1 ∧ u.1 9 = v 9 ∧ u.1 10 = v 10 ∧ u.1 31 = v 31 ∧ u.1 32 = v 32 ∧ ((r = 1) ∨ (r = 0))) (fun u => XW cy x0 x u.1 u.2) := by
  refine ctIS_of (by decide) (Nat.le_of_ble_eq_true rfl) (fun p e s m below meth c A ls Q hx hb hml hts hown hE hF hT hP hD hA hl ret => ?_)
  have hM_v : KV [2, 3, 4, 5, 7, 8, 16, 17] v v := fun _ _ => rfl
  have hA_f : KF [3, 4] f f := fun _ _ => rfl
  have hown : s.vm.findClass RX6 = some m.cls := hown
  have hS : va_S A s.heap s.heap [] := va_S.rf
  have hl : lv_has ls 6 [(0, .ref (x 2)), (1, .int 5), (2, .int 7)] := hl
  refine lv_iload_n hx hb dX6_expression_0 rfl (lv_at hl 1 rfl) ?_
  refine lv_iconst (v := 5) hx hb dX6_expression_1 (by decide) ?_
  refine lv_icmp_lt (tgt := 11) hx hb dX6_expression_2 (by decide) (fun c0 => absurd c0 (by decide)) (fun _ => ?_)
  refine lv_aload_n hx hb dX6_expression_5 rfl (lv_at hl 0 rfl) ?_
  refine lv_iload_n hx hb dX6_expression_6 rfl (lv_at hl 2 rfl) ?_
  refine csVi (n := 1) (rest := []) hx hb hml hown hts hE hP hD hS hA hF hT (sX_X6_unit_8 NF l dC dI cy x0 x  v f hIv ) k_744 k_746 k_16 k_103 k_747 (by decide +kernel) ⟨Nat.le_of_ble_eq_true rfl, Nat.le_of_ble_eq_true rfl⟩ 3 6 rfl rfl (rfl) hl.1 rfl (Nat.le_of_ble_eq_true rfl) dX6_expression_7 (fun r1 u H locs hw hP hD hS => ?_)
  obtain ⟨hG2, hw⟩ := hw
  obtain ⟨v3, f4⟩ := u
  obtain ⟨kV_v3, kF_f4, hIv3, hk0_v3, hk1_v3, hk9_v3, hk10_v3, hk31_v3, hk32_v3, hw⟩ := hw
  have hM_v3 : KV [2, 3, 4, 5, 7, 8, 16, 17] v3 v := KV.tr kV_v3 hM_v rfl
  have hA_f4 : KF [3, 4] f4 f := KF.tr kF_f4 hA_f rfl
  have hP : va_P (dC, dI) vwCl (XW cy x0 x v3 f4) H := hP
  have hD : va_D A (XW cy x0 x v3 f4) := hD
  have hq0_v3 : v3 0 = (v 0) := hk0_v3
  have hq1_v3 : v3 1 = (v 1) := hk1_v3
  have hq9_v3 : v3 9 = (v 9) := hk9_v3
  have hq10_v3 : v3 10 = (v 10) := hk10_v3
  have hq31_v3 : v3 31 = (v 31) := hk31_v3
  have hq32_v3 : v3 32 = (v 32) := hk32_v3
  rcases hw with ⟨g5⟩ | ⟨g5⟩
  · skip
    subst g5
    exact ret 1 (v3, f4) _ _ _ _ _ _ rfl ⟨(gsX_X6_expression_48_q0 hG2), hM_v3, hA_f4, hIv3, hk0_v3, hk1_v3, hk9_v3, hk10_v3, hk31_v3, hk32_v3, (Or.inl rfl)⟩ hP hD hS dX6_expression_10 (Nat.le_refl _) (Nat.le_refl _)
  · skip
    subst g5
    exact ret 0 (v3, f4) _ _ _ _ _ _ rfl ⟨(gsX_X6_expression_48_q1 hG2), hM_v3, hA_f4, hIv3, hk0_v3, hk1_v3, hk9_v3, hk10_v3, hk31_v3, hk32_v3, (Or.inr rfl)⟩ hP hD hS dX6_expression_10 (Nat.le_refl _) (Nat.le_refl _)
set_option maxHeartbeats 4000000 in
set_option maxRecDepth 100000 in
theorem sX_X6_joins_1 (NF : Nat) (l : Launch) (dC : Nat → ClassId) (dI : Nat → Nat → Nat) (cy : Nat → ClassId) (x0 : Nat) (x : Nat → Nat) (p0 : Int32) (p1 : Int32) (v : Nat → Int32) (f : Nat → Nat → Int32) (hIv : XI v)  : ctI l (dC, dI) cy yX6_joins cX6_joins 2 .boolean 1 60 0 0 Unit [.int p0, .int p1] (XW cy x0 x v f) (fun r u => gsX_X6_joins_1 NF p0 p1 v f = r ∧ ((r = 1) ∨ (r = 0))) (fun u => XW cy x0 x v f) := by
  refine ctI_of (by decide) (Nat.le_of_ble_eq_true rfl) (fun p e s m below meth c A ls Q hx hb hml hts hown hE hP hD hA hl ret => ?_)
  have hown : s.vm.findClass RX6 = some m.cls := hown
  have hS : va_S A s.heap s.heap [] := va_S.rf
  have hl : lv_has ls 2 [(0, .int p0), (1, .int p1)] := hl
  refine lv_iload_n hx hb dX6_joins_0 rfl (lv_at hl 0 rfl) ?_
  by_cases c1 : p0 = 0
  · skip
    refine lv_tableIn (off := 35) (tgt := 36) hx hb dX6_joins_1 (by rw [c1]; decide) (by rw [c1]; decide) (by rw [c1]; decide) (by decide) ?_
    have zc1 : p0.toInt = 0 := by rw [fa_eq, show (0 : Int32).toInt = 0 from by decide] at c1; exact c1
    refine lv_iload_n hx hb dX6_joins_36 rfl (lv_at hl 1 rfl) ?_
    refine lv_bipush (v := 113) hx hb dX6_joins_37 (by decide) ?_
    refine lv_icmp_ne (tgt := 46) hx hb dX6_joins_39 (by decide) (fun c2 => ?_) (fun c2 => ?_)
    · skip
      have zc2 : ¬ (p1.toInt = 113) := by rw [fa_eq, show (113 : Int32).toInt = 113 from by decide] at c2; exact c2
      refine lv_iconst (v := 0) hx hb dX6_joins_46 (by decide) ?_
      exact ret 0 () _ _ _ _ _ _ rfl ⟨(gsX_X6_joins_1_q0 c1 c2), (Or.inr rfl)⟩ hP hD hS dX6_joins_47 (Nat.le_refl _) (Nat.le_refl _)
    · skip
      have zc2 : p1.toInt = 113 := by rw [fa_eq, show (113 : Int32).toInt = 113 from by decide] at c2; exact c2
      refine lv_iconst (v := 1) hx hb dX6_joins_42 (by decide) ?_
      refine lv_goto (tgt := 47) hx hb dX6_joins_43 (by decide) ?_
      exact ret 1 () _ _ _ _ _ _ rfl ⟨(gsX_X6_joins_1_q1 c1 c2), (Or.inl rfl)⟩ hP hD hS dX6_joins_47 (Nat.le_refl _) (Nat.le_refl _)
  · skip
    have zc1 : ¬ (p0.toInt = 0) := by rw [fa_eq, show (0 : Int32).toInt = 0 from by decide] at c1; exact c1
    by_cases c3 : p0 = 1
    · skip
      refine lv_tableIn (off := 47) (tgt := 48) hx hb dX6_joins_1 (by rw [c3]; decide) (by rw [c3]; decide) (by rw [c3]; decide) (by decide) ?_
      have zc3 : p0.toInt = 1 := by rw [fa_eq, show (1 : Int32).toInt = 1 from by decide] at c3; exact c3
      refine lv_iload_n hx hb dX6_joins_48 rfl (lv_at hl 1 rfl) ?_
      refine lv_bipush (v := 114) hx hb dX6_joins_49 (by decide) ?_
      refine lv_icmp_ne (tgt := 58) hx hb dX6_joins_51 (by decide) (fun c4 => ?_) (fun c4 => ?_)
      · skip
        have zc4 : ¬ (p1.toInt = 114) := by rw [fa_eq, show (114 : Int32).toInt = 114 from by decide] at c4; exact c4
        refine lv_iconst (v := 0) hx hb dX6_joins_58 (by decide) ?_
        exact ret 0 () _ _ _ _ _ _ rfl ⟨(gsX_X6_joins_1_q2 c1 c3 c4), (Or.inr rfl)⟩ hP hD hS dX6_joins_59 (Nat.le_refl _) (Nat.le_refl _)
      · skip
        have zc4 : p1.toInt = 114 := by rw [fa_eq, show (114 : Int32).toInt = 114 from by decide] at c4; exact c4
        refine lv_iconst (v := 1) hx hb dX6_joins_54 (by decide) ?_
        refine lv_goto (tgt := 59) hx hb dX6_joins_55 (by decide) ?_
        exact ret 1 () _ _ _ _ _ _ rfl ⟨(gsX_X6_joins_1_q3 c1 c3 c4), (Or.inl rfl)⟩ hP hD hS dX6_joins_59 (Nat.le_refl _) (Nat.le_refl _)
    · skip
      have zc3 : ¬ (p0.toInt = 1) := by rw [fa_eq, show (1 : Int32).toInt = 1 from by decide] at c3; exact c3
      by_cases c5 : p0 = 2
      · skip
        refine lv_tableIn (off := 59) (tgt := 60) hx hb dX6_joins_1 (by rw [c5]; decide) (by rw [c5]; decide) (by rw [c5]; decide) (by decide) ?_
        have zc5 : p0.toInt = 2 := by rw [fa_eq, show (2 : Int32).toInt = 2 from by decide] at c5; exact c5
        refine lv_iload_n hx hb dX6_joins_60 rfl (lv_at hl 1 rfl) ?_
        refine lv_bipush (v := 60) hx hb dX6_joins_61 (by decide) ?_
        refine lv_icmp_eq (tgt := 78) hx hb dX6_joins_63 (by decide) (fun c6 => ?_) (fun c6 => ?_)
        · skip
          have zc6 : p1.toInt = 60 := by rw [fa_eq, show (60 : Int32).toInt = 60 from by decide] at c6; exact c6
          refine lv_iconst (v := 1) hx hb dX6_joins_78 (by decide) ?_
          refine lv_goto (tgt := 83) hx hb dX6_joins_79 (by decide) ?_
          exact ret 1 () _ _ _ _ _ _ rfl ⟨(gsX_X6_joins_1_q4 c1 c3 c5 c6), (Or.inl rfl)⟩ hP hD hS dX6_joins_83 (Nat.le_refl _) (Nat.le_refl _)
        · skip
          have zc6 : ¬ (p1.toInt = 60) := by rw [fa_eq, show (60 : Int32).toInt = 60 from by decide] at c6; exact c6
          refine lv_iload_n hx hb dX6_joins_66 rfl (lv_at hl 1 rfl) ?_
          refine lv_bipush (v := 62) hx hb dX6_joins_67 (by decide) ?_
          refine lv_icmp_eq (tgt := 78) hx hb dX6_joins_69 (by decide) (fun c7 => ?_) (fun c7 => ?_)
          · skip
            have zc7 : p1.toInt = 62 := by rw [fa_eq, show (62 : Int32).toInt = 62 from by decide] at c7; exact c7
            refine lv_iconst (v := 1) hx hb dX6_joins_78 (by decide) ?_
            refine lv_goto (tgt := 83) hx hb dX6_joins_79 (by decide) ?_
            exact ret 1 () _ _ _ _ _ _ rfl ⟨(gsX_X6_joins_1_q5 c1 c3 c5 c6 c7), (Or.inl rfl)⟩ hP hD hS dX6_joins_83 (Nat.le_refl _) (Nat.le_refl _)
          · skip
            have zc7 : ¬ (p1.toInt = 62) := by rw [fa_eq, show (62 : Int32).toInt = 62 from by decide] at c7; exact c7
            refine lv_iload_n hx hb dX6_joins_72 rfl (lv_at hl 1 rfl) ?_
            refine lv_bipush (v := 61) hx hb dX6_joins_73 (by decide) ?_
            refine lv_icmp_ne (tgt := 82) hx hb dX6_joins_75 (by decide) (fun c8 => ?_) (fun c8 => ?_)
            · skip
              have zc8 : ¬ (p1.toInt = 61) := by rw [fa_eq, show (61 : Int32).toInt = 61 from by decide] at c8; exact c8
              refine lv_iconst (v := 0) hx hb dX6_joins_82 (by decide) ?_
              exact ret 0 () _ _ _ _ _ _ rfl ⟨(gsX_X6_joins_1_q6 c1 c3 c5 c6 c7 c8), (Or.inr rfl)⟩ hP hD hS dX6_joins_83 (Nat.le_refl _) (Nat.le_refl _)
            · skip
              have zc8 : p1.toInt = 61 := by rw [fa_eq, show (61 : Int32).toInt = 61 from by decide] at c8; exact c8
              refine lv_iconst (v := 1) hx hb dX6_joins_78 (by decide) ?_
              refine lv_goto (tgt := 83) hx hb dX6_joins_79 (by decide) ?_
              exact ret 1 () _ _ _ _ _ _ rfl ⟨(gsX_X6_joins_1_q7 c1 c3 c5 c6 c7 c8), (Or.inl rfl)⟩ hP hD hS dX6_joins_83 (Nat.le_refl _) (Nat.le_refl _)
      · skip
        have zc5 : ¬ (p0.toInt = 2) := by rw [fa_eq, show (2 : Int32).toInt = 2 from by decide] at c5; exact c5
        by_cases c9 : p0 = 3
        · skip
          refine lv_tableIn (off := 83) (tgt := 84) hx hb dX6_joins_1 (by rw [c9]; decide) (by rw [c9]; decide) (by rw [c9]; decide) (by decide) ?_
          have zc9 : p0.toInt = 3 := by rw [fa_eq, show (3 : Int32).toInt = 3 from by decide] at c9; exact c9
          refine lv_iload_n hx hb dX6_joins_84 rfl (lv_at hl 1 rfl) ?_
          refine lv_bipush (v := 43) hx hb dX6_joins_85 (by decide) ?_
          refine lv_icmp_eq (tgt := 96) hx hb dX6_joins_87 (by decide) (fun c10 => ?_) (fun c10 => ?_)
          · skip
            have zc10 : p1.toInt = 43 := by rw [fa_eq, show (43 : Int32).toInt = 43 from by decide] at c10; exact c10
            refine lv_iconst (v := 1) hx hb dX6_joins_96 (by decide) ?_
            refine lv_goto (tgt := 101) hx hb dX6_joins_97 (by decide) ?_
            exact ret 1 () _ _ _ _ _ _ rfl ⟨(gsX_X6_joins_1_q8 c1 c3 c5 c9 c10), (Or.inl rfl)⟩ hP hD hS dX6_joins_101 (Nat.le_refl _) (Nat.le_refl _)
          · skip
            have zc10 : ¬ (p1.toInt = 43) := by rw [fa_eq, show (43 : Int32).toInt = 43 from by decide] at c10; exact c10
            refine lv_iload_n hx hb dX6_joins_90 rfl (lv_at hl 1 rfl) ?_
            refine lv_bipush (v := 45) hx hb dX6_joins_91 (by decide) ?_
            refine lv_icmp_ne (tgt := 100) hx hb dX6_joins_93 (by decide) (fun c11 => ?_) (fun c11 => ?_)
            · skip
              have zc11 : ¬ (p1.toInt = 45) := by rw [fa_eq, show (45 : Int32).toInt = 45 from by decide] at c11; exact c11
              refine lv_iconst (v := 0) hx hb dX6_joins_100 (by decide) ?_
              exact ret 0 () _ _ _ _ _ _ rfl ⟨(gsX_X6_joins_1_q9 c1 c3 c5 c9 c10 c11), (Or.inr rfl)⟩ hP hD hS dX6_joins_101 (Nat.le_refl _) (Nat.le_refl _)
            · skip
              have zc11 : p1.toInt = 45 := by rw [fa_eq, show (45 : Int32).toInt = 45 from by decide] at c11; exact c11
              refine lv_iconst (v := 1) hx hb dX6_joins_96 (by decide) ?_
              refine lv_goto (tgt := 101) hx hb dX6_joins_97 (by decide) ?_
              exact ret 1 () _ _ _ _ _ _ rfl ⟨(gsX_X6_joins_1_q10 c1 c3 c5 c9 c10 c11), (Or.inl rfl)⟩ hP hD hS dX6_joins_101 (Nat.le_refl _) (Nat.le_refl _)
        · skip
          have zc9 : ¬ (p0.toInt = 3) := by rw [fa_eq, show (3 : Int32).toInt = 3 from by decide] at c9; exact c9
          by_cases c12 : p0 = 4
          · skip
            refine lv_tableIn (off := 101) (tgt := 102) hx hb dX6_joins_1 (by rw [c12]; decide) (by rw [c12]; decide) (by rw [c12]; decide) (by decide) ?_
            have zc12 : p0.toInt = 4 := by rw [fa_eq, show (4 : Int32).toInt = 4 from by decide] at c12; exact c12
            refine lv_iload_n hx hb dX6_joins_102 rfl (lv_at hl 1 rfl) ?_
            refine lv_bipush (v := 42) hx hb dX6_joins_103 (by decide) ?_
            refine lv_icmp_eq (tgt := 120) hx hb dX6_joins_105 (by decide) (fun c13 => ?_) (fun c13 => ?_)
            · skip
              have zc13 : p1.toInt = 42 := by rw [fa_eq, show (42 : Int32).toInt = 42 from by decide] at c13; exact c13
              refine lv_iconst (v := 1) hx hb dX6_joins_120 (by decide) ?_
              refine lv_goto (tgt := 125) hx hb dX6_joins_121 (by decide) ?_
              exact ret 1 () _ _ _ _ _ _ rfl ⟨(gsX_X6_joins_1_q11 c1 c3 c5 c9 c12 c13), (Or.inl rfl)⟩ hP hD hS dX6_joins_125 (Nat.le_refl _) (Nat.le_refl _)
            · skip
              have zc13 : ¬ (p1.toInt = 42) := by rw [fa_eq, show (42 : Int32).toInt = 42 from by decide] at c13; exact c13
              refine lv_iload_n hx hb dX6_joins_108 rfl (lv_at hl 1 rfl) ?_
              refine lv_bipush (v := 47) hx hb dX6_joins_109 (by decide) ?_
              refine lv_icmp_eq (tgt := 120) hx hb dX6_joins_111 (by decide) (fun c14 => ?_) (fun c14 => ?_)
              · skip
                have zc14 : p1.toInt = 47 := by rw [fa_eq, show (47 : Int32).toInt = 47 from by decide] at c14; exact c14
                refine lv_iconst (v := 1) hx hb dX6_joins_120 (by decide) ?_
                refine lv_goto (tgt := 125) hx hb dX6_joins_121 (by decide) ?_
                exact ret 1 () _ _ _ _ _ _ rfl ⟨(gsX_X6_joins_1_q12 c1 c3 c5 c9 c12 c13 c14), (Or.inl rfl)⟩ hP hD hS dX6_joins_125 (Nat.le_refl _) (Nat.le_refl _)
              · skip
                have zc14 : ¬ (p1.toInt = 47) := by rw [fa_eq, show (47 : Int32).toInt = 47 from by decide] at c14; exact c14
                refine lv_iload_n hx hb dX6_joins_114 rfl (lv_at hl 1 rfl) ?_
                refine lv_bipush (v := 37) hx hb dX6_joins_115 (by decide) ?_
                refine lv_icmp_ne (tgt := 124) hx hb dX6_joins_117 (by decide) (fun c15 => ?_) (fun c15 => ?_)
                · skip
                  have zc15 : ¬ (p1.toInt = 37) := by rw [fa_eq, show (37 : Int32).toInt = 37 from by decide] at c15; exact c15
                  refine lv_iconst (v := 0) hx hb dX6_joins_124 (by decide) ?_
                  exact ret 0 () _ _ _ _ _ _ rfl ⟨(gsX_X6_joins_1_q13 c1 c3 c5 c9 c12 c13 c14 c15), (Or.inr rfl)⟩ hP hD hS dX6_joins_125 (Nat.le_refl _) (Nat.le_refl _)
                · skip
                  have zc15 : p1.toInt = 37 := by rw [fa_eq, show (37 : Int32).toInt = 37 from by decide] at c15; exact c15
                  refine lv_iconst (v := 1) hx hb dX6_joins_120 (by decide) ?_
                  refine lv_goto (tgt := 125) hx hb dX6_joins_121 (by decide) ?_
                  exact ret 1 () _ _ _ _ _ _ rfl ⟨(gsX_X6_joins_1_q14 c1 c3 c5 c9 c12 c13 c14 c15), (Or.inl rfl)⟩ hP hD hS dX6_joins_125 (Nat.le_refl _) (Nat.le_refl _)
          · skip
            have zc12 : ¬ (p0.toInt = 4) := by rw [fa_eq, show (4 : Int32).toInt = 4 from by decide] at c12; exact c12
            refine lv_tableOut (tgt := 126) hx hb dX6_joins_1 (by omega) (by decide) ?_
            refine lv_iconst (v := 0) hx hb dX6_joins_126 (by decide) ?_
            exact ret 0 () _ _ _ _ _ _ rfl ⟨(gsX_X6_joins_1_q15 c1 c3 c5 c9 c12), (Or.inr rfl)⟩ hP hD hS dX6_joins_127 (Nat.le_refl _) (Nat.le_refl _)
