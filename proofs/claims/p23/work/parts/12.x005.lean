set_option maxHeartbeats 4000000 in
set_option maxRecDepth 100000 in
theorem sX_X10_front_1 (NF : Nat) (l : Launch) (dC : Nat → ClassId) (dI : Nat → Nat → Nat) (cy : Nat → ClassId) (x0 : Nat) (x : Nat → Nat) (p1 : Int32) (p2 : Int32) (v : Nat → Int32) (f : Nat → Nat → Int32) (hIv : XI v)  : ctI l (dC, dI) cy yX10_front cX10_front 4 .int 5 152 0 0 Unit [.ref x0, .int p1, .int p2] (XW cy x0 x v f) (fun r u => gsX_X10_front_1 NF p1 p2 v f = r) (fun u => XW cy x0 x v f) := by
  refine ctI_of (by decide) (Nat.le_of_ble_eq_true rfl) (fun p e s m below meth c A ls Q hx hb hml hts hown hE hP hD hA hl ret => ?_)
  have hown : s.vm.findClass RX10 = some m.cls := hown
  have hS : va_S A s.heap s.heap [] := va_S.rf
  have hl : lv_has ls 4 [(0, .ref x0), (1, .int p1), (2, .int p2)] := hl
  refine lv_iload_n hx hb dX10_front_0 rfl (lv_at hl 1 rfl) ?_
  refine lv_if_lt (tgt := 20) hx hb dX10_front_1 rfl (fun c1 => ?_) (fun c1 => ?_)
  · skip
    refine lv_iconst (v := (-1)) hx hb dX10_front_20 rfl ?_
    exact ret (-1) () _ _ _ _ _ _ rfl (gsX_X10_front_1_q0 c1) hP hD hS dX10_front_21 (Nat.le_refl _) (Nat.le_refl _)
  · skip
    refine lv_iload_n hx hb dX10_front_4 rfl (lv_at hl 1 rfl) ?_
    refine lv_sipush (v := 999) hx hb dX10_front_5 rfl ?_
    refine lv_icmp_gt (tgt := 20) hx hb dX10_front_8 rfl (fun c2 => ?_) (fun c2 => ?_)
    · skip
      refine lv_iconst (v := (-1)) hx hb dX10_front_20 rfl ?_
      exact ret (-1) () _ _ _ _ _ _ rfl (gsX_X10_front_1_q1 c1 c2) hP hD hS dX10_front_21 (Nat.le_refl _) (Nat.le_refl _)
    · skip
      refine lv_iload_n hx hb dX10_front_11 rfl (lv_at hl 2 rfl) ?_
      refine lv_if_lt (tgt := 20) hx hb dX10_front_12 rfl (fun c3 => ?_) (fun c3 => ?_)
      · skip
        refine lv_iconst (v := (-1)) hx hb dX10_front_20 rfl ?_
        exact ret (-1) () _ _ _ _ _ _ rfl (gsX_X10_front_1_q2 c1 c2 c3) hP hD hS dX10_front_21 (Nat.le_refl _) (Nat.le_refl _)
      · skip
        refine lv_iload_n hx hb dX10_front_15 rfl (lv_at hl 2 rfl) ?_
        refine lv_iconst (v := 1) hx hb dX10_front_16 rfl ?_
        refine lv_icmp_le (tgt := 22) hx hb dX10_front_17 rfl (fun c4 => ?_) (fun c4 => ?_)
        · skip
          refine lv_aload_n hx hb dX10_front_22 rfl (lv_at hl 0 rfl) ?_
          refine va_get (D := (dC, dI)) (ci := 10) (v := .ref (x 29)) (C := RX10) (T := TX10) (N := 10) hx hb hts inB_10 hown hE.1 hP 0 rfl rfl 6 (Nat.le_of_ble_eq_true rfl) (hts _ k_497) (fun _ h9 => h9) rfl dX10_front_23 ?_
          refine lv_iload_n hx hb dX10_front_26 rfl (lv_at hl 1 rfl) ?_
          refine cbVi (n := 1) (rest := []) hx hb hml hown hts hE hP hD hS hA (sX_X2_frontOf_1 NF l dC dI cy x0 x p1 v f hIv ) k_1056 k_1057 k_1058 k_110 k_1059 hd_yX2_frontOf ⟨Nat.le_of_ble_eq_true rfl, Nat.le_of_ble_eq_true rfl⟩ 30 2 rfl rfl (rfl) hl.1 rfl (Nat.le_of_ble_eq_true rfl) dX10_front_27 (fun r5 u H locs hw hP hD hS => ?_)
          have hG6 := hw
          refine lv_istore_n (lv' := [(3, .int r5), (0, .ref x0), (1, .int p1), (2, .int p2)]) hx hb dX10_front_30 rfl hl (Nat.le_of_ble_eq_true rfl) rfl (fun ls hl => ?_)
          refine lv_iload_n hx hb dX10_front_31 rfl (lv_at hl 3 rfl) ?_
          refine lv_iconst (v := 1) hx hb dX10_front_32 rfl ?_
          refine lv_icmp_eq (tgt := 41) hx hb dX10_front_33 rfl (fun c7 => ?_) (fun c7 => ?_)
          · skip
            refine lv_iload_n hx hb dX10_front_41 rfl (lv_at hl 0 rfl) ?_
            refine lv_goto (tgt := 49) hx hb dX10_front_42 rfl ?_
            exact ret r5 () _ _ _ _ _ _ rfl (gsX_X10_front_1_q3 c1 c2 c3 c4 hG6.symm c7) hP hD hS dX10_front_49 (Nat.le_refl _) (Nat.le_refl _)
          · skip
            refine lv_iload_n hx hb dX10_front_36 rfl (lv_at hl 0 rfl) ?_
            refine lv_iconst (v := (-1)) hx hb dX10_front_37 rfl ?_
            refine lv_icmp_ne (tgt := 45) hx hb dX10_front_38 rfl (fun c8 => ?_) (fun c8 => ?_)
            · skip
              refine lv_iload_n hx hb dX10_front_45 rfl (lv_at hl 0 rfl) ?_
              refine cbSi (n := 1) (rest := []) hx hb hml hown hts hE hP hD hS hA (sX_J6_bitCount_0f7a4_1 NF l dC dI cy x0 x r5 v f hIv ) k_1071 k_1043 k_121 k_1044 he_yJ6_bitCount_0f7a4 ⟨Nat.le_of_ble_eq_true rfl, Nat.le_of_ble_eq_true rfl⟩ (rfl) hl.1 rfl (Nat.le_of_ble_eq_true rfl) dX10_front_46 (fun r9 u H locs hw hP hD hS => ?_)
              have hG10 := hw
              exact ret r9 () _ _ _ _ _ _ rfl (gsX_X10_front_1_q4 c1 c2 c3 c4 hG6.symm c7 c8 hG10.symm) hP hD hS dX10_front_49 (Nat.le_refl _) (Nat.le_refl _)
            · skip
              refine lv_iload_n hx hb dX10_front_41 rfl (lv_at hl 0 rfl) ?_
              refine lv_goto (tgt := 49) hx hb dX10_front_42 rfl ?_
              exact ret r5 () _ _ _ _ _ _ rfl (gsX_X10_front_1_q5 c1 c2 c3 c4 hG6.symm c7 c8) hP hD hS dX10_front_49 (Nat.le_refl _) (Nat.le_refl _)
        · skip
          refine lv_iconst (v := (-1)) hx hb dX10_front_20 rfl ?_
          exact ret (-1) () _ _ _ _ _ _ rfl (gsX_X10_front_1_q6 c1 c2 c3 c4) hP hD hS dX10_front_21 (Nat.le_refl _) (Nat.le_refl _)
set_option maxHeartbeats 4000000 in
set_option maxRecDepth 100000 in
theorem sX_X3_rotaCount_1 (NF : Nat) (l : Launch) (dC : Nat → ClassId) (dI : Nat → Nat → Nat) (cy : Nat → ClassId) (x0 : Nat) (x : Nat → Nat) (p1 : Int32) (v : Nat → Int32) (f : Nat → Nat → Int32) (hIv : XI v)  : ctI l (dC, dI) cy yX3_rotaCount cX3_rotaCount 5 .int 5 155 0 0 ((Nat → Int32) × (Nat → Nat → Int32)) [.ref (x 25), .int p1] (XW cy x0 x v f) (fun r u => gsX_X3_rotaCount_1 NF p1 v f = (r, u) ∧ KV [] u.1 v ∧ KF [13, 14] u.2 f ∧ XI u.1 ∧ u.1 0 = v 0 ∧ u.1 1 = v 1 ∧ u.1 7 = v 7 ∧ u.1 8 = v 8 ∧ u.1 9 = v 9 ∧ u.1 10 = v 10 ∧ u.1 31 = v 31 ∧ u.1 32 = v 32) (fun u => XW cy x0 x u.1 u.2) := by
  refine ctI_of (by decide) (Nat.le_of_ble_eq_true rfl) (fun p e s m below meth c A ls Q hx hb hml hts hown hE hP hD hA hl ret => ?_)
  have hM_v : KV [] v v := fun _ _ => rfl
  have hA_f : KF [13, 14] f f := fun _ _ => rfl
  have hown : s.vm.findClass RX3 = some m.cls := hown
  have hS : va_S A s.heap s.heap [] := va_S.rf
  have hl : lv_has ls 5 [(0, .ref (x 25)), (1, .int p1)] := hl
  refine lv_iconst (v := 0) hx hb dX3_rotaCount_0 rfl ?_
  refine lv_istore_n (lv' := [(2, .int 0), (0, .ref (x 25)), (1, .int p1)]) hx hb dX3_rotaCount_1 rfl hl (Nat.le_of_ble_eq_true rfl) rfl (fun ls hl => ?_)
  refine lv_iconst (v := 0) hx hb dX3_rotaCount_2 rfl ?_
  refine lv_istore_n (lv' := [(3, .int 0), (2, .int 0), (0, .ref (x 25)), (1, .int p1)]) hx hb dX3_rotaCount_3 rfl hl (Nat.le_of_ble_eq_true rfl) rfl (fun ls hl => ?_)
  have lp1 : ∀ (n1 : Nat) (l2_1 : Int32) (l3_1 : Int32) (v1 : Nat → Int32) (f1 : Nat → Nat → Int32), XI v1 → v1 0 = (v 0) → v1 1 = (v 1) → v1 7 = (v 7) → v1 8 = (v 8) → v1 9 = (v 9) → v1 10 = (v 10) → v1 31 = (v 31) → v1 32 = (v 32) → gsX_X3_rotaCount_1_L1 NF p1 v n1 l2_1 l3_1 v1 f1 = (gsX_X3_rotaCount_1 NF p1 v f) → ((0 : Int) ≤ l3_1.toInt ∧ l3_1.toInt ≤ 2147483647) → KV [] v1 v → KF [13, 14] f1 f → (2147483647 - l3_1.toInt).toNat < n1 → ∀ (H : Heap) (locs : List Loc) (ls : Array Slot), va_P (dC, dI) vwCl (XW cy x0 x v1 f1) H → va_D A (XW cy x0 x v1 f1) → va_S A s.heap H locs → lv_has ls 5 [(3, .int l3_1), (2, .int l2_1), (0, .ref (x 25)), (1, .int p1)] → W p l e { frames := 5, cells := 0, slots := 0, locals := 155 } s m ([.ref (x 25), .int p1] : List Value).toArray below meth c H locs 0 0 Q (F0 m 4 ls []) := by
    intro n1
    induction n1 with
    | zero => intro l2_1 l3_1 v1 f1 hIv1 hq0_v1 hq1_v1 hq7_v1 hq8_v1 hq9_v1 hq10_v1 hq31_v1 hq32_v1 hT1 hr3_1 hM_v1 hA_f1 hm; exact absurd hm (Nat.not_lt_zero _)
    | succ n1 ih1 =>
      intro l2_1 l3_1 v1 f1 hIv1 hq0_v1 hq1_v1 hq7_v1 hq8_v1 hq9_v1 hq10_v1 hq31_v1 hq32_v1 hT1 hr3_1 hM_v1 hA_f1 hm1 H locs ls hP hD hS hl
      refine lv_iload_n hx hb dX3_rotaCount_4 rfl (lv_at hl 0 rfl) ?_
      refine lv_aload_n hx hb dX3_rotaCount_5 rfl (lv_at hl 2 rfl) ?_
      refine va_get (D := (dC, dI)) (ci := 3) (v := .ref (x 26)) (C := RX3) (T := TX3) (N := 10) hx hb hts inB_3 hown hE.1 hP 26 rfl rfl 0 (Nat.le_of_ble_eq_true rfl) (hts _ k_370) (fun _ h9 => h9) rfl dX3_rotaCount_6 ?_
      refine va_getN (D := (dC, dI)) (ci := 7) (v := .int (v1 31)) (C := RX7) (T := TX7) (N := 10) hx hb hts inB_7 hown hE.1 hP 27 rfl rfl 3 (Nat.le_of_ble_eq_true rfl) (va_Nw.use rfl (hE.2 _ k_217)) (fun _ h9 => h9) rfl dX3_rotaCount_9 ?_
      refine tI (y := (v 31)) hq31_v1 ?_
      have b31_v : 0 ≤ (v 31).toInt ∧ (v 31).toInt ≤ 6 := Xb_31 hIv
      refine lv_icmp_ge (tgt := 76) hx hb dX3_rotaCount_12 rfl (fun c2 => ?_) (fun c2 => ?_)
      · skip
        refine lv_iload_n hx hb dX3_rotaCount_76 rfl (lv_at hl 1 rfl) ?_
        exact ret l2_1 (v1, f1) _ _ _ _ _ _ rfl ⟨(hT1.symm.trans (gsX_X3_rotaCount_1_q0 c2)), hM_v1, hA_f1, hIv1, (show v1 0 = v 0 from hq0_v1), (show v1 1 = v 1 from hq1_v1), (show v1 7 = v 7 from hq7_v1), (show v1 8 = v 8 from hq8_v1), (show v1 9 = v 9 from hq9_v1), (show v1 10 = v 10 from hq10_v1), (show v1 31 = v 31 from hq31_v1), (show v1 32 = v 32 from hq32_v1)⟩ hP hD hS dX3_rotaCount_77 (Nat.le_refl _) (Nat.le_refl _)
      · skip
        have zc2 : ¬ ((v 31).toInt ≤ l3_1.toInt) := zMn rfl rfl c2
        refine lv_iload_n hx hb dX3_rotaCount_15 rfl (lv_at hl 0 rfl) ?_
        refine lv_iload_n hx hb dX3_rotaCount_16 rfl (lv_at hl 3 rfl) ?_
        refine lv_iadd hx hb dX3_rotaCount_17 ?_
        refine lv_topi (fun t7 et7 => ?_)
        refine lv_aload_n hx hb dX3_rotaCount_18 rfl (lv_at hl 2 rfl) ?_
        refine va_get (D := (dC, dI)) (ci := 3) (v := .ref (x 26)) (C := RX3) (T := TX3) (N := 10) hx hb hts inB_3 hown hE.1 hP 26 rfl rfl 0 (Nat.le_of_ble_eq_true rfl) (hts _ k_370) (fun _ h9 => h9) rfl dX3_rotaCount_19 ?_
        refine va_getN (D := (dC, dI)) (ci := 7) (v := .int (v1 31)) (C := RX7) (T := TX7) (N := 10) hx hb hts inB_7 hown hE.1 hP 27 rfl rfl 3 (Nat.le_of_ble_eq_true rfl) (va_Nw.use rfl (hE.2 _ k_217)) (fun _ h9 => h9) rfl dX3_rotaCount_22 ?_
        refine tI (y := (v 31)) hq31_v1 ?_
        refine lv_icmp_ge (tgt := 34) hx hb dX3_rotaCount_25 rfl (fun c8 => ?_) (fun c8 => ?_)
        · skip
          refine lv_iload_n hx hb dX3_rotaCount_34 rfl (lv_at hl 0 rfl) ?_
          refine lv_iload_n hx hb dX3_rotaCount_35 rfl (lv_at hl 3 rfl) ?_
          refine lv_iadd hx hb dX3_rotaCount_36 ?_
          refine tI (y := t7) et7.symm ?_
          refine lv_aload_n hx hb dX3_rotaCount_37 rfl (lv_at hl 2 rfl) ?_
          refine va_get (D := (dC, dI)) (ci := 3) (v := .ref (x 26)) (C := RX3) (T := TX3) (N := 10) hx hb hts inB_3 hown hE.1 hP 26 rfl rfl 0 (Nat.le_of_ble_eq_true rfl) (hts _ k_370) (fun _ h9 => h9) rfl dX3_rotaCount_38 ?_
          refine va_getN (D := (dC, dI)) (ci := 7) (v := .int (v1 31)) (C := RX7) (T := TX7) (N := 10) hx hb hts inB_7 hown hE.1 hP 27 rfl rfl 3 (Nat.le_of_ble_eq_true rfl) (va_Nw.use rfl (hE.2 _ k_217)) (fun _ h9 => h9) rfl dX3_rotaCount_41 ?_
          refine tI (y := (v 31)) hq31_v1 ?_
          refine lv_isub hx hb dX3_rotaCount_44 ?_
          refine lv_topi (fun t10 et10 => ?_)
          refine lv_istore (lv' := [(4, .int t10), (3, .int l3_1), (2, .int l2_1), (0, .ref (x 25)), (1, .int p1)]) hx hb dX3_rotaCount_45 hl (Nat.le_of_ble_eq_true rfl) rfl (fun ls hl => ?_)
          refine lv_aload_n hx hb dX3_rotaCount_47 rfl (lv_at hl 3 rfl) ?_
          refine va_get (D := (dC, dI)) (ci := 3) (v := .ref (x 21)) (C := RX3) (T := TX3) (N := 10) hx hb hts inB_3 hown hE.1 hP 26 rfl rfl 1 (Nat.le_of_ble_eq_true rfl) (hts _ k_371) (fun _ h9 => h9) rfl dX3_rotaCount_48 ?_
          refine lv_iload_n hx hb dX3_rotaCount_51 rfl (lv_at hl 1 rfl) ?_
          refine lv_aload_n hx hb dX3_rotaCount_52 rfl (lv_at hl 3 rfl) ?_
          refine va_get (D := (dC, dI)) (ci := 3) (v := .ref (x 21)) (C := RX3) (T := TX3) (N := 10) hx hb hts inB_3 hown hE.1 hP 26 rfl rfl 1 (Nat.le_of_ble_eq_true rfl) (hts _ k_371) (fun _ h9 => h9) rfl dX3_rotaCount_53 ?_
          refine lv_iload hx hb dX3_rotaCount_56 (lv_at hl 0 rfl) ?_
          refine cbVi (n := 1) (rest := [.int l3_1, .ref (x 21)]) hx hb hml hown hts hE hP hD hS hA (sX_X1_wears_1 NF l dC dI cy x0 x t10 v1 f1 hIv1 ) k_950 k_810 k_811 k_106 k_812 hd_yX1_wears ⟨Nat.le_of_ble_eq_true rfl, Nat.le_of_ble_eq_true rfl⟩ 22 1 rfl rfl (rfl) hl.1 rfl (Nat.le_of_ble_eq_true rfl) dX3_rotaCount_58 (fun r11 u H locs hw hP hD hS => ?_)
          have hG12 := hw
          refine cbVi (n := 2) (rest := []) hx hb hml hown hts hE hP hD hS hA (sX_X1_fits_1 NF l dC dI cy x0 x l3_1 r11 v1 f1 hIv1 ) k_1032 k_818 k_819 k_106 k_820 hd_yX1_fits ⟨Nat.le_of_ble_eq_true rfl, Nat.le_of_ble_eq_true rfl⟩ 22 1 rfl rfl (rfl) hl.1 rfl (Nat.le_of_ble_eq_true rfl) dX3_rotaCount_61 (fun r13 u H locs hw hP hD hS => ?_)
          obtain ⟨hG14, hw⟩ := hw
          obtain ⟨v15, f16⟩ := u
          obtain ⟨kV_v15, kF_f16, hIv15, hk0_v15, hk1_v15, hk7_v15, hk8_v15, hk9_v15, hk10_v15, hk31_v15, hk32_v15, hw⟩ := hw
          have hM_v15 : KV [] v15 v := KV.tr kV_v15 hM_v1 rfl
          have hA_f16 : KF [13, 14] f16 f := KF.tr kF_f16 hA_f1 rfl
          have hP : va_P (dC, dI) vwCl (XW cy x0 x v15 f16) H := hP
          have hD : va_D A (XW cy x0 x v15 f16) := hD
          have hq0_v15 : v15 0 = (v 0) := hk0_v15.trans hq0_v1
          have hq1_v15 : v15 1 = (v 1) := hk1_v15.trans hq1_v1
          have hq7_v15 : v15 7 = (v 7) := hk7_v15.trans hq7_v1
          have hq8_v15 : v15 8 = (v 8) := hk8_v15.trans hq8_v1
          have hq9_v15 : v15 9 = (v 9) := hk9_v15.trans hq9_v1
          have hq10_v15 : v15 10 = (v 10) := hk10_v15.trans hq10_v1
          have hq31_v15 : v15 31 = (v 31) := hk31_v15.trans hq31_v1
          have hq32_v15 : v15 32 = (v 32) := hk32_v15.trans hq32_v1
          rcases hw with ⟨g17⟩ | ⟨g17⟩
          · skip
            subst g17
            refine lv_if_eq (tgt := 70) hx hb dX3_rotaCount_64 rfl (fun c0 => absurd c0 (by decide)) (fun _ => ?_)
            obtain ⟨t18, et18⟩ : ∃ y : Int32, y = l2_1 + 1 := ⟨_, rfl⟩
            refine lv_iinc (v := t18) (lv' := [(2, .int t18), (4, .int t10), (3, .int l3_1), (0, .ref (x 25)), (1, .int p1)]) hx hb dX3_rotaCount_67 hl (k := 2) rfl et18.symm (Nat.le_of_ble_eq_true rfl) rfl (fun ls hl => ?_)
            obtain ⟨t19, et19⟩ : ∃ y : Int32, y = l3_1 + 1 := ⟨_, rfl⟩
            have zt19 : t19.toInt = l3_1.toInt + 1 := (congrArg Int32.toInt et19).trans (add_i rfl tc_1 (om_41 hr3_1) (om_187 b31_v zc2))
            refine lv_iinc (v := t19) (lv' := [(3, .int t19), (2, .int t18), (4, .int t10), (0, .ref (x 25)), (1, .int p1)]) hx hb dX3_rotaCount_70 hl (k := 2) rfl et19.symm (Nat.le_of_ble_eq_true rfl) rfl (fun ls hl => ?_)
            refine lv_goto (tgt := 4) hx hb dX3_rotaCount_73 rfl ?_
            have rg20 := fb_rng t19
            exact ih1 t18 t19 v15 f16 hIv15 hq0_v15 hq1_v15 hq7_v15 hq8_v15 hq9_v15 hq10_v15 hq31_v15 hq32_v15 ((gsX_X3_rotaCount_1_q1 c2 et7 c8 et10 hG12.symm hG14 et18 et19).symm.trans hT1) ⟨show (0 : Int) ≤ t19.toInt from om_43 hr3_1 zt19, show t19.toInt ≤ (2147483647 : Int) from om_44 rg20⟩ hM_v15 hA_f16 (show (2147483647 - t19.toInt).toNat < n1 from om_33 hm1 zt19 rg20) _ _ _ hP hD hS (lv_sub hl [0, 1, 3, 4] rfl)
          · skip
            subst g17
            refine lv_if_eq (tgt := 70) hx hb dX3_rotaCount_64 rfl (fun _ => ?_) (fun c0 => absurd (by decide) c0)
            obtain ⟨t21, et21⟩ : ∃ y : Int32, y = l3_1 + 1 := ⟨_, rfl⟩
            have zt21 : t21.toInt = l3_1.toInt + 1 := (congrArg Int32.toInt et21).trans (add_i rfl tc_1 (om_41 hr3_1) (om_187 b31_v zc2))
            refine lv_iinc (v := t21) (lv' := [(3, .int t21), (4, .int t10), (2, .int l2_1), (0, .ref (x 25)), (1, .int p1)]) hx hb dX3_rotaCount_70 hl (k := 1) rfl et21.symm (Nat.le_of_ble_eq_true rfl) rfl (fun ls hl => ?_)
            refine lv_goto (tgt := 4) hx hb dX3_rotaCount_73 rfl ?_
            have rg22 := fb_rng t21
            exact ih1 l2_1 t21 v15 f16 hIv15 hq0_v15 hq1_v15 hq7_v15 hq8_v15 hq9_v15 hq10_v15 hq31_v15 hq32_v15 ((gsX_X3_rotaCount_1_q2 c2 et7 c8 et10 hG12.symm hG14 et21).symm.trans hT1) ⟨show (0 : Int) ≤ t21.toInt from om_43 hr3_1 zt21, show t21.toInt ≤ (2147483647 : Int) from om_44 rg22⟩ hM_v15 hA_f16 (show (2147483647 - t21.toInt).toNat < n1 from om_33 hm1 zt21 rg22) _ _ _ hP hD hS (lv_sub hl [0, 2, 3, 4] rfl)
        · skip
          refine lv_iload_n hx hb dX3_rotaCount_28 rfl (lv_at hl 0 rfl) ?_
          refine lv_iload_n hx hb dX3_rotaCount_29 rfl (lv_at hl 3 rfl) ?_
          refine lv_iadd hx hb dX3_rotaCount_30 ?_
          refine tI (y := t7) et7.symm ?_
          refine lv_goto (tgt := 45) hx hb dX3_rotaCount_31 rfl ?_
          refine lv_istore (lv' := [(4, .int t7), (3, .int l3_1), (2, .int l2_1), (0, .ref (x 25)), (1, .int p1)]) hx hb dX3_rotaCount_45 hl (Nat.le_of_ble_eq_true rfl) rfl (fun ls hl => ?_)
          refine lv_aload_n hx hb dX3_rotaCount_47 rfl (lv_at hl 3 rfl) ?_
          refine va_get (D := (dC, dI)) (ci := 3) (v := .ref (x 21)) (C := RX3) (T := TX3) (N := 10) hx hb hts inB_3 hown hE.1 hP 26 rfl rfl 1 (Nat.le_of_ble_eq_true rfl) (hts _ k_371) (fun _ h9 => h9) rfl dX3_rotaCount_48 ?_
          refine lv_iload_n hx hb dX3_rotaCount_51 rfl (lv_at hl 1 rfl) ?_
          refine lv_aload_n hx hb dX3_rotaCount_52 rfl (lv_at hl 3 rfl) ?_
          refine va_get (D := (dC, dI)) (ci := 3) (v := .ref (x 21)) (C := RX3) (T := TX3) (N := 10) hx hb hts inB_3 hown hE.1 hP 26 rfl rfl 1 (Nat.le_of_ble_eq_true rfl) (hts _ k_371) (fun _ h9 => h9) rfl dX3_rotaCount_53 ?_
          refine lv_iload hx hb dX3_rotaCount_56 (lv_at hl 0 rfl) ?_
          refine cbVi (n := 1) (rest := [.int l3_1, .ref (x 21)]) hx hb hml hown hts hE hP hD hS hA (sX_X1_wears_1 NF l dC dI cy x0 x t7 v1 f1 hIv1 ) k_950 k_810 k_811 k_106 k_812 hd_yX1_wears ⟨Nat.le_of_ble_eq_true rfl, Nat.le_of_ble_eq_true rfl⟩ 22 1 rfl rfl (rfl) hl.1 rfl (Nat.le_of_ble_eq_true rfl) dX3_rotaCount_58 (fun r24 u H locs hw hP hD hS => ?_)
          have hG25 := hw
          refine cbVi (n := 2) (rest := []) hx hb hml hown hts hE hP hD hS hA (sX_X1_fits_1 NF l dC dI cy x0 x l3_1 r24 v1 f1 hIv1 ) k_1032 k_818 k_819 k_106 k_820 hd_yX1_fits ⟨Nat.le_of_ble_eq_true rfl, Nat.le_of_ble_eq_true rfl⟩ 22 1 rfl rfl (rfl) hl.1 rfl (Nat.le_of_ble_eq_true rfl) dX3_rotaCount_61 (fun r26 u H locs hw hP hD hS => ?_)
          obtain ⟨hG27, hw⟩ := hw
          obtain ⟨v28, f29⟩ := u
          obtain ⟨kV_v28, kF_f29, hIv28, hk0_v28, hk1_v28, hk7_v28, hk8_v28, hk9_v28, hk10_v28, hk31_v28, hk32_v28, hw⟩ := hw
          have hM_v28 : KV [] v28 v := KV.tr kV_v28 hM_v1 rfl
          have hA_f29 : KF [13, 14] f29 f := KF.tr kF_f29 hA_f1 rfl
          have hP : va_P (dC, dI) vwCl (XW cy x0 x v28 f29) H := hP
          have hD : va_D A (XW cy x0 x v28 f29) := hD
          have hq0_v28 : v28 0 = (v 0) := hk0_v28.trans hq0_v1
          have hq1_v28 : v28 1 = (v 1) := hk1_v28.trans hq1_v1
          have hq7_v28 : v28 7 = (v 7) := hk7_v28.trans hq7_v1
          have hq8_v28 : v28 8 = (v 8) := hk8_v28.trans hq8_v1
          have hq9_v28 : v28 9 = (v 9) := hk9_v28.trans hq9_v1
          have hq10_v28 : v28 10 = (v 10) := hk10_v28.trans hq10_v1
          have hq31_v28 : v28 31 = (v 31) := hk31_v28.trans hq31_v1
          have hq32_v28 : v28 32 = (v 32) := hk32_v28.trans hq32_v1
          rcases hw with ⟨g30⟩ | ⟨g30⟩
          · skip
            subst g30
            refine lv_if_eq (tgt := 70) hx hb dX3_rotaCount_64 rfl (fun c0 => absurd c0 (by decide)) (fun _ => ?_)
            obtain ⟨t31, et31⟩ : ∃ y : Int32, y = l2_1 + 1 := ⟨_, rfl⟩
            refine lv_iinc (v := t31) (lv' := [(2, .int t31), (4, .int t7), (3, .int l3_1), (0, .ref (x 25)), (1, .int p1)]) hx hb dX3_rotaCount_67 hl (k := 2) rfl et31.symm (Nat.le_of_ble_eq_true rfl) rfl (fun ls hl => ?_)
            obtain ⟨t32, et32⟩ : ∃ y : Int32, y = l3_1 + 1 := ⟨_, rfl⟩
            have zt32 : t32.toInt = l3_1.toInt + 1 := (congrArg Int32.toInt et32).trans (add_i rfl tc_1 (om_41 hr3_1) (om_187 b31_v zc2))
            refine lv_iinc (v := t32) (lv' := [(3, .int t32), (2, .int t31), (4, .int t7), (0, .ref (x 25)), (1, .int p1)]) hx hb dX3_rotaCount_70 hl (k := 2) rfl et32.symm (Nat.le_of_ble_eq_true rfl) rfl (fun ls hl => ?_)
            refine lv_goto (tgt := 4) hx hb dX3_rotaCount_73 rfl ?_
            have rg33 := fb_rng t32
            exact ih1 t31 t32 v28 f29 hIv28 hq0_v28 hq1_v28 hq7_v28 hq8_v28 hq9_v28 hq10_v28 hq31_v28 hq32_v28 ((gsX_X3_rotaCount_1_q3 c2 et7 c8 hG25.symm hG27 et31 et32).symm.trans hT1) ⟨show (0 : Int) ≤ t32.toInt from om_43 hr3_1 zt32, show t32.toInt ≤ (2147483647 : Int) from om_44 rg33⟩ hM_v28 hA_f29 (show (2147483647 - t32.toInt).toNat < n1 from om_33 hm1 zt32 rg33) _ _ _ hP hD hS (lv_sub hl [0, 1, 3, 4] rfl)
          · skip
            subst g30
            refine lv_if_eq (tgt := 70) hx hb dX3_rotaCount_64 rfl (fun _ => ?_) (fun c0 => absurd (by decide) c0)
            obtain ⟨t34, et34⟩ : ∃ y : Int32, y = l3_1 + 1 := ⟨_, rfl⟩
            have zt34 : t34.toInt = l3_1.toInt + 1 := (congrArg Int32.toInt et34).trans (add_i rfl tc_1 (om_41 hr3_1) (om_187 b31_v zc2))
            refine lv_iinc (v := t34) (lv' := [(3, .int t34), (4, .int t7), (2, .int l2_1), (0, .ref (x 25)), (1, .int p1)]) hx hb dX3_rotaCount_70 hl (k := 1) rfl et34.symm (Nat.le_of_ble_eq_true rfl) rfl (fun ls hl => ?_)
            refine lv_goto (tgt := 4) hx hb dX3_rotaCount_73 rfl ?_
            have rg35 := fb_rng t34
            exact ih1 l2_1 t34 v28 f29 hIv28 hq0_v28 hq1_v28 hq7_v28 hq8_v28 hq9_v28 hq10_v28 hq31_v28 hq32_v28 ((gsX_X3_rotaCount_1_q4 c2 et7 c8 hG25.symm hG27 et34).symm.trans hT1) ⟨show (0 : Int) ≤ t34.toInt from om_43 hr3_1 zt34, show t34.toInt ≤ (2147483647 : Int) from om_44 rg35⟩ hM_v28 hA_f29 (show (2147483647 - t34.toInt).toNat < n1 from om_33 hm1 zt34 rg35) _ _ _ hP hD hS (lv_sub hl [0, 2, 3, 4] rfl)
  exact lp1 (4294967296 + NF) 0 0 v f hIv rfl rfl rfl rfl rfl rfl rfl rfl gsX_X3_rotaCount_1_q5.symm ⟨by decide, by decide⟩ hM_v hA_f (show (2147483647 - (0 : Int32).toInt).toNat < 4294967296 + NF from om_38 tc_0) _ _ _ hP hD hS (lv_sub hl [0, 1, 2, 3] rfl)
set_option maxHeartbeats 4000000 in
set_option maxRecDepth 100000 in
theorem sX_X3_findRota_1 (NF : Nat) (l : Launch) (dC : Nat → ClassId) (dI : Nat → Nat → Nat) (cy : Nat → ClassId) (x0 : Nat) (x : Nat → Nat)  (v : Nat → Int32) (f : Nat → Nat → Int32) (hIv : XI v)  : ctV l (dC, dI) cy yX3_findRota cX3_findRota 3 6 179 0 0 ((Nat → Int32) × (Nat → Nat → Int32)) [.ref (x 25)] (XW cy x0 x v f) (fun u => gsX_X3_findRota_1 NF v f = u ∧ KV [26, 27] u.1 v ∧ KF [13, 14] u.2 f ∧ XI u.1 ∧ u.1 0 = v 0 ∧ u.1 1 = v 1 ∧ u.1 7 = v 7 ∧ u.1 8 = v 8 ∧ u.1 9 = v 9 ∧ u.1 10 = v 10 ∧ u.1 31 = v 31 ∧ u.1 32 = v 32) (fun u => XW cy x0 x u.1 u.2) := by
  refine ctV_of (by decide) (Nat.le_of_ble_eq_true rfl) (fun p e s m below meth c A ls Q hx hb hml hts hown hnm hE hP hD hA hl ret => ?_)
  have hM_v : KV [26, 27] v v := fun _ _ => rfl
  have hA_f : KF [13, 14] f f := fun _ _ => rfl
  have hown : s.vm.findClass RX3 = some m.cls := hown
  have hS : va_S A s.heap s.heap [] := va_S.rf
  have hl : lv_has ls 3 [(0, .ref (x 25))] := hl
  refine lv_aload_n hx hb dX3_findRota_0 rfl (lv_at hl 0 rfl) ?_
  refine lv_iconst (v := 0) hx hb dX3_findRota_1 rfl ?_
  refine va_put (D := (dC, dI)) (ci := 3) (v := .int 0) (ty := tyX3 5) (C := RX3) (T := TX3) (N := 10) hx hb hts inB_3 tyX3 tyX3_ok nmX3 hown hE.1 hP hD hS 26 rfl rfl 5 (Nat.le_of_ble_eq_true rfl) (hts _ k_377) (fun _ h9 => h9) rfl (tyX3_ok 5 (Nat.le_of_ble_eq_true rfl)) rfl rfl (Nat.le_of_ble_eq_true rfl) dX3_findRota_2 (fun H locs hP hD hS => ?_)
  have hP : va_P (dC, dI) vwCl (XW cy x0 x (upd v 26 0) f) H := hP
  have hD : va_D A (XW cy x0 x (upd v 26 0) f) := hD
  refine lv_aload_n hx hb dX3_findRota_5 rfl (lv_at hl 0 rfl) ?_
  refine lv_iconst (v := (-1)) hx hb dX3_findRota_6 rfl ?_
  refine va_put (D := (dC, dI)) (ci := 3) (v := .int (-1)) (ty := tyX3 6) (C := RX3) (T := TX3) (N := 10) hx hb hts inB_3 tyX3 tyX3_ok nmX3 hown hE.1 hP hD hS 26 rfl rfl 6 (Nat.le_of_ble_eq_true rfl) (hts _ k_379) (fun _ h9 => h9) rfl (tyX3_ok 6 (Nat.le_of_ble_eq_true rfl)) rfl rfl (Nat.le_of_ble_eq_true rfl) dX3_findRota_7 (fun H locs hP hD hS => ?_)
  have hP : va_P (dC, dI) vwCl (XW cy x0 x (upd (upd v 26 0) 27 (-1)) f) H := hP
  have hD : va_D A (XW cy x0 x (upd (upd v 26 0) 27 (-1)) f) := hD
  refine lv_iconst (v := 0) hx hb dX3_findRota_10 rfl ?_
  refine lv_istore_n (lv' := [(1, .int 0), (0, .ref (x 25))]) hx hb dX3_findRota_11 rfl hl (Nat.le_of_ble_eq_true rfl) rfl (fun ls hl => ?_)
  have lp1 : ∀ (n1 : Nat) (l1_1 : Int32) (v1 : Nat → Int32) (f1 : Nat → Nat → Int32), XI v1 → v1 0 = (v 0) → v1 1 = (v 1) → v1 7 = (v 7) → v1 8 = (v 8) → v1 9 = (v 9) → v1 10 = (v 10) → v1 31 = (v 31) → v1 32 = (v 32) → gsX_X3_findRota_1_L1 NF v n1 l1_1 v1 f1 = (gsX_X3_findRota_1 NF v f) → ((0 : Int) ≤ l1_1.toInt ∧ l1_1.toInt ≤ 2147483647) → KV [26, 27] v1 v → KF [13, 14] f1 f → (2147483647 - l1_1.toInt).toNat < n1 → ∀ (H : Heap) (locs : List Loc) (ls : Array Slot), va_P (dC, dI) vwCl (XW cy x0 x v1 f1) H → va_D A (XW cy x0 x v1 f1) → va_S A s.heap H locs → lv_has ls 3 [(1, .int l1_1), (0, .ref (x 25))] → W p l e { frames := 6, cells := 0, slots := 0, locals := 179 } s m ([.ref (x 25)] : List Value).toArray below meth c H locs 0 0 Q (F0 m 12 ls []) := by
    intro n1
    induction n1 with
    | zero => intro l1_1 v1 f1 hIv1 hq0_v1 hq1_v1 hq7_v1 hq8_v1 hq9_v1 hq10_v1 hq31_v1 hq32_v1 hT1 hr1_1 hM_v1 hA_f1 hm; exact absurd hm (Nat.not_lt_zero _)
    | succ n1 ih1 =>
      intro l1_1 v1 f1 hIv1 hq0_v1 hq1_v1 hq7_v1 hq8_v1 hq9_v1 hq10_v1 hq31_v1 hq32_v1 hT1 hr1_1 hM_v1 hA_f1 hm1 H locs ls hP hD hS hl
      refine lv_iload_n hx hb dX3_findRota_12 rfl (lv_at hl 0 rfl) ?_
      refine lv_aload_n hx hb dX3_findRota_13 rfl (lv_at hl 1 rfl) ?_
      refine va_get (D := (dC, dI)) (ci := 3) (v := .ref (x 26)) (C := RX3) (T := TX3) (N := 10) hx hb hts inB_3 hown hE.1 hP 26 rfl rfl 0 (Nat.le_of_ble_eq_true rfl) (hts _ k_370) (fun _ h9 => h9) rfl dX3_findRota_14 ?_
      refine va_getN (D := (dC, dI)) (ci := 7) (v := .int (v1 31)) (C := RX7) (T := TX7) (N := 10) hx hb hts inB_7 hown hE.1 hP 27 rfl rfl 3 (Nat.le_of_ble_eq_true rfl) (va_Nw.use rfl (hE.2 _ k_217)) (fun _ h9 => h9) rfl dX3_findRota_17 ?_
      refine tI (y := (v 31)) hq31_v1 ?_
      have b31_v : 0 ≤ (v 31).toInt ∧ (v 31).toInt ≤ 6 := Xb_31 hIv
      refine lv_icmp_ge (tgt := 53) hx hb dX3_findRota_20 rfl (fun c2 => ?_) (fun c2 => ?_)
      · skip
        exact ret (v1, f1) _ _ _ _ _ _ ⟨(hT1.symm.trans (gsX_X3_findRota_1_q0 c2)), hM_v1, hA_f1, hIv1, (show v1 0 = v 0 from hq0_v1), (show v1 1 = v 1 from hq1_v1), (show v1 7 = v 7 from hq7_v1), (show v1 8 = v 8 from hq8_v1), (show v1 9 = v 9 from hq9_v1), (show v1 10 = v 10 from hq10_v1), (show v1 31 = v 31 from hq31_v1), (show v1 32 = v 32 from hq32_v1)⟩ hP hD hS dX3_findRota_53 (Nat.le_refl _) (Nat.le_refl _)
      · skip
        have zc2 : ¬ ((v 31).toInt ≤ l1_1.toInt) := zMn rfl rfl c2
        refine lv_aload_n hx hb dX3_findRota_23 rfl (lv_at hl 1 rfl) ?_
        refine lv_iload_n hx hb dX3_findRota_24 rfl (lv_at hl 0 rfl) ?_
        refine cbVi (n := 1) (rest := []) hx hb hml hown hts hE hP hD hS hA (sX_X3_rotaCount_1 NF l dC dI cy x0 x l1_1 v1 f1 hIv1 ) k_1028 k_1030 k_28 k_109 k_1031 hd_yX3_rotaCount ⟨Nat.le_of_ble_eq_true rfl, Nat.le_of_ble_eq_true rfl⟩ 26 3 rfl rfl (rfl) hl.1 rfl (Nat.le_of_ble_eq_true rfl) dX3_findRota_25 (fun r7 u H locs hw hP hD hS => ?_)
        obtain ⟨hG8, hw⟩ := hw
        obtain ⟨v9, f10⟩ := u
        obtain ⟨kV_v9, kF_f10, hIv9, hk0_v9, hk1_v9, hk7_v9, hk8_v9, hk9_v9, hk10_v9, hk31_v9, hk32_v9⟩ := hw
        have hM_v9 : KV [26, 27] v9 v := KV.tr kV_v9 hM_v1 rfl
        have hA_f10 : KF [13, 14] f10 f := KF.tr kF_f10 hA_f1 rfl
        have hP : va_P (dC, dI) vwCl (XW cy x0 x v9 f10) H := hP
        have hD : va_D A (XW cy x0 x v9 f10) := hD
        have hq0_v9 : v9 0 = (v 0) := hk0_v9.trans hq0_v1
        have hq1_v9 : v9 1 = (v 1) := hk1_v9.trans hq1_v1
        have hq7_v9 : v9 7 = (v 7) := hk7_v9.trans hq7_v1
        have hq8_v9 : v9 8 = (v 8) := hk8_v9.trans hq8_v1
        have hq9_v9 : v9 9 = (v 9) := hk9_v9.trans hq9_v1
        have hq10_v9 : v9 10 = (v 10) := hk10_v9.trans hq10_v1
        have hq31_v9 : v9 31 = (v 31) := hk31_v9.trans hq31_v1
        have hq32_v9 : v9 32 = (v 32) := hk32_v9.trans hq32_v1
        refine lv_istore_n (lv' := [(2, .int r7), (1, .int l1_1), (0, .ref (x 25))]) hx hb dX3_findRota_28 rfl hl (Nat.le_of_ble_eq_true rfl) rfl (fun ls hl => ?_)
        refine lv_iload_n hx hb dX3_findRota_29 rfl (lv_at hl 0 rfl) ?_
        refine lv_aload_n hx hb dX3_findRota_30 rfl (lv_at hl 2 rfl) ?_
        refine va_get (D := (dC, dI)) (ci := 3) (v := .int (v9 27)) (C := RX3) (T := TX3) (N := 10) hx hb hts inB_3 hown hE.1 hP 26 rfl rfl 6 (Nat.le_of_ble_eq_true rfl) (hts _ k_379) (fun _ h9 => h9) rfl dX3_findRota_31 ?_
        refine lv_icmp_le (tgt := 47) hx hb dX3_findRota_34 rfl (fun c11 => ?_) (fun c11 => ?_)
        · skip
          obtain ⟨t14, et14⟩ : ∃ y : Int32, y = l1_1 + 1 := ⟨_, rfl⟩
          have zt14 : t14.toInt = l1_1.toInt + 1 := (congrArg Int32.toInt et14).trans (add_i rfl tc_1 (om_41 hr1_1) (om_187 b31_v zc2))
          refine lv_iinc (v := t14) (lv' := [(1, .int t14), (2, .int r7), (0, .ref (x 25))]) hx hb dX3_findRota_47 hl (k := 1) rfl et14.symm (Nat.le_of_ble_eq_true rfl) rfl (fun ls hl => ?_)
          refine lv_goto (tgt := 12) hx hb dX3_findRota_50 rfl ?_
          have rg15 := fb_rng t14
          exact ih1 t14 v9 f10 hIv9 hq0_v9 hq1_v9 hq7_v9 hq8_v9 hq9_v9 hq10_v9 hq31_v9 hq32_v9 ((gsX_X3_findRota_1_q1 c2 hG8 c11 et14).symm.trans hT1) ⟨show (0 : Int) ≤ t14.toInt from om_43 hr1_1 zt14, show t14.toInt ≤ (2147483647 : Int) from om_44 rg15⟩ hM_v9 hA_f10 (show (2147483647 - t14.toInt).toNat < n1 from om_33 hm1 zt14 rg15) _ _ _ hP hD hS (lv_sub hl [0, 2] rfl)
        · skip
          refine lv_aload_n hx hb dX3_findRota_37 rfl (lv_at hl 2 rfl) ?_
          refine lv_iload_n hx hb dX3_findRota_38 rfl (lv_at hl 1 rfl) ?_
          refine va_put (D := (dC, dI)) (ci := 3) (v := .int l1_1) (ty := tyX3 5) (C := RX3) (T := TX3) (N := 10) hx hb hts inB_3 tyX3 tyX3_ok nmX3 hown hE.1 hP hD hS 26 rfl rfl 5 (Nat.le_of_ble_eq_true rfl) (hts _ k_377) (fun _ h9 => h9) rfl (tyX3_ok 5 (Nat.le_of_ble_eq_true rfl)) rfl rfl (Nat.le_of_ble_eq_true rfl) dX3_findRota_39 (fun H locs hP hD hS => ?_)
          have hP : va_P (dC, dI) vwCl (XW cy x0 x (upd v9 26 l1_1) f10) H := hP
          have hD : va_D A (XW cy x0 x (upd v9 26 l1_1) f10) := hD
          refine lv_aload_n hx hb dX3_findRota_42 rfl (lv_at hl 2 rfl) ?_
          refine lv_iload_n hx hb dX3_findRota_43 rfl (lv_at hl 0 rfl) ?_
          refine va_put (D := (dC, dI)) (ci := 3) (v := .int r7) (ty := tyX3 6) (C := RX3) (T := TX3) (N := 10) hx hb hts inB_3 tyX3 tyX3_ok nmX3 hown hE.1 hP hD hS 26 rfl rfl 6 (Nat.le_of_ble_eq_true rfl) (hts _ k_379) (fun _ h9 => h9) rfl (tyX3_ok 6 (Nat.le_of_ble_eq_true rfl)) rfl rfl (Nat.le_of_ble_eq_true rfl) dX3_findRota_44 (fun H locs hP hD hS => ?_)
          have hP : va_P (dC, dI) vwCl (XW cy x0 x (upd (upd v9 26 l1_1) 27 r7) f10) H := hP
          have hD : va_D A (XW cy x0 x (upd (upd v9 26 l1_1) 27 r7) f10) := hD
          obtain ⟨t18, et18⟩ : ∃ y : Int32, y = l1_1 + 1 := ⟨_, rfl⟩
          have zt18 : t18.toInt = l1_1.toInt + 1 := (congrArg Int32.toInt et18).trans (add_i rfl tc_1 (om_41 hr1_1) (om_187 b31_v zc2))
          refine lv_iinc (v := t18) (lv' := [(1, .int t18), (2, .int r7), (0, .ref (x 25))]) hx hb dX3_findRota_47 hl (k := 1) rfl et18.symm (Nat.le_of_ble_eq_true rfl) rfl (fun ls hl => ?_)
          refine lv_goto (tgt := 12) hx hb dX3_findRota_50 rfl ?_
          have rg19 := fb_rng t18
          exact ih1 t18 (upd (upd v9 26 l1_1) 27 r7) f10 (Xu_27 (x := r7) (Xu_26 (x := l1_1) hIv9 (rlo _) (rhi _)) (rlo _) (rhi _)) hq0_v9 hq1_v9 hq7_v9 hq8_v9 hq9_v9 hq10_v9 hq31_v9 hq32_v9 ((gsX_X3_findRota_1_q2 c2 hG8 c11 et18).symm.trans hT1) ⟨show (0 : Int) ≤ t18.toInt from om_43 hr1_1 zt18, show t18.toInt ≤ (2147483647 : Int) from om_44 rg19⟩ (KV.up (j := 27) (x := r7) (KV.up (j := 26) (x := l1_1) hM_v9 rfl) rfl) hA_f10 (show (2147483647 - t18.toInt).toNat < n1 from om_33 hm1 zt18 rg19) _ _ _ hP hD hS (lv_sub hl [0, 2] rfl)
  exact lp1 (4294967296 + NF) 0 (upd (upd v 26 0) 27 (-1)) f (Xu_27 (x := (-1)) (Xu_26 (x := 0) hIv (rlo _) (rhi _)) (rlo _) (rhi _)) rfl rfl rfl rfl rfl rfl rfl rfl gsX_X3_findRota_1_q3.symm ⟨by decide, by decide⟩ (KV.up (j := 27) (x := (-1)) (KV.up (j := 26) (x := 0) hM_v rfl) rfl) hA_f (by have q1 : (0 : Int32).toInt = 0 := (by decide); have qc0 : ((-1) : Int32).toInt = -1 := (by decide); have qc1 : (0 : Int32).toInt = 0 := (by decide); show (2147483647 - (0 : Int32).toInt).toNat < 4294967296 + NF; omega) _ _ _ hP hD hS (lv_sub hl [0, 1] rfl)
set_option maxHeartbeats 4000000 in
set_option maxRecDepth 100000 in
theorem sX_X10_rota_1 (NF : Nat) (l : Launch) (dC : Nat → ClassId) (dI : Nat → Nat → Nat) (cy : Nat → ClassId) (x0 : Nat) (x : Nat → Nat) (p1 : Int32) (v : Nat → Int32) (f : Nat → Nat → Int32) (hIv : XI v)  : ctI l (dC, dI) cy yX10_rota cX10_rota 2 .int 7 201 0 0 ((Nat → Int32) × (Nat → Nat → Int32)) [.ref x0, .int p1] (XW cy x0 x v f) (fun r u => gsX_X10_rota_1 NF p1 v f = (r, u) ∧ KV [26, 27] u.1 v ∧ KF [13, 14] u.2 f ∧ XI u.1 ∧ u.1 0 = v 0 ∧ u.1 1 = v 1 ∧ u.1 7 = v 7 ∧ u.1 8 = v 8 ∧ u.1 9 = v 9 ∧ u.1 10 = v 10 ∧ u.1 31 = v 31 ∧ u.1 32 = v 32) (fun u => XW cy x0 x u.1 u.2) := by
  refine ctI_of (by decide) (Nat.le_of_ble_eq_true rfl) (fun p e s m below meth c A ls Q hx hb hml hts hown hE hP hD hA hl ret => ?_)
  have hM_v : KV [26, 27] v v := fun _ _ => rfl
  have hA_f : KF [13, 14] f f := fun _ _ => rfl
  have hown : s.vm.findClass RX10 = some m.cls := hown
  have hS : va_S A s.heap s.heap [] := va_S.rf
  have hl : lv_has ls 2 [(0, .ref x0), (1, .int p1)] := hl
  refine lv_aload_n hx hb dX10_rota_0 rfl (lv_at hl 0 rfl) ?_
  refine va_get (D := (dC, dI)) (ci := 10) (v := .ref (x 26)) (C := RX10) (T := TX10) (N := 10) hx hb hts inB_10 hown hE.1 hP 0 rfl rfl 2 (Nat.le_of_ble_eq_true rfl) (hts _ k_493) (fun _ h9 => h9) rfl dX10_rota_1 ?_
  refine va_getN (D := (dC, dI)) (ci := 7) (v := .int (v 31)) (C := RX7) (T := TX7) (N := 10) hx hb hts inB_7 hown hE.1 hP 27 rfl rfl 3 (Nat.le_of_ble_eq_true rfl) (va_Nw.use rfl (hE.2 _ k_214)) (fun _ h9 => h9) rfl dX10_rota_4 ?_
  refine lv_if_eq (tgt := 19) hx hb dX10_rota_7 rfl (fun c1 => ?_) (fun c1 => ?_)
  · skip
    refine lv_iconst (v := (-1)) hx hb dX10_rota_19 rfl ?_
    exact ret (-1) (v, f) _ _ _ _ _ _ rfl ⟨(gsX_X10_rota_1_q0 c1), hM_v, hA_f, hIv, rfl, rfl, rfl, rfl, rfl, rfl, rfl, rfl⟩ hP hD hS dX10_rota_20 (Nat.le_refl _) (Nat.le_refl _)
  · skip
    refine lv_iload_n hx hb dX10_rota_10 rfl (lv_at hl 1 rfl) ?_
    refine lv_if_lt (tgt := 19) hx hb dX10_rota_11 rfl (fun c2 => ?_) (fun c2 => ?_)
    · skip
      refine lv_iconst (v := (-1)) hx hb dX10_rota_19 rfl ?_
      exact ret (-1) (v, f) _ _ _ _ _ _ rfl ⟨(gsX_X10_rota_1_q1 c1 c2), hM_v, hA_f, hIv, rfl, rfl, rfl, rfl, rfl, rfl, rfl, rfl⟩ hP hD hS dX10_rota_20 (Nat.le_refl _) (Nat.le_refl _)
    · skip
      refine lv_iload_n hx hb dX10_rota_14 rfl (lv_at hl 1 rfl) ?_
      refine lv_iconst (v := 1) hx hb dX10_rota_15 rfl ?_
      refine lv_icmp_le (tgt := 21) hx hb dX10_rota_16 rfl (fun c3 => ?_) (fun c3 => ?_)
      · skip
        refine lv_aload_n hx hb dX10_rota_21 rfl (lv_at hl 0 rfl) ?_
        refine va_get (D := (dC, dI)) (ci := 10) (v := .ref (x 25)) (C := RX10) (T := TX10) (N := 10) hx hb hts inB_10 hown hE.1 hP 0 rfl rfl 5 (Nat.le_of_ble_eq_true rfl) (hts _ k_496) (fun _ h9 => h9) rfl dX10_rota_22 ?_
        refine cbVv (n := 0) (rest := []) hx hb hml hown hts hE hP hD hS hA (sX_X3_findRota_1 NF l dC dI cy x0 x  v f hIv ) k_1024 k_1025 k_1026 k_109 k_1027 hd_yX3_findRota ⟨Nat.le_of_ble_eq_true rfl, Nat.le_of_ble_eq_true rfl⟩ 26 3 rfl rfl (rfl) hl.1 rfl (Nat.le_of_ble_eq_true rfl) dX10_rota_25 (fun u H locs hw hP hD hS => ?_)
        obtain ⟨hG4, hw⟩ := hw
        obtain ⟨v5, f6⟩ := u
        obtain ⟨kV_v5, kF_f6, hIv5, hk0_v5, hk1_v5, hk7_v5, hk8_v5, hk9_v5, hk10_v5, hk31_v5, hk32_v5⟩ := hw
        have hM_v5 : KV [26, 27] v5 v := KV.tr kV_v5 hM_v rfl
        have hA_f6 : KF [13, 14] f6 f := KF.tr kF_f6 hA_f rfl
        have hP : va_P (dC, dI) vwCl (XW cy x0 x v5 f6) H := hP
        have hD : va_D A (XW cy x0 x v5 f6) := hD
        refine lv_iload_n hx hb dX10_rota_28 rfl (lv_at hl 1 rfl) ?_
        refine lv_if_ne (tgt := 42) hx hb dX10_rota_29 rfl (fun c7 => ?_) (fun c7 => ?_)
        · skip
          refine lv_aload_n hx hb dX10_rota_42 rfl (lv_at hl 0 rfl) ?_
          refine va_get (D := (dC, dI)) (ci := 10) (v := .ref (x 25)) (C := RX10) (T := TX10) (N := 10) hx hb hts inB_10 hown hE.1 hP 0 rfl rfl 5 (Nat.le_of_ble_eq_true rfl) (hts _ k_496) (fun _ h9 => h9) rfl dX10_rota_43 ?_
          refine va_getN (D := (dC, dI)) (ci := 3) (v := .int (v5 27)) (C := RX3) (T := TX3) (N := 10) hx hb hts inB_3 hown hE.1 hP 26 rfl rfl 6 (Nat.le_of_ble_eq_true rfl) (va_Nw.use rfl (hE.2 _ k_380)) (fun _ h9 => h9) rfl dX10_rota_46 ?_
          exact ret (v5 27) (v5, f6) _ _ _ _ _ _ rfl ⟨(gsX_X10_rota_1_q2 c1 c2 c3 hG4 c7), hM_v5, hA_f6, hIv5, hk0_v5, hk1_v5, hk7_v5, hk8_v5, hk9_v5, hk10_v5, hk31_v5, hk32_v5⟩ hP hD hS dX10_rota_49 (Nat.le_refl _) (Nat.le_refl _)
        · skip
          refine lv_aload_n hx hb dX10_rota_32 rfl (lv_at hl 0 rfl) ?_
          refine va_get (D := (dC, dI)) (ci := 10) (v := .ref (x 25)) (C := RX10) (T := TX10) (N := 10) hx hb hts inB_10 hown hE.1 hP 0 rfl rfl 5 (Nat.le_of_ble_eq_true rfl) (hts _ k_496) (fun _ h9 => h9) rfl dX10_rota_33 ?_
          refine va_getN (D := (dC, dI)) (ci := 3) (v := .int (v5 26)) (C := RX3) (T := TX3) (N := 10) hx hb hts inB_3 hown hE.1 hP 26 rfl rfl 5 (Nat.le_of_ble_eq_true rfl) (va_Nw.use rfl (hE.2 _ k_378)) (fun _ h9 => h9) rfl dX10_rota_36 ?_
          refine lv_goto (tgt := 49) hx hb dX10_rota_39 rfl ?_
          exact ret (v5 26) (v5, f6) _ _ _ _ _ _ rfl ⟨(gsX_X10_rota_1_q3 c1 c2 c3 hG4 c7), hM_v5, hA_f6, hIv5, hk0_v5, hk1_v5, hk7_v5, hk8_v5, hk9_v5, hk10_v5, hk31_v5, hk32_v5⟩ hP hD hS dX10_rota_49 (Nat.le_refl _) (Nat.le_refl _)
      · skip
        refine lv_iconst (v := (-1)) hx hb dX10_rota_19 rfl ?_
        exact ret (-1) (v, f) _ _ _ _ _ _ rfl ⟨(gsX_X10_rota_1_q4 c1 c2 c3), hM_v, hA_f, hIv, rfl, rfl, rfl, rfl, rfl, rfl, rfl, rfl⟩ hP hD hS dX10_rota_20 (Nat.le_refl _) (Nat.le_refl _)
set_option maxHeartbeats 4000000 in
set_option maxRecDepth 100000 in
theorem sX_X1_fittingCoats_1 (l : Launch) (dC : Nat → ClassId) (dI : Nat → Nat → Nat) (cy : Nat → ClassId) (x0 : Nat) (x : Nat → Nat) (p1 : Int32) (v : Nat → Int32) (f : Nat → Nat → Int32) (hIv : XI v)  : ctI l (dC, dI) cy yX1_fittingCoats cX1_fittingCoats 4 .int 5 155 0 0 ((Nat → Int32) × (Nat → Nat → Int32)) [.ref (x 21), .int p1] (XW cy x0 x v f) (fun r u => KV [] u.1 v ∧ KF [13, 14] u.2 f ∧ XI u.1 ∧ u.1 0 = v 0 ∧ u.1 1 = v 1 ∧ u.1 7 = v 7 ∧ u.1 8 = v 8 ∧ u.1 9 = v 9 ∧ u.1 10 = v 10 ∧ u.1 31 = v 31 ∧ u.1 32 = v 32) (fun u => XW cy x0 x u.1 u.2) := by
  refine ctI_of (by decide) (Nat.le_of_ble_eq_true rfl) (fun p e s m below meth c A ls Q hx hb hml hts hown hE hP hD hA hl ret => ?_)
  have hM_v : KV [] v v := fun _ _ => rfl
  have hA_f : KF [13, 14] f f := fun _ _ => rfl
  have hown : s.vm.findClass RX1 = some m.cls := hown
  have hS : va_S A s.heap s.heap [] := va_S.rf
  have hl : lv_has ls 4 [(0, .ref (x 21)), (1, .int p1)] := hl
  refine lv_iconst (v := 0) hx hb dX1_fittingCoats_0 rfl ?_
  refine lv_istore_n (lv' := [(2, .int 0), (0, .ref (x 21)), (1, .int p1)]) hx hb dX1_fittingCoats_1 rfl hl (Nat.le_of_ble_eq_true rfl) rfl (fun ls hl => ?_)
  refine lv_iconst (v := 0) hx hb dX1_fittingCoats_2 rfl ?_
  refine lv_istore_n (lv' := [(3, .int 0), (2, .int 0), (0, .ref (x 21)), (1, .int p1)]) hx hb dX1_fittingCoats_3 rfl hl (Nat.le_of_ble_eq_true rfl) rfl (fun ls hl => ?_)
  have lp1 : ∀ (n1 : Nat) (l2_1 : Int32) (l3_1 : Int32) (v1 : Nat → Int32) (f1 : Nat → Nat → Int32), XI v1 → v1 0 = (v 0) → v1 1 = (v 1) → v1 7 = (v 7) → v1 8 = (v 8) → v1 9 = (v 9) → v1 10 = (v 10) → v1 31 = (v 31) → v1 32 = (v 32) → ((0 : Int) ≤ l3_1.toInt ∧ l3_1.toInt ≤ 2147483647) → KV [] v1 v → KF [13, 14] f1 f → (2147483647 - l3_1.toInt).toNat < n1 → ∀ (H : Heap) (locs : List Loc) (ls : Array Slot), va_P (dC, dI) vwCl (XW cy x0 x v1 f1) H → va_D A (XW cy x0 x v1 f1) → va_S A s.heap H locs → lv_has ls 4 [(3, .int l3_1), (2, .int l2_1), (0, .ref (x 21)), (1, .int p1)] → W p l e { frames := 5, cells := 0, slots := 0, locals := 155 } s m ([.ref (x 21), .int p1] : List Value).toArray below meth c H locs 0 0 Q (F0 m 4 ls []) := by
    intro n1
    induction n1 with
    | zero => intro l2_1 l3_1 v1 f1 hIv1 hq0_v1 hq1_v1 hq7_v1 hq8_v1 hq9_v1 hq10_v1 hq31_v1 hq32_v1 hr3_1 hM_v1 hA_f1 hm; exact absurd hm (Nat.not_lt_zero _)
    | succ n1 ih1 =>
      intro l2_1 l3_1 v1 f1 hIv1 hq0_v1 hq1_v1 hq7_v1 hq8_v1 hq9_v1 hq10_v1 hq31_v1 hq32_v1 hr3_1 hM_v1 hA_f1 hm1 H locs ls hP hD hS hl
      refine lv_iload_n hx hb dX1_fittingCoats_4 rfl (lv_at hl 0 rfl) ?_
      refine lv_aload_n hx hb dX1_fittingCoats_5 rfl (lv_at hl 2 rfl) ?_
      refine va_get (D := (dC, dI)) (ci := 1) (v := .ref (x 26)) (C := RX1) (T := TX1) (N := 2) hx hb hts inB_1 hown hE.1 hP 22 rfl rfl 0 (Nat.le_of_ble_eq_true rfl) (hts _ k_318) (fun _ h9 => h9) rfl dX1_fittingCoats_6 ?_
      refine va_getN (D := (dC, dI)) (ci := 7) (v := .int (v1 32)) (C := RX7) (T := TX7) (N := 10) hx hb hts inB_7 hown hE.1 hP 27 rfl rfl 4 (Nat.le_of_ble_eq_true rfl) (va_Nw.use rfl (hE.2 _ k_226)) (fun _ h9 => h9) rfl dX1_fittingCoats_9 ?_
      refine tI (y := (v 32)) hq32_v1 ?_
      have b32_v : 0 ≤ (v 32).toInt ∧ (v 32).toInt ≤ 6 := Xb_32 hIv
      refine lv_icmp_ge (tgt := 36) hx hb dX1_fittingCoats_12 rfl (fun c2 => ?_) (fun c2 => ?_)
      · skip
        refine lv_iload_n hx hb dX1_fittingCoats_36 rfl (lv_at hl 1 rfl) ?_
        exact ret l2_1 (v1, f1) _ _ _ _ _ _ rfl ⟨hM_v1, hA_f1, hIv1, (show v1 0 = v 0 from hq0_v1), (show v1 1 = v 1 from hq1_v1), (show v1 7 = v 7 from hq7_v1), (show v1 8 = v 8 from hq8_v1), (show v1 9 = v 9 from hq9_v1), (show v1 10 = v 10 from hq10_v1), (show v1 31 = v 31 from hq31_v1), (show v1 32 = v 32 from hq32_v1)⟩ hP hD hS dX1_fittingCoats_37 (Nat.le_refl _) (Nat.le_refl _)
      · skip
        have zc2 : ¬ ((v 32).toInt ≤ l3_1.toInt) := zMn rfl rfl c2
        refine lv_aload_n hx hb dX1_fittingCoats_15 rfl (lv_at hl 2 rfl) ?_
        refine lv_iload_n hx hb dX1_fittingCoats_16 rfl (lv_at hl 3 rfl) ?_
        refine lv_iload_n hx hb dX1_fittingCoats_17 rfl (lv_at hl 0 rfl) ?_
        refine cbVi (n := 2) (rest := []) hx hb hml hown hts hE hP hD hS hA (sX_X1_fits_1 0 l dC dI cy x0 x p1 l3_1 v1 f1 hIv1 ) k_817 k_818 k_819 k_106 k_820 hd_yX1_fits ⟨Nat.le_of_ble_eq_true rfl, Nat.le_of_ble_eq_true rfl⟩ 22 1 rfl rfl (rfl) hl.1 rfl (Nat.le_of_ble_eq_true rfl) dX1_fittingCoats_18 (fun r7 u H locs hw hP hD hS => ?_)
        obtain ⟨hG8, hw⟩ := hw
        obtain ⟨v9, f10⟩ := u
        obtain ⟨kV_v9, kF_f10, hIv9, hk0_v9, hk1_v9, hk7_v9, hk8_v9, hk9_v9, hk10_v9, hk31_v9, hk32_v9, hw⟩ := hw
        have hM_v9 : KV [] v9 v := KV.tr kV_v9 hM_v1 rfl
        have hA_f10 : KF [13, 14] f10 f := KF.tr kF_f10 hA_f1 rfl
        have hP : va_P (dC, dI) vwCl (XW cy x0 x v9 f10) H := hP
        have hD : va_D A (XW cy x0 x v9 f10) := hD
        have hq0_v9 : v9 0 = (v 0) := hk0_v9.trans hq0_v1
        have hq1_v9 : v9 1 = (v 1) := hk1_v9.trans hq1_v1
        have hq7_v9 : v9 7 = (v 7) := hk7_v9.trans hq7_v1
        have hq8_v9 : v9 8 = (v 8) := hk8_v9.trans hq8_v1
        have hq9_v9 : v9 9 = (v 9) := hk9_v9.trans hq9_v1
        have hq10_v9 : v9 10 = (v 10) := hk10_v9.trans hq10_v1
        have hq31_v9 : v9 31 = (v 31) := hk31_v9.trans hq31_v1
        have hq32_v9 : v9 32 = (v 32) := hk32_v9.trans hq32_v1
        rcases hw with ⟨g11⟩ | ⟨g11⟩
        · skip
          subst g11
          refine lv_if_eq (tgt := 30) hx hb dX1_fittingCoats_21 rfl (fun c0 => absurd c0 (by decide)) (fun _ => ?_)
          refine lv_iload_n hx hb dX1_fittingCoats_24 rfl (lv_at hl 1 rfl) ?_
          refine lv_iconst (v := 1) hx hb dX1_fittingCoats_25 rfl ?_
          refine lv_iload_n hx hb dX1_fittingCoats_26 rfl (lv_at hl 0 rfl) ?_
          refine lv_ishl hx hb dX1_fittingCoats_27 ?_
          refine lv_topi (fun t12 et12 => ?_)
          refine lv_ior hx hb dX1_fittingCoats_28 ?_
          refine lv_topi (fun t13 et13 => ?_)
          refine lv_istore_n (lv' := [(2, .int t13), (3, .int l3_1), (0, .ref (x 21)), (1, .int p1)]) hx hb dX1_fittingCoats_29 rfl hl (Nat.le_of_ble_eq_true rfl) rfl (fun ls hl => ?_)
          obtain ⟨t14, et14⟩ : ∃ y : Int32, y = l3_1 + 1 := ⟨_, rfl⟩
          have zt14 : t14.toInt = l3_1.toInt + 1 := (congrArg Int32.toInt et14).trans (add_i rfl tc_1 (om_41 hr3_1) (om_187 b32_v zc2))
          refine lv_iinc (v := t14) (lv' := [(3, .int t14), (2, .int t13), (0, .ref (x 21)), (1, .int p1)]) hx hb dX1_fittingCoats_30 hl (k := 1) rfl et14.symm (Nat.le_of_ble_eq_true rfl) rfl (fun ls hl => ?_)
          refine lv_goto (tgt := 4) hx hb dX1_fittingCoats_33 rfl ?_
          have rg15 := fb_rng t14
          exact ih1 t13 t14 v9 f10 hIv9 hq0_v9 hq1_v9 hq7_v9 hq8_v9 hq9_v9 hq10_v9 hq31_v9 hq32_v9 ⟨show (0 : Int) ≤ t14.toInt from om_43 hr3_1 zt14, show t14.toInt ≤ (2147483647 : Int) from om_44 rg15⟩ hM_v9 hA_f10 (show (2147483647 - t14.toInt).toNat < n1 from om_33 hm1 zt14 rg15) _ _ _ hP hD hS (lv_sub hl [0, 1, 2, 3] rfl)
        · skip
          subst g11
          refine lv_if_eq (tgt := 30) hx hb dX1_fittingCoats_21 rfl (fun _ => ?_) (fun c0 => absurd (by decide) c0)
          obtain ⟨t16, et16⟩ : ∃ y : Int32, y = l3_1 + 1 := ⟨_, rfl⟩
          have zt16 : t16.toInt = l3_1.toInt + 1 := (congrArg Int32.toInt et16).trans (add_i rfl tc_1 (om_41 hr3_1) (om_187 b32_v zc2))
          refine lv_iinc (v := t16) (lv' := [(3, .int t16), (2, .int l2_1), (0, .ref (x 21)), (1, .int p1)]) hx hb dX1_fittingCoats_30 hl (k := 0) rfl et16.symm (Nat.le_of_ble_eq_true rfl) rfl (fun ls hl => ?_)
          refine lv_goto (tgt := 4) hx hb dX1_fittingCoats_33 rfl ?_
          have rg17 := fb_rng t16
          exact ih1 l2_1 t16 v9 f10 hIv9 hq0_v9 hq1_v9 hq7_v9 hq8_v9 hq9_v9 hq10_v9 hq31_v9 hq32_v9 ⟨show (0 : Int) ≤ t16.toInt from om_43 hr3_1 zt16, show t16.toInt ≤ (2147483647 : Int) from om_44 rg17⟩ hM_v9 hA_f10 (show (2147483647 - t16.toInt).toNat < n1 from om_33 hm1 zt16 rg17) _ _ _ hP hD hS (lv_sub hl [0, 1, 2, 3] rfl)
  exact lp1 _ 0 0 v f hIv rfl rfl rfl rfl rfl rfl rfl rfl ⟨by decide, by decide⟩ hM_v hA_f (Nat.lt_succ_self _) _ _ _ hP hD hS (lv_sub hl [0, 1, 2, 3] rfl)
set_option maxHeartbeats 4000000 in
set_option maxRecDepth 100000 in
theorem sX_X10_man_1 (l : Launch) (dC : Nat → ClassId) (dI : Nat → Nat → Nat) (cy : Nat → ClassId) (x0 : Nat) (x : Nat → Nat) (p1 : Int32) (p2 : Int32) (v : Nat → Int32) (f : Nat → Nat → Int32) (hIv : XI v)  : ctI l (dC, dI) cy yX10_man cX10_man 3 .int 6 178 0 0 ((Nat → Int32) × (Nat → Nat → Int32)) [.ref x0, .int p1, .int p2] (XW cy x0 x v f) (fun r u => KV [] u.1 v ∧ KF [13, 14] u.2 f ∧ XI u.1 ∧ u.1 0 = v 0 ∧ u.1 1 = v 1 ∧ u.1 7 = v 7 ∧ u.1 8 = v 8 ∧ u.1 9 = v 9 ∧ u.1 10 = v 10 ∧ u.1 31 = v 31 ∧ u.1 32 = v 32) (fun u => XW cy x0 x u.1 u.2) := by
  refine ctI_of (by decide) (Nat.le_of_ble_eq_true rfl) (fun p e s m below meth c A ls Q hx hb hml hts hown hE hP hD hA hl ret => ?_)
  have hM_v : KV [] v v := fun _ _ => rfl
  have hA_f : KF [13, 14] f f := fun _ _ => rfl
  have hown : s.vm.findClass RX10 = some m.cls := hown
  have hS : va_S A s.heap s.heap [] := va_S.rf
  have hl : lv_has ls 3 [(0, .ref x0), (1, .int p1), (2, .int p2)] := hl
  refine lv_aload_n hx hb dX10_man_0 rfl (lv_at hl 0 rfl) ?_
  refine va_get (D := (dC, dI)) (ci := 10) (v := .ref (x 26)) (C := RX10) (T := TX10) (N := 10) hx hb hts inB_10 hown hE.1 hP 0 rfl rfl 2 (Nat.le_of_ble_eq_true rfl) (hts _ k_493) (fun _ h9 => h9) rfl dX10_man_1 ?_
  refine lv_iload_n hx hb dX10_man_4 rfl (lv_at hl 1 rfl) ?_
  refine cbVi (n := 1) (rest := []) hx hb hml hown hts hE hP hD hS hA (sX_X7_hasMan_1 0 l dC dI cy x0 x p1 v f hIv ) k_802 k_307 k_308 k_104 k_309 hd_yX7_hasMan ⟨Nat.le_of_ble_eq_true rfl, Nat.le_of_ble_eq_true rfl⟩ 27 7 rfl rfl (rfl) hl.1 rfl (Nat.le_of_ble_eq_true rfl) dX10_man_5 (fun r1 u H locs hw hP hD hS => ?_)
  obtain ⟨hG2, hw⟩ := hw
  rcases hw with ⟨g3, g3_0, g3_1, g3_2⟩ | ⟨g3⟩
  · skip
    subst g3
    refine lv_if_ne (tgt := 14) hx hb dX10_man_8 rfl (fun _ => ?_) (fun c0 => absurd c0 (by decide))
    refine lv_iload_n hx hb dX10_man_14 rfl (lv_at hl 2 rfl) ?_
    by_cases c4 : p2 = 0
    · skip
      refine lv_tableIn (off := 33) (tgt := 48) hx hb dX10_man_15 (by rw [c4]; decide) (by rw [c4]; decide) (by rw [c4]; decide) (by decide) ?_
      refine lv_aload_n hx hb dX10_man_48 rfl (lv_at hl 0 rfl) ?_
      refine va_get (D := (dC, dI)) (ci := 10) (v := .ref (x 26)) (C := RX10) (T := TX10) (N := 10) hx hb hts inB_10 hown hE.1 hP 0 rfl rfl 2 (Nat.le_of_ble_eq_true rfl) (hts _ k_493) (fun _ h9 => h9) rfl dX10_man_49 ?_
      refine lv_iconst (v := 0) hx hb dX10_man_52 rfl ?_
      refine lv_iload_n hx hb dX10_man_53 rfl (lv_at hl 1 rfl) ?_
      refine cbVi (n := 2) (rest := []) hx hb hml hown hts hE hP hD hS hA (sX_X7_manPart_1 0 l dC dI cy x0 x 0 p1 v f hIv ) k_803 k_303 k_304 k_104 k_305 hd_yX7_manPart ⟨Nat.le_of_ble_eq_true rfl, Nat.le_of_ble_eq_true rfl⟩ 27 7 rfl rfl (rfl) hl.1 rfl (Nat.le_of_ble_eq_true rfl) dX10_man_54 (fun r5 u H locs hw hP hD hS => ?_)
      have hG6 := hw
      exact ret r5 (v, f) _ _ _ _ _ _ rfl ⟨hM_v, hA_f, hIv, rfl, rfl, rfl, rfl, rfl, rfl, rfl, rfl⟩ hP hD hS dX10_man_57 (Nat.le_refl _) (Nat.le_refl _)
    · skip
      have zc4 : ¬ (p2.toInt = 0) := zEn rfl tc_0 c4
      by_cases c7 : p2 = 1
      · skip
        refine lv_tableIn (off := 43) (tgt := 58) hx hb dX10_man_15 (by rw [c7]; decide) (by rw [c7]; decide) (by rw [c7]; decide) (by decide) ?_
        refine lv_aload_n hx hb dX10_man_58 rfl (lv_at hl 0 rfl) ?_
        refine va_get (D := (dC, dI)) (ci := 10) (v := .ref (x 21)) (C := RX10) (T := TX10) (N := 10) hx hb hts inB_10 hown hE.1 hP 0 rfl rfl 3 (Nat.le_of_ble_eq_true rfl) (hts _ k_494) (fun _ h9 => h9) rfl dX10_man_59 ?_
        refine lv_iload_n hx hb dX10_man_62 rfl (lv_at hl 1 rfl) ?_
        refine cbVi (n := 1) (rest := []) hx hb hml hown hts hE hP hD hS hA (sX_X1_manWide_1 0 l dC dI cy x0 x p1 v f hIv ) k_804 k_805 k_806 k_106 k_807 hd_yX1_manWide ⟨Nat.le_of_ble_eq_true rfl, Nat.le_of_ble_eq_true rfl⟩ 22 1 rfl rfl (rfl) hl.1 rfl (Nat.le_of_ble_eq_true rfl) dX10_man_63 (fun r8 u H locs hw hP hD hS => ?_)
        have hG9 := hw
        exact ret r8 (v, f) _ _ _ _ _ _ rfl ⟨hM_v, hA_f, hIv, rfl, rfl, rfl, rfl, rfl, rfl, rfl, rfl⟩ hP hD hS dX10_man_66 (Nat.le_refl _) (Nat.le_refl _)
      · skip
        have zc7 : ¬ (p2.toInt = 1) := zEn rfl tc_1 c7
        by_cases c10 : p2 = 2
        · skip
          refine lv_tableIn (off := 52) (tgt := 67) hx hb dX10_man_15 (by rw [c10]; decide) (by rw [c10]; decide) (by rw [c10]; decide) (by decide) ?_
          refine lv_aload_n hx hb dX10_man_67 rfl (lv_at hl 0 rfl) ?_
          refine va_get (D := (dC, dI)) (ci := 10) (v := .ref (x 26)) (C := RX10) (T := TX10) (N := 10) hx hb hts inB_10 hown hE.1 hP 0 rfl rfl 2 (Nat.le_of_ble_eq_true rfl) (hts _ k_493) (fun _ h9 => h9) rfl dX10_man_68 ?_
          refine lv_iconst (v := 2) hx hb dX10_man_71 rfl ?_
          refine lv_iload_n hx hb dX10_man_72 rfl (lv_at hl 1 rfl) ?_
          refine cbVi (n := 2) (rest := []) hx hb hml hown hts hE hP hD hS hA (sX_X7_manPart_1 0 l dC dI cy x0 x 2 p1 v f hIv ) k_803 k_303 k_304 k_104 k_305 hd_yX7_manPart ⟨Nat.le_of_ble_eq_true rfl, Nat.le_of_ble_eq_true rfl⟩ 27 7 rfl rfl (rfl) hl.1 rfl (Nat.le_of_ble_eq_true rfl) dX10_man_73 (fun r11 u H locs hw hP hD hS => ?_)
          have hG12 := hw
          exact ret r11 (v, f) _ _ _ _ _ _ rfl ⟨hM_v, hA_f, hIv, rfl, rfl, rfl, rfl, rfl, rfl, rfl, rfl⟩ hP hD hS dX10_man_76 (Nat.le_refl _) (Nat.le_refl _)
        · skip
          have zc10 : ¬ (p2.toInt = 2) := zEn rfl tc_2 c10
          by_cases c13 : p2 = 3
          · skip
            refine lv_tableIn (off := 62) (tgt := 77) hx hb dX10_man_15 (by rw [c13]; decide) (by rw [c13]; decide) (by rw [c13]; decide) (by decide) ?_
            refine lv_aload_n hx hb dX10_man_77 rfl (lv_at hl 0 rfl) ?_
            refine va_get (D := (dC, dI)) (ci := 10) (v := .ref (x 21)) (C := RX10) (T := TX10) (N := 10) hx hb hts inB_10 hown hE.1 hP 0 rfl rfl 3 (Nat.le_of_ble_eq_true rfl) (hts _ k_494) (fun _ h9 => h9) rfl dX10_man_78 ?_
            refine lv_iload_n hx hb dX10_man_81 rfl (lv_at hl 1 rfl) ?_
            refine cbVi (n := 1) (rest := []) hx hb hml hown hts hE hP hD hS hA (sX_X1_wears_1 0 l dC dI cy x0 x p1 v f hIv ) k_809 k_810 k_811 k_106 k_812 hd_yX1_wears ⟨Nat.le_of_ble_eq_true rfl, Nat.le_of_ble_eq_true rfl⟩ 22 1 rfl rfl (rfl) hl.1 rfl (Nat.le_of_ble_eq_true rfl) dX10_man_82 (fun r14 u H locs hw hP hD hS => ?_)
            have hG15 := hw
            exact ret r14 (v, f) _ _ _ _ _ _ rfl ⟨hM_v, hA_f, hIv, rfl, rfl, rfl, rfl, rfl, rfl, rfl, rfl⟩ hP hD hS dX10_man_85 (Nat.le_refl _) (Nat.le_refl _)
          · skip
            have zc13 : ¬ (p2.toInt = 3) := zEn rfl tc_3 c13
            by_cases c16 : p2 = 4
            · skip
              refine lv_tableIn (off := 71) (tgt := 86) hx hb dX10_man_15 (by rw [c16]; decide) (by rw [c16]; decide) (by rw [c16]; decide) (by decide) ?_
              refine lv_aload_n hx hb dX10_man_86 rfl (lv_at hl 0 rfl) ?_
              refine va_get (D := (dC, dI)) (ci := 10) (v := .ref (x 21)) (C := RX10) (T := TX10) (N := 10) hx hb hts inB_10 hown hE.1 hP 0 rfl rfl 3 (Nat.le_of_ble_eq_true rfl) (hts _ k_494) (fun _ h9 => h9) rfl dX10_man_87 ?_
              refine lv_iload_n hx hb dX10_man_90 rfl (lv_at hl 1 rfl) ?_
              refine cbVi (n := 1) (rest := []) hx hb hml hown hts hE hP hD hS hA (sX_X1_fittingCoats_1 l dC dI cy x0 x p1 v f hIv ) k_813 k_814 k_815 k_106 k_816 hd_yX1_fittingCoats ⟨Nat.le_of_ble_eq_true rfl, Nat.le_of_ble_eq_true rfl⟩ 22 1 rfl rfl (rfl) hl.1 rfl (Nat.le_of_ble_eq_true rfl) dX10_man_91 (fun r17 u H locs hw hP hD hS => ?_)
              obtain ⟨v18, f19⟩ := u
              obtain ⟨kV_v18, kF_f19, hIv18, hk0_v18, hk1_v18, hk7_v18, hk8_v18, hk9_v18, hk10_v18, hk31_v18, hk32_v18⟩ := hw
              have hM_v18 : KV [] v18 v := KV.tr kV_v18 hM_v rfl
              have hA_f19 : KF [13, 14] f19 f := KF.tr kF_f19 hA_f rfl
              have hP : va_P (dC, dI) vwCl (XW cy x0 x v18 f19) H := hP
              have hD : va_D A (XW cy x0 x v18 f19) := hD
              exact ret r17 (v18, f19) _ _ _ _ _ _ rfl ⟨hM_v18, hA_f19, hIv18, hk0_v18, hk1_v18, hk7_v18, hk8_v18, hk9_v18, hk10_v18, hk31_v18, hk32_v18⟩ hP hD hS dX10_man_94 (Nat.le_refl _) (Nat.le_refl _)
            · skip
              have zc16 : ¬ (p2.toInt = 4) := zEn rfl tc_4 c16
              refine lv_tableOut (tgt := 95) hx hb dX10_man_15 (by omega) (by decide) ?_
              refine lv_bipush (v := (-2)) hx hb dX10_man_95 rfl ?_
              exact ret (-2) (v, f) _ _ _ _ _ _ rfl ⟨hM_v, hA_f, hIv, rfl, rfl, rfl, rfl, rfl, rfl, rfl, rfl⟩ hP hD hS dX10_man_97 (Nat.le_refl _) (Nat.le_refl _)
  · skip
    subst g3
    refine lv_if_ne (tgt := 14) hx hb dX10_man_8 rfl (fun c0 => absurd (by decide) c0) (fun _ => ?_)
    refine lv_bipush (v := (-2)) hx hb dX10_man_11 rfl ?_
    exact ret (-2) (v, f) _ _ _ _ _ _ rfl ⟨hM_v, hA_f, hIv, rfl, rfl, rfl, rfl, rfl, rfl, rfl, rfl⟩ hP hD hS dX10_man_13 (Nat.le_refl _) (Nat.le_refl _)
set_option maxHeartbeats 4000000 in
set_option maxRecDepth 100000 in
theorem sX_X10_coat_1 (l : Launch) (dC : Nat → ClassId) (dI : Nat → Nat → Nat) (cy : Nat → ClassId) (x0 : Nat) (x : Nat → Nat) (p1 : Int32) (p2 : Int32) (v : Nat → Int32) (f : Nat → Nat → Int32) (hIv : XI v)  : ctI l (dC, dI) cy yX10_coat cX10_coat 3 .int 4 124 0 0 Unit [.ref x0, .int p1, .int p2] (XW cy x0 x v f) (fun r u => True) (fun u => XW cy x0 x v f) := by
  refine ctI_of (by decide) (Nat.le_of_ble_eq_true rfl) (fun p e s m below meth c A ls Q hx hb hml hts hown hE hP hD hA hl ret => ?_)
  have hown : s.vm.findClass RX10 = some m.cls := hown
  have hS : va_S A s.heap s.heap [] := va_S.rf
  have hl : lv_has ls 3 [(0, .ref x0), (1, .int p1), (2, .int p2)] := hl
  refine lv_aload_n hx hb dX10_coat_0 rfl (lv_at hl 0 rfl) ?_
  refine va_get (D := (dC, dI)) (ci := 10) (v := .ref (x 26)) (C := RX10) (T := TX10) (N := 10) hx hb hts inB_10 hown hE.1 hP 0 rfl rfl 2 (Nat.le_of_ble_eq_true rfl) (hts _ k_493) (fun _ h9 => h9) rfl dX10_coat_1 ?_
  refine lv_iload_n hx hb dX10_coat_4 rfl (lv_at hl 1 rfl) ?_
  refine cbVi (n := 1) (rest := []) hx hb hml hown hts hE hP hD hS hA (sX_X7_hasCoat_1 0 l dC dI cy x0 x p1 v f hIv ) k_848 k_315 k_316 k_104 k_317 hd_yX7_hasCoat ⟨Nat.le_of_ble_eq_true rfl, Nat.le_of_ble_eq_true rfl⟩ 27 7 rfl rfl (rfl) hl.1 rfl (Nat.le_of_ble_eq_true rfl) dX10_coat_5 (fun r1 u H locs hw hP hD hS => ?_)
  obtain ⟨hG2, hw⟩ := hw
  rcases hw with ⟨g3, g3_0, g3_1, g3_2⟩ | ⟨g3⟩
  · skip
    subst g3
    refine lv_if_eq (tgt := 20) hx hb dX10_coat_8 rfl (fun c0 => absurd c0 (by decide)) (fun _ => ?_)
    refine lv_iload_n hx hb dX10_coat_11 rfl (lv_at hl 2 rfl) ?_
    refine lv_if_lt (tgt := 20) hx hb dX10_coat_12 rfl (fun c4 => ?_) (fun c4 => ?_)
    · skip
      refine lv_bipush (v := (-2)) hx hb dX10_coat_20 rfl ?_
      exact ret (-2) () _ _ _ _ _ _ rfl trivial hP hD hS dX10_coat_22 (Nat.le_refl _) (Nat.le_refl _)
    · skip
      refine lv_iload_n hx hb dX10_coat_15 rfl (lv_at hl 2 rfl) ?_
      refine lv_iconst (v := 5) hx hb dX10_coat_16 rfl ?_
      refine lv_icmp_le (tgt := 23) hx hb dX10_coat_17 rfl (fun c5 => ?_) (fun c5 => ?_)
      · skip
        refine lv_iload_n hx hb dX10_coat_23 rfl (lv_at hl 2 rfl) ?_
        refine lv_iconst (v := 5) hx hb dX10_coat_24 rfl ?_
        refine lv_icmp_ne (tgt := 39) hx hb dX10_coat_25 rfl (fun c6 => ?_) (fun c6 => ?_)
        · skip
          refine lv_aload_n hx hb dX10_coat_39 rfl (lv_at hl 0 rfl) ?_
          refine va_get (D := (dC, dI)) (ci := 10) (v := .ref (x 21)) (C := RX10) (T := TX10) (N := 10) hx hb hts inB_10 hown hE.1 hP 0 rfl rfl 3 (Nat.le_of_ble_eq_true rfl) (hts _ k_494) (fun _ h9 => h9) rfl dX10_coat_40 ?_
          refine lv_iload_n hx hb dX10_coat_43 rfl (lv_at hl 2 rfl) ?_
          refine lv_iload_n hx hb dX10_coat_44 rfl (lv_at hl 1 rfl) ?_
          refine cbVi (n := 2) (rest := []) hx hb hml hown hts hE hP hD hS hA (sX_X1_part_1 0 l dC dI cy x0 x p2 p1 v f hIv ) k_854 k_828 k_829 k_106 k_830 hd_yX1_part ⟨Nat.le_of_ble_eq_true rfl, Nat.le_of_ble_eq_true rfl⟩ 22 1 rfl rfl (rfl) hl.1 rfl (Nat.le_of_ble_eq_true rfl) dX10_coat_45 (fun r7 u H locs hw hP hD hS => ?_)
          have hG8 := hw
          exact ret r7 () _ _ _ _ _ _ rfl trivial hP hD hS dX10_coat_48 (Nat.le_refl _) (Nat.le_refl _)
        · skip
          refine lv_aload_n hx hb dX10_coat_28 rfl (lv_at hl 0 rfl) ?_
          refine va_get (D := (dC, dI)) (ci := 10) (v := .ref (x 21)) (C := RX10) (T := TX10) (N := 10) hx hb hts inB_10 hown hE.1 hP 0 rfl rfl 3 (Nat.le_of_ble_eq_true rfl) (hts _ k_494) (fun _ h9 => h9) rfl dX10_coat_29 ?_
          refine lv_iload_n hx hb dX10_coat_32 rfl (lv_at hl 1 rfl) ?_
          refine cbVi (n := 1) (rest := []) hx hb hml hown hts hE hP hD hS hA (sX_X1_wearer_1 0 l dC dI cy x0 x p1 v f hIv ) k_849 k_850 k_851 k_106 k_852 hd_yX1_wearer ⟨Nat.le_of_ble_eq_true rfl, Nat.le_of_ble_eq_true rfl⟩ 22 1 rfl rfl (rfl) hl.1 rfl (Nat.le_of_ble_eq_true rfl) dX10_coat_33 (fun r9 u H locs hw hP hD hS => ?_)
          have hG10 := hw
          refine lv_goto (tgt := 48) hx hb dX10_coat_36 rfl ?_
          exact ret r9 () _ _ _ _ _ _ rfl trivial hP hD hS dX10_coat_48 (Nat.le_refl _) (Nat.le_refl _)
      · skip
        refine lv_bipush (v := (-2)) hx hb dX10_coat_20 rfl ?_
        exact ret (-2) () _ _ _ _ _ _ rfl trivial hP hD hS dX10_coat_22 (Nat.le_refl _) (Nat.le_refl _)
  · skip
    subst g3
    refine lv_if_eq (tgt := 20) hx hb dX10_coat_8 rfl (fun _ => ?_) (fun c0 => absurd (by decide) c0)
    refine lv_bipush (v := (-2)) hx hb dX10_coat_20 rfl ?_
    exact ret (-2) () _ _ _ _ _ _ rfl trivial hP hD hS dX10_coat_22 (Nat.le_refl _) (Nat.le_refl _)
set_option maxHeartbeats 4000000 in
set_option maxRecDepth 100000 in
theorem sX_X1_copy_1 (l : Launch) (dC : Nat → ClassId) (dI : Nat → Nat → Nat) (cy : Nat → ClassId) (x0 : Nat) (x : Nat → Nat)  (v : Nat → Int32) (f : Nat → Nat → Int32) (hIv : XI v)  : ctV l (dC, dI) cy yX1_copy cX1_copy 2 1 100 0 0 ((Nat → Int32) × (Nat → Nat → Int32)) [.ref (x 27), .ref (x 21)] (XW cy x0 x v f) (fun u => KV [] u.1 v ∧ KF [18] u.2 f ∧ XI u.1 ∧ u.1 0 = v 0 ∧ u.1 1 = v 1 ∧ u.1 7 = v 7 ∧ u.1 8 = v 8 ∧ u.1 9 = v 9 ∧ u.1 10 = v 10 ∧ u.1 31 = v 31 ∧ u.1 32 = v 32) (fun u => XW cy x0 x u.1 u.2) := by
  refine ctV_of (by decide) (Nat.le_of_ble_eq_true rfl) (fun p e s m below meth c A ls Q hx hb hml hts hown hnm hE hP hD hA hl ret => ?_)
  have hM_v : KV [] v v := fun _ _ => rfl
  have hA_f : KF [18] f f := fun _ _ => rfl
  have hown : s.vm.findClass RX1 = some m.cls := hown
  have hS : va_S A s.heap s.heap [] := va_S.rf
  have hl : lv_has ls 2 [(0, .ref (x 27)), (1, .ref (x 21))] := hl
  refine lv_aload_n hx hb dX1_copy_0 rfl (lv_at hl 1 rfl) ?_
  refine va_get (D := (dC, dI)) (ci := 1) (v := .ref (x 22)) (C := RX1) (T := TX1) (N := 2) hx hb hts inB_1 hown hE.1 hP 22 rfl rfl 1 (Nat.le_of_ble_eq_true rfl) (hts _ k_319) (fun _ h9 => h9) rfl dX1_copy_1 ?_
  refine lv_iconst (v := 0) hx hb dX1_copy_4 rfl ?_
  refine lv_aload_n hx hb dX1_copy_5 rfl (lv_at hl 0 rfl) ?_
  refine va_get (D := (dC, dI)) (ci := 1) (v := .ref (x 28)) (C := RX1) (T := TX1) (N := 2) hx hb hts inB_1 hown hE.1 hP 28 rfl rfl 1 (Nat.le_of_ble_eq_true rfl) (hts _ k_319) (fun _ h9 => h9) rfl dX1_copy_6 ?_
  refine lv_iconst (v := 0) hx hb dX1_copy_9 rfl ?_
  refine lv_bipush (v := 44) hx hb dX1_copy_10 rfl ?_
  refine cpG (zs := 0) (zd := 0) (zn := 44) hx hb (by rw [hml]; exact hl.1.symm) hown (hts _ k_335) (hts _ k_337) (hts _ k_336) (hts _ k_108) hE hP hD hS 23 29 rfl rfl (by decide) (by decide) (by decide) (by omega) (by omega) (by omega) (by omega) (by omega) (Nat.le_of_ble_eq_true rfl) (Nat.le_of_ble_eq_true rfl) dX1_copy_12 (fun g9 H locs hP hD hS => ?_)
  obtain ⟨f1, ef1, hP, hD⟩ : ∃ fz9, fz9 = upd2 f 18 g9 ∧ va_P (dC, dI) vwCl (XW cy x0 x v fz9) H ∧ va_D A (XW cy x0 x v fz9) := ⟨_, rfl, hP, hD⟩
  have hA_f1 : KF [18] f1 f := by rw [ef1]; exact KF.up hA_f rfl
  exact ret (v, f1) _ _ _ _ _ _ ⟨hM_v, hA_f1, hIv, rfl, rfl, rfl, rfl, rfl, rfl, rfl, rfl⟩ hP hD hS dX1_copy_15 (Nat.le_refl _) (Nat.le_refl _)
def gsX_X1_wears_2 (NF : Nat) (p1 : Int32) (v : Nat → Int32) (f : Nat → Nat → Int32) : Int32 :=
  if gsX_X7_hasMan_1 NF p1 v f = 1 then
    let t4 : Int32 := 6 + p1
    let t6 : Int32 := f 18 (t4).toNatClampNeg
    t6
  else
    (-1)
theorem gsX_X1_wears_2_q0 {NF : Nat} {p1 : Int32} {v : Nat → Int32} {f : Nat → Nat → Int32} {t4 : Int32} {t6 : Int32} (h0 : gsX_X7_hasMan_1 NF p1 v f = 1) (h1 : t4 = 6 + p1) (h2 : t6 = f 18 (t4).toNatClampNeg) : gsX_X1_wears_2 NF p1 v f = t6 := by
  subst h1 h2
  simp only [gsX_X1_wears_2, h0, ite11, ite01, if_true, if_false]
theorem gsX_X1_wears_2_q1 {NF : Nat} {p1 : Int32} {v : Nat → Int32} {f : Nat → Nat → Int32} (h0 : gsX_X7_hasMan_1 NF p1 v f = 0) : gsX_X1_wears_2 NF p1 v f = (-1) := by
  simp only [gsX_X1_wears_2, h0, ite11, ite01, if_true, if_false]
set_option maxHeartbeats 4000000 in
set_option maxRecDepth 100000 in
theorem sX_X1_wears_2 (NF : Nat) (l : Launch) (dC : Nat → ClassId) (dI : Nat → Nat → Nat) (cy : Nat → ClassId) (x0 : Nat) (x : Nat → Nat) (p1 : Int32) (v : Nat → Int32) (f : Nat → Nat → Int32) (hIv : XI v)  : ctI l (dC, dI) cy yX1_wears cX1_wears 2 .int 2 81 0 0 Unit [.ref (x 27), .int p1] (XW cy x0 x v f) (fun r u => gsX_X1_wears_2 NF p1 v f = r) (fun u => XW cy x0 x v f) := by
  refine ctI_of (by decide) (Nat.le_of_ble_eq_true rfl) (fun p e s m below meth c A ls Q hx hb hml hts hown hE hP hD hA hl ret => ?_)
  have hown : s.vm.findClass RX1 = some m.cls := hown
  have hS : va_S A s.heap s.heap [] := va_S.rf
  have hl : lv_has ls 2 [(0, .ref (x 27)), (1, .int p1)] := hl
  refine lv_aload_n hx hb dX1_wears_0 rfl (lv_at hl 0 rfl) ?_
  refine va_get (D := (dC, dI)) (ci := 1) (v := .ref (x 26)) (C := RX1) (T := TX1) (N := 2) hx hb hts inB_1 hown hE.1 hP 28 rfl rfl 0 (Nat.le_of_ble_eq_true rfl) (hts _ k_318) (fun _ h9 => h9) rfl dX1_wears_1 ?_
  refine lv_iload_n hx hb dX1_wears_4 rfl (lv_at hl 1 rfl) ?_
  refine cbVi (n := 1) (rest := []) hx hb hml hown hts hE hP hD hS hA (sX_X7_hasMan_1 NF l dC dI cy x0 x p1 v f hIv ) k_808 k_307 k_308 k_104 k_309 hd_yX7_hasMan ⟨Nat.le_of_ble_eq_true rfl, Nat.le_of_ble_eq_true rfl⟩ 27 7 rfl rfl (rfl) hl.1 rfl (Nat.le_of_ble_eq_true rfl) dX1_wears_5 (fun r1 u H locs hw hP hD hS => ?_)
  obtain ⟨hG2, hw⟩ := hw
  rcases hw with ⟨g3, g3_0, g3_1, g3_2⟩ | ⟨g3⟩
  · skip
    subst g3
    refine lv_if_eq (tgt := 23) hx hb dX1_wears_8 rfl (fun c0 => absurd c0 (by decide)) (fun _ => ?_)
    refine lv_aload_n hx hb dX1_wears_11 rfl (lv_at hl 0 rfl) ?_
    refine va_get (D := (dC, dI)) (ci := 1) (v := .ref (x 28)) (C := RX1) (T := TX1) (N := 2) hx hb hts inB_1 hown hE.1 hP 28 rfl rfl 1 (Nat.le_of_ble_eq_true rfl) (hts _ k_319) (fun _ h9 => h9) rfl dX1_wears_12 ?_
    refine lv_bipush (v := 6) hx hb dX1_wears_15 rfl ?_
    refine lv_iload_n hx hb dX1_wears_17 rfl (lv_at hl 1 rfl) ?_
    refine lv_iadd hx hb dX1_wears_18 ?_
    refine lv_topi (fun t4 et4 => ?_)
    have zt4 : t4.toInt = 6 + p1.toInt := (congrArg Int32.toInt et4).trans (add_i tc_6 rfl (om_183 g3_0) (om_184 g3_2))
    refine ldI hx hb hE hP 29 rfl (vpI (k := 44) rfl (show 0 ≤ t4.toInt from om_185 g3_0 zt4) (show t4.toInt < 44 from om_186 g3_2 zt4)) rfl rfl dX1_wears_19 ?_
    refine lv_topi (fun t6 et6 => ?_)
    refine lv_goto (tgt := 24) hx hb dX1_wears_20 rfl ?_
    exact ret t6 () _ _ _ _ _ _ rfl (gsX_X1_wears_2_q0 hG2 et4 et6) hP hD hS dX1_wears_24 (Nat.le_refl _) (Nat.le_refl _)
  · skip
    subst g3
    refine lv_if_eq (tgt := 23) hx hb dX1_wears_8 rfl (fun _ => ?_) (fun c0 => absurd (by decide) c0)
    refine lv_iconst (v := (-1)) hx hb dX1_wears_23 rfl ?_
    exact ret (-1) () _ _ _ _ _ _ rfl (gsX_X1_wears_2_q1 hG2) hP hD hS dX1_wears_24 (Nat.le_refl _) (Nat.le_refl _)
def gsX_X1_manWide_2 (NF : Nat) (p1 : Int32) (v : Nat → Int32) (f : Nat → Nat → Int32) : Int32 :=
  if gsX_X7_hasMan_1 NF p1 v f = 1 then
    let t4 : Int32 := f 18 (p1).toNatClampNeg
    t4
  else
    0
theorem gsX_X1_manWide_2_q0 {NF : Nat} {p1 : Int32} {v : Nat → Int32} {f : Nat → Nat → Int32} {t4 : Int32} (h0 : gsX_X7_hasMan_1 NF p1 v f = 1) (h1 : t4 = f 18 (p1).toNatClampNeg) : gsX_X1_manWide_2 NF p1 v f = t4 := by
  subst h1
  simp only [gsX_X1_manWide_2, h0, ite11, ite01, if_true, if_false]
theorem gsX_X1_manWide_2_q1 {NF : Nat} {p1 : Int32} {v : Nat → Int32} {f : Nat → Nat → Int32} (h0 : gsX_X7_hasMan_1 NF p1 v f = 0) : gsX_X1_manWide_2 NF p1 v f = 0 := by
  simp only [gsX_X1_manWide_2, h0, ite11, ite01, if_true, if_false]
set_option maxHeartbeats 4000000 in
set_option maxRecDepth 100000 in
theorem sX_X1_manWide_2 (NF : Nat) (l : Launch) (dC : Nat → ClassId) (dI : Nat → Nat → Nat) (cy : Nat → ClassId) (x0 : Nat) (x : Nat → Nat) (p1 : Int32) (v : Nat → Int32) (f : Nat → Nat → Int32) (hIv : XI v)  : ctI l (dC, dI) cy yX1_manWide cX1_manWide 2 .int 2 81 0 0 Unit [.ref (x 27), .int p1] (XW cy x0 x v f) (fun r u => gsX_X1_manWide_2 NF p1 v f = r) (fun u => XW cy x0 x v f) := by
  refine ctI_of (by decide) (Nat.le_of_ble_eq_true rfl) (fun p e s m below meth c A ls Q hx hb hml hts hown hE hP hD hA hl ret => ?_)
  have hown : s.vm.findClass RX1 = some m.cls := hown
  have hS : va_S A s.heap s.heap [] := va_S.rf
  have hl : lv_has ls 2 [(0, .ref (x 27)), (1, .int p1)] := hl
  refine lv_aload_n hx hb dX1_manWide_0 rfl (lv_at hl 0 rfl) ?_
  refine va_get (D := (dC, dI)) (ci := 1) (v := .ref (x 26)) (C := RX1) (T := TX1) (N := 2) hx hb hts inB_1 hown hE.1 hP 28 rfl rfl 0 (Nat.le_of_ble_eq_true rfl) (hts _ k_318) (fun _ h9 => h9) rfl dX1_manWide_1 ?_
  refine lv_iload_n hx hb dX1_manWide_4 rfl (lv_at hl 1 rfl) ?_
  refine cbVi (n := 1) (rest := []) hx hb hml hown hts hE hP hD hS hA (sX_X7_hasMan_1 NF l dC dI cy x0 x p1 v f hIv ) k_808 k_307 k_308 k_104 k_309 hd_yX7_hasMan ⟨Nat.le_of_ble_eq_true rfl, Nat.le_of_ble_eq_true rfl⟩ 27 7 rfl rfl (rfl) hl.1 rfl (Nat.le_of_ble_eq_true rfl) dX1_manWide_5 (fun r1 u H locs hw hP hD hS => ?_)
  obtain ⟨hG2, hw⟩ := hw
  rcases hw with ⟨g3, g3_0, g3_1, g3_2⟩ | ⟨g3⟩
  · skip
    subst g3
    refine lv_if_eq (tgt := 20) hx hb dX1_manWide_8 rfl (fun c0 => absurd c0 (by decide)) (fun _ => ?_)
    refine lv_aload_n hx hb dX1_manWide_11 rfl (lv_at hl 0 rfl) ?_
    refine va_get (D := (dC, dI)) (ci := 1) (v := .ref (x 28)) (C := RX1) (T := TX1) (N := 2) hx hb hts inB_1 hown hE.1 hP 28 rfl rfl 1 (Nat.le_of_ble_eq_true rfl) (hts _ k_319) (fun _ h9 => h9) rfl dX1_manWide_12 ?_
    refine lv_iload_n hx hb dX1_manWide_15 rfl (lv_at hl 1 rfl) ?_
    refine ldI hx hb hE hP 29 rfl (vpI (k := 44) rfl (show 0 ≤ p1.toInt from om_62 g3_0) (show p1.toInt < 44 from om_143 g3_2)) rfl rfl dX1_manWide_16 ?_
    refine lv_topi (fun t4 et4 => ?_)
    refine lv_goto (tgt := 21) hx hb dX1_manWide_17 rfl ?_
    exact ret t4 () _ _ _ _ _ _ rfl (gsX_X1_manWide_2_q0 hG2 et4) hP hD hS dX1_manWide_21 (Nat.le_refl _) (Nat.le_refl _)
  · skip
    subst g3
    refine lv_if_eq (tgt := 20) hx hb dX1_manWide_8 rfl (fun _ => ?_) (fun c0 => absurd (by decide) c0)
    refine lv_iconst (v := 0) hx hb dX1_manWide_20 rfl ?_
    exact ret 0 () _ _ _ _ _ _ rfl (gsX_X1_manWide_2_q1 hG2) hP hD hS dX1_manWide_21 (Nat.le_refl _) (Nat.le_refl _)
def gsX_X1_part_2 (NF : Nat) (p1 : Int32) (p2 : Int32) (v : Nat → Int32) (f : Nat → Nat → Int32) : Int32 :=
  if gsX_X7_hasCoat_1 NF p2 v f = 1 then
    if p1 < 0 then
      0
    else
      if 5 ≤ p1 then
        0
      else
        let t6 : Int32 := p1 * 6
        let t8 : Int32 := 12 + t6
        let t10 : Int32 := t8 + p2
        let t13 : Int32 := f 18 (t10).toNatClampNeg
        t13
  else
    0
theorem gsX_X1_part_2_q0 {NF : Nat} {p1 : Int32} {p2 : Int32} {v : Nat → Int32} {f : Nat → Nat → Int32} (h0 : gsX_X7_hasCoat_1 NF p2 v f = 1) (h1 : (p1 < 0)) : gsX_X1_part_2 NF p1 p2 v f = 0 := by
  simp only [gsX_X1_part_2, h0, if_pos h1, ite11, ite01, if_true, if_false]
theorem gsX_X1_part_2_q1 {NF : Nat} {p1 : Int32} {p2 : Int32} {v : Nat → Int32} {f : Nat → Nat → Int32} (h0 : gsX_X7_hasCoat_1 NF p2 v f = 1) (h1 : ¬ (p1 < 0)) (h2 : (5 ≤ p1)) : gsX_X1_part_2 NF p1 p2 v f = 0 := by
  simp only [gsX_X1_part_2, h0, if_neg h1, if_pos h2, ite11, ite01, if_true, if_false]
theorem gsX_X1_part_2_q2 {NF : Nat} {p1 : Int32} {p2 : Int32} {v : Nat → Int32} {f : Nat → Nat → Int32} {t6 : Int32} {t8 : Int32} {t10 : Int32} {t13 : Int32} (h0 : gsX_X7_hasCoat_1 NF p2 v f = 1) (h1 : ¬ (p1 < 0)) (h2 : ¬ (5 ≤ p1)) (h3 : t6 = p1 * 6) (h4 : t8 = 12 + t6) (h5 : t10 = t8 + p2) (h6 : t13 = f 18 (t10).toNatClampNeg) : gsX_X1_part_2 NF p1 p2 v f = t13 := by
  subst h3 h4 h5 h6
  simp only [gsX_X1_part_2, h0, if_neg h1, if_neg h2, ite11, ite01, if_true, if_false]
theorem gsX_X1_part_2_q3 {NF : Nat} {p1 : Int32} {p2 : Int32} {v : Nat → Int32} {f : Nat → Nat → Int32} (h0 : gsX_X7_hasCoat_1 NF p2 v f = 0) : gsX_X1_part_2 NF p1 p2 v f = 0 := by
  simp only [gsX_X1_part_2, h0, ite11, ite01, if_true, if_false]
set_option maxHeartbeats 4000000 in
set_option maxRecDepth 100000 in
theorem sX_X1_part_2 (NF : Nat) (l : Launch) (dC : Nat → ClassId) (dI : Nat → Nat → Nat) (cy : Nat → ClassId) (x0 : Nat) (x : Nat → Nat) (p1 : Int32) (p2 : Int32) (v : Nat → Int32) (f : Nat → Nat → Int32) (hIv : XI v)  : ctI l (dC, dI) cy yX1_part cX1_part 4 .int 2 81 0 0 Unit [.ref (x 27), .int p1, .int p2] (XW cy x0 x v f) (fun r u => gsX_X1_part_2 NF p1 p2 v f = r) (fun u => XW cy x0 x v f) := by
  refine ctI_of (by decide) (Nat.le_of_ble_eq_true rfl) (fun p e s m below meth c A ls Q hx hb hml hts hown hE hP hD hA hl ret => ?_)
  have hown : s.vm.findClass RX1 = some m.cls := hown
  have hS : va_S A s.heap s.heap [] := va_S.rf
  have hl : lv_has ls 4 [(0, .ref (x 27)), (1, .int p1), (2, .int p2)] := hl
  refine lv_aload_n hx hb dX1_part_0 rfl (lv_at hl 0 rfl) ?_
  refine va_get (D := (dC, dI)) (ci := 1) (v := .ref (x 26)) (C := RX1) (T := TX1) (N := 2) hx hb hts inB_1 hown hE.1 hP 28 rfl rfl 0 (Nat.le_of_ble_eq_true rfl) (hts _ k_318) (fun _ h9 => h9) rfl dX1_part_1 ?_
  refine lv_iload_n hx hb dX1_part_4 rfl (lv_at hl 2 rfl) ?_
  refine cbVi (n := 1) (rest := []) hx hb hml hown hts hE hP hD hS hA (sX_X7_hasCoat_1 NF l dC dI cy x0 x p2 v f hIv ) k_821 k_315 k_316 k_104 k_317 hd_yX7_hasCoat ⟨Nat.le_of_ble_eq_true rfl, Nat.le_of_ble_eq_true rfl⟩ 27 7 rfl rfl (rfl) hl.1 rfl (Nat.le_of_ble_eq_true rfl) dX1_part_5 (fun r1 u H locs hw hP hD hS => ?_)
  obtain ⟨hG2, hw⟩ := hw
  rcases hw with ⟨g3, g3_0, g3_1, g3_2⟩ | ⟨g3⟩
  · skip
    subst g3
    refine lv_if_eq (tgt := 24) hx hb dX1_part_8 rfl (fun c0 => absurd c0 (by decide)) (fun _ => ?_)
    refine lv_iload_n hx hb dX1_part_11 rfl (lv_at hl 1 rfl) ?_
    refine lv_if_lt (tgt := 24) hx hb dX1_part_12 rfl (fun c4 => ?_) (fun c4 => ?_)
    · skip
      refine lv_iconst (v := 0) hx hb dX1_part_24 rfl ?_
      refine lv_istore_n (lv' := [(3, .int 0), (0, .ref (x 27)), (1, .int p1), (2, .int p2)]) hx hb dX1_part_25 rfl hl (Nat.le_of_ble_eq_true rfl) rfl (fun ls hl => ?_)
      refine lv_iload_n hx hb dX1_part_26 rfl (lv_at hl 0 rfl) ?_
      refine lv_if_eq (tgt := 47) hx hb dX1_part_27 rfl (fun _ => ?_) (fun c0 => absurd (by decide) c0)
      refine lv_iconst (v := 0) hx hb dX1_part_47 rfl ?_
      exact ret 0 () _ _ _ _ _ _ rfl (gsX_X1_part_2_q0 hG2 c4) hP hD hS dX1_part_48 (Nat.le_refl _) (Nat.le_refl _)
    · skip
      have zc4 : ¬ (p1.toInt < 0) := zLn rfl tc_0 c4
      refine lv_iload_n hx hb dX1_part_15 rfl (lv_at hl 1 rfl) ?_
      refine lv_iconst (v := 5) hx hb dX1_part_16 rfl ?_
      refine lv_icmp_ge (tgt := 24) hx hb dX1_part_17 rfl (fun c5 => ?_) (fun c5 => ?_)
      · skip
        refine lv_iconst (v := 0) hx hb dX1_part_24 rfl ?_
        refine lv_istore_n (lv' := [(3, .int 0), (0, .ref (x 27)), (1, .int p1), (2, .int p2)]) hx hb dX1_part_25 rfl hl (Nat.le_of_ble_eq_true rfl) rfl (fun ls hl => ?_)
        refine lv_iload_n hx hb dX1_part_26 rfl (lv_at hl 0 rfl) ?_
        refine lv_if_eq (tgt := 47) hx hb dX1_part_27 rfl (fun _ => ?_) (fun c0 => absurd (by decide) c0)
        refine lv_iconst (v := 0) hx hb dX1_part_47 rfl ?_
        exact ret 0 () _ _ _ _ _ _ rfl (gsX_X1_part_2_q1 hG2 c4 c5) hP hD hS dX1_part_48 (Nat.le_refl _) (Nat.le_refl _)
      · skip
        have zc5 : ¬ (5 ≤ p1.toInt) := zMn tc_5 rfl c5
        refine lv_iconst (v := 1) hx hb dX1_part_20 rfl ?_
        refine lv_goto (tgt := 25) hx hb dX1_part_21 rfl ?_
        refine lv_istore_n (lv' := [(3, .int 1), (0, .ref (x 27)), (1, .int p1), (2, .int p2)]) hx hb dX1_part_25 rfl hl (Nat.le_of_ble_eq_true rfl) rfl (fun ls hl => ?_)
        refine lv_iload_n hx hb dX1_part_26 rfl (lv_at hl 0 rfl) ?_
        refine lv_if_eq (tgt := 47) hx hb dX1_part_27 rfl (fun c0 => absurd c0 (by decide)) (fun _ => ?_)
        refine lv_aload_n hx hb dX1_part_30 rfl (lv_at hl 1 rfl) ?_
        refine va_get (D := (dC, dI)) (ci := 1) (v := .ref (x 28)) (C := RX1) (T := TX1) (N := 2) hx hb hts inB_1 hown hE.1 hP 28 rfl rfl 1 (Nat.le_of_ble_eq_true rfl) (hts _ k_319) (fun _ h9 => h9) rfl dX1_part_31 ?_
        refine lv_bipush (v := 12) hx hb dX1_part_34 rfl ?_
        refine lv_iload_n hx hb dX1_part_36 rfl (lv_at hl 2 rfl) ?_
        refine lv_bipush (v := 6) hx hb dX1_part_37 rfl ?_
        refine lv_imul hx hb dX1_part_39 ?_
        refine lv_topi (fun t6 et6 => ?_)
        have zt6 : t6.toInt = p1.toInt * 6 := (congrArg Int32.toInt et6).trans (mul_i rfl tc_6 (om_101 zc4) (om_111 zc5))
        refine lv_iadd hx hb dX1_part_40 ?_
        refine lv_topi (fun t8 et8 => ?_)
        have rg9 := fb_rng t6
        have zt8 : t8.toInt = 12 + t6.toInt := (congrArg Int32.toInt et8).trans (add_i tc_12 rfl (om_112 rg9) (om_113 zc5 zt6))
        refine lv_iload_n hx hb dX1_part_41 rfl (lv_at hl 3 rfl) ?_
        refine lv_iadd hx hb dX1_part_42 ?_
        refine lv_topi (fun t10 et10 => ?_)
        have rg11 := fb_rng t8
        have zt10 : t10.toInt = t8.toInt + p2.toInt := (congrArg Int32.toInt et10).trans (add_i rfl rfl (om_103 g3_0 rg11) (om_144 g3_2 zc5 zt6 zt8))
        refine ldI hx hb hE hP 29 rfl (vpI (k := 44) rfl (show 0 ≤ t10.toInt from om_145 g3_0 zc4 zt6 zt8 zt10) (show t10.toInt < 44 from om_146 g3_2 zc5 zt6 zt8 zt10)) rfl rfl dX1_part_43 ?_
        refine lv_topi (fun t13 et13 => ?_)
        refine lv_goto (tgt := 48) hx hb dX1_part_44 rfl ?_
        exact ret t13 () _ _ _ _ _ _ rfl (gsX_X1_part_2_q2 hG2 c4 c5 et6 et8 et10 et13) hP hD hS dX1_part_48 (Nat.le_refl _) (Nat.le_refl _)
  · skip
    subst g3
    refine lv_if_eq (tgt := 24) hx hb dX1_part_8 rfl (fun _ => ?_) (fun c0 => absurd (by decide) c0)
    refine lv_iconst (v := 0) hx hb dX1_part_24 rfl ?_
    refine lv_istore_n (lv' := [(3, .int 0), (0, .ref (x 27)), (1, .int p1), (2, .int p2)]) hx hb dX1_part_25 rfl hl (Nat.le_of_ble_eq_true rfl) rfl (fun ls hl => ?_)
    refine lv_iload_n hx hb dX1_part_26 rfl (lv_at hl 0 rfl) ?_
    refine lv_if_eq (tgt := 47) hx hb dX1_part_27 rfl (fun _ => ?_) (fun c0 => absurd (by decide) c0)
    refine lv_iconst (v := 0) hx hb dX1_part_47 rfl ?_
    exact ret 0 () _ _ _ _ _ _ rfl (gsX_X1_part_2_q3 hG2) hP hD hS dX1_part_48 (Nat.le_refl _) (Nat.le_refl _)
def gsX_X1_today_2 (NF : Nat) (v : Nat → Int32) (f : Nat → Nat → Int32) : Int32 :=
  let t1 : Int32 := f 18 (42 : Int32).toNatClampNeg
  t1
theorem gsX_X1_today_2_q0 {NF : Nat} {v : Nat → Int32} {f : Nat → Nat → Int32} {t1 : Int32} (h0 : t1 = f 18 (42 : Int32).toNatClampNeg) : gsX_X1_today_2 NF v f = t1 := by
  subst h0
  simp only [gsX_X1_today_2]
set_option maxHeartbeats 4000000 in
set_option maxRecDepth 100000 in
theorem sX_X1_today_2 (NF : Nat) (l : Launch) (dC : Nat → ClassId) (dI : Nat → Nat → Nat) (cy : Nat → ClassId) (x0 : Nat) (x : Nat → Nat)  (v : Nat → Int32) (f : Nat → Nat → Int32) (hIv : XI v)  : ctI l (dC, dI) cy yX1_today cX1_today 1 .int 1 60 0 0 Unit [.ref (x 27)] (XW cy x0 x v f) (fun r u => gsX_X1_today_2 NF v f = r) (fun u => XW cy x0 x v f) := by
  refine ctI_of (by decide) (Nat.le_of_ble_eq_true rfl) (fun p e s m below meth c A ls Q hx hb hml hts hown hE hP hD hA hl ret => ?_)
  have hown : s.vm.findClass RX1 = some m.cls := hown
  have hS : va_S A s.heap s.heap [] := va_S.rf
  have hl : lv_has ls 1 [(0, .ref (x 27))] := hl
  refine lv_aload_n hx hb dX1_today_0 rfl (lv_at hl 0 rfl) ?_
  refine va_get (D := (dC, dI)) (ci := 1) (v := .ref (x 28)) (C := RX1) (T := TX1) (N := 2) hx hb hts inB_1 hown hE.1 hP 28 rfl rfl 1 (Nat.le_of_ble_eq_true rfl) (hts _ k_319) (fun _ h9 => h9) rfl dX1_today_1 ?_
  refine lv_bipush (v := 42) hx hb dX1_today_4 rfl ?_
  refine ldI hx hb hE hP 29 rfl (vp_in_nI (n := 42) (by decide) (by decide)) rfl rfl dX1_today_6 ?_
  refine lv_topi (fun t1 et1 => ?_)
  exact ret t1 () _ _ _ _ _ _ rfl (gsX_X1_today_2_q0 et1) hP hD hS dX1_today_7 (Nat.le_refl _) (Nat.le_refl _)
def gsX_X1_illness_2 (NF : Nat) (p1 : Int32) (p2 : Int32) (v : Nat → Int32) (f : Nat → Nat → Int32) : Int32 × (Nat → Int32) × (Nat → Nat → Int32) :=
  let r1 : Int32 := gsX_X7_manPart_1 NF 0 p1 v f
  let r3 : Int32 := gsX_X1_manWide_2 NF p1 v f
  let r5 : Int32 := gsX_X1_part_2 NF 0 p2 v f
  let r7 : Int32 := gsX_X1_part_2 NF 1 p2 v f
  let r9 : Int32 := gsX_X1_part_2 NF 3 p2 v f
  let r11 : Int32 := gsX_X1_today_2 NF v f
  match gsX_X4_worth_1 NF r1 r3 r5 r7 r9 r11 v f with
  | (r13, v15, f16) =>
    (r13, v15, f16)
theorem gsX_X1_illness_2_q0 {NF : Nat} {p1 : Int32} {p2 : Int32} {v : Nat → Int32} {f : Nat → Nat → Int32} {r1 : Int32} {r3 : Int32} {r5 : Int32} {r7 : Int32} {r9 : Int32} {r11 : Int32} {r13 : Int32} {v15 : Nat → Int32} {f16 : Nat → Nat → Int32} (h0 : r1 = gsX_X7_manPart_1 NF 0 p1 v f) (h1 : r3 = gsX_X1_manWide_2 NF p1 v f) (h2 : r5 = gsX_X1_part_2 NF 0 p2 v f) (h3 : r7 = gsX_X1_part_2 NF 1 p2 v f) (h4 : r9 = gsX_X1_part_2 NF 3 p2 v f) (h5 : r11 = gsX_X1_today_2 NF v f) (h6 : gsX_X4_worth_1 NF r1 r3 r5 r7 r9 r11 v f = (r13, v15, f16)) : gsX_X1_illness_2 NF p1 p2 v f = (r13, v15, f16) := by
  subst h0 h1 h2 h3 h4 h5
  simp only [gsX_X1_illness_2, h6]
set_option maxHeartbeats 4000000 in
set_option maxRecDepth 100000 in
theorem sX_X1_illness_2 (NF : Nat) (l : Launch) (dC : Nat → ClassId) (dI : Nat → Nat → Nat) (cy : Nat → ClassId) (x0 : Nat) (x : Nat → Nat) (p1 : Int32) (p2 : Int32) (v : Nat → Int32) (f : Nat → Nat → Int32) (hIv : XI v)  : ctI l (dC, dI) cy yX1_illness cX1_illness 3 .int 3 111 0 0 ((Nat → Int32) × (Nat → Nat → Int32)) [.ref (x 27), .int p1, .int p2] (XW cy x0 x v f) (fun r u => gsX_X1_illness_2 NF p1 p2 v f = (r, u) ∧ KV [] u.1 v ∧ KF [13, 14] u.2 f ∧ XI u.1 ∧ u.1 0 = v 0 ∧ u.1 1 = v 1 ∧ u.1 7 = v 7 ∧ u.1 8 = v 8 ∧ u.1 9 = v 9 ∧ u.1 10 = v 10 ∧ u.1 31 = v 31 ∧ u.1 32 = v 32) (fun u => XW cy x0 x u.1 u.2) := by
  refine ctI_of (by decide) (Nat.le_of_ble_eq_true rfl) (fun p e s m below meth c A ls Q hx hb hml hts hown hE hP hD hA hl ret => ?_)
  have hM_v : KV [] v v := fun _ _ => rfl
  have hA_f : KF [13, 14] f f := fun _ _ => rfl
  have hown : s.vm.findClass RX1 = some m.cls := hown
  have hS : va_S A s.heap s.heap [] := va_S.rf
  have hl : lv_has ls 3 [(0, .ref (x 27)), (1, .int p1), (2, .int p2)] := hl
  refine lv_aload_n hx hb dX1_illness_0 rfl (lv_at hl 0 rfl) ?_
  refine va_get (D := (dC, dI)) (ci := 1) (v := .ref (x 26)) (C := RX1) (T := TX1) (N := 2) hx hb hts inB_1 hown hE.1 hP 28 rfl rfl 0 (Nat.le_of_ble_eq_true rfl) (hts _ k_318) (fun _ h9 => h9) rfl dX1_illness_1 ?_
  refine va_getN (D := (dC, dI)) (ci := 7) (v := .ref (x 15)) (C := RX7) (T := TX7) (N := 10) hx hb hts inB_7 hown hE.1 hP 27 rfl rfl 2 (Nat.le_of_ble_eq_true rfl) (va_Nw.use rfl (hE.2 _ k_209)) (fun _ h9 => h9) rfl dX1_illness_4 ?_
  refine lv_aload_n hx hb dX1_illness_7 rfl (lv_at hl 0 rfl) ?_
  refine va_get (D := (dC, dI)) (ci := 1) (v := .ref (x 26)) (C := RX1) (T := TX1) (N := 2) hx hb hts inB_1 hown hE.1 hP 28 rfl rfl 0 (Nat.le_of_ble_eq_true rfl) (hts _ k_318) (fun _ h9 => h9) rfl dX1_illness_8 ?_
  refine lv_iconst (v := 0) hx hb dX1_illness_11 rfl ?_
  refine lv_iload_n hx hb dX1_illness_12 rfl (lv_at hl 1 rfl) ?_
  refine cbVi (n := 2) (rest := [.ref (x 15)]) hx hb hml hown hts hE hP hD hS hA (sX_X7_manPart_1 NF l dC dI cy x0 x 0 p1 v f hIv ) k_302 k_303 k_304 k_104 k_305 hd_yX7_manPart ⟨Nat.le_of_ble_eq_true rfl, Nat.le_of_ble_eq_true rfl⟩ 27 7 rfl rfl (rfl) hl.1 rfl (Nat.le_of_ble_eq_true rfl) dX1_illness_13 (fun r1 u H locs hw hP hD hS => ?_)
  have hG2 := hw
  refine lv_aload_n hx hb dX1_illness_16 rfl (lv_at hl 0 rfl) ?_
  refine lv_iload_n hx hb dX1_illness_17 rfl (lv_at hl 1 rfl) ?_
  refine cbVi (n := 1) (rest := [.int r1, .ref (x 15)]) hx hb hml hown hts hE hP hD hS hA (sX_X1_manWide_2 NF l dC dI cy x0 x p1 v f hIv ) k_826 k_805 k_806 k_106 k_807 hd_yX1_manWide ⟨Nat.le_of_ble_eq_true rfl, Nat.le_of_ble_eq_true rfl⟩ 28 1 rfl rfl (rfl) hl.1 rfl (Nat.le_of_ble_eq_true rfl) dX1_illness_18 (fun r3 u H locs hw hP hD hS => ?_)
  have hG4 := hw
  refine lv_aload_n hx hb dX1_illness_21 rfl (lv_at hl 0 rfl) ?_
  refine lv_iconst (v := 0) hx hb dX1_illness_22 rfl ?_
  refine lv_iload_n hx hb dX1_illness_23 rfl (lv_at hl 2 rfl) ?_
  refine cbVi (n := 2) (rest := [.int r3, .int r1, .ref (x 15)]) hx hb hml hown hts hE hP hD hS hA (sX_X1_part_2 NF l dC dI cy x0 x 0 p2 v f hIv ) k_827 k_828 k_829 k_106 k_830 hd_yX1_part ⟨Nat.le_of_ble_eq_true rfl, Nat.le_of_ble_eq_true rfl⟩ 28 1 rfl rfl (rfl) hl.1 rfl (Nat.le_of_ble_eq_true rfl) dX1_illness_24 (fun r5 u H locs hw hP hD hS => ?_)
  have hG6 := hw
  refine lv_aload_n hx hb dX1_illness_27 rfl (lv_at hl 0 rfl) ?_
  refine lv_iconst (v := 1) hx hb dX1_illness_28 rfl ?_
  refine lv_iload_n hx hb dX1_illness_29 rfl (lv_at hl 2 rfl) ?_
  refine cbVi (n := 2) (rest := [.int r5, .int r3, .int r1, .ref (x 15)]) hx hb hml hown hts hE hP hD hS hA (sX_X1_part_2 NF l dC dI cy x0 x 1 p2 v f hIv ) k_827 k_828 k_829 k_106 k_830 hd_yX1_part ⟨Nat.le_of_ble_eq_true rfl, Nat.le_of_ble_eq_true rfl⟩ 28 1 rfl rfl (rfl) hl.1 rfl (Nat.le_of_ble_eq_true rfl) dX1_illness_30 (fun r7 u H locs hw hP hD hS => ?_)
  have hG8 := hw
  refine lv_aload_n hx hb dX1_illness_33 rfl (lv_at hl 0 rfl) ?_
  refine lv_iconst (v := 3) hx hb dX1_illness_34 rfl ?_
  refine lv_iload_n hx hb dX1_illness_35 rfl (lv_at hl 2 rfl) ?_
  refine cbVi (n := 2) (rest := [.int r7, .int r5, .int r3, .int r1, .ref (x 15)]) hx hb hml hown hts hE hP hD hS hA (sX_X1_part_2 NF l dC dI cy x0 x 3 p2 v f hIv ) k_827 k_828 k_829 k_106 k_830 hd_yX1_part ⟨Nat.le_of_ble_eq_true rfl, Nat.le_of_ble_eq_true rfl⟩ 28 1 rfl rfl (rfl) hl.1 rfl (Nat.le_of_ble_eq_true rfl) dX1_illness_36 (fun r9 u H locs hw hP hD hS => ?_)
  have hG10 := hw
  refine lv_aload_n hx hb dX1_illness_39 rfl (lv_at hl 0 rfl) ?_
  refine cbVi (n := 0) (rest := [.int r9, .int r7, .int r5, .int r3, .int r1, .ref (x 15)]) hx hb hml hown hts hE hP hD hS hA (sX_X1_today_2 NF l dC dI cy x0 x  v f hIv ) k_831 k_832 k_833 k_106 k_834 hd_yX1_today ⟨Nat.le_of_ble_eq_true rfl, Nat.le_of_ble_eq_true rfl⟩ 28 1 rfl rfl (rfl) hl.1 rfl (Nat.le_of_ble_eq_true rfl) dX1_illness_40 (fun r11 u H locs hw hP hD hS => ?_)
  have hG12 := hw
  refine cbVi (n := 6) (rest := []) hx hb hml hown hts hE hP hD hS hA (sX_X4_worth_1 NF l dC dI cy x0 x r1 r3 r5 r7 r9 r11 v f hIv ) k_835 k_836 k_837 k_105 k_838 hd_yX4_worth ⟨Nat.le_of_ble_eq_true rfl, Nat.le_of_ble_eq_true rfl⟩ 16 4 rfl rfl (rfl) hl.1 rfl (Nat.le_of_ble_eq_true rfl) dX1_illness_43 (fun r13 u H locs hw hP hD hS => ?_)
  obtain ⟨hG14, hw⟩ := hw
  obtain ⟨v15, f16⟩ := u
  obtain ⟨kV_v15, kF_f16, hIv15, hk0_v15, hk1_v15, hk7_v15, hk8_v15, hk9_v15, hk10_v15, hk31_v15, hk32_v15⟩ := hw
  have hM_v15 : KV [] v15 v := KV.tr kV_v15 hM_v rfl
  have hA_f16 : KF [13, 14] f16 f := KF.tr kF_f16 hA_f rfl
  have hP : va_P (dC, dI) vwCl (XW cy x0 x v15 f16) H := hP
  have hD : va_D A (XW cy x0 x v15 f16) := hD
  have hq0_v15 : v15 0 = (v 0) := hk0_v15
  have hq1_v15 : v15 1 = (v 1) := hk1_v15
  have hq7_v15 : v15 7 = (v 7) := hk7_v15
  have hq8_v15 : v15 8 = (v 8) := hk8_v15
  have hq9_v15 : v15 9 = (v 9) := hk9_v15
  have hq10_v15 : v15 10 = (v 10) := hk10_v15
  have hq31_v15 : v15 31 = (v 31) := hk31_v15
  have hq32_v15 : v15 32 = (v 32) := hk32_v15
  exact ret r13 (v15, f16) _ _ _ _ _ _ rfl ⟨(gsX_X1_illness_2_q0 hG2.symm hG4.symm hG6.symm hG8.symm hG10.symm hG12.symm hG14), hM_v15, hA_f16, hIv15, hk0_v15, hk1_v15, hk7_v15, hk8_v15, hk9_v15, hk10_v15, hk31_v15, hk32_v15⟩ hP hD hS dX1_illness_46 (Nat.le_refl _) (Nat.le_refl _)
def gsX_X1_fits_2 (NF : Nat) (p1 : Int32) (p2 : Int32) (v : Nat → Int32) (f : Nat → Nat → Int32) : Int32 × (Nat → Int32) × (Nat → Nat → Int32) :=
  if gsX_X7_hasMan_1 NF p1 v f = 1 then
    if gsX_X7_hasCoat_1 NF p2 v f = 1 then
      match gsX_X1_illness_2 NF p1 p2 v f with
      | (r7, v9, f10) =>
        if (v9 33) < r7 then
          (0, v9, f10)
        else
          (1, v9, f10)
    else
      (0, v, f)
  else
    (0, v, f)
theorem gsX_X1_fits_2_q0 {NF : Nat} {p1 : Int32} {p2 : Int32} {v : Nat → Int32} {f : Nat → Nat → Int32} {r7 : Int32} {v9 : Nat → Int32} {f10 : Nat → Nat → Int32} (h0 : gsX_X7_hasMan_1 NF p1 v f = 1) (h1 : gsX_X7_hasCoat_1 NF p2 v f = 1) (h2 : gsX_X1_illness_2 NF p1 p2 v f = (r7, v9, f10)) (h3 : ((v9 33) < r7)) : gsX_X1_fits_2 NF p1 p2 v f = (0, v9, f10) := by
  simp only [gsX_X1_fits_2, h0, h1, h2, if_pos h3, ite11, ite01, if_true, if_false]
theorem gsX_X1_fits_2_q1 {NF : Nat} {p1 : Int32} {p2 : Int32} {v : Nat → Int32} {f : Nat → Nat → Int32} {r7 : Int32} {v9 : Nat → Int32} {f10 : Nat → Nat → Int32} (h0 : gsX_X7_hasMan_1 NF p1 v f = 1) (h1 : gsX_X7_hasCoat_1 NF p2 v f = 1) (h2 : gsX_X1_illness_2 NF p1 p2 v f = (r7, v9, f10)) (h3 : ¬ ((v9 33) < r7)) : gsX_X1_fits_2 NF p1 p2 v f = (1, v9, f10) := by
  simp only [gsX_X1_fits_2, h0, h1, h2, if_neg h3, ite11, ite01, if_true, if_false]
theorem gsX_X1_fits_2_q2 {NF : Nat} {p1 : Int32} {p2 : Int32} {v : Nat → Int32} {f : Nat → Nat → Int32} (h0 : gsX_X7_hasMan_1 NF p1 v f = 1) (h1 : gsX_X7_hasCoat_1 NF p2 v f = 0) : gsX_X1_fits_2 NF p1 p2 v f = (0, v, f) := by
  simp only [gsX_X1_fits_2, h0, h1, ite11, ite01, if_true, if_false]
theorem gsX_X1_fits_2_q3 {NF : Nat} {p1 : Int32} {p2 : Int32} {v : Nat → Int32} {f : Nat → Nat → Int32} (h0 : gsX_X7_hasMan_1 NF p1 v f = 0) : gsX_X1_fits_2 NF p1 p2 v f = (0, v, f) := by
  simp only [gsX_X1_fits_2, h0, ite11, ite01, if_true, if_false]
set_option maxHeartbeats 4000000 in
set_option maxRecDepth 100000 in
theorem sX_X1_fits_2 (NF : Nat) (l : Launch) (dC : Nat → ClassId) (dI : Nat → Nat → Nat) (cy : Nat → ClassId) (x0 : Nat) (x : Nat → Nat) (p1 : Int32) (p2 : Int32) (v : Nat → Int32) (f : Nat → Nat → Int32) (hIv : XI v)  : ctI l (dC, dI) cy yX1_fits cX1_fits 3 .boolean 4 133 0 0 ((Nat → Int32) × (Nat → Nat → Int32)) [.ref (x 27), .int p1, .int p2] (XW cy x0 x v f) (fun r u => gsX_X1_fits_2 NF p1 p2 v f = (r, u) ∧ KV [] u.1 v ∧ KF [13, 14] u.2 f ∧ XI u.1 ∧ u.1 0 = v 0 ∧ u.1 1 = v 1 ∧ u.1 7 = v 7 ∧ u.1 8 = v 8 ∧ u.1 9 = v 9 ∧ u.1 10 = v 10 ∧ u.1 31 = v 31 ∧ u.1 32 = v 32 ∧ ((r = 1) ∨ (r = 0))) (fun u => XW cy x0 x u.1 u.2) := by
  refine ctI_of (by decide) (Nat.le_of_ble_eq_true rfl) (fun p e s m below meth c A ls Q hx hb hml hts hown hE hP hD hA hl ret => ?_)
  have hM_v : KV [] v v := fun _ _ => rfl
  have hA_f : KF [13, 14] f f := fun _ _ => rfl
  have hown : s.vm.findClass RX1 = some m.cls := hown
  have hS : va_S A s.heap s.heap [] := va_S.rf
  have hl : lv_has ls 3 [(0, .ref (x 27)), (1, .int p1), (2, .int p2)] := hl
  refine lv_aload_n hx hb dX1_fits_0 rfl (lv_at hl 0 rfl) ?_
  refine va_get (D := (dC, dI)) (ci := 1) (v := .ref (x 26)) (C := RX1) (T := TX1) (N := 2) hx hb hts inB_1 hown hE.1 hP 28 rfl rfl 0 (Nat.le_of_ble_eq_true rfl) (hts _ k_318) (fun _ h9 => h9) rfl dX1_fits_1 ?_
  refine lv_iload_n hx hb dX1_fits_4 rfl (lv_at hl 1 rfl) ?_
  refine cbVi (n := 1) (rest := []) hx hb hml hown hts hE hP hD hS hA (sX_X7_hasMan_1 NF l dC dI cy x0 x p1 v f hIv ) k_808 k_307 k_308 k_104 k_309 hd_yX7_hasMan ⟨Nat.le_of_ble_eq_true rfl, Nat.le_of_ble_eq_true rfl⟩ 27 7 rfl rfl (rfl) hl.1 rfl (Nat.le_of_ble_eq_true rfl) dX1_fits_5 (fun r1 u H locs hw hP hD hS => ?_)
  obtain ⟨hG2, hw⟩ := hw
  rcases hw with ⟨g3, g3_0, g3_1, g3_2⟩ | ⟨g3⟩
  · skip
    subst g3
    refine lv_if_eq (tgt := 42) hx hb dX1_fits_8 rfl (fun c0 => absurd c0 (by decide)) (fun _ => ?_)
    refine lv_aload_n hx hb dX1_fits_11 rfl (lv_at hl 0 rfl) ?_
    refine va_get (D := (dC, dI)) (ci := 1) (v := .ref (x 26)) (C := RX1) (T := TX1) (N := 2) hx hb hts inB_1 hown hE.1 hP 28 rfl rfl 0 (Nat.le_of_ble_eq_true rfl) (hts _ k_318) (fun _ h9 => h9) rfl dX1_fits_12 ?_
    refine lv_iload_n hx hb dX1_fits_15 rfl (lv_at hl 2 rfl) ?_
    refine cbVi (n := 1) (rest := []) hx hb hml hown hts hE hP hD hS hA (sX_X7_hasCoat_1 NF l dC dI cy x0 x p2 v f hIv ) k_821 k_315 k_316 k_104 k_317 hd_yX7_hasCoat ⟨Nat.le_of_ble_eq_true rfl, Nat.le_of_ble_eq_true rfl⟩ 27 7 rfl rfl (rfl) hl.1 rfl (Nat.le_of_ble_eq_true rfl) dX1_fits_16 (fun r4 u H locs hw hP hD hS => ?_)
    obtain ⟨hG5, hw⟩ := hw
    rcases hw with ⟨g6, g6_0, g6_1, g6_2⟩ | ⟨g6⟩
    · skip
      subst g6
      refine lv_if_eq (tgt := 42) hx hb dX1_fits_19 rfl (fun c0 => absurd c0 (by decide)) (fun _ => ?_)
      refine lv_aload_n hx hb dX1_fits_22 rfl (lv_at hl 0 rfl) ?_
      refine lv_iload_n hx hb dX1_fits_23 rfl (lv_at hl 1 rfl) ?_
      refine lv_iload_n hx hb dX1_fits_24 rfl (lv_at hl 2 rfl) ?_
      refine cbVi (n := 2) (rest := []) hx hb hml hown hts hE hP hD hS hA (sX_X1_illness_2 NF l dC dI cy x0 x p1 p2 v f hIv ) k_822 k_823 k_824 k_106 k_825 hd_yX1_illness ⟨Nat.le_of_ble_eq_true rfl, Nat.le_of_ble_eq_true rfl⟩ 28 1 rfl rfl (rfl) hl.1 rfl (Nat.le_of_ble_eq_true rfl) dX1_fits_25 (fun r7 u H locs hw hP hD hS => ?_)
      obtain ⟨hG8, hw⟩ := hw
      obtain ⟨v9, f10⟩ := u
      obtain ⟨kV_v9, kF_f10, hIv9, hk0_v9, hk1_v9, hk7_v9, hk8_v9, hk9_v9, hk10_v9, hk31_v9, hk32_v9⟩ := hw
      have hM_v9 : KV [] v9 v := KV.tr kV_v9 hM_v rfl
      have hA_f10 : KF [13, 14] f10 f := KF.tr kF_f10 hA_f rfl
      have hP : va_P (dC, dI) vwCl (XW cy x0 x v9 f10) H := hP
      have hD : va_D A (XW cy x0 x v9 f10) := hD
      refine lv_aload_n hx hb dX1_fits_28 rfl (lv_at hl 0 rfl) ?_
      refine va_get (D := (dC, dI)) (ci := 1) (v := .ref (x 26)) (C := RX1) (T := TX1) (N := 2) hx hb hts inB_1 hown hE.1 hP 28 rfl rfl 0 (Nat.le_of_ble_eq_true rfl) (hts _ k_318) (fun _ h9 => h9) rfl dX1_fits_29 ?_
      refine va_getN (D := (dC, dI)) (ci := 7) (v := .int (v9 33)) (C := RX7) (T := TX7) (N := 10) hx hb hts inB_7 hown hE.1 hP 27 rfl rfl 5 (Nat.le_of_ble_eq_true rfl) (va_Nw.use rfl (hE.2 _ k_232)) (fun _ h9 => h9) rfl dX1_fits_32 ?_
      refine lv_icmp_gt (tgt := 42) hx hb dX1_fits_35 rfl (fun c11 => ?_) (fun c11 => ?_)
      · skip
        refine lv_iconst (v := 0) hx hb dX1_fits_42 rfl ?_
        exact ret 0 (v9, f10) _ _ _ _ _ _ rfl ⟨(gsX_X1_fits_2_q0 hG2 hG5 hG8 c11), hM_v9, hA_f10, hIv9, hk0_v9, hk1_v9, hk7_v9, hk8_v9, hk9_v9, hk10_v9, hk31_v9, hk32_v9, (Or.inr rfl)⟩ hP hD hS dX1_fits_43 (Nat.le_refl _) (Nat.le_refl _)
      · skip
        refine lv_iconst (v := 1) hx hb dX1_fits_38 rfl ?_
        refine lv_goto (tgt := 43) hx hb dX1_fits_39 rfl ?_
        exact ret 1 (v9, f10) _ _ _ _ _ _ rfl ⟨(gsX_X1_fits_2_q1 hG2 hG5 hG8 c11), hM_v9, hA_f10, hIv9, hk0_v9, hk1_v9, hk7_v9, hk8_v9, hk9_v9, hk10_v9, hk31_v9, hk32_v9, (Or.inl rfl)⟩ hP hD hS dX1_fits_43 (Nat.le_refl _) (Nat.le_refl _)
    · skip
      subst g6
      refine lv_if_eq (tgt := 42) hx hb dX1_fits_19 rfl (fun _ => ?_) (fun c0 => absurd (by decide) c0)
      refine lv_iconst (v := 0) hx hb dX1_fits_42 rfl ?_
      exact ret 0 (v, f) _ _ _ _ _ _ rfl ⟨(gsX_X1_fits_2_q2 hG2 hG5), hM_v, hA_f, hIv, rfl, rfl, rfl, rfl, rfl, rfl, rfl, rfl, (Or.inr rfl)⟩ hP hD hS dX1_fits_43 (Nat.le_refl _) (Nat.le_refl _)
  · skip
    subst g3
    refine lv_if_eq (tgt := 42) hx hb dX1_fits_8 rfl (fun _ => ?_) (fun c0 => absurd (by decide) c0)
    refine lv_iconst (v := 0) hx hb dX1_fits_42 rfl ?_
    exact ret 0 (v, f) _ _ _ _ _ _ rfl ⟨(gsX_X1_fits_2_q3 hG2), hM_v, hA_f, hIv, rfl, rfl, rfl, rfl, rfl, rfl, rfl, rfl, (Or.inr rfl)⟩ hP hD hS dX1_fits_43 (Nat.le_refl _) (Nat.le_refl _)
def gsX_X1_setWears_2 (NF : Nat) (p1 : Int32) (p2 : Int32) (v : Nat → Int32) (f : Nat → Nat → Int32) : (Nat → Int32) × (Nat → Nat → Int32) :=
  if gsX_X7_hasMan_1 NF p1 v f = 1 then
    let t4 : Int32 := 6 + p1
    let f6 : Nat → Nat → Int32 := upd2 f 18 (upd (f 18) t4.toNatClampNeg p2)
    (v, f6)
  else
    (v, f)
theorem gsX_X1_setWears_2_q0 {NF : Nat} {p1 : Int32} {p2 : Int32} {v : Nat → Int32} {f : Nat → Nat → Int32} {t4 : Int32} {f6 : Nat → Nat → Int32} (h0 : gsX_X7_hasMan_1 NF p1 v f = 1) (h1 : t4 = 6 + p1) (h2 : f6 = upd2 f 18 (upd (f 18) t4.toNatClampNeg p2)) : gsX_X1_setWears_2 NF p1 p2 v f = (v, f6) := by
  subst h1 h2
  simp only [gsX_X1_setWears_2, h0, ite11, ite01, if_true, if_false]
theorem gsX_X1_setWears_2_q1 {NF : Nat} {p1 : Int32} {p2 : Int32} {v : Nat → Int32} {f : Nat → Nat → Int32} (h0 : gsX_X7_hasMan_1 NF p1 v f = 0) : gsX_X1_setWears_2 NF p1 p2 v f = (v, f) := by
  simp only [gsX_X1_setWears_2, h0, ite11, ite01, if_true, if_false]
set_option maxHeartbeats 4000000 in
set_option maxRecDepth 100000 in
theorem sX_X1_setWears_2 (NF : Nat) (l : Launch) (dC : Nat → ClassId) (dI : Nat → Nat → Nat) (cy : Nat → ClassId) (x0 : Nat) (x : Nat → Nat) (p1 : Int32) (p2 : Int32) (v : Nat → Int32) (f : Nat → Nat → Int32) (hIv : XI v)  : ctV l (dC, dI) cy yX1_setWears cX1_setWears 3 2 81 0 0 ((Nat → Int32) × (Nat → Nat → Int32)) [.ref (x 27), .int p1, .int p2] (XW cy x0 x v f) (fun u => gsX_X1_setWears_2 NF p1 p2 v f = u ∧ KV [] u.1 v ∧ KF [18] u.2 f ∧ XI u.1 ∧ u.1 0 = v 0 ∧ u.1 1 = v 1 ∧ u.1 7 = v 7 ∧ u.1 8 = v 8 ∧ u.1 9 = v 9 ∧ u.1 10 = v 10 ∧ u.1 31 = v 31 ∧ u.1 32 = v 32) (fun u => XW cy x0 x u.1 u.2) := by
  refine ctV_of (by decide) (Nat.le_of_ble_eq_true rfl) (fun p e s m below meth c A ls Q hx hb hml hts hown hnm hE hP hD hA hl ret => ?_)
  have hM_v : KV [] v v := fun _ _ => rfl
  have hA_f : KF [18] f f := fun _ _ => rfl
  have hown : s.vm.findClass RX1 = some m.cls := hown
  have hS : va_S A s.heap s.heap [] := va_S.rf
  have hl : lv_has ls 3 [(0, .ref (x 27)), (1, .int p1), (2, .int p2)] := hl
  refine lv_aload_n hx hb dX1_setWears_0 rfl (lv_at hl 0 rfl) ?_
  refine va_get (D := (dC, dI)) (ci := 1) (v := .ref (x 26)) (C := RX1) (T := TX1) (N := 2) hx hb hts inB_1 hown hE.1 hP 28 rfl rfl 0 (Nat.le_of_ble_eq_true rfl) (hts _ k_318) (fun _ h9 => h9) rfl dX1_setWears_1 ?_
  refine lv_iload_n hx hb dX1_setWears_4 rfl (lv_at hl 1 rfl) ?_
  refine cbVi (n := 1) (rest := []) hx hb hml hown hts hE hP hD hS hA (sX_X7_hasMan_1 NF l dC dI cy x0 x p1 v f hIv ) k_808 k_307 k_308 k_104 k_309 hd_yX7_hasMan ⟨Nat.le_of_ble_eq_true rfl, Nat.le_of_ble_eq_true rfl⟩ 27 7 rfl rfl (rfl) hl.1 rfl (Nat.le_of_ble_eq_true rfl) dX1_setWears_5 (fun r1 u H locs hw hP hD hS => ?_)
  obtain ⟨hG2, hw⟩ := hw
  rcases hw with ⟨g3, g3_0, g3_1, g3_2⟩ | ⟨g3⟩
  · skip
    subst g3
    refine lv_if_eq (tgt := 21) hx hb dX1_setWears_8 rfl (fun c0 => absurd c0 (by decide)) (fun _ => ?_)
    refine lv_aload_n hx hb dX1_setWears_11 rfl (lv_at hl 0 rfl) ?_
    refine va_get (D := (dC, dI)) (ci := 1) (v := .ref (x 28)) (C := RX1) (T := TX1) (N := 2) hx hb hts inB_1 hown hE.1 hP 28 rfl rfl 1 (Nat.le_of_ble_eq_true rfl) (hts _ k_319) (fun _ h9 => h9) rfl dX1_setWears_12 ?_
    refine lv_bipush (v := 6) hx hb dX1_setWears_15 rfl ?_
    refine lv_iload_n hx hb dX1_setWears_17 rfl (lv_at hl 1 rfl) ?_
    refine lv_iadd hx hb dX1_setWears_18 ?_
    refine lv_topi (fun t4 et4 => ?_)
    have zt4 : t4.toInt = 6 + p1.toInt := (congrArg Int32.toInt et4).trans (add_i tc_6 rfl (om_183 g3_0) (om_184 g3_2))
    refine lv_iload_n hx hb dX1_setWears_19 rfl (lv_at hl 2 rfl) ?_
    refine stI hx hb hE hP hD hS 29 rfl (vpI (k := 44) rfl (show 0 ≤ t4.toInt from om_185 g3_0 zt4) (show t4.toInt < 44 from om_186 g3_2 zt4)) rfl dX1_setWears_20 (fun H locs hP hD hS => ?_)
    obtain ⟨f6, ef6, hP, hD⟩ : ∃ fz9, fz9 = upd2 f 18 (upd (f 18) t4.toNatClampNeg p2) ∧ va_P (dC, dI) vwCl (XW cy x0 x v fz9) H ∧ va_D A (XW cy x0 x v fz9) := ⟨_, rfl, hP, hD⟩
    have hA_f6 : KF [18] f6 f := by rw [ef6]; exact KF.up hA_f rfl
    exact ret (v, f6) _ _ _ _ _ _ ⟨(gsX_X1_setWears_2_q0 hG2 et4 ef6), hM_v, hA_f6, hIv, rfl, rfl, rfl, rfl, rfl, rfl, rfl, rfl⟩ hP hD hS dX1_setWears_21 (Nat.le_refl _) (Nat.le_refl _)
  · skip
    subst g3
    refine lv_if_eq (tgt := 21) hx hb dX1_setWears_8 rfl (fun _ => ?_) (fun c0 => absurd (by decide) c0)
    exact ret (v, f) _ _ _ _ _ _ ⟨(gsX_X1_setWears_2_q1 hG2), hM_v, hA_f, hIv, rfl, rfl, rfl, rfl, rfl, rfl, rfl, rfl⟩ hP hD hS dX1_setWears_21 (Nat.le_refl _) (Nat.le_refl _)
def gsX_X1_setPart_2 (NF : Nat) (p1 : Int32) (p2 : Int32) (p3 : Int32) (v : Nat → Int32) (f : Nat → Nat → Int32) : (Nat → Int32) × (Nat → Nat → Int32) :=
  if gsX_X7_hasCoat_1 NF p2 v f = 1 then
    if p1 < 0 then
      (v, f)
    else
      if 5 ≤ p1 then
        (v, f)
      else
        let t6 : Int32 := p1 * 6
        let t8 : Int32 := 12 + t6
        let t10 : Int32 := t8 + p2
        let f13 : Nat → Nat → Int32 := upd2 f 18 (upd (f 18) t10.toNatClampNeg p3)
        (v, f13)
  else
    (v, f)
theorem gsX_X1_setPart_2_q0 {NF : Nat} {p1 : Int32} {p2 : Int32} {p3 : Int32} {v : Nat → Int32} {f : Nat → Nat → Int32} (h0 : gsX_X7_hasCoat_1 NF p2 v f = 1) (h1 : (p1 < 0)) : gsX_X1_setPart_2 NF p1 p2 p3 v f = (v, f) := by
  simp only [gsX_X1_setPart_2, h0, if_pos h1, ite11, ite01, if_true, if_false]
theorem gsX_X1_setPart_2_q1 {NF : Nat} {p1 : Int32} {p2 : Int32} {p3 : Int32} {v : Nat → Int32} {f : Nat → Nat → Int32} (h0 : gsX_X7_hasCoat_1 NF p2 v f = 1) (h1 : ¬ (p1 < 0)) (h2 : (5 ≤ p1)) : gsX_X1_setPart_2 NF p1 p2 p3 v f = (v, f) := by
  simp only [gsX_X1_setPart_2, h0, if_neg h1, if_pos h2, ite11, ite01, if_true, if_false]
theorem gsX_X1_setPart_2_q2 {NF : Nat} {p1 : Int32} {p2 : Int32} {p3 : Int32} {v : Nat → Int32} {f : Nat → Nat → Int32} {t6 : Int32} {t8 : Int32} {t10 : Int32} {f13 : Nat → Nat → Int32} (h0 : gsX_X7_hasCoat_1 NF p2 v f = 1) (h1 : ¬ (p1 < 0)) (h2 : ¬ (5 ≤ p1)) (h3 : t6 = p1 * 6) (h4 : t8 = 12 + t6) (h5 : t10 = t8 + p2) (h6 : f13 = upd2 f 18 (upd (f 18) t10.toNatClampNeg p3)) : gsX_X1_setPart_2 NF p1 p2 p3 v f = (v, f13) := by
  subst h3 h4 h5 h6
  simp only [gsX_X1_setPart_2, h0, if_neg h1, if_neg h2, ite11, ite01, if_true, if_false]
theorem gsX_X1_setPart_2_q3 {NF : Nat} {p1 : Int32} {p2 : Int32} {p3 : Int32} {v : Nat → Int32} {f : Nat → Nat → Int32} (h0 : gsX_X7_hasCoat_1 NF p2 v f = 0) : gsX_X1_setPart_2 NF p1 p2 p3 v f = (v, f) := by
  simp only [gsX_X1_setPart_2, h0, ite11, ite01, if_true, if_false]
set_option maxHeartbeats 4000000 in
set_option maxRecDepth 100000 in
theorem sX_X1_setPart_2 (NF : Nat) (l : Launch) (dC : Nat → ClassId) (dI : Nat → Nat → Nat) (cy : Nat → ClassId) (x0 : Nat) (x : Nat → Nat) (p1 : Int32) (p2 : Int32) (p3 : Int32) (v : Nat → Int32) (f : Nat → Nat → Int32) (hIv : XI v)  : ctV l (dC, dI) cy yX1_setPart cX1_setPart 4 2 81 0 0 ((Nat → Int32) × (Nat → Nat → Int32)) [.ref (x 27), .int p1, .int p2, .int p3] (XW cy x0 x v f) (fun u => gsX_X1_setPart_2 NF p1 p2 p3 v f = u ∧ KV [] u.1 v ∧ KF [18] u.2 f ∧ XI u.1 ∧ u.1 0 = v 0 ∧ u.1 1 = v 1 ∧ u.1 7 = v 7 ∧ u.1 8 = v 8 ∧ u.1 9 = v 9 ∧ u.1 10 = v 10 ∧ u.1 31 = v 31 ∧ u.1 32 = v 32) (fun u => XW cy x0 x u.1 u.2) := by
  refine ctV_of (by decide) (Nat.le_of_ble_eq_true rfl) (fun p e s m below meth c A ls Q hx hb hml hts hown hnm hE hP hD hA hl ret => ?_)
  have hM_v : KV [] v v := fun _ _ => rfl
  have hA_f : KF [18] f f := fun _ _ => rfl
  have hown : s.vm.findClass RX1 = some m.cls := hown
  have hS : va_S A s.heap s.heap [] := va_S.rf
  have hl : lv_has ls 4 [(0, .ref (x 27)), (1, .int p1), (2, .int p2), (3, .int p3)] := hl
  refine lv_aload_n hx hb dX1_setPart_0 rfl (lv_at hl 0 rfl) ?_
  refine va_get (D := (dC, dI)) (ci := 1) (v := .ref (x 26)) (C := RX1) (T := TX1) (N := 2) hx hb hts inB_1 hown hE.1 hP 28 rfl rfl 0 (Nat.le_of_ble_eq_true rfl) (hts _ k_318) (fun _ h9 => h9) rfl dX1_setPart_1 ?_
  refine lv_iload_n hx hb dX1_setPart_4 rfl (lv_at hl 2 rfl) ?_
  refine cbVi (n := 1) (rest := []) hx hb hml hown hts hE hP hD hS hA (sX_X7_hasCoat_1 NF l dC dI cy x0 x p2 v f hIv ) k_821 k_315 k_316 k_104 k_317 hd_yX7_hasCoat ⟨Nat.le_of_ble_eq_true rfl, Nat.le_of_ble_eq_true rfl⟩ 27 7 rfl rfl (rfl) hl.1 rfl (Nat.le_of_ble_eq_true rfl) dX1_setPart_5 (fun r1 u H locs hw hP hD hS => ?_)
  obtain ⟨hG2, hw⟩ := hw
  rcases hw with ⟨g3, g3_0, g3_1, g3_2⟩ | ⟨g3⟩
  · skip
    subst g3
    refine lv_if_eq (tgt := 35) hx hb dX1_setPart_8 rfl (fun c0 => absurd c0 (by decide)) (fun _ => ?_)
    refine lv_iload_n hx hb dX1_setPart_11 rfl (lv_at hl 1 rfl) ?_
    refine lv_if_lt (tgt := 35) hx hb dX1_setPart_12 rfl (fun c4 => ?_) (fun c4 => ?_)
    · skip
      exact ret (v, f) _ _ _ _ _ _ ⟨(gsX_X1_setPart_2_q0 hG2 c4), hM_v, hA_f, hIv, rfl, rfl, rfl, rfl, rfl, rfl, rfl, rfl⟩ hP hD hS dX1_setPart_35 (Nat.le_refl _) (Nat.le_refl _)
    · skip
      have zc4 : ¬ (p1.toInt < 0) := zLn rfl tc_0 c4
      refine lv_iload_n hx hb dX1_setPart_15 rfl (lv_at hl 1 rfl) ?_
      refine lv_iconst (v := 5) hx hb dX1_setPart_16 rfl ?_
      refine lv_icmp_ge (tgt := 35) hx hb dX1_setPart_17 rfl (fun c5 => ?_) (fun c5 => ?_)
      · skip
        exact ret (v, f) _ _ _ _ _ _ ⟨(gsX_X1_setPart_2_q1 hG2 c4 c5), hM_v, hA_f, hIv, rfl, rfl, rfl, rfl, rfl, rfl, rfl, rfl⟩ hP hD hS dX1_setPart_35 (Nat.le_refl _) (Nat.le_refl _)
      · skip
        have zc5 : ¬ (5 ≤ p1.toInt) := zMn tc_5 rfl c5
        refine lv_aload_n hx hb dX1_setPart_20 rfl (lv_at hl 0 rfl) ?_
        refine va_get (D := (dC, dI)) (ci := 1) (v := .ref (x 28)) (C := RX1) (T := TX1) (N := 2) hx hb hts inB_1 hown hE.1 hP 28 rfl rfl 1 (Nat.le_of_ble_eq_true rfl) (hts _ k_319) (fun _ h9 => h9) rfl dX1_setPart_21 ?_
        refine lv_bipush (v := 12) hx hb dX1_setPart_24 rfl ?_
        refine lv_iload_n hx hb dX1_setPart_26 rfl (lv_at hl 1 rfl) ?_
        refine lv_bipush (v := 6) hx hb dX1_setPart_27 rfl ?_
        refine lv_imul hx hb dX1_setPart_29 ?_
        refine lv_topi (fun t6 et6 => ?_)
        have zt6 : t6.toInt = p1.toInt * 6 := (congrArg Int32.toInt et6).trans (mul_i rfl tc_6 (om_101 zc4) (om_111 zc5))
        refine lv_iadd hx hb dX1_setPart_30 ?_
        refine lv_topi (fun t8 et8 => ?_)
        have rg9 := fb_rng t6
        have zt8 : t8.toInt = 12 + t6.toInt := (congrArg Int32.toInt et8).trans (add_i tc_12 rfl (om_112 rg9) (om_113 zc5 zt6))
        refine lv_iload_n hx hb dX1_setPart_31 rfl (lv_at hl 2 rfl) ?_
        refine lv_iadd hx hb dX1_setPart_32 ?_
        refine lv_topi (fun t10 et10 => ?_)
        have rg11 := fb_rng t8
        have zt10 : t10.toInt = t8.toInt + p2.toInt := (congrArg Int32.toInt et10).trans (add_i rfl rfl (om_103 g3_0 rg11) (om_144 g3_2 zc5 zt6 zt8))
        refine lv_iload_n hx hb dX1_setPart_33 rfl (lv_at hl 3 rfl) ?_
        refine stI hx hb hE hP hD hS 29 rfl (vpI (k := 44) rfl (show 0 ≤ t10.toInt from om_145 g3_0 zc4 zt6 zt8 zt10) (show t10.toInt < 44 from om_146 g3_2 zc5 zt6 zt8 zt10)) rfl dX1_setPart_34 (fun H locs hP hD hS => ?_)
        obtain ⟨f13, ef13, hP, hD⟩ : ∃ fz9, fz9 = upd2 f 18 (upd (f 18) t10.toNatClampNeg p3) ∧ va_P (dC, dI) vwCl (XW cy x0 x v fz9) H ∧ va_D A (XW cy x0 x v fz9) := ⟨_, rfl, hP, hD⟩
        have hA_f13 : KF [18] f13 f := by rw [ef13]; exact KF.up hA_f rfl
        exact ret (v, f13) _ _ _ _ _ _ ⟨(gsX_X1_setPart_2_q2 hG2 c4 c5 et6 et8 et10 ef13), hM_v, hA_f13, hIv, rfl, rfl, rfl, rfl, rfl, rfl, rfl, rfl⟩ hP hD hS dX1_setPart_35 (Nat.le_refl _) (Nat.le_refl _)
  · skip
    subst g3
    refine lv_if_eq (tgt := 35) hx hb dX1_setPart_8 rfl (fun _ => ?_) (fun c0 => absurd (by decide) c0)
    exact ret (v, f) _ _ _ _ _ _ ⟨(gsX_X1_setPart_2_q3 hG2), hM_v, hA_f, hIv, rfl, rfl, rfl, rfl, rfl, rfl, rfl, rfl⟩ hP hD hS dX1_setPart_35 (Nat.le_refl _) (Nat.le_refl _)
def gsX_X1_weather_2 (NF : Nat) (p1 : Int32) (p2 : Int32) (v : Nat → Int32) (f : Nat → Nat → Int32) : (Nat → Int32) × (Nat → Nat → Int32) :=
  let r1 : Int32 := gsX_X1_part_2 NF 3 p1 v f
  let t3 : Int32 := r1 + 1
  let t4 : Int32 := if t3 < (99 : Int32) then t3 else (99 : Int32)
  match gsX_X1_setPart_2 NF 3 p1 t4 v f with
  | (v6, f7) =>
    let r8 : Int32 := gsX_X1_part_2 NF 1 p1 v6 f7
    let t10 : Int32 := r8 - p2
    let t11 : Int32 := if (0 : Int32) < t10 then t10 else (0 : Int32)
    match gsX_X1_setPart_2 NF 1 p1 t11 v6 f7 with
    | (v13, f14) =>
      let r15 : Int32 := gsX_X1_part_2 NF 0 p1 v13 f14
      let t17 : Int32 := r15 - p2
      let t18 : Int32 := if (0 : Int32) < t17 then t17 else (0 : Int32)
      match gsX_X1_setPart_2 NF 0 p1 t18 v13 f14 with
      | (v20, f21) =>
        (v20, f21)
theorem gsX_X1_weather_2_q0 {NF : Nat} {p1 : Int32} {p2 : Int32} {v : Nat → Int32} {f : Nat → Nat → Int32} {r1 : Int32} {t3 : Int32} {t4 : Int32} {v6 : Nat → Int32} {f7 : Nat → Nat → Int32} {r8 : Int32} {t10 : Int32} {t11 : Int32} {v13 : Nat → Int32} {f14 : Nat → Nat → Int32} {r15 : Int32} {t17 : Int32} {t18 : Int32} {v20 : Nat → Int32} {f21 : Nat → Nat → Int32} (h0 : r1 = gsX_X1_part_2 NF 3 p1 v f) (h1 : t3 = r1 + 1) (h2 : t4 = if t3 < (99 : Int32) then t3 else (99 : Int32)) (h3 : gsX_X1_setPart_2 NF 3 p1 t4 v f = (v6, f7)) (h4 : r8 = gsX_X1_part_2 NF 1 p1 v6 f7) (h5 : t10 = r8 - p2) (h6 : t11 = if (0 : Int32) < t10 then t10 else (0 : Int32)) (h7 : gsX_X1_setPart_2 NF 1 p1 t11 v6 f7 = (v13, f14)) (h8 : r15 = gsX_X1_part_2 NF 0 p1 v13 f14) (h9 : t17 = r15 - p2) (h10 : t18 = if (0 : Int32) < t17 then t17 else (0 : Int32)) (h11 : gsX_X1_setPart_2 NF 0 p1 t18 v13 f14 = (v20, f21)) : gsX_X1_weather_2 NF p1 p2 v f = (v20, f21) := by
  subst h0 h1 h2 h4 h5 h6 h8 h9 h10
  simp only [gsX_X1_weather_2, h3, h7, h11]
set_option maxHeartbeats 4000000 in
set_option maxRecDepth 100000 in
theorem sX_X1_weather_2 (NF : Nat) (l : Launch) (dC : Nat → ClassId) (dI : Nat → Nat → Nat) (cy : Nat → ClassId) (x0 : Nat) (x : Nat → Nat) (p1 : Int32) (p2 : Int32) (v : Nat → Int32) (f : Nat → Nat → Int32) (hIv : XI v)  : ctV l (dC, dI) cy yX1_weather cX1_weather 3 3 104 0 0 ((Nat → Int32) × (Nat → Nat → Int32)) [.ref (x 27), .int p1, .int p2] (XW cy x0 x v f) (fun u => gsX_X1_weather_2 NF p1 p2 v f = u ∧ KV [] u.1 v ∧ KF [18] u.2 f ∧ XI u.1 ∧ u.1 0 = v 0 ∧ u.1 1 = v 1 ∧ u.1 7 = v 7 ∧ u.1 8 = v 8 ∧ u.1 9 = v 9 ∧ u.1 10 = v 10 ∧ u.1 31 = v 31 ∧ u.1 32 = v 32) (fun u => XW cy x0 x u.1 u.2) := by
  refine ctV_of (by decide) (Nat.le_of_ble_eq_true rfl) (fun p e s m below meth c A ls Q hx hb hml hts hown hnm hE hP hD hA hl ret => ?_)
  have hM_v : KV [] v v := fun _ _ => rfl
  have hA_f : KF [18] f f := fun _ _ => rfl
  have hown : s.vm.findClass RX1 = some m.cls := hown
  have hS : va_S A s.heap s.heap [] := va_S.rf
  have hl : lv_has ls 3 [(0, .ref (x 27)), (1, .int p1), (2, .int p2)] := hl
  refine lv_aload_n hx hb dX1_weather_0 rfl (lv_at hl 0 rfl) ?_
  refine lv_iconst (v := 3) hx hb dX1_weather_1 rfl ?_
  refine lv_iload_n hx hb dX1_weather_2 rfl (lv_at hl 1 rfl) ?_
  refine lv_bipush (v := 99) hx hb dX1_weather_3 rfl ?_
  refine lv_aload_n hx hb dX1_weather_5 rfl (lv_at hl 0 rfl) ?_
  refine lv_iconst (v := 3) hx hb dX1_weather_6 rfl ?_
  refine lv_iload_n hx hb dX1_weather_7 rfl (lv_at hl 1 rfl) ?_
  refine cbVi (n := 2) (rest := [.int 99, .int p1, .int 3, .ref (x 27)]) hx hb hml hown hts hE hP hD hS hA (sX_X1_part_2 NF l dC dI cy x0 x 3 p1 v f hIv ) k_827 k_828 k_829 k_106 k_830 hd_yX1_part ⟨Nat.le_of_ble_eq_true rfl, Nat.le_of_ble_eq_true rfl⟩ 28 1 rfl rfl (rfl) hl.1 rfl (Nat.le_of_ble_eq_true rfl) dX1_weather_8 (fun r1 u H locs hw hP hD hS => ?_)
  have hG2 := hw
  refine lv_iconst (v := 1) hx hb dX1_weather_11 rfl ?_
  refine lv_iadd hx hb dX1_weather_12 ?_
  refine lv_topi (fun t3 et3 => ?_)
  refine va_mmin hx hb (by rw [hml]; exact hl.1.symm) hown (hts _ k_869) (hts _ k_643) (hts _ k_119) (hts _ k_644) (Nat.le_of_ble_eq_true rfl) (Nat.le_of_ble_eq_true rfl) (Nat.le_of_ble_eq_true rfl) (Nat.le_of_ble_eq_true rfl) dX1_weather_13 ?_
  refine lv_topi (fun t4 et4 => ?_)
  have zt4 : t4.toInt = min (99) (t3.toInt) := by rw [et4]; exact mmin_i (by decide) rfl
  refine cbVv (n := 3) (rest := []) hx hb hml hown hts hE hP hD hS hA (sX_X1_setPart_2 NF l dC dI cy x0 x 3 p1 t4 v f hIv ) k_874 k_875 k_876 k_106 k_877 hd_yX1_setPart ⟨Nat.le_of_ble_eq_true rfl, Nat.le_of_ble_eq_true rfl⟩ 28 1 rfl rfl (rfl) hl.1 rfl (Nat.le_of_ble_eq_true rfl) dX1_weather_16 (fun u H locs hw hP hD hS => ?_)
  obtain ⟨hG5, hw⟩ := hw
  obtain ⟨v6, f7⟩ := u
  obtain ⟨kV_v6, kF_f7, hIv6, hk0_v6, hk1_v6, hk7_v6, hk8_v6, hk9_v6, hk10_v6, hk31_v6, hk32_v6⟩ := hw
  have hM_v6 : KV [] v6 v := KV.tr kV_v6 hM_v rfl
  have hA_f7 : KF [18] f7 f := KF.tr kF_f7 hA_f rfl
  have hP : va_P (dC, dI) vwCl (XW cy x0 x v6 f7) H := hP
  have hD : va_D A (XW cy x0 x v6 f7) := hD
  have hq0_v6 : v6 0 = (v 0) := hk0_v6
  have hq1_v6 : v6 1 = (v 1) := hk1_v6
  have hq7_v6 : v6 7 = (v 7) := hk7_v6
  have hq8_v6 : v6 8 = (v 8) := hk8_v6
  have hq9_v6 : v6 9 = (v 9) := hk9_v6
  have hq10_v6 : v6 10 = (v 10) := hk10_v6
  have hq31_v6 : v6 31 = (v 31) := hk31_v6
  have hq32_v6 : v6 32 = (v 32) := hk32_v6
  refine lv_aload_n hx hb dX1_weather_19 rfl (lv_at hl 0 rfl) ?_
  refine lv_iconst (v := 1) hx hb dX1_weather_20 rfl ?_
  refine lv_iload_n hx hb dX1_weather_21 rfl (lv_at hl 1 rfl) ?_
  refine lv_iconst (v := 0) hx hb dX1_weather_22 rfl ?_
  refine lv_aload_n hx hb dX1_weather_23 rfl (lv_at hl 0 rfl) ?_
  refine lv_iconst (v := 1) hx hb dX1_weather_24 rfl ?_
  refine lv_iload_n hx hb dX1_weather_25 rfl (lv_at hl 1 rfl) ?_
  refine cbVi (n := 2) (rest := [.int 0, .int p1, .int 1, .ref (x 27)]) hx hb hml hown hts hE hP hD hS hA (sX_X1_part_2 NF l dC dI cy x0 x 1 p1 v6 f7 hIv6 ) k_827 k_828 k_829 k_106 k_830 hd_yX1_part ⟨Nat.le_of_ble_eq_true rfl, Nat.le_of_ble_eq_true rfl⟩ 28 1 rfl rfl (rfl) hl.1 rfl (Nat.le_of_ble_eq_true rfl) dX1_weather_26 (fun r8 u H locs hw hP hD hS => ?_)
  have hG9 := hw
  refine lv_iload_n hx hb dX1_weather_29 rfl (lv_at hl 2 rfl) ?_
  refine lv_isub hx hb dX1_weather_30 ?_
  refine lv_topi (fun t10 et10 => ?_)
  refine va_mmax hx hb (by rw [hml]; exact hl.1.symm) hown (hts _ k_878) (hts _ k_640) (hts _ k_119) (hts _ k_641) (Nat.le_of_ble_eq_true rfl) (Nat.le_of_ble_eq_true rfl) (Nat.le_of_ble_eq_true rfl) (Nat.le_of_ble_eq_true rfl) dX1_weather_31 ?_
  refine lv_topi (fun t11 et11 => ?_)
  have zt11 : t11.toInt = max (0) (t10.toInt) := by rw [et11]; exact mmax_i (by decide) rfl
  refine cbVv (n := 3) (rest := []) hx hb hml hown hts hE hP hD hS hA (sX_X1_setPart_2 NF l dC dI cy x0 x 1 p1 t11 v6 f7 hIv6 ) k_874 k_875 k_876 k_106 k_877 hd_yX1_setPart ⟨Nat.le_of_ble_eq_true rfl, Nat.le_of_ble_eq_true rfl⟩ 28 1 rfl rfl (rfl) hl.1 rfl (Nat.le_of_ble_eq_true rfl) dX1_weather_34 (fun u H locs hw hP hD hS => ?_)
  obtain ⟨hG12, hw⟩ := hw
  obtain ⟨v13, f14⟩ := u
  obtain ⟨kV_v13, kF_f14, hIv13, hk0_v13, hk1_v13, hk7_v13, hk8_v13, hk9_v13, hk10_v13, hk31_v13, hk32_v13⟩ := hw
  have hM_v13 : KV [] v13 v := KV.tr kV_v13 hM_v6 rfl
  have hA_f14 : KF [18] f14 f := KF.tr kF_f14 hA_f7 rfl
  have hP : va_P (dC, dI) vwCl (XW cy x0 x v13 f14) H := hP
  have hD : va_D A (XW cy x0 x v13 f14) := hD
  have hq0_v13 : v13 0 = (v 0) := hk0_v13.trans hq0_v6
  have hq1_v13 : v13 1 = (v 1) := hk1_v13.trans hq1_v6
  have hq7_v13 : v13 7 = (v 7) := hk7_v13.trans hq7_v6
  have hq8_v13 : v13 8 = (v 8) := hk8_v13.trans hq8_v6
  have hq9_v13 : v13 9 = (v 9) := hk9_v13.trans hq9_v6
  have hq10_v13 : v13 10 = (v 10) := hk10_v13.trans hq10_v6
  have hq31_v13 : v13 31 = (v 31) := hk31_v13.trans hq31_v6
  have hq32_v13 : v13 32 = (v 32) := hk32_v13.trans hq32_v6
  refine lv_aload_n hx hb dX1_weather_37 rfl (lv_at hl 0 rfl) ?_
  refine lv_iconst (v := 0) hx hb dX1_weather_38 rfl ?_
  refine lv_iload_n hx hb dX1_weather_39 rfl (lv_at hl 1 rfl) ?_
  refine lv_iconst (v := 0) hx hb dX1_weather_40 rfl ?_
  refine lv_aload_n hx hb dX1_weather_41 rfl (lv_at hl 0 rfl) ?_
  refine lv_iconst (v := 0) hx hb dX1_weather_42 rfl ?_
  refine lv_iload_n hx hb dX1_weather_43 rfl (lv_at hl 1 rfl) ?_
  refine cbVi (n := 2) (rest := [.int 0, .int p1, .int 0, .ref (x 27)]) hx hb hml hown hts hE hP hD hS hA (sX_X1_part_2 NF l dC dI cy x0 x 0 p1 v13 f14 hIv13 ) k_827 k_828 k_829 k_106 k_830 hd_yX1_part ⟨Nat.le_of_ble_eq_true rfl, Nat.le_of_ble_eq_true rfl⟩ 28 1 rfl rfl (rfl) hl.1 rfl (Nat.le_of_ble_eq_true rfl) dX1_weather_44 (fun r15 u H locs hw hP hD hS => ?_)
  have hG16 := hw
  refine lv_iload_n hx hb dX1_weather_47 rfl (lv_at hl 2 rfl) ?_
  refine lv_isub hx hb dX1_weather_48 ?_
  refine lv_topi (fun t17 et17 => ?_)
  refine va_mmax hx hb (by rw [hml]; exact hl.1.symm) hown (hts _ k_878) (hts _ k_640) (hts _ k_119) (hts _ k_641) (Nat.le_of_ble_eq_true rfl) (Nat.le_of_ble_eq_true rfl) (Nat.le_of_ble_eq_true rfl) (Nat.le_of_ble_eq_true rfl) dX1_weather_49 ?_
  refine lv_topi (fun t18 et18 => ?_)
  have zt18 : t18.toInt = max (0) (t17.toInt) := by rw [et18]; exact mmax_i (by decide) rfl
  refine cbVv (n := 3) (rest := []) hx hb hml hown hts hE hP hD hS hA (sX_X1_setPart_2 NF l dC dI cy x0 x 0 p1 t18 v13 f14 hIv13 ) k_874 k_875 k_876 k_106 k_877 hd_yX1_setPart ⟨Nat.le_of_ble_eq_true rfl, Nat.le_of_ble_eq_true rfl⟩ 28 1 rfl rfl (rfl) hl.1 rfl (Nat.le_of_ble_eq_true rfl) dX1_weather_52 (fun u H locs hw hP hD hS => ?_)
  obtain ⟨hG19, hw⟩ := hw
  obtain ⟨v20, f21⟩ := u
  obtain ⟨kV_v20, kF_f21, hIv20, hk0_v20, hk1_v20, hk7_v20, hk8_v20, hk9_v20, hk10_v20, hk31_v20, hk32_v20⟩ := hw
  have hM_v20 : KV [] v20 v := KV.tr kV_v20 hM_v13 rfl
  have hA_f21 : KF [18] f21 f := KF.tr kF_f21 hA_f14 rfl
  have hP : va_P (dC, dI) vwCl (XW cy x0 x v20 f21) H := hP
  have hD : va_D A (XW cy x0 x v20 f21) := hD
  have hq0_v20 : v20 0 = (v 0) := hk0_v20.trans hq0_v13
  have hq1_v20 : v20 1 = (v 1) := hk1_v20.trans hq1_v13
  have hq7_v20 : v20 7 = (v 7) := hk7_v20.trans hq7_v13
  have hq8_v20 : v20 8 = (v 8) := hk8_v20.trans hq8_v13
  have hq9_v20 : v20 9 = (v 9) := hk9_v20.trans hq9_v13
  have hq10_v20 : v20 10 = (v 10) := hk10_v20.trans hq10_v13
  have hq31_v20 : v20 31 = (v 31) := hk31_v20.trans hq31_v13
  have hq32_v20 : v20 32 = (v 32) := hk32_v20.trans hq32_v13
  exact ret (v20, f21) _ _ _ _ _ _ ⟨(gsX_X1_weather_2_q0 hG2.symm et3 et4 hG5 hG9.symm et10 et11 hG12 hG16.symm et17 et18 hG19), hM_v20, hA_f21, hIv20, (hk0_v20.trans (hk0_v13.trans hk0_v6)), (hk1_v20.trans (hk1_v13.trans hk1_v6)), (hk7_v20.trans (hk7_v13.trans hk7_v6)), (hk8_v20.trans (hk8_v13.trans hk8_v6)), (hk9_v20.trans (hk9_v13.trans hk9_v6)), (hk10_v20.trans (hk10_v13.trans hk10_v6)), (hk31_v20.trans (hk31_v13.trans hk31_v6)), (hk32_v20.trans (hk32_v13.trans hk32_v6))⟩ hP hD hS dX1_weather_55 (Nat.le_refl _) (Nat.le_refl _)
def gsX_X1_passDay_2_L21 (NF : Nat) (v : Nat → Int32) : Nat → (Int32) → (Int32) → (Nat → Int32) → (Nat → Nat → Int32) → Int32 × (Nat → Int32) × (Nat → Nat → Int32)
  | 0, _, _, _, _ => (0, (fun _ => 0), (fun _ _ => 0))
  | n21 + 1, l3_21, l4_21, v21, f21 =>
    if (v 31) ≤ l4_21 then
      (l3_21, v21, f21)
    else
      let r25 : Int32 := gsX_X1_wears_2 NF l4_21 v21 f21
      if r25 = (-1) then
        let t28 : Int32 := l4_21 + 1
        gsX_X1_passDay_2_L21 NF v n21 l3_21 t28 v21 f21
      else
        let r30 : Int32 := gsX_X1_wears_2 NF l4_21 v21 f21
        match gsX_X1_fits_2 NF l4_21 r30 v21 f21 with
        | (r32, v34, f35) =>
          if r32 = 1 then
            let t37 : Int32 := l4_21 + 1
            gsX_X1_passDay_2_L21 NF v n21 l3_21 t37 v34 f35
          else
            match gsX_X1_setWears_2 NF l4_21 (-1) v34 f35 with
            | (v40, f41) =>
              let t42 : Int32 := 1 <<< (l4_21 &&& 31)
              let t43 : Int32 := l3_21 ||| t42
              let t44 : Int32 := l4_21 + 1
              gsX_X1_passDay_2_L21 NF v n21 t43 t44 v40 f41
def gsX_X1_passDay_2_L15 (NF : Nat) (v : Nat → Int32) : Nat → (Int32) → (Nat → Int32) → (Nat → Nat → Int32) → Int32 × (Nat → Int32) × (Nat → Nat → Int32)
  | 0, _, _, _ => (0, (fun _ => 0), (fun _ _ => 0))
  | n15 + 1, l3_15, v15, f15 =>
    if (v 31) ≤ l3_15 then
      let t18 : Int32 := f15 18 (42 : Int32).toNatClampNeg
      let t19 : Int32 := t18 + 1
      let f20 : Nat → Nat → Int32 := upd2 f15 18 (upd (f15 18) (42 : Int32).toNatClampNeg t19)
      gsX_X1_passDay_2_L21 NF v (4294967296 + NF) 0 0 v15 f20
    else
      let r47 : Int32 := gsX_X1_wears_2 NF l3_15 v15 f15
      match gsX_X1_weather_2 NF r47 0 v15 f15 with
      | (v50, f51) =>
        let t52 : Int32 := l3_15 + 1
        gsX_X1_passDay_2_L15 NF v n15 t52 v50 f51
def gsX_X1_passDay_2_L62 (NF : Nat) (v : Nat → Int32) : Nat → (Int32) → (Int32) → (Nat → Int32) → (Nat → Nat → Int32) → Int32 × (Nat → Int32) × (Nat → Nat → Int32)
  | 0, _, _, _, _ => (0, (fun _ => 0), (fun _ _ => 0))
  | n62 + 1, l3_62, l4_62, v62, f62 =>
    if (v 31) ≤ l4_62 then
      (l3_62, v62, f62)
    else
      let r66 : Int32 := gsX_X1_wears_2 NF l4_62 v62 f62
      if r66 = (-1) then
        let t69 : Int32 := l4_62 + 1
        gsX_X1_passDay_2_L62 NF v n62 l3_62 t69 v62 f62
      else
        let r71 : Int32 := gsX_X1_wears_2 NF l4_62 v62 f62
        match gsX_X1_fits_2 NF l4_62 r71 v62 f62 with
        | (r73, v75, f76) =>
          if r73 = 1 then
            let t78 : Int32 := l4_62 + 1
            gsX_X1_passDay_2_L62 NF v n62 l3_62 t78 v75 f76
          else
            match gsX_X1_setWears_2 NF l4_62 (-1) v75 f76 with
            | (v81, f82) =>
              let t83 : Int32 := 1 <<< (l4_62 &&& 31)
              let t84 : Int32 := l3_62 ||| t83
              let t85 : Int32 := l4_62 + 1
              gsX_X1_passDay_2_L62 NF v n62 t84 t85 v81 f82
def gsX_X1_passDay_2_L56 (NF : Nat) (v : Nat → Int32) : Nat → (Int32) → (Nat → Int32) → (Nat → Nat → Int32) → Int32 × (Nat → Int32) × (Nat → Nat → Int32)
  | 0, _, _, _ => (0, (fun _ => 0), (fun _ _ => 0))
  | n56 + 1, l3_56, v56, f56 =>
    if (v 31) ≤ l3_56 then
      let t59 : Int32 := f56 18 (42 : Int32).toNatClampNeg
      let t60 : Int32 := t59 + 1
      let f61 : Nat → Nat → Int32 := upd2 f56 18 (upd (f56 18) (42 : Int32).toNatClampNeg t60)
      gsX_X1_passDay_2_L62 NF v (4294967296 + NF) 0 0 v56 f61
    else
      let r88 : Int32 := gsX_X1_wears_2 NF l3_56 v56 f56
      match gsX_X1_weather_2 NF r88 1 v56 f56 with
      | (v91, f92) =>
        let t93 : Int32 := l3_56 + 1
        gsX_X1_passDay_2_L56 NF v n56 t93 v91 f92
def gsX_X1_passDay_2_L1 (NF : Nat) (p1 : Int32) (v : Nat → Int32) : Nat → (Int32) → (Nat → Int32) → (Nat → Nat → Int32) → Int32 × (Nat → Int32) × (Nat → Nat → Int32)
  | 0, _, _, _ => (0, (fun _ => 0), (fun _ _ => 0))
  | n1 + 1, l2_1, v1, f1 =>
    if (v 31) ≤ l2_1 then
      let t5 : Int32 := f1 18 (43 : Int32).toNatClampNeg
      let t6 : Int32 := t5 * 137
      let t7 : Int32 := t6 + 71
      let t8 : Int32 := t7 - t7 / 1000 * 1000
      let f9 : Nat → Nat → Int32 := upd2 f1 18 (upd (f1 18) (43 : Int32).toNatClampNeg t8)
      let t10 : Int32 := f9 18 (43 : Int32).toNatClampNeg
      let t11 : Int32 := t10 - t10 / 100 * 100
      if p1 ≤ t11 then
        gsX_X1_passDay_2_L15 NF v (4294967296 + NF) 0 v1 f9
      else
        gsX_X1_passDay_2_L56 NF v (4294967296 + NF) 0 v1 f9
    else
      let t97 : Int32 := f1 18 (l2_1).toNatClampNeg
      let r98 : Int32 := gsX_X7_manPart_1 NF 2 l2_1 v1 f1
      let t100 : Int32 := t97 + r98
      let t101 : Int32 := if t100 < (99 : Int32) then t100 else (99 : Int32)
      let f102 : Nat → Nat → Int32 := upd2 f1 18 (upd (f1 18) l2_1.toNatClampNeg t101)
      let t103 : Int32 := l2_1 + 1
      gsX_X1_passDay_2_L1 NF p1 v n1 t103 v1 f102
def gsX_X1_passDay_2 (NF : Nat) (p1 : Int32) (v : Nat → Int32) (f : Nat → Nat → Int32) : Int32 × (Nat → Int32) × (Nat → Nat → Int32) :=
  gsX_X1_passDay_2_L1 NF p1 v (4294967296 + NF) 0 v f
theorem gsX_X1_passDay_2_q15 {NF : Nat} {p1 : Int32} {v : Nat → Int32} {f : Nat → Nat → Int32}  : gsX_X1_passDay_2 NF p1 v f = gsX_X1_passDay_2_L1 NF p1 v (4294967296 + NF) 0 v f := by
  simp only [gsX_X1_passDay_2]
theorem gsX_X1_passDay_2_q6 {NF : Nat} {p1 : Int32} {v : Nat → Int32} {n1 : Nat} {l2_1 : Int32} {v1 : Nat → Int32} {f1 : Nat → Nat → Int32} {t5 : Int32} {t6 : Int32} {t7 : Int32} {t8 : Int32} {f9 : Nat → Nat → Int32} {t10 : Int32} {t11 : Int32} (h0 : ((v 31) ≤ l2_1)) (h1 : t5 = f1 18 (43 : Int32).toNatClampNeg) (h2 : t6 = t5 * 137) (h3 : t7 = t6 + 71) (h4 : t8 = t7 - t7 / 1000 * 1000) (h5 : f9 = upd2 f1 18 (upd (f1 18) (43 : Int32).toNatClampNeg t8)) (h6 : t10 = f9 18 (43 : Int32).toNatClampNeg) (h7 : t11 = t10 - t10 / 100 * 100) (h8 : (p1 ≤ t11)) : gsX_X1_passDay_2_L1 NF p1 v (n1 + 1) l2_1 v1 f1 = gsX_X1_passDay_2_L15 NF v (4294967296 + NF) 0 v1 f9 := by
  subst h1 h2 h3 h4 h5 h6 h7
  simp only [gsX_X1_passDay_2_L1, if_pos h0, if_pos h8]
theorem gsX_X1_passDay_2_q13 {NF : Nat} {p1 : Int32} {v : Nat → Int32} {n1 : Nat} {l2_1 : Int32} {v1 : Nat → Int32} {f1 : Nat → Nat → Int32} {t5 : Int32} {t6 : Int32} {t7 : Int32} {t8 : Int32} {f9 : Nat → Nat → Int32} {t10 : Int32} {t11 : Int32} (h0 : ((v 31) ≤ l2_1)) (h1 : t5 = f1 18 (43 : Int32).toNatClampNeg) (h2 : t6 = t5 * 137) (h3 : t7 = t6 + 71) (h4 : t8 = t7 - t7 / 1000 * 1000) (h5 : f9 = upd2 f1 18 (upd (f1 18) (43 : Int32).toNatClampNeg t8)) (h6 : t10 = f9 18 (43 : Int32).toNatClampNeg) (h7 : t11 = t10 - t10 / 100 * 100) (h8 : ¬ (p1 ≤ t11)) : gsX_X1_passDay_2_L1 NF p1 v (n1 + 1) l2_1 v1 f1 = gsX_X1_passDay_2_L56 NF v (4294967296 + NF) 0 v1 f9 := by
  subst h1 h2 h3 h4 h5 h6 h7
  simp only [gsX_X1_passDay_2_L1, if_pos h0, if_neg h8]
theorem gsX_X1_passDay_2_q14 {NF : Nat} {p1 : Int32} {v : Nat → Int32} {n1 : Nat} {l2_1 : Int32} {v1 : Nat → Int32} {f1 : Nat → Nat → Int32} {t97 : Int32} {r98 : Int32} {t100 : Int32} {t101 : Int32} {f102 : Nat → Nat → Int32} {t103 : Int32} (h0 : ¬ ((v 31) ≤ l2_1)) (h1 : t97 = f1 18 (l2_1).toNatClampNeg) (h2 : r98 = gsX_X7_manPart_1 NF 2 l2_1 v1 f1) (h3 : t100 = t97 + r98) (h4 : t101 = if t100 < (99 : Int32) then t100 else (99 : Int32)) (h5 : f102 = upd2 f1 18 (upd (f1 18) l2_1.toNatClampNeg t101)) (h6 : t103 = l2_1 + 1) : gsX_X1_passDay_2_L1 NF p1 v (n1 + 1) l2_1 v1 f1 = gsX_X1_passDay_2_L1 NF p1 v n1 t103 v1 f102 := by
  subst h1 h2 h3 h4 h5 h6
  simp only [gsX_X1_passDay_2_L1, if_neg h0]
theorem gsX_X1_passDay_2_q4 {NF : Nat} {v : Nat → Int32} {n15 : Nat} {l3_15 : Int32} {v15 : Nat → Int32} {f15 : Nat → Nat → Int32} {t18 : Int32} {t19 : Int32} {f20 : Nat → Nat → Int32} (h0 : ((v 31) ≤ l3_15)) (h1 : t18 = f15 18 (42 : Int32).toNatClampNeg) (h2 : t19 = t18 + 1) (h3 : f20 = upd2 f15 18 (upd (f15 18) (42 : Int32).toNatClampNeg t19)) : gsX_X1_passDay_2_L15 NF v (n15 + 1) l3_15 v15 f15 = gsX_X1_passDay_2_L21 NF v (4294967296 + NF) 0 0 v15 f20 := by
  subst h1 h2 h3
  simp only [gsX_X1_passDay_2_L15, if_pos h0]
theorem gsX_X1_passDay_2_q5 {NF : Nat} {v : Nat → Int32} {n15 : Nat} {l3_15 : Int32} {v15 : Nat → Int32} {f15 : Nat → Nat → Int32} {r47 : Int32} {v50 : Nat → Int32} {f51 : Nat → Nat → Int32} {t52 : Int32} (h0 : ¬ ((v 31) ≤ l3_15)) (h1 : r47 = gsX_X1_wears_2 NF l3_15 v15 f15) (h2 : gsX_X1_weather_2 NF r47 0 v15 f15 = (v50, f51)) (h3 : t52 = l3_15 + 1) : gsX_X1_passDay_2_L15 NF v (n15 + 1) l3_15 v15 f15 = gsX_X1_passDay_2_L15 NF v n15 t52 v50 f51 := by
  subst h1 h3
  simp only [gsX_X1_passDay_2_L15, if_neg h0, h2]
theorem gsX_X1_passDay_2_q0 {NF : Nat} {v : Nat → Int32} {n21 : Nat} {l3_21 : Int32} {l4_21 : Int32} {v21 : Nat → Int32} {f21 : Nat → Nat → Int32} (h0 : ((v 31) ≤ l4_21)) : gsX_X1_passDay_2_L21 NF v (n21 + 1) l3_21 l4_21 v21 f21 = (l3_21, v21, f21) := by
  simp only [gsX_X1_passDay_2_L21, if_pos h0]
theorem gsX_X1_passDay_2_q1 {NF : Nat} {v : Nat → Int32} {n21 : Nat} {l3_21 : Int32} {l4_21 : Int32} {v21 : Nat → Int32} {f21 : Nat → Nat → Int32} {r25 : Int32} {t28 : Int32} (h0 : ¬ ((v 31) ≤ l4_21)) (h1 : r25 = gsX_X1_wears_2 NF l4_21 v21 f21) (h2 : (r25 = (-1))) (h3 : t28 = l4_21 + 1) : gsX_X1_passDay_2_L21 NF v (n21 + 1) l3_21 l4_21 v21 f21 = gsX_X1_passDay_2_L21 NF v n21 l3_21 t28 v21 f21 := by
  subst h1 h3
  simp only [gsX_X1_passDay_2_L21, if_neg h0, if_pos h2]
theorem gsX_X1_passDay_2_q2 {NF : Nat} {v : Nat → Int32} {n21 : Nat} {l3_21 : Int32} {l4_21 : Int32} {v21 : Nat → Int32} {f21 : Nat → Nat → Int32} {r25 : Int32} {r30 : Int32} {v34 : Nat → Int32} {f35 : Nat → Nat → Int32} {t37 : Int32} (h0 : ¬ ((v 31) ≤ l4_21)) (h1 : r25 = gsX_X1_wears_2 NF l4_21 v21 f21) (h2 : ¬ (r25 = (-1))) (h3 : r30 = gsX_X1_wears_2 NF l4_21 v21 f21) (h4 : gsX_X1_fits_2 NF l4_21 r30 v21 f21 = (1, v34, f35)) (h6 : t37 = l4_21 + 1) : gsX_X1_passDay_2_L21 NF v (n21 + 1) l3_21 l4_21 v21 f21 = gsX_X1_passDay_2_L21 NF v n21 l3_21 t37 v34 f35 := by
  subst h1 h3 h6
  simp only [gsX_X1_passDay_2_L21, if_neg h0, if_neg h2, h4, ite11, ite01, if_true, if_false]
theorem gsX_X1_passDay_2_q3 {NF : Nat} {v : Nat → Int32} {n21 : Nat} {l3_21 : Int32} {l4_21 : Int32} {v21 : Nat → Int32} {f21 : Nat → Nat → Int32} {r25 : Int32} {r30 : Int32} {v34 : Nat → Int32} {f35 : Nat → Nat → Int32} {v40 : Nat → Int32} {f41 : Nat → Nat → Int32} {t42 : Int32} {t43 : Int32} {t44 : Int32} (h0 : ¬ ((v 31) ≤ l4_21)) (h1 : r25 = gsX_X1_wears_2 NF l4_21 v21 f21) (h2 : ¬ (r25 = (-1))) (h3 : r30 = gsX_X1_wears_2 NF l4_21 v21 f21) (h4 : gsX_X1_fits_2 NF l4_21 r30 v21 f21 = (0, v34, f35)) (h6 : gsX_X1_setWears_2 NF l4_21 (-1) v34 f35 = (v40, f41)) (h7 : t42 = 1 <<< (l4_21 &&& 31)) (h8 : t43 = l3_21 ||| t42) (h9 : t44 = l4_21 + 1) : gsX_X1_passDay_2_L21 NF v (n21 + 1) l3_21 l4_21 v21 f21 = gsX_X1_passDay_2_L21 NF v n21 t43 t44 v40 f41 := by
  subst h1 h3 h7 h8 h9
  simp only [gsX_X1_passDay_2_L21, if_neg h0, if_neg h2, h4, h6, ite11, ite01, if_true, if_false]
theorem gsX_X1_passDay_2_q11 {NF : Nat} {v : Nat → Int32} {n56 : Nat} {l3_56 : Int32} {v56 : Nat → Int32} {f56 : Nat → Nat → Int32} {t59 : Int32} {t60 : Int32} {f61 : Nat → Nat → Int32} (h0 : ((v 31) ≤ l3_56)) (h1 : t59 = f56 18 (42 : Int32).toNatClampNeg) (h2 : t60 = t59 + 1) (h3 : f61 = upd2 f56 18 (upd (f56 18) (42 : Int32).toNatClampNeg t60)) : gsX_X1_passDay_2_L56 NF v (n56 + 1) l3_56 v56 f56 = gsX_X1_passDay_2_L62 NF v (4294967296 + NF) 0 0 v56 f61 := by
  subst h1 h2 h3
  simp only [gsX_X1_passDay_2_L56, if_pos h0]
theorem gsX_X1_passDay_2_q12 {NF : Nat} {v : Nat → Int32} {n56 : Nat} {l3_56 : Int32} {v56 : Nat → Int32} {f56 : Nat → Nat → Int32} {r88 : Int32} {v91 : Nat → Int32} {f92 : Nat → Nat → Int32} {t93 : Int32} (h0 : ¬ ((v 31) ≤ l3_56)) (h1 : r88 = gsX_X1_wears_2 NF l3_56 v56 f56) (h2 : gsX_X1_weather_2 NF r88 1 v56 f56 = (v91, f92)) (h3 : t93 = l3_56 + 1) : gsX_X1_passDay_2_L56 NF v (n56 + 1) l3_56 v56 f56 = gsX_X1_passDay_2_L56 NF v n56 t93 v91 f92 := by
  subst h1 h3
  simp only [gsX_X1_passDay_2_L56, if_neg h0, h2]
theorem gsX_X1_passDay_2_q7 {NF : Nat} {v : Nat → Int32} {n62 : Nat} {l3_62 : Int32} {l4_62 : Int32} {v62 : Nat → Int32} {f62 : Nat → Nat → Int32} (h0 : ((v 31) ≤ l4_62)) : gsX_X1_passDay_2_L62 NF v (n62 + 1) l3_62 l4_62 v62 f62 = (l3_62, v62, f62) := by
  simp only [gsX_X1_passDay_2_L62, if_pos h0]
theorem gsX_X1_passDay_2_q8 {NF : Nat} {v : Nat → Int32} {n62 : Nat} {l3_62 : Int32} {l4_62 : Int32} {v62 : Nat → Int32} {f62 : Nat → Nat → Int32} {r66 : Int32} {t69 : Int32} (h0 : ¬ ((v 31) ≤ l4_62)) (h1 : r66 = gsX_X1_wears_2 NF l4_62 v62 f62) (h2 : (r66 = (-1))) (h3 : t69 = l4_62 + 1) : gsX_X1_passDay_2_L62 NF v (n62 + 1) l3_62 l4_62 v62 f62 = gsX_X1_passDay_2_L62 NF v n62 l3_62 t69 v62 f62 := by
  subst h1 h3
  simp only [gsX_X1_passDay_2_L62, if_neg h0, if_pos h2]
theorem gsX_X1_passDay_2_q9 {NF : Nat} {v : Nat → Int32} {n62 : Nat} {l3_62 : Int32} {l4_62 : Int32} {v62 : Nat → Int32} {f62 : Nat → Nat → Int32} {r66 : Int32} {r71 : Int32} {v75 : Nat → Int32} {f76 : Nat → Nat → Int32} {t78 : Int32} (h0 : ¬ ((v 31) ≤ l4_62)) (h1 : r66 = gsX_X1_wears_2 NF l4_62 v62 f62) (h2 : ¬ (r66 = (-1))) (h3 : r71 = gsX_X1_wears_2 NF l4_62 v62 f62) (h4 : gsX_X1_fits_2 NF l4_62 r71 v62 f62 = (1, v75, f76)) (h6 : t78 = l4_62 + 1) : gsX_X1_passDay_2_L62 NF v (n62 + 1) l3_62 l4_62 v62 f62 = gsX_X1_passDay_2_L62 NF v n62 l3_62 t78 v75 f76 := by
  subst h1 h3 h6
  simp only [gsX_X1_passDay_2_L62, if_neg h0, if_neg h2, h4, ite11, ite01, if_true, if_false]
theorem gsX_X1_passDay_2_q10 {NF : Nat} {v : Nat → Int32} {n62 : Nat} {l3_62 : Int32} {l4_62 : Int32} {v62 : Nat → Int32} {f62 : Nat → Nat → Int32} {r66 : Int32} {r71 : Int32} {v75 : Nat → Int32} {f76 : Nat → Nat → Int32} {v81 : Nat → Int32} {f82 : Nat → Nat → Int32} {t83 : Int32} {t84 : Int32} {t85 : Int32} (h0 : ¬ ((v 31) ≤ l4_62)) (h1 : r66 = gsX_X1_wears_2 NF l4_62 v62 f62) (h2 : ¬ (r66 = (-1))) (h3 : r71 = gsX_X1_wears_2 NF l4_62 v62 f62) (h4 : gsX_X1_fits_2 NF l4_62 r71 v62 f62 = (0, v75, f76)) (h6 : gsX_X1_setWears_2 NF l4_62 (-1) v75 f76 = (v81, f82)) (h7 : t83 = 1 <<< (l4_62 &&& 31)) (h8 : t84 = l3_62 ||| t83) (h9 : t85 = l4_62 + 1) : gsX_X1_passDay_2_L62 NF v (n62 + 1) l3_62 l4_62 v62 f62 = gsX_X1_passDay_2_L62 NF v n62 t84 t85 v81 f82 := by
  subst h1 h3 h7 h8 h9
  simp only [gsX_X1_passDay_2_L62, if_neg h0, if_neg h2, h4, h6, ite11, ite01, if_true, if_false]
set_option maxHeartbeats 4000000 in
set_option maxRecDepth 100000 in
theorem sX_X1_passDay_2 (NF : Nat) (l : Launch) (dC : Nat → ClassId) (dI : Nat → Nat → Nat) (cy : Nat → ClassId) (x0 : Nat) (x : Nat → Nat) (p1 : Int32) (v : Nat → Int32) (f : Nat → Nat → Int32) (hIv : XI v)  : ctI l (dC, dI) cy yX1_passDay cX1_passDay 5 .int 5 155 0 0 ((Nat → Int32) × (Nat → Nat → Int32)) [.ref (x 27), .int p1] (XW cy x0 x v f) (fun r u => gsX_X1_passDay_2 NF p1 v f = (r, u) ∧ KV [] u.1 v ∧ KF [13, 14, 18] u.2 f ∧ XI u.1 ∧ u.1 0 = v 0 ∧ u.1 1 = v 1 ∧ u.1 7 = v 7 ∧ u.1 8 = v 8 ∧ u.1 9 = v 9 ∧ u.1 10 = v 10 ∧ u.1 31 = v 31 ∧ u.1 32 = v 32) (fun u => XW cy x0 x u.1 u.2) := by
  refine ctI_of (by decide) (Nat.le_of_ble_eq_true rfl) (fun p e s m below meth c A ls Q hx hb hml hts hown hE hP hD hA hl ret => ?_)
  have hM_v : KV [] v v := fun _ _ => rfl
  have hA_f : KF [13, 14, 18] f f := fun _ _ => rfl
  have hown : s.vm.findClass RX1 = some m.cls := hown
  have hS : va_S A s.heap s.heap [] := va_S.rf
  have hl : lv_has ls 5 [(0, .ref (x 27)), (1, .int p1)] := hl
  refine lv_iconst (v := 0) hx hb dX1_passDay_0 rfl ?_
  refine lv_istore_n (lv' := [(2, .int 0), (0, .ref (x 27)), (1, .int p1)]) hx hb dX1_passDay_1 rfl hl (Nat.le_of_ble_eq_true rfl) rfl (fun ls hl => ?_)
  have lp1 : ∀ (n1 : Nat) (l2_1 : Int32) (v1 : Nat → Int32) (f1 : Nat → Nat → Int32), XI v1 → v1 0 = (v 0) → v1 1 = (v 1) → v1 7 = (v 7) → v1 8 = (v 8) → v1 9 = (v 9) → v1 10 = (v 10) → v1 31 = (v 31) → v1 32 = (v 32) → gsX_X1_passDay_2_L1 NF p1 v n1 l2_1 v1 f1 = (gsX_X1_passDay_2 NF p1 v f) → ((0 : Int) ≤ l2_1.toInt ∧ l2_1.toInt ≤ 2147483647) → KV [] v1 v → KF [13, 14, 18] f1 f → (2147483647 - l2_1.toInt).toNat < n1 → ∀ (H : Heap) (locs : List Loc) (ls : Array Slot), va_P (dC, dI) vwCl (XW cy x0 x v1 f1) H → va_D A (XW cy x0 x v1 f1) → va_S A s.heap H locs → lv_has ls 5 [(2, .int l2_1), (0, .ref (x 27)), (1, .int p1)] → W p l e { frames := 5, cells := 0, slots := 0, locals := 155 } s m ([.ref (x 27), .int p1] : List Value).toArray below meth c H locs 0 0 Q (F0 m 2 ls []) := by
    intro n1
    induction n1 with
    | zero => intro l2_1 v1 f1 hIv1 hq0_v1 hq1_v1 hq7_v1 hq8_v1 hq9_v1 hq10_v1 hq31_v1 hq32_v1 hT1 hr2_1 hM_v1 hA_f1 hm; exact absurd hm (Nat.not_lt_zero _)
    | succ n1 ih1 =>
      intro l2_1 v1 f1 hIv1 hq0_v1 hq1_v1 hq7_v1 hq8_v1 hq9_v1 hq10_v1 hq31_v1 hq32_v1 hT1 hr2_1 hM_v1 hA_f1 hm1 H locs ls hP hD hS hl
      refine lv_iload_n hx hb dX1_passDay_2 rfl (lv_at hl 0 rfl) ?_
      refine lv_aload_n hx hb dX1_passDay_3 rfl (lv_at hl 1 rfl) ?_
      refine va_get (D := (dC, dI)) (ci := 1) (v := .ref (x 26)) (C := RX1) (T := TX1) (N := 2) hx hb hts inB_1 hown hE.1 hP 28 rfl rfl 0 (Nat.le_of_ble_eq_true rfl) (hts _ k_318) (fun _ h9 => h9) rfl dX1_passDay_4 ?_
      refine va_getN (D := (dC, dI)) (ci := 7) (v := .int (v1 31)) (C := RX7) (T := TX7) (N := 10) hx hb hts inB_7 hown hE.1 hP 27 rfl rfl 3 (Nat.le_of_ble_eq_true rfl) (va_Nw.use rfl (hE.2 _ k_219)) (fun _ h9 => h9) rfl dX1_passDay_7 ?_
      refine tI (y := (v 31)) hq31_v1 ?_
      have b31_v : 0 ≤ (v 31).toInt ∧ (v 31).toInt ≤ 6 := Xb_31 hIv
      refine lv_icmp_ge (tgt := 46) hx hb dX1_passDay_10 rfl (fun c2 => ?_) (fun c2 => ?_)
      · skip
        refine lv_aload_n hx hb dX1_passDay_46 rfl (lv_at hl 1 rfl) ?_
        refine va_get (D := (dC, dI)) (ci := 1) (v := .ref (x 28)) (C := RX1) (T := TX1) (N := 2) hx hb hts inB_1 hown hE.1 hP 28 rfl rfl 1 (Nat.le_of_ble_eq_true rfl) (hts _ k_319) (fun _ h9 => h9) rfl dX1_passDay_47 ?_
        refine lv_bipush (v := 43) hx hb dX1_passDay_50 rfl ?_
        refine lv_aload_n hx hb dX1_passDay_52 rfl (lv_at hl 1 rfl) ?_
        refine va_get (D := (dC, dI)) (ci := 1) (v := .ref (x 28)) (C := RX1) (T := TX1) (N := 2) hx hb hts inB_1 hown hE.1 hP 28 rfl rfl 1 (Nat.le_of_ble_eq_true rfl) (hts _ k_319) (fun _ h9 => h9) rfl dX1_passDay_53 ?_
        refine lv_bipush (v := 43) hx hb dX1_passDay_56 rfl ?_
        refine ldI hx hb hE hP 29 rfl (vp_in_nI (n := 43) (by decide) (by decide)) rfl rfl dX1_passDay_58 ?_
        refine lv_topi (fun t5 et5 => ?_)
        refine lv_sipush (v := 137) hx hb dX1_passDay_59 rfl ?_
        refine lv_imul hx hb dX1_passDay_62 ?_
        refine lv_topi (fun t6 et6 => ?_)
        refine lv_bipush (v := 71) hx hb dX1_passDay_63 rfl ?_
        refine lv_iadd hx hb dX1_passDay_65 ?_
        refine lv_topi (fun t7 et7 => ?_)
        refine lv_sipush (v := 1000) hx hb dX1_passDay_66 rfl ?_
        refine lv_irem hx hb dX1_passDay_69 (by decide) ?_
        refine lv_topi (fun t8 et8 => ?_)
        refine stI hx hb hE hP hD hS 29 rfl (vp_in_nI (n := 43) (by decide) (by decide)) rfl dX1_passDay_70 (fun H locs hP hD hS => ?_)
        obtain ⟨f9, ef9, hP, hD⟩ : ∃ fz9, fz9 = upd2 f1 18 (upd (f1 18) (43 : Int32).toNatClampNeg t8) ∧ va_P (dC, dI) vwCl (XW cy x0 x v1 fz9) H ∧ va_D A (XW cy x0 x v1 fz9) := ⟨_, rfl, hP, hD⟩
        have hA_f9 : KF [13, 14, 18] f9 f := by rw [ef9]; exact KF.up hA_f1 rfl
        refine lv_aload_n hx hb dX1_passDay_71 rfl (lv_at hl 1 rfl) ?_
        refine va_get (D := (dC, dI)) (ci := 1) (v := .ref (x 28)) (C := RX1) (T := TX1) (N := 2) hx hb hts inB_1 hown hE.1 hP 28 rfl rfl 1 (Nat.le_of_ble_eq_true rfl) (hts _ k_319) (fun _ h9 => h9) rfl dX1_passDay_72 ?_
        refine lv_bipush (v := 43) hx hb dX1_passDay_75 rfl ?_
        refine ldI hx hb hE hP 29 rfl (vp_in_nI (n := 43) (by decide) (by decide)) rfl rfl dX1_passDay_77 ?_
        refine lv_topi (fun t10 et10 => ?_)
        refine lv_bipush (v := 100) hx hb dX1_passDay_78 rfl ?_
        refine lv_irem hx hb dX1_passDay_80 (by decide) ?_
        refine lv_topi (fun t11 et11 => ?_)
        refine lv_iload_n hx hb dX1_passDay_81 rfl (lv_at hl 2 rfl) ?_
        refine lv_icmp_ge (tgt := 89) hx hb dX1_passDay_82 rfl (fun c12 => ?_) (fun c12 => ?_)
        · skip
          refine lv_iconst (v := 0) hx hb dX1_passDay_89 rfl ?_
          refine lv_istore_n (lv' := [(2, .int 0), (0, .ref (x 27)), (1, .int p1)]) hx hb dX1_passDay_90 rfl hl (Nat.le_of_ble_eq_true rfl) rfl (fun ls hl => ?_)
          refine lv_iconst (v := 0) hx hb dX1_passDay_91 rfl ?_
          refine lv_istore_n (lv' := [(3, .int 0), (2, .int 0), (0, .ref (x 27)), (1, .int p1)]) hx hb dX1_passDay_92 rfl hl (Nat.le_of_ble_eq_true rfl) rfl (fun ls hl => ?_)
          have lp15 : ∀ (n15 : Nat) (l3_15 : Int32) (v15 : Nat → Int32) (f15 : Nat → Nat → Int32), XI v15 → v15 0 = (v 0) → v15 1 = (v 1) → v15 7 = (v 7) → v15 8 = (v 8) → v15 9 = (v 9) → v15 10 = (v 10) → v15 31 = (v 31) → v15 32 = (v 32) → gsX_X1_passDay_2_L15 NF v n15 l3_15 v15 f15 = (gsX_X1_passDay_2 NF p1 v f) → ((0 : Int) ≤ l3_15.toInt ∧ l3_15.toInt ≤ 2147483647) → KV [] v15 v → KF [13, 14, 18] f15 f → (2147483647 - l3_15.toInt).toNat < n15 → ∀ (H : Heap) (locs : List Loc) (ls : Array Slot), va_P (dC, dI) vwCl (XW cy x0 x v15 f15) H → va_D A (XW cy x0 x v15 f15) → va_S A s.heap H locs → lv_has ls 5 [(3, .int l3_15), (2, .int 0), (0, .ref (x 27)), (1, .int p1)] → W p l e { frames := 5, cells := 0, slots := 0, locals := 155 } s m ([.ref (x 27), .int p1] : List Value).toArray below meth c H locs 0 0 Q (F0 m 93 ls []) := by
            intro n15
            induction n15 with
            | zero => intro l3_15 v15 f15 hIv15 hq0_v15 hq1_v15 hq7_v15 hq8_v15 hq9_v15 hq10_v15 hq31_v15 hq32_v15 hT15 hr3_15 hM_v15 hA_f15 hm; exact absurd hm (Nat.not_lt_zero _)
            | succ n15 ih15 =>
              intro l3_15 v15 f15 hIv15 hq0_v15 hq1_v15 hq7_v15 hq8_v15 hq9_v15 hq10_v15 hq31_v15 hq32_v15 hT15 hr3_15 hM_v15 hA_f15 hm15 H locs ls hP hD hS hl
              refine lv_iload_n hx hb dX1_passDay_93 rfl (lv_at hl 0 rfl) ?_
              refine lv_aload_n hx hb dX1_passDay_94 rfl (lv_at hl 2 rfl) ?_
              refine va_get (D := (dC, dI)) (ci := 1) (v := .ref (x 26)) (C := RX1) (T := TX1) (N := 2) hx hb hts inB_1 hown hE.1 hP 28 rfl rfl 0 (Nat.le_of_ble_eq_true rfl) (hts _ k_318) (fun _ h9 => h9) rfl dX1_passDay_95 ?_
              refine va_getN (D := (dC, dI)) (ci := 7) (v := .int (v15 31)) (C := RX7) (T := TX7) (N := 10) hx hb hts inB_7 hown hE.1 hP 27 rfl rfl 3 (Nat.le_of_ble_eq_true rfl) (va_Nw.use rfl (hE.2 _ k_219)) (fun _ h9 => h9) rfl dX1_passDay_98 ?_
              refine tI (y := (v 31)) hq31_v15 ?_
              have b31_v : 0 ≤ (v 31).toInt ∧ (v 31).toInt ≤ 6 := Xb_31 hIv
              refine lv_icmp_ge (tgt := 120) hx hb dX1_passDay_101 rfl (fun c16 => ?_) (fun c16 => ?_)
              · skip
                refine lv_aload_n hx hb dX1_passDay_120 rfl (lv_at hl 2 rfl) ?_
                refine va_get (D := (dC, dI)) (ci := 1) (v := .ref (x 28)) (C := RX1) (T := TX1) (N := 2) hx hb hts inB_1 hown hE.1 hP 28 rfl rfl 1 (Nat.le_of_ble_eq_true rfl) (hts _ k_319) (fun _ h9 => h9) rfl dX1_passDay_121 ?_
                refine lv_bipush (v := 42) hx hb dX1_passDay_124 rfl ?_
                refine lv_dup2_11 hx hb dX1_passDay_126 rfl rfl ?_
                refine ldI hx hb hE hP 29 rfl (vp_in_nI (n := 42) (by decide) (by decide)) rfl rfl dX1_passDay_127 ?_
                refine lv_topi (fun t18 et18 => ?_)
                refine lv_iconst (v := 1) hx hb dX1_passDay_128 rfl ?_
                refine lv_iadd hx hb dX1_passDay_129 ?_
                refine lv_topi (fun t19 et19 => ?_)
                refine stI hx hb hE hP hD hS 29 rfl (vp_in_nI (n := 42) (by decide) (by decide)) rfl dX1_passDay_130 (fun H locs hP hD hS => ?_)
                obtain ⟨f20, ef20, hP, hD⟩ : ∃ fz9, fz9 = upd2 f15 18 (upd (f15 18) (42 : Int32).toNatClampNeg t19) ∧ va_P (dC, dI) vwCl (XW cy x0 x v15 fz9) H ∧ va_D A (XW cy x0 x v15 fz9) := ⟨_, rfl, hP, hD⟩
                have hA_f20 : KF [13, 14, 18] f20 f := by rw [ef20]; exact KF.up hA_f15 rfl
                refine lv_iconst (v := 0) hx hb dX1_passDay_131 rfl ?_
                refine lv_istore_n (lv' := [(3, .int 0), (2, .int 0), (0, .ref (x 27)), (1, .int p1)]) hx hb dX1_passDay_132 rfl hl (Nat.le_of_ble_eq_true rfl) rfl (fun ls hl => ?_)
                refine lv_iconst (v := 0) hx hb dX1_passDay_133 rfl ?_
                refine lv_istore (lv' := [(4, .int 0), (3, .int 0), (2, .int 0), (0, .ref (x 27)), (1, .int p1)]) hx hb dX1_passDay_134 hl (Nat.le_of_ble_eq_true rfl) rfl (fun ls hl => ?_)
                have lp21 : ∀ (n21 : Nat) (l3_21 : Int32) (l4_21 : Int32) (v21 : Nat → Int32) (f21 : Nat → Nat → Int32), XI v21 → v21 0 = (v 0) → v21 1 = (v 1) → v21 7 = (v 7) → v21 8 = (v 8) → v21 9 = (v 9) → v21 10 = (v 10) → v21 31 = (v 31) → v21 32 = (v 32) → gsX_X1_passDay_2_L21 NF v n21 l3_21 l4_21 v21 f21 = (gsX_X1_passDay_2 NF p1 v f) → ((0 : Int) ≤ l4_21.toInt ∧ l4_21.toInt ≤ 2147483647) → KV [] v21 v → KF [13, 14, 18] f21 f → (2147483647 - l4_21.toInt).toNat < n21 → ∀ (H : Heap) (locs : List Loc) (ls : Array Slot), va_P (dC, dI) vwCl (XW cy x0 x v21 f21) H → va_D A (XW cy x0 x v21 f21) → va_S A s.heap H locs → lv_has ls 5 [(4, .int l4_21), (3, .int l3_21), (2, .int 0), (0, .ref (x 27)), (1, .int p1)] → W p l e { frames := 5, cells := 0, slots := 0, locals := 155 } s m ([.ref (x 27), .int p1] : List Value).toArray below meth c H locs 0 0 Q (F0 m 136 ls []) := by
                  intro n21
                  induction n21 with
                  | zero => intro l3_21 l4_21 v21 f21 hIv21 hq0_v21 hq1_v21 hq7_v21 hq8_v21 hq9_v21 hq10_v21 hq31_v21 hq32_v21 hT21 hr4_21 hM_v21 hA_f21 hm; exact absurd hm (Nat.not_lt_zero _)
                  | succ n21 ih21 =>
                    intro l3_21 l4_21 v21 f21 hIv21 hq0_v21 hq1_v21 hq7_v21 hq8_v21 hq9_v21 hq10_v21 hq31_v21 hq32_v21 hT21 hr4_21 hM_v21 hA_f21 hm21 H locs ls hP hD hS hl
                    refine lv_iload hx hb dX1_passDay_136 (lv_at hl 0 rfl) ?_
                    refine lv_aload_n hx hb dX1_passDay_138 rfl (lv_at hl 3 rfl) ?_
                    refine va_get (D := (dC, dI)) (ci := 1) (v := .ref (x 26)) (C := RX1) (T := TX1) (N := 2) hx hb hts inB_1 hown hE.1 hP 28 rfl rfl 0 (Nat.le_of_ble_eq_true rfl) (hts _ k_318) (fun _ h9 => h9) rfl dX1_passDay_139 ?_
                    refine va_getN (D := (dC, dI)) (ci := 7) (v := .int (v21 31)) (C := RX7) (T := TX7) (N := 10) hx hb hts inB_7 hown hE.1 hP 27 rfl rfl 3 (Nat.le_of_ble_eq_true rfl) (va_Nw.use rfl (hE.2 _ k_219)) (fun _ h9 => h9) rfl dX1_passDay_142 ?_
                    refine tI (y := (v 31)) hq31_v21 ?_
                    have b31_v : 0 ≤ (v 31).toInt ∧ (v 31).toInt ≤ 6 := Xb_31 hIv
                    refine lv_icmp_ge (tgt := 193) hx hb dX1_passDay_145 rfl (fun c22 => ?_) (fun c22 => ?_)
                    · skip
                      refine lv_iload_n hx hb dX1_passDay_193 rfl (lv_at hl 1 rfl) ?_
                      exact ret l3_21 (v21, f21) _ _ _ _ _ _ rfl ⟨(hT21.symm.trans (gsX_X1_passDay_2_q0 c22)), hM_v21, hA_f21, hIv21, hq0_v21, hq1_v21, hq7_v21, hq8_v21, hq9_v21, hq10_v21, hq31_v21, hq32_v21⟩ hP hD hS dX1_passDay_194 (Nat.le_refl _) (Nat.le_refl _)
                    · skip
                      have zc22 : ¬ ((v 31).toInt ≤ l4_21.toInt) := zMn rfl rfl c22
                      refine lv_aload_n hx hb dX1_passDay_148 rfl (lv_at hl 3 rfl) ?_
                      refine lv_iload hx hb dX1_passDay_149 (lv_at hl 0 rfl) ?_
                      refine cbVi (n := 1) (rest := []) hx hb hml hown hts hE hP hD hS hA (sX_X1_wears_2 NF l dC dI cy x0 x l4_21 v21 f21 hIv21 ) k_853 k_810 k_811 k_106 k_812 hd_yX1_wears ⟨Nat.le_of_ble_eq_true rfl, Nat.le_of_ble_eq_true rfl⟩ 28 1 rfl rfl (rfl) hl.1 rfl (Nat.le_of_ble_eq_true rfl) dX1_passDay_151 (fun r25 u H locs hw hP hD hS => ?_)
                      have hG26 := hw
                      refine lv_iconst (v := (-1)) hx hb dX1_passDay_154 rfl ?_
                      refine lv_icmp_eq (tgt := 187) hx hb dX1_passDay_155 rfl (fun c27 => ?_) (fun c27 => ?_)
                      · skip
                        obtain ⟨t28, et28⟩ : ∃ y : Int32, y = l4_21 + 1 := ⟨_, rfl⟩
                        have zt28 : t28.toInt = l4_21.toInt + 1 := (congrArg Int32.toInt et28).trans (add_i rfl tc_1 (om_41 hr4_21) (om_187 b31_v zc22))
                        refine lv_iinc (v := t28) (lv' := [(4, .int t28), (3, .int l3_21), (2, .int 0), (0, .ref (x 27)), (1, .int p1)]) hx hb dX1_passDay_187 hl (k := 0) rfl et28.symm (Nat.le_of_ble_eq_true rfl) rfl (fun ls hl => ?_)
                        refine lv_goto (tgt := 136) hx hb dX1_passDay_190 rfl ?_
                        have rg29 := fb_rng t28
                        exact ih21 l3_21 t28 v21 f21 hIv21 hq0_v21 hq1_v21 hq7_v21 hq8_v21 hq9_v21 hq10_v21 hq31_v21 hq32_v21 ((gsX_X1_passDay_2_q1 c22 hG26.symm c27 et28).symm.trans hT21) ⟨show (0 : Int) ≤ t28.toInt from om_43 hr4_21 zt28, show t28.toInt ≤ (2147483647 : Int) from om_44 rg29⟩ hM_v21 hA_f21 (show (2147483647 - t28.toInt).toNat < n21 from om_33 hm21 zt28 rg29) _ _ _ hP hD hS (lv_sub hl [0, 1, 2, 3, 4] rfl)
                      · skip
                        refine lv_aload_n hx hb dX1_passDay_158 rfl (lv_at hl 3 rfl) ?_
                        refine lv_iload hx hb dX1_passDay_159 (lv_at hl 0 rfl) ?_
                        refine lv_aload_n hx hb dX1_passDay_161 rfl (lv_at hl 3 rfl) ?_
                        refine lv_iload hx hb dX1_passDay_162 (lv_at hl 0 rfl) ?_
                        refine cbVi (n := 1) (rest := [.int l4_21, .ref (x 27)]) hx hb hml hown hts hE hP hD hS hA (sX_X1_wears_2 NF l dC dI cy x0 x l4_21 v21 f21 hIv21 ) k_853 k_810 k_811 k_106 k_812 hd_yX1_wears ⟨Nat.le_of_ble_eq_true rfl, Nat.le_of_ble_eq_true rfl⟩ 28 1 rfl rfl (rfl) hl.1 rfl (Nat.le_of_ble_eq_true rfl) dX1_passDay_164 (fun r30 u H locs hw hP hD hS => ?_)
                        have hG31 := hw
                        refine cbVi (n := 2) (rest := []) hx hb hml hown hts hE hP hD hS hA (sX_X1_fits_2 NF l dC dI cy x0 x l4_21 r30 v21 f21 hIv21 ) k_817 k_818 k_819 k_106 k_820 hd_yX1_fits ⟨Nat.le_of_ble_eq_true rfl, Nat.le_of_ble_eq_true rfl⟩ 28 1 rfl rfl (rfl) hl.1 rfl (Nat.le_of_ble_eq_true rfl) dX1_passDay_167 (fun r32 u H locs hw hP hD hS => ?_)
                        obtain ⟨hG33, hw⟩ := hw
                        obtain ⟨v34, f35⟩ := u
                        obtain ⟨kV_v34, kF_f35, hIv34, hk0_v34, hk1_v34, hk7_v34, hk8_v34, hk9_v34, hk10_v34, hk31_v34, hk32_v34, hw⟩ := hw
                        have hM_v34 : KV [] v34 v := KV.tr kV_v34 hM_v21 rfl
                        have hA_f35 : KF [13, 14, 18] f35 f := KF.tr kF_f35 hA_f21 rfl
                        have hP : va_P (dC, dI) vwCl (XW cy x0 x v34 f35) H := hP
                        have hD : va_D A (XW cy x0 x v34 f35) := hD
                        have hq0_v34 : v34 0 = (v 0) := hk0_v34.trans hq0_v21
                        have hq1_v34 : v34 1 = (v 1) := hk1_v34.trans hq1_v21
                        have hq7_v34 : v34 7 = (v 7) := hk7_v34.trans hq7_v21
                        have hq8_v34 : v34 8 = (v 8) := hk8_v34.trans hq8_v21
                        have hq9_v34 : v34 9 = (v 9) := hk9_v34.trans hq9_v21
                        have hq10_v34 : v34 10 = (v 10) := hk10_v34.trans hq10_v21
                        have hq31_v34 : v34 31 = (v 31) := hk31_v34.trans hq31_v21
                        have hq32_v34 : v34 32 = (v 32) := hk32_v34.trans hq32_v21
                        rcases hw with ⟨g36⟩ | ⟨g36⟩
                        · skip
                          subst g36
                          refine lv_if_ne (tgt := 187) hx hb dX1_passDay_170 rfl (fun _ => ?_) (fun c0 => absurd c0 (by decide))
                          obtain ⟨t37, et37⟩ : ∃ y : Int32, y = l4_21 + 1 := ⟨_, rfl⟩
                          have zt37 : t37.toInt = l4_21.toInt + 1 := (congrArg Int32.toInt et37).trans (add_i rfl tc_1 (om_41 hr4_21) (om_187 b31_v zc22))
                          refine lv_iinc (v := t37) (lv' := [(4, .int t37), (3, .int l3_21), (2, .int 0), (0, .ref (x 27)), (1, .int p1)]) hx hb dX1_passDay_187 hl (k := 0) rfl et37.symm (Nat.le_of_ble_eq_true rfl) rfl (fun ls hl => ?_)
                          refine lv_goto (tgt := 136) hx hb dX1_passDay_190 rfl ?_
                          have rg38 := fb_rng t37
                          exact ih21 l3_21 t37 v34 f35 hIv34 hq0_v34 hq1_v34 hq7_v34 hq8_v34 hq9_v34 hq10_v34 hq31_v34 hq32_v34 ((gsX_X1_passDay_2_q2 c22 hG26.symm c27 hG31.symm hG33 et37).symm.trans hT21) ⟨show (0 : Int) ≤ t37.toInt from om_43 hr4_21 zt37, show t37.toInt ≤ (2147483647 : Int) from om_44 rg38⟩ hM_v34 hA_f35 (show (2147483647 - t37.toInt).toNat < n21 from om_33 hm21 zt37 rg38) _ _ _ hP hD hS (lv_sub hl [0, 1, 2, 3, 4] rfl)
                        · skip
                          subst g36
                          refine lv_if_ne (tgt := 187) hx hb dX1_passDay_170 rfl (fun c0 => absurd (by decide) c0) (fun _ => ?_)
                          refine lv_aload_n hx hb dX1_passDay_173 rfl (lv_at hl 3 rfl) ?_
                          refine lv_iload hx hb dX1_passDay_174 (lv_at hl 0 rfl) ?_
                          refine lv_iconst (v := (-1)) hx hb dX1_passDay_176 rfl ?_
                          refine cbVv (n := 2) (rest := []) hx hb hml hown hts hE hP hD hS hA (sX_X1_setWears_2 NF l dC dI cy x0 x l4_21 (-1) v34 f35 hIv34 ) k_879 k_880 k_881 k_106 k_882 hd_yX1_setWears ⟨Nat.le_of_ble_eq_true rfl, Nat.le_of_ble_eq_true rfl⟩ 28 1 rfl rfl (rfl) hl.1 rfl (Nat.le_of_ble_eq_true rfl) dX1_passDay_177 (fun u H locs hw hP hD hS => ?_)
                          obtain ⟨hG39, hw⟩ := hw
                          obtain ⟨v40, f41⟩ := u
                          obtain ⟨kV_v40, kF_f41, hIv40, hk0_v40, hk1_v40, hk7_v40, hk8_v40, hk9_v40, hk10_v40, hk31_v40, hk32_v40⟩ := hw
                          have hM_v40 : KV [] v40 v := KV.tr kV_v40 hM_v34 rfl
                          have hA_f41 : KF [13, 14, 18] f41 f := KF.tr kF_f41 hA_f35 rfl
                          have hP : va_P (dC, dI) vwCl (XW cy x0 x v40 f41) H := hP
                          have hD : va_D A (XW cy x0 x v40 f41) := hD
                          have hq0_v40 : v40 0 = (v 0) := hk0_v40.trans hq0_v34
                          have hq1_v40 : v40 1 = (v 1) := hk1_v40.trans hq1_v34
                          have hq7_v40 : v40 7 = (v 7) := hk7_v40.trans hq7_v34
                          have hq8_v40 : v40 8 = (v 8) := hk8_v40.trans hq8_v34
                          have hq9_v40 : v40 9 = (v 9) := hk9_v40.trans hq9_v34
                          have hq10_v40 : v40 10 = (v 10) := hk10_v40.trans hq10_v34
                          have hq31_v40 : v40 31 = (v 31) := hk31_v40.trans hq31_v34
                          have hq32_v40 : v40 32 = (v 32) := hk32_v40.trans hq32_v34
                          refine lv_iload_n hx hb dX1_passDay_180 rfl (lv_at hl 1 rfl) ?_
                          refine lv_iconst (v := 1) hx hb dX1_passDay_181 rfl ?_
                          refine lv_iload hx hb dX1_passDay_182 (lv_at hl 0 rfl) ?_
                          refine lv_ishl hx hb dX1_passDay_184 ?_
                          refine lv_topi (fun t42 et42 => ?_)
                          refine lv_ior hx hb dX1_passDay_185 ?_
                          refine lv_topi (fun t43 et43 => ?_)
                          refine lv_istore_n (lv' := [(3, .int t43), (4, .int l4_21), (2, .int 0), (0, .ref (x 27)), (1, .int p1)]) hx hb dX1_passDay_186 rfl hl (Nat.le_of_ble_eq_true rfl) rfl (fun ls hl => ?_)
                          obtain ⟨t44, et44⟩ : ∃ y : Int32, y = l4_21 + 1 := ⟨_, rfl⟩
                          have zt44 : t44.toInt = l4_21.toInt + 1 := (congrArg Int32.toInt et44).trans (add_i rfl tc_1 (om_41 hr4_21) (om_187 b31_v zc22))
                          refine lv_iinc (v := t44) (lv' := [(4, .int t44), (3, .int t43), (2, .int 0), (0, .ref (x 27)), (1, .int p1)]) hx hb dX1_passDay_187 hl (k := 1) rfl et44.symm (Nat.le_of_ble_eq_true rfl) rfl (fun ls hl => ?_)
                          refine lv_goto (tgt := 136) hx hb dX1_passDay_190 rfl ?_
                          have rg45 := fb_rng t44
                          exact ih21 t43 t44 v40 f41 hIv40 hq0_v40 hq1_v40 hq7_v40 hq8_v40 hq9_v40 hq10_v40 hq31_v40 hq32_v40 ((gsX_X1_passDay_2_q3 c22 hG26.symm c27 hG31.symm hG33 hG39 et42 et43 et44).symm.trans hT21) ⟨show (0 : Int) ≤ t44.toInt from om_43 hr4_21 zt44, show t44.toInt ≤ (2147483647 : Int) from om_44 rg45⟩ hM_v40 hA_f41 (show (2147483647 - t44.toInt).toNat < n21 from om_33 hm21 zt44 rg45) _ _ _ hP hD hS (lv_sub hl [0, 1, 2, 3, 4] rfl)
                exact lp21 (4294967296 + NF) 0 0 v15 f20 hIv15 hq0_v15 hq1_v15 hq7_v15 hq8_v15 hq9_v15 hq10_v15 hq31_v15 hq32_v15 ((gsX_X1_passDay_2_q4 c16 et18 et19 ef20).symm.trans hT15) ⟨by decide, by decide⟩ hM_v15 hA_f20 (show (2147483647 - (0 : Int32).toInt).toNat < 4294967296 + NF from om_38 tc_0) _ _ _ hP hD hS (lv_sub hl [0, 1, 2, 3, 4] rfl)
              · skip
                have zc16 : ¬ ((v 31).toInt ≤ l3_15.toInt) := zMn rfl rfl c16
                refine lv_aload_n hx hb dX1_passDay_104 rfl (lv_at hl 2 rfl) ?_
                refine lv_aload_n hx hb dX1_passDay_105 rfl (lv_at hl 2 rfl) ?_
                refine lv_iload_n hx hb dX1_passDay_106 rfl (lv_at hl 0 rfl) ?_
                refine cbVi (n := 1) (rest := [.ref (x 27)]) hx hb hml hown hts hE hP hD hS hA (sX_X1_wears_2 NF l dC dI cy x0 x l3_15 v15 f15 hIv15 ) k_853 k_810 k_811 k_106 k_812 hd_yX1_wears ⟨Nat.le_of_ble_eq_true rfl, Nat.le_of_ble_eq_true rfl⟩ 28 1 rfl rfl (rfl) hl.1 rfl (Nat.le_of_ble_eq_true rfl) dX1_passDay_107 (fun r47 u H locs hw hP hD hS => ?_)
                have hG48 := hw
                refine lv_iload_n hx hb dX1_passDay_110 rfl (lv_at hl 1 rfl) ?_
                refine cbVv (n := 2) (rest := []) hx hb hml hown hts hE hP hD hS hA (sX_X1_weather_2 NF l dC dI cy x0 x r47 0 v15 f15 hIv15 ) k_870 k_872 k_20 k_106 k_873 hd_yX1_weather ⟨Nat.le_of_ble_eq_true rfl, Nat.le_of_ble_eq_true rfl⟩ 28 1 rfl rfl (rfl) hl.1 rfl (Nat.le_of_ble_eq_true rfl) dX1_passDay_111 (fun u H locs hw hP hD hS => ?_)
                obtain ⟨hG49, hw⟩ := hw
                obtain ⟨v50, f51⟩ := u
                obtain ⟨kV_v50, kF_f51, hIv50, hk0_v50, hk1_v50, hk7_v50, hk8_v50, hk9_v50, hk10_v50, hk31_v50, hk32_v50⟩ := hw
                have hM_v50 : KV [] v50 v := KV.tr kV_v50 hM_v15 rfl
                have hA_f51 : KF [13, 14, 18] f51 f := KF.tr kF_f51 hA_f15 rfl
                have hP : va_P (dC, dI) vwCl (XW cy x0 x v50 f51) H := hP
                have hD : va_D A (XW cy x0 x v50 f51) := hD
                have hq0_v50 : v50 0 = (v 0) := hk0_v50.trans hq0_v15
                have hq1_v50 : v50 1 = (v 1) := hk1_v50.trans hq1_v15
                have hq7_v50 : v50 7 = (v 7) := hk7_v50.trans hq7_v15
                have hq8_v50 : v50 8 = (v 8) := hk8_v50.trans hq8_v15
                have hq9_v50 : v50 9 = (v 9) := hk9_v50.trans hq9_v15
                have hq10_v50 : v50 10 = (v 10) := hk10_v50.trans hq10_v15
                have hq31_v50 : v50 31 = (v 31) := hk31_v50.trans hq31_v15
                have hq32_v50 : v50 32 = (v 32) := hk32_v50.trans hq32_v15
                obtain ⟨t52, et52⟩ : ∃ y : Int32, y = l3_15 + 1 := ⟨_, rfl⟩
                have zt52 : t52.toInt = l3_15.toInt + 1 := (congrArg Int32.toInt et52).trans (add_i rfl tc_1 (om_41 hr3_15) (om_187 b31_v zc16))
                refine lv_iinc (v := t52) (lv' := [(3, .int t52), (2, .int 0), (0, .ref (x 27)), (1, .int p1)]) hx hb dX1_passDay_114 hl (k := 0) rfl et52.symm (Nat.le_of_ble_eq_true rfl) rfl (fun ls hl => ?_)
                refine lv_goto (tgt := 93) hx hb dX1_passDay_117 rfl ?_
                have rg53 := fb_rng t52
                exact ih15 t52 v50 f51 hIv50 hq0_v50 hq1_v50 hq7_v50 hq8_v50 hq9_v50 hq10_v50 hq31_v50 hq32_v50 ((gsX_X1_passDay_2_q5 c16 hG48.symm hG49 et52).symm.trans hT15) ⟨show (0 : Int) ≤ t52.toInt from om_43 hr3_15 zt52, show t52.toInt ≤ (2147483647 : Int) from om_44 rg53⟩ hM_v50 hA_f51 (show (2147483647 - t52.toInt).toNat < n15 from om_33 hm15 zt52 rg53) _ _ _ hP hD hS (lv_sub hl [0, 1, 2, 3] rfl)
          exact lp15 (4294967296 + NF) 0 v1 f9 hIv1 hq0_v1 hq1_v1 hq7_v1 hq8_v1 hq9_v1 hq10_v1 hq31_v1 hq32_v1 ((gsX_X1_passDay_2_q6 c2 et5 et6 et7 et8 ef9 et10 et11 c12).symm.trans hT1) ⟨by decide, by decide⟩ hM_v1 hA_f9 (show (2147483647 - (0 : Int32).toInt).toNat < 4294967296 + NF from om_38 tc_0) _ _ _ hP hD hS (lv_sub hl [0, 1, 2, 3] rfl)
        · skip
          refine lv_iconst (v := 1) hx hb dX1_passDay_85 rfl ?_
          refine lv_goto (tgt := 90) hx hb dX1_passDay_86 rfl ?_
          refine lv_istore_n (lv' := [(2, .int 1), (0, .ref (x 27)), (1, .int p1)]) hx hb dX1_passDay_90 rfl hl (Nat.le_of_ble_eq_true rfl) rfl (fun ls hl => ?_)
          refine lv_iconst (v := 0) hx hb dX1_passDay_91 rfl ?_
          refine lv_istore_n (lv' := [(3, .int 0), (2, .int 1), (0, .ref (x 27)), (1, .int p1)]) hx hb dX1_passDay_92 rfl hl (Nat.le_of_ble_eq_true rfl) rfl (fun ls hl => ?_)
          have lp56 : ∀ (n56 : Nat) (l3_56 : Int32) (v56 : Nat → Int32) (f56 : Nat → Nat → Int32), XI v56 → v56 0 = (v 0) → v56 1 = (v 1) → v56 7 = (v 7) → v56 8 = (v 8) → v56 9 = (v 9) → v56 10 = (v 10) → v56 31 = (v 31) → v56 32 = (v 32) → gsX_X1_passDay_2_L56 NF v n56 l3_56 v56 f56 = (gsX_X1_passDay_2 NF p1 v f) → ((0 : Int) ≤ l3_56.toInt ∧ l3_56.toInt ≤ 2147483647) → KV [] v56 v → KF [13, 14, 18] f56 f → (2147483647 - l3_56.toInt).toNat < n56 → ∀ (H : Heap) (locs : List Loc) (ls : Array Slot), va_P (dC, dI) vwCl (XW cy x0 x v56 f56) H → va_D A (XW cy x0 x v56 f56) → va_S A s.heap H locs → lv_has ls 5 [(3, .int l3_56), (2, .int 1), (0, .ref (x 27)), (1, .int p1)] → W p l e { frames := 5, cells := 0, slots := 0, locals := 155 } s m ([.ref (x 27), .int p1] : List Value).toArray below meth c H locs 0 0 Q (F0 m 93 ls []) := by
            intro n56
            induction n56 with
            | zero => intro l3_56 v56 f56 hIv56 hq0_v56 hq1_v56 hq7_v56 hq8_v56 hq9_v56 hq10_v56 hq31_v56 hq32_v56 hT56 hr3_56 hM_v56 hA_f56 hm; exact absurd hm (Nat.not_lt_zero _)
            | succ n56 ih56 =>
              intro l3_56 v56 f56 hIv56 hq0_v56 hq1_v56 hq7_v56 hq8_v56 hq9_v56 hq10_v56 hq31_v56 hq32_v56 hT56 hr3_56 hM_v56 hA_f56 hm56 H locs ls hP hD hS hl
              refine lv_iload_n hx hb dX1_passDay_93 rfl (lv_at hl 0 rfl) ?_
              refine lv_aload_n hx hb dX1_passDay_94 rfl (lv_at hl 2 rfl) ?_
              refine va_get (D := (dC, dI)) (ci := 1) (v := .ref (x 26)) (C := RX1) (T := TX1) (N := 2) hx hb hts inB_1 hown hE.1 hP 28 rfl rfl 0 (Nat.le_of_ble_eq_true rfl) (hts _ k_318) (fun _ h9 => h9) rfl dX1_passDay_95 ?_
              refine va_getN (D := (dC, dI)) (ci := 7) (v := .int (v56 31)) (C := RX7) (T := TX7) (N := 10) hx hb hts inB_7 hown hE.1 hP 27 rfl rfl 3 (Nat.le_of_ble_eq_true rfl) (va_Nw.use rfl (hE.2 _ k_219)) (fun _ h9 => h9) rfl dX1_passDay_98 ?_
              refine tI (y := (v 31)) hq31_v56 ?_
              have b31_v : 0 ≤ (v 31).toInt ∧ (v 31).toInt ≤ 6 := Xb_31 hIv
              refine lv_icmp_ge (tgt := 120) hx hb dX1_passDay_101 rfl (fun c57 => ?_) (fun c57 => ?_)
              · skip
                refine lv_aload_n hx hb dX1_passDay_120 rfl (lv_at hl 2 rfl) ?_
                refine va_get (D := (dC, dI)) (ci := 1) (v := .ref (x 28)) (C := RX1) (T := TX1) (N := 2) hx hb hts inB_1 hown hE.1 hP 28 rfl rfl 1 (Nat.le_of_ble_eq_true rfl) (hts _ k_319) (fun _ h9 => h9) rfl dX1_passDay_121 ?_
                refine lv_bipush (v := 42) hx hb dX1_passDay_124 rfl ?_
                refine lv_dup2_11 hx hb dX1_passDay_126 rfl rfl ?_
                refine ldI hx hb hE hP 29 rfl (vp_in_nI (n := 42) (by decide) (by decide)) rfl rfl dX1_passDay_127 ?_
                refine lv_topi (fun t59 et59 => ?_)
                refine lv_iconst (v := 1) hx hb dX1_passDay_128 rfl ?_
                refine lv_iadd hx hb dX1_passDay_129 ?_
                refine lv_topi (fun t60 et60 => ?_)
                refine stI hx hb hE hP hD hS 29 rfl (vp_in_nI (n := 42) (by decide) (by decide)) rfl dX1_passDay_130 (fun H locs hP hD hS => ?_)
                obtain ⟨f61, ef61, hP, hD⟩ : ∃ fz9, fz9 = upd2 f56 18 (upd (f56 18) (42 : Int32).toNatClampNeg t60) ∧ va_P (dC, dI) vwCl (XW cy x0 x v56 fz9) H ∧ va_D A (XW cy x0 x v56 fz9) := ⟨_, rfl, hP, hD⟩
                have hA_f61 : KF [13, 14, 18] f61 f := by rw [ef61]; exact KF.up hA_f56 rfl
                refine lv_iconst (v := 0) hx hb dX1_passDay_131 rfl ?_
                refine lv_istore_n (lv' := [(3, .int 0), (2, .int 1), (0, .ref (x 27)), (1, .int p1)]) hx hb dX1_passDay_132 rfl hl (Nat.le_of_ble_eq_true rfl) rfl (fun ls hl => ?_)
                refine lv_iconst (v := 0) hx hb dX1_passDay_133 rfl ?_
                refine lv_istore (lv' := [(4, .int 0), (3, .int 0), (2, .int 1), (0, .ref (x 27)), (1, .int p1)]) hx hb dX1_passDay_134 hl (Nat.le_of_ble_eq_true rfl) rfl (fun ls hl => ?_)
                have lp62 : ∀ (n62 : Nat) (l3_62 : Int32) (l4_62 : Int32) (v62 : Nat → Int32) (f62 : Nat → Nat → Int32), XI v62 → v62 0 = (v 0) → v62 1 = (v 1) → v62 7 = (v 7) → v62 8 = (v 8) → v62 9 = (v 9) → v62 10 = (v 10) → v62 31 = (v 31) → v62 32 = (v 32) → gsX_X1_passDay_2_L62 NF v n62 l3_62 l4_62 v62 f62 = (gsX_X1_passDay_2 NF p1 v f) → ((0 : Int) ≤ l4_62.toInt ∧ l4_62.toInt ≤ 2147483647) → KV [] v62 v → KF [13, 14, 18] f62 f → (2147483647 - l4_62.toInt).toNat < n62 → ∀ (H : Heap) (locs : List Loc) (ls : Array Slot), va_P (dC, dI) vwCl (XW cy x0 x v62 f62) H → va_D A (XW cy x0 x v62 f62) → va_S A s.heap H locs → lv_has ls 5 [(4, .int l4_62), (3, .int l3_62), (2, .int 1), (0, .ref (x 27)), (1, .int p1)] → W p l e { frames := 5, cells := 0, slots := 0, locals := 155 } s m ([.ref (x 27), .int p1] : List Value).toArray below meth c H locs 0 0 Q (F0 m 136 ls []) := by
                  intro n62
                  induction n62 with
                  | zero => intro l3_62 l4_62 v62 f62 hIv62 hq0_v62 hq1_v62 hq7_v62 hq8_v62 hq9_v62 hq10_v62 hq31_v62 hq32_v62 hT62 hr4_62 hM_v62 hA_f62 hm; exact absurd hm (Nat.not_lt_zero _)
                  | succ n62 ih62 =>
                    intro l3_62 l4_62 v62 f62 hIv62 hq0_v62 hq1_v62 hq7_v62 hq8_v62 hq9_v62 hq10_v62 hq31_v62 hq32_v62 hT62 hr4_62 hM_v62 hA_f62 hm62 H locs ls hP hD hS hl
                    refine lv_iload hx hb dX1_passDay_136 (lv_at hl 0 rfl) ?_
                    refine lv_aload_n hx hb dX1_passDay_138 rfl (lv_at hl 3 rfl) ?_
                    refine va_get (D := (dC, dI)) (ci := 1) (v := .ref (x 26)) (C := RX1) (T := TX1) (N := 2) hx hb hts inB_1 hown hE.1 hP 28 rfl rfl 0 (Nat.le_of_ble_eq_true rfl) (hts _ k_318) (fun _ h9 => h9) rfl dX1_passDay_139 ?_
                    refine va_getN (D := (dC, dI)) (ci := 7) (v := .int (v62 31)) (C := RX7) (T := TX7) (N := 10) hx hb hts inB_7 hown hE.1 hP 27 rfl rfl 3 (Nat.le_of_ble_eq_true rfl) (va_Nw.use rfl (hE.2 _ k_219)) (fun _ h9 => h9) rfl dX1_passDay_142 ?_
                    refine tI (y := (v 31)) hq31_v62 ?_
                    have b31_v : 0 ≤ (v 31).toInt ∧ (v 31).toInt ≤ 6 := Xb_31 hIv
                    refine lv_icmp_ge (tgt := 193) hx hb dX1_passDay_145 rfl (fun c63 => ?_) (fun c63 => ?_)
                    · skip
                      refine lv_iload_n hx hb dX1_passDay_193 rfl (lv_at hl 1 rfl) ?_
                      exact ret l3_62 (v62, f62) _ _ _ _ _ _ rfl ⟨(hT62.symm.trans (gsX_X1_passDay_2_q7 c63)), hM_v62, hA_f62, hIv62, hq0_v62, hq1_v62, hq7_v62, hq8_v62, hq9_v62, hq10_v62, hq31_v62, hq32_v62⟩ hP hD hS dX1_passDay_194 (Nat.le_refl _) (Nat.le_refl _)
                    · skip
                      have zc63 : ¬ ((v 31).toInt ≤ l4_62.toInt) := zMn rfl rfl c63
                      refine lv_aload_n hx hb dX1_passDay_148 rfl (lv_at hl 3 rfl) ?_
                      refine lv_iload hx hb dX1_passDay_149 (lv_at hl 0 rfl) ?_
                      refine cbVi (n := 1) (rest := []) hx hb hml hown hts hE hP hD hS hA (sX_X1_wears_2 NF l dC dI cy x0 x l4_62 v62 f62 hIv62 ) k_853 k_810 k_811 k_106 k_812 hd_yX1_wears ⟨Nat.le_of_ble_eq_true rfl, Nat.le_of_ble_eq_true rfl⟩ 28 1 rfl rfl (rfl) hl.1 rfl (Nat.le_of_ble_eq_true rfl) dX1_passDay_151 (fun r66 u H locs hw hP hD hS => ?_)
                      have hG67 := hw
                      refine lv_iconst (v := (-1)) hx hb dX1_passDay_154 rfl ?_
                      refine lv_icmp_eq (tgt := 187) hx hb dX1_passDay_155 rfl (fun c68 => ?_) (fun c68 => ?_)
                      · skip
                        obtain ⟨t69, et69⟩ : ∃ y : Int32, y = l4_62 + 1 := ⟨_, rfl⟩
                        have zt69 : t69.toInt = l4_62.toInt + 1 := (congrArg Int32.toInt et69).trans (add_i rfl tc_1 (om_41 hr4_62) (om_187 b31_v zc63))
                        refine lv_iinc (v := t69) (lv' := [(4, .int t69), (3, .int l3_62), (2, .int 1), (0, .ref (x 27)), (1, .int p1)]) hx hb dX1_passDay_187 hl (k := 0) rfl et69.symm (Nat.le_of_ble_eq_true rfl) rfl (fun ls hl => ?_)
                        refine lv_goto (tgt := 136) hx hb dX1_passDay_190 rfl ?_
                        have rg70 := fb_rng t69
                        exact ih62 l3_62 t69 v62 f62 hIv62 hq0_v62 hq1_v62 hq7_v62 hq8_v62 hq9_v62 hq10_v62 hq31_v62 hq32_v62 ((gsX_X1_passDay_2_q8 c63 hG67.symm c68 et69).symm.trans hT62) ⟨show (0 : Int) ≤ t69.toInt from om_43 hr4_62 zt69, show t69.toInt ≤ (2147483647 : Int) from om_44 rg70⟩ hM_v62 hA_f62 (show (2147483647 - t69.toInt).toNat < n62 from om_33 hm62 zt69 rg70) _ _ _ hP hD hS (lv_sub hl [0, 1, 2, 3, 4] rfl)
                      · skip
                        refine lv_aload_n hx hb dX1_passDay_158 rfl (lv_at hl 3 rfl) ?_
                        refine lv_iload hx hb dX1_passDay_159 (lv_at hl 0 rfl) ?_
                        refine lv_aload_n hx hb dX1_passDay_161 rfl (lv_at hl 3 rfl) ?_
                        refine lv_iload hx hb dX1_passDay_162 (lv_at hl 0 rfl) ?_
                        refine cbVi (n := 1) (rest := [.int l4_62, .ref (x 27)]) hx hb hml hown hts hE hP hD hS hA (sX_X1_wears_2 NF l dC dI cy x0 x l4_62 v62 f62 hIv62 ) k_853 k_810 k_811 k_106 k_812 hd_yX1_wears ⟨Nat.le_of_ble_eq_true rfl, Nat.le_of_ble_eq_true rfl⟩ 28 1 rfl rfl (rfl) hl.1 rfl (Nat.le_of_ble_eq_true rfl) dX1_passDay_164 (fun r71 u H locs hw hP hD hS => ?_)
                        have hG72 := hw
                        refine cbVi (n := 2) (rest := []) hx hb hml hown hts hE hP hD hS hA (sX_X1_fits_2 NF l dC dI cy x0 x l4_62 r71 v62 f62 hIv62 ) k_817 k_818 k_819 k_106 k_820 hd_yX1_fits ⟨Nat.le_of_ble_eq_true rfl, Nat.le_of_ble_eq_true rfl⟩ 28 1 rfl rfl (rfl) hl.1 rfl (Nat.le_of_ble_eq_true rfl) dX1_passDay_167 (fun r73 u H locs hw hP hD hS => ?_)
                        obtain ⟨hG74, hw⟩ := hw
                        obtain ⟨v75, f76⟩ := u
                        obtain ⟨kV_v75, kF_f76, hIv75, hk0_v75, hk1_v75, hk7_v75, hk8_v75, hk9_v75, hk10_v75, hk31_v75, hk32_v75, hw⟩ := hw
                        have hM_v75 : KV [] v75 v := KV.tr kV_v75 hM_v62 rfl
                        have hA_f76 : KF [13, 14, 18] f76 f := KF.tr kF_f76 hA_f62 rfl
                        have hP : va_P (dC, dI) vwCl (XW cy x0 x v75 f76) H := hP
                        have hD : va_D A (XW cy x0 x v75 f76) := hD
                        have hq0_v75 : v75 0 = (v 0) := hk0_v75.trans hq0_v62
                        have hq1_v75 : v75 1 = (v 1) := hk1_v75.trans hq1_v62
                        have hq7_v75 : v75 7 = (v 7) := hk7_v75.trans hq7_v62
                        have hq8_v75 : v75 8 = (v 8) := hk8_v75.trans hq8_v62
                        have hq9_v75 : v75 9 = (v 9) := hk9_v75.trans hq9_v62
                        have hq10_v75 : v75 10 = (v 10) := hk10_v75.trans hq10_v62
                        have hq31_v75 : v75 31 = (v 31) := hk31_v75.trans hq31_v62
                        have hq32_v75 : v75 32 = (v 32) := hk32_v75.trans hq32_v62
                        rcases hw with ⟨g77⟩ | ⟨g77⟩
                        · skip
                          subst g77
                          refine lv_if_ne (tgt := 187) hx hb dX1_passDay_170 rfl (fun _ => ?_) (fun c0 => absurd c0 (by decide))
                          obtain ⟨t78, et78⟩ : ∃ y : Int32, y = l4_62 + 1 := ⟨_, rfl⟩
                          have zt78 : t78.toInt = l4_62.toInt + 1 := (congrArg Int32.toInt et78).trans (add_i rfl tc_1 (om_41 hr4_62) (om_187 b31_v zc63))
                          refine lv_iinc (v := t78) (lv' := [(4, .int t78), (3, .int l3_62), (2, .int 1), (0, .ref (x 27)), (1, .int p1)]) hx hb dX1_passDay_187 hl (k := 0) rfl et78.symm (Nat.le_of_ble_eq_true rfl) rfl (fun ls hl => ?_)
                          refine lv_goto (tgt := 136) hx hb dX1_passDay_190 rfl ?_
                          have rg79 := fb_rng t78
                          exact ih62 l3_62 t78 v75 f76 hIv75 hq0_v75 hq1_v75 hq7_v75 hq8_v75 hq9_v75 hq10_v75 hq31_v75 hq32_v75 ((gsX_X1_passDay_2_q9 c63 hG67.symm c68 hG72.symm hG74 et78).symm.trans hT62) ⟨show (0 : Int) ≤ t78.toInt from om_43 hr4_62 zt78, show t78.toInt ≤ (2147483647 : Int) from om_44 rg79⟩ hM_v75 hA_f76 (show (2147483647 - t78.toInt).toNat < n62 from om_33 hm62 zt78 rg79) _ _ _ hP hD hS (lv_sub hl [0, 1, 2, 3, 4] rfl)
                        · skip
                          subst g77
                          refine lv_if_ne (tgt := 187) hx hb dX1_passDay_170 rfl (fun c0 => absurd (by decide) c0) (fun _ => ?_)
                          refine lv_aload_n hx hb dX1_passDay_173 rfl (lv_at hl 3 rfl) ?_
                          refine lv_iload hx hb dX1_passDay_174 (lv_at hl 0 rfl) ?_
                          refine lv_iconst (v := (-1)) hx hb dX1_passDay_176 rfl ?_
                          refine cbVv (n := 2) (rest := []) hx hb hml hown hts hE hP hD hS hA (sX_X1_setWears_2 NF l dC dI cy x0 x l4_62 (-1) v75 f76 hIv75 ) k_879 k_880 k_881 k_106 k_882 hd_yX1_setWears ⟨Nat.le_of_ble_eq_true rfl, Nat.le_of_ble_eq_true rfl⟩ 28 1 rfl rfl (rfl) hl.1 rfl (Nat.le_of_ble_eq_true rfl) dX1_passDay_177 (fun u H locs hw hP hD hS => ?_)
                          obtain ⟨hG80, hw⟩ := hw
                          obtain ⟨v81, f82⟩ := u
                          obtain ⟨kV_v81, kF_f82, hIv81, hk0_v81, hk1_v81, hk7_v81, hk8_v81, hk9_v81, hk10_v81, hk31_v81, hk32_v81⟩ := hw
                          have hM_v81 : KV [] v81 v := KV.tr kV_v81 hM_v75 rfl
                          have hA_f82 : KF [13, 14, 18] f82 f := KF.tr kF_f82 hA_f76 rfl
                          have hP : va_P (dC, dI) vwCl (XW cy x0 x v81 f82) H := hP
                          have hD : va_D A (XW cy x0 x v81 f82) := hD
                          have hq0_v81 : v81 0 = (v 0) := hk0_v81.trans hq0_v75
                          have hq1_v81 : v81 1 = (v 1) := hk1_v81.trans hq1_v75
                          have hq7_v81 : v81 7 = (v 7) := hk7_v81.trans hq7_v75
                          have hq8_v81 : v81 8 = (v 8) := hk8_v81.trans hq8_v75
                          have hq9_v81 : v81 9 = (v 9) := hk9_v81.trans hq9_v75
                          have hq10_v81 : v81 10 = (v 10) := hk10_v81.trans hq10_v75
                          have hq31_v81 : v81 31 = (v 31) := hk31_v81.trans hq31_v75
                          have hq32_v81 : v81 32 = (v 32) := hk32_v81.trans hq32_v75
                          refine lv_iload_n hx hb dX1_passDay_180 rfl (lv_at hl 1 rfl) ?_
                          refine lv_iconst (v := 1) hx hb dX1_passDay_181 rfl ?_
                          refine lv_iload hx hb dX1_passDay_182 (lv_at hl 0 rfl) ?_
                          refine lv_ishl hx hb dX1_passDay_184 ?_
                          refine lv_topi (fun t83 et83 => ?_)
                          refine lv_ior hx hb dX1_passDay_185 ?_
                          refine lv_topi (fun t84 et84 => ?_)
                          refine lv_istore_n (lv' := [(3, .int t84), (4, .int l4_62), (2, .int 1), (0, .ref (x 27)), (1, .int p1)]) hx hb dX1_passDay_186 rfl hl (Nat.le_of_ble_eq_true rfl) rfl (fun ls hl => ?_)
                          obtain ⟨t85, et85⟩ : ∃ y : Int32, y = l4_62 + 1 := ⟨_, rfl⟩
                          have zt85 : t85.toInt = l4_62.toInt + 1 := (congrArg Int32.toInt et85).trans (add_i rfl tc_1 (om_41 hr4_62) (om_187 b31_v zc63))
                          refine lv_iinc (v := t85) (lv' := [(4, .int t85), (3, .int t84), (2, .int 1), (0, .ref (x 27)), (1, .int p1)]) hx hb dX1_passDay_187 hl (k := 1) rfl et85.symm (Nat.le_of_ble_eq_true rfl) rfl (fun ls hl => ?_)
                          refine lv_goto (tgt := 136) hx hb dX1_passDay_190 rfl ?_
                          have rg86 := fb_rng t85
                          exact ih62 t84 t85 v81 f82 hIv81 hq0_v81 hq1_v81 hq7_v81 hq8_v81 hq9_v81 hq10_v81 hq31_v81 hq32_v81 ((gsX_X1_passDay_2_q10 c63 hG67.symm c68 hG72.symm hG74 hG80 et83 et84 et85).symm.trans hT62) ⟨show (0 : Int) ≤ t85.toInt from om_43 hr4_62 zt85, show t85.toInt ≤ (2147483647 : Int) from om_44 rg86⟩ hM_v81 hA_f82 (show (2147483647 - t85.toInt).toNat < n62 from om_33 hm62 zt85 rg86) _ _ _ hP hD hS (lv_sub hl [0, 1, 2, 3, 4] rfl)
                exact lp62 (4294967296 + NF) 0 0 v56 f61 hIv56 hq0_v56 hq1_v56 hq7_v56 hq8_v56 hq9_v56 hq10_v56 hq31_v56 hq32_v56 ((gsX_X1_passDay_2_q11 c57 et59 et60 ef61).symm.trans hT56) ⟨by decide, by decide⟩ hM_v56 hA_f61 (show (2147483647 - (0 : Int32).toInt).toNat < 4294967296 + NF from om_38 tc_0) _ _ _ hP hD hS (lv_sub hl [0, 1, 2, 3, 4] rfl)
              · skip
                have zc57 : ¬ ((v 31).toInt ≤ l3_56.toInt) := zMn rfl rfl c57
                refine lv_aload_n hx hb dX1_passDay_104 rfl (lv_at hl 2 rfl) ?_
                refine lv_aload_n hx hb dX1_passDay_105 rfl (lv_at hl 2 rfl) ?_
                refine lv_iload_n hx hb dX1_passDay_106 rfl (lv_at hl 0 rfl) ?_
                refine cbVi (n := 1) (rest := [.ref (x 27)]) hx hb hml hown hts hE hP hD hS hA (sX_X1_wears_2 NF l dC dI cy x0 x l3_56 v56 f56 hIv56 ) k_853 k_810 k_811 k_106 k_812 hd_yX1_wears ⟨Nat.le_of_ble_eq_true rfl, Nat.le_of_ble_eq_true rfl⟩ 28 1 rfl rfl (rfl) hl.1 rfl (Nat.le_of_ble_eq_true rfl) dX1_passDay_107 (fun r88 u H locs hw hP hD hS => ?_)
                have hG89 := hw
                refine lv_iload_n hx hb dX1_passDay_110 rfl (lv_at hl 1 rfl) ?_
                refine cbVv (n := 2) (rest := []) hx hb hml hown hts hE hP hD hS hA (sX_X1_weather_2 NF l dC dI cy x0 x r88 1 v56 f56 hIv56 ) k_870 k_872 k_20 k_106 k_873 hd_yX1_weather ⟨Nat.le_of_ble_eq_true rfl, Nat.le_of_ble_eq_true rfl⟩ 28 1 rfl rfl (rfl) hl.1 rfl (Nat.le_of_ble_eq_true rfl) dX1_passDay_111 (fun u H locs hw hP hD hS => ?_)
                obtain ⟨hG90, hw⟩ := hw
                obtain ⟨v91, f92⟩ := u
                obtain ⟨kV_v91, kF_f92, hIv91, hk0_v91, hk1_v91, hk7_v91, hk8_v91, hk9_v91, hk10_v91, hk31_v91, hk32_v91⟩ := hw
                have hM_v91 : KV [] v91 v := KV.tr kV_v91 hM_v56 rfl
                have hA_f92 : KF [13, 14, 18] f92 f := KF.tr kF_f92 hA_f56 rfl
                have hP : va_P (dC, dI) vwCl (XW cy x0 x v91 f92) H := hP
                have hD : va_D A (XW cy x0 x v91 f92) := hD
                have hq0_v91 : v91 0 = (v 0) := hk0_v91.trans hq0_v56
                have hq1_v91 : v91 1 = (v 1) := hk1_v91.trans hq1_v56
                have hq7_v91 : v91 7 = (v 7) := hk7_v91.trans hq7_v56
                have hq8_v91 : v91 8 = (v 8) := hk8_v91.trans hq8_v56
                have hq9_v91 : v91 9 = (v 9) := hk9_v91.trans hq9_v56
                have hq10_v91 : v91 10 = (v 10) := hk10_v91.trans hq10_v56
                have hq31_v91 : v91 31 = (v 31) := hk31_v91.trans hq31_v56
                have hq32_v91 : v91 32 = (v 32) := hk32_v91.trans hq32_v56
                obtain ⟨t93, et93⟩ : ∃ y : Int32, y = l3_56 + 1 := ⟨_, rfl⟩
                have zt93 : t93.toInt = l3_56.toInt + 1 := (congrArg Int32.toInt et93).trans (add_i rfl tc_1 (om_41 hr3_56) (om_187 b31_v zc57))
                refine lv_iinc (v := t93) (lv' := [(3, .int t93), (2, .int 1), (0, .ref (x 27)), (1, .int p1)]) hx hb dX1_passDay_114 hl (k := 0) rfl et93.symm (Nat.le_of_ble_eq_true rfl) rfl (fun ls hl => ?_)
                refine lv_goto (tgt := 93) hx hb dX1_passDay_117 rfl ?_
                have rg94 := fb_rng t93
                exact ih56 t93 v91 f92 hIv91 hq0_v91 hq1_v91 hq7_v91 hq8_v91 hq9_v91 hq10_v91 hq31_v91 hq32_v91 ((gsX_X1_passDay_2_q12 c57 hG89.symm hG90 et93).symm.trans hT56) ⟨show (0 : Int) ≤ t93.toInt from om_43 hr3_56 zt93, show t93.toInt ≤ (2147483647 : Int) from om_44 rg94⟩ hM_v91 hA_f92 (show (2147483647 - t93.toInt).toNat < n56 from om_33 hm56 zt93 rg94) _ _ _ hP hD hS (lv_sub hl [0, 1, 2, 3] rfl)
          exact lp56 (4294967296 + NF) 0 v1 f9 hIv1 hq0_v1 hq1_v1 hq7_v1 hq8_v1 hq9_v1 hq10_v1 hq31_v1 hq32_v1 ((gsX_X1_passDay_2_q13 c2 et5 et6 et7 et8 ef9 et10 et11 c12).symm.trans hT1) ⟨by decide, by decide⟩ hM_v1 hA_f9 (show (2147483647 - (0 : Int32).toInt).toNat < 4294967296 + NF from om_38 tc_0) _ _ _ hP hD hS (lv_sub hl [0, 1, 2, 3] rfl)
      · skip
        have zc2 : ¬ ((v 31).toInt ≤ l2_1.toInt) := zMn rfl rfl c2
        refine lv_aload_n hx hb dX1_passDay_13 rfl (lv_at hl 1 rfl) ?_
        refine va_get (D := (dC, dI)) (ci := 1) (v := .ref (x 28)) (C := RX1) (T := TX1) (N := 2) hx hb hts inB_1 hown hE.1 hP 28 rfl rfl 1 (Nat.le_of_ble_eq_true rfl) (hts _ k_319) (fun _ h9 => h9) rfl dX1_passDay_14 ?_
        refine lv_iload_n hx hb dX1_passDay_17 rfl (lv_at hl 0 rfl) ?_
        refine lv_bipush (v := 99) hx hb dX1_passDay_18 rfl ?_
        refine lv_aload_n hx hb dX1_passDay_20 rfl (lv_at hl 1 rfl) ?_
        refine va_get (D := (dC, dI)) (ci := 1) (v := .ref (x 28)) (C := RX1) (T := TX1) (N := 2) hx hb hts inB_1 hown hE.1 hP 28 rfl rfl 1 (Nat.le_of_ble_eq_true rfl) (hts _ k_319) (fun _ h9 => h9) rfl dX1_passDay_21 ?_
        refine lv_iload_n hx hb dX1_passDay_24 rfl (lv_at hl 0 rfl) ?_
        refine ldI hx hb hE hP 29 rfl (vpI (k := 44) rfl (show 0 ≤ l2_1.toInt from om_39 hr2_1) (show l2_1.toInt < 44 from om_188 b31_v zc2)) rfl rfl dX1_passDay_25 ?_
        refine lv_topi (fun t97 et97 => ?_)
        refine lv_aload_n hx hb dX1_passDay_26 rfl (lv_at hl 1 rfl) ?_
        refine va_get (D := (dC, dI)) (ci := 1) (v := .ref (x 26)) (C := RX1) (T := TX1) (N := 2) hx hb hts inB_1 hown hE.1 hP 28 rfl rfl 0 (Nat.le_of_ble_eq_true rfl) (hts _ k_318) (fun _ h9 => h9) rfl dX1_passDay_27 ?_
        refine lv_iconst (v := 2) hx hb dX1_passDay_30 rfl ?_
        refine lv_iload_n hx hb dX1_passDay_31 rfl (lv_at hl 0 rfl) ?_
        refine cbVi (n := 2) (rest := [.int t97, .int 99, .int l2_1, .ref (x 28)]) hx hb hml hown hts hE hP hD hS hA (sX_X7_manPart_1 NF l dC dI cy x0 x 2 l2_1 v1 f1 hIv1 ) k_302 k_303 k_304 k_104 k_305 hd_yX7_manPart ⟨Nat.le_of_ble_eq_true rfl, Nat.le_of_ble_eq_true rfl⟩ 27 7 rfl rfl (rfl) hl.1 rfl (Nat.le_of_ble_eq_true rfl) dX1_passDay_32 (fun r98 u H locs hw hP hD hS => ?_)
        have hG99 := hw
        refine lv_iadd hx hb dX1_passDay_35 ?_
        refine lv_topi (fun t100 et100 => ?_)
        refine va_mmin hx hb (by rw [hml]; exact hl.1.symm) hown (hts _ k_869) (hts _ k_643) (hts _ k_119) (hts _ k_644) (Nat.le_of_ble_eq_true rfl) (Nat.le_of_ble_eq_true rfl) (Nat.le_of_ble_eq_true rfl) (Nat.le_of_ble_eq_true rfl) dX1_passDay_36 ?_
        refine lv_topi (fun t101 et101 => ?_)
        refine stI hx hb hE hP hD hS 29 rfl (vpI (k := 44) rfl (show 0 ≤ l2_1.toInt from om_39 hr2_1) (show l2_1.toInt < 44 from om_188 b31_v zc2)) rfl dX1_passDay_39 (fun H locs hP hD hS => ?_)
        obtain ⟨f102, ef102, hP, hD⟩ : ∃ fz9, fz9 = upd2 f1 18 (upd (f1 18) l2_1.toNatClampNeg t101) ∧ va_P (dC, dI) vwCl (XW cy x0 x v1 fz9) H ∧ va_D A (XW cy x0 x v1 fz9) := ⟨_, rfl, hP, hD⟩
        have hA_f102 : KF [13, 14, 18] f102 f := by rw [ef102]; exact KF.up hA_f1 rfl
        obtain ⟨t103, et103⟩ : ∃ y : Int32, y = l2_1 + 1 := ⟨_, rfl⟩
        have zt103 : t103.toInt = l2_1.toInt + 1 := (congrArg Int32.toInt et103).trans (add_i rfl tc_1 (om_41 hr2_1) (om_187 b31_v zc2))
        refine lv_iinc (v := t103) (lv' := [(2, .int t103), (0, .ref (x 27)), (1, .int p1)]) hx hb dX1_passDay_40 hl (k := 0) rfl et103.symm (Nat.le_of_ble_eq_true rfl) rfl (fun ls hl => ?_)
        refine lv_goto (tgt := 2) hx hb dX1_passDay_43 rfl ?_
        have rg104 := fb_rng t103
        exact ih1 t103 v1 f102 hIv1 hq0_v1 hq1_v1 hq7_v1 hq8_v1 hq9_v1 hq10_v1 hq31_v1 hq32_v1 ((gsX_X1_passDay_2_q14 c2 et97 hG99.symm et100 et101 ef102 et103).symm.trans hT1) ⟨show (0 : Int) ≤ t103.toInt from om_43 hr2_1 zt103, show t103.toInt ≤ (2147483647 : Int) from om_44 rg104⟩ hM_v1 hA_f102 (show (2147483647 - t103.toInt).toNat < n1 from om_33 hm1 zt103 rg104) _ _ _ hP hD hS (lv_sub hl [0, 1, 2] rfl)
  exact lp1 (4294967296 + NF) 0 v f hIv rfl rfl rfl rfl rfl rfl rfl rfl gsX_X1_passDay_2_q15.symm ⟨by decide, by decide⟩ hM_v hA_f (show (2147483647 - (0 : Int32).toInt).toNat < 4294967296 + NF from om_38 tc_0) _ _ _ hP hD hS (lv_sub hl [0, 1, 2] rfl)
set_option maxHeartbeats 4000000 in
set_option maxRecDepth 100000 in
theorem sX_X3_coatBehind_1 (l : Launch) (dC : Nat → ClassId) (dI : Nat → Nat → Nat) (cy : Nat → ClassId) (x0 : Nat) (x : Nat → Nat) (p1 : Int32) (p2 : Int32) (p3 : Int32) (v : Nat → Int32) (f : Nat → Nat → Int32) (hIv : XI v)  : ctI l (dC, dI) cy yX3_coatBehind cX3_coatBehind 5 .int 6 179 0 0 ((Nat → Int32) × (Nat → Nat → Int32)) [.ref (x 25), .int p1, .int p2, .int p3] (XW cy x0 x v f) (fun r u => KV [] u.1 v ∧ KF [13, 14, 18] u.2 f ∧ XI u.1 ∧ u.1 0 = v 0 ∧ u.1 1 = v 1 ∧ u.1 7 = v 7 ∧ u.1 8 = v 8 ∧ u.1 9 = v 9 ∧ u.1 10 = v 10 ∧ u.1 31 = v 31 ∧ u.1 32 = v 32) (fun u => XW cy x0 x u.1 u.2) := by
  refine ctI_of (by decide) (Nat.le_of_ble_eq_true rfl) (fun p e s m below meth c A ls Q hx hb hml hts hown hE hP hD hA hl ret => ?_)
  have hM_v : KV [] v v := fun _ _ => rfl
  have hA_f : KF [13, 14, 18] f f := fun _ _ => rfl
  have hown : s.vm.findClass RX3 = some m.cls := hown
  have hS : va_S A s.heap s.heap [] := va_S.rf
  have hl : lv_has ls 5 [(0, .ref (x 25)), (1, .int p1), (2, .int p2), (3, .int p3)] := hl
  refine lv_aload_n hx hb dX3_coatBehind_0 rfl (lv_at hl 0 rfl) ?_
  refine va_get (D := (dC, dI)) (ci := 3) (v := .ref (x 27)) (C := RX3) (T := TX3) (N := 10) hx hb hts inB_3 hown hE.1 hP 26 rfl rfl 2 (Nat.le_of_ble_eq_true rfl) (hts _ k_372) (fun _ h9 => h9) rfl dX3_coatBehind_1 ?_
  refine lv_aload_n hx hb dX3_coatBehind_4 rfl (lv_at hl 0 rfl) ?_
  refine va_get (D := (dC, dI)) (ci := 3) (v := .ref (x 21)) (C := RX3) (T := TX3) (N := 10) hx hb hts inB_3 hown hE.1 hP 26 rfl rfl 1 (Nat.le_of_ble_eq_true rfl) (hts _ k_371) (fun _ h9 => h9) rfl dX3_coatBehind_5 ?_
  refine cbVv (n := 1) (rest := []) hx hb hml hown hts hE hP hD hS hA (sX_X1_copy_1 l dC dI cy x0 x  v f hIv ) k_945 k_946 k_947 k_106 k_948 hd_yX1_copy ⟨Nat.le_of_ble_eq_true rfl, Nat.le_of_ble_eq_true rfl⟩ 28 1 rfl rfl (rfl) hl.1 rfl (Nat.le_of_ble_eq_true rfl) dX3_coatBehind_8 (fun u H locs hw hP hD hS => ?_)
  obtain ⟨v1, f2⟩ := u
  obtain ⟨kV_v1, kF_f2, hIv1, hk0_v1, hk1_v1, hk7_v1, hk8_v1, hk9_v1, hk10_v1, hk31_v1, hk32_v1⟩ := hw
  have hM_v1 : KV [] v1 v := KV.tr kV_v1 hM_v rfl
  have hA_f2 : KF [13, 14, 18] f2 f := KF.tr kF_f2 hA_f rfl
  have hP : va_P (dC, dI) vwCl (XW cy x0 x v1 f2) H := hP
  have hD : va_D A (XW cy x0 x v1 f2) := hD
  have hq0_v1 : v1 0 = (v 0) := hk0_v1
  have hq1_v1 : v1 1 = (v 1) := hk1_v1
  have hq7_v1 : v1 7 = (v 7) := hk7_v1
  have hq8_v1 : v1 8 = (v 8) := hk8_v1
  have hq9_v1 : v1 9 = (v 9) := hk9_v1
  have hq10_v1 : v1 10 = (v 10) := hk10_v1
  have hq31_v1 : v1 31 = (v 31) := hk31_v1
  have hq32_v1 : v1 32 = (v 32) := hk32_v1
  refine lv_iconst (v := 0) hx hb dX3_coatBehind_11 rfl ?_
  refine lv_istore (lv' := [(4, .int 0), (0, .ref (x 25)), (1, .int p1), (2, .int p2), (3, .int p3)]) hx hb dX3_coatBehind_12 hl (Nat.le_of_ble_eq_true rfl) rfl (fun ls hl => ?_)
  have lp3 : ∀ (n3 : Nat) (l4_3 : Int32) (v3 : Nat → Int32) (f3 : Nat → Nat → Int32), XI v3 → v3 0 = (v 0) → v3 1 = (v 1) → v3 7 = (v 7) → v3 8 = (v 8) → v3 9 = (v 9) → v3 10 = (v 10) → v3 31 = (v 31) → v3 32 = (v 32) → ((0 : Int) ≤ l4_3.toInt ∧ l4_3.toInt ≤ 2147483647) → KV [] v3 v → KF [13, 14, 18] f3 f → (2147483647 - l4_3.toInt).toNat < n3 → ∀ (H : Heap) (locs : List Loc) (ls : Array Slot), va_P (dC, dI) vwCl (XW cy x0 x v3 f3) H → va_D A (XW cy x0 x v3 f3) → va_S A s.heap H locs → lv_has ls 5 [(4, .int l4_3), (0, .ref (x 25)), (1, .int p1), (2, .int p2), (3, .int p3)] → W p l e { frames := 6, cells := 0, slots := 0, locals := 179 } s m ([.ref (x 25), .int p1, .int p2, .int p3] : List Value).toArray below meth c H locs 0 0 Q (F0 m 14 ls []) := by
    intro n3
    induction n3 with
    | zero => intro l4_3 v3 f3 hIv3 hq0_v3 hq1_v3 hq7_v3 hq8_v3 hq9_v3 hq10_v3 hq31_v3 hq32_v3 hr4_3 hM_v3 hA_f3 hm; exact absurd hm (Nat.not_lt_zero _)
    | succ n3 ih3 =>
      intro l4_3 v3 f3 hIv3 hq0_v3 hq1_v3 hq7_v3 hq8_v3 hq9_v3 hq10_v3 hq31_v3 hq32_v3 hr4_3 hM_v3 hA_f3 hm3 H locs ls hP hD hS hl
      refine lv_iload hx hb dX3_coatBehind_14 (lv_at hl 0 rfl) ?_
      refine lv_iload_n hx hb dX3_coatBehind_16 rfl (lv_at hl 3 rfl) ?_
      refine lv_icmp_ge (tgt := 35) hx hb dX3_coatBehind_17 rfl (fun c4 => ?_) (fun c4 => ?_)
      · skip
        refine lv_aload_n hx hb dX3_coatBehind_35 rfl (lv_at hl 1 rfl) ?_
        refine va_get (D := (dC, dI)) (ci := 3) (v := .ref (x 27)) (C := RX3) (T := TX3) (N := 10) hx hb hts inB_3 hown hE.1 hP 26 rfl rfl 2 (Nat.le_of_ble_eq_true rfl) (hts _ k_372) (fun _ h9 => h9) rfl dX3_coatBehind_36 ?_
        refine lv_iload_n hx hb dX3_coatBehind_39 rfl (lv_at hl 2 rfl) ?_
        refine cbVi (n := 1) (rest := []) hx hb hml hown hts hE hP hD hS hA (sX_X1_wears_2 0 l dC dI cy x0 x p1 v3 f3 hIv3 ) k_950 k_810 k_811 k_106 k_812 hd_yX1_wears ⟨Nat.le_of_ble_eq_true rfl, Nat.le_of_ble_eq_true rfl⟩ 28 1 rfl rfl (rfl) hl.1 rfl (Nat.le_of_ble_eq_true rfl) dX3_coatBehind_40 (fun r7 u H locs hw hP hD hS => ?_)
        have hG8 := hw
        exact ret r7 (v3, f3) _ _ _ _ _ _ rfl ⟨hM_v3, hA_f3, hIv3, hq0_v3, hq1_v3, hq7_v3, hq8_v3, hq9_v3, hq10_v3, hq31_v3, hq32_v3⟩ hP hD hS dX3_coatBehind_43 (Nat.le_refl _) (Nat.le_refl _)
      · skip
        have zc4 : ¬ (p2.toInt ≤ l4_3.toInt) := zMn rfl rfl c4
        have rg10 := fb_rng p2
        refine lv_aload_n hx hb dX3_coatBehind_20 rfl (lv_at hl 1 rfl) ?_
        refine va_get (D := (dC, dI)) (ci := 3) (v := .ref (x 27)) (C := RX3) (T := TX3) (N := 10) hx hb hts inB_3 hown hE.1 hP 26 rfl rfl 2 (Nat.le_of_ble_eq_true rfl) (hts _ k_372) (fun _ h9 => h9) rfl dX3_coatBehind_21 ?_
        refine lv_iload_n hx hb dX3_coatBehind_24 rfl (lv_at hl 4 rfl) ?_
        refine cbVi (n := 1) (rest := []) hx hb hml hown hts hE hP hD hS hA (sX_X1_passDay_2 0 l dC dI cy x0 x p3 v3 f3 hIv3 ) k_949 k_866 k_867 k_106 k_868 hd_yX1_passDay ⟨Nat.le_of_ble_eq_true rfl, Nat.le_of_ble_eq_true rfl⟩ 28 1 rfl rfl (rfl) hl.1 rfl (Nat.le_of_ble_eq_true rfl) dX3_coatBehind_25 (fun r11 u H locs hw hP hD hS => ?_)
        obtain ⟨hG12, hw⟩ := hw
        obtain ⟨v13, f14⟩ := u
        obtain ⟨kV_v13, kF_f14, hIv13, hk0_v13, hk1_v13, hk7_v13, hk8_v13, hk9_v13, hk10_v13, hk31_v13, hk32_v13⟩ := hw
        have hM_v13 : KV [] v13 v := KV.tr kV_v13 hM_v3 rfl
        have hA_f14 : KF [13, 14, 18] f14 f := KF.tr kF_f14 hA_f3 rfl
        have hP : va_P (dC, dI) vwCl (XW cy x0 x v13 f14) H := hP
        have hD : va_D A (XW cy x0 x v13 f14) := hD
        have hq0_v13 : v13 0 = (v 0) := hk0_v13.trans hq0_v3
        have hq1_v13 : v13 1 = (v 1) := hk1_v13.trans hq1_v3
        have hq7_v13 : v13 7 = (v 7) := hk7_v13.trans hq7_v3
        have hq8_v13 : v13 8 = (v 8) := hk8_v13.trans hq8_v3
        have hq9_v13 : v13 9 = (v 9) := hk9_v13.trans hq9_v3
        have hq10_v13 : v13 10 = (v 10) := hk10_v13.trans hq10_v3
        have hq31_v13 : v13 31 = (v 31) := hk31_v13.trans hq31_v3
        have hq32_v13 : v13 32 = (v 32) := hk32_v13.trans hq32_v3
        refine lv_pop hx hb dX3_coatBehind_28 rfl ?_
        obtain ⟨t15, et15⟩ : ∃ y : Int32, y = l4_3 + 1 := ⟨_, rfl⟩
        have zt15 : t15.toInt = l4_3.toInt + 1 := (congrArg Int32.toInt et15).trans (add_i rfl tc_1 (om_41 hr4_3) (om_196 zc4 rg10))
        refine lv_iinc (v := t15) (lv' := [(4, .int t15), (0, .ref (x 25)), (1, .int p1), (2, .int p2), (3, .int p3)]) hx hb dX3_coatBehind_29 hl (k := 0) rfl et15.symm (Nat.le_of_ble_eq_true rfl) rfl (fun ls hl => ?_)
        refine lv_goto (tgt := 14) hx hb dX3_coatBehind_32 rfl ?_
        have rg16 := fb_rng t15
        exact ih3 t15 v13 f14 hIv13 hq0_v13 hq1_v13 hq7_v13 hq8_v13 hq9_v13 hq10_v13 hq31_v13 hq32_v13 ⟨show (0 : Int) ≤ t15.toInt from om_43 hr4_3 zt15, show t15.toInt ≤ (2147483647 : Int) from om_44 rg16⟩ hM_v13 hA_f14 (show (2147483647 - t15.toInt).toNat < n3 from om_33 hm3 zt15 rg16) _ _ _ hP hD hS (lv_sub hl [0, 1, 2, 3, 4] rfl)
  exact lp3 _ 0 v1 f2 hIv1 hq0_v1 hq1_v1 hq7_v1 hq8_v1 hq9_v1 hq10_v1 hq31_v1 hq32_v1 ⟨by decide, by decide⟩ hM_v1 hA_f2 (Nat.lt_succ_self _) _ _ _ hP hD hS (lv_sub hl [0, 1, 2, 3, 4] rfl)
set_option maxHeartbeats 4000000 in
set_option maxRecDepth 100000 in
theorem sX_X10_will_1 (l : Launch) (dC : Nat → ClassId) (dI : Nat → Nat → Nat) (cy : Nat → ClassId) (x0 : Nat) (x : Nat → Nat) (p1 : Int32) (p2 : Int32) (p3 : Int32) (v : Nat → Int32) (f : Nat → Nat → Int32) (hIv : XI v)  : ctI l (dC, dI) cy yX10_will cX10_will 4 .int 7 203 0 0 ((Nat → Int32) × (Nat → Nat → Int32)) [.ref x0, .int p1, .int p2, .int p3] (XW cy x0 x v f) (fun r u => KV [] u.1 v ∧ KF [13, 14, 18] u.2 f ∧ XI u.1 ∧ u.1 0 = v 0 ∧ u.1 1 = v 1 ∧ u.1 7 = v 7 ∧ u.1 8 = v 8 ∧ u.1 9 = v 9 ∧ u.1 10 = v 10 ∧ u.1 31 = v 31 ∧ u.1 32 = v 32) (fun u => XW cy x0 x u.1 u.2) := by
  refine ctI_of (by decide) (Nat.le_of_ble_eq_true rfl) (fun p e s m below meth c A ls Q hx hb hml hts hown hE hP hD hA hl ret => ?_)
  have hM_v : KV [] v v := fun _ _ => rfl
  have hA_f : KF [13, 14, 18] f f := fun _ _ => rfl
  have hown : s.vm.findClass RX10 = some m.cls := hown
  have hS : va_S A s.heap s.heap [] := va_S.rf
  have hl : lv_has ls 4 [(0, .ref x0), (1, .int p1), (2, .int p2), (3, .int p3)] := hl
  refine lv_aload_n hx hb dX10_will_0 rfl (lv_at hl 0 rfl) ?_
  refine va_get (D := (dC, dI)) (ci := 10) (v := .ref (x 26)) (C := RX10) (T := TX10) (N := 10) hx hb hts inB_10 hown hE.1 hP 0 rfl rfl 2 (Nat.le_of_ble_eq_true rfl) (hts _ k_493) (fun _ h9 => h9) rfl dX10_will_1 ?_
  refine lv_iload_n hx hb dX10_will_4 rfl (lv_at hl 1 rfl) ?_
  refine cbVi (n := 1) (rest := []) hx hb hml hown hts hE hP hD hS hA (sX_X7_hasMan_1 0 l dC dI cy x0 x p1 v f hIv ) k_802 k_307 k_308 k_104 k_309 hd_yX7_hasMan ⟨Nat.le_of_ble_eq_true rfl, Nat.le_of_ble_eq_true rfl⟩ 27 7 rfl rfl (rfl) hl.1 rfl (Nat.le_of_ble_eq_true rfl) dX10_will_5 (fun r1 u H locs hw hP hD hS => ?_)
  obtain ⟨hG2, hw⟩ := hw
  rcases hw with ⟨g3, g3_0, g3_1, g3_2⟩ | ⟨g3⟩
  · skip
    subst g3
    refine lv_if_eq (tgt := 30) hx hb dX10_will_8 rfl (fun c0 => absurd c0 (by decide)) (fun _ => ?_)
    refine lv_iload_n hx hb dX10_will_11 rfl (lv_at hl 2 rfl) ?_
    refine lv_if_lt (tgt := 30) hx hb dX10_will_12 rfl (fun c4 => ?_) (fun c4 => ?_)
    · skip
      refine lv_bipush (v := (-2)) hx hb dX10_will_30 rfl ?_
      exact ret (-2) (v, f) _ _ _ _ _ _ rfl ⟨hM_v, hA_f, hIv, rfl, rfl, rfl, rfl, rfl, rfl, rfl, rfl⟩ hP hD hS dX10_will_32 (Nat.le_refl _) (Nat.le_refl _)
    · skip
      refine lv_iload_n hx hb dX10_will_15 rfl (lv_at hl 2 rfl) ?_
      refine lv_bipush (v := 60) hx hb dX10_will_16 rfl ?_
      refine lv_icmp_gt (tgt := 30) hx hb dX10_will_18 rfl (fun c5 => ?_) (fun c5 => ?_)
      · skip
        refine lv_bipush (v := (-2)) hx hb dX10_will_30 rfl ?_
        exact ret (-2) (v, f) _ _ _ _ _ _ rfl ⟨hM_v, hA_f, hIv, rfl, rfl, rfl, rfl, rfl, rfl, rfl, rfl⟩ hP hD hS dX10_will_32 (Nat.le_refl _) (Nat.le_refl _)
      · skip
        refine lv_iload_n hx hb dX10_will_21 rfl (lv_at hl 3 rfl) ?_
        refine lv_if_lt (tgt := 30) hx hb dX10_will_22 rfl (fun c6 => ?_) (fun c6 => ?_)
        · skip
          refine lv_bipush (v := (-2)) hx hb dX10_will_30 rfl ?_
          exact ret (-2) (v, f) _ _ _ _ _ _ rfl ⟨hM_v, hA_f, hIv, rfl, rfl, rfl, rfl, rfl, rfl, rfl, rfl⟩ hP hD hS dX10_will_32 (Nat.le_refl _) (Nat.le_refl _)
        · skip
          refine lv_iload_n hx hb dX10_will_25 rfl (lv_at hl 3 rfl) ?_
          refine lv_iconst (v := 1) hx hb dX10_will_26 rfl ?_
          refine lv_icmp_le (tgt := 33) hx hb dX10_will_27 rfl (fun c7 => ?_) (fun c7 => ?_)
          · skip
            refine lv_aload_n hx hb dX10_will_33 rfl (lv_at hl 0 rfl) ?_
            refine va_get (D := (dC, dI)) (ci := 10) (v := .ref (x 25)) (C := RX10) (T := TX10) (N := 10) hx hb hts inB_10 hown hE.1 hP 0 rfl rfl 5 (Nat.le_of_ble_eq_true rfl) (hts _ k_496) (fun _ h9 => h9) rfl dX10_will_34 ?_
            refine lv_iload_n hx hb dX10_will_37 rfl (lv_at hl 1 rfl) ?_
            refine lv_iload_n hx hb dX10_will_38 rfl (lv_at hl 2 rfl) ?_
            refine lv_iload_n hx hb dX10_will_39 rfl (lv_at hl 3 rfl) ?_
            refine lv_iconst (v := 1) hx hb dX10_will_40 rfl ?_
            refine lv_icmp_ne (tgt := 54) hx hb dX10_will_41 rfl (fun c8 => ?_) (fun c8 => ?_)
            · skip
              refine lv_iconst (v := 0) hx hb dX10_will_54 rfl ?_
              refine cbVi (n := 3) (rest := []) hx hb hml hown hts hE hP hD hS hA (sX_X3_coatBehind_1 l dC dI cy x0 x p1 p2 0 v f hIv ) k_941 k_942 k_943 k_109 k_944 hd_yX3_coatBehind ⟨Nat.le_of_ble_eq_true rfl, Nat.le_of_ble_eq_true rfl⟩ 26 3 rfl rfl (rfl) hl.1 rfl (Nat.le_of_ble_eq_true rfl) dX10_will_55 (fun r9 u H locs hw hP hD hS => ?_)
              obtain ⟨v10, f11⟩ := u
              obtain ⟨kV_v10, kF_f11, hIv10, hk0_v10, hk1_v10, hk7_v10, hk8_v10, hk9_v10, hk10_v10, hk31_v10, hk32_v10⟩ := hw
              have hM_v10 : KV [] v10 v := KV.tr kV_v10 hM_v rfl
              have hA_f11 : KF [13, 14, 18] f11 f := KF.tr kF_f11 hA_f rfl
              have hP : va_P (dC, dI) vwCl (XW cy x0 x v10 f11) H := hP
              have hD : va_D A (XW cy x0 x v10 f11) := hD
              exact ret r9 (v10, f11) _ _ _ _ _ _ rfl ⟨hM_v10, hA_f11, hIv10, hk0_v10, hk1_v10, hk7_v10, hk8_v10, hk9_v10, hk10_v10, hk31_v10, hk32_v10⟩ hP hD hS dX10_will_58 (Nat.le_refl _) (Nat.le_refl _)
            · skip
              refine lv_aload_n hx hb dX10_will_44 rfl (lv_at hl 0 rfl) ?_
              refine va_get (D := (dC, dI)) (ci := 10) (v := .ref (x 26)) (C := RX10) (T := TX10) (N := 10) hx hb hts inB_10 hown hE.1 hP 0 rfl rfl 2 (Nat.le_of_ble_eq_true rfl) (hts _ k_493) (fun _ h9 => h9) rfl dX10_will_45 ?_
              refine va_getN (D := (dC, dI)) (ci := 7) (v := .int (v 36)) (C := RX7) (T := TX7) (N := 10) hx hb hts inB_7 hown hE.1 hP 27 rfl rfl 8 (Nat.le_of_ble_eq_true rfl) (va_Nw.use rfl (hE.2 _ k_241)) (fun _ h9 => h9) rfl dX10_will_48 ?_
              refine lv_goto (tgt := 55) hx hb dX10_will_51 rfl ?_
              refine cbVi (n := 3) (rest := []) hx hb hml hown hts hE hP hD hS hA (sX_X3_coatBehind_1 l dC dI cy x0 x p1 p2 (v 36) v f hIv ) k_941 k_942 k_943 k_109 k_944 hd_yX3_coatBehind ⟨Nat.le_of_ble_eq_true rfl, Nat.le_of_ble_eq_true rfl⟩ 26 3 rfl rfl (rfl) hl.1 rfl (Nat.le_of_ble_eq_true rfl) dX10_will_55 (fun r12 u H locs hw hP hD hS => ?_)
              obtain ⟨v13, f14⟩ := u
              obtain ⟨kV_v13, kF_f14, hIv13, hk0_v13, hk1_v13, hk7_v13, hk8_v13, hk9_v13, hk10_v13, hk31_v13, hk32_v13⟩ := hw
              have hM_v13 : KV [] v13 v := KV.tr kV_v13 hM_v rfl
              have hA_f14 : KF [13, 14, 18] f14 f := KF.tr kF_f14 hA_f rfl
              have hP : va_P (dC, dI) vwCl (XW cy x0 x v13 f14) H := hP
              have hD : va_D A (XW cy x0 x v13 f14) := hD
              exact ret r12 (v13, f14) _ _ _ _ _ _ rfl ⟨hM_v13, hA_f14, hIv13, hk0_v13, hk1_v13, hk7_v13, hk8_v13, hk9_v13, hk10_v13, hk31_v13, hk32_v13⟩ hP hD hS dX10_will_58 (Nat.le_refl _) (Nat.le_refl _)
          · skip
            refine lv_bipush (v := (-2)) hx hb dX10_will_30 rfl ?_
            exact ret (-2) (v, f) _ _ _ _ _ _ rfl ⟨hM_v, hA_f, hIv, rfl, rfl, rfl, rfl, rfl, rfl, rfl, rfl⟩ hP hD hS dX10_will_32 (Nat.le_refl _) (Nat.le_refl _)
  · skip
    subst g3
    refine lv_if_eq (tgt := 30) hx hb dX10_will_8 rfl (fun _ => ?_) (fun c0 => absurd (by decide) c0)
    refine lv_bipush (v := (-2)) hx hb dX10_will_30 rfl ?_
    exact ret (-2) (v, f) _ _ _ _ _ _ rfl ⟨hM_v, hA_f, hIv, rfl, rfl, rfl, rfl, rfl, rfl, rfl, rfl⟩ hP hD hS dX10_will_32 (Nat.le_refl _) (Nat.le_refl _)
set_option maxHeartbeats 4000000 in
set_option maxRecDepth 100000 in
theorem sX_X3_daysTillOut_1 (l : Launch) (dC : Nat → ClassId) (dI : Nat → Nat → Nat) (cy : Nat → ClassId) (x0 : Nat) (x : Nat → Nat) (p1 : Int32) (v : Nat → Int32) (f : Nat → Nat → Int32) (hIv : XI v)  : ctI l (dC, dI) cy yX3_daysTillOut cX3_daysTillOut 3 .int 6 179 0 0 ((Nat → Int32) × (Nat → Nat → Int32)) [.ref (x 25), .int p1] (XW cy x0 x v f) (fun r u => KV [] u.1 v ∧ KF [13, 14, 18] u.2 f ∧ XI u.1 ∧ u.1 0 = v 0 ∧ u.1 1 = v 1 ∧ u.1 7 = v 7 ∧ u.1 8 = v 8 ∧ u.1 9 = v 9 ∧ u.1 10 = v 10 ∧ u.1 31 = v 31 ∧ u.1 32 = v 32) (fun u => XW cy x0 x u.1 u.2) := by
  refine ctI_of (by decide) (Nat.le_of_ble_eq_true rfl) (fun p e s m below meth c A ls Q hx hb hml hts hown hE hP hD hA hl ret => ?_)
  have hM_v : KV [] v v := fun _ _ => rfl
  have hA_f : KF [13, 14, 18] f f := fun _ _ => rfl
  have hown : s.vm.findClass RX3 = some m.cls := hown
  have hS : va_S A s.heap s.heap [] := va_S.rf
  have hl : lv_has ls 3 [(0, .ref (x 25)), (1, .int p1)] := hl
  refine lv_aload_n hx hb dX3_daysTillOut_0 rfl (lv_at hl 0 rfl) ?_
  refine va_get (D := (dC, dI)) (ci := 3) (v := .ref (x 27)) (C := RX3) (T := TX3) (N := 10) hx hb hts inB_3 hown hE.1 hP 26 rfl rfl 2 (Nat.le_of_ble_eq_true rfl) (hts _ k_372) (fun _ h9 => h9) rfl dX3_daysTillOut_1 ?_
  refine lv_aload_n hx hb dX3_daysTillOut_4 rfl (lv_at hl 0 rfl) ?_
  refine va_get (D := (dC, dI)) (ci := 3) (v := .ref (x 21)) (C := RX3) (T := TX3) (N := 10) hx hb hts inB_3 hown hE.1 hP 26 rfl rfl 1 (Nat.le_of_ble_eq_true rfl) (hts _ k_371) (fun _ h9 => h9) rfl dX3_daysTillOut_5 ?_
  refine cbVv (n := 1) (rest := []) hx hb hml hown hts hE hP hD hS hA (sX_X1_copy_1 l dC dI cy x0 x  v f hIv ) k_945 k_946 k_947 k_106 k_948 hd_yX1_copy ⟨Nat.le_of_ble_eq_true rfl, Nat.le_of_ble_eq_true rfl⟩ 28 1 rfl rfl (rfl) hl.1 rfl (Nat.le_of_ble_eq_true rfl) dX3_daysTillOut_8 (fun u H locs hw hP hD hS => ?_)
  obtain ⟨v1, f2⟩ := u
  obtain ⟨kV_v1, kF_f2, hIv1, hk0_v1, hk1_v1, hk7_v1, hk8_v1, hk9_v1, hk10_v1, hk31_v1, hk32_v1⟩ := hw
  have hM_v1 : KV [] v1 v := KV.tr kV_v1 hM_v rfl
  have hA_f2 : KF [13, 14, 18] f2 f := KF.tr kF_f2 hA_f rfl
  have hP : va_P (dC, dI) vwCl (XW cy x0 x v1 f2) H := hP
  have hD : va_D A (XW cy x0 x v1 f2) := hD
  have hq0_v1 : v1 0 = (v 0) := hk0_v1
  have hq1_v1 : v1 1 = (v 1) := hk1_v1
  have hq7_v1 : v1 7 = (v 7) := hk7_v1
  have hq8_v1 : v1 8 = (v 8) := hk8_v1
  have hq9_v1 : v1 9 = (v 9) := hk9_v1
  have hq10_v1 : v1 10 = (v 10) := hk10_v1
  have hq31_v1 : v1 31 = (v 31) := hk31_v1
  have hq32_v1 : v1 32 = (v 32) := hk32_v1
  refine lv_iconst (v := 0) hx hb dX3_daysTillOut_11 rfl ?_
  refine lv_istore_n (lv' := [(2, .int 0), (0, .ref (x 25)), (1, .int p1)]) hx hb dX3_daysTillOut_12 rfl hl (Nat.le_of_ble_eq_true rfl) rfl (fun ls hl => ?_)
  have lp3 : ∀ (n3 : Nat) (l2_3 : Int32) (v3 : Nat → Int32) (f3 : Nat → Nat → Int32), XI v3 → v3 0 = (v 0) → v3 1 = (v 1) → v3 7 = (v 7) → v3 8 = (v 8) → v3 9 = (v 9) → v3 10 = (v 10) → v3 31 = (v 31) → v3 32 = (v 32) → ((0 : Int) ≤ l2_3.toInt ∧ l2_3.toInt ≤ 2147483647) → KV [] v3 v → KF [13, 14, 18] f3 f → (2147483647 - l2_3.toInt).toNat < n3 → ∀ (H : Heap) (locs : List Loc) (ls : Array Slot), va_P (dC, dI) vwCl (XW cy x0 x v3 f3) H → va_D A (XW cy x0 x v3 f3) → va_S A s.heap H locs → lv_has ls 3 [(2, .int l2_3), (0, .ref (x 25)), (1, .int p1)] → W p l e { frames := 6, cells := 0, slots := 0, locals := 179 } s m ([.ref (x 25), .int p1] : List Value).toArray below meth c H locs 0 0 Q (F0 m 13 ls []) := by
    intro n3
    induction n3 with
    | zero => intro l2_3 v3 f3 hIv3 hq0_v3 hq1_v3 hq7_v3 hq8_v3 hq9_v3 hq10_v3 hq31_v3 hq32_v3 hr2_3 hM_v3 hA_f3 hm; exact absurd hm (Nat.not_lt_zero _)
    | succ n3 ih3 =>
      intro l2_3 v3 f3 hIv3 hq0_v3 hq1_v3 hq7_v3 hq8_v3 hq9_v3 hq10_v3 hq31_v3 hq32_v3 hr2_3 hM_v3 hA_f3 hm3 H locs ls hP hD hS hl
      refine lv_iload_n hx hb dX3_daysTillOut_13 rfl (lv_at hl 0 rfl) ?_
      refine lv_bipush (v := 60) hx hb dX3_daysTillOut_14 rfl ?_
      refine lv_icmp_gt (tgt := 48) hx hb dX3_daysTillOut_16 rfl (fun c4 => ?_) (fun c4 => ?_)
      · skip
        refine lv_iconst (v := (-1)) hx hb dX3_daysTillOut_48 rfl ?_
        exact ret (-1) (v3, f3) _ _ _ _ _ _ rfl ⟨hM_v3, hA_f3, hIv3, hq0_v3, hq1_v3, hq7_v3, hq8_v3, hq9_v3, hq10_v3, hq31_v3, hq32_v3⟩ hP hD hS dX3_daysTillOut_49 (Nat.le_refl _) (Nat.le_refl _)
      · skip
        have zc4 : ¬ (60 < l2_3.toInt) := zLn tc_60 rfl c4
        refine lv_aload_n hx hb dX3_daysTillOut_19 rfl (lv_at hl 1 rfl) ?_
        refine va_get (D := (dC, dI)) (ci := 3) (v := .ref (x 27)) (C := RX3) (T := TX3) (N := 10) hx hb hts inB_3 hown hE.1 hP 26 rfl rfl 2 (Nat.le_of_ble_eq_true rfl) (hts _ k_372) (fun _ h9 => h9) rfl dX3_daysTillOut_20 ?_
        refine lv_iload_n hx hb dX3_daysTillOut_23 rfl (lv_at hl 2 rfl) ?_
        refine cbVi (n := 1) (rest := []) hx hb hml hown hts hE hP hD hS hA (sX_X1_wears_2 0 l dC dI cy x0 x p1 v3 f3 hIv3 ) k_950 k_810 k_811 k_106 k_812 hd_yX1_wears ⟨Nat.le_of_ble_eq_true rfl, Nat.le_of_ble_eq_true rfl⟩ 28 1 rfl rfl (rfl) hl.1 rfl (Nat.le_of_ble_eq_true rfl) dX3_daysTillOut_24 (fun r5 u H locs hw hP hD hS => ?_)
        have hG6 := hw
        refine lv_iconst (v := (-1)) hx hb dX3_daysTillOut_27 rfl ?_
        refine lv_icmp_ne (tgt := 33) hx hb dX3_daysTillOut_28 rfl (fun c7 => ?_) (fun c7 => ?_)
        · skip
          refine lv_aload_n hx hb dX3_daysTillOut_33 rfl (lv_at hl 1 rfl) ?_
          refine va_get (D := (dC, dI)) (ci := 3) (v := .ref (x 27)) (C := RX3) (T := TX3) (N := 10) hx hb hts inB_3 hown hE.1 hP 26 rfl rfl 2 (Nat.le_of_ble_eq_true rfl) (hts _ k_372) (fun _ h9 => h9) rfl dX3_daysTillOut_34 ?_
          refine lv_iconst (v := 0) hx hb dX3_daysTillOut_37 rfl ?_
          refine cbVi (n := 1) (rest := []) hx hb hml hown hts hE hP hD hS hA (sX_X1_passDay_2 0 l dC dI cy x0 x 0 v3 f3 hIv3 ) k_949 k_866 k_867 k_106 k_868 hd_yX1_passDay ⟨Nat.le_of_ble_eq_true rfl, Nat.le_of_ble_eq_true rfl⟩ 28 1 rfl rfl (rfl) hl.1 rfl (Nat.le_of_ble_eq_true rfl) dX3_daysTillOut_38 (fun r8 u H locs hw hP hD hS => ?_)
          obtain ⟨hG9, hw⟩ := hw
          obtain ⟨v10, f11⟩ := u
          obtain ⟨kV_v10, kF_f11, hIv10, hk0_v10, hk1_v10, hk7_v10, hk8_v10, hk9_v10, hk10_v10, hk31_v10, hk32_v10⟩ := hw
          have hM_v10 : KV [] v10 v := KV.tr kV_v10 hM_v3 rfl
          have hA_f11 : KF [13, 14, 18] f11 f := KF.tr kF_f11 hA_f3 rfl
          have hP : va_P (dC, dI) vwCl (XW cy x0 x v10 f11) H := hP
          have hD : va_D A (XW cy x0 x v10 f11) := hD
          have hq0_v10 : v10 0 = (v 0) := hk0_v10.trans hq0_v3
          have hq1_v10 : v10 1 = (v 1) := hk1_v10.trans hq1_v3
          have hq7_v10 : v10 7 = (v 7) := hk7_v10.trans hq7_v3
          have hq8_v10 : v10 8 = (v 8) := hk8_v10.trans hq8_v3
          have hq9_v10 : v10 9 = (v 9) := hk9_v10.trans hq9_v3
          have hq10_v10 : v10 10 = (v 10) := hk10_v10.trans hq10_v3
          have hq31_v10 : v10 31 = (v 31) := hk31_v10.trans hq31_v3
          have hq32_v10 : v10 32 = (v 32) := hk32_v10.trans hq32_v3
          refine lv_pop hx hb dX3_daysTillOut_41 rfl ?_
          obtain ⟨t12, et12⟩ : ∃ y : Int32, y = l2_3 + 1 := ⟨_, rfl⟩
          have zt12 : t12.toInt = l2_3.toInt + 1 := (congrArg Int32.toInt et12).trans (add_i rfl tc_1 (om_41 hr2_3) (om_197 zc4))
          refine lv_iinc (v := t12) (lv' := [(2, .int t12), (0, .ref (x 25)), (1, .int p1)]) hx hb dX3_daysTillOut_42 hl (k := 0) rfl et12.symm (Nat.le_of_ble_eq_true rfl) rfl (fun ls hl => ?_)
          refine lv_goto (tgt := 13) hx hb dX3_daysTillOut_45 rfl ?_
          have rg14 := fb_rng t12
          exact ih3 t12 v10 f11 hIv10 hq0_v10 hq1_v10 hq7_v10 hq8_v10 hq9_v10 hq10_v10 hq31_v10 hq32_v10 ⟨show (0 : Int) ≤ t12.toInt from om_43 hr2_3 zt12, show t12.toInt ≤ (2147483647 : Int) from om_44 rg14⟩ hM_v10 hA_f11 (show (2147483647 - t12.toInt).toNat < n3 from om_33 hm3 zt12 rg14) _ _ _ hP hD hS (lv_sub hl [0, 1, 2] rfl)
        · skip
          refine lv_iload_n hx hb dX3_daysTillOut_31 rfl (lv_at hl 0 rfl) ?_
          exact ret l2_3 (v3, f3) _ _ _ _ _ _ rfl ⟨hM_v3, hA_f3, hIv3, hq0_v3, hq1_v3, hq7_v3, hq8_v3, hq9_v3, hq10_v3, hq31_v3, hq32_v3⟩ hP hD hS dX3_daysTillOut_32 (Nat.le_refl _) (Nat.le_refl _)
  exact lp3 _ 0 v1 f2 hIv1 hq0_v1 hq1_v1 hq7_v1 hq8_v1 hq9_v1 hq10_v1 hq31_v1 hq32_v1 ⟨by decide, by decide⟩ hM_v1 hA_f2 (Nat.lt_succ_self _) _ _ _ hP hD hS (lv_sub hl [0, 1, 2] rfl)
set_option maxHeartbeats 4000000 in
set_option maxRecDepth 100000 in
theorem sX_X10_out_1 (l : Launch) (dC : Nat → ClassId) (dI : Nat → Nat → Nat) (cy : Nat → ClassId) (x0 : Nat) (x : Nat → Nat) (p1 : Int32) (v : Nat → Int32) (f : Nat → Nat → Int32) (hIv : XI v)  : ctI l (dC, dI) cy yX10_out cX10_out 2 .int 7 201 0 0 ((Nat → Int32) × (Nat → Nat → Int32)) [.ref x0, .int p1] (XW cy x0 x v f) (fun r u => KV [] u.1 v ∧ KF [13, 14, 18] u.2 f ∧ XI u.1 ∧ u.1 0 = v 0 ∧ u.1 1 = v 1 ∧ u.1 7 = v 7 ∧ u.1 8 = v 8 ∧ u.1 9 = v 9 ∧ u.1 10 = v 10 ∧ u.1 31 = v 31 ∧ u.1 32 = v 32) (fun u => XW cy x0 x u.1 u.2) := by
  refine ctI_of (by decide) (Nat.le_of_ble_eq_true rfl) (fun p e s m below meth c A ls Q hx hb hml hts hown hE hP hD hA hl ret => ?_)
  have hM_v : KV [] v v := fun _ _ => rfl
  have hA_f : KF [13, 14, 18] f f := fun _ _ => rfl
  have hown : s.vm.findClass RX10 = some m.cls := hown
  have hS : va_S A s.heap s.heap [] := va_S.rf
  have hl : lv_has ls 2 [(0, .ref x0), (1, .int p1)] := hl
  refine lv_aload_n hx hb dX10_out_0 rfl (lv_at hl 0 rfl) ?_
  refine va_get (D := (dC, dI)) (ci := 10) (v := .ref (x 26)) (C := RX10) (T := TX10) (N := 10) hx hb hts inB_10 hown hE.1 hP 0 rfl rfl 2 (Nat.le_of_ble_eq_true rfl) (hts _ k_493) (fun _ h9 => h9) rfl dX10_out_1 ?_
  refine lv_iload_n hx hb dX10_out_4 rfl (lv_at hl 1 rfl) ?_
  refine cbVi (n := 1) (rest := []) hx hb hml hown hts hE hP hD hS hA (sX_X7_hasMan_1 0 l dC dI cy x0 x p1 v f hIv ) k_802 k_307 k_308 k_104 k_309 hd_yX7_hasMan ⟨Nat.le_of_ble_eq_true rfl, Nat.le_of_ble_eq_true rfl⟩ 27 7 rfl rfl (rfl) hl.1 rfl (Nat.le_of_ble_eq_true rfl) dX10_out_5 (fun r1 u H locs hw hP hD hS => ?_)
  obtain ⟨hG2, hw⟩ := hw
  rcases hw with ⟨g3, g3_0, g3_1, g3_2⟩ | ⟨g3⟩
  · skip
    subst g3
    -- @T g3_0 : 0 ≤ p1.toInt
    -- @T g3_1 : p1.toInt < (v 31).toInt
    -- @T g3_2 : p1.toInt ≤ 5
    refine lv_if_eq (tgt := 22) hx hb dX10_out_8 rfl (fun c0 => absurd c0 (by decide)) (fun _ => ?_)
    refine lv_aload_n hx hb dX10_out_11 rfl (lv_at hl 0 rfl) ?_
    refine va_get (D := (dC, dI)) (ci := 10) (v := .ref (x 25)) (C := RX10) (T := TX10) (N := 10) hx hb hts inB_10 hown hE.1 hP 0 rfl rfl 5 (Nat.le_of_ble_eq_true rfl) (hts _ k_496) (fun _ h9 => h9) rfl dX10_out_12 ?_
    refine lv_iload_n hx hb dX10_out_15 rfl (lv_at hl 1 rfl) ?_
    refine cbVi (n := 1) (rest := []) hx hb hml hown hts hE hP hD hS hA (sX_X3_daysTillOut_1 l dC dI cy x0 x p1 v f hIv ) k_955 k_956 k_957 k_109 k_958 hd_yX3_daysTillOut ⟨Nat.le_of_ble_eq_true rfl, Nat.le_of_ble_eq_true rfl⟩ 26 3 rfl rfl (rfl) hl.1 rfl (Nat.le_of_ble_eq_true rfl) dX10_out_16 (fun r4 u H locs hw hP hD hS => ?_)
    obtain ⟨v5, f6⟩ := u
    obtain ⟨kV_v5, kF_f6, hIv5, hk0_v5, hk1_v5, hk7_v5, hk8_v5, hk9_v5, hk10_v5, hk31_v5, hk32_v5⟩ := hw
    have hM_v5 : KV [] v5 v := KV.tr kV_v5 hM_v rfl
    have hA_f6 : KF [13, 14, 18] f6 f := KF.tr kF_f6 hA_f rfl
    have hP : va_P (dC, dI) vwCl (XW cy x0 x v5 f6) H := hP
    have hD : va_D A (XW cy x0 x v5 f6) := hD
    have hq0_v5 : v5 0 = (v 0) := hk0_v5
    have hq1_v5 : v5 1 = (v 1) := hk1_v5
    have hq7_v5 : v5 7 = (v 7) := hk7_v5
    have hq8_v5 : v5 8 = (v 8) := hk8_v5
    have hq9_v5 : v5 9 = (v 9) := hk9_v5
    have hq10_v5 : v5 10 = (v 10) := hk10_v5
    have hq31_v5 : v5 31 = (v 31) := hk31_v5
    have hq32_v5 : v5 32 = (v 32) := hk32_v5
    refine lv_goto (tgt := 23) hx hb dX10_out_19 rfl ?_
    exact ret r4 (v5, f6) _ _ _ _ _ _ rfl ⟨hM_v5, hA_f6, hIv5, hk0_v5, hk1_v5, hk7_v5, hk8_v5, hk9_v5, hk10_v5, hk31_v5, hk32_v5⟩ hP hD hS dX10_out_23 (Nat.le_refl _) (Nat.le_refl _)
  · skip
    subst g3
    refine lv_if_eq (tgt := 22) hx hb dX10_out_8 rfl (fun _ => ?_) (fun c0 => absurd (by decide) c0)
    refine lv_iconst (v := (-1)) hx hb dX10_out_22 rfl ?_
    exact ret (-1) (v, f) _ _ _ _ _ _ rfl ⟨hM_v, hA_f, hIv, rfl, rfl, rfl, rfl, rfl, rfl, rfl, rfl⟩ hP hD hS dX10_out_23 (Nat.le_refl _) (Nat.le_refl _)
set_option maxHeartbeats 4000000 in
set_option maxRecDepth 100000 in
theorem sX_X0_reckonGains_1 (l : Launch) (dC : Nat → ClassId) (dI : Nat → Nat → Nat) (cy : Nat → ClassId) (x0 : Nat) (x : Nat → Nat)  (v : Nat → Int32) (f : Nat → Nat → Int32) (hIv : XI v)  : ctV l (dC, dI) cy yX0_reckonGains cX0_reckonGains 4 4 133 0 0 ((Nat → Int32) × (Nat → Nat → Int32)) [.ref (x 31)] (XW cy x0 x v f) (fun u => KV [] u.1 v ∧ KF [13, 14, 22] u.2 f ∧ XI u.1 ∧ u.1 0 = v 0 ∧ u.1 1 = v 1 ∧ u.1 7 = v 7 ∧ u.1 8 = v 8 ∧ u.1 9 = v 9 ∧ u.1 10 = v 10 ∧ u.1 31 = v 31 ∧ u.1 32 = v 32) (fun u => XW cy x0 x u.1 u.2) := by
  refine ctV_of (by decide) (Nat.le_of_ble_eq_true rfl) (fun p e s m below meth c A ls Q hx hb hml hts hown hnm hE hP hD hA hl ret => ?_)
  have hM_v : KV [] v v := fun _ _ => rfl
  have hA_f : KF [13, 14, 22] f f := fun _ _ => rfl
  have hown : s.vm.findClass RX0 = some m.cls := hown
  have hS : va_S A s.heap s.heap [] := va_S.rf
  have hl : lv_has ls 4 [(0, .ref (x 31))] := hl
  refine lv_iconst (v := 0) hx hb dX0_reckonGains_0 rfl ?_
  refine lv_istore_n (lv' := [(1, .int 0), (0, .ref (x 31))]) hx hb dX0_reckonGains_1 rfl hl (Nat.le_of_ble_eq_true rfl) rfl (fun ls hl => ?_)
  have lp1 : ∀ (n1 : Nat) (l1_1 : Int32) (v1 : Nat → Int32) (f1 : Nat → Nat → Int32), XI v1 → v1 0 = (v 0) → v1 1 = (v 1) → v1 7 = (v 7) → v1 8 = (v 8) → v1 9 = (v 9) → v1 10 = (v 10) → v1 31 = (v 31) → v1 32 = (v 32) → ((0 : Int) ≤ l1_1.toInt ∧ l1_1.toInt ≤ 2147483647) → KV [] v1 v → KF [13, 14, 22] f1 f → (2147483647 - l1_1.toInt).toNat < n1 → ∀ (H : Heap) (locs : List Loc) (ls : Array Slot), va_P (dC, dI) vwCl (XW cy x0 x v1 f1) H → va_D A (XW cy x0 x v1 f1) → va_S A s.heap H locs → lv_has ls 4 [(1, .int l1_1), (0, .ref (x 31))] → W p l e { frames := 4, cells := 0, slots := 0, locals := 133 } s m ([.ref (x 31)] : List Value).toArray below meth c H locs 0 0 Q (F0 m 2 ls []) := by
    intro n1
    induction n1 with
    | zero => intro l1_1 v1 f1 hIv1 hq0_v1 hq1_v1 hq7_v1 hq8_v1 hq9_v1 hq10_v1 hq31_v1 hq32_v1 hr1_1 hM_v1 hA_f1 hm; exact absurd hm (Nat.not_lt_zero _)
    | succ n1 ih1 =>
      intro l1_1 v1 f1 hIv1 hq0_v1 hq1_v1 hq7_v1 hq8_v1 hq9_v1 hq10_v1 hq31_v1 hq32_v1 hr1_1 hM_v1 hA_f1 hm1 H locs ls hP hD hS hl
      refine lv_iload_n hx hb dX0_reckonGains_2 rfl (lv_at hl 0 rfl) ?_
      refine lv_aload_n hx hb dX0_reckonGains_3 rfl (lv_at hl 1 rfl) ?_
      refine va_get (D := (dC, dI)) (ci := 0) (v := .ref (x 26)) (C := RX0) (T := TX0) (N := 8) hx hb hts inB_0 hown hE.1 hP 32 rfl rfl 0 (Nat.le_of_ble_eq_true rfl) (hts _ k_430) (fun _ h9 => h9) rfl dX0_reckonGains_4 ?_
      refine va_getN (D := (dC, dI)) (ci := 7) (v := .int (v1 31)) (C := RX7) (T := TX7) (N := 10) hx hb hts inB_7 hown hE.1 hP 27 rfl rfl 3 (Nat.le_of_ble_eq_true rfl) (va_Nw.use rfl (hE.2 _ k_216)) (fun _ h9 => h9) rfl dX0_reckonGains_7 ?_
      refine tI (y := (v 31)) hq31_v1 ?_
      have b31_v : 0 ≤ (v 31).toInt ∧ (v 31).toInt ≤ 6 := Xb_31 hIv
      refine lv_icmp_ge (tgt := 79) hx hb dX0_reckonGains_10 rfl (fun c2 => ?_) (fun c2 => ?_)
      · skip
        exact ret (v1, f1) _ _ _ _ _ _ ⟨hM_v1, hA_f1, hIv1, (show v1 0 = v 0 from hq0_v1), (show v1 1 = v 1 from hq1_v1), (show v1 7 = v 7 from hq7_v1), (show v1 8 = v 8 from hq8_v1), (show v1 9 = v 9 from hq9_v1), (show v1 10 = v 10 from hq10_v1), (show v1 31 = v 31 from hq31_v1), (show v1 32 = v 32 from hq32_v1)⟩ hP hD hS dX0_reckonGains_79 (Nat.le_refl _) (Nat.le_refl _)
      · skip
        have zc2 : ¬ ((v 31).toInt ≤ l1_1.toInt) := zMn rfl rfl c2
        refine lv_iconst (v := 0) hx hb dX0_reckonGains_13 rfl ?_
        refine lv_istore_n (lv' := [(2, .int 0), (1, .int l1_1), (0, .ref (x 31))]) hx hb dX0_reckonGains_14 rfl hl (Nat.le_of_ble_eq_true rfl) rfl (fun ls hl => ?_)
        have lp7 : ∀ (n7 : Nat) (l2_7 : Int32) (v7 : Nat → Int32) (f7 : Nat → Nat → Int32), XI v7 → v7 0 = (v 0) → v7 1 = (v 1) → v7 7 = (v 7) → v7 8 = (v 8) → v7 9 = (v 9) → v7 10 = (v 10) → v7 31 = (v 31) → v7 32 = (v 32) → ((0 : Int) ≤ l2_7.toInt ∧ l2_7.toInt ≤ 2147483647) → KV [] v7 v → KF [13, 14, 22] f7 f → (2147483647 - l2_7.toInt).toNat < n7 → ∀ (H : Heap) (locs : List Loc) (ls : Array Slot), va_P (dC, dI) vwCl (XW cy x0 x v7 f7) H → va_D A (XW cy x0 x v7 f7) → va_S A s.heap H locs → lv_has ls 4 [(2, .int l2_7), (1, .int l1_1), (0, .ref (x 31))] → W p l e { frames := 4, cells := 0, slots := 0, locals := 133 } s m ([.ref (x 31)] : List Value).toArray below meth c H locs 0 0 Q (F0 m 15 ls []) := by
          intro n7
          induction n7 with
          | zero => intro l2_7 v7 f7 hIv7 hq0_v7 hq1_v7 hq7_v7 hq8_v7 hq9_v7 hq10_v7 hq31_v7 hq32_v7 hr2_7 hM_v7 hA_f7 hm; exact absurd hm (Nat.not_lt_zero _)
          | succ n7 ih7 =>
            intro l2_7 v7 f7 hIv7 hq0_v7 hq1_v7 hq7_v7 hq8_v7 hq9_v7 hq10_v7 hq31_v7 hq32_v7 hr2_7 hM_v7 hA_f7 hm7 H locs ls hP hD hS hl
            refine lv_iload_n hx hb dX0_reckonGains_15 rfl (lv_at hl 0 rfl) ?_
            refine lv_aload_n hx hb dX0_reckonGains_16 rfl (lv_at hl 2 rfl) ?_
            refine va_get (D := (dC, dI)) (ci := 0) (v := .ref (x 26)) (C := RX0) (T := TX0) (N := 8) hx hb hts inB_0 hown hE.1 hP 32 rfl rfl 0 (Nat.le_of_ble_eq_true rfl) (hts _ k_430) (fun _ h9 => h9) rfl dX0_reckonGains_17 ?_
            refine va_getN (D := (dC, dI)) (ci := 7) (v := .int (v7 32)) (C := RX7) (T := TX7) (N := 10) hx hb hts inB_7 hown hE.1 hP 27 rfl rfl 4 (Nat.le_of_ble_eq_true rfl) (va_Nw.use rfl (hE.2 _ k_222)) (fun _ h9 => h9) rfl dX0_reckonGains_20 ?_
            refine tI (y := (v 32)) hq32_v7 ?_
            have b32_v : 0 ≤ (v 32).toInt ∧ (v 32).toInt ≤ 6 := Xb_32 hIv
            refine lv_icmp_ge (tgt := 73) hx hb dX0_reckonGains_23 rfl (fun c8 => ?_) (fun c8 => ?_)
            · skip
              obtain ⟨t11, et11⟩ : ∃ y : Int32, y = l1_1 + 1 := ⟨_, rfl⟩
              have zt11 : t11.toInt = l1_1.toInt + 1 := (congrArg Int32.toInt et11).trans (add_i rfl tc_1 (om_41 hr1_1) (om_187 b31_v zc2))
              refine lv_iinc (v := t11) (lv' := [(1, .int t11), (2, .int l2_7), (0, .ref (x 31))]) hx hb dX0_reckonGains_73 hl (k := 1) rfl et11.symm (Nat.le_of_ble_eq_true rfl) rfl (fun ls hl => ?_)
              refine lv_goto (tgt := 2) hx hb dX0_reckonGains_76 rfl ?_
              have rg12 := fb_rng t11
              exact ih1 t11 v7 f7 hIv7 hq0_v7 hq1_v7 hq7_v7 hq8_v7 hq9_v7 hq10_v7 hq31_v7 hq32_v7 ⟨show (0 : Int) ≤ t11.toInt from om_43 hr1_1 zt11, show t11.toInt ≤ (2147483647 : Int) from om_44 rg12⟩ hM_v7 hA_f7 (show (2147483647 - t11.toInt).toNat < n1 from om_33 hm1 zt11 rg12) _ _ _ hP hD hS (lv_sub hl [0, 2] rfl)
            · skip
              have zc8 : ¬ ((v 32).toInt ≤ l2_7.toInt) := zMn rfl rfl c8
              refine lv_aload_n hx hb dX0_reckonGains_26 rfl (lv_at hl 2 rfl) ?_
              refine va_get (D := (dC, dI)) (ci := 0) (v := .ref (x 21)) (C := RX0) (T := TX0) (N := 8) hx hb hts inB_0 hown hE.1 hP 32 rfl rfl 1 (Nat.le_of_ble_eq_true rfl) (hts _ k_431) (fun _ h9 => h9) rfl dX0_reckonGains_27 ?_
              refine lv_iload_n hx hb dX0_reckonGains_30 rfl (lv_at hl 1 rfl) ?_
              refine lv_iload_n hx hb dX0_reckonGains_31 rfl (lv_at hl 0 rfl) ?_
              refine cbVi (n := 2) (rest := []) hx hb hml hown hts hE hP hD hS hA (sX_X1_illness_1 0 l dC dI cy x0 x l1_1 l2_7 v7 f7 hIv7 ) k_979 k_823 k_824 k_106 k_825 hd_yX1_illness ⟨Nat.le_of_ble_eq_true rfl, Nat.le_of_ble_eq_true rfl⟩ 22 1 rfl rfl (rfl) hl.1 rfl (Nat.le_of_ble_eq_true rfl) dX0_reckonGains_32 (fun r15 u H locs hw hP hD hS => ?_)
              obtain ⟨hG16, hw⟩ := hw
              obtain ⟨v17, f18⟩ := u
              obtain ⟨kV_v17, kF_f18, hIv17, hk0_v17, hk1_v17, hk7_v17, hk8_v17, hk9_v17, hk10_v17, hk31_v17, hk32_v17⟩ := hw
              have hM_v17 : KV [] v17 v := KV.tr kV_v17 hM_v7 rfl
              have hA_f18 : KF [13, 14, 22] f18 f := KF.tr kF_f18 hA_f7 rfl
              have hP : va_P (dC, dI) vwCl (XW cy x0 x v17 f18) H := hP
              have hD : va_D A (XW cy x0 x v17 f18) := hD
              have hq0_v17 : v17 0 = (v 0) := hk0_v17.trans hq0_v7
              have hq1_v17 : v17 1 = (v 1) := hk1_v17.trans hq1_v7
              have hq7_v17 : v17 7 = (v 7) := hk7_v17.trans hq7_v7
              have hq8_v17 : v17 8 = (v 8) := hk8_v17.trans hq8_v7
              have hq9_v17 : v17 9 = (v 9) := hk9_v17.trans hq9_v7
              have hq10_v17 : v17 10 = (v 10) := hk10_v17.trans hq10_v7
              have hq31_v17 : v17 31 = (v 31) := hk31_v17.trans hq31_v7
              have hq32_v17 : v17 32 = (v 32) := hk32_v17.trans hq32_v7
              refine lv_istore_n (lv' := [(3, .int r15), (2, .int l2_7), (1, .int l1_1), (0, .ref (x 31))]) hx hb dX0_reckonGains_35 rfl hl (Nat.le_of_ble_eq_true rfl) rfl (fun ls hl => ?_)
              refine lv_aload_n hx hb dX0_reckonGains_36 rfl (lv_at hl 3 rfl) ?_
              refine va_get (D := (dC, dI)) (ci := 0) (v := .ref (x 34)) (C := RX0) (T := TX0) (N := 8) hx hb hts inB_0 hown hE.1 hP 32 rfl rfl 5 (Nat.le_of_ble_eq_true rfl) (hts _ k_436) (fun _ h9 => h9) rfl dX0_reckonGains_37 ?_
              refine lv_iload_n hx hb dX0_reckonGains_40 rfl (lv_at hl 2 rfl) ?_
              refine lv_bipush (v := 6) hx hb dX0_reckonGains_41 rfl ?_
              refine lv_imul hx hb dX0_reckonGains_43 ?_
              refine lv_topi (fun t19 et19 => ?_)
              have zt19 : t19.toInt = l1_1.toInt * 6 := (congrArg Int32.toInt et19).trans (mul_i rfl tc_6 (om_110 hr1_1) (om_198 b31_v zc2))
              refine lv_iload_n hx hb dX0_reckonGains_44 rfl (lv_at hl 1 rfl) ?_
              refine lv_iadd hx hb dX0_reckonGains_45 ?_
              refine lv_topi (fun t20 et20 => ?_)
              have rg21 := fb_rng t19
              have zt20 : t20.toInt = t19.toInt + l2_7.toInt := (congrArg Int32.toInt et20).trans (add_i rfl rfl (om_114 hr2_7 rg21) (om_199 b31_v zc2 b32_v zc8 zt19))
              refine lv_iload_n hx hb dX0_reckonGains_46 rfl (lv_at hl 0 rfl) ?_
              refine lv_aload_n hx hb dX0_reckonGains_47 rfl (lv_at hl 3 rfl) ?_
              refine va_get (D := (dC, dI)) (ci := 0) (v := .ref (x 26)) (C := RX0) (T := TX0) (N := 8) hx hb hts inB_0 hown hE.1 hP 32 rfl rfl 0 (Nat.le_of_ble_eq_true rfl) (hts _ k_430) (fun _ h9 => h9) rfl dX0_reckonGains_48 ?_
              refine va_getN (D := (dC, dI)) (ci := 7) (v := .int (v17 33)) (C := RX7) (T := TX7) (N := 10) hx hb hts inB_7 hown hE.1 hP 27 rfl rfl 5 (Nat.le_of_ble_eq_true rfl) (va_Nw.use rfl (hE.2 _ k_229)) (fun _ h9 => h9) rfl dX0_reckonGains_51 ?_
              refine lv_icmp_gt (tgt := 65) hx hb dX0_reckonGains_54 rfl (fun c22 => ?_) (fun c22 => ?_)
              · skip
                refine lv_iconst (v := (-1)) hx hb dX0_reckonGains_65 rfl ?_
                refine stI hx hb hE hP hD hS 35 rfl (vpI (k := 36) rfl (show 0 ≤ t20.toInt from om_200 hr1_1 hr2_7 zt19 zt20) (show t20.toInt < 36 from om_201 b31_v zc2 b32_v zc8 zt19 zt20)) rfl dX0_reckonGains_66 (fun H locs hP hD hS => ?_)
                obtain ⟨f25, ef25, hP, hD⟩ : ∃ fz9, fz9 = upd2 f18 22 (upd (f18 22) t20.toNatClampNeg (-1)) ∧ va_P (dC, dI) vwCl (XW cy x0 x v17 fz9) H ∧ va_D A (XW cy x0 x v17 fz9) := ⟨_, rfl, hP, hD⟩
                have hA_f25 : KF [13, 14, 22] f25 f := by rw [ef25]; exact KF.up hA_f18 rfl
                obtain ⟨t26, et26⟩ : ∃ y : Int32, y = l2_7 + 1 := ⟨_, rfl⟩
                have zt26 : t26.toInt = l2_7.toInt + 1 := (congrArg Int32.toInt et26).trans (add_i rfl tc_1 (om_41 hr2_7) (om_187 b32_v zc8))
                refine lv_iinc (v := t26) (lv' := [(2, .int t26), (3, .int r15), (1, .int l1_1), (0, .ref (x 31))]) hx hb dX0_reckonGains_67 hl (k := 1) rfl et26.symm (Nat.le_of_ble_eq_true rfl) rfl (fun ls hl => ?_)
                refine lv_goto (tgt := 15) hx hb dX0_reckonGains_70 rfl ?_
                have rg27 := fb_rng t26
                exact ih7 t26 v17 f25 hIv17 hq0_v17 hq1_v17 hq7_v17 hq8_v17 hq9_v17 hq10_v17 hq31_v17 hq32_v17 ⟨show (0 : Int) ≤ t26.toInt from om_43 hr2_7 zt26, show t26.toInt ≤ (2147483647 : Int) from om_44 rg27⟩ hM_v17 hA_f25 (show (2147483647 - t26.toInt).toNat < n7 from om_33 hm7 zt26 rg27) _ _ _ hP hD hS (lv_sub hl [0, 2, 3] rfl)
              · skip
                refine lv_sipush (v := 10000) hx hb dX0_reckonGains_57 rfl ?_
                refine lv_iload_n hx hb dX0_reckonGains_60 rfl (lv_at hl 0 rfl) ?_
                refine lv_isub hx hb dX0_reckonGains_61 ?_
                refine lv_topi (fun t30 et30 => ?_)
                refine lv_goto (tgt := 66) hx hb dX0_reckonGains_62 rfl ?_
                refine stI hx hb hE hP hD hS 35 rfl (vpI (k := 36) rfl (show 0 ≤ t20.toInt from om_200 hr1_1 hr2_7 zt19 zt20) (show t20.toInt < 36 from om_201 b31_v zc2 b32_v zc8 zt19 zt20)) rfl dX0_reckonGains_66 (fun H locs hP hD hS => ?_)
                obtain ⟨f31, ef31, hP, hD⟩ : ∃ fz9, fz9 = upd2 f18 22 (upd (f18 22) t20.toNatClampNeg t30) ∧ va_P (dC, dI) vwCl (XW cy x0 x v17 fz9) H ∧ va_D A (XW cy x0 x v17 fz9) := ⟨_, rfl, hP, hD⟩
                have hA_f31 : KF [13, 14, 22] f31 f := by rw [ef31]; exact KF.up hA_f18 rfl
                obtain ⟨t32, et32⟩ : ∃ y : Int32, y = l2_7 + 1 := ⟨_, rfl⟩
                have zt32 : t32.toInt = l2_7.toInt + 1 := (congrArg Int32.toInt et32).trans (add_i rfl tc_1 (om_41 hr2_7) (om_187 b32_v zc8))
                refine lv_iinc (v := t32) (lv' := [(2, .int t32), (3, .int r15), (1, .int l1_1), (0, .ref (x 31))]) hx hb dX0_reckonGains_67 hl (k := 1) rfl et32.symm (Nat.le_of_ble_eq_true rfl) rfl (fun ls hl => ?_)
                refine lv_goto (tgt := 15) hx hb dX0_reckonGains_70 rfl ?_
                have rg33 := fb_rng t32
                exact ih7 t32 v17 f31 hIv17 hq0_v17 hq1_v17 hq7_v17 hq8_v17 hq9_v17 hq10_v17 hq31_v17 hq32_v17 ⟨show (0 : Int) ≤ t32.toInt from om_43 hr2_7 zt32, show t32.toInt ≤ (2147483647 : Int) from om_44 rg33⟩ hM_v17 hA_f31 (show (2147483647 - t32.toInt).toNat < n7 from om_33 hm7 zt32 rg33) _ _ _ hP hD hS (lv_sub hl [0, 2, 3] rfl)
        exact lp7 _ 0 v1 f1 hIv1 hq0_v1 hq1_v1 hq7_v1 hq8_v1 hq9_v1 hq10_v1 hq31_v1 hq32_v1 ⟨by decide, by decide⟩ hM_v1 hA_f1 (Nat.lt_succ_self _) _ _ _ hP hD hS (lv_sub hl [0, 1, 2] rfl)
  exact lp1 _ 0 v f hIv rfl rfl rfl rfl rfl rfl rfl rfl ⟨by decide, by decide⟩ hM_v hA_f (Nat.lt_succ_self _) _ _ _ hP hD hS (lv_sub hl [0, 1] rfl)
def gsX_J7_fill_53178_2_L1 (NF : Nat) (p1 : Int32) : Nat → (Int32) → (Nat → Int32) → (Nat → Nat → Int32) → (Nat → Int32) × (Nat → Nat → Int32)
  | 0, _, _, _ => ((fun _ => 0), (fun _ _ => 0))
  | n1 + 1, l2_1, v1, f1 =>
    if 448 ≤ l2_1 then
      (v1, f1)
    else
      let f3 : Nat → Nat → Int32 := upd2 f1 21 (upd (f1 21) l2_1.toNatClampNeg p1)
      let t4 : Int32 := l2_1 + 1
      gsX_J7_fill_53178_2_L1 NF p1 n1 t4 v1 f3
def gsX_J7_fill_53178_2 (NF : Nat) (p1 : Int32) (v : Nat → Int32) (f : Nat → Nat → Int32) : (Nat → Int32) × (Nat → Nat → Int32) :=
  gsX_J7_fill_53178_2_L1 NF p1 (4294967296 + NF) 0 v f
theorem gsX_J7_fill_53178_2_q2 {NF : Nat} {p1 : Int32} {v : Nat → Int32} {f : Nat → Nat → Int32}  : gsX_J7_fill_53178_2 NF p1 v f = gsX_J7_fill_53178_2_L1 NF p1 (4294967296 + NF) 0 v f := by
  simp only [gsX_J7_fill_53178_2]
theorem gsX_J7_fill_53178_2_q0 {NF : Nat} {p1 : Int32} {n1 : Nat} {l2_1 : Int32} {v1 : Nat → Int32} {f1 : Nat → Nat → Int32} (h0 : (448 ≤ l2_1)) : gsX_J7_fill_53178_2_L1 NF p1 (n1 + 1) l2_1 v1 f1 = (v1, f1) := by
  simp only [gsX_J7_fill_53178_2_L1, if_pos h0]
theorem gsX_J7_fill_53178_2_q1 {NF : Nat} {p1 : Int32} {n1 : Nat} {l2_1 : Int32} {v1 : Nat → Int32} {f1 : Nat → Nat → Int32} {f3 : Nat → Nat → Int32} {t4 : Int32} (h0 : ¬ (448 ≤ l2_1)) (h1 : f3 = upd2 f1 21 (upd (f1 21) l2_1.toNatClampNeg p1)) (h2 : t4 = l2_1 + 1) : gsX_J7_fill_53178_2_L1 NF p1 (n1 + 1) l2_1 v1 f1 = gsX_J7_fill_53178_2_L1 NF p1 n1 t4 v1 f3 := by
  subst h1 h2
  simp only [gsX_J7_fill_53178_2_L1, if_neg h0]
set_option maxHeartbeats 4000000 in
set_option maxRecDepth 100000 in
theorem sX_J7_fill_53178_2 (NF : Nat) (l : Launch) (dC : Nat → ClassId) (dI : Nat → Nat → Nat) (cy : Nat → ClassId) (x0 : Nat) (x : Nat → Nat) (p1 : Int32) (v : Nat → Int32) (f : Nat → Nat → Int32) (hIv : XI v)  : ctV l (dC, dI) cy yJ7_fill_53178 cJ7_fill_53178 4 1 60 0 0 ((Nat → Int32) × (Nat → Nat → Int32)) [.ref (x 33), .int p1] (XW cy x0 x v f) (fun u => gsX_J7_fill_53178_2 NF p1 v f = u ∧ KV [] u.1 v ∧ KF [21] u.2 f ∧ XI u.1 ∧ u.1 0 = v 0 ∧ u.1 1 = v 1 ∧ u.1 7 = v 7 ∧ u.1 8 = v 8 ∧ u.1 9 = v 9 ∧ u.1 10 = v 10 ∧ u.1 31 = v 31 ∧ u.1 32 = v 32) (fun u => XW cy x0 x u.1 u.2) := by
  refine ctV_of (by decide) (Nat.le_of_ble_eq_true rfl) (fun p e s m below meth c A ls Q hx hb hml hts hown hnm hE hP hD hA hl ret => ?_)
  have hM_v : KV [] v v := fun _ _ => rfl
  have hA_f : KF [21] f f := fun _ _ => rfl
  have hown : s.vm.findClass RJ7 = some m.cls := hown
  have hS : va_S A s.heap s.heap [] := va_S.rf
  have hl : lv_has ls 4 [(0, .ref (x 33)), (1, .int p1)] := hl
  refine lv_iconst (v := 0) hx hb dJ7_fill_53178_0 rfl ?_
  refine lv_istore_n (lv' := [(2, .int 0), (0, .ref (x 33)), (1, .int p1)]) hx hb dJ7_fill_53178_1 rfl hl (Nat.le_of_ble_eq_true rfl) rfl (fun ls hl => ?_)
  refine lv_aload_n hx hb dJ7_fill_53178_2 rfl (lv_at hl 1 rfl) ?_
  refine va_alen (v := 448) hx hb hE.1 hP 34 1 rfl rfl rfl dJ7_fill_53178_3 ?_
  refine lv_istore_n (lv' := [(3, .int 448), (2, .int 0), (0, .ref (x 33)), (1, .int p1)]) hx hb dJ7_fill_53178_4 rfl hl (Nat.le_of_ble_eq_true rfl) rfl (fun ls hl => ?_)
  have lp1 : ∀ (n1 : Nat) (l2_1 : Int32) (v1 : Nat → Int32) (f1 : Nat → Nat → Int32), XI v1 → v1 0 = (v 0) → v1 1 = (v 1) → v1 7 = (v 7) → v1 8 = (v 8) → v1 9 = (v 9) → v1 10 = (v 10) → v1 31 = (v 31) → v1 32 = (v 32) → gsX_J7_fill_53178_2_L1 NF p1 n1 l2_1 v1 f1 = (gsX_J7_fill_53178_2 NF p1 v f) → ((0 : Int) ≤ l2_1.toInt ∧ l2_1.toInt ≤ 2147483647) → KV [] v1 v → KF [21] f1 f → (2147483647 - l2_1.toInt).toNat < n1 → ∀ (H : Heap) (locs : List Loc) (ls : Array Slot), va_P (dC, dI) vwCl (XW cy x0 x v1 f1) H → va_D A (XW cy x0 x v1 f1) → va_S A s.heap H locs → lv_has ls 4 [(3, .int 448), (2, .int l2_1), (0, .ref (x 33)), (1, .int p1)] → W p l e { frames := 1, cells := 0, slots := 0, locals := 60 } s m ([.ref (x 33), .int p1] : List Value).toArray below meth c H locs 0 0 Q (F0 m 5 ls []) := by
    intro n1
    induction n1 with
    | zero => intro l2_1 v1 f1 hIv1 hq0_v1 hq1_v1 hq7_v1 hq8_v1 hq9_v1 hq10_v1 hq31_v1 hq32_v1 hT1 hr2_1 hM_v1 hA_f1 hm; exact absurd hm (Nat.not_lt_zero _)
    | succ n1 ih1 =>
      intro l2_1 v1 f1 hIv1 hq0_v1 hq1_v1 hq7_v1 hq8_v1 hq9_v1 hq10_v1 hq31_v1 hq32_v1 hT1 hr2_1 hM_v1 hA_f1 hm1 H locs ls hP hD hS hl
      refine lv_iload_n hx hb dJ7_fill_53178_5 rfl (lv_at hl 1 rfl) ?_
      refine lv_iload_n hx hb dJ7_fill_53178_6 rfl (lv_at hl 0 rfl) ?_
      refine lv_icmp_ge (tgt := 20) hx hb dJ7_fill_53178_7 rfl (fun c2 => ?_) (fun c2 => ?_)
      · skip
        exact ret (v1, f1) _ _ _ _ _ _ ⟨(hT1.symm.trans (gsX_J7_fill_53178_2_q0 c2)), hM_v1, hA_f1, hIv1, (show v1 0 = v 0 from hq0_v1), (show v1 1 = v 1 from hq1_v1), (show v1 7 = v 7 from hq7_v1), (show v1 8 = v 8 from hq8_v1), (show v1 9 = v 9 from hq9_v1), (show v1 10 = v 10 from hq10_v1), (show v1 31 = v 31 from hq31_v1), (show v1 32 = v 32 from hq32_v1)⟩ hP hD hS dJ7_fill_53178_20 (Nat.le_refl _) (Nat.le_refl _)
      · skip
        have zc2 : ¬ (448 ≤ l2_1.toInt) := zMn tc_448 rfl c2
        refine lv_aload_n hx hb dJ7_fill_53178_10 rfl (lv_at hl 2 rfl) ?_
        refine lv_iload_n hx hb dJ7_fill_53178_11 rfl (lv_at hl 1 rfl) ?_
        refine lv_iload_n hx hb dJ7_fill_53178_12 rfl (lv_at hl 3 rfl) ?_
        refine stI hx hb hE hP hD hS 34 rfl (vpI (k := 448) rfl (show 0 ≤ l2_1.toInt from om_39 hr2_1) (show l2_1.toInt < 448 from om_202 zc2)) rfl dJ7_fill_53178_13 (fun H locs hP hD hS => ?_)
        obtain ⟨f3, ef3, hP, hD⟩ : ∃ fz9, fz9 = upd2 f1 21 (upd (f1 21) l2_1.toNatClampNeg p1) ∧ va_P (dC, dI) vwCl (XW cy x0 x v1 fz9) H ∧ va_D A (XW cy x0 x v1 fz9) := ⟨_, rfl, hP, hD⟩
        have hA_f3 : KF [21] f3 f := by rw [ef3]; exact KF.up hA_f1 rfl
        obtain ⟨t4, et4⟩ : ∃ y : Int32, y = l2_1 + 1 := ⟨_, rfl⟩
        have zt4 : t4.toInt = l2_1.toInt + 1 := (congrArg Int32.toInt et4).trans (add_i rfl tc_1 (om_41 hr2_1) (om_203 zc2))
        refine lv_iinc (v := t4) (lv' := [(2, .int t4), (3, .int 448), (0, .ref (x 33)), (1, .int p1)]) hx hb dJ7_fill_53178_14 hl (k := 1) rfl et4.symm (Nat.le_of_ble_eq_true rfl) rfl (fun ls hl => ?_)
        refine lv_goto (tgt := 5) hx hb dJ7_fill_53178_17 rfl ?_
        have rg6 := fb_rng t4
        exact ih1 t4 v1 f3 hIv1 hq0_v1 hq1_v1 hq7_v1 hq8_v1 hq9_v1 hq10_v1 hq31_v1 hq32_v1 ((gsX_J7_fill_53178_2_q1 c2 ef3 et4).symm.trans hT1) ⟨show (0 : Int) ≤ t4.toInt from om_43 hr2_1 zt4, show t4.toInt ≤ (2147483647 : Int) from om_44 rg6⟩ hM_v1 hA_f3 (show (2147483647 - t4.toInt).toNat < n1 from om_33 hm1 zt4 rg6) _ _ _ hP hD hS (lv_sub hl [1, 0, 2, 3] rfl)
  exact lp1 (4294967296 + NF) 0 v f hIv rfl rfl rfl rfl rfl rfl rfl rfl gsX_J7_fill_53178_2_q2.symm ⟨by decide, by decide⟩ hM_v hA_f (show (2147483647 - (0 : Int32).toInt).toNat < 4294967296 + NF from om_38 tc_0) _ _ _ hP hD hS (lv_sub hl [0, 1, 2, 3] rfl)
set_option maxHeartbeats 4000000 in
set_option maxRecDepth 100000 in
theorem sX_X0_worthOf_1 (l : Launch) (dC : Nat → ClassId) (dI : Nat → Nat → Nat) (cy : Nat → ClassId) (x0 : Nat) (x : Nat → Nat) (p1 : Int32) (p2 : Int32) (p3 : Int32) (v : Nat → Int32) (f : Nat → Nat → Int32) (hIv : XI v) (hp1 : (0 : Int) ≤ p1.toInt ∧ p1.toInt ≤ 5) (hp2 : (0 : Int) ≤ p2.toInt ∧ p2.toInt ≤ 5) (hp3 : (0 : Int) ≤ p3.toInt ∧ p3.toInt ≤ 63) : ctI l (dC, dI) cy yX0_worthOf cX0_worthOf 5 .int 1 60 0 0 Unit [.ref (x 31), .int p1, .int p2, .int p3] (XW cy x0 x v f) (fun r u => True) (fun u => XW cy x0 x v f) := by
  refine ctI_of (by decide) (Nat.le_of_ble_eq_true rfl) (fun p e s m below meth c A ls Q hx hb hml hts hown hE hP hD hA hl ret => ?_)
  have hown : s.vm.findClass RX0 = some m.cls := hown
  have hS : va_S A s.heap s.heap [] := va_S.rf
  have hl : lv_has ls 5 [(0, .ref (x 31)), (1, .int p1), (2, .int p2), (3, .int p3)] := hl
  refine lv_aload_n hx hb dX0_worthOf_0 rfl (lv_at hl 0 rfl) ?_
  refine va_get (D := (dC, dI)) (ci := 0) (v := .ref (x 34)) (C := RX0) (T := TX0) (N := 8) hx hb hts inB_0 hown hE.1 hP 32 rfl rfl 5 (Nat.le_of_ble_eq_true rfl) (hts _ k_436) (fun _ h9 => h9) rfl dX0_worthOf_1 ?_
  refine lv_iload_n hx hb dX0_worthOf_4 rfl (lv_at hl 1 rfl) ?_
  refine lv_bipush (v := 6) hx hb dX0_worthOf_5 rfl ?_
  refine lv_imul hx hb dX0_worthOf_7 ?_
  refine lv_topi (fun t1 et1 => ?_)
  have zt1 : t1.toInt = p1.toInt * 6 := (congrArg Int32.toInt et1).trans (mul_i rfl tc_6 (om_204 hp1) (om_205 hp1))
  refine lv_iload_n hx hb dX0_worthOf_8 rfl (lv_at hl 2 rfl) ?_
  refine lv_iadd hx hb dX0_worthOf_9 ?_
  refine lv_topi (fun t3 et3 => ?_)
  have rg4 := fb_rng t1
  have zt3 : t3.toInt = t1.toInt + p2.toInt := (congrArg Int32.toInt et3).trans (add_i rfl rfl (om_206 hp2 rg4) (om_207 hp1 hp2 zt1))
  refine ldI hx hb hE hP 35 rfl (vpI (k := 36) rfl (show 0 ≤ t3.toInt from om_208 hp1 hp2 zt1 zt3) (show t3.toInt < 36 from om_209 hp1 hp2 zt1 zt3)) rfl rfl dX0_worthOf_10 ?_
  refine lv_topi (fun t6 et6 => ?_)
  refine lv_istore (lv' := [(4, .int t6), (0, .ref (x 31)), (1, .int p1), (2, .int p2), (3, .int p3)]) hx hb dX0_worthOf_11 hl (Nat.le_of_ble_eq_true rfl) rfl (fun ls hl => ?_)
  refine lv_iload hx hb dX0_worthOf_13 (lv_at hl 0 rfl) ?_
  refine lv_iconst (v := (-1)) hx hb dX0_worthOf_15 rfl ?_
  refine lv_icmp_eq (tgt := 27) hx hb dX0_worthOf_16 rfl (fun c7 => ?_) (fun c7 => ?_)
  · skip
    refine lv_iconst (v := (-1)) hx hb dX0_worthOf_27 rfl ?_
    exact ret (-1) () _ _ _ _ _ _ rfl trivial hP hD hS dX0_worthOf_28 (Nat.le_refl _) (Nat.le_refl _)
  · skip
    refine lv_iload_n hx hb dX0_worthOf_19 rfl (lv_at hl 4 rfl) ?_
    refine lv_iload_n hx hb dX0_worthOf_20 rfl (lv_at hl 3 rfl) ?_
    refine lv_ishr hx hb dX0_worthOf_21 ?_
    refine lv_topi (fun t8 et8 => ?_)
    refine lv_iconst (v := 1) hx hb dX0_worthOf_22 rfl ?_
    refine lv_iand hx hb dX0_worthOf_23 ?_
    refine lv_topi (fun t9 et9 => ?_)
    refine lv_if_eq (tgt := 29) hx hb dX0_worthOf_24 rfl (fun c10 => ?_) (fun c10 => ?_)
    · skip
      refine lv_iload hx hb dX0_worthOf_29 (lv_at hl 0 rfl) ?_
      refine lv_aload_n hx hb dX0_worthOf_31 rfl (lv_at hl 1 rfl) ?_
      refine va_get (D := (dC, dI)) (ci := 0) (v := .ref (x 33)) (C := RX0) (T := TX0) (N := 8) hx hb hts inB_0 hown hE.1 hP 32 rfl rfl 4 (Nat.le_of_ble_eq_true rfl) (hts _ k_435) (fun _ h9 => h9) rfl dX0_worthOf_32 ?_
      refine lv_iload_n hx hb dX0_worthOf_35 rfl (lv_at hl 2 rfl) ?_
      refine lv_iconst (v := 1) hx hb dX0_worthOf_36 rfl ?_
      refine lv_iadd hx hb dX0_worthOf_37 ?_
      refine lv_topi (fun t11 et11 => ?_)
      have zt11 : t11.toInt = p1.toInt + 1 := (congrArg Int32.toInt et11).trans (add_i rfl tc_1 (om_210 hp1) (om_211 hp1))
      refine lv_bipush (v := 64) hx hb dX0_worthOf_38 rfl ?_
      refine lv_imul hx hb dX0_worthOf_40 ?_
      refine lv_topi (fun t12 et12 => ?_)
      have zt12 : t12.toInt = t11.toInt * 64 := (congrArg Int32.toInt et12).trans (mul_i rfl tc_64 (om_212 hp1 zt11) (om_213 hp1 zt11))
      refine lv_iload_n hx hb dX0_worthOf_41 rfl (lv_at hl 4 rfl) ?_
      refine lv_iconst (v := 1) hx hb dX0_worthOf_42 rfl ?_
      refine lv_iload_n hx hb dX0_worthOf_43 rfl (lv_at hl 3 rfl) ?_
      refine lv_ishl hx hb dX0_worthOf_44 ?_
      refine lv_topi (fun t14 et14 => ?_)
      have zt14 : 1 ≤ t14.toInt ∧ t14.toInt ≤ 32 := by rw [et14]; exact shl1_rng (show 0 ≤ p2.toInt from om_214 hp2) (show p2.toInt ≤ 5 from om_215 hp2)
      refine lv_ior hx hb dX0_worthOf_45 ?_
      refine lv_topi (fun t15 et15 => ?_)
      have zt15 : 0 ≤ t15.toInt ∧ t15.toInt ≤ 63 := by rw [et15]; exact or_rng (show 0 ≤ p3.toInt from om_216 hp3) (show p3.toInt ≤ 63 from om_217 hp3) (show 0 ≤ t14.toInt from om_218 zt14) (show t14.toInt ≤ 63 from om_219 zt14)
      refine lv_iadd hx hb dX0_worthOf_46 ?_
      refine lv_topi (fun t16 et16 => ?_)
      have rg17 := fb_rng t12
      have zt16 : t16.toInt = t12.toInt + t15.toInt := (congrArg Int32.toInt et16).trans (add_i rfl rfl (om_220 zt15 rg17) (om_221 zt12 zt15 rg17))
      refine ldI hx hb hE hP 34 rfl (vpI (k := 448) rfl (show 0 ≤ t16.toInt from om_222 hp1 zt11 zt12 zt15 zt16) (show t16.toInt < 448 from om_223 hp1 zt11 zt12 zt15 zt16)) rfl rfl dX0_worthOf_47 ?_
      refine lv_topi (fun t19 et19 => ?_)
      refine lv_iadd hx hb dX0_worthOf_48 ?_
      refine lv_topi (fun t20 et20 => ?_)
      exact ret t20 () _ _ _ _ _ _ rfl trivial hP hD hS dX0_worthOf_49 (Nat.le_refl _) (Nat.le_refl _)
    · skip
      refine lv_iconst (v := (-1)) hx hb dX0_worthOf_27 rfl ?_
      exact ret (-1) () _ _ _ _ _ _ rfl trivial hP hD hS dX0_worthOf_28 (Nat.le_refl _) (Nat.le_refl _)
set_option maxHeartbeats 4000000 in
set_option maxRecDepth 100000 in
theorem sX_X0_reckonBest_1 (l : Launch) (dC : Nat → ClassId) (dI : Nat → Nat → Nat) (cy : Nat → ClassId) (x0 : Nat) (x : Nat → Nat)  (v : Nat → Int32) (f : Nat → Nat → Int32) (hIv : XI v)  : ctV l (dC, dI) cy yX0_reckonBest cX0_reckonBest 5 2 84 0 0 ((Nat → Int32) × (Nat → Nat → Int32)) [.ref (x 31)] (XW cy x0 x v f) (fun u => KV [] u.1 v ∧ KF [21] u.2 f ∧ XI u.1 ∧ u.1 0 = v 0 ∧ u.1 1 = v 1 ∧ u.1 7 = v 7 ∧ u.1 8 = v 8 ∧ u.1 9 = v 9 ∧ u.1 10 = v 10 ∧ u.1 31 = v 31 ∧ u.1 32 = v 32) (fun u => XW cy x0 x u.1 u.2) := by
  refine ctV_of (by decide) (Nat.le_of_ble_eq_true rfl) (fun p e s m below meth c A ls Q hx hb hml hts hown hnm hE hP hD hA hl ret => ?_)
  have hM_v : KV [] v v := fun _ _ => rfl
  have hA_f : KF [21] f f := fun _ _ => rfl
  have hown : s.vm.findClass RX0 = some m.cls := hown
  have hS : va_S A s.heap s.heap [] := va_S.rf
  have hl : lv_has ls 5 [(0, .ref (x 31))] := hl
  refine lv_aload_n hx hb dX0_reckonBest_0 rfl (lv_at hl 0 rfl) ?_
  refine va_get (D := (dC, dI)) (ci := 0) (v := .ref (x 33)) (C := RX0) (T := TX0) (N := 8) hx hb hts inB_0 hown hE.1 hP 32 rfl rfl 4 (Nat.le_of_ble_eq_true rfl) (hts _ k_435) (fun _ h9 => h9) rfl dX0_reckonBest_1 ?_
  refine lv_iconst (v := 0) hx hb dX0_reckonBest_4 rfl ?_
  refine cbSv (n := 2) (rest := []) hx hb hml hown hts hE hP hD hS hA (sX_J7_fill_53178_2 0 l dC dI cy x0 x 0 v f hIv ) k_984 k_465 k_113 k_466 he_yJ7_fill_53178 ⟨Nat.le_of_ble_eq_true rfl, Nat.le_of_ble_eq_true rfl⟩ (rfl) hl.1 rfl (Nat.le_of_ble_eq_true rfl) dX0_reckonBest_5 (fun u H locs hw hP hD hS => ?_)
  obtain ⟨hG1, hw⟩ := hw
  obtain ⟨v2, f3⟩ := u
  obtain ⟨kV_v2, kF_f3, hIv2, hk0_v2, hk1_v2, hk7_v2, hk8_v2, hk9_v2, hk10_v2, hk31_v2, hk32_v2⟩ := hw
  have hM_v2 : KV [] v2 v := KV.tr kV_v2 hM_v rfl
  have hA_f3 : KF [21] f3 f := KF.tr kF_f3 hA_f rfl
  have hP : va_P (dC, dI) vwCl (XW cy x0 x v2 f3) H := hP
  have hD : va_D A (XW cy x0 x v2 f3) := hD
  have hq0_v2 : v2 0 = (v 0) := hk0_v2
  have hq1_v2 : v2 1 = (v 1) := hk1_v2
  have hq7_v2 : v2 7 = (v 7) := hk7_v2
  have hq8_v2 : v2 8 = (v 8) := hk8_v2
  have hq9_v2 : v2 9 = (v 9) := hk9_v2
  have hq10_v2 : v2 10 = (v 10) := hk10_v2
  have hq31_v2 : v2 31 = (v 31) := hk31_v2
  have hq32_v2 : v2 32 = (v 32) := hk32_v2
  refine lv_aload_n hx hb dX0_reckonBest_8 rfl (lv_at hl 0 rfl) ?_
  refine va_get (D := (dC, dI)) (ci := 0) (v := .ref (x 26)) (C := RX0) (T := TX0) (N := 8) hx hb hts inB_0 hown hE.1 hP 32 rfl rfl 0 (Nat.le_of_ble_eq_true rfl) (hts _ k_430) (fun _ h9 => h9) rfl dX0_reckonBest_9 ?_
  refine va_getN (D := (dC, dI)) (ci := 7) (v := .int (v2 31)) (C := RX7) (T := TX7) (N := 10) hx hb hts inB_7 hown hE.1 hP 27 rfl rfl 3 (Nat.le_of_ble_eq_true rfl) (va_Nw.use rfl (hE.2 _ k_216)) (fun _ h9 => h9) rfl dX0_reckonBest_12 ?_
  refine tI (y := (v 31)) hq31_v2 ?_
  have b31_v : 0 ≤ (v 31).toInt ∧ (v 31).toInt ≤ 6 := Xb_31 hIv
  refine lv_iconst (v := 1) hx hb dX0_reckonBest_15 rfl ?_
  refine lv_isub hx hb dX0_reckonBest_16 ?_
  refine lv_topi (fun t4 et4 => ?_)
  have zt4 : t4.toInt = (v 31).toInt - 1 := (congrArg Int32.toInt et4).trans (sub_i rfl tc_1 (om_224 b31_v) (om_225 b31_v))
  refine lv_istore_n (lv' := [(1, .int t4), (0, .ref (x 31))]) hx hb dX0_reckonBest_17 rfl hl (Nat.le_of_ble_eq_true rfl) rfl (fun ls hl => ?_)
  have lp6 : ∀ (n6 : Nat) (l1_6 : Int32) (v6 : Nat → Int32) (f6 : Nat → Nat → Int32), XI v6 → v6 0 = (v 0) → v6 1 = (v 1) → v6 7 = (v 7) → v6 8 = (v 8) → v6 9 = (v 9) → v6 10 = (v 10) → v6 31 = (v 31) → v6 32 = (v 32) → ((-2147483648 : Int) ≤ l1_6.toInt ∧ l1_6.toInt ≤ 5) → KV [] v6 v → KF [21] f6 f → (l1_6.toInt + 2147483648).toNat < n6 → ∀ (H : Heap) (locs : List Loc) (ls : Array Slot), va_P (dC, dI) vwCl (XW cy x0 x v6 f6) H → va_D A (XW cy x0 x v6 f6) → va_S A s.heap H locs → lv_has ls 5 [(1, .int l1_6), (0, .ref (x 31))] → W p l e { frames := 2, cells := 0, slots := 0, locals := 84 } s m ([.ref (x 31)] : List Value).toArray below meth c H locs 0 0 Q (F0 m 18 ls []) := by
    intro n6
    induction n6 with
    | zero => intro l1_6 v6 f6 hIv6 hq0_v6 hq1_v6 hq7_v6 hq8_v6 hq9_v6 hq10_v6 hq31_v6 hq32_v6 hr1_6 hM_v6 hA_f6 hm; exact absurd hm (Nat.not_lt_zero _)
    | succ n6 ih6 =>
      intro l1_6 v6 f6 hIv6 hq0_v6 hq1_v6 hq7_v6 hq8_v6 hq9_v6 hq10_v6 hq31_v6 hq32_v6 hr1_6 hM_v6 hA_f6 hm6 H locs ls hP hD hS hl
      refine lv_iload_n hx hb dX0_reckonBest_18 rfl (lv_at hl 0 rfl) ?_
      refine lv_if_lt (tgt := 102) hx hb dX0_reckonBest_19 rfl (fun c7 => ?_) (fun c7 => ?_)
      · skip
        exact ret (v6, f6) _ _ _ _ _ _ ⟨hM_v6, hA_f6, hIv6, hq0_v6, hq1_v6, hq7_v6, hq8_v6, hq9_v6, hq10_v6, hq31_v6, hq32_v6⟩ hP hD hS dX0_reckonBest_102 (Nat.le_refl _) (Nat.le_refl _)
      · skip
        have zc7 : ¬ (l1_6.toInt < 0) := zLn rfl tc_0 c7
        refine lv_iconst (v := 0) hx hb dX0_reckonBest_22 rfl ?_
        refine lv_istore_n (lv' := [(2, .int 0), (1, .int l1_6), (0, .ref (x 31))]) hx hb dX0_reckonBest_23 rfl hl (Nat.le_of_ble_eq_true rfl) rfl (fun ls hl => ?_)
        have lp8 : ∀ (n8 : Nat) (l2_8 : Int32) (v8 : Nat → Int32) (f8 : Nat → Nat → Int32), XI v8 → v8 0 = (v 0) → v8 1 = (v 1) → v8 7 = (v 7) → v8 8 = (v 8) → v8 9 = (v 9) → v8 10 = (v 10) → v8 31 = (v 31) → v8 32 = (v 32) → ((0 : Int) ≤ l2_8.toInt ∧ l2_8.toInt ≤ 2147483647) → KV [] v8 v → KF [21] f8 f → (2147483647 - l2_8.toInt).toNat < n8 → ∀ (H : Heap) (locs : List Loc) (ls : Array Slot), va_P (dC, dI) vwCl (XW cy x0 x v8 f8) H → va_D A (XW cy x0 x v8 f8) → va_S A s.heap H locs → lv_has ls 5 [(2, .int l2_8), (1, .int l1_6), (0, .ref (x 31))] → W p l e { frames := 2, cells := 0, slots := 0, locals := 84 } s m ([.ref (x 31)] : List Value).toArray below meth c H locs 0 0 Q (F0 m 24 ls []) := by
          intro n8
          induction n8 with
          | zero => intro l2_8 v8 f8 hIv8 hq0_v8 hq1_v8 hq7_v8 hq8_v8 hq9_v8 hq10_v8 hq31_v8 hq32_v8 hr2_8 hM_v8 hA_f8 hm; exact absurd hm (Nat.not_lt_zero _)
          | succ n8 ih8 =>
            intro l2_8 v8 f8 hIv8 hq0_v8 hq1_v8 hq7_v8 hq8_v8 hq9_v8 hq10_v8 hq31_v8 hq32_v8 hr2_8 hM_v8 hA_f8 hm8 H locs ls hP hD hS hl
            refine lv_iload_n hx hb dX0_reckonBest_24 rfl (lv_at hl 0 rfl) ?_
            refine lv_bipush (v := 64) hx hb dX0_reckonBest_25 rfl ?_
            refine lv_icmp_ge (tgt := 96) hx hb dX0_reckonBest_27 rfl (fun c9 => ?_) (fun c9 => ?_)
            · skip
              obtain ⟨t10, et10⟩ : ∃ y : Int32, y = l1_6 + (-1) := ⟨_, rfl⟩
              have zt10 : t10.toInt = l1_6.toInt + (-1) := (congrArg Int32.toInt et10).trans (add_i rfl tc_m1 (om_226 zc7) (om_227 hr1_6))
              refine lv_iinc (v := t10) (lv' := [(1, .int t10), (2, .int l2_8), (0, .ref (x 31))]) hx hb dX0_reckonBest_96 hl (k := 1) rfl et10.symm (Nat.le_of_ble_eq_true rfl) rfl (fun ls hl => ?_)
              refine lv_goto (tgt := 18) hx hb dX0_reckonBest_99 rfl ?_
              have rg12 := fb_rng t10
              exact ih6 t10 v8 f8 hIv8 hq0_v8 hq1_v8 hq7_v8 hq8_v8 hq9_v8 hq10_v8 hq31_v8 hq32_v8 ⟨show (-2147483648 : Int) ≤ t10.toInt from om_10 rg12, show t10.toInt ≤ (5 : Int) from om_228 hr1_6 zt10⟩ hM_v8 hA_f8 (show (t10.toInt + 2147483648).toNat < n6 from om_229 hm6 zt10 rg12) _ _ _ hP hD hS (lv_sub hl [0, 2] rfl)
            · skip
              have zc9 : ¬ (64 ≤ l2_8.toInt) := zMn tc_64 rfl c9
              refine lv_aload_n hx hb dX0_reckonBest_30 rfl (lv_at hl 2 rfl) ?_
              refine va_get (D := (dC, dI)) (ci := 0) (v := .ref (x 33)) (C := RX0) (T := TX0) (N := 8) hx hb hts inB_0 hown hE.1 hP 32 rfl rfl 4 (Nat.le_of_ble_eq_true rfl) (hts _ k_435) (fun _ h9 => h9) rfl dX0_reckonBest_31 ?_
              refine lv_iload_n hx hb dX0_reckonBest_34 rfl (lv_at hl 1 rfl) ?_
              refine lv_iconst (v := 1) hx hb dX0_reckonBest_35 rfl ?_
              refine lv_iadd hx hb dX0_reckonBest_36 ?_
              refine lv_topi (fun t13 et13 => ?_)
              have zt13 : t13.toInt = l1_6.toInt + 1 := (congrArg Int32.toInt et13).trans (add_i rfl tc_1 (om_230 zc7) (om_231 hr1_6))
              refine lv_bipush (v := 64) hx hb dX0_reckonBest_37 rfl ?_
              refine lv_imul hx hb dX0_reckonBest_39 ?_
              refine lv_topi (fun t15 et15 => ?_)
              have zt15 : t15.toInt = t13.toInt * 64 := (congrArg Int32.toInt et15).trans (mul_i rfl tc_64 (om_232 zc7 zt13) (om_233 hr1_6 zt13))
              refine lv_iload_n hx hb dX0_reckonBest_40 rfl (lv_at hl 0 rfl) ?_
              refine lv_iadd hx hb dX0_reckonBest_41 ?_
              refine lv_topi (fun t17 et17 => ?_)
              have rg18 := fb_rng t15
              have zt17 : t17.toInt = t15.toInt + l2_8.toInt := (congrArg Int32.toInt et17).trans (add_i rfl rfl (om_114 hr2_8 rg18) (om_234 zc9 zt15 rg18))
              refine ldI hx hb hE hP 34 rfl (vpI (k := 448) rfl (show 0 ≤ t17.toInt from om_235 zc7 hr2_8 zt13 zt15 zt17) (show t17.toInt < 448 from om_236 hr1_6 zc9 zt13 zt15 zt17)) rfl rfl dX0_reckonBest_42 ?_
              refine lv_topi (fun t20 et20 => ?_)
              refine lv_istore_n (lv' := [(3, .int t20), (2, .int l2_8), (1, .int l1_6), (0, .ref (x 31))]) hx hb dX0_reckonBest_43 rfl hl (Nat.le_of_ble_eq_true rfl) rfl (fun ls hl => ?_)
              refine lv_iconst (v := 0) hx hb dX0_reckonBest_44 rfl ?_
              refine lv_istore (lv' := [(4, .int 0), (3, .int t20), (2, .int l2_8), (1, .int l1_6), (0, .ref (x 31))]) hx hb dX0_reckonBest_45 hl (Nat.le_of_ble_eq_true rfl) rfl (fun ls hl => ?_)
              have lp21 : ∀ (n21 : Nat) (l3_21 : Int32) (l4_21 : Int32), ((0 : Int) ≤ l4_21.toInt ∧ l4_21.toInt ≤ 2147483647) → (2147483647 - l4_21.toInt).toNat < n21 → ∀ (H : Heap) (locs : List Loc) (ls : Array Slot), va_P (dC, dI) vwCl (XW cy x0 x v8 f8) H → va_D A (XW cy x0 x v8 f8) → va_S A s.heap H locs → lv_has ls 5 [(4, .int l4_21), (3, .int l3_21), (2, .int l2_8), (1, .int l1_6), (0, .ref (x 31))] → W p l e { frames := 2, cells := 0, slots := 0, locals := 84 } s m ([.ref (x 31)] : List Value).toArray below meth c H locs 0 0 Q (F0 m 47 ls []) := by
                intro n21
                induction n21 with
                | zero => intro l3_21 l4_21 hr4_21 hm; exact absurd hm (Nat.not_lt_zero _)
                | succ n21 ih21 =>
                  intro l3_21 l4_21 hr4_21 hm21 H locs ls hP hD hS hl
                  refine lv_iload hx hb dX0_reckonBest_47 (lv_at hl 0 rfl) ?_
                  refine lv_aload_n hx hb dX0_reckonBest_49 rfl (lv_at hl 4 rfl) ?_
                  refine va_get (D := (dC, dI)) (ci := 0) (v := .ref (x 26)) (C := RX0) (T := TX0) (N := 8) hx hb hts inB_0 hown hE.1 hP 32 rfl rfl 0 (Nat.le_of_ble_eq_true rfl) (hts _ k_430) (fun _ h9 => h9) rfl dX0_reckonBest_50 ?_
                  refine va_getN (D := (dC, dI)) (ci := 7) (v := .int (v8 32)) (C := RX7) (T := TX7) (N := 10) hx hb hts inB_7 hown hE.1 hP 27 rfl rfl 4 (Nat.le_of_ble_eq_true rfl) (va_Nw.use rfl (hE.2 _ k_222)) (fun _ h9 => h9) rfl dX0_reckonBest_53 ?_
                  refine tI (y := (v 32)) hq32_v8 ?_
                  have b32_v : 0 ≤ (v 32).toInt ∧ (v 32).toInt ≤ 6 := Xb_32 hIv
                  refine lv_icmp_ge (tgt := 78) hx hb dX0_reckonBest_56 rfl (fun c22 => ?_) (fun c22 => ?_)
                  · skip
                    refine lv_aload_n hx hb dX0_reckonBest_78 rfl (lv_at hl 4 rfl) ?_
                    refine va_get (D := (dC, dI)) (ci := 0) (v := .ref (x 33)) (C := RX0) (T := TX0) (N := 8) hx hb hts inB_0 hown hE.1 hP 32 rfl rfl 4 (Nat.le_of_ble_eq_true rfl) (hts _ k_435) (fun _ h9 => h9) rfl dX0_reckonBest_79 ?_
                    refine lv_iload_n hx hb dX0_reckonBest_82 rfl (lv_at hl 3 rfl) ?_
                    refine lv_bipush (v := 64) hx hb dX0_reckonBest_83 rfl ?_
                    refine lv_imul hx hb dX0_reckonBest_85 ?_
                    refine lv_topi (fun t25 et25 => ?_)
                    have zt25 : t25.toInt = l1_6.toInt * 64 := (congrArg Int32.toInt et25).trans (mul_i rfl tc_64 (om_237 zc7) (om_238 hr1_6))
                    refine lv_iload_n hx hb dX0_reckonBest_86 rfl (lv_at hl 2 rfl) ?_
                    refine lv_iadd hx hb dX0_reckonBest_87 ?_
                    refine lv_topi (fun t26 et26 => ?_)
                    have rg27 := fb_rng t25
                    have zt26 : t26.toInt = t25.toInt + l2_8.toInt := (congrArg Int32.toInt et26).trans (add_i rfl rfl (om_114 hr2_8 rg27) (om_234 zc9 zt25 rg27))
                    refine lv_iload_n hx hb dX0_reckonBest_88 rfl (lv_at hl 1 rfl) ?_
                    refine stI hx hb hE hP hD hS 34 rfl (vpI (k := 448) rfl (show 0 ≤ t26.toInt from om_239 zc7 hr2_8 zt25 zt26) (show t26.toInt < 448 from om_240 hr1_6 zc9 zt25 zt26)) rfl dX0_reckonBest_89 (fun H locs hP hD hS => ?_)
                    obtain ⟨f28, ef28, hP, hD⟩ : ∃ fz9, fz9 = upd2 f8 21 (upd (f8 21) t26.toNatClampNeg l3_21) ∧ va_P (dC, dI) vwCl (XW cy x0 x v8 fz9) H ∧ va_D A (XW cy x0 x v8 fz9) := ⟨_, rfl, hP, hD⟩
                    have hA_f28 : KF [21] f28 f := by rw [ef28]; exact KF.up hA_f8 rfl
                    obtain ⟨t29, et29⟩ : ∃ y : Int32, y = l2_8 + 1 := ⟨_, rfl⟩
                    have zt29 : t29.toInt = l2_8.toInt + 1 := (congrArg Int32.toInt et29).trans (add_i rfl tc_1 (om_41 hr2_8) (om_194 zc9))
                    refine lv_iinc (v := t29) (lv' := [(2, .int t29), (4, .int l4_21), (3, .int l3_21), (1, .int l1_6), (0, .ref (x 31))]) hx hb dX0_reckonBest_90 hl (k := 2) rfl et29.symm (Nat.le_of_ble_eq_true rfl) rfl (fun ls hl => ?_)
                    refine lv_goto (tgt := 24) hx hb dX0_reckonBest_93 rfl ?_
                    have rg30 := fb_rng t29
                    exact ih8 t29 v8 f28 hIv8 hq0_v8 hq1_v8 hq7_v8 hq8_v8 hq9_v8 hq10_v8 hq31_v8 hq32_v8 ⟨show (0 : Int) ≤ t29.toInt from om_43 hr2_8 zt29, show t29.toInt ≤ (2147483647 : Int) from om_44 rg30⟩ hM_v8 hA_f28 (show (2147483647 - t29.toInt).toNat < n8 from om_33 hm8 zt29 rg30) _ _ _ hP hD hS (lv_sub hl [0, 3, 4] rfl)
                  · skip
                    have zc22 : ¬ ((v 32).toInt ≤ l4_21.toInt) := zMn rfl rfl c22
                    refine lv_iload_n hx hb dX0_reckonBest_59 rfl (lv_at hl 1 rfl) ?_
                    refine lv_aload_n hx hb dX0_reckonBest_60 rfl (lv_at hl 4 rfl) ?_
                    refine lv_iload_n hx hb dX0_reckonBest_61 rfl (lv_at hl 3 rfl) ?_
                    refine lv_iload hx hb dX0_reckonBest_62 (lv_at hl 0 rfl) ?_
                    refine lv_iload_n hx hb dX0_reckonBest_64 rfl (lv_at hl 2 rfl) ?_
                    refine cbVi (n := 3) (rest := [.int l3_21]) hx hb hml hown hts hE hP hD hS hA (sX_X0_worthOf_1 l dC dI cy x0 x l1_6 l4_21 l2_8 v8 f8 hIv8 ⟨show (0 : Int) ≤ l1_6.toInt from om_14 zc7, show l1_6.toInt ≤ (5 : Int) from om_241 hr1_6⟩ ⟨show (0 : Int) ≤ l4_21.toInt from om_39 hr4_21, show l4_21.toInt ≤ (5 : Int) from om_100 b32_v zc22⟩ ⟨show (0 : Int) ≤ l2_8.toInt from om_39 hr2_8, show l2_8.toInt ≤ (63 : Int) from om_242 zc9⟩) k_985 k_987 k_24 k_111 k_988 hd_yX0_worthOf ⟨Nat.le_of_ble_eq_true rfl, Nat.le_of_ble_eq_true rfl⟩ 32 0 rfl rfl (rfl) hl.1 rfl (Nat.le_of_ble_eq_true rfl) dX0_reckonBest_65 (fun r33 u H locs hw hP hD hS => ?_)
                    refine va_mmax hx hb (by rw [hml]; exact hl.1.symm) hown (hts _ k_989) (hts _ k_640) (hts _ k_119) (hts _ k_641) (Nat.le_of_ble_eq_true rfl) (Nat.le_of_ble_eq_true rfl) (Nat.le_of_ble_eq_true rfl) (Nat.le_of_ble_eq_true rfl) dX0_reckonBest_68 ?_
                    refine lv_topi (fun t34 et34 => ?_)
                    refine lv_istore_n (lv' := [(3, .int t34), (4, .int l4_21), (2, .int l2_8), (1, .int l1_6), (0, .ref (x 31))]) hx hb dX0_reckonBest_71 rfl hl (Nat.le_of_ble_eq_true rfl) rfl (fun ls hl => ?_)
                    obtain ⟨t35, et35⟩ : ∃ y : Int32, y = l4_21 + 1 := ⟨_, rfl⟩
                    have zt35 : t35.toInt = l4_21.toInt + 1 := (congrArg Int32.toInt et35).trans (add_i rfl tc_1 (om_41 hr4_21) (om_187 b32_v zc22))
                    refine lv_iinc (v := t35) (lv' := [(4, .int t35), (3, .int t34), (2, .int l2_8), (1, .int l1_6), (0, .ref (x 31))]) hx hb dX0_reckonBest_72 hl (k := 1) rfl et35.symm (Nat.le_of_ble_eq_true rfl) rfl (fun ls hl => ?_)
                    refine lv_goto (tgt := 47) hx hb dX0_reckonBest_75 rfl ?_
                    have rg36 := fb_rng t35
                    exact ih21 t34 t35 ⟨show (0 : Int) ≤ t35.toInt from om_43 hr4_21 zt35, show t35.toInt ≤ (2147483647 : Int) from om_44 rg36⟩ (show (2147483647 - t35.toInt).toNat < n21 from om_33 hm21 zt35 rg36) _ _ _ hP hD hS (lv_sub hl [0, 1, 2, 3, 4] rfl)
              exact lp21 _ t20 0 ⟨by decide, by decide⟩ (Nat.lt_succ_self _) _ _ _ hP hD hS (lv_sub hl [0, 1, 2, 3, 4] rfl)
        exact lp8 _ 0 v6 f6 hIv6 hq0_v6 hq1_v6 hq7_v6 hq8_v6 hq9_v6 hq10_v6 hq31_v6 hq32_v6 ⟨by decide, by decide⟩ hM_v6 hA_f6 (Nat.lt_succ_self _) _ _ _ hP hD hS (lv_sub hl [0, 1, 2] rfl)
  have rg37 := fb_rng t4
  exact lp6 _ t4 v2 f3 hIv2 hq0_v2 hq1_v2 hq7_v2 hq8_v2 hq9_v2 hq10_v2 hq31_v2 hq32_v2 ⟨show (-2147483648 : Int) ≤ t4.toInt from om_10 rg37, show t4.toInt ≤ (5 : Int) from om_243 b31_v zt4⟩ hM_v2 hA_f3 (Nat.lt_succ_self _) _ _ _ hP hD hS (lv_sub hl [0, 1] rfl)
set_option maxHeartbeats 4000000 in
set_option maxRecDepth 100000 in
theorem sX_X0_firstBest_1 (l : Launch) (dC : Nat → ClassId) (dI : Nat → Nat → Nat) (cy : Nat → ClassId) (x0 : Nat) (x : Nat → Nat) (p1 : Int32) (p2 : Int32) (v : Nat → Int32) (f : Nat → Nat → Int32) (hIv : XI v) (hp1 : (0 : Int) ≤ p1.toInt ∧ p1.toInt ≤ 5) (hp2 : (0 : Int) ≤ p2.toInt ∧ p2.toInt ≤ 63) : ctI l (dC, dI) cy yX0_firstBest cX0_firstBest 4 .int 2 84 0 0 Unit [.ref (x 31), .int p1, .int p2] (XW cy x0 x v f) (fun r u => ((-1 : Int) ≤ r.toInt ∧ r.toInt ≤ 5)) (fun u => XW cy x0 x v f) := by
  refine ctI_of (by decide) (Nat.le_of_ble_eq_true rfl) (fun p e s m below meth c A ls Q hx hb hml hts hown hE hP hD hA hl ret => ?_)
  have hown : s.vm.findClass RX0 = some m.cls := hown
  have hS : va_S A s.heap s.heap [] := va_S.rf
  have hl : lv_has ls 4 [(0, .ref (x 31)), (1, .int p1), (2, .int p2)] := hl
  refine lv_iconst (v := 0) hx hb dX0_firstBest_0 rfl ?_
  refine lv_istore_n (lv' := [(3, .int 0), (0, .ref (x 31)), (1, .int p1), (2, .int p2)]) hx hb dX0_firstBest_1 rfl hl (Nat.le_of_ble_eq_true rfl) rfl (fun ls hl => ?_)
  have lp1 : ∀ (n1 : Nat) (l3_1 : Int32), ((0 : Int) ≤ l3_1.toInt ∧ l3_1.toInt ≤ 2147483647) → (2147483647 - l3_1.toInt).toNat < n1 → ∀ (H : Heap) (locs : List Loc) (ls : Array Slot), va_P (dC, dI) vwCl (XW cy x0 x v f) H → va_D A (XW cy x0 x v f) → va_S A s.heap H locs → lv_has ls 4 [(3, .int l3_1), (0, .ref (x 31)), (1, .int p1), (2, .int p2)] → W p l e { frames := 2, cells := 0, slots := 0, locals := 84 } s m ([.ref (x 31), .int p1, .int p2] : List Value).toArray below meth c H locs 0 0 Q (F0 m 2 ls []) := by
    intro n1
    induction n1 with
    | zero => intro l3_1 hr3_1 hm; exact absurd hm (Nat.not_lt_zero _)
    | succ n1 ih1 =>
      intro l3_1 hr3_1 hm1 H locs ls hP hD hS hl
      refine lv_iload_n hx hb dX0_firstBest_2 rfl (lv_at hl 0 rfl) ?_
      refine lv_aload_n hx hb dX0_firstBest_3 rfl (lv_at hl 1 rfl) ?_
      refine va_get (D := (dC, dI)) (ci := 0) (v := .ref (x 26)) (C := RX0) (T := TX0) (N := 8) hx hb hts inB_0 hown hE.1 hP 32 rfl rfl 0 (Nat.le_of_ble_eq_true rfl) (hts _ k_430) (fun _ h9 => h9) rfl dX0_firstBest_4 ?_
      refine va_getN (D := (dC, dI)) (ci := 7) (v := .int (v 32)) (C := RX7) (T := TX7) (N := 10) hx hb hts inB_7 hown hE.1 hP 27 rfl rfl 4 (Nat.le_of_ble_eq_true rfl) (va_Nw.use rfl (hE.2 _ k_222)) (fun _ h9 => h9) rfl dX0_firstBest_7 ?_
      have b32_v : 0 ≤ (v 32).toInt ∧ (v 32).toInt ≤ 6 := Xb_32 hIv
      refine lv_icmp_ge (tgt := 42) hx hb dX0_firstBest_10 rfl (fun c2 => ?_) (fun c2 => ?_)
      · skip
        refine lv_iconst (v := (-1)) hx hb dX0_firstBest_42 rfl ?_
        exact ret (-1) () _ _ _ _ _ _ rfl ⟨by decide, by decide⟩ hP hD hS dX0_firstBest_43 (Nat.le_refl _) (Nat.le_refl _)
      · skip
        have zc2 : ¬ ((v 32).toInt ≤ l3_1.toInt) := zMn rfl rfl c2
        refine lv_aload_n hx hb dX0_firstBest_13 rfl (lv_at hl 1 rfl) ?_
        refine lv_iload_n hx hb dX0_firstBest_14 rfl (lv_at hl 2 rfl) ?_
        refine lv_iload_n hx hb dX0_firstBest_15 rfl (lv_at hl 0 rfl) ?_
        refine lv_iload_n hx hb dX0_firstBest_16 rfl (lv_at hl 3 rfl) ?_
        refine cbVi (n := 3) (rest := []) hx hb hml hown hts hE hP hD hS hA (sX_X0_worthOf_1 l dC dI cy x0 x p1 l3_1 p2 v f hIv ⟨show (0 : Int) ≤ p1.toInt from om_214 hp1, show p1.toInt ≤ (5 : Int) from om_215 hp1⟩ ⟨show (0 : Int) ≤ l3_1.toInt from om_39 hr3_1, show l3_1.toInt ≤ (5 : Int) from om_100 b32_v zc2⟩ ⟨show (0 : Int) ≤ p2.toInt from om_216 hp2, show p2.toInt ≤ (63 : Int) from om_217 hp2⟩) k_985 k_987 k_24 k_111 k_988 hd_yX0_worthOf ⟨Nat.le_of_ble_eq_true rfl, Nat.le_of_ble_eq_true rfl⟩ 32 0 rfl rfl (rfl) hl.1 rfl (Nat.le_of_ble_eq_true rfl) dX0_firstBest_17 (fun r7 u H locs hw hP hD hS => ?_)
        refine lv_aload_n hx hb dX0_firstBest_20 rfl (lv_at hl 1 rfl) ?_
        refine va_get (D := (dC, dI)) (ci := 0) (v := .ref (x 33)) (C := RX0) (T := TX0) (N := 8) hx hb hts inB_0 hown hE.1 hP 32 rfl rfl 4 (Nat.le_of_ble_eq_true rfl) (hts _ k_435) (fun _ h9 => h9) rfl dX0_firstBest_21 ?_
        refine lv_iload_n hx hb dX0_firstBest_24 rfl (lv_at hl 2 rfl) ?_
        refine lv_bipush (v := 64) hx hb dX0_firstBest_25 rfl ?_
        refine lv_imul hx hb dX0_firstBest_27 ?_
        refine lv_topi (fun t8 et8 => ?_)
        have zt8 : t8.toInt = p1.toInt * 64 := (congrArg Int32.toInt et8).trans (mul_i rfl tc_64 (om_244 hp1) (om_245 hp1))
        refine lv_iload_n hx hb dX0_firstBest_28 rfl (lv_at hl 3 rfl) ?_
        refine lv_iadd hx hb dX0_firstBest_29 ?_
        refine lv_topi (fun t10 et10 => ?_)
        have rg11 := fb_rng t8
        have zt10 : t10.toInt = t8.toInt + p2.toInt := (congrArg Int32.toInt et10).trans (add_i rfl rfl (om_220 hp2 rg11) (om_246 hp2 zt8 rg11))
        refine ldI hx hb hE hP 34 rfl (vpI (k := 448) rfl (show 0 ≤ t10.toInt from om_247 hp1 hp2 zt8 zt10) (show t10.toInt < 448 from om_248 hp1 hp2 zt8 zt10)) rfl rfl dX0_firstBest_30 ?_
        refine lv_topi (fun t13 et13 => ?_)
        refine lv_icmp_ne (tgt := 36) hx hb dX0_firstBest_31 rfl (fun c14 => ?_) (fun c14 => ?_)
        · skip
          obtain ⟨t17, et17⟩ : ∃ y : Int32, y = l3_1 + 1 := ⟨_, rfl⟩
          have zt17 : t17.toInt = l3_1.toInt + 1 := (congrArg Int32.toInt et17).trans (add_i rfl tc_1 (om_41 hr3_1) (om_187 b32_v zc2))
          refine lv_iinc (v := t17) (lv' := [(3, .int t17), (0, .ref (x 31)), (1, .int p1), (2, .int p2)]) hx hb dX0_firstBest_36 hl (k := 0) rfl et17.symm (Nat.le_of_ble_eq_true rfl) rfl (fun ls hl => ?_)
          refine lv_goto (tgt := 2) hx hb dX0_firstBest_39 rfl ?_
          have rg18 := fb_rng t17
          exact ih1 t17 ⟨show (0 : Int) ≤ t17.toInt from om_43 hr3_1 zt17, show t17.toInt ≤ (2147483647 : Int) from om_44 rg18⟩ (show (2147483647 - t17.toInt).toNat < n1 from om_33 hm1 zt17 rg18) _ _ _ hP hD hS (lv_sub hl [0, 1, 2, 3] rfl)
        · skip
          refine lv_iload_n hx hb dX0_firstBest_34 rfl (lv_at hl 0 rfl) ?_
          exact ret l3_1 () _ _ _ _ _ _ rfl ⟨show (-1 : Int) ≤ l3_1.toInt from om_249 hr3_1, show l3_1.toInt ≤ 5 from om_100 b32_v zc2⟩ hP hD hS dX0_firstBest_35 (Nat.le_refl _) (Nat.le_refl _)
  exact lp1 _ 0 ⟨by decide, by decide⟩ (Nat.lt_succ_self _) _ _ _ hP hD hS (lv_sub hl [0, 1, 2, 3] rfl)
set_option maxHeartbeats 4000000 in
set_option maxRecDepth 100000 in
theorem sX_X0_lay_1 (l : Launch) (dC : Nat → ClassId) (dI : Nat → Nat → Nat) (cy : Nat → ClassId) (x0 : Nat) (x : Nat → Nat) (p1 : Int32) (v : Nat → Int32) (f : Nat → Nat → Int32) (hIv : XI v)  : ctV l (dC, dI) cy yX0_lay cX0_lay 2 1 60 0 0 ((Nat → Int32) × (Nat → Nat → Int32)) [.ref (x 31), .int p1] (XW cy x0 x v f) (fun u => KV [38] u.1 v ∧ KF [20] u.2 f ∧ XI u.1 ∧ u.1 0 = v 0 ∧ u.1 1 = v 1 ∧ u.1 7 = v 7 ∧ u.1 8 = v 8 ∧ u.1 9 = v 9 ∧ u.1 10 = v 10 ∧ u.1 31 = v 31 ∧ u.1 32 = v 32) (fun u => XW cy x0 x u.1 u.2) := by
  refine ctV_of (by decide) (Nat.le_of_ble_eq_true rfl) (fun p e s m below meth c A ls Q hx hb hml hts hown hnm hE hP hD hA hl ret => ?_)
  have hM_v : KV [38] v v := fun _ _ => rfl
  have hA_f : KF [20] f f := fun _ _ => rfl
  have hown : s.vm.findClass RX0 = some m.cls := hown
  have hS : va_S A s.heap s.heap [] := va_S.rf
  have hl : lv_has ls 2 [(0, .ref (x 31)), (1, .int p1)] := hl
  refine lv_aload_n hx hb dX0_lay_0 rfl (lv_at hl 0 rfl) ?_
  refine va_get (D := (dC, dI)) (ci := 0) (v := .int (v 38)) (C := RX0) (T := TX0) (N := 8) hx hb hts inB_0 hown hE.1 hP 32 rfl rfl 3 (Nat.le_of_ble_eq_true rfl) (hts _ k_433) (fun _ h9 => h9) rfl dX0_lay_1 ?_
  have b38_v : 0 ≤ (v 38).toInt ∧ (v 38).toInt ≤ 6 := Xb_38 hIv
  refine lv_aload_n hx hb dX0_lay_4 rfl (lv_at hl 0 rfl) ?_
  refine va_get (D := (dC, dI)) (ci := 0) (v := .ref (x 32)) (C := RX0) (T := TX0) (N := 8) hx hb hts inB_0 hown hE.1 hP 32 rfl rfl 2 (Nat.le_of_ble_eq_true rfl) (hts _ k_432) (fun _ h9 => h9) rfl dX0_lay_5 ?_
  refine va_alen (v := 6) hx hb hE.1 hP 33 1 rfl rfl rfl dX0_lay_8 ?_
  refine lv_icmp_ge (tgt := 32) hx hb dX0_lay_9 rfl (fun c1 => ?_) (fun c1 => ?_)
  · skip
    exact ret (v, f) _ _ _ _ _ _ ⟨hM_v, hA_f, hIv, rfl, rfl, rfl, rfl, rfl, rfl, rfl, rfl⟩ hP hD hS dX0_lay_32 (Nat.le_refl _) (Nat.le_refl _)
  · skip
    have zc1 : ¬ (6 ≤ (v 38).toInt) := zMn tc_6 rfl c1
    refine lv_aload_n hx hb dX0_lay_12 rfl (lv_at hl 0 rfl) ?_
    refine va_get (D := (dC, dI)) (ci := 0) (v := .ref (x 32)) (C := RX0) (T := TX0) (N := 8) hx hb hts inB_0 hown hE.1 hP 32 rfl rfl 2 (Nat.le_of_ble_eq_true rfl) (hts _ k_432) (fun _ h9 => h9) rfl dX0_lay_13 ?_
    refine lv_aload_n hx hb dX0_lay_16 rfl (lv_at hl 0 rfl) ?_
    refine va_get (D := (dC, dI)) (ci := 0) (v := .int (v 38)) (C := RX0) (T := TX0) (N := 8) hx hb hts inB_0 hown hE.1 hP 32 rfl rfl 3 (Nat.le_of_ble_eq_true rfl) (hts _ k_433) (fun _ h9 => h9) rfl dX0_lay_17 ?_
    refine lv_iload_n hx hb dX0_lay_20 rfl (lv_at hl 1 rfl) ?_
    refine stI hx hb hE hP hD hS 33 rfl (vpI (k := 6) rfl (show 0 ≤ (v 38).toInt from om_98 b38_v) (show (v 38).toInt < 6 from om_64 zc1)) rfl dX0_lay_21 (fun H locs hP hD hS => ?_)
    obtain ⟨f2, ef2, hP, hD⟩ : ∃ fz9, fz9 = upd2 f 20 (upd (f 20) (v 38).toNatClampNeg p1) ∧ va_P (dC, dI) vwCl (XW cy x0 x v fz9) H ∧ va_D A (XW cy x0 x v fz9) := ⟨_, rfl, hP, hD⟩
    have hA_f2 : KF [20] f2 f := by rw [ef2]; exact KF.up hA_f rfl
    refine lv_aload_n hx hb dX0_lay_22 rfl (lv_at hl 0 rfl) ?_
    refine lv_dup hx hb dX0_lay_23 rfl ?_
    refine va_get (D := (dC, dI)) (ci := 0) (v := .int (v 38)) (C := RX0) (T := TX0) (N := 8) hx hb hts inB_0 hown hE.1 hP 32 rfl rfl 3 (Nat.le_of_ble_eq_true rfl) (hts _ k_433) (fun _ h9 => h9) rfl dX0_lay_24 ?_
    refine lv_iconst (v := 1) hx hb dX0_lay_27 rfl ?_
    refine lv_iadd hx hb dX0_lay_28 ?_
    refine lv_topi (fun t3 et3 => ?_)
    have zt3 : t3.toInt = (v 38).toInt + 1 := (congrArg Int32.toInt et3).trans (add_i rfl tc_1 (om_78 b38_v) (om_65 zc1))
    refine va_put (D := (dC, dI)) (ci := 0) (v := .int t3) (ty := tyX0 3) (C := RX0) (T := TX0) (N := 8) hx hb hts inB_0 tyX0 tyX0_ok nmX0 hown hE.1 hP hD hS 32 rfl rfl 3 (Nat.le_of_ble_eq_true rfl) (hts _ k_433) (fun _ h9 => h9) rfl (tyX0_ok 3 (Nat.le_of_ble_eq_true rfl)) rfl rfl (Nat.le_of_ble_eq_true rfl) dX0_lay_29 (fun H locs hP hD hS => ?_)
    have hP : va_P (dC, dI) vwCl (XW cy x0 x (upd v 38 t3) f2) H := hP
    have hD : va_D A (XW cy x0 x (upd v 38 t3) f2) := hD
    exact ret ((upd v 38 t3), f2) _ _ _ _ _ _ ⟨(KV.up (j := 38) (x := t3) hM_v rfl), hA_f2, (Xu_38 (x := t3) hIv (show (0 : Int) ≤ t3.toInt from om_79 b38_v zt3) (show t3.toInt ≤ (6 : Int) from om_80 zc1 zt3)), rfl, rfl, rfl, rfl, rfl, rfl, rfl, rfl⟩ hP hD hS dX0_lay_32 (Nat.le_refl _) (Nat.le_refl _)
set_option maxHeartbeats 4000000 in
set_option maxRecDepth 100000 in
theorem sX_X0_layDressing_1 (l : Launch) (dC : Nat → ClassId) (dI : Nat → Nat → Nat) (cy : Nat → ClassId) (x0 : Nat) (x : Nat → Nat)  (v : Nat → Int32) (f : Nat → Nat → Int32) (hIv : XI v)  : ctV l (dC, dI) cy yX0_layDressing cX0_layDressing 4 5 156 0 0 ((Nat → Int32) × (Nat → Nat → Int32)) [.ref (x 31)] (XW cy x0 x v f) (fun u => KV [38, 39, 40] u.1 v ∧ KF [13, 14, 20, 21, 22] u.2 f ∧ XI u.1 ∧ u.1 0 = v 0 ∧ u.1 1 = v 1 ∧ u.1 7 = v 7 ∧ u.1 8 = v 8 ∧ u.1 9 = v 9 ∧ u.1 10 = v 10 ∧ u.1 31 = v 31 ∧ u.1 32 = v 32) (fun u => XW cy x0 x u.1 u.2) := by
  refine ctV_of (by decide) (Nat.le_of_ble_eq_true rfl) (fun p e s m below meth c A ls Q hx hb hml hts hown hnm hE hP hD hA hl ret => ?_)
  have hM_v : KV [38, 39, 40] v v := fun _ _ => rfl
  have hA_f : KF [13, 14, 20, 21, 22] f f := fun _ _ => rfl
  have hown : s.vm.findClass RX0 = some m.cls := hown
  have hS : va_S A s.heap s.heap [] := va_S.rf
  have hl : lv_has ls 4 [(0, .ref (x 31))] := hl
  refine lv_aload_n hx hb dX0_layDressing_0 rfl (lv_at hl 0 rfl) ?_
  refine cbVv (n := 0) (rest := []) hx hb hml hown hts hE hP hD hS hA (sX_X0_reckonGains_1 l dC dI cy x0 x  v f hIv ) k_975 k_977 k_22 k_111 k_978 hd_yX0_reckonGains ⟨Nat.le_of_ble_eq_true rfl, Nat.le_of_ble_eq_true rfl⟩ 32 0 rfl rfl (rfl) hl.1 rfl (Nat.le_of_ble_eq_true rfl) dX0_layDressing_1 (fun u H locs hw hP hD hS => ?_)
  obtain ⟨v1, f2⟩ := u
  obtain ⟨kV_v1, kF_f2, hIv1, hk0_v1, hk1_v1, hk7_v1, hk8_v1, hk9_v1, hk10_v1, hk31_v1, hk32_v1⟩ := hw
  have hM_v1 : KV [38, 39, 40] v1 v := KV.tr kV_v1 hM_v rfl
  have hA_f2 : KF [13, 14, 20, 21, 22] f2 f := KF.tr kF_f2 hA_f rfl
  have hP : va_P (dC, dI) vwCl (XW cy x0 x v1 f2) H := hP
  have hD : va_D A (XW cy x0 x v1 f2) := hD
  have hq0_v1 : v1 0 = (v 0) := hk0_v1
  have hq1_v1 : v1 1 = (v 1) := hk1_v1
  have hq7_v1 : v1 7 = (v 7) := hk7_v1
  have hq8_v1 : v1 8 = (v 8) := hk8_v1
  have hq9_v1 : v1 9 = (v 9) := hk9_v1
  have hq10_v1 : v1 10 = (v 10) := hk10_v1
  have hq31_v1 : v1 31 = (v 31) := hk31_v1
  have hq32_v1 : v1 32 = (v 32) := hk32_v1
  refine lv_aload_n hx hb dX0_layDressing_4 rfl (lv_at hl 0 rfl) ?_
  refine cbVv (n := 0) (rest := []) hx hb hml hown hts hE hP hD hS hA (sX_X0_reckonBest_1 l dC dI cy x0 x  v1 f2 hIv1 ) k_980 k_982 k_23 k_111 k_983 hd_yX0_reckonBest ⟨Nat.le_of_ble_eq_true rfl, Nat.le_of_ble_eq_true rfl⟩ 32 0 rfl rfl (rfl) hl.1 rfl (Nat.le_of_ble_eq_true rfl) dX0_layDressing_5 (fun u H locs hw hP hD hS => ?_)
  obtain ⟨v3, f4⟩ := u
  obtain ⟨kV_v3, kF_f4, hIv3, hk0_v3, hk1_v3, hk7_v3, hk8_v3, hk9_v3, hk10_v3, hk31_v3, hk32_v3⟩ := hw
  have hM_v3 : KV [38, 39, 40] v3 v := KV.tr kV_v3 hM_v1 rfl
  have hA_f4 : KF [13, 14, 20, 21, 22] f4 f := KF.tr kF_f4 hA_f2 rfl
  have hP : va_P (dC, dI) vwCl (XW cy x0 x v3 f4) H := hP
  have hD : va_D A (XW cy x0 x v3 f4) := hD
  have hq0_v3 : v3 0 = (v 0) := hk0_v3.trans hq0_v1
  have hq1_v3 : v3 1 = (v 1) := hk1_v3.trans hq1_v1
  have hq7_v3 : v3 7 = (v 7) := hk7_v3.trans hq7_v1
  have hq8_v3 : v3 8 = (v 8) := hk8_v3.trans hq8_v1
  have hq9_v3 : v3 9 = (v 9) := hk9_v3.trans hq9_v1
  have hq10_v3 : v3 10 = (v 10) := hk10_v3.trans hq10_v1
  have hq31_v3 : v3 31 = (v 31) := hk31_v3.trans hq31_v1
  have hq32_v3 : v3 32 = (v 32) := hk32_v3.trans hq32_v1
  refine lv_aload_n hx hb dX0_layDressing_8 rfl (lv_at hl 0 rfl) ?_
  refine cbVv (n := 0) (rest := []) hx hb hml hown hts hE hP hD hS hA (sX_X0_clear_1 0 l dC dI cy x0 x  v3 f4 hIv3 ) k_990 k_787 k_788 k_111 k_789 hd_yX0_clear ⟨Nat.le_of_ble_eq_true rfl, Nat.le_of_ble_eq_true rfl⟩ 32 0 rfl rfl (rfl) hl.1 rfl (Nat.le_of_ble_eq_true rfl) dX0_layDressing_9 (fun u H locs hw hP hD hS => ?_)
  obtain ⟨hG5, hw⟩ := hw
  obtain ⟨v6, f7⟩ := u
  obtain ⟨kV_v6, kF_f7, hIv6, hk0_v6, hk1_v6, hk7_v6, hk8_v6, hk9_v6, hk10_v6, hk31_v6, hk32_v6⟩ := hw
  have hM_v6 : KV [38, 39, 40] v6 v := KV.tr kV_v6 hM_v3 rfl
  have hA_f7 : KF [13, 14, 20, 21, 22] f7 f := KF.tr kF_f7 hA_f4 rfl
  have hP : va_P (dC, dI) vwCl (XW cy x0 x v6 f7) H := hP
  have hD : va_D A (XW cy x0 x v6 f7) := hD
  have hq0_v6 : v6 0 = (v 0) := hk0_v6.trans hq0_v3
  have hq1_v6 : v6 1 = (v 1) := hk1_v6.trans hq1_v3
  have hq7_v6 : v6 7 = (v 7) := hk7_v6.trans hq7_v3
  have hq8_v6 : v6 8 = (v 8) := hk8_v6.trans hq8_v3
  have hq9_v6 : v6 9 = (v 9) := hk9_v6.trans hq9_v3
  have hq10_v6 : v6 10 = (v 10) := hk10_v6.trans hq10_v3
  have hq31_v6 : v6 31 = (v 31) := hk31_v6.trans hq31_v3
  have hq32_v6 : v6 32 = (v 32) := hk32_v6.trans hq32_v3
  refine lv_aload_n hx hb dX0_layDressing_12 rfl (lv_at hl 0 rfl) ?_
  refine lv_iconst (v := 0) hx hb dX0_layDressing_13 rfl ?_
  refine va_put (D := (dC, dI)) (ci := 0) (v := .int 0) (ty := tyX0 6) (C := RX0) (T := TX0) (N := 8) hx hb hts inB_0 tyX0 tyX0_ok nmX0 hown hE.1 hP hD hS 32 rfl rfl 6 (Nat.le_of_ble_eq_true rfl) (hts _ k_437) (fun _ h9 => h9) rfl (tyX0_ok 6 (Nat.le_of_ble_eq_true rfl)) rfl rfl (Nat.le_of_ble_eq_true rfl) dX0_layDressing_14 (fun H locs hP hD hS => ?_)
  have hP : va_P (dC, dI) vwCl (XW cy x0 x (upd v6 39 0) f7) H := hP
  have hD : va_D A (XW cy x0 x (upd v6 39 0) f7) := hD
  refine lv_aload_n hx hb dX0_layDressing_17 rfl (lv_at hl 0 rfl) ?_
  refine lv_iconst (v := 0) hx hb dX0_layDressing_18 rfl ?_
  refine va_put (D := (dC, dI)) (ci := 0) (v := .int 0) (ty := tyX0 7) (C := RX0) (T := TX0) (N := 8) hx hb hts inB_0 tyX0 tyX0_ok nmX0 hown hE.1 hP hD hS 32 rfl rfl 7 (Nat.le_of_ble_eq_true rfl) (hts _ k_439) (fun _ h9 => h9) rfl (tyX0_ok 7 (Nat.le_of_ble_eq_true rfl)) rfl rfl (Nat.le_of_ble_eq_true rfl) dX0_layDressing_19 (fun H locs hP hD hS => ?_)
  have hP : va_P (dC, dI) vwCl (XW cy x0 x (upd (upd v6 39 0) 40 0) f7) H := hP
  have hD : va_D A (XW cy x0 x (upd (upd v6 39 0) 40 0) f7) := hD
  refine lv_iconst (v := 0) hx hb dX0_layDressing_22 rfl ?_
  refine lv_istore_n (lv' := [(1, .int 0), (0, .ref (x 31))]) hx hb dX0_layDressing_23 rfl hl (Nat.le_of_ble_eq_true rfl) rfl (fun ls hl => ?_)
  refine lv_iconst (v := 0) hx hb dX0_layDressing_24 rfl ?_
  refine lv_istore_n (lv' := [(2, .int 0), (1, .int 0), (0, .ref (x 31))]) hx hb dX0_layDressing_25 rfl hl (Nat.le_of_ble_eq_true rfl) rfl (fun ls hl => ?_)
  have lp8 : ∀ (n8 : Nat) (l1_8 : Int32) (l2_8 : Int32) (v8 : Nat → Int32) (f8 : Nat → Nat → Int32), XI v8 → v8 0 = (v 0) → v8 1 = (v 1) → v8 7 = (v 7) → v8 8 = (v 8) → v8 9 = (v 9) → v8 10 = (v 10) → v8 31 = (v 31) → v8 32 = (v 32) → ((0 : Int) ≤ l1_8.toInt ∧ l1_8.toInt ≤ 63) → ((0 : Int) ≤ l2_8.toInt ∧ l2_8.toInt ≤ 2147483647) → KV [38, 39, 40] v8 v → KF [13, 14, 20, 21, 22] f8 f → (2147483647 - l2_8.toInt).toNat < n8 → ∀ (H : Heap) (locs : List Loc) (ls : Array Slot), va_P (dC, dI) vwCl (XW cy x0 x v8 f8) H → va_D A (XW cy x0 x v8 f8) → va_S A s.heap H locs → lv_has ls 4 [(2, .int l2_8), (1, .int l1_8), (0, .ref (x 31))] → W p l e { frames := 5, cells := 0, slots := 0, locals := 156 } s m ([.ref (x 31)] : List Value).toArray below meth c H locs 0 0 Q (F0 m 26 ls []) := by
    intro n8
    induction n8 with
    | zero => intro l1_8 l2_8 v8 f8 hIv8 hq0_v8 hq1_v8 hq7_v8 hq8_v8 hq9_v8 hq10_v8 hq31_v8 hq32_v8 hr1_8 hr2_8 hM_v8 hA_f8 hm; exact absurd hm (Nat.not_lt_zero _)
    | succ n8 ih8 =>
      intro l1_8 l2_8 v8 f8 hIv8 hq0_v8 hq1_v8 hq7_v8 hq8_v8 hq9_v8 hq10_v8 hq31_v8 hq32_v8 hr1_8 hr2_8 hM_v8 hA_f8 hm8 H locs ls hP hD hS hl
      refine lv_iload_n hx hb dX0_layDressing_26 rfl (lv_at hl 0 rfl) ?_
      refine lv_aload_n hx hb dX0_layDressing_27 rfl (lv_at hl 2 rfl) ?_
      refine va_get (D := (dC, dI)) (ci := 0) (v := .ref (x 26)) (C := RX0) (T := TX0) (N := 8) hx hb hts inB_0 hown hE.1 hP 32 rfl rfl 0 (Nat.le_of_ble_eq_true rfl) (hts _ k_430) (fun _ h9 => h9) rfl dX0_layDressing_28 ?_
      refine va_getN (D := (dC, dI)) (ci := 7) (v := .int (v8 31)) (C := RX7) (T := TX7) (N := 10) hx hb hts inB_7 hown hE.1 hP 27 rfl rfl 3 (Nat.le_of_ble_eq_true rfl) (va_Nw.use rfl (hE.2 _ k_216)) (fun _ h9 => h9) rfl dX0_layDressing_31 ?_
      refine tI (y := (v 31)) hq31_v8 ?_
      have b31_v : 0 ≤ (v 31).toInt ∧ (v 31).toInt ≤ 6 := Xb_31 hIv
      refine lv_icmp_ge (tgt := 94) hx hb dX0_layDressing_34 rfl (fun c9 => ?_) (fun c9 => ?_)
      · skip
        exact ret (v8, f8) _ _ _ _ _ _ ⟨hM_v8, hA_f8, hIv8, hq0_v8, hq1_v8, hq7_v8, hq8_v8, hq9_v8, hq10_v8, hq31_v8, hq32_v8⟩ hP hD hS dX0_layDressing_94 (Nat.le_refl _) (Nat.le_refl _)
      · skip
        have zc9 : ¬ ((v 31).toInt ≤ l2_8.toInt) := zMn rfl rfl c9
        refine lv_aload_n hx hb dX0_layDressing_37 rfl (lv_at hl 2 rfl) ?_
        refine lv_iload_n hx hb dX0_layDressing_38 rfl (lv_at hl 0 rfl) ?_
        refine lv_iload_n hx hb dX0_layDressing_39 rfl (lv_at hl 1 rfl) ?_
        refine cbVi (n := 2) (rest := []) hx hb hml hown hts hE hP hD hS hA (sX_X0_firstBest_1 l dC dI cy x0 x l2_8 l1_8 v8 f8 hIv8 ⟨show (0 : Int) ≤ l2_8.toInt from om_39 hr2_8, show l2_8.toInt ≤ (5 : Int) from om_100 b31_v zc9⟩ ⟨show (0 : Int) ≤ l1_8.toInt from om_216 hr1_8, show l1_8.toInt ≤ (63 : Int) from om_217 hr1_8⟩) k_991 k_993 k_25 k_111 k_994 hd_yX0_firstBest ⟨Nat.le_of_ble_eq_true rfl, Nat.le_of_ble_eq_true rfl⟩ 32 0 rfl rfl (rfl) hl.1 rfl (Nat.le_of_ble_eq_true rfl) dX0_layDressing_40 (fun r14 u H locs hw hP hD hS => ?_)
        have pw_r14 : (-1 : Int) ≤ r14.toInt ∧ r14.toInt ≤ 5 := hw
        refine lv_istore_n (lv' := [(3, .int r14), (2, .int l2_8), (1, .int l1_8), (0, .ref (x 31))]) hx hb dX0_layDressing_43 rfl hl (Nat.le_of_ble_eq_true rfl) rfl (fun ls hl => ?_)
        refine lv_aload_n hx hb dX0_layDressing_44 rfl (lv_at hl 3 rfl) ?_
        refine lv_iload_n hx hb dX0_layDressing_45 rfl (lv_at hl 0 rfl) ?_
        refine cbVv (n := 1) (rest := []) hx hb hml hown hts hE hP hD hS hA (sX_X0_lay_1 l dC dI cy x0 x r14 v8 f8 hIv8 ) k_995 k_997 k_26 k_111 k_998 hd_yX0_lay ⟨Nat.le_of_ble_eq_true rfl, Nat.le_of_ble_eq_true rfl⟩ 32 0 rfl rfl (rfl) hl.1 rfl (Nat.le_of_ble_eq_true rfl) dX0_layDressing_46 (fun u H locs hw hP hD hS => ?_)
        obtain ⟨v15, f16⟩ := u
        obtain ⟨kV_v15, kF_f16, hIv15, hk0_v15, hk1_v15, hk7_v15, hk8_v15, hk9_v15, hk10_v15, hk31_v15, hk32_v15⟩ := hw
        have hM_v15 : KV [38, 39, 40] v15 v := KV.tr kV_v15 hM_v8 rfl
        have hA_f16 : KF [13, 14, 20, 21, 22] f16 f := KF.tr kF_f16 hA_f8 rfl
        have hP : va_P (dC, dI) vwCl (XW cy x0 x v15 f16) H := hP
        have hD : va_D A (XW cy x0 x v15 f16) := hD
        have hq0_v15 : v15 0 = (v 0) := hk0_v15.trans hq0_v8
        have hq1_v15 : v15 1 = (v 1) := hk1_v15.trans hq1_v8
        have hq7_v15 : v15 7 = (v 7) := hk7_v15.trans hq7_v8
        have hq8_v15 : v15 8 = (v 8) := hk8_v15.trans hq8_v8
        have hq9_v15 : v15 9 = (v 9) := hk9_v15.trans hq9_v8
        have hq10_v15 : v15 10 = (v 10) := hk10_v15.trans hq10_v8
        have hq31_v15 : v15 31 = (v 31) := hk31_v15.trans hq31_v8
        have hq32_v15 : v15 32 = (v 32) := hk32_v15.trans hq32_v8
        refine lv_iload_n hx hb dX0_layDressing_49 rfl (lv_at hl 0 rfl) ?_
        refine lv_iconst (v := (-1)) hx hb dX0_layDressing_50 rfl ?_
        refine lv_icmp_eq (tgt := 88) hx hb dX0_layDressing_51 rfl (fun c17 => ?_) (fun c17 => ?_)
        · skip
          obtain ⟨t18, et18⟩ : ∃ y : Int32, y = l2_8 + 1 := ⟨_, rfl⟩
          have zt18 : t18.toInt = l2_8.toInt + 1 := (congrArg Int32.toInt et18).trans (add_i rfl tc_1 (om_41 hr2_8) (om_187 b31_v zc9))
          refine lv_iinc (v := t18) (lv' := [(2, .int t18), (3, .int r14), (1, .int l1_8), (0, .ref (x 31))]) hx hb dX0_layDressing_88 hl (k := 1) rfl et18.symm (Nat.le_of_ble_eq_true rfl) rfl (fun ls hl => ?_)
          refine lv_goto (tgt := 26) hx hb dX0_layDressing_91 rfl ?_
          have rg20 := fb_rng t18
          exact ih8 l1_8 t18 v15 f16 hIv15 hq0_v15 hq1_v15 hq7_v15 hq8_v15 hq9_v15 hq10_v15 hq31_v15 hq32_v15 ⟨show (0 : Int) ≤ l1_8.toInt from om_216 hr1_8, show l1_8.toInt ≤ (63 : Int) from om_217 hr1_8⟩ ⟨show (0 : Int) ≤ t18.toInt from om_43 hr2_8 zt18, show t18.toInt ≤ (2147483647 : Int) from om_44 rg20⟩ hM_v15 hA_f16 (show (2147483647 - t18.toInt).toNat < n8 from om_33 hm8 zt18 rg20) _ _ _ hP hD hS (lv_sub hl [0, 2, 3] rfl)
        · skip
          have zc17 : ¬ (r14.toInt = (-1)) := zEn rfl tc_m1 c17
          refine lv_iload_n hx hb dX0_layDressing_54 rfl (lv_at hl 2 rfl) ?_
          refine lv_iconst (v := 1) hx hb dX0_layDressing_55 rfl ?_
          refine lv_iload_n hx hb dX0_layDressing_56 rfl (lv_at hl 0 rfl) ?_
          refine lv_ishl hx hb dX0_layDressing_57 ?_
          refine lv_topi (fun t21 et21 => ?_)
          have zt21 : 1 ≤ t21.toInt ∧ t21.toInt ≤ 32 := by rw [et21]; exact shl1_rng (show 0 ≤ r14.toInt from om_250 pw_r14 zc17) (show r14.toInt ≤ 5 from om_251 pw_r14)
          refine lv_ior hx hb dX0_layDressing_58 ?_
          refine lv_topi (fun t22 et22 => ?_)
          have zt22 : 0 ≤ t22.toInt ∧ t22.toInt ≤ 63 := by rw [et22]; exact or_rng (show 0 ≤ l1_8.toInt from om_216 hr1_8) (show l1_8.toInt ≤ 63 from om_217 hr1_8) (show 0 ≤ t21.toInt from om_218 zt21) (show t21.toInt ≤ 63 from om_219 zt21)
          refine lv_istore_n (lv' := [(1, .int t22), (3, .int r14), (2, .int l2_8), (0, .ref (x 31))]) hx hb dX0_layDressing_59 rfl hl (Nat.le_of_ble_eq_true rfl) rfl (fun ls hl => ?_)
          refine lv_aload_n hx hb dX0_layDressing_60 rfl (lv_at hl 3 rfl) ?_
          refine lv_dup hx hb dX0_layDressing_61 rfl ?_
          refine va_get (D := (dC, dI)) (ci := 0) (v := .int (v15 39)) (C := RX0) (T := TX0) (N := 8) hx hb hts inB_0 hown hE.1 hP 32 rfl rfl 6 (Nat.le_of_ble_eq_true rfl) (hts _ k_437) (fun _ h9 => h9) rfl dX0_layDressing_62 ?_
          refine lv_iconst (v := 1) hx hb dX0_layDressing_65 rfl ?_
          refine lv_iadd hx hb dX0_layDressing_66 ?_
          refine lv_topi (fun t23 et23 => ?_)
          refine va_put (D := (dC, dI)) (ci := 0) (v := .int t23) (ty := tyX0 6) (C := RX0) (T := TX0) (N := 8) hx hb hts inB_0 tyX0 tyX0_ok nmX0 hown hE.1 hP hD hS 32 rfl rfl 6 (Nat.le_of_ble_eq_true rfl) (hts _ k_437) (fun _ h9 => h9) rfl (tyX0_ok 6 (Nat.le_of_ble_eq_true rfl)) rfl rfl (Nat.le_of_ble_eq_true rfl) dX0_layDressing_67 (fun H locs hP hD hS => ?_)
          have hP : va_P (dC, dI) vwCl (XW cy x0 x (upd v15 39 t23) f16) H := hP
          have hD : va_D A (XW cy x0 x (upd v15 39 t23) f16) := hD
          refine lv_aload_n hx hb dX0_layDressing_70 rfl (lv_at hl 3 rfl) ?_
          refine lv_dup hx hb dX0_layDressing_71 rfl ?_
          refine va_get (D := (dC, dI)) (ci := 0) (v := .int (v15 40)) (C := RX0) (T := TX0) (N := 8) hx hb hts inB_0 hown hE.1 hP 32 rfl rfl 7 (Nat.le_of_ble_eq_true rfl) (hts _ k_439) (fun _ h9 => h9) rfl dX0_layDressing_72 ?_
          refine lv_aload_n hx hb dX0_layDressing_75 rfl (lv_at hl 3 rfl) ?_
          refine va_get (D := (dC, dI)) (ci := 0) (v := .ref (x 21)) (C := RX0) (T := TX0) (N := 8) hx hb hts inB_0 hown hE.1 hP 32 rfl rfl 1 (Nat.le_of_ble_eq_true rfl) (hts _ k_431) (fun _ h9 => h9) rfl dX0_layDressing_76 ?_
          refine lv_iload_n hx hb dX0_layDressing_79 rfl (lv_at hl 2 rfl) ?_
          refine lv_iload_n hx hb dX0_layDressing_80 rfl (lv_at hl 1 rfl) ?_
          refine cbVi (n := 2) (rest := [.int (v15 40), .ref (x 31)]) hx hb hml hown hts hE hP hD hS hA (sX_X1_illness_1 0 l dC dI cy x0 x l2_8 r14 (upd v15 39 t23) f16 (Xu_39 (x := t23) hIv15 (rlo _) (rhi _)) ) k_979 k_823 k_824 k_106 k_825 hd_yX1_illness ⟨Nat.le_of_ble_eq_true rfl, Nat.le_of_ble_eq_true rfl⟩ 22 1 rfl rfl (rfl) hl.1 rfl (Nat.le_of_ble_eq_true rfl) dX0_layDressing_81 (fun r24 u H locs hw hP hD hS => ?_)
          obtain ⟨hG25, hw⟩ := hw
          obtain ⟨v26, f27⟩ := u
          obtain ⟨kV_v26, kF_f27, hIv26, hk0_v26, hk1_v26, hk7_v26, hk8_v26, hk9_v26, hk10_v26, hk31_v26, hk32_v26⟩ := hw
          have hM_v26 : KV [38, 39, 40] v26 v := KV.tr kV_v26 (KV.up (j := 39) (x := t23) hM_v15 rfl) rfl
          have hA_f27 : KF [13, 14, 20, 21, 22] f27 f := KF.tr kF_f27 hA_f16 rfl
          have hP : va_P (dC, dI) vwCl (XW cy x0 x v26 f27) H := hP
          have hD : va_D A (XW cy x0 x v26 f27) := hD
          have hq0_v26 : v26 0 = (v 0) := hk0_v26.trans hq0_v15
          have hq1_v26 : v26 1 = (v 1) := hk1_v26.trans hq1_v15
          have hq7_v26 : v26 7 = (v 7) := hk7_v26.trans hq7_v15
          have hq8_v26 : v26 8 = (v 8) := hk8_v26.trans hq8_v15
          have hq9_v26 : v26 9 = (v 9) := hk9_v26.trans hq9_v15
          have hq10_v26 : v26 10 = (v 10) := hk10_v26.trans hq10_v15
          have hq31_v26 : v26 31 = (v 31) := hk31_v26.trans hq31_v15
          have hq32_v26 : v26 32 = (v 32) := hk32_v26.trans hq32_v15
          refine lv_iadd hx hb dX0_layDressing_84 ?_
          refine lv_topi (fun t28 et28 => ?_)
          refine va_put (D := (dC, dI)) (ci := 0) (v := .int t28) (ty := tyX0 7) (C := RX0) (T := TX0) (N := 8) hx hb hts inB_0 tyX0 tyX0_ok nmX0 hown hE.1 hP hD hS 32 rfl rfl 7 (Nat.le_of_ble_eq_true rfl) (hts _ k_439) (fun _ h9 => h9) rfl (tyX0_ok 7 (Nat.le_of_ble_eq_true rfl)) rfl rfl (Nat.le_of_ble_eq_true rfl) dX0_layDressing_85 (fun H locs hP hD hS => ?_)
          have hP : va_P (dC, dI) vwCl (XW cy x0 x (upd v26 40 t28) f27) H := hP
          have hD : va_D A (XW cy x0 x (upd v26 40 t28) f27) := hD
          obtain ⟨t29, et29⟩ : ∃ y : Int32, y = l2_8 + 1 := ⟨_, rfl⟩
          have zt29 : t29.toInt = l2_8.toInt + 1 := (congrArg Int32.toInt et29).trans (add_i rfl tc_1 (om_41 hr2_8) (om_187 b31_v zc9))
          refine lv_iinc (v := t29) (lv' := [(2, .int t29), (1, .int t22), (3, .int r14), (0, .ref (x 31))]) hx hb dX0_layDressing_88 hl (k := 2) rfl et29.symm (Nat.le_of_ble_eq_true rfl) rfl (fun ls hl => ?_)
          refine lv_goto (tgt := 26) hx hb dX0_layDressing_91 rfl ?_
          have rg31 := fb_rng t29
          exact ih8 t22 t29 (upd v26 40 t28) f27 (Xu_40 (x := t28) hIv26 (rlo _) (rhi _)) hq0_v26 hq1_v26 hq7_v26 hq8_v26 hq9_v26 hq10_v26 hq31_v26 hq32_v26 ⟨show (0 : Int) ≤ t22.toInt from om_216 zt22, show t22.toInt ≤ (63 : Int) from om_217 zt22⟩ ⟨show (0 : Int) ≤ t29.toInt from om_43 hr2_8 zt29, show t29.toInt ≤ (2147483647 : Int) from om_44 rg31⟩ (KV.up (j := 40) (x := t28) hM_v26 rfl) hA_f27 (show (2147483647 - t29.toInt).toNat < n8 from om_33 hm8 zt29 rg31) _ _ _ hP hD hS (lv_sub hl [0, 1, 3] rfl)
  exact lp8 _ 0 0 (upd (upd v6 39 0) 40 0) f7 (Xu_40 (x := 0) (Xu_39 (x := 0) hIv6 (rlo _) (rhi _)) (rlo _) (rhi _)) hq0_v6 hq1_v6 hq7_v6 hq8_v6 hq9_v6 hq10_v6 hq31_v6 hq32_v6 ⟨by decide, by decide⟩ ⟨by decide, by decide⟩ (KV.up (j := 40) (x := 0) (KV.up (j := 39) (x := 0) hM_v6 rfl) rfl) hA_f7 (Nat.lt_succ_self _) _ _ _ hP hD hS (lv_sub hl [0, 1, 2] rfl)
set_option maxHeartbeats 4000000 in
set_option maxRecDepth 100000 in
theorem sX_X10_dress_1 (l : Launch) (dC : Nat → ClassId) (dI : Nat → Nat → Nat) (cy : Nat → ClassId) (x0 : Nat) (x : Nat → Nat) (p1 : Int32) (v : Nat → Int32) (f : Nat → Nat → Int32) (hIv : XI v)  : ctI l (dC, dI) cy yX10_dress cX10_dress 2 .int 6 179 0 0 ((Nat → Int32) × (Nat → Nat → Int32)) [.ref x0, .int p1] (XW cy x0 x v f) (fun r u => KV [38, 39, 40] u.1 v ∧ KF [13, 14, 20, 21, 22] u.2 f ∧ XI u.1 ∧ u.1 0 = v 0 ∧ u.1 1 = v 1 ∧ u.1 7 = v 7 ∧ u.1 8 = v 8 ∧ u.1 9 = v 9 ∧ u.1 10 = v 10 ∧ u.1 31 = v 31 ∧ u.1 32 = v 32) (fun u => XW cy x0 x u.1 u.2) := by
  refine ctI_of (by decide) (Nat.le_of_ble_eq_true rfl) (fun p e s m below meth c A ls Q hx hb hml hts hown hE hP hD hA hl ret => ?_)
  have hM_v : KV [38, 39, 40] v v := fun _ _ => rfl
  have hA_f : KF [13, 14, 20, 21, 22] f f := fun _ _ => rfl
  have hown : s.vm.findClass RX10 = some m.cls := hown
  have hS : va_S A s.heap s.heap [] := va_S.rf
  have hl : lv_has ls 2 [(0, .ref x0), (1, .int p1)] := hl
  refine lv_aload_n hx hb dX10_dress_0 rfl (lv_at hl 0 rfl) ?_
  refine va_get (D := (dC, dI)) (ci := 10) (v := .ref (x 31)) (C := RX10) (T := TX10) (N := 10) hx hb hts inB_10 hown hE.1 hP 0 rfl rfl 7 (Nat.le_of_ble_eq_true rfl) (hts _ k_498) (fun _ h9 => h9) rfl dX10_dress_1 ?_
  refine cbVv (n := 0) (rest := []) hx hb hml hown hts hE hP hD hS hA (sX_X0_layDressing_1 l dC dI cy x0 x  v f hIv ) k_971 k_972 k_973 k_111 k_974 hd_yX0_layDressing ⟨Nat.le_of_ble_eq_true rfl, Nat.le_of_ble_eq_true rfl⟩ 32 0 rfl rfl (rfl) hl.1 rfl (Nat.le_of_ble_eq_true rfl) dX10_dress_4 (fun u H locs hw hP hD hS => ?_)
  obtain ⟨v1, f2⟩ := u
  obtain ⟨kV_v1, kF_f2, hIv1, hk0_v1, hk1_v1, hk7_v1, hk8_v1, hk9_v1, hk10_v1, hk31_v1, hk32_v1⟩ := hw
  have hM_v1 : KV [38, 39, 40] v1 v := KV.tr kV_v1 hM_v rfl
  have hA_f2 : KF [13, 14, 20, 21, 22] f2 f := KF.tr kF_f2 hA_f rfl
  have hP : va_P (dC, dI) vwCl (XW cy x0 x v1 f2) H := hP
  have hD : va_D A (XW cy x0 x v1 f2) := hD
  refine lv_iload_n hx hb dX10_dress_7 rfl (lv_at hl 1 rfl) ?_
  refine lv_if_ne (tgt := 21) hx hb dX10_dress_8 rfl (fun c3 => ?_) (fun c3 => ?_)
  · skip
    refine lv_iload_n hx hb dX10_dress_21 rfl (lv_at hl 1 rfl) ?_
    refine lv_iconst (v := 1) hx hb dX10_dress_22 rfl ?_
    refine lv_icmp_ne (tgt := 36) hx hb dX10_dress_23 rfl (fun c4 => ?_) (fun c4 => ?_)
    · skip
      refine lv_iconst (v := (-1)) hx hb dX10_dress_36 rfl ?_
      exact ret (-1) (v1, f2) _ _ _ _ _ _ rfl ⟨hM_v1, hA_f2, hIv1, hk0_v1, hk1_v1, hk7_v1, hk8_v1, hk9_v1, hk10_v1, hk31_v1, hk32_v1⟩ hP hD hS dX10_dress_37 (Nat.le_refl _) (Nat.le_refl _)
    · skip
      refine lv_aload_n hx hb dX10_dress_26 rfl (lv_at hl 0 rfl) ?_
      refine va_get (D := (dC, dI)) (ci := 10) (v := .ref (x 31)) (C := RX10) (T := TX10) (N := 10) hx hb hts inB_10 hown hE.1 hP 0 rfl rfl 7 (Nat.le_of_ble_eq_true rfl) (hts _ k_498) (fun _ h9 => h9) rfl dX10_dress_27 ?_
      refine va_getN (D := (dC, dI)) (ci := 0) (v := .int (v1 40)) (C := RX0) (T := TX0) (N := 8) hx hb hts inB_0 hown hE.1 hP 32 rfl rfl 7 (Nat.le_of_ble_eq_true rfl) (va_Nw.use rfl (hE.2 _ k_440)) (fun _ h9 => h9) rfl dX10_dress_30 ?_
      refine lv_goto (tgt := 37) hx hb dX10_dress_33 rfl ?_
      exact ret (v1 40) (v1, f2) _ _ _ _ _ _ rfl ⟨hM_v1, hA_f2, hIv1, hk0_v1, hk1_v1, hk7_v1, hk8_v1, hk9_v1, hk10_v1, hk31_v1, hk32_v1⟩ hP hD hS dX10_dress_37 (Nat.le_refl _) (Nat.le_refl _)
  · skip
    refine lv_aload_n hx hb dX10_dress_11 rfl (lv_at hl 0 rfl) ?_
    refine va_get (D := (dC, dI)) (ci := 10) (v := .ref (x 31)) (C := RX10) (T := TX10) (N := 10) hx hb hts inB_10 hown hE.1 hP 0 rfl rfl 7 (Nat.le_of_ble_eq_true rfl) (hts _ k_498) (fun _ h9 => h9) rfl dX10_dress_12 ?_
    refine va_getN (D := (dC, dI)) (ci := 0) (v := .int (v1 39)) (C := RX0) (T := TX0) (N := 8) hx hb hts inB_0 hown hE.1 hP 32 rfl rfl 6 (Nat.le_of_ble_eq_true rfl) (va_Nw.use rfl (hE.2 _ k_438)) (fun _ h9 => h9) rfl dX10_dress_15 ?_
    refine lv_goto (tgt := 37) hx hb dX10_dress_18 rfl ?_
    exact ret (v1 39) (v1, f2) _ _ _ _ _ _ rfl ⟨hM_v1, hA_f2, hIv1, hk0_v1, hk1_v1, hk7_v1, hk8_v1, hk9_v1, hk10_v1, hk31_v1, hk32_v1⟩ hP hD hS dX10_dress_37 (Nat.le_refl _) (Nat.le_refl _)
set_option maxHeartbeats 4000000 in
set_option maxRecDepth 100000 in
theorem sX_X3_sewnFits_1 (l : Launch) (dC : Nat → ClassId) (dI : Nat → Nat → Nat) (cy : Nat → ClassId) (x0 : Nat) (x : Nat → Nat) (p1 : Int32) (p2 : Int32) (p3 : Int32) (p4 : Int32) (v : Nat → Int32) (f : Nat → Nat → Int32) (hIv : XI v)  : ctI l (dC, dI) cy yX3_sewnFits cX3_sewnFits 7 .boolean 3 111 0 0 ((Nat → Int32) × (Nat → Nat → Int32)) [.ref (x 25), .int p1, .int p2, .int p3, .int p4] (XW cy x0 x v f) (fun r u => KV [24, 25] u.1 v ∧ KF [13, 14] u.2 f ∧ XI u.1 ∧ u.1 0 = v 0 ∧ u.1 1 = v 1 ∧ u.1 7 = v 7 ∧ u.1 8 = v 8 ∧ u.1 9 = v 9 ∧ u.1 10 = v 10 ∧ u.1 31 = v 31 ∧ u.1 32 = v 32 ∧ ((r = 1) ∨ (r = 0))) (fun u => XW cy x0 x u.1 u.2) := by
  refine ctI_of (by decide) (Nat.le_of_ble_eq_true rfl) (fun p e s m below meth c A ls Q hx hb hml hts hown hE hP hD hA hl ret => ?_)
  have hM_v : KV [24, 25] v v := fun _ _ => rfl
  have hA_f : KF [13, 14] f f := fun _ _ => rfl
  have hown : s.vm.findClass RX3 = some m.cls := hown
  have hS : va_S A s.heap s.heap [] := va_S.rf
  have hl : lv_has ls 7 [(0, .ref (x 25)), (1, .int p1), (2, .int p2), (3, .int p3), (4, .int p4)] := hl
  refine lv_aload_n hx hb dX3_sewnFits_0 rfl (lv_at hl 0 rfl) ?_
  refine va_get (D := (dC, dI)) (ci := 3) (v := .ref (x 21)) (C := RX3) (T := TX3) (N := 10) hx hb hts inB_3 hown hE.1 hP 26 rfl rfl 1 (Nat.le_of_ble_eq_true rfl) (hts _ k_371) (fun _ h9 => h9) rfl dX3_sewnFits_1 ?_
  refine lv_iconst (v := 0) hx hb dX3_sewnFits_4 rfl ?_
  refine lv_iload_n hx hb dX3_sewnFits_5 rfl (lv_at hl 1 rfl) ?_
  refine cbVi (n := 2) (rest := []) hx hb hml hown hts hE hP hD hS hA (sX_X1_part_1 0 l dC dI cy x0 x 0 p1 v f hIv ) k_1012 k_828 k_829 k_106 k_830 hd_yX1_part ⟨Nat.le_of_ble_eq_true rfl, Nat.le_of_ble_eq_true rfl⟩ 22 1 rfl rfl (rfl) hl.1 rfl (Nat.le_of_ble_eq_true rfl) dX3_sewnFits_6 (fun r1 u H locs hw hP hD hS => ?_)
  have hG2 := hw
  refine lv_iload_n hx hb dX3_sewnFits_9 rfl (lv_at hl 3 rfl) ?_
  refine lv_isub hx hb dX3_sewnFits_10 ?_
  refine lv_topi (fun t3 et3 => ?_)
  refine lv_istore (lv' := [(5, .int t3), (0, .ref (x 25)), (1, .int p1), (2, .int p2), (3, .int p3), (4, .int p4)]) hx hb dX3_sewnFits_11 hl (Nat.le_of_ble_eq_true rfl) rfl (fun ls hl => ?_)
  refine lv_aload_n hx hb dX3_sewnFits_13 rfl (lv_at hl 1 rfl) ?_
  refine va_get (D := (dC, dI)) (ci := 3) (v := .ref (x 21)) (C := RX3) (T := TX3) (N := 10) hx hb hts inB_3 hown hE.1 hP 26 rfl rfl 1 (Nat.le_of_ble_eq_true rfl) (hts _ k_371) (fun _ h9 => h9) rfl dX3_sewnFits_14 ?_
  refine lv_iconst (v := 1) hx hb dX3_sewnFits_17 rfl ?_
  refine lv_iload_n hx hb dX3_sewnFits_18 rfl (lv_at hl 2 rfl) ?_
  refine cbVi (n := 2) (rest := []) hx hb hml hown hts hE hP hD hS hA (sX_X1_part_1 0 l dC dI cy x0 x 1 p1 v f hIv ) k_1012 k_828 k_829 k_106 k_830 hd_yX1_part ⟨Nat.le_of_ble_eq_true rfl, Nat.le_of_ble_eq_true rfl⟩ 22 1 rfl rfl (rfl) hl.1 rfl (Nat.le_of_ble_eq_true rfl) dX3_sewnFits_19 (fun r4 u H locs hw hP hD hS => ?_)
  have hG5 := hw
  refine lv_iload hx hb dX3_sewnFits_22 (lv_at hl 5 rfl) ?_
  refine lv_isub hx hb dX3_sewnFits_24 ?_
  refine lv_topi (fun t6 et6 => ?_)
  refine lv_istore (lv' := [(6, .int t6), (5, .int t3), (0, .ref (x 25)), (1, .int p1), (2, .int p2), (3, .int p3), (4, .int p4)]) hx hb dX3_sewnFits_25 hl (Nat.le_of_ble_eq_true rfl) rfl (fun ls hl => ?_)
  refine lv_iload hx hb dX3_sewnFits_27 (lv_at hl 1 rfl) ?_
  refine lv_if_lt (tgt := 59) hx hb dX3_sewnFits_29 rfl (fun c7 => ?_) (fun c7 => ?_)
  · skip
    refine lv_iconst (v := 0) hx hb dX3_sewnFits_59 rfl ?_
    exact ret 0 (v, f) _ _ _ _ _ _ rfl ⟨hM_v, hA_f, hIv, rfl, rfl, rfl, rfl, rfl, rfl, rfl, rfl, (Or.inr rfl)⟩ hP hD hS dX3_sewnFits_60 (Nat.le_refl _) (Nat.le_refl _)
  · skip
    refine lv_iload hx hb dX3_sewnFits_32 (lv_at hl 0 rfl) ?_
    refine lv_if_lt (tgt := 59) hx hb dX3_sewnFits_34 rfl (fun c8 => ?_) (fun c8 => ?_)
    · skip
      refine lv_iconst (v := 0) hx hb dX3_sewnFits_59 rfl ?_
      exact ret 0 (v, f) _ _ _ _ _ _ rfl ⟨hM_v, hA_f, hIv, rfl, rfl, rfl, rfl, rfl, rfl, rfl, rfl, (Or.inr rfl)⟩ hP hD hS dX3_sewnFits_60 (Nat.le_refl _) (Nat.le_refl _)
    · skip
      refine lv_iload hx hb dX3_sewnFits_37 (lv_at hl 0 rfl) ?_
      refine lv_bipush (v := 99) hx hb dX3_sewnFits_39 rfl ?_
      refine lv_icmp_gt (tgt := 59) hx hb dX3_sewnFits_41 rfl (fun c9 => ?_) (fun c9 => ?_)
      · skip
        refine lv_iconst (v := 0) hx hb dX3_sewnFits_59 rfl ?_
        exact ret 0 (v, f) _ _ _ _ _ _ rfl ⟨hM_v, hA_f, hIv, rfl, rfl, rfl, rfl, rfl, rfl, rfl, rfl, (Or.inr rfl)⟩ hP hD hS dX3_sewnFits_60 (Nat.le_refl _) (Nat.le_refl _)
      · skip
        refine lv_iload hx hb dX3_sewnFits_44 (lv_at hl 6 rfl) ?_
        refine lv_ineg hx hb dX3_sewnFits_46 ?_
        refine lv_topi (fun t10 et10 => ?_)
        refine lv_aload_n hx hb dX3_sewnFits_47 rfl (lv_at hl 2 rfl) ?_
        refine va_get (D := (dC, dI)) (ci := 3) (v := .ref (x 21)) (C := RX3) (T := TX3) (N := 10) hx hb hts inB_3 hown hE.1 hP 26 rfl rfl 1 (Nat.le_of_ble_eq_true rfl) (hts _ k_371) (fun _ h9 => h9) rfl dX3_sewnFits_48 ?_
        refine lv_iconst (v := 2) hx hb dX3_sewnFits_51 rfl ?_
        refine lv_iload_n hx hb dX3_sewnFits_52 rfl (lv_at hl 3 rfl) ?_
        refine cbVi (n := 2) (rest := [.int t10]) hx hb hml hown hts hE hP hD hS hA (sX_X1_part_1 0 l dC dI cy x0 x 2 p1 v f hIv ) k_1012 k_828 k_829 k_106 k_830 hd_yX1_part ⟨Nat.le_of_ble_eq_true rfl, Nat.le_of_ble_eq_true rfl⟩ 22 1 rfl rfl (rfl) hl.1 rfl (Nat.le_of_ble_eq_true rfl) dX3_sewnFits_53 (fun r11 u H locs hw hP hD hS => ?_)
        have hG12 := hw
        refine lv_icmp_le (tgt := 61) hx hb dX3_sewnFits_56 rfl (fun c13 => ?_) (fun c13 => ?_)
        · skip
          refine lv_aload_n hx hb dX3_sewnFits_61 rfl (lv_at hl 2 rfl) ?_
          refine lv_iload_n hx hb dX3_sewnFits_62 rfl (lv_at hl 5 rfl) ?_
          refine va_put (D := (dC, dI)) (ci := 3) (v := .int p3) (ty := tyX3 3) (C := RX3) (T := TX3) (N := 10) hx hb hts inB_3 tyX3 tyX3_ok nmX3 hown hE.1 hP hD hS 26 rfl rfl 3 (Nat.le_of_ble_eq_true rfl) (hts _ k_373) (fun _ h9 => h9) rfl (tyX3_ok 3 (Nat.le_of_ble_eq_true rfl)) rfl rfl (Nat.le_of_ble_eq_true rfl) dX3_sewnFits_63 (fun H locs hP hD hS => ?_)
          have hP : va_P (dC, dI) vwCl (XW cy x0 x (upd v 24 p3) f) H := hP
          have hD : va_D A (XW cy x0 x (upd v 24 p3) f) := hD
          refine lv_aload_n hx hb dX3_sewnFits_66 rfl (lv_at hl 2 rfl) ?_
          refine lv_iload hx hb dX3_sewnFits_67 (lv_at hl 6 rfl) ?_
          refine va_put (D := (dC, dI)) (ci := 3) (v := .int p4) (ty := tyX3 4) (C := RX3) (T := TX3) (N := 10) hx hb hts inB_3 tyX3 tyX3_ok nmX3 hown hE.1 hP hD hS 26 rfl rfl 4 (Nat.le_of_ble_eq_true rfl) (hts _ k_375) (fun _ h9 => h9) rfl (tyX3_ok 4 (Nat.le_of_ble_eq_true rfl)) rfl rfl (Nat.le_of_ble_eq_true rfl) dX3_sewnFits_69 (fun H locs hP hD hS => ?_)
          have hP : va_P (dC, dI) vwCl (XW cy x0 x (upd (upd v 24 p3) 25 p4) f) H := hP
          have hD : va_D A (XW cy x0 x (upd (upd v 24 p3) 25 p4) f) := hD
          refine lv_aload_n hx hb dX3_sewnFits_72 rfl (lv_at hl 2 rfl) ?_
          refine va_get (D := (dC, dI)) (ci := 3) (v := .ref (x 26)) (C := RX3) (T := TX3) (N := 10) hx hb hts inB_3 hown hE.1 hP 26 rfl rfl 0 (Nat.le_of_ble_eq_true rfl) (hts _ k_370) (fun _ h9 => h9) rfl dX3_sewnFits_73 ?_
          refine va_getN (D := (dC, dI)) (ci := 7) (v := .ref (x 15)) (C := RX7) (T := TX7) (N := 10) hx hb hts inB_7 hown hE.1 hP 27 rfl rfl 2 (Nat.le_of_ble_eq_true rfl) (va_Nw.use rfl (hE.2 _ k_207)) (fun _ h9 => h9) rfl dX3_sewnFits_76 ?_
          refine lv_aload_n hx hb dX3_sewnFits_79 rfl (lv_at hl 2 rfl) ?_
          refine va_get (D := (dC, dI)) (ci := 3) (v := .ref (x 26)) (C := RX3) (T := TX3) (N := 10) hx hb hts inB_3 hown hE.1 hP 26 rfl rfl 0 (Nat.le_of_ble_eq_true rfl) (hts _ k_370) (fun _ h9 => h9) rfl dX3_sewnFits_80 ?_
          refine lv_iconst (v := 0) hx hb dX3_sewnFits_83 rfl ?_
          refine lv_iload_n hx hb dX3_sewnFits_84 rfl (lv_at hl 4 rfl) ?_
          refine cbVi (n := 2) (rest := [.ref (x 15)]) hx hb hml hown hts hE hP hD hS hA (sX_X7_manPart_1 0 l dC dI cy x0 x 0 p2 (upd (upd v 24 p3) 25 p4) f (Xu_25 (x := p4) (Xu_24 (x := p3) hIv (rlo _) (rhi _)) (rlo _) (rhi _)) ) k_1013 k_303 k_304 k_104 k_305 hd_yX7_manPart ⟨Nat.le_of_ble_eq_true rfl, Nat.le_of_ble_eq_true rfl⟩ 27 7 rfl rfl (rfl) hl.1 rfl (Nat.le_of_ble_eq_true rfl) dX3_sewnFits_85 (fun r16 u H locs hw hP hD hS => ?_)
          have hG17 := hw
          refine lv_aload_n hx hb dX3_sewnFits_88 rfl (lv_at hl 2 rfl) ?_
          refine va_get (D := (dC, dI)) (ci := 3) (v := .ref (x 21)) (C := RX3) (T := TX3) (N := 10) hx hb hts inB_3 hown hE.1 hP 26 rfl rfl 1 (Nat.le_of_ble_eq_true rfl) (hts _ k_371) (fun _ h9 => h9) rfl dX3_sewnFits_89 ?_
          refine lv_iload_n hx hb dX3_sewnFits_92 rfl (lv_at hl 4 rfl) ?_
          refine cbVi (n := 1) (rest := [.int r16, .ref (x 15)]) hx hb hml hown hts hE hP hD hS hA (sX_X1_manWide_1 0 l dC dI cy x0 x p2 (upd (upd v 24 p3) 25 p4) f (Xu_25 (x := p4) (Xu_24 (x := p3) hIv (rlo _) (rhi _)) (rlo _) (rhi _)) ) k_1014 k_805 k_806 k_106 k_807 hd_yX1_manWide ⟨Nat.le_of_ble_eq_true rfl, Nat.le_of_ble_eq_true rfl⟩ 22 1 rfl rfl (rfl) hl.1 rfl (Nat.le_of_ble_eq_true rfl) dX3_sewnFits_93 (fun r18 u H locs hw hP hD hS => ?_)
          have hG19 := hw
          refine lv_iload hx hb dX3_sewnFits_96 (lv_at hl 1 rfl) ?_
          refine lv_iload hx hb dX3_sewnFits_98 (lv_at hl 0 rfl) ?_
          refine lv_aload_n hx hb dX3_sewnFits_100 rfl (lv_at hl 2 rfl) ?_
          refine va_get (D := (dC, dI)) (ci := 3) (v := .ref (x 21)) (C := RX3) (T := TX3) (N := 10) hx hb hts inB_3 hown hE.1 hP 26 rfl rfl 1 (Nat.le_of_ble_eq_true rfl) (hts _ k_371) (fun _ h9 => h9) rfl dX3_sewnFits_101 ?_
          refine lv_iconst (v := 3) hx hb dX3_sewnFits_104 rfl ?_
          refine lv_iload_n hx hb dX3_sewnFits_105 rfl (lv_at hl 3 rfl) ?_
          refine cbVi (n := 2) (rest := [.int t6, .int t3, .int r18, .int r16, .ref (x 15)]) hx hb hml hown hts hE hP hD hS hA (sX_X1_part_1 0 l dC dI cy x0 x 3 p1 (upd (upd v 24 p3) 25 p4) f (Xu_25 (x := p4) (Xu_24 (x := p3) hIv (rlo _) (rhi _)) (rlo _) (rhi _)) ) k_1012 k_828 k_829 k_106 k_830 hd_yX1_part ⟨Nat.le_of_ble_eq_true rfl, Nat.le_of_ble_eq_true rfl⟩ 22 1 rfl rfl (rfl) hl.1 rfl (Nat.le_of_ble_eq_true rfl) dX3_sewnFits_106 (fun r20 u H locs hw hP hD hS => ?_)
          have hG21 := hw
          refine lv_aload_n hx hb dX3_sewnFits_109 rfl (lv_at hl 2 rfl) ?_
          refine va_get (D := (dC, dI)) (ci := 3) (v := .ref (x 21)) (C := RX3) (T := TX3) (N := 10) hx hb hts inB_3 hown hE.1 hP 26 rfl rfl 1 (Nat.le_of_ble_eq_true rfl) (hts _ k_371) (fun _ h9 => h9) rfl dX3_sewnFits_110 ?_
          refine cbVi (n := 0) (rest := [.int r20, .int t6, .int t3, .int r18, .int r16, .ref (x 15)]) hx hb hml hown hts hE hP hD hS hA (sX_X1_today_1 0 l dC dI cy x0 x  (upd (upd v 24 p3) 25 p4) f (Xu_25 (x := p4) (Xu_24 (x := p3) hIv (rlo _) (rhi _)) (rlo _) (rhi _)) ) k_1015 k_832 k_833 k_106 k_834 hd_yX1_today ⟨Nat.le_of_ble_eq_true rfl, Nat.le_of_ble_eq_true rfl⟩ 22 1 rfl rfl (rfl) hl.1 rfl (Nat.le_of_ble_eq_true rfl) dX3_sewnFits_113 (fun r22 u H locs hw hP hD hS => ?_)
          have hG23 := hw
          refine cbVi (n := 6) (rest := []) hx hb hml hown hts hE hP hD hS hA (sX_X4_worth_1 0 l dC dI cy x0 x r16 r18 t3 t6 r20 r22 (upd (upd v 24 p3) 25 p4) f (Xu_25 (x := p4) (Xu_24 (x := p3) hIv (rlo _) (rhi _)) (rlo _) (rhi _)) ) k_1016 k_836 k_837 k_105 k_838 hd_yX4_worth ⟨Nat.le_of_ble_eq_true rfl, Nat.le_of_ble_eq_true rfl⟩ 16 4 rfl rfl (rfl) hl.1 rfl (Nat.le_of_ble_eq_true rfl) dX3_sewnFits_116 (fun r24 u H locs hw hP hD hS => ?_)
          obtain ⟨hG25, hw⟩ := hw
          obtain ⟨v26, f27⟩ := u
          obtain ⟨kV_v26, kF_f27, hIv26, hk0_v26, hk1_v26, hk7_v26, hk8_v26, hk9_v26, hk10_v26, hk31_v26, hk32_v26⟩ := hw
          have hM_v26 : KV [24, 25] v26 v := KV.tr kV_v26 (KV.up (j := 25) (x := p4) (KV.up (j := 24) (x := p3) hM_v rfl) rfl) rfl
          have hA_f27 : KF [13, 14] f27 f := KF.tr kF_f27 hA_f rfl
          have hP : va_P (dC, dI) vwCl (XW cy x0 x v26 f27) H := hP
          have hD : va_D A (XW cy x0 x v26 f27) := hD
          refine lv_aload_n hx hb dX3_sewnFits_119 rfl (lv_at hl 2 rfl) ?_
          refine va_get (D := (dC, dI)) (ci := 3) (v := .ref (x 26)) (C := RX3) (T := TX3) (N := 10) hx hb hts inB_3 hown hE.1 hP 26 rfl rfl 0 (Nat.le_of_ble_eq_true rfl) (hts _ k_370) (fun _ h9 => h9) rfl dX3_sewnFits_120 ?_
          refine va_getN (D := (dC, dI)) (ci := 7) (v := .int (v26 33)) (C := RX7) (T := TX7) (N := 10) hx hb hts inB_7 hown hE.1 hP 27 rfl rfl 5 (Nat.le_of_ble_eq_true rfl) (va_Nw.use rfl (hE.2 _ k_230)) (fun _ h9 => h9) rfl dX3_sewnFits_123 ?_
          refine lv_icmp_gt (tgt := 133) hx hb dX3_sewnFits_126 rfl (fun c28 => ?_) (fun c28 => ?_)
          · skip
            refine lv_iconst (v := 0) hx hb dX3_sewnFits_133 rfl ?_
            exact ret 0 (v26, f27) _ _ _ _ _ _ rfl ⟨hM_v26, hA_f27, hIv26, hk0_v26, hk1_v26, hk7_v26, hk8_v26, hk9_v26, hk10_v26, hk31_v26, hk32_v26, (Or.inr rfl)⟩ hP hD hS dX3_sewnFits_134 (Nat.le_refl _) (Nat.le_refl _)
          · skip
            refine lv_iconst (v := 1) hx hb dX3_sewnFits_129 rfl ?_
            refine lv_goto (tgt := 134) hx hb dX3_sewnFits_130 rfl ?_
            exact ret 1 (v26, f27) _ _ _ _ _ _ rfl ⟨hM_v26, hA_f27, hIv26, hk0_v26, hk1_v26, hk7_v26, hk8_v26, hk9_v26, hk10_v26, hk31_v26, hk32_v26, (Or.inl rfl)⟩ hP hD hS dX3_sewnFits_134 (Nat.le_refl _) (Nat.le_refl _)
        · skip
          refine lv_iconst (v := 0) hx hb dX3_sewnFits_59 rfl ?_
          exact ret 0 (v, f) _ _ _ _ _ _ rfl ⟨hM_v, hA_f, hIv, rfl, rfl, rfl, rfl, rfl, rfl, rfl, rfl, (Or.inr rfl)⟩ hP hD hS dX3_sewnFits_60 (Nat.le_refl _) (Nat.le_refl _)
set_option maxHeartbeats 4000000 in
set_option maxRecDepth 100000 in
theorem sX_X3_findSewing_1 (l : Launch) (dC : Nat → ClassId) (dI : Nat → Nat → Nat) (cy : Nat → ClassId) (x0 : Nat) (x : Nat → Nat) (p1 : Int32) (p2 : Int32) (v : Nat → Int32) (f : Nat → Nat → Int32) (hIv : XI v)  : ctI l (dC, dI) cy yX3_findSewing cX3_findSewing 6 .boolean 4 137 0 0 ((Nat → Int32) × (Nat → Nat → Int32)) [.ref (x 25), .int p1, .int p2] (XW cy x0 x v f) (fun r u => KV [24, 25] u.1 v ∧ KF [13, 14] u.2 f ∧ XI u.1 ∧ u.1 0 = v 0 ∧ u.1 1 = v 1 ∧ u.1 7 = v 7 ∧ u.1 8 = v 8 ∧ u.1 9 = v 9 ∧ u.1 10 = v 10 ∧ u.1 31 = v 31 ∧ u.1 32 = v 32 ∧ ((r = 1) ∨ (r = 0))) (fun u => XW cy x0 x u.1 u.2) := by
  refine ctI_of (by decide) (Nat.le_of_ble_eq_true rfl) (fun p e s m below meth c A ls Q hx hb hml hts hown hE hP hD hA hl ret => ?_)
  have hM_v : KV [24, 25] v v := fun _ _ => rfl
  have hA_f : KF [13, 14] f f := fun _ _ => rfl
  have hown : s.vm.findClass RX3 = some m.cls := hown
  have hS : va_S A s.heap s.heap [] := va_S.rf
  have hl : lv_has ls 6 [(0, .ref (x 25)), (1, .int p1), (2, .int p2)] := hl
  refine lv_iconst (v := 0) hx hb dX3_findSewing_0 rfl ?_
  refine lv_istore_n (lv' := [(3, .int 0), (0, .ref (x 25)), (1, .int p1), (2, .int p2)]) hx hb dX3_findSewing_1 rfl hl (Nat.le_of_ble_eq_true rfl) rfl (fun ls hl => ?_)
  have lp1 : ∀ (n1 : Nat) (l3_1 : Int32) (v1 : Nat → Int32) (f1 : Nat → Nat → Int32), XI v1 → v1 0 = (v 0) → v1 1 = (v 1) → v1 7 = (v 7) → v1 8 = (v 8) → v1 9 = (v 9) → v1 10 = (v 10) → v1 31 = (v 31) → v1 32 = (v 32) → ((0 : Int) ≤ l3_1.toInt ∧ l3_1.toInt ≤ 2147483647) → KV [24, 25] v1 v → KF [13, 14] f1 f → (2147483647 - l3_1.toInt).toNat < n1 → ∀ (H : Heap) (locs : List Loc) (ls : Array Slot), va_P (dC, dI) vwCl (XW cy x0 x v1 f1) H → va_D A (XW cy x0 x v1 f1) → va_S A s.heap H locs → lv_has ls 6 [(3, .int l3_1), (0, .ref (x 25)), (1, .int p1), (2, .int p2)] → W p l e { frames := 4, cells := 0, slots := 0, locals := 137 } s m ([.ref (x 25), .int p1, .int p2] : List Value).toArray below meth c H locs 0 0 Q (F0 m 2 ls []) := by
    intro n1
    induction n1 with
    | zero => intro l3_1 v1 f1 hIv1 hq0_v1 hq1_v1 hq7_v1 hq8_v1 hq9_v1 hq10_v1 hq31_v1 hq32_v1 hr3_1 hM_v1 hA_f1 hm; exact absurd hm (Nat.not_lt_zero _)
    | succ n1 ih1 =>
      intro l3_1 v1 f1 hIv1 hq0_v1 hq1_v1 hq7_v1 hq8_v1 hq9_v1 hq10_v1 hq31_v1 hq32_v1 hr3_1 hM_v1 hA_f1 hm1 H locs ls hP hD hS hl
      refine lv_iload_n hx hb dX3_findSewing_2 rfl (lv_at hl 0 rfl) ?_
      refine lv_bipush (v := 40) hx hb dX3_findSewing_3 rfl ?_
      refine lv_icmp_gt (tgt := 78) hx hb dX3_findSewing_5 rfl (fun c2 => ?_) (fun c2 => ?_)
      · skip
        refine lv_iconst (v := 0) hx hb dX3_findSewing_78 rfl ?_
        exact ret 0 (v1, f1) _ _ _ _ _ _ rfl ⟨hM_v1, hA_f1, hIv1, (show v1 0 = v 0 from hq0_v1), (show v1 1 = v 1 from hq1_v1), (show v1 7 = v 7 from hq7_v1), (show v1 8 = v 8 from hq8_v1), (show v1 9 = v 9 from hq9_v1), (show v1 10 = v 10 from hq10_v1), (show v1 31 = v 31 from hq31_v1), (show v1 32 = v 32 from hq32_v1), (Or.inr rfl)⟩ hP hD hS dX3_findSewing_79 (Nat.le_refl _) (Nat.le_refl _)
      · skip
        have zc2 : ¬ (40 < l3_1.toInt) := zLn tc_40 rfl c2
        refine lv_iconst (v := 0) hx hb dX3_findSewing_8 rfl ?_
        refine lv_iload_n hx hb dX3_findSewing_9 rfl (lv_at hl 0 rfl) ?_
        refine lv_bipush (v := 20) hx hb dX3_findSewing_10 rfl ?_
        refine lv_isub hx hb dX3_findSewing_12 ?_
        refine lv_topi (fun t3 et3 => ?_)
        have rg4 := fb_rng l3_1
        have zt3 : t3.toInt = l3_1.toInt - 20 := (congrArg Int32.toInt et3).trans (sub_i rfl tc_20 (om_252 hr3_1) (om_253 zc2))
        refine va_mmax hx hb (by rw [hml]; exact hl.1.symm) hown (hts _ k_1007) (hts _ k_640) (hts _ k_119) (hts _ k_641) (Nat.le_of_ble_eq_true rfl) (Nat.le_of_ble_eq_true rfl) (Nat.le_of_ble_eq_true rfl) (Nat.le_of_ble_eq_true rfl) dX3_findSewing_13 ?_
        refine lv_topi (fun t5 et5 => ?_)
        have zt5 : t5.toInt = max (0) (t3.toInt) := by rw [et5]; exact mmax_i (by decide) rfl
        refine lv_istore (lv' := [(4, .int t5), (3, .int l3_1), (0, .ref (x 25)), (1, .int p1), (2, .int p2)]) hx hb dX3_findSewing_16 hl (Nat.le_of_ble_eq_true rfl) rfl (fun ls hl => ?_)
        have lp6 : ∀ (n6 : Nat) (l4_6 : Int32) (v6 : Nat → Int32) (f6 : Nat → Nat → Int32), XI v6 → v6 0 = (v 0) → v6 1 = (v 1) → v6 7 = (v 7) → v6 8 = (v 8) → v6 9 = (v 9) → v6 10 = (v 10) → v6 31 = (v 31) → v6 32 = (v 32) → ((0 : Int) ≤ l4_6.toInt ∧ l4_6.toInt ≤ 2147483647) → KV [24, 25] v6 v → KF [13, 14] f6 f → (2147483647 - l4_6.toInt).toNat < n6 → ∀ (H : Heap) (locs : List Loc) (ls : Array Slot), va_P (dC, dI) vwCl (XW cy x0 x v6 f6) H → va_D A (XW cy x0 x v6 f6) → va_S A s.heap H locs → lv_has ls 6 [(4, .int l4_6), (3, .int l3_1), (0, .ref (x 25)), (1, .int p1), (2, .int p2)] → W p l e { frames := 4, cells := 0, slots := 0, locals := 137 } s m ([.ref (x 25), .int p1, .int p2] : List Value).toArray below meth c H locs 0 0 Q (F0 m 18 ls []) := by
          intro n6
          induction n6 with
          | zero => intro l4_6 v6 f6 hIv6 hq0_v6 hq1_v6 hq7_v6 hq8_v6 hq9_v6 hq10_v6 hq31_v6 hq32_v6 hr4_6 hM_v6 hA_f6 hm; exact absurd hm (Nat.not_lt_zero _)
          | succ n6 ih6 =>
            intro l4_6 v6 f6 hIv6 hq0_v6 hq1_v6 hq7_v6 hq8_v6 hq9_v6 hq10_v6 hq31_v6 hq32_v6 hr4_6 hM_v6 hA_f6 hm6 H locs ls hP hD hS hl
            refine lv_iload hx hb dX3_findSewing_18 (lv_at hl 0 rfl) ?_
            refine lv_iload_n hx hb dX3_findSewing_20 rfl (lv_at hl 1 rfl) ?_
            refine lv_icmp_gt (tgt := 72) hx hb dX3_findSewing_21 rfl (fun c7 => ?_) (fun c7 => ?_)
            · skip
              obtain ⟨t9, et9⟩ : ∃ y : Int32, y = l3_1 + 1 := ⟨_, rfl⟩
              have zt9 : t9.toInt = l3_1.toInt + 1 := (congrArg Int32.toInt et9).trans (add_i rfl tc_1 (om_41 hr3_1) (om_254 zc2))
              refine lv_iinc (v := t9) (lv' := [(3, .int t9), (4, .int l4_6), (0, .ref (x 25)), (1, .int p1), (2, .int p2)]) hx hb dX3_findSewing_72 hl (k := 1) rfl et9.symm (Nat.le_of_ble_eq_true rfl) rfl (fun ls hl => ?_)
              refine lv_goto (tgt := 2) hx hb dX3_findSewing_75 rfl ?_
              have rg10 := fb_rng t9
              exact ih1 t9 v6 f6 hIv6 hq0_v6 hq1_v6 hq7_v6 hq8_v6 hq9_v6 hq10_v6 hq31_v6 hq32_v6 ⟨show (0 : Int) ≤ t9.toInt from om_43 hr3_1 zt9, show t9.toInt ≤ (2147483647 : Int) from om_44 rg10⟩ hM_v6 hA_f6 (show (2147483647 - t9.toInt).toNat < n1 from om_33 hm1 zt9 rg10) _ _ _ hP hD hS (lv_sub hl [0, 2, 3, 4] rfl)
            · skip
              refine lv_iload hx hb dX3_findSewing_24 (lv_at hl 0 rfl) ?_
              refine lv_bipush (v := 20) hx hb dX3_findSewing_26 rfl ?_
              refine lv_icmp_gt (tgt := 72) hx hb dX3_findSewing_28 rfl (fun c12 => ?_) (fun c12 => ?_)
              · skip
                obtain ⟨t13, et13⟩ : ∃ y : Int32, y = l3_1 + 1 := ⟨_, rfl⟩
                have zt13 : t13.toInt = l3_1.toInt + 1 := (congrArg Int32.toInt et13).trans (add_i rfl tc_1 (om_41 hr3_1) (om_254 zc2))
                refine lv_iinc (v := t13) (lv' := [(3, .int t13), (4, .int l4_6), (0, .ref (x 25)), (1, .int p1), (2, .int p2)]) hx hb dX3_findSewing_72 hl (k := 1) rfl et13.symm (Nat.le_of_ble_eq_true rfl) rfl (fun ls hl => ?_)
                refine lv_goto (tgt := 2) hx hb dX3_findSewing_75 rfl ?_
                have rg14 := fb_rng t13
                exact ih1 t13 v6 f6 hIv6 hq0_v6 hq1_v6 hq7_v6 hq8_v6 hq9_v6 hq10_v6 hq31_v6 hq32_v6 ⟨show (0 : Int) ≤ t13.toInt from om_43 hr3_1 zt13, show t13.toInt ≤ (2147483647 : Int) from om_44 rg14⟩ hM_v6 hA_f6 (show (2147483647 - t13.toInt).toNat < n1 from om_33 hm1 zt13 rg14) _ _ _ hP hD hS (lv_sub hl [0, 2, 3, 4] rfl)
              · skip
                have zc12 : ¬ (20 < l4_6.toInt) := zLn tc_20 rfl c12
                refine lv_iload_n hx hb dX3_findSewing_31 rfl (lv_at hl 1 rfl) ?_
                refine lv_iload hx hb dX3_findSewing_32 (lv_at hl 0 rfl) ?_
                refine lv_isub hx hb dX3_findSewing_34 ?_
                refine lv_topi (fun t15 et15 => ?_)
                refine lv_istore (lv' := [(5, .int t15), (4, .int l4_6), (3, .int l3_1), (0, .ref (x 25)), (1, .int p1), (2, .int p2)]) hx hb dX3_findSewing_35 hl (Nat.le_of_ble_eq_true rfl) rfl (fun ls hl => ?_)
                refine lv_aload_n hx hb dX3_findSewing_37 rfl (lv_at hl 3 rfl) ?_
                refine lv_iload_n hx hb dX3_findSewing_38 rfl (lv_at hl 4 rfl) ?_
                refine lv_iload_n hx hb dX3_findSewing_39 rfl (lv_at hl 5 rfl) ?_
                refine lv_iload hx hb dX3_findSewing_40 (lv_at hl 1 rfl) ?_
                refine lv_iload hx hb dX3_findSewing_42 (lv_at hl 0 rfl) ?_
                refine cbVi (n := 4) (rest := []) hx hb hml hown hts hE hP hD hS hA (sX_X3_sewnFits_1 l dC dI cy x0 x p1 p2 l4_6 t15 v6 f6 hIv6 ) k_1008 k_1010 k_27 k_109 k_1011 hd_yX3_sewnFits ⟨Nat.le_of_ble_eq_true rfl, Nat.le_of_ble_eq_true rfl⟩ 26 3 rfl rfl (rfl) hl.1 rfl (Nat.le_of_ble_eq_true rfl) dX3_findSewing_44 (fun r16 u H locs hw hP hD hS => ?_)
                obtain ⟨v17, f18⟩ := u
                obtain ⟨kV_v17, kF_f18, hIv17, hk0_v17, hk1_v17, hk7_v17, hk8_v17, hk9_v17, hk10_v17, hk31_v17, hk32_v17, hw⟩ := hw
                have hM_v17 : KV [24, 25] v17 v := KV.tr kV_v17 hM_v6 rfl
                have hA_f18 : KF [13, 14] f18 f := KF.tr kF_f18 hA_f6 rfl
                have hP : va_P (dC, dI) vwCl (XW cy x0 x v17 f18) H := hP
                have hD : va_D A (XW cy x0 x v17 f18) := hD
                have hq0_v17 : v17 0 = (v 0) := hk0_v17.trans hq0_v6
                have hq1_v17 : v17 1 = (v 1) := hk1_v17.trans hq1_v6
                have hq7_v17 : v17 7 = (v 7) := hk7_v17.trans hq7_v6
                have hq8_v17 : v17 8 = (v 8) := hk8_v17.trans hq8_v6
                have hq9_v17 : v17 9 = (v 9) := hk9_v17.trans hq9_v6
                have hq10_v17 : v17 10 = (v 10) := hk10_v17.trans hq10_v6
                have hq31_v17 : v17 31 = (v 31) := hk31_v17.trans hq31_v6
                have hq32_v17 : v17 32 = (v 32) := hk32_v17.trans hq32_v6
                rcases hw with ⟨g19⟩ | ⟨g19⟩
                · skip
                  subst g19
                  refine lv_if_ne (tgt := 64) hx hb dX3_findSewing_47 rfl (fun _ => ?_) (fun c0 => absurd c0 (by decide))
                  refine lv_iconst (v := 1) hx hb dX3_findSewing_64 rfl ?_
                  exact ret 1 (v17, f18) _ _ _ _ _ _ rfl ⟨hM_v17, hA_f18, hIv17, (hk0_v17.trans hq0_v6), (hk1_v17.trans hq1_v6), (hk7_v17.trans hq7_v6), (hk8_v17.trans hq8_v6), (hk9_v17.trans hq9_v6), (hk10_v17.trans hq10_v6), (hk31_v17.trans hq31_v6), (hk32_v17.trans hq32_v6), (Or.inl rfl)⟩ hP hD hS dX3_findSewing_65 (Nat.le_refl _) (Nat.le_refl _)
                · skip
                  subst g19
                  refine lv_if_ne (tgt := 64) hx hb dX3_findSewing_47 rfl (fun c0 => absurd (by decide) c0) (fun _ => ?_)
                  refine lv_aload_n hx hb dX3_findSewing_50 rfl (lv_at hl 3 rfl) ?_
                  refine lv_iload_n hx hb dX3_findSewing_51 rfl (lv_at hl 4 rfl) ?_
                  refine lv_iload_n hx hb dX3_findSewing_52 rfl (lv_at hl 5 rfl) ?_
                  refine lv_iload hx hb dX3_findSewing_53 (lv_at hl 1 rfl) ?_
                  refine lv_iload hx hb dX3_findSewing_55 (lv_at hl 0 rfl) ?_
                  refine lv_ineg hx hb dX3_findSewing_57 ?_
                  refine lv_topi (fun t20 et20 => ?_)
                  refine cbVi (n := 4) (rest := []) hx hb hml hown hts hE hP hD hS hA (sX_X3_sewnFits_1 l dC dI cy x0 x p1 p2 l4_6 t20 v17 f18 hIv17 ) k_1008 k_1010 k_27 k_109 k_1011 hd_yX3_sewnFits ⟨Nat.le_of_ble_eq_true rfl, Nat.le_of_ble_eq_true rfl⟩ 26 3 rfl rfl (rfl) hl.1 rfl (Nat.le_of_ble_eq_true rfl) dX3_findSewing_58 (fun r21 u H locs hw hP hD hS => ?_)
                  obtain ⟨v22, f23⟩ := u
                  obtain ⟨kV_v22, kF_f23, hIv22, hk0_v22, hk1_v22, hk7_v22, hk8_v22, hk9_v22, hk10_v22, hk31_v22, hk32_v22, hw⟩ := hw
                  have hM_v22 : KV [24, 25] v22 v := KV.tr kV_v22 hM_v17 rfl
                  have hA_f23 : KF [13, 14] f23 f := KF.tr kF_f23 hA_f18 rfl
                  have hP : va_P (dC, dI) vwCl (XW cy x0 x v22 f23) H := hP
                  have hD : va_D A (XW cy x0 x v22 f23) := hD
                  have hq0_v22 : v22 0 = (v 0) := hk0_v22.trans hq0_v17
                  have hq1_v22 : v22 1 = (v 1) := hk1_v22.trans hq1_v17
                  have hq7_v22 : v22 7 = (v 7) := hk7_v22.trans hq7_v17
                  have hq8_v22 : v22 8 = (v 8) := hk8_v22.trans hq8_v17
                  have hq9_v22 : v22 9 = (v 9) := hk9_v22.trans hq9_v17
                  have hq10_v22 : v22 10 = (v 10) := hk10_v22.trans hq10_v17
                  have hq31_v22 : v22 31 = (v 31) := hk31_v22.trans hq31_v17
                  have hq32_v22 : v22 32 = (v 32) := hk32_v22.trans hq32_v17
                  rcases hw with ⟨g24⟩ | ⟨g24⟩
                  · skip
                    subst g24
                    refine lv_if_eq (tgt := 66) hx hb dX3_findSewing_61 rfl (fun c0 => absurd c0 (by decide)) (fun _ => ?_)
                    refine lv_iconst (v := 1) hx hb dX3_findSewing_64 rfl ?_
                    exact ret 1 (v22, f23) _ _ _ _ _ _ rfl ⟨hM_v22, hA_f23, hIv22, (hk0_v22.trans (hk0_v17.trans hq0_v6)), (hk1_v22.trans (hk1_v17.trans hq1_v6)), (hk7_v22.trans (hk7_v17.trans hq7_v6)), (hk8_v22.trans (hk8_v17.trans hq8_v6)), (hk9_v22.trans (hk9_v17.trans hq9_v6)), (hk10_v22.trans (hk10_v17.trans hq10_v6)), (hk31_v22.trans (hk31_v17.trans hq31_v6)), (hk32_v22.trans (hk32_v17.trans hq32_v6)), (Or.inl rfl)⟩ hP hD hS dX3_findSewing_65 (Nat.le_refl _) (Nat.le_refl _)
                  · skip
                    subst g24
                    refine lv_if_eq (tgt := 66) hx hb dX3_findSewing_61 rfl (fun _ => ?_) (fun c0 => absurd (by decide) c0)
                    obtain ⟨t25, et25⟩ : ∃ y : Int32, y = l4_6 + 1 := ⟨_, rfl⟩
                    have zt25 : t25.toInt = l4_6.toInt + 1 := (congrArg Int32.toInt et25).trans (add_i rfl tc_1 (om_41 hr4_6) (om_257 zc12))
                    refine lv_iinc (v := t25) (lv' := [(4, .int t25), (5, .int t15), (3, .int l3_1), (0, .ref (x 25)), (1, .int p1), (2, .int p2)]) hx hb dX3_findSewing_66 hl (k := 1) rfl et25.symm (Nat.le_of_ble_eq_true rfl) rfl (fun ls hl => ?_)
                    refine lv_goto (tgt := 18) hx hb dX3_findSewing_69 rfl ?_
                    have rg26 := fb_rng t25
                    exact ih6 t25 v22 f23 hIv22 hq0_v22 hq1_v22 hq7_v22 hq8_v22 hq9_v22 hq10_v22 hq31_v22 hq32_v22 ⟨show (0 : Int) ≤ t25.toInt from om_43 hr4_6 zt25, show t25.toInt ≤ (2147483647 : Int) from om_44 rg26⟩ hM_v22 hA_f23 (show (2147483647 - t25.toInt).toNat < n6 from om_33 hm6 zt25 rg26) _ _ _ hP hD hS (lv_sub hl [0, 2, 3, 4, 5] rfl)
        have rg27 := fb_rng t5
        exact lp6 _ t5 v1 f1 hIv1 hq0_v1 hq1_v1 hq7_v1 hq8_v1 hq9_v1 hq10_v1 hq31_v1 hq32_v1 ⟨show (0 : Int) ≤ t5.toInt by omega, show t5.toInt ≤ (2147483647 : Int) from om_44 rg27⟩ hM_v1 hA_f1 (Nat.lt_succ_self _) _ _ _ hP hD hS (lv_sub hl [0, 1, 2, 3, 4] rfl)
  exact lp1 _ 0 v f hIv rfl rfl rfl rfl rfl rfl rfl rfl ⟨by decide, by decide⟩ hM_v hA_f (Nat.lt_succ_self _) _ _ _ hP hD hS (lv_sub hl [0, 1, 2, 3] rfl)
set_option maxHeartbeats 4000000 in
set_option maxRecDepth 100000 in
theorem sX_X10_sewing_1 (l : Launch) (dC : Nat → ClassId) (dI : Nat → Nat → Nat) (cy : Nat → ClassId) (x0 : Nat) (x : Nat → Nat) (p1 : Int32) (p2 : Int32) (p3 : Int32) (v : Nat → Int32) (f : Nat → Nat → Int32) (hIv : XI v)  : ctI l (dC, dI) cy yX10_sewing cX10_sewing 4 .int 5 162 0 0 ((Nat → Int32) × (Nat → Nat → Int32)) [.ref x0, .int p1, .int p2, .int p3] (XW cy x0 x v f) (fun r u => KV [24, 25] u.1 v ∧ KF [13, 14] u.2 f ∧ XI u.1 ∧ u.1 0 = v 0 ∧ u.1 1 = v 1 ∧ u.1 7 = v 7 ∧ u.1 8 = v 8 ∧ u.1 9 = v 9 ∧ u.1 10 = v 10 ∧ u.1 31 = v 31 ∧ u.1 32 = v 32) (fun u => XW cy x0 x u.1 u.2) := by
  refine ctI_of (by decide) (Nat.le_of_ble_eq_true rfl) (fun p e s m below meth c A ls Q hx hb hml hts hown hE hP hD hA hl ret => ?_)
  have hM_v : KV [24, 25] v v := fun _ _ => rfl
  have hA_f : KF [13, 14] f f := fun _ _ => rfl
  have hown : s.vm.findClass RX10 = some m.cls := hown
  have hS : va_S A s.heap s.heap [] := va_S.rf
  have hl : lv_has ls 4 [(0, .ref x0), (1, .int p1), (2, .int p2), (3, .int p3)] := hl
  refine lv_aload_n hx hb dX10_sewing_0 rfl (lv_at hl 0 rfl) ?_
  refine va_get (D := (dC, dI)) (ci := 10) (v := .ref (x 26)) (C := RX10) (T := TX10) (N := 10) hx hb hts inB_10 hown hE.1 hP 0 rfl rfl 2 (Nat.le_of_ble_eq_true rfl) (hts _ k_493) (fun _ h9 => h9) rfl dX10_sewing_1 ?_
  refine lv_iload_n hx hb dX10_sewing_4 rfl (lv_at hl 1 rfl) ?_
  refine cbVi (n := 1) (rest := []) hx hb hml hown hts hE hP hD hS hA (sX_X7_hasCoat_1 0 l dC dI cy x0 x p1 v f hIv ) k_848 k_315 k_316 k_104 k_317 hd_yX7_hasCoat ⟨Nat.le_of_ble_eq_true rfl, Nat.le_of_ble_eq_true rfl⟩ 27 7 rfl rfl (rfl) hl.1 rfl (Nat.le_of_ble_eq_true rfl) dX10_sewing_5 (fun r1 u H locs hw hP hD hS => ?_)
  obtain ⟨hG2, hw⟩ := hw
  rcases hw with ⟨g3, g3_0, g3_1, g3_2⟩ | ⟨g3⟩
  · skip
    subst g3
    refine lv_if_eq (tgt := 31) hx hb dX10_sewing_8 rfl (fun c0 => absurd c0 (by decide)) (fun _ => ?_)
    refine lv_aload_n hx hb dX10_sewing_11 rfl (lv_at hl 0 rfl) ?_
    refine va_get (D := (dC, dI)) (ci := 10) (v := .ref (x 26)) (C := RX10) (T := TX10) (N := 10) hx hb hts inB_10 hown hE.1 hP 0 rfl rfl 2 (Nat.le_of_ble_eq_true rfl) (hts _ k_493) (fun _ h9 => h9) rfl dX10_sewing_12 ?_
    refine lv_iload_n hx hb dX10_sewing_15 rfl (lv_at hl 2 rfl) ?_
    refine cbVi (n := 1) (rest := []) hx hb hml hown hts hE hP hD hS hA (sX_X7_hasMan_1 0 l dC dI cy x0 x p2 v f hIv ) k_802 k_307 k_308 k_104 k_309 hd_yX7_hasMan ⟨Nat.le_of_ble_eq_true rfl, Nat.le_of_ble_eq_true rfl⟩ 27 7 rfl rfl (rfl) hl.1 rfl (Nat.le_of_ble_eq_true rfl) dX10_sewing_16 (fun r4 u H locs hw hP hD hS => ?_)
    obtain ⟨hG5, hw⟩ := hw
    rcases hw with ⟨g6, g6_0, g6_1, g6_2⟩ | ⟨g6⟩
    · skip
      subst g6
      refine lv_if_eq (tgt := 31) hx hb dX10_sewing_19 rfl (fun c0 => absurd c0 (by decide)) (fun _ => ?_)
      refine lv_iload_n hx hb dX10_sewing_22 rfl (lv_at hl 3 rfl) ?_
      refine lv_if_lt (tgt := 31) hx hb dX10_sewing_23 rfl (fun c7 => ?_) (fun c7 => ?_)
      · skip
        refine lv_bipush (v := (-100)) hx hb dX10_sewing_31 rfl ?_
        exact ret (-100) (v, f) _ _ _ _ _ _ rfl ⟨hM_v, hA_f, hIv, rfl, rfl, rfl, rfl, rfl, rfl, rfl, rfl⟩ hP hD hS dX10_sewing_33 (Nat.le_refl _) (Nat.le_refl _)
      · skip
        refine lv_iload_n hx hb dX10_sewing_26 rfl (lv_at hl 3 rfl) ?_
        refine lv_iconst (v := 2) hx hb dX10_sewing_27 rfl ?_
        refine lv_icmp_le (tgt := 34) hx hb dX10_sewing_28 rfl (fun c8 => ?_) (fun c8 => ?_)
        · skip
          refine lv_aload_n hx hb dX10_sewing_34 rfl (lv_at hl 0 rfl) ?_
          refine va_get (D := (dC, dI)) (ci := 10) (v := .ref (x 25)) (C := RX10) (T := TX10) (N := 10) hx hb hts inB_10 hown hE.1 hP 0 rfl rfl 5 (Nat.le_of_ble_eq_true rfl) (hts _ k_496) (fun _ h9 => h9) rfl dX10_sewing_35 ?_
          refine lv_iload_n hx hb dX10_sewing_38 rfl (lv_at hl 1 rfl) ?_
          refine lv_iload_n hx hb dX10_sewing_39 rfl (lv_at hl 2 rfl) ?_
          refine cbVi (n := 2) (rest := []) hx hb hml hown hts hE hP hD hS hA (sX_X3_findSewing_1 l dC dI cy x0 x p1 p2 v f hIv ) k_1003 k_1004 k_1005 k_109 k_1006 hd_yX3_findSewing ⟨Nat.le_of_ble_eq_true rfl, Nat.le_of_ble_eq_true rfl⟩ 26 3 rfl rfl (rfl) hl.1 rfl (Nat.le_of_ble_eq_true rfl) dX10_sewing_40 (fun r9 u H locs hw hP hD hS => ?_)
          obtain ⟨v10, f11⟩ := u
          obtain ⟨kV_v10, kF_f11, hIv10, hk0_v10, hk1_v10, hk7_v10, hk8_v10, hk9_v10, hk10_v10, hk31_v10, hk32_v10, hw⟩ := hw
          have hM_v10 : KV [24, 25] v10 v := KV.tr kV_v10 hM_v rfl
          have hA_f11 : KF [13, 14] f11 f := KF.tr kF_f11 hA_f rfl
          have hP : va_P (dC, dI) vwCl (XW cy x0 x v10 f11) H := hP
          have hD : va_D A (XW cy x0 x v10 f11) := hD
          rcases hw with ⟨g12⟩ | ⟨g12⟩
          · skip
            subst g12
            refine lv_if_ne (tgt := 49) hx hb dX10_sewing_43 rfl (fun _ => ?_) (fun c0 => absurd c0 (by decide))
            refine lv_iload_n hx hb dX10_sewing_49 rfl (lv_at hl 3 rfl) ?_
            refine lv_if_ne (tgt := 72) hx hb dX10_sewing_50 rfl (fun c13 => ?_) (fun c13 => ?_)
            · skip
              refine lv_iload_n hx hb dX10_sewing_72 rfl (lv_at hl 3 rfl) ?_
              refine lv_iconst (v := 1) hx hb dX10_sewing_73 rfl ?_
              refine lv_icmp_ne (tgt := 87) hx hb dX10_sewing_74 rfl (fun c14 => ?_) (fun c14 => ?_)
              · skip
                refine lv_aload_n hx hb dX10_sewing_87 rfl (lv_at hl 0 rfl) ?_
                refine va_get (D := (dC, dI)) (ci := 10) (v := .ref (x 25)) (C := RX10) (T := TX10) (N := 10) hx hb hts inB_10 hown hE.1 hP 0 rfl rfl 5 (Nat.le_of_ble_eq_true rfl) (hts _ k_496) (fun _ h9 => h9) rfl dX10_sewing_88 ?_
                refine va_getN (D := (dC, dI)) (ci := 3) (v := .int (v10 25)) (C := RX3) (T := TX3) (N := 10) hx hb hts inB_3 hown hE.1 hP 26 rfl rfl 4 (Nat.le_of_ble_eq_true rfl) (va_Nw.use rfl (hE.2 _ k_376)) (fun _ h9 => h9) rfl dX10_sewing_91 ?_
                exact ret (v10 25) (v10, f11) _ _ _ _ _ _ rfl ⟨hM_v10, hA_f11, hIv10, hk0_v10, hk1_v10, hk7_v10, hk8_v10, hk9_v10, hk10_v10, hk31_v10, hk32_v10⟩ hP hD hS dX10_sewing_94 (Nat.le_refl _) (Nat.le_refl _)
              · skip
                refine lv_aload_n hx hb dX10_sewing_77 rfl (lv_at hl 0 rfl) ?_
                refine va_get (D := (dC, dI)) (ci := 10) (v := .ref (x 25)) (C := RX10) (T := TX10) (N := 10) hx hb hts inB_10 hown hE.1 hP 0 rfl rfl 5 (Nat.le_of_ble_eq_true rfl) (hts _ k_496) (fun _ h9 => h9) rfl dX10_sewing_78 ?_
                refine va_getN (D := (dC, dI)) (ci := 3) (v := .int (v10 24)) (C := RX3) (T := TX3) (N := 10) hx hb hts inB_3 hown hE.1 hP 26 rfl rfl 3 (Nat.le_of_ble_eq_true rfl) (va_Nw.use rfl (hE.2 _ k_374)) (fun _ h9 => h9) rfl dX10_sewing_81 ?_
                refine lv_goto (tgt := 94) hx hb dX10_sewing_84 rfl ?_
                exact ret (v10 24) (v10, f11) _ _ _ _ _ _ rfl ⟨hM_v10, hA_f11, hIv10, hk0_v10, hk1_v10, hk7_v10, hk8_v10, hk9_v10, hk10_v10, hk31_v10, hk32_v10⟩ hP hD hS dX10_sewing_94 (Nat.le_refl _) (Nat.le_refl _)
            · skip
              refine lv_aload_n hx hb dX10_sewing_53 rfl (lv_at hl 0 rfl) ?_
              refine va_get (D := (dC, dI)) (ci := 10) (v := .ref (x 25)) (C := RX10) (T := TX10) (N := 10) hx hb hts inB_10 hown hE.1 hP 0 rfl rfl 5 (Nat.le_of_ble_eq_true rfl) (hts _ k_496) (fun _ h9 => h9) rfl dX10_sewing_54 ?_
              refine va_getN (D := (dC, dI)) (ci := 3) (v := .int (v10 24)) (C := RX3) (T := TX3) (N := 10) hx hb hts inB_3 hown hE.1 hP 26 rfl rfl 3 (Nat.le_of_ble_eq_true rfl) (va_Nw.use rfl (hE.2 _ k_374)) (fun _ h9 => h9) rfl dX10_sewing_57 ?_
              refine lv_aload_n hx hb dX10_sewing_60 rfl (lv_at hl 0 rfl) ?_
              refine va_get (D := (dC, dI)) (ci := 10) (v := .ref (x 25)) (C := RX10) (T := TX10) (N := 10) hx hb hts inB_10 hown hE.1 hP 0 rfl rfl 5 (Nat.le_of_ble_eq_true rfl) (hts _ k_496) (fun _ h9 => h9) rfl dX10_sewing_61 ?_
              refine va_getN (D := (dC, dI)) (ci := 3) (v := .int (v10 25)) (C := RX3) (T := TX3) (N := 10) hx hb hts inB_3 hown hE.1 hP 26 rfl rfl 4 (Nat.le_of_ble_eq_true rfl) (va_Nw.use rfl (hE.2 _ k_376)) (fun _ h9 => h9) rfl dX10_sewing_64 ?_
              refine va_mabs hx hb (by rw [hml]; exact hl.1.symm) hown (hts _ k_1017) (hts _ k_1018) (hts _ k_119) (hts _ k_1019) (Nat.le_of_ble_eq_true rfl) (Nat.le_of_ble_eq_true rfl) (Nat.le_of_ble_eq_true rfl) (Nat.le_of_ble_eq_true rfl) dX10_sewing_67 ?_
              refine lv_topi (fun t15 et15 => ?_)
              refine lv_iadd hx hb dX10_sewing_70 ?_
              refine lv_topi (fun t16 et16 => ?_)
              exact ret t16 (v10, f11) _ _ _ _ _ _ rfl ⟨hM_v10, hA_f11, hIv10, hk0_v10, hk1_v10, hk7_v10, hk8_v10, hk9_v10, hk10_v10, hk31_v10, hk32_v10⟩ hP hD hS dX10_sewing_71 (Nat.le_refl _) (Nat.le_refl _)
          · skip
            subst g12
            refine lv_if_ne (tgt := 49) hx hb dX10_sewing_43 rfl (fun c0 => absurd (by decide) c0) (fun _ => ?_)
            refine lv_bipush (v := (-100)) hx hb dX10_sewing_46 rfl ?_
            exact ret (-100) (v10, f11) _ _ _ _ _ _ rfl ⟨hM_v10, hA_f11, hIv10, hk0_v10, hk1_v10, hk7_v10, hk8_v10, hk9_v10, hk10_v10, hk31_v10, hk32_v10⟩ hP hD hS dX10_sewing_48 (Nat.le_refl _) (Nat.le_refl _)
        · skip
          refine lv_bipush (v := (-100)) hx hb dX10_sewing_31 rfl ?_
          exact ret (-100) (v, f) _ _ _ _ _ _ rfl ⟨hM_v, hA_f, hIv, rfl, rfl, rfl, rfl, rfl, rfl, rfl, rfl⟩ hP hD hS dX10_sewing_33 (Nat.le_refl _) (Nat.le_refl _)
    · skip
      subst g6
      refine lv_if_eq (tgt := 31) hx hb dX10_sewing_19 rfl (fun _ => ?_) (fun c0 => absurd (by decide) c0)
      refine lv_bipush (v := (-100)) hx hb dX10_sewing_31 rfl ?_
      exact ret (-100) (v, f) _ _ _ _ _ _ rfl ⟨hM_v, hA_f, hIv, rfl, rfl, rfl, rfl, rfl, rfl, rfl, rfl⟩ hP hD hS dX10_sewing_33 (Nat.le_refl _) (Nat.le_refl _)
  · skip
    subst g3
    refine lv_if_eq (tgt := 31) hx hb dX10_sewing_8 rfl (fun _ => ?_) (fun c0 => absurd (by decide) c0)
    refine lv_bipush (v := (-100)) hx hb dX10_sewing_31 rfl ?_
    exact ret (-100) (v, f) _ _ _ _ _ _ rfl ⟨hM_v, hA_f, hIv, rfl, rfl, rfl, rfl, rfl, rfl, rfl, rfl⟩ hP hD hS dX10_sewing_33 (Nat.le_refl _) (Nat.le_refl _)
set_option maxHeartbeats 4000000 in
set_option maxRecDepth 100000 in
theorem sX_X3_changedCount_1 (l : Launch) (dC : Nat → ClassId) (dI : Nat → Nat → Nat) (cy : Nat → ClassId) (x0 : Nat) (x : Nat → Nat) (p1 : Int32) (p2 : Int32) (v : Nat → Int32) (f : Nat → Nat → Int32) (hIv : XI v)  : ctI l (dC, dI) cy yX3_changedCount cX3_changedCount 6 .int 5 155 0 0 ((Nat → Int32) × (Nat → Nat → Int32)) [.ref (x 25), .int p1, .int p2] (XW cy x0 x v f) (fun r u => KV [] u.1 v ∧ KF [13, 14] u.2 f ∧ XI u.1 ∧ u.1 0 = v 0 ∧ u.1 1 = v 1 ∧ u.1 7 = v 7 ∧ u.1 8 = v 8 ∧ u.1 9 = v 9 ∧ u.1 10 = v 10 ∧ u.1 31 = v 31 ∧ u.1 32 = v 32) (fun u => XW cy x0 x u.1 u.2) := by
  refine ctI_of (by decide) (Nat.le_of_ble_eq_true rfl) (fun p e s m below meth c A ls Q hx hb hml hts hown hE hP hD hA hl ret => ?_)
  have hM_v : KV [] v v := fun _ _ => rfl
  have hA_f : KF [13, 14] f f := fun _ _ => rfl
  have hown : s.vm.findClass RX3 = some m.cls := hown
  have hS : va_S A s.heap s.heap [] := va_S.rf
  have hl : lv_has ls 6 [(0, .ref (x 25)), (1, .int p1), (2, .int p2)] := hl
  refine lv_iconst (v := 0) hx hb dX3_changedCount_0 rfl ?_
  refine lv_istore_n (lv' := [(3, .int 0), (0, .ref (x 25)), (1, .int p1), (2, .int p2)]) hx hb dX3_changedCount_1 rfl hl (Nat.le_of_ble_eq_true rfl) rfl (fun ls hl => ?_)
  refine lv_iconst (v := 0) hx hb dX3_changedCount_2 rfl ?_
  refine lv_istore (lv' := [(4, .int 0), (3, .int 0), (0, .ref (x 25)), (1, .int p1), (2, .int p2)]) hx hb dX3_changedCount_3 hl (Nat.le_of_ble_eq_true rfl) rfl (fun ls hl => ?_)
  have lp1 : ∀ (n1 : Nat) (l3_1 : Int32) (l4_1 : Int32) (v1 : Nat → Int32) (f1 : Nat → Nat → Int32), XI v1 → v1 0 = (v 0) → v1 1 = (v 1) → v1 7 = (v 7) → v1 8 = (v 8) → v1 9 = (v 9) → v1 10 = (v 10) → v1 31 = (v 31) → v1 32 = (v 32) → ((0 : Int) ≤ l4_1.toInt ∧ l4_1.toInt ≤ 2147483647) → KV [] v1 v → KF [13, 14] f1 f → (2147483647 - l4_1.toInt).toNat < n1 → ∀ (H : Heap) (locs : List Loc) (ls : Array Slot), va_P (dC, dI) vwCl (XW cy x0 x v1 f1) H → va_D A (XW cy x0 x v1 f1) → va_S A s.heap H locs → lv_has ls 6 [(4, .int l4_1), (3, .int l3_1), (0, .ref (x 25)), (1, .int p1), (2, .int p2)] → W p l e { frames := 5, cells := 0, slots := 0, locals := 155 } s m ([.ref (x 25), .int p1, .int p2] : List Value).toArray below meth c H locs 0 0 Q (F0 m 5 ls []) := by
    intro n1
    induction n1 with
    | zero => intro l3_1 l4_1 v1 f1 hIv1 hq0_v1 hq1_v1 hq7_v1 hq8_v1 hq9_v1 hq10_v1 hq31_v1 hq32_v1 hr4_1 hM_v1 hA_f1 hm; exact absurd hm (Nat.not_lt_zero _)
    | succ n1 ih1 =>
      intro l3_1 l4_1 v1 f1 hIv1 hq0_v1 hq1_v1 hq7_v1 hq8_v1 hq9_v1 hq10_v1 hq31_v1 hq32_v1 hr4_1 hM_v1 hA_f1 hm1 H locs ls hP hD hS hl
      refine lv_iload hx hb dX3_changedCount_5 (lv_at hl 0 rfl) ?_
      refine lv_aload_n hx hb dX3_changedCount_7 rfl (lv_at hl 2 rfl) ?_
      refine va_get (D := (dC, dI)) (ci := 3) (v := .ref (x 26)) (C := RX3) (T := TX3) (N := 10) hx hb hts inB_3 hown hE.1 hP 26 rfl rfl 0 (Nat.le_of_ble_eq_true rfl) (hts _ k_370) (fun _ h9 => h9) rfl dX3_changedCount_8 ?_
      refine va_getN (D := (dC, dI)) (ci := 7) (v := .int (v1 31)) (C := RX7) (T := TX7) (N := 10) hx hb hts inB_7 hown hE.1 hP 27 rfl rfl 3 (Nat.le_of_ble_eq_true rfl) (va_Nw.use rfl (hE.2 _ k_217)) (fun _ h9 => h9) rfl dX3_changedCount_11 ?_
      refine tI (y := (v 31)) hq31_v1 ?_
      have b31_v : 0 ≤ (v 31).toInt ∧ (v 31).toInt ≤ 6 := Xb_31 hIv
      refine lv_icmp_ge (tgt := 71) hx hb dX3_changedCount_14 rfl (fun c2 => ?_) (fun c2 => ?_)
      · skip
        refine lv_iload_n hx hb dX3_changedCount_71 rfl (lv_at hl 1 rfl) ?_
        exact ret l3_1 (v1, f1) _ _ _ _ _ _ rfl ⟨hM_v1, hA_f1, hIv1, (show v1 0 = v 0 from hq0_v1), (show v1 1 = v 1 from hq1_v1), (show v1 7 = v 7 from hq7_v1), (show v1 8 = v 8 from hq8_v1), (show v1 9 = v 9 from hq9_v1), (show v1 10 = v 10 from hq10_v1), (show v1 31 = v 31 from hq31_v1), (show v1 32 = v 32 from hq32_v1)⟩ hP hD hS dX3_changedCount_72 (Nat.le_refl _) (Nat.le_refl _)
      · skip
        have zc2 : ¬ ((v 31).toInt ≤ l4_1.toInt) := zMn rfl rfl c2
        refine lv_iload hx hb dX3_changedCount_17 (lv_at hl 0 rfl) ?_
        refine lv_iload_n hx hb dX3_changedCount_19 rfl (lv_at hl 3 rfl) ?_
        refine lv_icmp_ne (tgt := 27) hx hb dX3_changedCount_20 rfl (fun c7 => ?_) (fun c7 => ?_)
        · skip
          refine lv_iload hx hb dX3_changedCount_27 (lv_at hl 0 rfl) ?_
          refine lv_iload_n hx hb dX3_changedCount_29 rfl (lv_at hl 4 rfl) ?_
          refine lv_icmp_ne (tgt := 37) hx hb dX3_changedCount_30 rfl (fun c9 => ?_) (fun c9 => ?_)
          · skip
            refine lv_iload hx hb dX3_changedCount_37 (lv_at hl 0 rfl) ?_
            refine lv_istore (lv' := [(5, .int l4_1), (4, .int l4_1), (3, .int l3_1), (0, .ref (x 25)), (1, .int p1), (2, .int p2)]) hx hb dX3_changedCount_39 hl (Nat.le_of_ble_eq_true rfl) rfl (fun ls hl => ?_)
            refine lv_aload_n hx hb dX3_changedCount_41 rfl (lv_at hl 3 rfl) ?_
            refine va_get (D := (dC, dI)) (ci := 3) (v := .ref (x 21)) (C := RX3) (T := TX3) (N := 10) hx hb hts inB_3 hown hE.1 hP 26 rfl rfl 1 (Nat.le_of_ble_eq_true rfl) (hts _ k_371) (fun _ h9 => h9) rfl dX3_changedCount_42 ?_
            refine lv_iload hx hb dX3_changedCount_45 (lv_at hl 1 rfl) ?_
            refine lv_aload_n hx hb dX3_changedCount_47 rfl (lv_at hl 3 rfl) ?_
            refine va_get (D := (dC, dI)) (ci := 3) (v := .ref (x 21)) (C := RX3) (T := TX3) (N := 10) hx hb hts inB_3 hown hE.1 hP 26 rfl rfl 1 (Nat.le_of_ble_eq_true rfl) (hts _ k_371) (fun _ h9 => h9) rfl dX3_changedCount_48 ?_
            refine lv_iload hx hb dX3_changedCount_51 (lv_at hl 0 rfl) ?_
            refine cbVi (n := 1) (rest := [.int l4_1, .ref (x 21)]) hx hb hml hown hts hE hP hD hS hA (sX_X1_wears_1 0 l dC dI cy x0 x l4_1 v1 f1 hIv1 ) k_950 k_810 k_811 k_106 k_812 hd_yX1_wears ⟨Nat.le_of_ble_eq_true rfl, Nat.le_of_ble_eq_true rfl⟩ 22 1 rfl rfl (rfl) hl.1 rfl (Nat.le_of_ble_eq_true rfl) dX3_changedCount_53 (fun r11 u H locs hw hP hD hS => ?_)
            have hG12 := hw
            refine cbVi (n := 2) (rest := []) hx hb hml hown hts hE hP hD hS hA (sX_X1_fits_1 0 l dC dI cy x0 x l4_1 r11 v1 f1 hIv1 ) k_1032 k_818 k_819 k_106 k_820 hd_yX1_fits ⟨Nat.le_of_ble_eq_true rfl, Nat.le_of_ble_eq_true rfl⟩ 22 1 rfl rfl (rfl) hl.1 rfl (Nat.le_of_ble_eq_true rfl) dX3_changedCount_56 (fun r13 u H locs hw hP hD hS => ?_)
            obtain ⟨hG14, hw⟩ := hw
            obtain ⟨v15, f16⟩ := u
            obtain ⟨kV_v15, kF_f16, hIv15, hk0_v15, hk1_v15, hk7_v15, hk8_v15, hk9_v15, hk10_v15, hk31_v15, hk32_v15, hw⟩ := hw
            have hM_v15 : KV [] v15 v := KV.tr kV_v15 hM_v1 rfl
            have hA_f16 : KF [13, 14] f16 f := KF.tr kF_f16 hA_f1 rfl
            have hP : va_P (dC, dI) vwCl (XW cy x0 x v15 f16) H := hP
            have hD : va_D A (XW cy x0 x v15 f16) := hD
            have hq0_v15 : v15 0 = (v 0) := hk0_v15.trans hq0_v1
            have hq1_v15 : v15 1 = (v 1) := hk1_v15.trans hq1_v1
            have hq7_v15 : v15 7 = (v 7) := hk7_v15.trans hq7_v1
            have hq8_v15 : v15 8 = (v 8) := hk8_v15.trans hq8_v1
            have hq9_v15 : v15 9 = (v 9) := hk9_v15.trans hq9_v1
            have hq10_v15 : v15 10 = (v 10) := hk10_v15.trans hq10_v1
            have hq31_v15 : v15 31 = (v 31) := hk31_v15.trans hq31_v1
            have hq32_v15 : v15 32 = (v 32) := hk32_v15.trans hq32_v1
            rcases hw with ⟨g17⟩ | ⟨g17⟩
            · skip
              subst g17
              refine lv_if_eq (tgt := 65) hx hb dX3_changedCount_59 rfl (fun c0 => absurd c0 (by decide)) (fun _ => ?_)
              obtain ⟨t18, et18⟩ : ∃ y : Int32, y = l3_1 + 1 := ⟨_, rfl⟩
              refine lv_iinc (v := t18) (lv' := [(3, .int t18), (5, .int l4_1), (4, .int l4_1), (0, .ref (x 25)), (1, .int p1), (2, .int p2)]) hx hb dX3_changedCount_62 hl (k := 2) rfl et18.symm (Nat.le_of_ble_eq_true rfl) rfl (fun ls hl => ?_)
              obtain ⟨t19, et19⟩ : ∃ y : Int32, y = l4_1 + 1 := ⟨_, rfl⟩
              have zt19 : t19.toInt = l4_1.toInt + 1 := (congrArg Int32.toInt et19).trans (add_i rfl tc_1 (om_41 hr4_1) (om_187 b31_v zc2))
              refine lv_iinc (v := t19) (lv' := [(4, .int t19), (3, .int t18), (5, .int l4_1), (0, .ref (x 25)), (1, .int p1), (2, .int p2)]) hx hb dX3_changedCount_65 hl (k := 2) rfl et19.symm (Nat.le_of_ble_eq_true rfl) rfl (fun ls hl => ?_)
              refine lv_goto (tgt := 5) hx hb dX3_changedCount_68 rfl ?_
              have rg20 := fb_rng t19
              exact ih1 t18 t19 v15 f16 hIv15 hq0_v15 hq1_v15 hq7_v15 hq8_v15 hq9_v15 hq10_v15 hq31_v15 hq32_v15 ⟨show (0 : Int) ≤ t19.toInt from om_43 hr4_1 zt19, show t19.toInt ≤ (2147483647 : Int) from om_44 rg20⟩ hM_v15 hA_f16 (show (2147483647 - t19.toInt).toNat < n1 from om_33 hm1 zt19 rg20) _ _ _ hP hD hS (lv_sub hl [0, 1, 3, 4, 5] rfl)
            · skip
              subst g17
              refine lv_if_eq (tgt := 65) hx hb dX3_changedCount_59 rfl (fun _ => ?_) (fun c0 => absurd (by decide) c0)
              obtain ⟨t21, et21⟩ : ∃ y : Int32, y = l4_1 + 1 := ⟨_, rfl⟩
              have zt21 : t21.toInt = l4_1.toInt + 1 := (congrArg Int32.toInt et21).trans (add_i rfl tc_1 (om_41 hr4_1) (om_187 b31_v zc2))
              refine lv_iinc (v := t21) (lv' := [(4, .int t21), (5, .int l4_1), (3, .int l3_1), (0, .ref (x 25)), (1, .int p1), (2, .int p2)]) hx hb dX3_changedCount_65 hl (k := 1) rfl et21.symm (Nat.le_of_ble_eq_true rfl) rfl (fun ls hl => ?_)
              refine lv_goto (tgt := 5) hx hb dX3_changedCount_68 rfl ?_
              have rg22 := fb_rng t21
              exact ih1 l3_1 t21 v15 f16 hIv15 hq0_v15 hq1_v15 hq7_v15 hq8_v15 hq9_v15 hq10_v15 hq31_v15 hq32_v15 ⟨show (0 : Int) ≤ t21.toInt from om_43 hr4_1 zt21, show t21.toInt ≤ (2147483647 : Int) from om_44 rg22⟩ hM_v15 hA_f16 (show (2147483647 - t21.toInt).toNat < n1 from om_33 hm1 zt21 rg22) _ _ _ hP hD hS (lv_sub hl [0, 2, 3, 4, 5] rfl)
          · skip
            refine lv_iload_n hx hb dX3_changedCount_33 rfl (lv_at hl 3 rfl) ?_
            refine lv_goto (tgt := 39) hx hb dX3_changedCount_34 rfl ?_
            refine lv_istore (lv' := [(5, .int p1), (4, .int l4_1), (3, .int l3_1), (0, .ref (x 25)), (1, .int p1), (2, .int p2)]) hx hb dX3_changedCount_39 hl (Nat.le_of_ble_eq_true rfl) rfl (fun ls hl => ?_)
            refine lv_aload_n hx hb dX3_changedCount_41 rfl (lv_at hl 3 rfl) ?_
            refine va_get (D := (dC, dI)) (ci := 3) (v := .ref (x 21)) (C := RX3) (T := TX3) (N := 10) hx hb hts inB_3 hown hE.1 hP 26 rfl rfl 1 (Nat.le_of_ble_eq_true rfl) (hts _ k_371) (fun _ h9 => h9) rfl dX3_changedCount_42 ?_
            refine lv_iload hx hb dX3_changedCount_45 (lv_at hl 1 rfl) ?_
            refine lv_aload_n hx hb dX3_changedCount_47 rfl (lv_at hl 3 rfl) ?_
            refine va_get (D := (dC, dI)) (ci := 3) (v := .ref (x 21)) (C := RX3) (T := TX3) (N := 10) hx hb hts inB_3 hown hE.1 hP 26 rfl rfl 1 (Nat.le_of_ble_eq_true rfl) (hts _ k_371) (fun _ h9 => h9) rfl dX3_changedCount_48 ?_
            refine lv_iload hx hb dX3_changedCount_51 (lv_at hl 0 rfl) ?_
            refine cbVi (n := 1) (rest := [.int l4_1, .ref (x 21)]) hx hb hml hown hts hE hP hD hS hA (sX_X1_wears_1 0 l dC dI cy x0 x p1 v1 f1 hIv1 ) k_950 k_810 k_811 k_106 k_812 hd_yX1_wears ⟨Nat.le_of_ble_eq_true rfl, Nat.le_of_ble_eq_true rfl⟩ 22 1 rfl rfl (rfl) hl.1 rfl (Nat.le_of_ble_eq_true rfl) dX3_changedCount_53 (fun r24 u H locs hw hP hD hS => ?_)
            have hG25 := hw
            refine cbVi (n := 2) (rest := []) hx hb hml hown hts hE hP hD hS hA (sX_X1_fits_1 0 l dC dI cy x0 x l4_1 r24 v1 f1 hIv1 ) k_1032 k_818 k_819 k_106 k_820 hd_yX1_fits ⟨Nat.le_of_ble_eq_true rfl, Nat.le_of_ble_eq_true rfl⟩ 22 1 rfl rfl (rfl) hl.1 rfl (Nat.le_of_ble_eq_true rfl) dX3_changedCount_56 (fun r26 u H locs hw hP hD hS => ?_)
            obtain ⟨hG27, hw⟩ := hw
            obtain ⟨v28, f29⟩ := u
            obtain ⟨kV_v28, kF_f29, hIv28, hk0_v28, hk1_v28, hk7_v28, hk8_v28, hk9_v28, hk10_v28, hk31_v28, hk32_v28, hw⟩ := hw
            have hM_v28 : KV [] v28 v := KV.tr kV_v28 hM_v1 rfl
            have hA_f29 : KF [13, 14] f29 f := KF.tr kF_f29 hA_f1 rfl
            have hP : va_P (dC, dI) vwCl (XW cy x0 x v28 f29) H := hP
            have hD : va_D A (XW cy x0 x v28 f29) := hD
            have hq0_v28 : v28 0 = (v 0) := hk0_v28.trans hq0_v1
            have hq1_v28 : v28 1 = (v 1) := hk1_v28.trans hq1_v1
            have hq7_v28 : v28 7 = (v 7) := hk7_v28.trans hq7_v1
            have hq8_v28 : v28 8 = (v 8) := hk8_v28.trans hq8_v1
            have hq9_v28 : v28 9 = (v 9) := hk9_v28.trans hq9_v1
            have hq10_v28 : v28 10 = (v 10) := hk10_v28.trans hq10_v1
            have hq31_v28 : v28 31 = (v 31) := hk31_v28.trans hq31_v1
            have hq32_v28 : v28 32 = (v 32) := hk32_v28.trans hq32_v1
            rcases hw with ⟨g30⟩ | ⟨g30⟩
            · skip
              subst g30
              refine lv_if_eq (tgt := 65) hx hb dX3_changedCount_59 rfl (fun c0 => absurd c0 (by decide)) (fun _ => ?_)
              obtain ⟨t31, et31⟩ : ∃ y : Int32, y = l3_1 + 1 := ⟨_, rfl⟩
              refine lv_iinc (v := t31) (lv' := [(3, .int t31), (5, .int p1), (4, .int l4_1), (0, .ref (x 25)), (1, .int p1), (2, .int p2)]) hx hb dX3_changedCount_62 hl (k := 2) rfl et31.symm (Nat.le_of_ble_eq_true rfl) rfl (fun ls hl => ?_)
              obtain ⟨t32, et32⟩ : ∃ y : Int32, y = l4_1 + 1 := ⟨_, rfl⟩
              have zt32 : t32.toInt = l4_1.toInt + 1 := (congrArg Int32.toInt et32).trans (add_i rfl tc_1 (om_41 hr4_1) (om_187 b31_v zc2))
              refine lv_iinc (v := t32) (lv' := [(4, .int t32), (3, .int t31), (5, .int p1), (0, .ref (x 25)), (1, .int p1), (2, .int p2)]) hx hb dX3_changedCount_65 hl (k := 2) rfl et32.symm (Nat.le_of_ble_eq_true rfl) rfl (fun ls hl => ?_)
              refine lv_goto (tgt := 5) hx hb dX3_changedCount_68 rfl ?_
              have rg33 := fb_rng t32
              exact ih1 t31 t32 v28 f29 hIv28 hq0_v28 hq1_v28 hq7_v28 hq8_v28 hq9_v28 hq10_v28 hq31_v28 hq32_v28 ⟨show (0 : Int) ≤ t32.toInt from om_43 hr4_1 zt32, show t32.toInt ≤ (2147483647 : Int) from om_44 rg33⟩ hM_v28 hA_f29 (show (2147483647 - t32.toInt).toNat < n1 from om_33 hm1 zt32 rg33) _ _ _ hP hD hS (lv_sub hl [0, 1, 3, 4, 5] rfl)
            · skip
              subst g30
              refine lv_if_eq (tgt := 65) hx hb dX3_changedCount_59 rfl (fun _ => ?_) (fun c0 => absurd (by decide) c0)
              obtain ⟨t34, et34⟩ : ∃ y : Int32, y = l4_1 + 1 := ⟨_, rfl⟩
              have zt34 : t34.toInt = l4_1.toInt + 1 := (congrArg Int32.toInt et34).trans (add_i rfl tc_1 (om_41 hr4_1) (om_187 b31_v zc2))
              refine lv_iinc (v := t34) (lv' := [(4, .int t34), (5, .int p1), (3, .int l3_1), (0, .ref (x 25)), (1, .int p1), (2, .int p2)]) hx hb dX3_changedCount_65 hl (k := 1) rfl et34.symm (Nat.le_of_ble_eq_true rfl) rfl (fun ls hl => ?_)
              refine lv_goto (tgt := 5) hx hb dX3_changedCount_68 rfl ?_
              have rg35 := fb_rng t34
              exact ih1 l3_1 t34 v28 f29 hIv28 hq0_v28 hq1_v28 hq7_v28 hq8_v28 hq9_v28 hq10_v28 hq31_v28 hq32_v28 ⟨show (0 : Int) ≤ t34.toInt from om_43 hr4_1 zt34, show t34.toInt ≤ (2147483647 : Int) from om_44 rg35⟩ hM_v28 hA_f29 (show (2147483647 - t34.toInt).toNat < n1 from om_33 hm1 zt34 rg35) _ _ _ hP hD hS (lv_sub hl [0, 2, 3, 4, 5] rfl)
        · skip
          refine lv_iload_n hx hb dX3_changedCount_23 rfl (lv_at hl 4 rfl) ?_
          refine lv_goto (tgt := 39) hx hb dX3_changedCount_24 rfl ?_
          refine lv_istore (lv' := [(5, .int p2), (4, .int l4_1), (3, .int l3_1), (0, .ref (x 25)), (1, .int p1), (2, .int p2)]) hx hb dX3_changedCount_39 hl (Nat.le_of_ble_eq_true rfl) rfl (fun ls hl => ?_)
          refine lv_aload_n hx hb dX3_changedCount_41 rfl (lv_at hl 3 rfl) ?_
          refine va_get (D := (dC, dI)) (ci := 3) (v := .ref (x 21)) (C := RX3) (T := TX3) (N := 10) hx hb hts inB_3 hown hE.1 hP 26 rfl rfl 1 (Nat.le_of_ble_eq_true rfl) (hts _ k_371) (fun _ h9 => h9) rfl dX3_changedCount_42 ?_
          refine lv_iload hx hb dX3_changedCount_45 (lv_at hl 1 rfl) ?_
          refine lv_aload_n hx hb dX3_changedCount_47 rfl (lv_at hl 3 rfl) ?_
          refine va_get (D := (dC, dI)) (ci := 3) (v := .ref (x 21)) (C := RX3) (T := TX3) (N := 10) hx hb hts inB_3 hown hE.1 hP 26 rfl rfl 1 (Nat.le_of_ble_eq_true rfl) (hts _ k_371) (fun _ h9 => h9) rfl dX3_changedCount_48 ?_
          refine lv_iload hx hb dX3_changedCount_51 (lv_at hl 0 rfl) ?_
          refine cbVi (n := 1) (rest := [.int l4_1, .ref (x 21)]) hx hb hml hown hts hE hP hD hS hA (sX_X1_wears_1 0 l dC dI cy x0 x p2 v1 f1 hIv1 ) k_950 k_810 k_811 k_106 k_812 hd_yX1_wears ⟨Nat.le_of_ble_eq_true rfl, Nat.le_of_ble_eq_true rfl⟩ 22 1 rfl rfl (rfl) hl.1 rfl (Nat.le_of_ble_eq_true rfl) dX3_changedCount_53 (fun r37 u H locs hw hP hD hS => ?_)
          have hG38 := hw
          refine cbVi (n := 2) (rest := []) hx hb hml hown hts hE hP hD hS hA (sX_X1_fits_1 0 l dC dI cy x0 x l4_1 r37 v1 f1 hIv1 ) k_1032 k_818 k_819 k_106 k_820 hd_yX1_fits ⟨Nat.le_of_ble_eq_true rfl, Nat.le_of_ble_eq_true rfl⟩ 22 1 rfl rfl (rfl) hl.1 rfl (Nat.le_of_ble_eq_true rfl) dX3_changedCount_56 (fun r39 u H locs hw hP hD hS => ?_)
          obtain ⟨hG40, hw⟩ := hw
          obtain ⟨v41, f42⟩ := u
          obtain ⟨kV_v41, kF_f42, hIv41, hk0_v41, hk1_v41, hk7_v41, hk8_v41, hk9_v41, hk10_v41, hk31_v41, hk32_v41, hw⟩ := hw
          have hM_v41 : KV [] v41 v := KV.tr kV_v41 hM_v1 rfl
          have hA_f42 : KF [13, 14] f42 f := KF.tr kF_f42 hA_f1 rfl
          have hP : va_P (dC, dI) vwCl (XW cy x0 x v41 f42) H := hP
          have hD : va_D A (XW cy x0 x v41 f42) := hD
          have hq0_v41 : v41 0 = (v 0) := hk0_v41.trans hq0_v1
          have hq1_v41 : v41 1 = (v 1) := hk1_v41.trans hq1_v1
          have hq7_v41 : v41 7 = (v 7) := hk7_v41.trans hq7_v1
          have hq8_v41 : v41 8 = (v 8) := hk8_v41.trans hq8_v1
          have hq9_v41 : v41 9 = (v 9) := hk9_v41.trans hq9_v1
          have hq10_v41 : v41 10 = (v 10) := hk10_v41.trans hq10_v1
          have hq31_v41 : v41 31 = (v 31) := hk31_v41.trans hq31_v1
          have hq32_v41 : v41 32 = (v 32) := hk32_v41.trans hq32_v1
          rcases hw with ⟨g43⟩ | ⟨g43⟩
          · skip
            subst g43
            refine lv_if_eq (tgt := 65) hx hb dX3_changedCount_59 rfl (fun c0 => absurd c0 (by decide)) (fun _ => ?_)
            obtain ⟨t44, et44⟩ : ∃ y : Int32, y = l3_1 + 1 := ⟨_, rfl⟩
            refine lv_iinc (v := t44) (lv' := [(3, .int t44), (5, .int p2), (4, .int l4_1), (0, .ref (x 25)), (1, .int p1), (2, .int p2)]) hx hb dX3_changedCount_62 hl (k := 2) rfl et44.symm (Nat.le_of_ble_eq_true rfl) rfl (fun ls hl => ?_)
            obtain ⟨t45, et45⟩ : ∃ y : Int32, y = l4_1 + 1 := ⟨_, rfl⟩
            have zt45 : t45.toInt = l4_1.toInt + 1 := (congrArg Int32.toInt et45).trans (add_i rfl tc_1 (om_41 hr4_1) (om_187 b31_v zc2))
            refine lv_iinc (v := t45) (lv' := [(4, .int t45), (3, .int t44), (5, .int p2), (0, .ref (x 25)), (1, .int p1), (2, .int p2)]) hx hb dX3_changedCount_65 hl (k := 2) rfl et45.symm (Nat.le_of_ble_eq_true rfl) rfl (fun ls hl => ?_)
            refine lv_goto (tgt := 5) hx hb dX3_changedCount_68 rfl ?_
            have rg46 := fb_rng t45
            exact ih1 t44 t45 v41 f42 hIv41 hq0_v41 hq1_v41 hq7_v41 hq8_v41 hq9_v41 hq10_v41 hq31_v41 hq32_v41 ⟨show (0 : Int) ≤ t45.toInt from om_43 hr4_1 zt45, show t45.toInt ≤ (2147483647 : Int) from om_44 rg46⟩ hM_v41 hA_f42 (show (2147483647 - t45.toInt).toNat < n1 from om_33 hm1 zt45 rg46) _ _ _ hP hD hS (lv_sub hl [0, 1, 3, 4, 5] rfl)
          · skip
            subst g43
            refine lv_if_eq (tgt := 65) hx hb dX3_changedCount_59 rfl (fun _ => ?_) (fun c0 => absurd (by decide) c0)
            obtain ⟨t47, et47⟩ : ∃ y : Int32, y = l4_1 + 1 := ⟨_, rfl⟩
            have zt47 : t47.toInt = l4_1.toInt + 1 := (congrArg Int32.toInt et47).trans (add_i rfl tc_1 (om_41 hr4_1) (om_187 b31_v zc2))
            refine lv_iinc (v := t47) (lv' := [(4, .int t47), (5, .int p2), (3, .int l3_1), (0, .ref (x 25)), (1, .int p1), (2, .int p2)]) hx hb dX3_changedCount_65 hl (k := 1) rfl et47.symm (Nat.le_of_ble_eq_true rfl) rfl (fun ls hl => ?_)
            refine lv_goto (tgt := 5) hx hb dX3_changedCount_68 rfl ?_
            have rg48 := fb_rng t47
            exact ih1 l3_1 t47 v41 f42 hIv41 hq0_v41 hq1_v41 hq7_v41 hq8_v41 hq9_v41 hq10_v41 hq31_v41 hq32_v41 ⟨show (0 : Int) ≤ t47.toInt from om_43 hr4_1 zt47, show t47.toInt ≤ (2147483647 : Int) from om_44 rg48⟩ hM_v41 hA_f42 (show (2147483647 - t47.toInt).toNat < n1 from om_33 hm1 zt47 rg48) _ _ _ hP hD hS (lv_sub hl [0, 2, 3, 4, 5] rfl)
  exact lp1 _ 0 0 v f hIv rfl rfl rfl rfl rfl rfl rfl rfl ⟨by decide, by decide⟩ hM_v hA_f (Nat.lt_succ_self _) _ _ _ hP hD hS (lv_sub hl [0, 1, 2, 3, 4] rfl)
set_option maxHeartbeats 4000000 in
set_option maxRecDepth 100000 in
theorem sX_X3_findChange_1 (l : Launch) (dC : Nat → ClassId) (dI : Nat → Nat → Nat) (cy : Nat → ClassId) (x0 : Nat) (x : Nat → Nat)  (v : Nat → Int32) (f : Nat → Nat → Int32) (hIv : XI v)  : ctI l (dC, dI) cy yX3_findChange cX3_findChange 5 .boolean 6 180 0 0 ((Nat → Int32) × (Nat → Nat → Int32)) [.ref (x 25)] (XW cy x0 x v f) (fun r u => KV [28, 29, 30] u.1 v ∧ KF [13, 14] u.2 f ∧ XI u.1 ∧ u.1 0 = v 0 ∧ u.1 1 = v 1 ∧ u.1 7 = v 7 ∧ u.1 8 = v 8 ∧ u.1 9 = v 9 ∧ u.1 10 = v 10 ∧ u.1 31 = v 31 ∧ u.1 32 = v 32 ∧ ((r = 1) ∨ (r = 0))) (fun u => XW cy x0 x u.1 u.2) := by
  refine ctI_of (by decide) (Nat.le_of_ble_eq_true rfl) (fun p e s m below meth c A ls Q hx hb hml hts hown hE hP hD hA hl ret => ?_)
  have hM_v : KV [28, 29, 30] v v := fun _ _ => rfl
  have hA_f : KF [13, 14] f f := fun _ _ => rfl
  have hown : s.vm.findClass RX3 = some m.cls := hown
  have hS : va_S A s.heap s.heap [] := va_S.rf
  have hl : lv_has ls 5 [(0, .ref (x 25))] := hl
  refine lv_aload_n hx hb dX3_findChange_0 rfl (lv_at hl 0 rfl) ?_
  refine va_get (D := (dC, dI)) (ci := 3) (v := .ref (x 21)) (C := RX3) (T := TX3) (N := 10) hx hb hts inB_3 hown hE.1 hP 26 rfl rfl 1 (Nat.le_of_ble_eq_true rfl) (hts _ k_371) (fun _ h9 => h9) rfl dX3_findChange_1 ?_
  refine cbVi (n := 0) (rest := []) hx hb hml hown hts hE hP hD hS hA (sX_X1_fittedMen_1 0 l dC dI cy x0 x  v f hIv ) k_1041 k_964 k_965 k_106 k_966 hd_yX1_fittedMen ⟨Nat.le_of_ble_eq_true rfl, Nat.le_of_ble_eq_true rfl⟩ 22 1 rfl rfl (rfl) hl.1 rfl (Nat.le_of_ble_eq_true rfl) dX3_findChange_4 (fun r1 u H locs hw hP hD hS => ?_)
  obtain ⟨hG2, hw⟩ := hw
  obtain ⟨v3, f4⟩ := u
  obtain ⟨kV_v3, kF_f4, hIv3, hk0_v3, hk1_v3, hk7_v3, hk8_v3, hk9_v3, hk10_v3, hk31_v3, hk32_v3⟩ := hw
  have hM_v3 : KV [28, 29, 30] v3 v := KV.tr kV_v3 hM_v rfl
  have hA_f4 : KF [13, 14] f4 f := KF.tr kF_f4 hA_f rfl
  have hP : va_P (dC, dI) vwCl (XW cy x0 x v3 f4) H := hP
  have hD : va_D A (XW cy x0 x v3 f4) := hD
  have hq0_v3 : v3 0 = (v 0) := hk0_v3
  have hq1_v3 : v3 1 = (v 1) := hk1_v3
  have hq7_v3 : v3 7 = (v 7) := hk7_v3
  have hq8_v3 : v3 8 = (v 8) := hk8_v3
  have hq9_v3 : v3 9 = (v 9) := hk9_v3
  have hq10_v3 : v3 10 = (v 10) := hk10_v3
  have hq31_v3 : v3 31 = (v 31) := hk31_v3
  have hq32_v3 : v3 32 = (v 32) := hk32_v3
  refine cbSi (n := 1) (rest := []) hx hb hml hown hts hE hP hD hS hA (sX_J6_bitCount_0f7a4_1 0 l dC dI cy x0 x r1 v3 f4 hIv3 ) k_1042 k_1043 k_121 k_1044 he_yJ6_bitCount_0f7a4 ⟨Nat.le_of_ble_eq_true rfl, Nat.le_of_ble_eq_true rfl⟩ (rfl) hl.1 rfl (Nat.le_of_ble_eq_true rfl) dX3_findChange_7 (fun r5 u H locs hw hP hD hS => ?_)
  have hG6 := hw
  refine lv_istore_n (lv' := [(1, .int r5), (0, .ref (x 25))]) hx hb dX3_findChange_10 rfl hl (Nat.le_of_ble_eq_true rfl) rfl (fun ls hl => ?_)
  refine lv_aload_n hx hb dX3_findChange_11 rfl (lv_at hl 1 rfl) ?_
  refine lv_iload_n hx hb dX3_findChange_12 rfl (lv_at hl 0 rfl) ?_
  refine va_put (D := (dC, dI)) (ci := 3) (v := .int r5) (ty := tyX3 9) (C := RX3) (T := TX3) (N := 10) hx hb hts inB_3 tyX3 tyX3_ok nmX3 hown hE.1 hP hD hS 26 rfl rfl 9 (Nat.le_of_ble_eq_true rfl) (hts _ k_385) (fun _ h9 => h9) rfl (tyX3_ok 9 (Nat.le_of_ble_eq_true rfl)) rfl rfl (Nat.le_of_ble_eq_true rfl) dX3_findChange_13 (fun H locs hP hD hS => ?_)
  have hP : va_P (dC, dI) vwCl (XW cy x0 x (upd v3 30 r5) f4) H := hP
  have hD : va_D A (XW cy x0 x (upd v3 30 r5) f4) := hD
  refine lv_iconst (v := 0) hx hb dX3_findChange_16 rfl ?_
  refine lv_istore_n (lv' := [(2, .int 0), (1, .int r5), (0, .ref (x 25))]) hx hb dX3_findChange_17 rfl hl (Nat.le_of_ble_eq_true rfl) rfl (fun ls hl => ?_)
  have lp7 : ∀ (n7 : Nat) (l2_7 : Int32) (v7 : Nat → Int32) (f7 : Nat → Nat → Int32), XI v7 → v7 0 = (v 0) → v7 1 = (v 1) → v7 7 = (v 7) → v7 8 = (v 8) → v7 9 = (v 9) → v7 10 = (v 10) → v7 31 = (v 31) → v7 32 = (v 32) → ((0 : Int) ≤ l2_7.toInt ∧ l2_7.toInt ≤ 2147483647) → KV [28, 29, 30] v7 v → KF [13, 14] f7 f → (2147483647 - l2_7.toInt).toNat < n7 → ∀ (H : Heap) (locs : List Loc) (ls : Array Slot), va_P (dC, dI) vwCl (XW cy x0 x v7 f7) H → va_D A (XW cy x0 x v7 f7) → va_S A s.heap H locs → lv_has ls 5 [(2, .int l2_7), (1, .int r5), (0, .ref (x 25))] → W p l e { frames := 6, cells := 0, slots := 0, locals := 180 } s m ([.ref (x 25)] : List Value).toArray below meth c H locs 0 0 Q (F0 m 18 ls []) := by
    intro n7
    induction n7 with
    | zero => intro l2_7 v7 f7 hIv7 hq0_v7 hq1_v7 hq7_v7 hq8_v7 hq9_v7 hq10_v7 hq31_v7 hq32_v7 hr2_7 hM_v7 hA_f7 hm; exact absurd hm (Nat.not_lt_zero _)
    | succ n7 ih7 =>
      intro l2_7 v7 f7 hIv7 hq0_v7 hq1_v7 hq7_v7 hq8_v7 hq9_v7 hq10_v7 hq31_v7 hq32_v7 hr2_7 hM_v7 hA_f7 hm7 H locs ls hP hD hS hl
      refine lv_iload_n hx hb dX3_findChange_18 rfl (lv_at hl 0 rfl) ?_
      refine lv_aload_n hx hb dX3_findChange_19 rfl (lv_at hl 2 rfl) ?_
      refine va_get (D := (dC, dI)) (ci := 3) (v := .ref (x 26)) (C := RX3) (T := TX3) (N := 10) hx hb hts inB_3 hown hE.1 hP 26 rfl rfl 0 (Nat.le_of_ble_eq_true rfl) (hts _ k_370) (fun _ h9 => h9) rfl dX3_findChange_20 ?_
      refine va_getN (D := (dC, dI)) (ci := 7) (v := .int (v7 31)) (C := RX7) (T := TX7) (N := 10) hx hb hts inB_7 hown hE.1 hP 27 rfl rfl 3 (Nat.le_of_ble_eq_true rfl) (va_Nw.use rfl (hE.2 _ k_217)) (fun _ h9 => h9) rfl dX3_findChange_23 ?_
      refine tI (y := (v 31)) hq31_v7 ?_
      have b31_v : 0 ≤ (v 31).toInt ∧ (v 31).toInt ≤ 6 := Xb_31 hIv
      refine lv_icmp_ge (tgt := 89) hx hb dX3_findChange_26 rfl (fun c8 => ?_) (fun c8 => ?_)
      · skip
        refine lv_aload_n hx hb dX3_findChange_89 rfl (lv_at hl 2 rfl) ?_
        refine va_get (D := (dC, dI)) (ci := 3) (v := .int (v7 30)) (C := RX3) (T := TX3) (N := 10) hx hb hts inB_3 hown hE.1 hP 26 rfl rfl 9 (Nat.le_of_ble_eq_true rfl) (hts _ k_385) (fun _ h9 => h9) rfl dX3_findChange_90 ?_
        refine lv_iload_n hx hb dX3_findChange_93 rfl (lv_at hl 1 rfl) ?_
        refine lv_icmp_le (tgt := 101) hx hb dX3_findChange_94 rfl (fun c11 => ?_) (fun c11 => ?_)
        · skip
          refine lv_iconst (v := 0) hx hb dX3_findChange_101 rfl ?_
          exact ret 0 (v7, f7) _ _ _ _ _ _ rfl ⟨hM_v7, hA_f7, hIv7, hq0_v7, hq1_v7, hq7_v7, hq8_v7, hq9_v7, hq10_v7, hq31_v7, hq32_v7, (Or.inr rfl)⟩ hP hD hS dX3_findChange_102 (Nat.le_refl _) (Nat.le_refl _)
        · skip
          refine lv_iconst (v := 1) hx hb dX3_findChange_97 rfl ?_
          refine lv_goto (tgt := 102) hx hb dX3_findChange_98 rfl ?_
          exact ret 1 (v7, f7) _ _ _ _ _ _ rfl ⟨hM_v7, hA_f7, hIv7, hq0_v7, hq1_v7, hq7_v7, hq8_v7, hq9_v7, hq10_v7, hq31_v7, hq32_v7, (Or.inl rfl)⟩ hP hD hS dX3_findChange_102 (Nat.le_refl _) (Nat.le_refl _)
      · skip
        have zc8 : ¬ ((v 31).toInt ≤ l2_7.toInt) := zMn rfl rfl c8
        refine lv_iload_n hx hb dX3_findChange_29 rfl (lv_at hl 0 rfl) ?_
        refine lv_iconst (v := 1) hx hb dX3_findChange_30 rfl ?_
        refine lv_iadd hx hb dX3_findChange_31 ?_
        refine lv_topi (fun t18 et18 => ?_)
        have zt18 : t18.toInt = l2_7.toInt + 1 := (congrArg Int32.toInt et18).trans (add_i rfl tc_1 (om_41 hr2_7) (om_187 b31_v zc8))
        refine lv_istore_n (lv' := [(3, .int t18), (2, .int l2_7), (1, .int r5), (0, .ref (x 25))]) hx hb dX3_findChange_32 rfl hl (Nat.le_of_ble_eq_true rfl) rfl (fun ls hl => ?_)
        have lp19 : ∀ (n19 : Nat) (l3_19 : Int32) (v19 : Nat → Int32) (f19 : Nat → Nat → Int32), XI v19 → v19 0 = (v 0) → v19 1 = (v 1) → v19 7 = (v 7) → v19 8 = (v 8) → v19 9 = (v 9) → v19 10 = (v 10) → v19 31 = (v 31) → v19 32 = (v 32) → ((1 : Int) ≤ l3_19.toInt ∧ l3_19.toInt ≤ 2147483647) → KV [28, 29, 30] v19 v → KF [13, 14] f19 f → (2147483647 - l3_19.toInt).toNat < n19 → ∀ (H : Heap) (locs : List Loc) (ls : Array Slot), va_P (dC, dI) vwCl (XW cy x0 x v19 f19) H → va_D A (XW cy x0 x v19 f19) → va_S A s.heap H locs → lv_has ls 5 [(3, .int l3_19), (2, .int l2_7), (1, .int r5), (0, .ref (x 25))] → W p l e { frames := 6, cells := 0, slots := 0, locals := 180 } s m ([.ref (x 25)] : List Value).toArray below meth c H locs 0 0 Q (F0 m 33 ls []) := by
          intro n19
          induction n19 with
          | zero => intro l3_19 v19 f19 hIv19 hq0_v19 hq1_v19 hq7_v19 hq8_v19 hq9_v19 hq10_v19 hq31_v19 hq32_v19 hr3_19 hM_v19 hA_f19 hm; exact absurd hm (Nat.not_lt_zero _)
          | succ n19 ih19 =>
            intro l3_19 v19 f19 hIv19 hq0_v19 hq1_v19 hq7_v19 hq8_v19 hq9_v19 hq10_v19 hq31_v19 hq32_v19 hr3_19 hM_v19 hA_f19 hm19 H locs ls hP hD hS hl
            refine lv_iload_n hx hb dX3_findChange_33 rfl (lv_at hl 0 rfl) ?_
            refine lv_aload_n hx hb dX3_findChange_34 rfl (lv_at hl 3 rfl) ?_
            refine va_get (D := (dC, dI)) (ci := 3) (v := .ref (x 26)) (C := RX3) (T := TX3) (N := 10) hx hb hts inB_3 hown hE.1 hP 26 rfl rfl 0 (Nat.le_of_ble_eq_true rfl) (hts _ k_370) (fun _ h9 => h9) rfl dX3_findChange_35 ?_
            refine va_getN (D := (dC, dI)) (ci := 7) (v := .int (v19 31)) (C := RX7) (T := TX7) (N := 10) hx hb hts inB_7 hown hE.1 hP 27 rfl rfl 3 (Nat.le_of_ble_eq_true rfl) (va_Nw.use rfl (hE.2 _ k_217)) (fun _ h9 => h9) rfl dX3_findChange_38 ?_
            refine tI (y := (v 31)) hq31_v19 ?_
            have b31_v : 0 ≤ (v 31).toInt ∧ (v 31).toInt ≤ 6 := Xb_31 hIv
            refine lv_icmp_ge (tgt := 83) hx hb dX3_findChange_41 rfl (fun c20 => ?_) (fun c20 => ?_)
            · skip
              obtain ⟨t22, et22⟩ : ∃ y : Int32, y = l2_7 + 1 := ⟨_, rfl⟩
              have zt22 : t22.toInt = l2_7.toInt + 1 := (congrArg Int32.toInt et22).trans (add_i rfl tc_1 (om_41 hr2_7) (om_258 zc8 b31_v))
              refine lv_iinc (v := t22) (lv' := [(2, .int t22), (3, .int l3_19), (1, .int r5), (0, .ref (x 25))]) hx hb dX3_findChange_83 hl (k := 1) rfl et22.symm (Nat.le_of_ble_eq_true rfl) rfl (fun ls hl => ?_)
              refine lv_goto (tgt := 18) hx hb dX3_findChange_86 rfl ?_
              have rg23 := fb_rng t22
              exact ih7 t22 v19 f19 hIv19 hq0_v19 hq1_v19 hq7_v19 hq8_v19 hq9_v19 hq10_v19 hq31_v19 hq32_v19 ⟨show (0 : Int) ≤ t22.toInt from om_43 hr2_7 zt22, show t22.toInt ≤ (2147483647 : Int) from om_44 rg23⟩ hM_v19 hA_f19 (show (2147483647 - t22.toInt).toNat < n7 from om_33 hm7 zt22 rg23) _ _ _ hP hD hS (lv_sub hl [0, 2, 3] rfl)
            · skip
              have zc20 : ¬ ((v 31).toInt ≤ l3_19.toInt) := zMn rfl rfl c20
              refine lv_aload_n hx hb dX3_findChange_44 rfl (lv_at hl 3 rfl) ?_
              refine lv_iload_n hx hb dX3_findChange_45 rfl (lv_at hl 1 rfl) ?_
              refine lv_iload_n hx hb dX3_findChange_46 rfl (lv_at hl 0 rfl) ?_
              refine cbVi (n := 2) (rest := []) hx hb hml hown hts hE hP hD hS hA (sX_X3_changedCount_1 l dC dI cy x0 x l2_7 l3_19 v19 f19 hIv19 ) k_1048 k_1050 k_29 k_109 k_1051 hd_yX3_changedCount ⟨Nat.le_of_ble_eq_true rfl, Nat.le_of_ble_eq_true rfl⟩ 26 3 rfl rfl (rfl) hl.1 rfl (Nat.le_of_ble_eq_true rfl) dX3_findChange_47 (fun r25 u H locs hw hP hD hS => ?_)
              obtain ⟨v26, f27⟩ := u
              obtain ⟨kV_v26, kF_f27, hIv26, hk0_v26, hk1_v26, hk7_v26, hk8_v26, hk9_v26, hk10_v26, hk31_v26, hk32_v26⟩ := hw
              have hM_v26 : KV [28, 29, 30] v26 v := KV.tr kV_v26 hM_v19 rfl
              have hA_f27 : KF [13, 14] f27 f := KF.tr kF_f27 hA_f19 rfl
              have hP : va_P (dC, dI) vwCl (XW cy x0 x v26 f27) H := hP
              have hD : va_D A (XW cy x0 x v26 f27) := hD
              have hq0_v26 : v26 0 = (v 0) := hk0_v26.trans hq0_v19
              have hq1_v26 : v26 1 = (v 1) := hk1_v26.trans hq1_v19
              have hq7_v26 : v26 7 = (v 7) := hk7_v26.trans hq7_v19
              have hq8_v26 : v26 8 = (v 8) := hk8_v26.trans hq8_v19
              have hq9_v26 : v26 9 = (v 9) := hk9_v26.trans hq9_v19
              have hq10_v26 : v26 10 = (v 10) := hk10_v26.trans hq10_v19
              have hq31_v26 : v26 31 = (v 31) := hk31_v26.trans hq31_v19
              have hq32_v26 : v26 32 = (v 32) := hk32_v26.trans hq32_v19
              refine lv_istore (lv' := [(4, .int r25), (3, .int l3_19), (2, .int l2_7), (1, .int r5), (0, .ref (x 25))]) hx hb dX3_findChange_50 hl (Nat.le_of_ble_eq_true rfl) rfl (fun ls hl => ?_)
              refine lv_iload hx hb dX3_findChange_52 (lv_at hl 0 rfl) ?_
              refine lv_aload_n hx hb dX3_findChange_54 rfl (lv_at hl 4 rfl) ?_
              refine va_get (D := (dC, dI)) (ci := 3) (v := .int (v26 30)) (C := RX3) (T := TX3) (N := 10) hx hb hts inB_3 hown hE.1 hP 26 rfl rfl 9 (Nat.le_of_ble_eq_true rfl) (hts _ k_385) (fun _ h9 => h9) rfl dX3_findChange_55 ?_
              refine lv_icmp_le (tgt := 77) hx hb dX3_findChange_58 rfl (fun c28 => ?_) (fun c28 => ?_)
              · skip
                obtain ⟨t31, et31⟩ : ∃ y : Int32, y = l3_19 + 1 := ⟨_, rfl⟩
                have zt31 : t31.toInt = l3_19.toInt + 1 := (congrArg Int32.toInt et31).trans (add_i rfl tc_1 (om_259 hr3_19) (om_187 b31_v zc20))
                refine lv_iinc (v := t31) (lv' := [(3, .int t31), (4, .int r25), (2, .int l2_7), (1, .int r5), (0, .ref (x 25))]) hx hb dX3_findChange_77 hl (k := 1) rfl et31.symm (Nat.le_of_ble_eq_true rfl) rfl (fun ls hl => ?_)
                refine lv_goto (tgt := 33) hx hb dX3_findChange_80 rfl ?_
                have rg32 := fb_rng t31
                exact ih19 t31 v26 f27 hIv26 hq0_v26 hq1_v26 hq7_v26 hq8_v26 hq9_v26 hq10_v26 hq31_v26 hq32_v26 ⟨show (1 : Int) ≤ t31.toInt from om_260 hr3_19 zt31, show t31.toInt ≤ (2147483647 : Int) from om_44 rg32⟩ hM_v26 hA_f27 (show (2147483647 - t31.toInt).toNat < n19 from om_33 hm19 zt31 rg32) _ _ _ hP hD hS (lv_sub hl [0, 2, 3, 4] rfl)
              · skip
                refine lv_aload_n hx hb dX3_findChange_61 rfl (lv_at hl 4 rfl) ?_
                refine lv_iload_n hx hb dX3_findChange_62 rfl (lv_at hl 2 rfl) ?_
                refine va_put (D := (dC, dI)) (ci := 3) (v := .int l2_7) (ty := tyX3 7) (C := RX3) (T := TX3) (N := 10) hx hb hts inB_3 tyX3 tyX3_ok nmX3 hown hE.1 hP hD hS 26 rfl rfl 7 (Nat.le_of_ble_eq_true rfl) (hts _ k_381) (fun _ h9 => h9) rfl (tyX3_ok 7 (Nat.le_of_ble_eq_true rfl)) rfl rfl (Nat.le_of_ble_eq_true rfl) dX3_findChange_63 (fun H locs hP hD hS => ?_)
                have hP : va_P (dC, dI) vwCl (XW cy x0 x (upd v26 28 l2_7) f27) H := hP
                have hD : va_D A (XW cy x0 x (upd v26 28 l2_7) f27) := hD
                refine lv_aload_n hx hb dX3_findChange_66 rfl (lv_at hl 4 rfl) ?_
                refine lv_iload_n hx hb dX3_findChange_67 rfl (lv_at hl 1 rfl) ?_
                refine va_put (D := (dC, dI)) (ci := 3) (v := .int l3_19) (ty := tyX3 8) (C := RX3) (T := TX3) (N := 10) hx hb hts inB_3 tyX3 tyX3_ok nmX3 hown hE.1 hP hD hS 26 rfl rfl 8 (Nat.le_of_ble_eq_true rfl) (hts _ k_383) (fun _ h9 => h9) rfl (tyX3_ok 8 (Nat.le_of_ble_eq_true rfl)) rfl rfl (Nat.le_of_ble_eq_true rfl) dX3_findChange_68 (fun H locs hP hD hS => ?_)
                have hP : va_P (dC, dI) vwCl (XW cy x0 x (upd (upd v26 28 l2_7) 29 l3_19) f27) H := hP
                have hD : va_D A (XW cy x0 x (upd (upd v26 28 l2_7) 29 l3_19) f27) := hD
                refine lv_aload_n hx hb dX3_findChange_71 rfl (lv_at hl 4 rfl) ?_
                refine lv_iload hx hb dX3_findChange_72 (lv_at hl 0 rfl) ?_
                refine va_put (D := (dC, dI)) (ci := 3) (v := .int r25) (ty := tyX3 9) (C := RX3) (T := TX3) (N := 10) hx hb hts inB_3 tyX3 tyX3_ok nmX3 hown hE.1 hP hD hS 26 rfl rfl 9 (Nat.le_of_ble_eq_true rfl) (hts _ k_385) (fun _ h9 => h9) rfl (tyX3_ok 9 (Nat.le_of_ble_eq_true rfl)) rfl rfl (Nat.le_of_ble_eq_true rfl) dX3_findChange_74 (fun H locs hP hD hS => ?_)
                have hP : va_P (dC, dI) vwCl (XW cy x0 x (upd (upd (upd v26 28 l2_7) 29 l3_19) 30 r25) f27) H := hP
                have hD : va_D A (XW cy x0 x (upd (upd (upd v26 28 l2_7) 29 l3_19) 30 r25) f27) := hD
                obtain ⟨t35, et35⟩ : ∃ y : Int32, y = l3_19 + 1 := ⟨_, rfl⟩
                have zt35 : t35.toInt = l3_19.toInt + 1 := (congrArg Int32.toInt et35).trans (add_i rfl tc_1 (om_259 hr3_19) (om_187 b31_v zc20))
                refine lv_iinc (v := t35) (lv' := [(3, .int t35), (4, .int r25), (2, .int l2_7), (1, .int r5), (0, .ref (x 25))]) hx hb dX3_findChange_77 hl (k := 1) rfl et35.symm (Nat.le_of_ble_eq_true rfl) rfl (fun ls hl => ?_)
                refine lv_goto (tgt := 33) hx hb dX3_findChange_80 rfl ?_
                have rg36 := fb_rng t35
                exact ih19 t35 (upd (upd (upd v26 28 l2_7) 29 l3_19) 30 r25) f27 (Xu_30 (x := r25) (Xu_29 (x := l3_19) (Xu_28 (x := l2_7) hIv26 (rlo _) (rhi _)) (rlo _) (rhi _)) (rlo _) (rhi _)) hq0_v26 hq1_v26 hq7_v26 hq8_v26 hq9_v26 hq10_v26 hq31_v26 hq32_v26 ⟨show (1 : Int) ≤ t35.toInt from om_260 hr3_19 zt35, show t35.toInt ≤ (2147483647 : Int) from om_44 rg36⟩ (KV.up (j := 30) (x := r25) (KV.up (j := 29) (x := l3_19) (KV.up (j := 28) (x := l2_7) hM_v26 rfl) rfl) rfl) hA_f27 (show (2147483647 - t35.toInt).toNat < n19 from om_33 hm19 zt35 rg36) _ _ _ hP hD hS (lv_sub hl [0, 2, 3, 4] rfl)
        have rg37 := fb_rng t18
        exact lp19 _ t18 v7 f7 hIv7 hq0_v7 hq1_v7 hq7_v7 hq8_v7 hq9_v7 hq10_v7 hq31_v7 hq32_v7 ⟨show (1 : Int) ≤ t18.toInt from om_261 hr2_7 zt18, show t18.toInt ≤ (2147483647 : Int) from om_44 rg37⟩ hM_v7 hA_f7 (Nat.lt_succ_self _) _ _ _ hP hD hS (lv_sub hl [0, 1, 2, 3] rfl)
  exact lp7 _ 0 (upd v3 30 r5) f4 (Xu_30 (x := r5) hIv3 (rlo _) (rhi _)) hq0_v3 hq1_v3 hq7_v3 hq8_v3 hq9_v3 hq10_v3 hq31_v3 hq32_v3 ⟨by decide, by decide⟩ (KV.up (j := 30) (x := r5) hM_v3 rfl) hA_f4 (Nat.lt_succ_self _) _ _ _ hP hD hS (lv_sub hl [0, 1, 2] rfl)
set_option maxHeartbeats 4000000 in
set_option maxRecDepth 100000 in
theorem sX_X10_change_1 (l : Launch) (dC : Nat → ClassId) (dI : Nat → Nat → Nat) (cy : Nat → ClassId) (x0 : Nat) (x : Nat → Nat) (p1 : Int32) (v : Nat → Int32) (f : Nat → Nat → Int32) (hIv : XI v)  : ctI l (dC, dI) cy yX10_change cX10_change 2 .int 7 204 0 0 ((Nat → Int32) × (Nat → Nat → Int32)) [.ref x0, .int p1] (XW cy x0 x v f) (fun r u => KV [28, 29, 30] u.1 v ∧ KF [13, 14] u.2 f ∧ XI u.1 ∧ u.1 0 = v 0 ∧ u.1 1 = v 1 ∧ u.1 7 = v 7 ∧ u.1 8 = v 8 ∧ u.1 9 = v 9 ∧ u.1 10 = v 10 ∧ u.1 31 = v 31 ∧ u.1 32 = v 32) (fun u => XW cy x0 x u.1 u.2) := by
  refine ctI_of (by decide) (Nat.le_of_ble_eq_true rfl) (fun p e s m below meth c A ls Q hx hb hml hts hown hE hP hD hA hl ret => ?_)
  have hM_v : KV [28, 29, 30] v v := fun _ _ => rfl
  have hA_f : KF [13, 14] f f := fun _ _ => rfl
  have hown : s.vm.findClass RX10 = some m.cls := hown
  have hS : va_S A s.heap s.heap [] := va_S.rf
  have hl : lv_has ls 2 [(0, .ref x0), (1, .int p1)] := hl
  refine lv_iload_n hx hb dX10_change_0 rfl (lv_at hl 1 rfl) ?_
  refine lv_if_lt (tgt := 19) hx hb dX10_change_1 rfl (fun c1 => ?_) (fun c1 => ?_)
  · skip
    refine lv_iconst (v := (-1)) hx hb dX10_change_19 rfl ?_
    exact ret (-1) (v, f) _ _ _ _ _ _ rfl ⟨hM_v, hA_f, hIv, rfl, rfl, rfl, rfl, rfl, rfl, rfl, rfl⟩ hP hD hS dX10_change_20 (Nat.le_refl _) (Nat.le_refl _)
  · skip
    refine lv_iload_n hx hb dX10_change_4 rfl (lv_at hl 1 rfl) ?_
    refine lv_iconst (v := 2) hx hb dX10_change_5 rfl ?_
    refine lv_icmp_gt (tgt := 19) hx hb dX10_change_6 rfl (fun c2 => ?_) (fun c2 => ?_)
    · skip
      refine lv_iconst (v := (-1)) hx hb dX10_change_19 rfl ?_
      exact ret (-1) (v, f) _ _ _ _ _ _ rfl ⟨hM_v, hA_f, hIv, rfl, rfl, rfl, rfl, rfl, rfl, rfl, rfl⟩ hP hD hS dX10_change_20 (Nat.le_refl _) (Nat.le_refl _)
    · skip
      refine lv_aload_n hx hb dX10_change_9 rfl (lv_at hl 0 rfl) ?_
      refine va_get (D := (dC, dI)) (ci := 10) (v := .ref (x 25)) (C := RX10) (T := TX10) (N := 10) hx hb hts inB_10 hown hE.1 hP 0 rfl rfl 5 (Nat.le_of_ble_eq_true rfl) (hts _ k_496) (fun _ h9 => h9) rfl dX10_change_10 ?_
      refine cbVi (n := 0) (rest := []) hx hb hml hown hts hE hP hD hS hA (sX_X3_findChange_1 l dC dI cy x0 x  v f hIv ) k_1037 k_1038 k_1039 k_109 k_1040 hd_yX3_findChange ⟨Nat.le_of_ble_eq_true rfl, Nat.le_of_ble_eq_true rfl⟩ 26 3 rfl rfl (rfl) hl.1 rfl (Nat.le_of_ble_eq_true rfl) dX10_change_13 (fun r3 u H locs hw hP hD hS => ?_)
      obtain ⟨v4, f5⟩ := u
      obtain ⟨kV_v4, kF_f5, hIv4, hk0_v4, hk1_v4, hk7_v4, hk8_v4, hk9_v4, hk10_v4, hk31_v4, hk32_v4, hw⟩ := hw
      have hM_v4 : KV [28, 29, 30] v4 v := KV.tr kV_v4 hM_v rfl
      have hA_f5 : KF [13, 14] f5 f := KF.tr kF_f5 hA_f rfl
      have hP : va_P (dC, dI) vwCl (XW cy x0 x v4 f5) H := hP
      have hD : va_D A (XW cy x0 x v4 f5) := hD
      rcases hw with ⟨g6⟩ | ⟨g6⟩
      · skip
        subst g6
        refine lv_if_ne (tgt := 21) hx hb dX10_change_16 rfl (fun _ => ?_) (fun c0 => absurd c0 (by decide))
        refine lv_iload_n hx hb dX10_change_21 rfl (lv_at hl 1 rfl) ?_
        refine lv_if_ne (tgt := 33) hx hb dX10_change_22 rfl (fun c7 => ?_) (fun c7 => ?_)
        · skip
          refine lv_iload_n hx hb dX10_change_33 rfl (lv_at hl 1 rfl) ?_
          refine lv_iconst (v := 1) hx hb dX10_change_34 rfl ?_
          refine lv_icmp_ne (tgt := 48) hx hb dX10_change_35 rfl (fun c8 => ?_) (fun c8 => ?_)
          · skip
            refine lv_aload_n hx hb dX10_change_48 rfl (lv_at hl 0 rfl) ?_
            refine va_get (D := (dC, dI)) (ci := 10) (v := .ref (x 25)) (C := RX10) (T := TX10) (N := 10) hx hb hts inB_10 hown hE.1 hP 0 rfl rfl 5 (Nat.le_of_ble_eq_true rfl) (hts _ k_496) (fun _ h9 => h9) rfl dX10_change_49 ?_
            refine va_getN (D := (dC, dI)) (ci := 3) (v := .int (v4 30)) (C := RX3) (T := TX3) (N := 10) hx hb hts inB_3 hown hE.1 hP 26 rfl rfl 9 (Nat.le_of_ble_eq_true rfl) (va_Nw.use rfl (hE.2 _ k_386)) (fun _ h9 => h9) rfl dX10_change_52 ?_
            exact ret (v4 30) (v4, f5) _ _ _ _ _ _ rfl ⟨hM_v4, hA_f5, hIv4, hk0_v4, hk1_v4, hk7_v4, hk8_v4, hk9_v4, hk10_v4, hk31_v4, hk32_v4⟩ hP hD hS dX10_change_55 (Nat.le_refl _) (Nat.le_refl _)
          · skip
            refine lv_aload_n hx hb dX10_change_38 rfl (lv_at hl 0 rfl) ?_
            refine va_get (D := (dC, dI)) (ci := 10) (v := .ref (x 25)) (C := RX10) (T := TX10) (N := 10) hx hb hts inB_10 hown hE.1 hP 0 rfl rfl 5 (Nat.le_of_ble_eq_true rfl) (hts _ k_496) (fun _ h9 => h9) rfl dX10_change_39 ?_
            refine va_getN (D := (dC, dI)) (ci := 3) (v := .int (v4 29)) (C := RX3) (T := TX3) (N := 10) hx hb hts inB_3 hown hE.1 hP 26 rfl rfl 8 (Nat.le_of_ble_eq_true rfl) (va_Nw.use rfl (hE.2 _ k_384)) (fun _ h9 => h9) rfl dX10_change_42 ?_
            refine lv_goto (tgt := 55) hx hb dX10_change_45 rfl ?_
            exact ret (v4 29) (v4, f5) _ _ _ _ _ _ rfl ⟨hM_v4, hA_f5, hIv4, hk0_v4, hk1_v4, hk7_v4, hk8_v4, hk9_v4, hk10_v4, hk31_v4, hk32_v4⟩ hP hD hS dX10_change_55 (Nat.le_refl _) (Nat.le_refl _)
        · skip
          refine lv_aload_n hx hb dX10_change_25 rfl (lv_at hl 0 rfl) ?_
          refine va_get (D := (dC, dI)) (ci := 10) (v := .ref (x 25)) (C := RX10) (T := TX10) (N := 10) hx hb hts inB_10 hown hE.1 hP 0 rfl rfl 5 (Nat.le_of_ble_eq_true rfl) (hts _ k_496) (fun _ h9 => h9) rfl dX10_change_26 ?_
          refine va_getN (D := (dC, dI)) (ci := 3) (v := .int (v4 28)) (C := RX3) (T := TX3) (N := 10) hx hb hts inB_3 hown hE.1 hP 26 rfl rfl 7 (Nat.le_of_ble_eq_true rfl) (va_Nw.use rfl (hE.2 _ k_382)) (fun _ h9 => h9) rfl dX10_change_29 ?_
          exact ret (v4 28) (v4, f5) _ _ _ _ _ _ rfl ⟨hM_v4, hA_f5, hIv4, hk0_v4, hk1_v4, hk7_v4, hk8_v4, hk9_v4, hk10_v4, hk31_v4, hk32_v4⟩ hP hD hS dX10_change_32 (Nat.le_refl _) (Nat.le_refl _)
      · skip
        subst g6
        refine lv_if_ne (tgt := 21) hx hb dX10_change_16 rfl (fun c0 => absurd (by decide) c0) (fun _ => ?_)
        refine lv_iconst (v := (-1)) hx hb dX10_change_19 rfl ?_
        exact ret (-1) (v4, f5) _ _ _ _ _ _ rfl ⟨hM_v4, hA_f5, hIv4, hk0_v4, hk1_v4, hk7_v4, hk8_v4, hk9_v4, hk10_v4, hk31_v4, hk32_v4⟩ hP hD hS dX10_change_20 (Nat.le_refl _) (Nat.le_refl _)
set_option maxHeartbeats 4000000 in
set_option maxRecDepth 100000 in
theorem sX_J6_lowestOneBit_0f7a4_1 (l : Launch) (dC : Nat → ClassId) (dI : Nat → Nat → Nat) (cy : Nat → ClassId) (x0 : Nat) (x : Nat → Nat) (p0 : Int32) (v : Nat → Int32) (f : Nat → Nat → Int32) (hIv : XI v)  : ctI l (dC, dI) cy yJ6_lowestOneBit_0f7a4 cJ6_lowestOneBit_0f7a4 1 .int 1 60 0 0 Unit [.int p0] (XW cy x0 x v f) (fun r u => True) (fun u => XW cy x0 x v f) := by
  refine ctI_of (by decide) (Nat.le_of_ble_eq_true rfl) (fun p e s m below meth c A ls Q hx hb hml hts hown hE hP hD hA hl ret => ?_)
  have hown : s.vm.findClass RJ6 = some m.cls := hown
  have hS : va_S A s.heap s.heap [] := va_S.rf
  have hl : lv_has ls 1 [(0, .int p0)] := hl
  refine lv_iload_n hx hb dJ6_lowestOneBit_0f7a4_0 rfl (lv_at hl 0 rfl) ?_
  refine lv_iload_n hx hb dJ6_lowestOneBit_0f7a4_1 rfl (lv_at hl 0 rfl) ?_
  refine lv_ineg hx hb dJ6_lowestOneBit_0f7a4_2 ?_
  refine lv_topi (fun t1 et1 => ?_)
  refine lv_iand hx hb dJ6_lowestOneBit_0f7a4_3 ?_
  refine lv_topi (fun t2 et2 => ?_)
  exact ret t2 () _ _ _ _ _ _ rfl trivial hP hD hS dJ6_lowestOneBit_0f7a4_4 (Nat.le_refl _) (Nat.le_refl _)
set_option maxHeartbeats 4000000 in
set_option maxRecDepth 100000 in
theorem sX_X2_difference_1 (l : Launch) (dC : Nat → ClassId) (dI : Nat → Nat → Nat) (cy : Nat → ClassId) (x0 : Nat) (x : Nat → Nat) (p1 : Int32) (v : Nat → Int32) (f : Nat → Nat → Int32) (hIv : XI v)  : ctI l (dC, dI) cy yX2_difference cX2_difference 2 .int 4 127 0 0 Unit [.ref (x 29), .int p1] (XW cy x0 x v f) (fun r u => True) (fun u => XW cy x0 x v f) := by
  refine ctI_of (by decide) (Nat.le_of_ble_eq_true rfl) (fun p e s m below meth c A ls Q hx hb hml hts hown hE hP hD hA hl ret => ?_)
  have hown : s.vm.findClass RX2 = some m.cls := hown
  have hS : va_S A s.heap s.heap [] := va_S.rf
  have hl : lv_has ls 2 [(0, .ref (x 29)), (1, .int p1)] := hl
  refine lv_aload_n hx hb dX2_difference_0 rfl (lv_at hl 0 rfl) ?_
  refine lv_aload_n hx hb dX2_difference_1 rfl (lv_at hl 0 rfl) ?_
  refine va_get (D := (dC, dI)) (ci := 2) (v := .ref (x 21)) (C := RX2) (T := TX2) (N := 3) hx hb hts inB_2 hown hE.1 hP 30 rfl rfl 1 (Nat.le_of_ble_eq_true rfl) (hts _ k_415) (fun _ h9 => h9) rfl dX2_difference_2 ?_
  refine cbVi (n := 0) (rest := [.ref (x 29)]) hx hb hml hown hts hE hP hD hS hA (sX_X1_wearers_1 0 l dC dI cy x0 x  v f hIv ) k_1060 k_1061 k_1062 k_106 k_1063 hd_yX1_wearers ⟨Nat.le_of_ble_eq_true rfl, Nat.le_of_ble_eq_true rfl⟩ 22 1 rfl rfl (rfl) hl.1 rfl (Nat.le_of_ble_eq_true rfl) dX2_difference_5 (fun r1 u H locs hw hP hD hS => ?_)
  have hG2 := hw
  refine cbVi (n := 1) (rest := []) hx hb hml hown hts hE hP hD hS hA (sX_X2_wideTogether_1 0 l dC dI cy x0 x r1 v f hIv ) k_1065 k_1066 k_1067 k_110 k_1068 hd_yX2_wideTogether ⟨Nat.le_of_ble_eq_true rfl, Nat.le_of_ble_eq_true rfl⟩ 30 2 rfl rfl (rfl) hl.1 rfl (Nat.le_of_ble_eq_true rfl) dX2_difference_8 (fun r3 u H locs hw hP hD hS => ?_)
  have hG4 := hw
  refine lv_iconst (v := 2) hx hb dX2_difference_11 rfl ?_
  refine lv_aload_n hx hb dX2_difference_12 rfl (lv_at hl 0 rfl) ?_
  refine lv_iload_n hx hb dX2_difference_13 rfl (lv_at hl 1 rfl) ?_
  refine cbVi (n := 1) (rest := [.int 2, .int r3]) hx hb hml hown hts hE hP hD hS hA (sX_X2_wideTogether_1 0 l dC dI cy x0 x p1 v f hIv ) k_1065 k_1066 k_1067 k_110 k_1068 hd_yX2_wideTogether ⟨Nat.le_of_ble_eq_true rfl, Nat.le_of_ble_eq_true rfl⟩ 30 2 rfl rfl (rfl) hl.1 rfl (Nat.le_of_ble_eq_true rfl) dX2_difference_14 (fun r5 u H locs hw hP hD hS => ?_)
  have hG6 := hw
  refine lv_imul hx hb dX2_difference_17 ?_
  refine lv_topi (fun t7 et7 => ?_)
  refine lv_isub hx hb dX2_difference_18 ?_
  refine lv_topi (fun t8 et8 => ?_)
  refine va_mabs hx hb (by rw [hml]; exact hl.1.symm) hown (hts _ k_1091) (hts _ k_1018) (hts _ k_119) (hts _ k_1019) (Nat.le_of_ble_eq_true rfl) (Nat.le_of_ble_eq_true rfl) (Nat.le_of_ble_eq_true rfl) (Nat.le_of_ble_eq_true rfl) dX2_difference_19 ?_
  refine lv_topi (fun t9 et9 => ?_)
  exact ret t9 () _ _ _ _ _ _ rfl trivial hP hD hS dX2_difference_22 (Nat.le_refl _) (Nat.le_refl _)
set_option maxHeartbeats 4000000 in
set_option maxRecDepth 100000 in
theorem sX_X2_isEvener_1 (l : Launch) (dC : Nat → ClassId) (dI : Nat → Nat → Nat) (cy : Nat → ClassId) (x0 : Nat) (x : Nat → Nat) (p1 : Int32) (p2 : Int32) (v : Nat → Int32) (f : Nat → Nat → Int32) (hIv : XI v)  : ctI l (dC, dI) cy yX2_isEvener cX2_isEvener 4 .boolean 5 148 0 0 Unit [.ref (x 29), .int p1, .int p2] (XW cy x0 x v f) (fun r u => ((r = 1) ∨ (r = 0))) (fun u => XW cy x0 x v f) := by
  refine ctI_of (by decide) (Nat.le_of_ble_eq_true rfl) (fun p e s m below meth c A ls Q hx hb hml hts hown hE hP hD hA hl ret => ?_)
  have hown : s.vm.findClass RX2 = some m.cls := hown
  have hS : va_S A s.heap s.heap [] := va_S.rf
  have hl : lv_has ls 4 [(0, .ref (x 29)), (1, .int p1), (2, .int p2)] := hl
  refine lv_aload_n hx hb dX2_isEvener_0 rfl (lv_at hl 0 rfl) ?_
  refine lv_iload_n hx hb dX2_isEvener_1 rfl (lv_at hl 1 rfl) ?_
  refine cbVi (n := 1) (rest := []) hx hb hml hown hts hE hP hD hS hA (sX_X2_difference_1 l dC dI cy x0 x p1 v f hIv ) k_1087 k_1088 k_1089 k_110 k_1090 hd_yX2_difference ⟨Nat.le_of_ble_eq_true rfl, Nat.le_of_ble_eq_true rfl⟩ 30 2 rfl rfl (rfl) hl.1 rfl (Nat.le_of_ble_eq_true rfl) dX2_isEvener_2 (fun r1 u H locs hw hP hD hS => ?_)
  refine lv_aload_n hx hb dX2_isEvener_5 rfl (lv_at hl 0 rfl) ?_
  refine lv_iload_n hx hb dX2_isEvener_6 rfl (lv_at hl 2 rfl) ?_
  refine cbVi (n := 1) (rest := [.int r1]) hx hb hml hown hts hE hP hD hS hA (sX_X2_difference_1 l dC dI cy x0 x p2 v f hIv ) k_1087 k_1088 k_1089 k_110 k_1090 hd_yX2_difference ⟨Nat.le_of_ble_eq_true rfl, Nat.le_of_ble_eq_true rfl⟩ 30 2 rfl rfl (rfl) hl.1 rfl (Nat.le_of_ble_eq_true rfl) dX2_isEvener_7 (fun r2 u H locs hw hP hD hS => ?_)
  refine lv_isub hx hb dX2_isEvener_10 ?_
  refine lv_topi (fun t3 et3 => ?_)
  refine lv_istore_n (lv' := [(3, .int t3), (0, .ref (x 29)), (1, .int p1), (2, .int p2)]) hx hb dX2_isEvener_11 rfl hl (Nat.le_of_ble_eq_true rfl) rfl (fun ls hl => ?_)
  refine lv_iload_n hx hb dX2_isEvener_12 rfl (lv_at hl 0 rfl) ?_
  refine lv_if_lt (tgt := 25) hx hb dX2_isEvener_13 rfl (fun c4 => ?_) (fun c4 => ?_)
  · skip
    refine lv_iconst (v := 1) hx hb dX2_isEvener_25 rfl ?_
    refine lv_goto (tgt := 30) hx hb dX2_isEvener_26 rfl ?_
    exact ret 1 () _ _ _ _ _ _ rfl (Or.inl rfl) hP hD hS dX2_isEvener_30 (Nat.le_refl _) (Nat.le_refl _)
  · skip
    refine lv_iload_n hx hb dX2_isEvener_16 rfl (lv_at hl 0 rfl) ?_
    refine lv_if_ne (tgt := 29) hx hb dX2_isEvener_17 rfl (fun c5 => ?_) (fun c5 => ?_)
    · skip
      refine lv_iconst (v := 0) hx hb dX2_isEvener_29 rfl ?_
      exact ret 0 () _ _ _ _ _ _ rfl (Or.inr rfl) hP hD hS dX2_isEvener_30 (Nat.le_refl _) (Nat.le_refl _)
    · skip
      refine lv_iload_n hx hb dX2_isEvener_20 rfl (lv_at hl 2 rfl) ?_
      refine lv_iload_n hx hb dX2_isEvener_21 rfl (lv_at hl 3 rfl) ?_
      refine lv_icmp_ge (tgt := 29) hx hb dX2_isEvener_22 rfl (fun c6 => ?_) (fun c6 => ?_)
      · skip
        refine lv_iconst (v := 0) hx hb dX2_isEvener_29 rfl ?_
        exact ret 0 () _ _ _ _ _ _ rfl (Or.inr rfl) hP hD hS dX2_isEvener_30 (Nat.le_refl _) (Nat.le_refl _)
      · skip
        refine lv_iconst (v := 1) hx hb dX2_isEvener_25 rfl ?_
        refine lv_goto (tgt := 30) hx hb dX2_isEvener_26 rfl ?_
        exact ret 1 () _ _ _ _ _ _ rfl (Or.inl rfl) hP hD hS dX2_isEvener_30 (Nat.le_refl _) (Nat.le_refl _)
set_option maxHeartbeats 4000000 in
set_option maxRecDepth 100000 in
theorem sX_X2_leftWing_1 (l : Launch) (dC : Nat → ClassId) (dI : Nat → Nat → Nat) (cy : Nat → ClassId) (x0 : Nat) (x : Nat → Nat)  (v : Nat → Int32) (f : Nat → Nat → Int32) (hIv : XI v)  : ctI l (dC, dI) cy yX2_leftWing cX2_leftWing 6 .int 6 171 0 0 Unit [.ref (x 29)] (XW cy x0 x v f) (fun r u => True) (fun u => XW cy x0 x v f) := by
  refine ctI_of (by decide) (Nat.le_of_ble_eq_true rfl) (fun p e s m below meth c A ls Q hx hb hml hts hown hE hP hD hA hl ret => ?_)
  have hown : s.vm.findClass RX2 = some m.cls := hown
  have hS : va_S A s.heap s.heap [] := va_S.rf
  have hl : lv_has ls 6 [(0, .ref (x 29))] := hl
  refine lv_aload_n hx hb dX2_leftWing_0 rfl (lv_at hl 0 rfl) ?_
  refine va_get (D := (dC, dI)) (ci := 2) (v := .ref (x 21)) (C := RX2) (T := TX2) (N := 3) hx hb hts inB_2 hown hE.1 hP 30 rfl rfl 1 (Nat.le_of_ble_eq_true rfl) (hts _ k_415) (fun _ h9 => h9) rfl dX2_leftWing_1 ?_
  refine cbVi (n := 0) (rest := []) hx hb hml hown hts hE hP hD hS hA (sX_X1_wearers_1 0 l dC dI cy x0 x  v f hIv ) k_1060 k_1061 k_1062 k_106 k_1063 hd_yX1_wearers ⟨Nat.le_of_ble_eq_true rfl, Nat.le_of_ble_eq_true rfl⟩ 22 1 rfl rfl (rfl) hl.1 rfl (Nat.le_of_ble_eq_true rfl) dX2_leftWing_4 (fun r1 u H locs hw hP hD hS => ?_)
  have hG2 := hw
  refine lv_istore_n (lv' := [(1, .int r1), (0, .ref (x 29))]) hx hb dX2_leftWing_7 rfl hl (Nat.le_of_ble_eq_true rfl) rfl (fun ls hl => ?_)
  refine lv_iload_n hx hb dX2_leftWing_8 rfl (lv_at hl 0 rfl) ?_
  refine cbSi (n := 1) (rest := []) hx hb hml hown hts hE hP hD hS hA (sX_J6_lowestOneBit_0f7a4_1 l dC dI cy x0 x r1 v f hIv ) k_1080 k_1081 k_121 k_1082 he_yJ6_lowestOneBit_0f7a4 ⟨Nat.le_of_ble_eq_true rfl, Nat.le_of_ble_eq_true rfl⟩ (rfl) hl.1 rfl (Nat.le_of_ble_eq_true rfl) dX2_leftWing_9 (fun r3 u H locs hw hP hD hS => ?_)
  refine lv_istore_n (lv' := [(2, .int r3), (1, .int r1), (0, .ref (x 29))]) hx hb dX2_leftWing_12 rfl hl (Nat.le_of_ble_eq_true rfl) rfl (fun ls hl => ?_)
  refine lv_iload_n hx hb dX2_leftWing_13 rfl (lv_at hl 1 rfl) ?_
  refine lv_istore_n (lv' := [(3, .int r1), (2, .int r3), (1, .int r1), (0, .ref (x 29))]) hx hb dX2_leftWing_14 rfl hl (Nat.le_of_ble_eq_true rfl) rfl (fun ls hl => ?_)
  refine lv_iconst (v := 0) hx hb dX2_leftWing_15 rfl ?_
  refine lv_istore (lv' := [(4, .int 0), (3, .int r1), (2, .int r3), (1, .int r1), (0, .ref (x 29))]) hx hb dX2_leftWing_16 hl (Nat.le_of_ble_eq_true rfl) rfl (fun ls hl => ?_)
  have lp4 : ∀ (n4 : Nat) (l3_4 : Int32) (l4_4 : Int32), ((0 : Int) ≤ l4_4.toInt ∧ l4_4.toInt ≤ 2147483647) → (2147483647 - l4_4.toInt).toNat < n4 → ∀ (H : Heap) (locs : List Loc) (ls : Array Slot), va_P (dC, dI) vwCl (XW cy x0 x v f) H → va_D A (XW cy x0 x v f) → va_S A s.heap H locs → lv_has ls 6 [(4, .int l4_4), (3, .int l3_4), (2, .int r3), (1, .int r1), (0, .ref (x 29))] → W p l e { frames := 6, cells := 0, slots := 0, locals := 171 } s m ([.ref (x 29)] : List Value).toArray below meth c H locs 0 0 Q (F0 m 18 ls []) := by
    intro n4
    induction n4 with
    | zero => intro l3_4 l4_4 hr4_4 hm; exact absurd hm (Nat.not_lt_zero _)
    | succ n4 ih4 =>
      intro l3_4 l4_4 hr4_4 hm4 H locs ls hP hD hS hl
      refine lv_iload hx hb dX2_leftWing_18 (lv_at hl 0 rfl) ?_
      refine lv_bipush (v := 64) hx hb dX2_leftWing_20 rfl ?_
      refine lv_icmp_ge (tgt := 73) hx hb dX2_leftWing_22 rfl (fun c5 => ?_) (fun c5 => ?_)
      · skip
        refine lv_iload_n hx hb dX2_leftWing_73 rfl (lv_at hl 1 rfl) ?_
        exact ret l3_4 () _ _ _ _ _ _ rfl trivial hP hD hS dX2_leftWing_74 (Nat.le_refl _) (Nat.le_refl _)
      · skip
        have zc5 : ¬ (64 ≤ l4_4.toInt) := zMn tc_64 rfl c5
        refine lv_iload hx hb dX2_leftWing_25 (lv_at hl 0 rfl) ?_
        refine lv_iload_n hx hb dX2_leftWing_27 rfl (lv_at hl 3 rfl) ?_
        refine lv_iconst (v := (-1)) hx hb dX2_leftWing_28 rfl ?_
        refine lv_ixor hx hb dX2_leftWing_29 ?_
        refine lv_topi (fun t6 et6 => ?_)
        refine lv_iand hx hb dX2_leftWing_30 ?_
        refine lv_topi (fun t7 et7 => ?_)
        refine lv_if_ne (tgt := 46) hx hb dX2_leftWing_31 rfl (fun c8 => ?_) (fun c8 => ?_)
        · skip
          refine lv_iconst (v := 0) hx hb dX2_leftWing_46 rfl ?_
          refine lv_istore (lv' := [(5, .int 0), (4, .int l4_4), (3, .int l3_4), (2, .int r3), (1, .int r1), (0, .ref (x 29))]) hx hb dX2_leftWing_47 hl (Nat.le_of_ble_eq_true rfl) rfl (fun ls hl => ?_)
          refine lv_iload hx hb dX2_leftWing_49 (lv_at hl 0 rfl) ?_
          refine lv_if_eq (tgt := 67) hx hb dX2_leftWing_51 rfl (fun _ => ?_) (fun c0 => absurd (by decide) c0)
          obtain ⟨t9, et9⟩ : ∃ y : Int32, y = l4_4 + 1 := ⟨_, rfl⟩
          have zt9 : t9.toInt = l4_4.toInt + 1 := (congrArg Int32.toInt et9).trans (add_i rfl tc_1 (om_41 hr4_4) (om_194 zc5))
          refine lv_iinc (v := t9) (lv' := [(4, .int t9), (5, .int 0), (3, .int l3_4), (2, .int r3), (1, .int r1), (0, .ref (x 29))]) hx hb dX2_leftWing_67 hl (k := 1) rfl et9.symm (Nat.le_of_ble_eq_true rfl) rfl (fun ls hl => ?_)
          refine lv_goto (tgt := 18) hx hb dX2_leftWing_70 rfl ?_
          have rg11 := fb_rng t9
          exact ih4 l3_4 t9 ⟨show (0 : Int) ≤ t9.toInt from om_43 hr4_4 zt9, show t9.toInt ≤ (2147483647 : Int) from om_44 rg11⟩ (show (2147483647 - t9.toInt).toNat < n4 from om_33 hm4 zt9 rg11) _ _ _ hP hD hS (lv_sub hl [0, 2, 3, 4, 5] rfl)
        · skip
          refine lv_iload hx hb dX2_leftWing_34 (lv_at hl 0 rfl) ?_
          refine lv_iload_n hx hb dX2_leftWing_36 rfl (lv_at hl 2 rfl) ?_
          refine lv_iand hx hb dX2_leftWing_37 ?_
          refine lv_topi (fun t12 et12 => ?_)
          refine lv_iload_n hx hb dX2_leftWing_38 rfl (lv_at hl 2 rfl) ?_
          refine lv_icmp_ne (tgt := 46) hx hb dX2_leftWing_39 rfl (fun c13 => ?_) (fun c13 => ?_)
          · skip
            refine lv_iconst (v := 0) hx hb dX2_leftWing_46 rfl ?_
            refine lv_istore (lv' := [(5, .int 0), (4, .int l4_4), (3, .int l3_4), (2, .int r3), (1, .int r1), (0, .ref (x 29))]) hx hb dX2_leftWing_47 hl (Nat.le_of_ble_eq_true rfl) rfl (fun ls hl => ?_)
            refine lv_iload hx hb dX2_leftWing_49 (lv_at hl 0 rfl) ?_
            refine lv_if_eq (tgt := 67) hx hb dX2_leftWing_51 rfl (fun _ => ?_) (fun c0 => absurd (by decide) c0)
            obtain ⟨t16, et16⟩ : ∃ y : Int32, y = l4_4 + 1 := ⟨_, rfl⟩
            have zt16 : t16.toInt = l4_4.toInt + 1 := (congrArg Int32.toInt et16).trans (add_i rfl tc_1 (om_41 hr4_4) (om_194 zc5))
            refine lv_iinc (v := t16) (lv' := [(4, .int t16), (5, .int 0), (3, .int l3_4), (2, .int r3), (1, .int r1), (0, .ref (x 29))]) hx hb dX2_leftWing_67 hl (k := 1) rfl et16.symm (Nat.le_of_ble_eq_true rfl) rfl (fun ls hl => ?_)
            refine lv_goto (tgt := 18) hx hb dX2_leftWing_70 rfl ?_
            have rg18 := fb_rng t16
            exact ih4 l3_4 t16 ⟨show (0 : Int) ≤ t16.toInt from om_43 hr4_4 zt16, show t16.toInt ≤ (2147483647 : Int) from om_44 rg18⟩ (show (2147483647 - t16.toInt).toNat < n4 from om_33 hm4 zt16 rg18) _ _ _ hP hD hS (lv_sub hl [0, 2, 3, 4, 5] rfl)
          · skip
            refine lv_iconst (v := 1) hx hb dX2_leftWing_42 rfl ?_
            refine lv_goto (tgt := 47) hx hb dX2_leftWing_43 rfl ?_
            refine lv_istore (lv' := [(5, .int 1), (4, .int l4_4), (3, .int l3_4), (2, .int r3), (1, .int r1), (0, .ref (x 29))]) hx hb dX2_leftWing_47 hl (Nat.le_of_ble_eq_true rfl) rfl (fun ls hl => ?_)
            refine lv_iload hx hb dX2_leftWing_49 (lv_at hl 0 rfl) ?_
            refine lv_if_eq (tgt := 67) hx hb dX2_leftWing_51 rfl (fun c0 => absurd c0 (by decide)) (fun _ => ?_)
            refine lv_aload_n hx hb dX2_leftWing_54 rfl (lv_at hl 5 rfl) ?_
            refine lv_iload hx hb dX2_leftWing_55 (lv_at hl 1 rfl) ?_
            refine lv_iload_n hx hb dX2_leftWing_57 rfl (lv_at hl 2 rfl) ?_
            refine cbVi (n := 2) (rest := []) hx hb hml hown hts hE hP hD hS hA (sX_X2_isEvener_1 l dC dI cy x0 x l4_4 l3_4 v f hIv ) k_1083 k_1085 k_30 k_110 k_1086 hd_yX2_isEvener ⟨Nat.le_of_ble_eq_true rfl, Nat.le_of_ble_eq_true rfl⟩ 30 2 rfl rfl (rfl) hl.1 rfl (Nat.le_of_ble_eq_true rfl) dX2_leftWing_58 (fun r21 u H locs hw hP hD hS => ?_)
            rcases hw with ⟨g22⟩ | ⟨g22⟩
            · skip
              subst g22
              refine lv_if_eq (tgt := 67) hx hb dX2_leftWing_61 rfl (fun c0 => absurd c0 (by decide)) (fun _ => ?_)
              refine lv_iload hx hb dX2_leftWing_64 (lv_at hl 1 rfl) ?_
              refine lv_istore_n (lv' := [(3, .int l4_4), (5, .int 1), (4, .int l4_4), (2, .int r3), (1, .int r1), (0, .ref (x 29))]) hx hb dX2_leftWing_66 rfl hl (Nat.le_of_ble_eq_true rfl) rfl (fun ls hl => ?_)
              obtain ⟨t23, et23⟩ : ∃ y : Int32, y = l4_4 + 1 := ⟨_, rfl⟩
              have zt23 : t23.toInt = l4_4.toInt + 1 := (congrArg Int32.toInt et23).trans (add_i rfl tc_1 (om_41 hr4_4) (om_194 zc5))
              refine lv_iinc (v := t23) (lv' := [(4, .int t23), (3, .int l4_4), (5, .int 1), (2, .int r3), (1, .int r1), (0, .ref (x 29))]) hx hb dX2_leftWing_67 hl (k := 2) rfl et23.symm (Nat.le_of_ble_eq_true rfl) rfl (fun ls hl => ?_)
              refine lv_goto (tgt := 18) hx hb dX2_leftWing_70 rfl ?_
              have rg25 := fb_rng t23
              exact ih4 l4_4 t23 ⟨show (0 : Int) ≤ t23.toInt from om_43 hr4_4 zt23, show t23.toInt ≤ (2147483647 : Int) from om_44 rg25⟩ (show (2147483647 - t23.toInt).toNat < n4 from om_33 hm4 zt23 rg25) _ _ _ hP hD hS (lv_sub hl [0, 1, 3, 4, 5] rfl)
            · skip
              subst g22
              refine lv_if_eq (tgt := 67) hx hb dX2_leftWing_61 rfl (fun _ => ?_) (fun c0 => absurd (by decide) c0)
              obtain ⟨t26, et26⟩ : ∃ y : Int32, y = l4_4 + 1 := ⟨_, rfl⟩
              have zt26 : t26.toInt = l4_4.toInt + 1 := (congrArg Int32.toInt et26).trans (add_i rfl tc_1 (om_41 hr4_4) (om_194 zc5))
              refine lv_iinc (v := t26) (lv' := [(4, .int t26), (5, .int 1), (3, .int l3_4), (2, .int r3), (1, .int r1), (0, .ref (x 29))]) hx hb dX2_leftWing_67 hl (k := 1) rfl et26.symm (Nat.le_of_ble_eq_true rfl) rfl (fun ls hl => ?_)
              refine lv_goto (tgt := 18) hx hb dX2_leftWing_70 rfl ?_
              have rg28 := fb_rng t26
              exact ih4 l3_4 t26 ⟨show (0 : Int) ≤ t26.toInt from om_43 hr4_4 zt26, show t26.toInt ≤ (2147483647 : Int) from om_44 rg28⟩ (show (2147483647 - t26.toInt).toNat < n4 from om_33 hm4 zt26 rg28) _ _ _ hP hD hS (lv_sub hl [0, 2, 3, 4, 5] rfl)
  exact lp4 _ r1 0 ⟨by decide, by decide⟩ (Nat.lt_succ_self _) _ _ _ hP hD hS (lv_sub hl [0, 1, 2, 3, 4] rfl)
