set_option maxHeartbeats 4000000 in
set_option maxRecDepth 100000 in
theorem sX_X6_expression_33 (NF : Nat) (l : Launch) (dC : Nat → ClassId) (dI : Nat → Nat → Nat) (cy : Nat → ClassId) (x0 : Nat) (x : Nat → Nat)  (v : Nat → Int32) (f : Nat → Nat → Int32) (hIv : XI v)  : ctIS l (dC, dI) cy yX6_expression cX6_expression 6 .boolean 25 635 0 0 ((Nat → Int32) × (Nat → Nat → Int32)) [.ref (x 2), .int 2, .int 5] (XW cy x0 x v f) (fun r u => gsX_X6_expression_33 NF v f = (r, u) ∧ KV [2, 3, 4, 5, 7, 8, 16, 17] u.1 v ∧ KF [3, 4] u.2 f ∧ XI u.1 ∧ u.1 0 = v 0 ∧ u.1 1 = v 1 ∧ u.1 9 = v 9 ∧ u.1 10 = v 10 ∧ u.1 31 = v 31 ∧ u.1 32 = v 32 ∧ ((r = 1) ∨ (r = 0))) (fun u => XW cy x0 x u.1 u.2) := by
  refine ctIS_of (by decide) (Nat.le_of_ble_eq_true rfl) (fun p e s m below meth c A ls Q hx hb hml hts hown hE hF hT hP hD hA hl ret => ?_)
  have hM_v : KV [2, 3, 4, 5, 7, 8, 16, 17] v v := fun _ _ => rfl
  have hA_f : KF [3, 4] f f := fun _ _ => rfl
  have hown : s.vm.findClass RX6 = some m.cls := hown
  have hS : va_S A s.heap s.heap [] := va_S.rf
  have hl : lv_has ls 6 [(0, .ref (x 2)), (1, .int 2), (2, .int 5)] := hl
  refine lv_iload_n hx hb dX6_expression_0 rfl (lv_at hl 1 rfl) ?_
  refine lv_iconst (v := 5) hx hb dX6_expression_1 (by decide) ?_
  refine lv_icmp_lt (tgt := 11) hx hb dX6_expression_2 (by decide) (fun _ => ?_) (fun c0 => absurd (by decide) c0)
  refine lv_iload_n hx hb dX6_expression_11 rfl (lv_at hl 1 rfl) ?_
  refine lv_iconst (v := 2) hx hb dX6_expression_12 (by decide) ?_
  refine lv_icmp_ne (tgt := 34) hx hb dX6_expression_13 (by decide) (fun c0 => absurd (by decide) c0) (fun _ => ?_)
  refine lv_aload_n hx hb dX6_expression_16 rfl (lv_at hl 0 rfl) ?_
  refine va_get (D := (dC, dI)) (ci := 6) (v := .ref (x 0)) (C := RX6) (T := TX6) (N := 7) hx hb hts inB_6 hown hE.1 hP 3 rfl rfl 0 (by decide) (hts _ k_265) (fun _ h9 => h9) rfl dX6_expression_17 ?_
  refine va_getN (D := (dC, dI)) (ci := 9) (v := .int (v 2)) (C := RX9) (T := TX9) (N := 6) hx hb hts inB_9 hown hE.1 hP 1 rfl rfl 2 (by decide) (va_Nw.use rfl (hE.2 _ k_139)) (fun _ h9 => h9) rfl dX6_expression_20 ?_
  refine lv_bipush (v := 115) hx hb dX6_expression_23 (by decide) ?_
  refine lv_icmp_ne (tgt := 34) hx hb dX6_expression_25 (by decide) (fun c1 => ?_) (fun c1 => ?_)
  · skip
    have zc1 : ¬ ((v 2).toInt = 115) := by rw [fa_eq, show (115 : Int32).toInt = 115 from by decide] at c1; exact c1
    refine lv_aload_n hx hb dX6_expression_34 rfl (lv_at hl 0 rfl) ?_
    refine lv_iload_n hx hb dX6_expression_35 rfl (lv_at hl 1 rfl) ?_
    refine lv_iconst (v := 1) hx hb dX6_expression_36 (by decide) ?_
    refine lv_iadd hx hb dX6_expression_37 ?_
    refine tI (y := 3) (by decide) ?_
    refine lv_iload_n hx hb dX6_expression_38 rfl (lv_at hl 2 rfl) ?_
    refine csVi (n := 2) (rest := []) hx hb hml hown hts hE hP hD hS hA hF hT (sX_X6_expression_34 NF l dC dI cy x0 x  v f hIv ) k_740 k_742 k_15 k_103 k_743 (by decide +kernel) ⟨Nat.le_of_ble_eq_true rfl, Nat.le_of_ble_eq_true rfl⟩ 3 6 rfl rfl (rfl) hl.1 rfl (Nat.le_of_ble_eq_true rfl) dX6_expression_39 (fun r2 u H locs hw hP hD hS => ?_)
    obtain ⟨hG3, hw⟩ := hw
    obtain ⟨v4, f5⟩ := u
    obtain ⟨kV_v4, kF_f5, hIv4, hk0_v4, hk1_v4, hk9_v4, hk10_v4, hk31_v4, hk32_v4, hw⟩ := hw
    have hM_v4 : KV [2, 3, 4, 5, 7, 8, 16, 17] v4 v := KV.tr kV_v4 hM_v rfl
    have hA_f5 : KF [3, 4] f5 f := KF.tr kF_f5 hA_f rfl
    have hP : va_P (dC, dI) vwCl (XW cy x0 x v4 f5) H := hP
    have hD : va_D A (XW cy x0 x v4 f5) := hD
    have hq0_v4 : v4 0 = (v 0) := hk0_v4
    have hq1_v4 : v4 1 = (v 1) := hk1_v4
    have hq9_v4 : v4 9 = (v 9) := hk9_v4
    have hq10_v4 : v4 10 = (v 10) := hk10_v4
    have hq31_v4 : v4 31 = (v 31) := hk31_v4
    have hq32_v4 : v4 32 = (v 32) := hk32_v4
    rcases hw with ⟨g6⟩ | ⟨g6⟩
    · skip
      subst g6
      refine lv_if_ne (tgt := 47) hx hb dX6_expression_42 (by decide) (fun _ => ?_) (fun c0 => absurd c0 (by decide))
      refine lv_iload_n hx hb dX6_expression_47 rfl (lv_at hl 1 rfl) ?_
      refine lv_iconst (v := 2) hx hb dX6_expression_48 (by decide) ?_
      refine lv_icmp_ne (tgt := 56) hx hb dX6_expression_49 (by decide) (fun c0 => absurd (by decide) c0) (fun _ => ?_)
      refine lv_iconst (v := 1) hx hb dX6_expression_52 (by decide) ?_
      refine lv_goto (tgt := 59) hx hb dX6_expression_53 (by decide) ?_
      refine lv_istore_n (lv' := [(3, .int 1), (0, .ref (x 2)), (1, .int 2), (2, .int 5)]) hx hb dX6_expression_59 rfl hl (by decide) rfl (fun ls hl => ?_)
      refine lv_iconst (v := 0) hx hb dX6_expression_60 (by decide) ?_
      refine lv_istore (lv' := [(4, .int 0), (3, .int 1), (0, .ref (x 2)), (1, .int 2), (2, .int 5)]) hx hb dX6_expression_61 hl (by decide) rfl (fun ls hl => ?_)
      have lp7 : ∀ (n7 : Nat) (l4_7 : Int32) (v7 : Nat → Int32) (f7 : Nat → Nat → Int32), XI v7 → v7 0 = (v 0) → v7 1 = (v 1) → v7 9 = (v 9) → v7 10 = (v 10) → v7 31 = (v 31) → v7 32 = (v 32) → gsX_X6_expression_33_L7 NF n7 l4_7 v7 f7 = (gsX_X6_expression_33 NF v f) → ((0 : Int) ≤ l4_7.toInt ∧ l4_7.toInt ≤ 2147483647) → KV [2, 3, 4, 5, 7, 8, 16, 17] v7 v → KF [3, 4] f7 f → (2147483647 - l4_7.toInt).toNat < n7 → ∀ (H : Heap) (locs : List Loc) (ls : Array Slot), va_P (dC, dI) vwCl (XW cy x0 x v7 f7) H → va_D A (XW cy x0 x v7 f7) → va_S A s.heap H locs → lv_has ls 6 [(4, .int l4_7), (3, .int 1), (0, .ref (x 2)), (1, .int 2), (2, .int 5)] → W p l e { frames := 25, cells := 0, slots := 0, locals := 635 } s m ([.ref (x 2), .int 2, .int 5] : List Value).toArray below meth c H locs 0 0 Q (F0 m 63 ls []) := by
        intro n7
        induction n7 with
        | zero => intro l4_7 v7 f7 hIv7 hq0_v7 hq1_v7 hq9_v7 hq10_v7 hq31_v7 hq32_v7 hT7 hr4_7 hM_v7 hA_f7 hm; exact absurd hm (Nat.not_lt_zero _)
        | succ n7 ih7 =>
          intro l4_7 v7 f7 hIv7 hq0_v7 hq1_v7 hq9_v7 hq10_v7 hq31_v7 hq32_v7 hT7 hr4_7 hM_v7 hA_f7 hm7 H locs ls hP hD hS hl
          refine lv_iload hx hb dX6_expression_63 (lv_at hl 0 rfl) ?_
          refine lv_iload_n hx hb dX6_expression_65 rfl (lv_at hl 1 rfl) ?_
          refine lv_icmp_ge (tgt := 131) hx hb dX6_expression_66 (by decide) (fun c8 => ?_) (fun c8 => ?_)
          · skip
            have zc8 : 1 ≤ l4_7.toInt := by rw [fa_le, show (1 : Int32).toInt = 1 from by decide] at c8; exact c8
            refine lv_iconst (v := 1) hx hb dX6_expression_131 (by decide) ?_
            exact ret 1 (v7, f7) _ _ _ _ _ _ rfl ⟨(hT7.symm.trans (gsX_X6_expression_33_q0 c8)), hM_v7, hA_f7, hIv7, hq0_v7, hq1_v7, hq9_v7, hq10_v7, hq31_v7, hq32_v7, (Or.inl rfl)⟩ hP hD hS dX6_expression_132 (Nat.le_refl _) (Nat.le_refl _)
          · skip
            have zc8 : ¬ (1 ≤ l4_7.toInt) := by rw [fa_le, show (1 : Int32).toInt = 1 from by decide] at c8; exact c8
            refine lv_iload_n hx hb dX6_expression_69 rfl (lv_at hl 3 rfl) ?_
            refine lv_aload_n hx hb dX6_expression_70 rfl (lv_at hl 2 rfl) ?_
            refine va_get (D := (dC, dI)) (ci := 6) (v := .ref (x 0)) (C := RX6) (T := TX6) (N := 7) hx hb hts inB_6 hown hE.1 hP 3 rfl rfl 0 (by decide) (hts _ k_265) (fun _ h9 => h9) rfl dX6_expression_71 ?_
            refine va_getN (D := (dC, dI)) (ci := 9) (v := .int (v7 2)) (C := RX9) (T := TX9) (N := 6) hx hb hts inB_9 hown hE.1 hP 1 rfl rfl 2 (by decide) (va_Nw.use rfl (hE.2 _ k_139)) (fun _ h9 => h9) rfl dX6_expression_74 ?_
            refine cbSi (n := 2) (rest := []) hx hb hml hown hts hE hP hD hS hA (sX_X6_joins_1 NF l dC dI cy x0 x 2 (v7 2) v7 f7 hIv7 ) k_756 k_757 k_103 k_758 (by decide +kernel) ⟨Nat.le_of_ble_eq_true rfl, Nat.le_of_ble_eq_true rfl⟩ (rfl) hl.1 rfl (Nat.le_of_ble_eq_true rfl) dX6_expression_77 (fun r9 u H locs hw hP hD hS => ?_)
            obtain ⟨hG10, hw⟩ := hw
            rcases hw with ⟨g11⟩ | ⟨g11⟩
            · skip
              subst g11
              refine lv_if_eq (tgt := 131) hx hb dX6_expression_80 (by decide) (fun c0 => absurd c0 (by decide)) (fun _ => ?_)
              refine lv_aload_n hx hb dX6_expression_83 rfl (lv_at hl 2 rfl) ?_
              refine va_get (D := (dC, dI)) (ci := 6) (v := .ref (x 0)) (C := RX6) (T := TX6) (N := 7) hx hb hts inB_6 hown hE.1 hP 3 rfl rfl 0 (by decide) (hts _ k_265) (fun _ h9 => h9) rfl dX6_expression_84 ?_
              refine va_getN (D := (dC, dI)) (ci := 9) (v := .int (v7 2)) (C := RX9) (T := TX9) (N := 6) hx hb hts inB_9 hown hE.1 hP 1 rfl rfl 2 (by decide) (va_Nw.use rfl (hE.2 _ k_139)) (fun _ h9 => h9) rfl dX6_expression_87 ?_
              refine lv_istore (lv' := [(5, .int (v7 2)), (4, .int l4_7), (3, .int 1), (0, .ref (x 2)), (1, .int 2), (2, .int 5)]) hx hb dX6_expression_90 hl (by decide) rfl (fun ls hl => ?_)
              refine lv_aload_n hx hb dX6_expression_92 rfl (lv_at hl 3 rfl) ?_
              refine va_get (D := (dC, dI)) (ci := 6) (v := .ref (x 0)) (C := RX6) (T := TX6) (N := 7) hx hb hts inB_6 hown hE.1 hP 3 rfl rfl 0 (by decide) (hts _ k_265) (fun _ h9 => h9) rfl dX6_expression_93 ?_
              refine csVv (n := 0) (rest := []) hx hb hml hown hts hE hP hD hS hA hF hT (sX_X9_advance_1 NF l dC dI cy x0 x  v7 f7 hIv7 ) k_699 k_559 k_560 k_102 k_561 (by decide +kernel) ⟨Nat.le_of_ble_eq_true rfl, Nat.le_of_ble_eq_true rfl⟩ 1 9 rfl rfl (rfl) hl.1 rfl (Nat.le_of_ble_eq_true rfl) dX6_expression_96 (fun u H locs hw hP hD hS => ?_)
              obtain ⟨hG12, hw⟩ := hw
              obtain ⟨v13, f14⟩ := u
              obtain ⟨kV_v13, kF_f14, hIv13, hk0_v13, hk1_v13, hk7_v13, hk8_v13, hk9_v13, hk10_v13, hk31_v13, hk32_v13⟩ := hw
              have hM_v13 : KV [2, 3, 4, 5, 7, 8, 16, 17] v13 v := KV.tr kV_v13 hM_v7 rfl
              have hA_f14 : KF [3, 4] f14 f := KF.tr kF_f14 hA_f7 rfl
              have hP : va_P (dC, dI) vwCl (XW cy x0 x v13 f14) H := hP
              have hD : va_D A (XW cy x0 x v13 f14) := hD
              have hq0_v13 : v13 0 = (v 0) := hk0_v13.trans hq0_v7
              have hq1_v13 : v13 1 = (v 1) := hk1_v13.trans hq1_v7
              have hq7_v13 : v13 7 = (v7 7) := hk7_v13
              have hq8_v13 : v13 8 = (v7 8) := hk8_v13
              have hq9_v13 : v13 9 = (v 9) := hk9_v13.trans hq9_v7
              have hq10_v13 : v13 10 = (v 10) := hk10_v13.trans hq10_v7
              have hq31_v13 : v13 31 = (v 31) := hk31_v13.trans hq31_v7
              have hq32_v13 : v13 32 = (v 32) := hk32_v13.trans hq32_v7
              refine lv_aload_n hx hb dX6_expression_99 rfl (lv_at hl 3 rfl) ?_
              refine lv_iload_n hx hb dX6_expression_100 rfl (lv_at hl 4 rfl) ?_
              refine lv_iconst (v := 1) hx hb dX6_expression_101 (by decide) ?_
              refine lv_iadd hx hb dX6_expression_102 ?_
              refine tI (y := 3) (by decide) ?_
              refine lv_iload_n hx hb dX6_expression_103 rfl (lv_at hl 5 rfl) ?_
              refine csVi (n := 2) (rest := []) hx hb hml hown hts hE hP hD hS hA hF hT (sX_X6_expression_34 NF l dC dI cy x0 x  v13 f14 hIv13 ) k_740 k_742 k_15 k_103 k_743 (by decide +kernel) ⟨Nat.le_of_ble_eq_true rfl, Nat.le_of_ble_eq_true rfl⟩ 3 6 rfl rfl (rfl) hl.1 rfl (Nat.le_of_ble_eq_true rfl) dX6_expression_104 (fun r15 u H locs hw hP hD hS => ?_)
              obtain ⟨hG16, hw⟩ := hw
              obtain ⟨v17, f18⟩ := u
              obtain ⟨kV_v17, kF_f18, hIv17, hk0_v17, hk1_v17, hk9_v17, hk10_v17, hk31_v17, hk32_v17, hw⟩ := hw
              have hM_v17 : KV [2, 3, 4, 5, 7, 8, 16, 17] v17 v := KV.tr kV_v17 hM_v13 rfl
              have hA_f18 : KF [3, 4] f18 f := KF.tr kF_f18 hA_f14 rfl
              have hP : va_P (dC, dI) vwCl (XW cy x0 x v17 f18) H := hP
              have hD : va_D A (XW cy x0 x v17 f18) := hD
              have hq0_v17 : v17 0 = (v 0) := hk0_v17.trans hq0_v13
              have hq1_v17 : v17 1 = (v 1) := hk1_v17.trans hq1_v13
              have hq9_v17 : v17 9 = (v 9) := hk9_v17.trans hq9_v13
              have hq10_v17 : v17 10 = (v 10) := hk10_v17.trans hq10_v13
              have hq31_v17 : v17 31 = (v 31) := hk31_v17.trans hq31_v13
              have hq32_v17 : v17 32 = (v 32) := hk32_v17.trans hq32_v13
              rcases hw with ⟨g19⟩ | ⟨g19⟩
              · skip
                subst g19
                refine lv_if_ne (tgt := 112) hx hb dX6_expression_107 (by decide) (fun _ => ?_) (fun c0 => absurd c0 (by decide))
                refine lv_aload_n hx hb dX6_expression_112 rfl (lv_at hl 3 rfl) ?_
                refine va_get (D := (dC, dI)) (ci := 6) (v := .ref (x 3)) (C := RX6) (T := TX6) (N := 7) hx hb hts inB_6 hown hE.1 hP 3 rfl rfl 1 (by decide) (hts _ k_266) (fun _ h9 => h9) rfl dX6_expression_113 ?_
                refine va_getN (D := (dC, dI)) (ci := 7) (v := .ref (x 6)) (C := RX7) (T := TX7) (N := 10) hx hb hts inB_7 hown hE.1 hP 4 rfl rfl 2 (by decide) (va_Nw.use rfl (hE.2 _ k_210)) (fun _ h9 => h9) rfl dX6_expression_116 ?_
                refine lv_iload hx hb dX6_expression_119 (lv_at hl 0 rfl) ?_
                refine lv_iconst (v := 0) hx hb dX6_expression_121 (by decide) ?_
                refine cbVv (n := 2) (rest := []) hx hb hml hown hts hE hP hD hS hA (sX_X4_add_1 NF l dC dI cy x0 x (v7 2) 0 v17 f18 hIv17 ) k_748 k_749 k_750 k_105 k_751 (by decide +kernel) ⟨Nat.le_of_ble_eq_true rfl, Nat.le_of_ble_eq_true rfl⟩ 7 4 rfl rfl (rfl) hl.1 rfl (Nat.le_of_ble_eq_true rfl) dX6_expression_122 (fun u H locs hw hP hD hS => ?_)
                obtain ⟨hG20, hw⟩ := hw
                obtain ⟨v21, f22⟩ := u
                obtain ⟨kV_v21, kF_f22, hIv21, hk0_v21, hk1_v21, hk7_v21, hk8_v21, hk9_v21, hk10_v21, hk31_v21, hk32_v21⟩ := hw
                have hM_v21 : KV [2, 3, 4, 5, 7, 8, 16, 17] v21 v := KV.tr kV_v21 hM_v17 rfl
                have hA_f22 : KF [3, 4] f22 f := KF.tr kF_f22 hA_f18 rfl
                have hP : va_P (dC, dI) vwCl (XW cy x0 x v21 f22) H := hP
                have hD : va_D A (XW cy x0 x v21 f22) := hD
                have hq0_v21 : v21 0 = (v 0) := hk0_v21.trans hq0_v17
                have hq1_v21 : v21 1 = (v 1) := hk1_v21.trans hq1_v17
                have hq7_v21 : v21 7 = (v17 7) := hk7_v21
                have hq8_v21 : v21 8 = (v17 8) := hk8_v21
                have hq9_v21 : v21 9 = (v 9) := hk9_v21.trans hq9_v17
                have hq10_v21 : v21 10 = (v 10) := hk10_v21.trans hq10_v17
                have hq31_v21 : v21 31 = (v 31) := hk31_v21.trans hq31_v17
                have hq32_v21 : v21 32 = (v 32) := hk32_v21.trans hq32_v17
                obtain ⟨t23, et23⟩ : ∃ y : Int32, y = l4_7 + 1 := ⟨_, rfl⟩
                have rg24 := fb_rng l4_7
                have zt23 : t23.toInt = l4_7.toInt + 1 := by rw [et23]; exact add_i rfl (by decide) (by omega) (by omega)
                refine lv_iinc (v := t23) (lv' := [(4, .int t23), (5, .int (v7 2)), (3, .int 1), (0, .ref (x 2)), (1, .int 2), (2, .int 5)]) hx hb dX6_expression_125 hl (k := 1) rfl (by rw [et23]; rfl) (by decide) rfl (fun ls hl => ?_)
                refine lv_goto (tgt := 63) hx hb dX6_expression_128 (by decide) ?_
                have rg25 := fb_rng t23
                exact ih7 t23 v21 f22 hIv21 hq0_v21 hq1_v21 hq9_v21 hq10_v21 hq31_v21 hq32_v21 ((gsX_X6_expression_33_q1 c8 hG10 hG12 hG16 hG20 et23).symm.trans hT7) ⟨show (0 : Int) ≤ t23.toInt by omega, show t23.toInt ≤ (2147483647 : Int) by omega⟩ hM_v21 hA_f22 (by show (2147483647 - t23.toInt).toNat < n7; omega) _ _ _ hP hD hS (lv_sub hl [0, 2, 3, 4, 5] rfl)
              · skip
                subst g19
                refine lv_if_ne (tgt := 112) hx hb dX6_expression_107 (by decide) (fun c0 => absurd (by decide) c0) (fun _ => ?_)
                refine lv_iconst (v := 0) hx hb dX6_expression_110 (by decide) ?_
                exact ret 0 (v17, f18) _ _ _ _ _ _ rfl ⟨(hT7.symm.trans (gsX_X6_expression_33_q2 c8 hG10 hG12 hG16)), hM_v17, hA_f18, hIv17, (hk0_v17.trans (hk0_v13.trans hq0_v7)), (hk1_v17.trans (hk1_v13.trans hq1_v7)), (hk9_v17.trans (hk9_v13.trans hq9_v7)), (hk10_v17.trans (hk10_v13.trans hq10_v7)), (hk31_v17.trans (hk31_v13.trans hq31_v7)), (hk32_v17.trans (hk32_v13.trans hq32_v7)), (Or.inr rfl)⟩ hP hD hS dX6_expression_111 (Nat.le_refl _) (Nat.le_refl _)
            · skip
              subst g11
              refine lv_if_eq (tgt := 131) hx hb dX6_expression_80 (by decide) (fun _ => ?_) (fun c0 => absurd (by decide) c0)
              refine lv_iconst (v := 1) hx hb dX6_expression_131 (by decide) ?_
              exact ret 1 (v7, f7) _ _ _ _ _ _ rfl ⟨(hT7.symm.trans (gsX_X6_expression_33_q3 c8 hG10)), hM_v7, hA_f7, hIv7, hq0_v7, hq1_v7, hq9_v7, hq10_v7, hq31_v7, hq32_v7, (Or.inl rfl)⟩ hP hD hS dX6_expression_132 (Nat.le_refl _) (Nat.le_refl _)
      exact lp7 (4294967296 + NF) 0 v4 f5 hIv4 hq0_v4 hq1_v4 hq9_v4 hq10_v4 hq31_v4 hq32_v4 (gsX_X6_expression_33_q4 c1 hG3).symm ⟨by decide, by decide⟩ hM_v4 hA_f5 (by have q4 : (0 : Int32).toInt = 0 := (by decide); have q3 : (1 : Int32).toInt = 1 := (by decide); have q1 : (2 : Int32).toInt = 2 := (by decide); have q2 : (5 : Int32).toInt = 5 := (by decide); show (2147483647 - (0 : Int32).toInt).toNat < 4294967296 + NF; omega) _ _ _ hP hD hS (lv_sub hl [0, 1, 2, 3, 4] rfl)
    · skip
      subst g6
      refine lv_if_ne (tgt := 47) hx hb dX6_expression_42 (by decide) (fun c0 => absurd (by decide) c0) (fun _ => ?_)
      refine lv_iconst (v := 0) hx hb dX6_expression_45 (by decide) ?_
      exact ret 0 (v4, f5) _ _ _ _ _ _ rfl ⟨(gsX_X6_expression_33_q5 c1 hG3), hM_v4, hA_f5, hIv4, hk0_v4, hk1_v4, hk9_v4, hk10_v4, hk31_v4, hk32_v4, (Or.inr rfl)⟩ hP hD hS dX6_expression_46 (Nat.le_refl _) (Nat.le_refl _)
  · skip
    have zc1 : (v 2).toInt = 115 := by rw [fa_eq, show (115 : Int32).toInt = 115 from by decide] at c1; exact c1
    refine lv_aload_n hx hb dX6_expression_28 rfl (lv_at hl 0 rfl) ?_
    refine lv_iload_n hx hb dX6_expression_29 rfl (lv_at hl 2 rfl) ?_
    refine csVi (n := 1) (rest := []) hx hb hml hown hts hE hP hD hS hA hF hT (sX_X6_negation_3 NF l dC dI cy x0 x  v f hIv ) k_752 k_754 k_17 k_103 k_755 (by decide +kernel) ⟨Nat.le_of_ble_eq_true rfl, Nat.le_of_ble_eq_true rfl⟩ 3 6 rfl rfl (rfl) hl.1 rfl (Nat.le_of_ble_eq_true rfl) dX6_expression_30 (fun r26 u H locs hw hP hD hS => ?_)
    obtain ⟨hG27, hw⟩ := hw
    obtain ⟨v28, f29⟩ := u
    obtain ⟨kV_v28, kF_f29, hIv28, hk0_v28, hk1_v28, hk9_v28, hk10_v28, hk31_v28, hk32_v28, hw⟩ := hw
    have hM_v28 : KV [2, 3, 4, 5, 7, 8, 16, 17] v28 v := KV.tr kV_v28 hM_v rfl
    have hA_f29 : KF [3, 4] f29 f := KF.tr kF_f29 hA_f rfl
    have hP : va_P (dC, dI) vwCl (XW cy x0 x v28 f29) H := hP
    have hD : va_D A (XW cy x0 x v28 f29) := hD
    have hq0_v28 : v28 0 = (v 0) := hk0_v28
    have hq1_v28 : v28 1 = (v 1) := hk1_v28
    have hq9_v28 : v28 9 = (v 9) := hk9_v28
    have hq10_v28 : v28 10 = (v 10) := hk10_v28
    have hq31_v28 : v28 31 = (v 31) := hk31_v28
    have hq32_v28 : v28 32 = (v 32) := hk32_v28
    rcases hw with ⟨g30⟩ | ⟨g30⟩
    · skip
      subst g30
      exact ret 1 (v28, f29) _ _ _ _ _ _ rfl ⟨(gsX_X6_expression_33_q6 c1 hG27), hM_v28, hA_f29, hIv28, hk0_v28, hk1_v28, hk9_v28, hk10_v28, hk31_v28, hk32_v28, (Or.inl rfl)⟩ hP hD hS dX6_expression_33 (Nat.le_refl _) (Nat.le_refl _)
    · skip
      subst g30
      exact ret 0 (v28, f29) _ _ _ _ _ _ rfl ⟨(gsX_X6_expression_33_q7 c1 hG27), hM_v28, hA_f29, hIv28, hk0_v28, hk1_v28, hk9_v28, hk10_v28, hk31_v28, hk32_v28, (Or.inr rfl)⟩ hP hD hS dX6_expression_33 (Nat.le_refl _) (Nat.le_refl _)
set_option maxHeartbeats 4000000 in
set_option maxRecDepth 100000 in
theorem sX_X6_expression_32 (NF : Nat) (l : Launch) (dC : Nat → ClassId) (dI : Nat → Nat → Nat) (cy : Nat → ClassId) (x0 : Nat) (x : Nat → Nat)  (v : Nat → Int32) (f : Nat → Nat → Int32) (hIv : XI v)  : ctIS l (dC, dI) cy yX6_expression cX6_expression 6 .boolean 26 660 0 0 ((Nat → Int32) × (Nat → Nat → Int32)) [.ref (x 2), .int 1, .int 5] (XW cy x0 x v f) (fun r u => gsX_X6_expression_32 NF v f = (r, u) ∧ KV [2, 3, 4, 5, 7, 8, 16, 17] u.1 v ∧ KF [3, 4] u.2 f ∧ XI u.1 ∧ u.1 0 = v 0 ∧ u.1 1 = v 1 ∧ u.1 9 = v 9 ∧ u.1 10 = v 10 ∧ u.1 31 = v 31 ∧ u.1 32 = v 32 ∧ ((r = 1) ∨ (r = 0))) (fun u => XW cy x0 x u.1 u.2) := by
  refine ctIS_of (by decide) (Nat.le_of_ble_eq_true rfl) (fun p e s m below meth c A ls Q hx hb hml hts hown hE hF hT hP hD hA hl ret => ?_)
  have hM_v : KV [2, 3, 4, 5, 7, 8, 16, 17] v v := fun _ _ => rfl
  have hA_f : KF [3, 4] f f := fun _ _ => rfl
  have hown : s.vm.findClass RX6 = some m.cls := hown
  have hS : va_S A s.heap s.heap [] := va_S.rf
  have hl : lv_has ls 6 [(0, .ref (x 2)), (1, .int 1), (2, .int 5)] := hl
  refine lv_iload_n hx hb dX6_expression_0 rfl (lv_at hl 1 rfl) ?_
  refine lv_iconst (v := 5) hx hb dX6_expression_1 (by decide) ?_
  refine lv_icmp_lt (tgt := 11) hx hb dX6_expression_2 (by decide) (fun _ => ?_) (fun c0 => absurd (by decide) c0)
  refine lv_iload_n hx hb dX6_expression_11 rfl (lv_at hl 1 rfl) ?_
  refine lv_iconst (v := 2) hx hb dX6_expression_12 (by decide) ?_
  refine lv_icmp_ne (tgt := 34) hx hb dX6_expression_13 (by decide) (fun _ => ?_) (fun c0 => absurd c0 (by decide))
  refine lv_aload_n hx hb dX6_expression_34 rfl (lv_at hl 0 rfl) ?_
  refine lv_iload_n hx hb dX6_expression_35 rfl (lv_at hl 1 rfl) ?_
  refine lv_iconst (v := 1) hx hb dX6_expression_36 (by decide) ?_
  refine lv_iadd hx hb dX6_expression_37 ?_
  refine tI (y := 2) (by decide) ?_
  refine lv_iload_n hx hb dX6_expression_38 rfl (lv_at hl 2 rfl) ?_
  refine csVi (n := 2) (rest := []) hx hb hml hown hts hE hP hD hS hA hF hT (sX_X6_expression_33 NF l dC dI cy x0 x  v f hIv ) k_740 k_742 k_15 k_103 k_743 (by decide +kernel) ⟨Nat.le_of_ble_eq_true rfl, Nat.le_of_ble_eq_true rfl⟩ 3 6 rfl rfl (rfl) hl.1 rfl (Nat.le_of_ble_eq_true rfl) dX6_expression_39 (fun r1 u H locs hw hP hD hS => ?_)
  obtain ⟨hG2, hw⟩ := hw
  obtain ⟨v3, f4⟩ := u
  obtain ⟨kV_v3, kF_f4, hIv3, hk0_v3, hk1_v3, hk9_v3, hk10_v3, hk31_v3, hk32_v3, hw⟩ := hw
  have hM_v3 : KV [2, 3, 4, 5, 7, 8, 16, 17] v3 v := KV.tr kV_v3 hM_v rfl
  have hA_f4 : KF [3, 4] f4 f := KF.tr kF_f4 hA_f rfl
  have hP : va_P (dC, dI) vwCl (XW cy x0 x v3 f4) H := hP
  have hD : va_D A (XW cy x0 x v3 f4) := hD
  have hq0_v3 : v3 0 = (v 0) := hk0_v3
  have hq1_v3 : v3 1 = (v 1) := hk1_v3
  have hq9_v3 : v3 9 = (v 9) := hk9_v3
  have hq10_v3 : v3 10 = (v 10) := hk10_v3
  have hq31_v3 : v3 31 = (v 31) := hk31_v3
  have hq32_v3 : v3 32 = (v 32) := hk32_v3
  rcases hw with ⟨g5⟩ | ⟨g5⟩
  · skip
    subst g5
    refine lv_if_ne (tgt := 47) hx hb dX6_expression_42 (by decide) (fun _ => ?_) (fun c0 => absurd c0 (by decide))
    refine lv_iload_n hx hb dX6_expression_47 rfl (lv_at hl 1 rfl) ?_
    refine lv_iconst (v := 2) hx hb dX6_expression_48 (by decide) ?_
    refine lv_icmp_ne (tgt := 56) hx hb dX6_expression_49 (by decide) (fun _ => ?_) (fun c0 => absurd c0 (by decide))
    refine lv_sipush (v := 1600) hx hb dX6_expression_56 (by decide) ?_
    refine lv_istore_n (lv' := [(3, .int 1600), (0, .ref (x 2)), (1, .int 1), (2, .int 5)]) hx hb dX6_expression_59 rfl hl (by decide) rfl (fun ls hl => ?_)
    refine lv_iconst (v := 0) hx hb dX6_expression_60 (by decide) ?_
    refine lv_istore (lv' := [(4, .int 0), (3, .int 1600), (0, .ref (x 2)), (1, .int 1), (2, .int 5)]) hx hb dX6_expression_61 hl (by decide) rfl (fun ls hl => ?_)
    have lp6 : ∀ (n6 : Nat) (l4_6 : Int32) (v6 : Nat → Int32) (f6 : Nat → Nat → Int32), XI v6 → v6 0 = (v 0) → v6 1 = (v 1) → v6 9 = (v 9) → v6 10 = (v 10) → v6 31 = (v 31) → v6 32 = (v 32) → gsX_X6_expression_32_L6 NF n6 l4_6 v6 f6 = (gsX_X6_expression_32 NF v f) → ((0 : Int) ≤ l4_6.toInt ∧ l4_6.toInt ≤ 2147483647) → KV [2, 3, 4, 5, 7, 8, 16, 17] v6 v → KF [3, 4] f6 f → (2147483647 - l4_6.toInt).toNat < n6 → ∀ (H : Heap) (locs : List Loc) (ls : Array Slot), va_P (dC, dI) vwCl (XW cy x0 x v6 f6) H → va_D A (XW cy x0 x v6 f6) → va_S A s.heap H locs → lv_has ls 6 [(4, .int l4_6), (3, .int 1600), (0, .ref (x 2)), (1, .int 1), (2, .int 5)] → W p l e { frames := 26, cells := 0, slots := 0, locals := 660 } s m ([.ref (x 2), .int 1, .int 5] : List Value).toArray below meth c H locs 0 0 Q (F0 m 63 ls []) := by
      intro n6
      induction n6 with
      | zero => intro l4_6 v6 f6 hIv6 hq0_v6 hq1_v6 hq9_v6 hq10_v6 hq31_v6 hq32_v6 hT6 hr4_6 hM_v6 hA_f6 hm; exact absurd hm (Nat.not_lt_zero _)
      | succ n6 ih6 =>
        intro l4_6 v6 f6 hIv6 hq0_v6 hq1_v6 hq9_v6 hq10_v6 hq31_v6 hq32_v6 hT6 hr4_6 hM_v6 hA_f6 hm6 H locs ls hP hD hS hl
        refine lv_iload hx hb dX6_expression_63 (lv_at hl 0 rfl) ?_
        refine lv_iload_n hx hb dX6_expression_65 rfl (lv_at hl 1 rfl) ?_
        refine lv_icmp_ge (tgt := 131) hx hb dX6_expression_66 (by decide) (fun c7 => ?_) (fun c7 => ?_)
        · skip
          have zc7 : 1600 ≤ l4_6.toInt := by rw [fa_le, show (1600 : Int32).toInt = 1600 from by decide] at c7; exact c7
          refine lv_iconst (v := 1) hx hb dX6_expression_131 (by decide) ?_
          exact ret 1 (v6, f6) _ _ _ _ _ _ rfl ⟨(hT6.symm.trans (gsX_X6_expression_32_q0 c7)), hM_v6, hA_f6, hIv6, hq0_v6, hq1_v6, hq9_v6, hq10_v6, hq31_v6, hq32_v6, (Or.inl rfl)⟩ hP hD hS dX6_expression_132 (Nat.le_refl _) (Nat.le_refl _)
        · skip
          have zc7 : ¬ (1600 ≤ l4_6.toInt) := by rw [fa_le, show (1600 : Int32).toInt = 1600 from by decide] at c7; exact c7
          refine lv_iload_n hx hb dX6_expression_69 rfl (lv_at hl 3 rfl) ?_
          refine lv_aload_n hx hb dX6_expression_70 rfl (lv_at hl 2 rfl) ?_
          refine va_get (D := (dC, dI)) (ci := 6) (v := .ref (x 0)) (C := RX6) (T := TX6) (N := 7) hx hb hts inB_6 hown hE.1 hP 3 rfl rfl 0 (by decide) (hts _ k_265) (fun _ h9 => h9) rfl dX6_expression_71 ?_
          refine va_getN (D := (dC, dI)) (ci := 9) (v := .int (v6 2)) (C := RX9) (T := TX9) (N := 6) hx hb hts inB_9 hown hE.1 hP 1 rfl rfl 2 (by decide) (va_Nw.use rfl (hE.2 _ k_139)) (fun _ h9 => h9) rfl dX6_expression_74 ?_
          refine cbSi (n := 2) (rest := []) hx hb hml hown hts hE hP hD hS hA (sX_X6_joins_1 NF l dC dI cy x0 x 1 (v6 2) v6 f6 hIv6 ) k_756 k_757 k_103 k_758 (by decide +kernel) ⟨Nat.le_of_ble_eq_true rfl, Nat.le_of_ble_eq_true rfl⟩ (rfl) hl.1 rfl (Nat.le_of_ble_eq_true rfl) dX6_expression_77 (fun r8 u H locs hw hP hD hS => ?_)
          obtain ⟨hG9, hw⟩ := hw
          rcases hw with ⟨g10⟩ | ⟨g10⟩
          · skip
            subst g10
            refine lv_if_eq (tgt := 131) hx hb dX6_expression_80 (by decide) (fun c0 => absurd c0 (by decide)) (fun _ => ?_)
            refine lv_aload_n hx hb dX6_expression_83 rfl (lv_at hl 2 rfl) ?_
            refine va_get (D := (dC, dI)) (ci := 6) (v := .ref (x 0)) (C := RX6) (T := TX6) (N := 7) hx hb hts inB_6 hown hE.1 hP 3 rfl rfl 0 (by decide) (hts _ k_265) (fun _ h9 => h9) rfl dX6_expression_84 ?_
            refine va_getN (D := (dC, dI)) (ci := 9) (v := .int (v6 2)) (C := RX9) (T := TX9) (N := 6) hx hb hts inB_9 hown hE.1 hP 1 rfl rfl 2 (by decide) (va_Nw.use rfl (hE.2 _ k_139)) (fun _ h9 => h9) rfl dX6_expression_87 ?_
            refine lv_istore (lv' := [(5, .int (v6 2)), (4, .int l4_6), (3, .int 1600), (0, .ref (x 2)), (1, .int 1), (2, .int 5)]) hx hb dX6_expression_90 hl (by decide) rfl (fun ls hl => ?_)
            refine lv_aload_n hx hb dX6_expression_92 rfl (lv_at hl 3 rfl) ?_
            refine va_get (D := (dC, dI)) (ci := 6) (v := .ref (x 0)) (C := RX6) (T := TX6) (N := 7) hx hb hts inB_6 hown hE.1 hP 3 rfl rfl 0 (by decide) (hts _ k_265) (fun _ h9 => h9) rfl dX6_expression_93 ?_
            refine csVv (n := 0) (rest := []) hx hb hml hown hts hE hP hD hS hA hF hT (sX_X9_advance_1 NF l dC dI cy x0 x  v6 f6 hIv6 ) k_699 k_559 k_560 k_102 k_561 (by decide +kernel) ⟨Nat.le_of_ble_eq_true rfl, Nat.le_of_ble_eq_true rfl⟩ 1 9 rfl rfl (rfl) hl.1 rfl (Nat.le_of_ble_eq_true rfl) dX6_expression_96 (fun u H locs hw hP hD hS => ?_)
            obtain ⟨hG11, hw⟩ := hw
            obtain ⟨v12, f13⟩ := u
            obtain ⟨kV_v12, kF_f13, hIv12, hk0_v12, hk1_v12, hk7_v12, hk8_v12, hk9_v12, hk10_v12, hk31_v12, hk32_v12⟩ := hw
            have hM_v12 : KV [2, 3, 4, 5, 7, 8, 16, 17] v12 v := KV.tr kV_v12 hM_v6 rfl
            have hA_f13 : KF [3, 4] f13 f := KF.tr kF_f13 hA_f6 rfl
            have hP : va_P (dC, dI) vwCl (XW cy x0 x v12 f13) H := hP
            have hD : va_D A (XW cy x0 x v12 f13) := hD
            have hq0_v12 : v12 0 = (v 0) := hk0_v12.trans hq0_v6
            have hq1_v12 : v12 1 = (v 1) := hk1_v12.trans hq1_v6
            have hq7_v12 : v12 7 = (v6 7) := hk7_v12
            have hq8_v12 : v12 8 = (v6 8) := hk8_v12
            have hq9_v12 : v12 9 = (v 9) := hk9_v12.trans hq9_v6
            have hq10_v12 : v12 10 = (v 10) := hk10_v12.trans hq10_v6
            have hq31_v12 : v12 31 = (v 31) := hk31_v12.trans hq31_v6
            have hq32_v12 : v12 32 = (v 32) := hk32_v12.trans hq32_v6
            refine lv_aload_n hx hb dX6_expression_99 rfl (lv_at hl 3 rfl) ?_
            refine lv_iload_n hx hb dX6_expression_100 rfl (lv_at hl 4 rfl) ?_
            refine lv_iconst (v := 1) hx hb dX6_expression_101 (by decide) ?_
            refine lv_iadd hx hb dX6_expression_102 ?_
            refine tI (y := 2) (by decide) ?_
            refine lv_iload_n hx hb dX6_expression_103 rfl (lv_at hl 5 rfl) ?_
            refine csVi (n := 2) (rest := []) hx hb hml hown hts hE hP hD hS hA hF hT (sX_X6_expression_33 NF l dC dI cy x0 x  v12 f13 hIv12 ) k_740 k_742 k_15 k_103 k_743 (by decide +kernel) ⟨Nat.le_of_ble_eq_true rfl, Nat.le_of_ble_eq_true rfl⟩ 3 6 rfl rfl (rfl) hl.1 rfl (Nat.le_of_ble_eq_true rfl) dX6_expression_104 (fun r14 u H locs hw hP hD hS => ?_)
            obtain ⟨hG15, hw⟩ := hw
            obtain ⟨v16, f17⟩ := u
            obtain ⟨kV_v16, kF_f17, hIv16, hk0_v16, hk1_v16, hk9_v16, hk10_v16, hk31_v16, hk32_v16, hw⟩ := hw
            have hM_v16 : KV [2, 3, 4, 5, 7, 8, 16, 17] v16 v := KV.tr kV_v16 hM_v12 rfl
            have hA_f17 : KF [3, 4] f17 f := KF.tr kF_f17 hA_f13 rfl
            have hP : va_P (dC, dI) vwCl (XW cy x0 x v16 f17) H := hP
            have hD : va_D A (XW cy x0 x v16 f17) := hD
            have hq0_v16 : v16 0 = (v 0) := hk0_v16.trans hq0_v12
            have hq1_v16 : v16 1 = (v 1) := hk1_v16.trans hq1_v12
            have hq9_v16 : v16 9 = (v 9) := hk9_v16.trans hq9_v12
            have hq10_v16 : v16 10 = (v 10) := hk10_v16.trans hq10_v12
            have hq31_v16 : v16 31 = (v 31) := hk31_v16.trans hq31_v12
            have hq32_v16 : v16 32 = (v 32) := hk32_v16.trans hq32_v12
            rcases hw with ⟨g18⟩ | ⟨g18⟩
            · skip
              subst g18
              refine lv_if_ne (tgt := 112) hx hb dX6_expression_107 (by decide) (fun _ => ?_) (fun c0 => absurd c0 (by decide))
              refine lv_aload_n hx hb dX6_expression_112 rfl (lv_at hl 3 rfl) ?_
              refine va_get (D := (dC, dI)) (ci := 6) (v := .ref (x 3)) (C := RX6) (T := TX6) (N := 7) hx hb hts inB_6 hown hE.1 hP 3 rfl rfl 1 (by decide) (hts _ k_266) (fun _ h9 => h9) rfl dX6_expression_113 ?_
              refine va_getN (D := (dC, dI)) (ci := 7) (v := .ref (x 6)) (C := RX7) (T := TX7) (N := 10) hx hb hts inB_7 hown hE.1 hP 4 rfl rfl 2 (by decide) (va_Nw.use rfl (hE.2 _ k_210)) (fun _ h9 => h9) rfl dX6_expression_116 ?_
              refine lv_iload hx hb dX6_expression_119 (lv_at hl 0 rfl) ?_
              refine lv_iconst (v := 0) hx hb dX6_expression_121 (by decide) ?_
              refine cbVv (n := 2) (rest := []) hx hb hml hown hts hE hP hD hS hA (sX_X4_add_1 NF l dC dI cy x0 x (v6 2) 0 v16 f17 hIv16 ) k_748 k_749 k_750 k_105 k_751 (by decide +kernel) ⟨Nat.le_of_ble_eq_true rfl, Nat.le_of_ble_eq_true rfl⟩ 7 4 rfl rfl (rfl) hl.1 rfl (Nat.le_of_ble_eq_true rfl) dX6_expression_122 (fun u H locs hw hP hD hS => ?_)
              obtain ⟨hG19, hw⟩ := hw
              obtain ⟨v20, f21⟩ := u
              obtain ⟨kV_v20, kF_f21, hIv20, hk0_v20, hk1_v20, hk7_v20, hk8_v20, hk9_v20, hk10_v20, hk31_v20, hk32_v20⟩ := hw
              have hM_v20 : KV [2, 3, 4, 5, 7, 8, 16, 17] v20 v := KV.tr kV_v20 hM_v16 rfl
              have hA_f21 : KF [3, 4] f21 f := KF.tr kF_f21 hA_f17 rfl
              have hP : va_P (dC, dI) vwCl (XW cy x0 x v20 f21) H := hP
              have hD : va_D A (XW cy x0 x v20 f21) := hD
              have hq0_v20 : v20 0 = (v 0) := hk0_v20.trans hq0_v16
              have hq1_v20 : v20 1 = (v 1) := hk1_v20.trans hq1_v16
              have hq7_v20 : v20 7 = (v16 7) := hk7_v20
              have hq8_v20 : v20 8 = (v16 8) := hk8_v20
              have hq9_v20 : v20 9 = (v 9) := hk9_v20.trans hq9_v16
              have hq10_v20 : v20 10 = (v 10) := hk10_v20.trans hq10_v16
              have hq31_v20 : v20 31 = (v 31) := hk31_v20.trans hq31_v16
              have hq32_v20 : v20 32 = (v 32) := hk32_v20.trans hq32_v16
              obtain ⟨t22, et22⟩ : ∃ y : Int32, y = l4_6 + 1 := ⟨_, rfl⟩
              have rg23 := fb_rng l4_6
              have zt22 : t22.toInt = l4_6.toInt + 1 := by rw [et22]; exact add_i rfl (by decide) (by omega) (by omega)
              refine lv_iinc (v := t22) (lv' := [(4, .int t22), (5, .int (v6 2)), (3, .int 1600), (0, .ref (x 2)), (1, .int 1), (2, .int 5)]) hx hb dX6_expression_125 hl (k := 1) rfl (by rw [et22]; rfl) (by decide) rfl (fun ls hl => ?_)
              refine lv_goto (tgt := 63) hx hb dX6_expression_128 (by decide) ?_
              have rg24 := fb_rng t22
              exact ih6 t22 v20 f21 hIv20 hq0_v20 hq1_v20 hq9_v20 hq10_v20 hq31_v20 hq32_v20 ((gsX_X6_expression_32_q1 c7 hG9 hG11 hG15 hG19 et22).symm.trans hT6) ⟨show (0 : Int) ≤ t22.toInt by omega, show t22.toInt ≤ (2147483647 : Int) by omega⟩ hM_v20 hA_f21 (by show (2147483647 - t22.toInt).toNat < n6; omega) _ _ _ hP hD hS (lv_sub hl [0, 2, 3, 4, 5] rfl)
            · skip
              subst g18
              refine lv_if_ne (tgt := 112) hx hb dX6_expression_107 (by decide) (fun c0 => absurd (by decide) c0) (fun _ => ?_)
              refine lv_iconst (v := 0) hx hb dX6_expression_110 (by decide) ?_
              exact ret 0 (v16, f17) _ _ _ _ _ _ rfl ⟨(hT6.symm.trans (gsX_X6_expression_32_q2 c7 hG9 hG11 hG15)), hM_v16, hA_f17, hIv16, (hk0_v16.trans (hk0_v12.trans hq0_v6)), (hk1_v16.trans (hk1_v12.trans hq1_v6)), (hk9_v16.trans (hk9_v12.trans hq9_v6)), (hk10_v16.trans (hk10_v12.trans hq10_v6)), (hk31_v16.trans (hk31_v12.trans hq31_v6)), (hk32_v16.trans (hk32_v12.trans hq32_v6)), (Or.inr rfl)⟩ hP hD hS dX6_expression_111 (Nat.le_refl _) (Nat.le_refl _)
          · skip
            subst g10
            refine lv_if_eq (tgt := 131) hx hb dX6_expression_80 (by decide) (fun _ => ?_) (fun c0 => absurd (by decide) c0)
            refine lv_iconst (v := 1) hx hb dX6_expression_131 (by decide) ?_
            exact ret 1 (v6, f6) _ _ _ _ _ _ rfl ⟨(hT6.symm.trans (gsX_X6_expression_32_q3 c7 hG9)), hM_v6, hA_f6, hIv6, hq0_v6, hq1_v6, hq9_v6, hq10_v6, hq31_v6, hq32_v6, (Or.inl rfl)⟩ hP hD hS dX6_expression_132 (Nat.le_refl _) (Nat.le_refl _)
    exact lp6 (4294967296 + NF) 0 v3 f4 hIv3 hq0_v3 hq1_v3 hq9_v3 hq10_v3 hq31_v3 hq32_v3 (gsX_X6_expression_32_q4 hG2).symm ⟨by decide, by decide⟩ hM_v3 hA_f4 (by have q4 : (0 : Int32).toInt = 0 := (by decide); have q3 : (1600 : Int32).toInt = 1600 := (by decide); have q1 : (1 : Int32).toInt = 1 := (by decide); have q2 : (5 : Int32).toInt = 5 := (by decide); show (2147483647 - (0 : Int32).toInt).toNat < 4294967296 + NF; omega) _ _ _ hP hD hS (lv_sub hl [0, 1, 2, 3, 4] rfl)
  · skip
    subst g5
    refine lv_if_ne (tgt := 47) hx hb dX6_expression_42 (by decide) (fun c0 => absurd (by decide) c0) (fun _ => ?_)
    refine lv_iconst (v := 0) hx hb dX6_expression_45 (by decide) ?_
    exact ret 0 (v3, f4) _ _ _ _ _ _ rfl ⟨(gsX_X6_expression_32_q5 hG2), hM_v3, hA_f4, hIv3, hk0_v3, hk1_v3, hk9_v3, hk10_v3, hk31_v3, hk32_v3, (Or.inr rfl)⟩ hP hD hS dX6_expression_46 (Nat.le_refl _) (Nat.le_refl _)
set_option maxHeartbeats 4000000 in
set_option maxRecDepth 100000 in
theorem sX_X6_expression_31 (NF : Nat) (l : Launch) (dC : Nat → ClassId) (dI : Nat → Nat → Nat) (cy : Nat → ClassId) (x0 : Nat) (x : Nat → Nat)  (v : Nat → Int32) (f : Nat → Nat → Int32) (hIv : XI v)  : ctIS l (dC, dI) cy yX6_expression cX6_expression 6 .boolean 27 685 0 0 ((Nat → Int32) × (Nat → Nat → Int32)) [.ref (x 2), .int 0, .int 5] (XW cy x0 x v f) (fun r u => gsX_X6_expression_31 NF v f = (r, u) ∧ KV [2, 3, 4, 5, 7, 8, 16, 17] u.1 v ∧ KF [3, 4] u.2 f ∧ XI u.1 ∧ u.1 0 = v 0 ∧ u.1 1 = v 1 ∧ u.1 9 = v 9 ∧ u.1 10 = v 10 ∧ u.1 31 = v 31 ∧ u.1 32 = v 32 ∧ ((r = 1) ∨ (r = 0))) (fun u => XW cy x0 x u.1 u.2) := by
  refine ctIS_of (by decide) (Nat.le_of_ble_eq_true rfl) (fun p e s m below meth c A ls Q hx hb hml hts hown hE hF hT hP hD hA hl ret => ?_)
  have hM_v : KV [2, 3, 4, 5, 7, 8, 16, 17] v v := fun _ _ => rfl
  have hA_f : KF [3, 4] f f := fun _ _ => rfl
  have hown : s.vm.findClass RX6 = some m.cls := hown
  have hS : va_S A s.heap s.heap [] := va_S.rf
  have hl : lv_has ls 6 [(0, .ref (x 2)), (1, .int 0), (2, .int 5)] := hl
  refine lv_iload_n hx hb dX6_expression_0 rfl (lv_at hl 1 rfl) ?_
  refine lv_iconst (v := 5) hx hb dX6_expression_1 (by decide) ?_
  refine lv_icmp_lt (tgt := 11) hx hb dX6_expression_2 (by decide) (fun _ => ?_) (fun c0 => absurd (by decide) c0)
  refine lv_iload_n hx hb dX6_expression_11 rfl (lv_at hl 1 rfl) ?_
  refine lv_iconst (v := 2) hx hb dX6_expression_12 (by decide) ?_
  refine lv_icmp_ne (tgt := 34) hx hb dX6_expression_13 (by decide) (fun _ => ?_) (fun c0 => absurd c0 (by decide))
  refine lv_aload_n hx hb dX6_expression_34 rfl (lv_at hl 0 rfl) ?_
  refine lv_iload_n hx hb dX6_expression_35 rfl (lv_at hl 1 rfl) ?_
  refine lv_iconst (v := 1) hx hb dX6_expression_36 (by decide) ?_
  refine lv_iadd hx hb dX6_expression_37 ?_
  refine tI (y := 1) (by decide) ?_
  refine lv_iload_n hx hb dX6_expression_38 rfl (lv_at hl 2 rfl) ?_
  refine csVi (n := 2) (rest := []) hx hb hml hown hts hE hP hD hS hA hF hT (sX_X6_expression_32 NF l dC dI cy x0 x  v f hIv ) k_740 k_742 k_15 k_103 k_743 (by decide +kernel) ⟨Nat.le_of_ble_eq_true rfl, Nat.le_of_ble_eq_true rfl⟩ 3 6 rfl rfl (rfl) hl.1 rfl (Nat.le_of_ble_eq_true rfl) dX6_expression_39 (fun r1 u H locs hw hP hD hS => ?_)
  obtain ⟨hG2, hw⟩ := hw
  obtain ⟨v3, f4⟩ := u
  obtain ⟨kV_v3, kF_f4, hIv3, hk0_v3, hk1_v3, hk9_v3, hk10_v3, hk31_v3, hk32_v3, hw⟩ := hw
  have hM_v3 : KV [2, 3, 4, 5, 7, 8, 16, 17] v3 v := KV.tr kV_v3 hM_v rfl
  have hA_f4 : KF [3, 4] f4 f := KF.tr kF_f4 hA_f rfl
  have hP : va_P (dC, dI) vwCl (XW cy x0 x v3 f4) H := hP
  have hD : va_D A (XW cy x0 x v3 f4) := hD
  have hq0_v3 : v3 0 = (v 0) := hk0_v3
  have hq1_v3 : v3 1 = (v 1) := hk1_v3
  have hq9_v3 : v3 9 = (v 9) := hk9_v3
  have hq10_v3 : v3 10 = (v 10) := hk10_v3
  have hq31_v3 : v3 31 = (v 31) := hk31_v3
  have hq32_v3 : v3 32 = (v 32) := hk32_v3
  rcases hw with ⟨g5⟩ | ⟨g5⟩
  · skip
    subst g5
    refine lv_if_ne (tgt := 47) hx hb dX6_expression_42 (by decide) (fun _ => ?_) (fun c0 => absurd c0 (by decide))
    refine lv_iload_n hx hb dX6_expression_47 rfl (lv_at hl 1 rfl) ?_
    refine lv_iconst (v := 2) hx hb dX6_expression_48 (by decide) ?_
    refine lv_icmp_ne (tgt := 56) hx hb dX6_expression_49 (by decide) (fun _ => ?_) (fun c0 => absurd c0 (by decide))
    refine lv_sipush (v := 1600) hx hb dX6_expression_56 (by decide) ?_
    refine lv_istore_n (lv' := [(3, .int 1600), (0, .ref (x 2)), (1, .int 0), (2, .int 5)]) hx hb dX6_expression_59 rfl hl (by decide) rfl (fun ls hl => ?_)
    refine lv_iconst (v := 0) hx hb dX6_expression_60 (by decide) ?_
    refine lv_istore (lv' := [(4, .int 0), (3, .int 1600), (0, .ref (x 2)), (1, .int 0), (2, .int 5)]) hx hb dX6_expression_61 hl (by decide) rfl (fun ls hl => ?_)
    have lp6 : ∀ (n6 : Nat) (l4_6 : Int32) (v6 : Nat → Int32) (f6 : Nat → Nat → Int32), XI v6 → v6 0 = (v 0) → v6 1 = (v 1) → v6 9 = (v 9) → v6 10 = (v 10) → v6 31 = (v 31) → v6 32 = (v 32) → gsX_X6_expression_31_L6 NF n6 l4_6 v6 f6 = (gsX_X6_expression_31 NF v f) → ((0 : Int) ≤ l4_6.toInt ∧ l4_6.toInt ≤ 2147483647) → KV [2, 3, 4, 5, 7, 8, 16, 17] v6 v → KF [3, 4] f6 f → (2147483647 - l4_6.toInt).toNat < n6 → ∀ (H : Heap) (locs : List Loc) (ls : Array Slot), va_P (dC, dI) vwCl (XW cy x0 x v6 f6) H → va_D A (XW cy x0 x v6 f6) → va_S A s.heap H locs → lv_has ls 6 [(4, .int l4_6), (3, .int 1600), (0, .ref (x 2)), (1, .int 0), (2, .int 5)] → W p l e { frames := 27, cells := 0, slots := 0, locals := 685 } s m ([.ref (x 2), .int 0, .int 5] : List Value).toArray below meth c H locs 0 0 Q (F0 m 63 ls []) := by
      intro n6
      induction n6 with
      | zero => intro l4_6 v6 f6 hIv6 hq0_v6 hq1_v6 hq9_v6 hq10_v6 hq31_v6 hq32_v6 hT6 hr4_6 hM_v6 hA_f6 hm; exact absurd hm (Nat.not_lt_zero _)
      | succ n6 ih6 =>
        intro l4_6 v6 f6 hIv6 hq0_v6 hq1_v6 hq9_v6 hq10_v6 hq31_v6 hq32_v6 hT6 hr4_6 hM_v6 hA_f6 hm6 H locs ls hP hD hS hl
        refine lv_iload hx hb dX6_expression_63 (lv_at hl 0 rfl) ?_
        refine lv_iload_n hx hb dX6_expression_65 rfl (lv_at hl 1 rfl) ?_
        refine lv_icmp_ge (tgt := 131) hx hb dX6_expression_66 (by decide) (fun c7 => ?_) (fun c7 => ?_)
        · skip
          have zc7 : 1600 ≤ l4_6.toInt := by rw [fa_le, show (1600 : Int32).toInt = 1600 from by decide] at c7; exact c7
          refine lv_iconst (v := 1) hx hb dX6_expression_131 (by decide) ?_
          exact ret 1 (v6, f6) _ _ _ _ _ _ rfl ⟨(hT6.symm.trans (gsX_X6_expression_31_q0 c7)), hM_v6, hA_f6, hIv6, hq0_v6, hq1_v6, hq9_v6, hq10_v6, hq31_v6, hq32_v6, (Or.inl rfl)⟩ hP hD hS dX6_expression_132 (Nat.le_refl _) (Nat.le_refl _)
        · skip
          have zc7 : ¬ (1600 ≤ l4_6.toInt) := by rw [fa_le, show (1600 : Int32).toInt = 1600 from by decide] at c7; exact c7
          refine lv_iload_n hx hb dX6_expression_69 rfl (lv_at hl 3 rfl) ?_
          refine lv_aload_n hx hb dX6_expression_70 rfl (lv_at hl 2 rfl) ?_
          refine va_get (D := (dC, dI)) (ci := 6) (v := .ref (x 0)) (C := RX6) (T := TX6) (N := 7) hx hb hts inB_6 hown hE.1 hP 3 rfl rfl 0 (by decide) (hts _ k_265) (fun _ h9 => h9) rfl dX6_expression_71 ?_
          refine va_getN (D := (dC, dI)) (ci := 9) (v := .int (v6 2)) (C := RX9) (T := TX9) (N := 6) hx hb hts inB_9 hown hE.1 hP 1 rfl rfl 2 (by decide) (va_Nw.use rfl (hE.2 _ k_139)) (fun _ h9 => h9) rfl dX6_expression_74 ?_
          refine cbSi (n := 2) (rest := []) hx hb hml hown hts hE hP hD hS hA (sX_X6_joins_1 NF l dC dI cy x0 x 0 (v6 2) v6 f6 hIv6 ) k_756 k_757 k_103 k_758 (by decide +kernel) ⟨Nat.le_of_ble_eq_true rfl, Nat.le_of_ble_eq_true rfl⟩ (rfl) hl.1 rfl (Nat.le_of_ble_eq_true rfl) dX6_expression_77 (fun r8 u H locs hw hP hD hS => ?_)
          obtain ⟨hG9, hw⟩ := hw
          rcases hw with ⟨g10⟩ | ⟨g10⟩
          · skip
            subst g10
            refine lv_if_eq (tgt := 131) hx hb dX6_expression_80 (by decide) (fun c0 => absurd c0 (by decide)) (fun _ => ?_)
            refine lv_aload_n hx hb dX6_expression_83 rfl (lv_at hl 2 rfl) ?_
            refine va_get (D := (dC, dI)) (ci := 6) (v := .ref (x 0)) (C := RX6) (T := TX6) (N := 7) hx hb hts inB_6 hown hE.1 hP 3 rfl rfl 0 (by decide) (hts _ k_265) (fun _ h9 => h9) rfl dX6_expression_84 ?_
            refine va_getN (D := (dC, dI)) (ci := 9) (v := .int (v6 2)) (C := RX9) (T := TX9) (N := 6) hx hb hts inB_9 hown hE.1 hP 1 rfl rfl 2 (by decide) (va_Nw.use rfl (hE.2 _ k_139)) (fun _ h9 => h9) rfl dX6_expression_87 ?_
            refine lv_istore (lv' := [(5, .int (v6 2)), (4, .int l4_6), (3, .int 1600), (0, .ref (x 2)), (1, .int 0), (2, .int 5)]) hx hb dX6_expression_90 hl (by decide) rfl (fun ls hl => ?_)
            refine lv_aload_n hx hb dX6_expression_92 rfl (lv_at hl 3 rfl) ?_
            refine va_get (D := (dC, dI)) (ci := 6) (v := .ref (x 0)) (C := RX6) (T := TX6) (N := 7) hx hb hts inB_6 hown hE.1 hP 3 rfl rfl 0 (by decide) (hts _ k_265) (fun _ h9 => h9) rfl dX6_expression_93 ?_
            refine csVv (n := 0) (rest := []) hx hb hml hown hts hE hP hD hS hA hF hT (sX_X9_advance_1 NF l dC dI cy x0 x  v6 f6 hIv6 ) k_699 k_559 k_560 k_102 k_561 (by decide +kernel) ⟨Nat.le_of_ble_eq_true rfl, Nat.le_of_ble_eq_true rfl⟩ 1 9 rfl rfl (rfl) hl.1 rfl (Nat.le_of_ble_eq_true rfl) dX6_expression_96 (fun u H locs hw hP hD hS => ?_)
            obtain ⟨hG11, hw⟩ := hw
            obtain ⟨v12, f13⟩ := u
            obtain ⟨kV_v12, kF_f13, hIv12, hk0_v12, hk1_v12, hk7_v12, hk8_v12, hk9_v12, hk10_v12, hk31_v12, hk32_v12⟩ := hw
            have hM_v12 : KV [2, 3, 4, 5, 7, 8, 16, 17] v12 v := KV.tr kV_v12 hM_v6 rfl
            have hA_f13 : KF [3, 4] f13 f := KF.tr kF_f13 hA_f6 rfl
            have hP : va_P (dC, dI) vwCl (XW cy x0 x v12 f13) H := hP
            have hD : va_D A (XW cy x0 x v12 f13) := hD
            have hq0_v12 : v12 0 = (v 0) := hk0_v12.trans hq0_v6
            have hq1_v12 : v12 1 = (v 1) := hk1_v12.trans hq1_v6
            have hq7_v12 : v12 7 = (v6 7) := hk7_v12
            have hq8_v12 : v12 8 = (v6 8) := hk8_v12
            have hq9_v12 : v12 9 = (v 9) := hk9_v12.trans hq9_v6
            have hq10_v12 : v12 10 = (v 10) := hk10_v12.trans hq10_v6
            have hq31_v12 : v12 31 = (v 31) := hk31_v12.trans hq31_v6
            have hq32_v12 : v12 32 = (v 32) := hk32_v12.trans hq32_v6
            refine lv_aload_n hx hb dX6_expression_99 rfl (lv_at hl 3 rfl) ?_
            refine lv_iload_n hx hb dX6_expression_100 rfl (lv_at hl 4 rfl) ?_
            refine lv_iconst (v := 1) hx hb dX6_expression_101 (by decide) ?_
            refine lv_iadd hx hb dX6_expression_102 ?_
            refine tI (y := 1) (by decide) ?_
            refine lv_iload_n hx hb dX6_expression_103 rfl (lv_at hl 5 rfl) ?_
            refine csVi (n := 2) (rest := []) hx hb hml hown hts hE hP hD hS hA hF hT (sX_X6_expression_32 NF l dC dI cy x0 x  v12 f13 hIv12 ) k_740 k_742 k_15 k_103 k_743 (by decide +kernel) ⟨Nat.le_of_ble_eq_true rfl, Nat.le_of_ble_eq_true rfl⟩ 3 6 rfl rfl (rfl) hl.1 rfl (Nat.le_of_ble_eq_true rfl) dX6_expression_104 (fun r14 u H locs hw hP hD hS => ?_)
            obtain ⟨hG15, hw⟩ := hw
            obtain ⟨v16, f17⟩ := u
            obtain ⟨kV_v16, kF_f17, hIv16, hk0_v16, hk1_v16, hk9_v16, hk10_v16, hk31_v16, hk32_v16, hw⟩ := hw
            have hM_v16 : KV [2, 3, 4, 5, 7, 8, 16, 17] v16 v := KV.tr kV_v16 hM_v12 rfl
            have hA_f17 : KF [3, 4] f17 f := KF.tr kF_f17 hA_f13 rfl
            have hP : va_P (dC, dI) vwCl (XW cy x0 x v16 f17) H := hP
            have hD : va_D A (XW cy x0 x v16 f17) := hD
            have hq0_v16 : v16 0 = (v 0) := hk0_v16.trans hq0_v12
            have hq1_v16 : v16 1 = (v 1) := hk1_v16.trans hq1_v12
            have hq9_v16 : v16 9 = (v 9) := hk9_v16.trans hq9_v12
            have hq10_v16 : v16 10 = (v 10) := hk10_v16.trans hq10_v12
            have hq31_v16 : v16 31 = (v 31) := hk31_v16.trans hq31_v12
            have hq32_v16 : v16 32 = (v 32) := hk32_v16.trans hq32_v12
            rcases hw with ⟨g18⟩ | ⟨g18⟩
            · skip
              subst g18
              refine lv_if_ne (tgt := 112) hx hb dX6_expression_107 (by decide) (fun _ => ?_) (fun c0 => absurd c0 (by decide))
              refine lv_aload_n hx hb dX6_expression_112 rfl (lv_at hl 3 rfl) ?_
              refine va_get (D := (dC, dI)) (ci := 6) (v := .ref (x 3)) (C := RX6) (T := TX6) (N := 7) hx hb hts inB_6 hown hE.1 hP 3 rfl rfl 1 (by decide) (hts _ k_266) (fun _ h9 => h9) rfl dX6_expression_113 ?_
              refine va_getN (D := (dC, dI)) (ci := 7) (v := .ref (x 6)) (C := RX7) (T := TX7) (N := 10) hx hb hts inB_7 hown hE.1 hP 4 rfl rfl 2 (by decide) (va_Nw.use rfl (hE.2 _ k_210)) (fun _ h9 => h9) rfl dX6_expression_116 ?_
              refine lv_iload hx hb dX6_expression_119 (lv_at hl 0 rfl) ?_
              refine lv_iconst (v := 0) hx hb dX6_expression_121 (by decide) ?_
              refine cbVv (n := 2) (rest := []) hx hb hml hown hts hE hP hD hS hA (sX_X4_add_1 NF l dC dI cy x0 x (v6 2) 0 v16 f17 hIv16 ) k_748 k_749 k_750 k_105 k_751 (by decide +kernel) ⟨Nat.le_of_ble_eq_true rfl, Nat.le_of_ble_eq_true rfl⟩ 7 4 rfl rfl (rfl) hl.1 rfl (Nat.le_of_ble_eq_true rfl) dX6_expression_122 (fun u H locs hw hP hD hS => ?_)
              obtain ⟨hG19, hw⟩ := hw
              obtain ⟨v20, f21⟩ := u
              obtain ⟨kV_v20, kF_f21, hIv20, hk0_v20, hk1_v20, hk7_v20, hk8_v20, hk9_v20, hk10_v20, hk31_v20, hk32_v20⟩ := hw
              have hM_v20 : KV [2, 3, 4, 5, 7, 8, 16, 17] v20 v := KV.tr kV_v20 hM_v16 rfl
              have hA_f21 : KF [3, 4] f21 f := KF.tr kF_f21 hA_f17 rfl
              have hP : va_P (dC, dI) vwCl (XW cy x0 x v20 f21) H := hP
              have hD : va_D A (XW cy x0 x v20 f21) := hD
              have hq0_v20 : v20 0 = (v 0) := hk0_v20.trans hq0_v16
              have hq1_v20 : v20 1 = (v 1) := hk1_v20.trans hq1_v16
              have hq7_v20 : v20 7 = (v16 7) := hk7_v20
              have hq8_v20 : v20 8 = (v16 8) := hk8_v20
              have hq9_v20 : v20 9 = (v 9) := hk9_v20.trans hq9_v16
              have hq10_v20 : v20 10 = (v 10) := hk10_v20.trans hq10_v16
              have hq31_v20 : v20 31 = (v 31) := hk31_v20.trans hq31_v16
              have hq32_v20 : v20 32 = (v 32) := hk32_v20.trans hq32_v16
              obtain ⟨t22, et22⟩ : ∃ y : Int32, y = l4_6 + 1 := ⟨_, rfl⟩
              have rg23 := fb_rng l4_6
              have zt22 : t22.toInt = l4_6.toInt + 1 := by rw [et22]; exact add_i rfl (by decide) (by omega) (by omega)
              refine lv_iinc (v := t22) (lv' := [(4, .int t22), (5, .int (v6 2)), (3, .int 1600), (0, .ref (x 2)), (1, .int 0), (2, .int 5)]) hx hb dX6_expression_125 hl (k := 1) rfl (by rw [et22]; rfl) (by decide) rfl (fun ls hl => ?_)
              refine lv_goto (tgt := 63) hx hb dX6_expression_128 (by decide) ?_
              have rg24 := fb_rng t22
              exact ih6 t22 v20 f21 hIv20 hq0_v20 hq1_v20 hq9_v20 hq10_v20 hq31_v20 hq32_v20 ((gsX_X6_expression_31_q1 c7 hG9 hG11 hG15 hG19 et22).symm.trans hT6) ⟨show (0 : Int) ≤ t22.toInt by omega, show t22.toInt ≤ (2147483647 : Int) by omega⟩ hM_v20 hA_f21 (by show (2147483647 - t22.toInt).toNat < n6; omega) _ _ _ hP hD hS (lv_sub hl [0, 2, 3, 4, 5] rfl)
            · skip
              subst g18
              refine lv_if_ne (tgt := 112) hx hb dX6_expression_107 (by decide) (fun c0 => absurd (by decide) c0) (fun _ => ?_)
              refine lv_iconst (v := 0) hx hb dX6_expression_110 (by decide) ?_
              exact ret 0 (v16, f17) _ _ _ _ _ _ rfl ⟨(hT6.symm.trans (gsX_X6_expression_31_q2 c7 hG9 hG11 hG15)), hM_v16, hA_f17, hIv16, (hk0_v16.trans (hk0_v12.trans hq0_v6)), (hk1_v16.trans (hk1_v12.trans hq1_v6)), (hk9_v16.trans (hk9_v12.trans hq9_v6)), (hk10_v16.trans (hk10_v12.trans hq10_v6)), (hk31_v16.trans (hk31_v12.trans hq31_v6)), (hk32_v16.trans (hk32_v12.trans hq32_v6)), (Or.inr rfl)⟩ hP hD hS dX6_expression_111 (Nat.le_refl _) (Nat.le_refl _)
          · skip
            subst g10
            refine lv_if_eq (tgt := 131) hx hb dX6_expression_80 (by decide) (fun _ => ?_) (fun c0 => absurd (by decide) c0)
            refine lv_iconst (v := 1) hx hb dX6_expression_131 (by decide) ?_
            exact ret 1 (v6, f6) _ _ _ _ _ _ rfl ⟨(hT6.symm.trans (gsX_X6_expression_31_q3 c7 hG9)), hM_v6, hA_f6, hIv6, hq0_v6, hq1_v6, hq9_v6, hq10_v6, hq31_v6, hq32_v6, (Or.inl rfl)⟩ hP hD hS dX6_expression_132 (Nat.le_refl _) (Nat.le_refl _)
    exact lp6 (4294967296 + NF) 0 v3 f4 hIv3 hq0_v3 hq1_v3 hq9_v3 hq10_v3 hq31_v3 hq32_v3 (gsX_X6_expression_31_q4 hG2).symm ⟨by decide, by decide⟩ hM_v3 hA_f4 (by have q4 : (0 : Int32).toInt = 0 := (by decide); have q3 : (1600 : Int32).toInt = 1600 := (by decide); have q1 : (0 : Int32).toInt = 0 := (by decide); have q2 : (5 : Int32).toInt = 5 := (by decide); show (2147483647 - (0 : Int32).toInt).toNat < 4294967296 + NF; omega) _ _ _ hP hD hS (lv_sub hl [0, 1, 2, 3, 4] rfl)
  · skip
    subst g5
    refine lv_if_ne (tgt := 47) hx hb dX6_expression_42 (by decide) (fun c0 => absurd (by decide) c0) (fun _ => ?_)
    refine lv_iconst (v := 0) hx hb dX6_expression_45 (by decide) ?_
    exact ret 0 (v3, f4) _ _ _ _ _ _ rfl ⟨(gsX_X6_expression_31_q5 hG2), hM_v3, hA_f4, hIv3, hk0_v3, hk1_v3, hk9_v3, hk10_v3, hk31_v3, hk32_v3, (Or.inr rfl)⟩ hP hD hS dX6_expression_46 (Nat.le_refl _) (Nat.le_refl _)
