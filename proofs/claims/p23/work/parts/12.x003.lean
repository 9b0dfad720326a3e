set_option maxHeartbeats 4000000 in
set_option maxRecDepth 100000 in
theorem sX_X6_expression_12 (NF : Nat) (l : Launch) (dC : Nat → ClassId) (dI : Nat → Nat → Nat) (cy : Nat → ClassId) (x0 : Nat) (x : Nat → Nat)  (v : Nat → Int32) (f : Nat → Nat → Int32) (hIv : XI v)  : ctIS l (dC, dI) cy yX6_expression cX6_expression 6 .boolean 50 1252 0 0 ((Nat → Int32) × (Nat → Nat → Int32)) [.ref (x 2), .int 5, .int 1] (XW cy x0 x v f) (fun r u => gsX_X6_expression_12 NF v f = (r, u) ∧ KV [2, 3, 4, 5, 7, 8, 16, 17] u.1 v ∧ KF [3, 4] u.2 f ∧ XI u.1 ∧ u.1 0 = v 0 ∧ u.1 1 = v 1 ∧ u.1 9 = v 9 ∧ u.1 10 = v 10 ∧ u.1 31 = v 31 ∧ u.1 32 = v 32 ∧ ((r = 1) ∨ (r = 0))) (fun u => XW cy x0 x u.1 u.2) := by
  refine ctIS_of (by decide) (Nat.le_of_ble_eq_true rfl) (fun p e s m below meth c A ls Q hx hb hml hts hown hE hF hT hP hD hA hl ret => ?_)
  have hM_v : KV [2, 3, 4, 5, 7, 8, 16, 17] v v := fun _ _ => rfl
  have hA_f : KF [3, 4] f f := fun _ _ => rfl
  have hown : s.vm.findClass RX6 = some m.cls := hown
  have hS : va_S A s.heap s.heap [] := va_S.rf
  have hl : lv_has ls 6 [(0, .ref (x 2)), (1, .int 5), (2, .int 1)] := hl
  refine lv_iload_n hx hb dX6_expression_0 rfl (lv_at hl 1 rfl) ?_
  refine lv_iconst (v := 5) hx hb dX6_expression_1 rfl ?_
  refine lv_icmp_lt (tgt := 11) hx hb dX6_expression_2 rfl (fun c0 => absurd c0 (by decide)) (fun _ => ?_)
  refine lv_aload_n hx hb dX6_expression_5 rfl (lv_at hl 0 rfl) ?_
  refine lv_iload_n hx hb dX6_expression_6 rfl (lv_at hl 2 rfl) ?_
  refine csVi (n := 1) (rest := []) hx hb hml hown hts hE hP hD hS hA hF hT (sX_X6_unit_2 NF l dC dI cy x0 x  v f hIv ) k_744 k_746 k_16 k_103 k_747 hd_yX6_unit ⟨Nat.le_of_ble_eq_true rfl, Nat.le_of_ble_eq_true rfl⟩ 3 6 rfl rfl (rfl) hl.1 rfl (Nat.le_of_ble_eq_true rfl) dX6_expression_7 (fun r1 u H locs hw hP hD hS => ?_)
  obtain ⟨hG2, hw⟩ := hw
  obtain ⟨v3, f4⟩ := u
  obtain ⟨kV_v3, kF_f4, hIv3, hk0_v3, hk1_v3, hk9_v3, hk10_v3, hk31_v3, hk32_v3, hw⟩ := hw
  have hM_v3 : KV [2, 3, 4, 5, 7, 8, 16, 17] v3 v := KV.tr kV_v3 hM_v rfl
  have hA_f4 : KF [3, 4] f4 f := KF.tr kF_f4 hA_f rfl
  have hP : va_P (dC, dI) vwCl (XW cy x0 x v3 f4) H := hP
  have hD : va_D A (XW cy x0 x v3 f4) := hD
  have hq0_v3 : v3 0 = (v 0) := hk0_v3
  have hq1_v3 : v3 1 = (v 1) := hk1_v3
  have hq9_v3 : v3 9 = (v 9) := hk9_v3
  have hq10_v3 : v3 10 = (v 10) := hk10_v3
  have hq31_v3 : v3 31 = (v 31) := hk31_v3
  have hq32_v3 : v3 32 = (v 32) := hk32_v3
  rcases hw with ⟨g5⟩ | ⟨g5⟩
  · skip
    subst g5
    exact ret 1 (v3, f4) _ _ _ _ _ _ rfl ⟨(gsX_X6_expression_12_q0 hG2), hM_v3, hA_f4, hIv3, hk0_v3, hk1_v3, hk9_v3, hk10_v3, hk31_v3, hk32_v3, (Or.inl rfl)⟩ hP hD hS dX6_expression_10 (Nat.le_refl _) (Nat.le_refl _)
  · skip
    subst g5
    exact ret 0 (v3, f4) _ _ _ _ _ _ rfl ⟨(gsX_X6_expression_12_q1 hG2), hM_v3, hA_f4, hIv3, hk0_v3, hk1_v3, hk9_v3, hk10_v3, hk31_v3, hk32_v3, (Or.inr rfl)⟩ hP hD hS dX6_expression_10 (Nat.le_refl _) (Nat.le_refl _)
set_option maxHeartbeats 4000000 in
set_option maxRecDepth 100000 in
theorem sX_X6_expression_11 (NF : Nat) (l : Launch) (dC : Nat → ClassId) (dI : Nat → Nat → Nat) (cy : Nat → ClassId) (x0 : Nat) (x : Nat → Nat)  (v : Nat → Int32) (f : Nat → Nat → Int32) (hIv : XI v)  : ctIS l (dC, dI) cy yX6_expression cX6_expression 6 .boolean 51 1277 0 0 ((Nat → Int32) × (Nat → Nat → Int32)) [.ref (x 2), .int 4, .int 1] (XW cy x0 x v f) (fun r u => gsX_X6_expression_11 NF v f = (r, u) ∧ KV [2, 3, 4, 5, 7, 8, 16, 17] u.1 v ∧ KF [3, 4] u.2 f ∧ XI u.1 ∧ u.1 0 = v 0 ∧ u.1 1 = v 1 ∧ u.1 9 = v 9 ∧ u.1 10 = v 10 ∧ u.1 31 = v 31 ∧ u.1 32 = v 32 ∧ ((r = 1) ∨ (r = 0))) (fun u => XW cy x0 x u.1 u.2) := by
  refine ctIS_of (by decide) (Nat.le_of_ble_eq_true rfl) (fun p e s m below meth c A ls Q hx hb hml hts hown hE hF hT hP hD hA hl ret => ?_)
  have hM_v : KV [2, 3, 4, 5, 7, 8, 16, 17] v v := fun _ _ => rfl
  have hA_f : KF [3, 4] f f := fun _ _ => rfl
  have hown : s.vm.findClass RX6 = some m.cls := hown
  have hS : va_S A s.heap s.heap [] := va_S.rf
  have hl : lv_has ls 6 [(0, .ref (x 2)), (1, .int 4), (2, .int 1)] := hl
  refine lv_iload_n hx hb dX6_expression_0 rfl (lv_at hl 1 rfl) ?_
  refine lv_iconst (v := 5) hx hb dX6_expression_1 rfl ?_
  refine lv_icmp_lt (tgt := 11) hx hb dX6_expression_2 rfl (fun _ => ?_) (fun c0 => absurd (by decide) c0)
  refine lv_iload_n hx hb dX6_expression_11 rfl (lv_at hl 1 rfl) ?_
  refine lv_iconst (v := 2) hx hb dX6_expression_12 rfl ?_
  refine lv_icmp_ne (tgt := 34) hx hb dX6_expression_13 rfl (fun _ => ?_) (fun c0 => absurd c0 (by decide))
  refine lv_aload_n hx hb dX6_expression_34 rfl (lv_at hl 0 rfl) ?_
  refine lv_iload_n hx hb dX6_expression_35 rfl (lv_at hl 1 rfl) ?_
  refine lv_iconst (v := 1) hx hb dX6_expression_36 rfl ?_
  refine lv_iadd hx hb dX6_expression_37 ?_
  refine tI (y := 5) (by decide) ?_
  refine lv_iload_n hx hb dX6_expression_38 rfl (lv_at hl 2 rfl) ?_
  refine csVi (n := 2) (rest := []) hx hb hml hown hts hE hP hD hS hA hF hT (sX_X6_expression_12 NF l dC dI cy x0 x  v f hIv ) k_740 k_742 k_15 k_103 k_743 hd_yX6_expression ⟨Nat.le_of_ble_eq_true rfl, Nat.le_of_ble_eq_true rfl⟩ 3 6 rfl rfl (rfl) hl.1 rfl (Nat.le_of_ble_eq_true rfl) dX6_expression_39 (fun r1 u H locs hw hP hD hS => ?_)
  obtain ⟨hG2, hw⟩ := hw
  obtain ⟨v3, f4⟩ := u
  obtain ⟨kV_v3, kF_f4, hIv3, hk0_v3, hk1_v3, hk9_v3, hk10_v3, hk31_v3, hk32_v3, hw⟩ := hw
  have hM_v3 : KV [2, 3, 4, 5, 7, 8, 16, 17] v3 v := KV.tr kV_v3 hM_v rfl
  have hA_f4 : KF [3, 4] f4 f := KF.tr kF_f4 hA_f rfl
  have hP : va_P (dC, dI) vwCl (XW cy x0 x v3 f4) H := hP
  have hD : va_D A (XW cy x0 x v3 f4) := hD
  have hq0_v3 : v3 0 = (v 0) := hk0_v3
  have hq1_v3 : v3 1 = (v 1) := hk1_v3
  have hq9_v3 : v3 9 = (v 9) := hk9_v3
  have hq10_v3 : v3 10 = (v 10) := hk10_v3
  have hq31_v3 : v3 31 = (v 31) := hk31_v3
  have hq32_v3 : v3 32 = (v 32) := hk32_v3
  rcases hw with ⟨g5⟩ | ⟨g5⟩
  · skip
    subst g5
    refine lv_if_ne (tgt := 47) hx hb dX6_expression_42 rfl (fun _ => ?_) (fun c0 => absurd c0 (by decide))
    refine lv_iload_n hx hb dX6_expression_47 rfl (lv_at hl 1 rfl) ?_
    refine lv_iconst (v := 2) hx hb dX6_expression_48 rfl ?_
    refine lv_icmp_ne (tgt := 56) hx hb dX6_expression_49 rfl (fun _ => ?_) (fun c0 => absurd c0 (by decide))
    refine lv_sipush (v := 1600) hx hb dX6_expression_56 rfl ?_
    refine lv_istore_n (lv' := [(3, .int 1600), (0, .ref (x 2)), (1, .int 4), (2, .int 1)]) hx hb dX6_expression_59 rfl hl (Nat.le_of_ble_eq_true rfl) rfl (fun ls hl => ?_)
    refine lv_iconst (v := 0) hx hb dX6_expression_60 rfl ?_
    refine lv_istore (lv' := [(4, .int 0), (3, .int 1600), (0, .ref (x 2)), (1, .int 4), (2, .int 1)]) hx hb dX6_expression_61 hl (Nat.le_of_ble_eq_true rfl) rfl (fun ls hl => ?_)
    have lp6 : ∀ (n6 : Nat) (l4_6 : Int32) (v6 : Nat → Int32) (f6 : Nat → Nat → Int32), XI v6 → v6 0 = (v 0) → v6 1 = (v 1) → v6 9 = (v 9) → v6 10 = (v 10) → v6 31 = (v 31) → v6 32 = (v 32) → gsX_X6_expression_11_L6 NF n6 l4_6 v6 f6 = (gsX_X6_expression_11 NF v f) → ((0 : Int) ≤ l4_6.toInt ∧ l4_6.toInt ≤ 2147483647) → KV [2, 3, 4, 5, 7, 8, 16, 17] v6 v → KF [3, 4] f6 f → (2147483647 - l4_6.toInt).toNat < n6 → ∀ (H : Heap) (locs : List Loc) (ls : Array Slot), va_P (dC, dI) vwCl (XW cy x0 x v6 f6) H → va_D A (XW cy x0 x v6 f6) → va_S A s.heap H locs → lv_has ls 6 [(4, .int l4_6), (3, .int 1600), (0, .ref (x 2)), (1, .int 4), (2, .int 1)] → W p l e { frames := 51, cells := 0, slots := 0, locals := 1277 } s m ([.ref (x 2), .int 4, .int 1] : List Value).toArray below meth c H locs 0 0 Q (F0 m 63 ls []) := by
      intro n6
      induction n6 with
      | zero => intro l4_6 v6 f6 hIv6 hq0_v6 hq1_v6 hq9_v6 hq10_v6 hq31_v6 hq32_v6 hT6 hr4_6 hM_v6 hA_f6 hm; exact absurd hm (Nat.not_lt_zero _)
      | succ n6 ih6 =>
        intro l4_6 v6 f6 hIv6 hq0_v6 hq1_v6 hq9_v6 hq10_v6 hq31_v6 hq32_v6 hT6 hr4_6 hM_v6 hA_f6 hm6 H locs ls hP hD hS hl
        refine lv_iload hx hb dX6_expression_63 (lv_at hl 0 rfl) ?_
        refine lv_iload_n hx hb dX6_expression_65 rfl (lv_at hl 1 rfl) ?_
        refine lv_icmp_ge (tgt := 131) hx hb dX6_expression_66 rfl (fun c7 => ?_) (fun c7 => ?_)
        · skip
          refine lv_iconst (v := 1) hx hb dX6_expression_131 rfl ?_
          exact ret 1 (v6, f6) _ _ _ _ _ _ rfl ⟨(hT6.symm.trans (gsX_X6_expression_11_q0 c7)), hM_v6, hA_f6, hIv6, hq0_v6, hq1_v6, hq9_v6, hq10_v6, hq31_v6, hq32_v6, (Or.inl rfl)⟩ hP hD hS dX6_expression_132 (Nat.le_refl _) (Nat.le_refl _)
        · skip
          have zc7 : ¬ (1600 ≤ l4_6.toInt) := zMn tc_1600 rfl c7
          refine lv_iload_n hx hb dX6_expression_69 rfl (lv_at hl 3 rfl) ?_
          refine lv_aload_n hx hb dX6_expression_70 rfl (lv_at hl 2 rfl) ?_
          refine va_get (D := (dC, dI)) (ci := 6) (v := .ref (x 0)) (C := RX6) (T := TX6) (N := 7) hx hb hts inB_6 hown hE.1 hP 3 rfl rfl 0 (Nat.le_of_ble_eq_true rfl) (hts _ k_265) (fun _ h9 => h9) rfl dX6_expression_71 ?_
          refine va_getN (D := (dC, dI)) (ci := 9) (v := .int (v6 2)) (C := RX9) (T := TX9) (N := 6) hx hb hts inB_9 hown hE.1 hP 1 rfl rfl 2 (Nat.le_of_ble_eq_true rfl) (va_Nw.use rfl (hE.2 _ k_139)) (fun _ h9 => h9) rfl dX6_expression_74 ?_
          refine cbSi (n := 2) (rest := []) hx hb hml hown hts hE hP hD hS hA (sX_X6_joins_1 NF l dC dI cy x0 x 4 (v6 2) v6 f6 hIv6 ) k_756 k_757 k_103 k_758 he_yX6_joins ⟨Nat.le_of_ble_eq_true rfl, Nat.le_of_ble_eq_true rfl⟩ (rfl) hl.1 rfl (Nat.le_of_ble_eq_true rfl) dX6_expression_77 (fun r8 u H locs hw hP hD hS => ?_)
          obtain ⟨hG9, hw⟩ := hw
          rcases hw with ⟨g10⟩ | ⟨g10⟩
          · skip
            subst g10
            refine lv_if_eq (tgt := 131) hx hb dX6_expression_80 rfl (fun c0 => absurd c0 (by decide)) (fun _ => ?_)
            refine lv_aload_n hx hb dX6_expression_83 rfl (lv_at hl 2 rfl) ?_
            refine va_get (D := (dC, dI)) (ci := 6) (v := .ref (x 0)) (C := RX6) (T := TX6) (N := 7) hx hb hts inB_6 hown hE.1 hP 3 rfl rfl 0 (Nat.le_of_ble_eq_true rfl) (hts _ k_265) (fun _ h9 => h9) rfl dX6_expression_84 ?_
            refine va_getN (D := (dC, dI)) (ci := 9) (v := .int (v6 2)) (C := RX9) (T := TX9) (N := 6) hx hb hts inB_9 hown hE.1 hP 1 rfl rfl 2 (Nat.le_of_ble_eq_true rfl) (va_Nw.use rfl (hE.2 _ k_139)) (fun _ h9 => h9) rfl dX6_expression_87 ?_
            refine lv_istore (lv' := [(5, .int (v6 2)), (4, .int l4_6), (3, .int 1600), (0, .ref (x 2)), (1, .int 4), (2, .int 1)]) hx hb dX6_expression_90 hl (Nat.le_of_ble_eq_true rfl) rfl (fun ls hl => ?_)
            refine lv_aload_n hx hb dX6_expression_92 rfl (lv_at hl 3 rfl) ?_
            refine va_get (D := (dC, dI)) (ci := 6) (v := .ref (x 0)) (C := RX6) (T := TX6) (N := 7) hx hb hts inB_6 hown hE.1 hP 3 rfl rfl 0 (Nat.le_of_ble_eq_true rfl) (hts _ k_265) (fun _ h9 => h9) rfl dX6_expression_93 ?_
            refine csVv (n := 0) (rest := []) hx hb hml hown hts hE hP hD hS hA hF hT (sX_X9_advance_1 NF l dC dI cy x0 x  v6 f6 hIv6 ) k_699 k_559 k_560 k_102 k_561 hd_yX9_advance ⟨Nat.le_of_ble_eq_true rfl, Nat.le_of_ble_eq_true rfl⟩ 1 9 rfl rfl (rfl) hl.1 rfl (Nat.le_of_ble_eq_true rfl) dX6_expression_96 (fun u H locs hw hP hD hS => ?_)
            obtain ⟨hG11, hw⟩ := hw
            obtain ⟨v12, f13⟩ := u
            obtain ⟨kV_v12, kF_f13, hIv12, hk0_v12, hk1_v12, hk7_v12, hk8_v12, hk9_v12, hk10_v12, hk31_v12, hk32_v12⟩ := hw
            have hM_v12 : KV [2, 3, 4, 5, 7, 8, 16, 17] v12 v := KV.tr kV_v12 hM_v6 rfl
            have hA_f13 : KF [3, 4] f13 f := KF.tr kF_f13 hA_f6 rfl
            have hP : va_P (dC, dI) vwCl (XW cy x0 x v12 f13) H := hP
            have hD : va_D A (XW cy x0 x v12 f13) := hD
            have hq0_v12 : v12 0 = (v 0) := hk0_v12.trans hq0_v6
            have hq1_v12 : v12 1 = (v 1) := hk1_v12.trans hq1_v6
            have hq9_v12 : v12 9 = (v 9) := hk9_v12.trans hq9_v6
            have hq10_v12 : v12 10 = (v 10) := hk10_v12.trans hq10_v6
            have hq31_v12 : v12 31 = (v 31) := hk31_v12.trans hq31_v6
            have hq32_v12 : v12 32 = (v 32) := hk32_v12.trans hq32_v6
            refine lv_aload_n hx hb dX6_expression_99 rfl (lv_at hl 3 rfl) ?_
            refine lv_iload_n hx hb dX6_expression_100 rfl (lv_at hl 4 rfl) ?_
            refine lv_iconst (v := 1) hx hb dX6_expression_101 rfl ?_
            refine lv_iadd hx hb dX6_expression_102 ?_
            refine tI (y := 5) (by decide) ?_
            refine lv_iload_n hx hb dX6_expression_103 rfl (lv_at hl 5 rfl) ?_
            refine csVi (n := 2) (rest := []) hx hb hml hown hts hE hP hD hS hA hF hT (sX_X6_expression_12 NF l dC dI cy x0 x  v12 f13 hIv12 ) k_740 k_742 k_15 k_103 k_743 hd_yX6_expression ⟨Nat.le_of_ble_eq_true rfl, Nat.le_of_ble_eq_true rfl⟩ 3 6 rfl rfl (rfl) hl.1 rfl (Nat.le_of_ble_eq_true rfl) dX6_expression_104 (fun r14 u H locs hw hP hD hS => ?_)
            obtain ⟨hG15, hw⟩ := hw
            obtain ⟨v16, f17⟩ := u
            obtain ⟨kV_v16, kF_f17, hIv16, hk0_v16, hk1_v16, hk9_v16, hk10_v16, hk31_v16, hk32_v16, hw⟩ := hw
            have hM_v16 : KV [2, 3, 4, 5, 7, 8, 16, 17] v16 v := KV.tr kV_v16 hM_v12 rfl
            have hA_f17 : KF [3, 4] f17 f := KF.tr kF_f17 hA_f13 rfl
            have hP : va_P (dC, dI) vwCl (XW cy x0 x v16 f17) H := hP
            have hD : va_D A (XW cy x0 x v16 f17) := hD
            have hq0_v16 : v16 0 = (v 0) := hk0_v16.trans hq0_v12
            have hq1_v16 : v16 1 = (v 1) := hk1_v16.trans hq1_v12
            have hq9_v16 : v16 9 = (v 9) := hk9_v16.trans hq9_v12
            have hq10_v16 : v16 10 = (v 10) := hk10_v16.trans hq10_v12
            have hq31_v16 : v16 31 = (v 31) := hk31_v16.trans hq31_v12
            have hq32_v16 : v16 32 = (v 32) := hk32_v16.trans hq32_v12
            rcases hw with ⟨g18⟩ | ⟨g18⟩
            · skip
              subst g18
              refine lv_if_ne (tgt := 112) hx hb dX6_expression_107 rfl (fun _ => ?_) (fun c0 => absurd c0 (by decide))
              refine lv_aload_n hx hb dX6_expression_112 rfl (lv_at hl 3 rfl) ?_
              refine va_get (D := (dC, dI)) (ci := 6) (v := .ref (x 3)) (C := RX6) (T := TX6) (N := 7) hx hb hts inB_6 hown hE.1 hP 3 rfl rfl 1 (Nat.le_of_ble_eq_true rfl) (hts _ k_266) (fun _ h9 => h9) rfl dX6_expression_113 ?_
              refine va_getN (D := (dC, dI)) (ci := 7) (v := .ref (x 6)) (C := RX7) (T := TX7) (N := 10) hx hb hts inB_7 hown hE.1 hP 4 rfl rfl 2 (Nat.le_of_ble_eq_true rfl) (va_Nw.use rfl (hE.2 _ k_210)) (fun _ h9 => h9) rfl dX6_expression_116 ?_
              refine lv_iload hx hb dX6_expression_119 (lv_at hl 0 rfl) ?_
              refine lv_iconst (v := 0) hx hb dX6_expression_121 rfl ?_
              refine cbVv (n := 2) (rest := []) hx hb hml hown hts hE hP hD hS hA (sX_X4_add_1 NF l dC dI cy x0 x (v6 2) 0 v16 f17 hIv16 ) k_748 k_749 k_750 k_105 k_751 hd_yX4_add ⟨Nat.le_of_ble_eq_true rfl, Nat.le_of_ble_eq_true rfl⟩ 7 4 rfl rfl (rfl) hl.1 rfl (Nat.le_of_ble_eq_true rfl) dX6_expression_122 (fun u H locs hw hP hD hS => ?_)
              obtain ⟨hG19, hw⟩ := hw
              obtain ⟨v20, f21⟩ := u
              obtain ⟨kV_v20, kF_f21, hIv20, hk0_v20, hk1_v20, hk7_v20, hk8_v20, hk9_v20, hk10_v20, hk31_v20, hk32_v20⟩ := hw
              have hM_v20 : KV [2, 3, 4, 5, 7, 8, 16, 17] v20 v := KV.tr kV_v20 hM_v16 rfl
              have hA_f21 : KF [3, 4] f21 f := KF.tr kF_f21 hA_f17 rfl
              have hP : va_P (dC, dI) vwCl (XW cy x0 x v20 f21) H := hP
              have hD : va_D A (XW cy x0 x v20 f21) := hD
              have hq0_v20 : v20 0 = (v 0) := hk0_v20.trans hq0_v16
              have hq1_v20 : v20 1 = (v 1) := hk1_v20.trans hq1_v16
              have hq9_v20 : v20 9 = (v 9) := hk9_v20.trans hq9_v16
              have hq10_v20 : v20 10 = (v 10) := hk10_v20.trans hq10_v16
              have hq31_v20 : v20 31 = (v 31) := hk31_v20.trans hq31_v16
              have hq32_v20 : v20 32 = (v 32) := hk32_v20.trans hq32_v16
              obtain ⟨t22, et22⟩ : ∃ y : Int32, y = l4_6 + 1 := ⟨_, rfl⟩
              have zt22 : t22.toInt = l4_6.toInt + 1 := (congrArg Int32.toInt et22).trans (add_i rfl tc_1 (om_41 hr4_6) (om_5 zc7))
              refine lv_iinc (v := t22) (lv' := [(4, .int t22), (5, .int (v6 2)), (3, .int 1600), (0, .ref (x 2)), (1, .int 4), (2, .int 1)]) hx hb dX6_expression_125 hl (k := 1) rfl et22.symm (Nat.le_of_ble_eq_true rfl) rfl (fun ls hl => ?_)
              refine lv_goto (tgt := 63) hx hb dX6_expression_128 rfl ?_
              have rg24 := fb_rng t22
              exact ih6 t22 v20 f21 hIv20 hq0_v20 hq1_v20 hq9_v20 hq10_v20 hq31_v20 hq32_v20 ((gsX_X6_expression_11_q1 c7 hG9 hG11 hG15 hG19 et22).symm.trans hT6) ⟨show (0 : Int) ≤ t22.toInt from om_43 hr4_6 zt22, show t22.toInt ≤ (2147483647 : Int) from om_44 rg24⟩ hM_v20 hA_f21 (show (2147483647 - t22.toInt).toNat < n6 from om_33 hm6 zt22 rg24) _ _ _ hP hD hS (lv_sub hl [0, 2, 3, 4, 5] rfl)
            · skip
              subst g18
              refine lv_if_ne (tgt := 112) hx hb dX6_expression_107 rfl (fun c0 => absurd (by decide) c0) (fun _ => ?_)
              refine lv_iconst (v := 0) hx hb dX6_expression_110 rfl ?_
              exact ret 0 (v16, f17) _ _ _ _ _ _ rfl ⟨(hT6.symm.trans (gsX_X6_expression_11_q2 c7 hG9 hG11 hG15)), hM_v16, hA_f17, hIv16, (hk0_v16.trans (hk0_v12.trans hq0_v6)), (hk1_v16.trans (hk1_v12.trans hq1_v6)), (hk9_v16.trans (hk9_v12.trans hq9_v6)), (hk10_v16.trans (hk10_v12.trans hq10_v6)), (hk31_v16.trans (hk31_v12.trans hq31_v6)), (hk32_v16.trans (hk32_v12.trans hq32_v6)), (Or.inr rfl)⟩ hP hD hS dX6_expression_111 (Nat.le_refl _) (Nat.le_refl _)
          · skip
            subst g10
            refine lv_if_eq (tgt := 131) hx hb dX6_expression_80 rfl (fun _ => ?_) (fun c0 => absurd (by decide) c0)
            refine lv_iconst (v := 1) hx hb dX6_expression_131 rfl ?_
            exact ret 1 (v6, f6) _ _ _ _ _ _ rfl ⟨(hT6.symm.trans (gsX_X6_expression_11_q3 c7 hG9)), hM_v6, hA_f6, hIv6, hq0_v6, hq1_v6, hq9_v6, hq10_v6, hq31_v6, hq32_v6, (Or.inl rfl)⟩ hP hD hS dX6_expression_132 (Nat.le_refl _) (Nat.le_refl _)
    exact lp6 (4294967296 + NF) 0 v3 f4 hIv3 hq0_v3 hq1_v3 hq9_v3 hq10_v3 hq31_v3 hq32_v3 (gsX_X6_expression_11_q4 hG2).symm ⟨by decide, by decide⟩ hM_v3 hA_f4 (show (2147483647 - (0 : Int32).toInt).toNat < 4294967296 + NF from om_38 tc_0) _ _ _ hP hD hS (lv_sub hl [0, 1, 2, 3, 4] rfl)
  · skip
    subst g5
    refine lv_if_ne (tgt := 47) hx hb dX6_expression_42 rfl (fun c0 => absurd (by decide) c0) (fun _ => ?_)
    refine lv_iconst (v := 0) hx hb dX6_expression_45 rfl ?_
    exact ret 0 (v3, f4) _ _ _ _ _ _ rfl ⟨(gsX_X6_expression_11_q5 hG2), hM_v3, hA_f4, hIv3, hk0_v3, hk1_v3, hk9_v3, hk10_v3, hk31_v3, hk32_v3, (Or.inr rfl)⟩ hP hD hS dX6_expression_46 (Nat.le_refl _) (Nat.le_refl _)
set_option maxHeartbeats 4000000 in
set_option maxRecDepth 100000 in
theorem sX_X6_expression_10 (NF : Nat) (l : Launch) (dC : Nat → ClassId) (dI : Nat → Nat → Nat) (cy : Nat → ClassId) (x0 : Nat) (x : Nat → Nat)  (v : Nat → Int32) (f : Nat → Nat → Int32) (hIv : XI v)  : ctIS l (dC, dI) cy yX6_expression cX6_expression 6 .boolean 52 1302 0 0 ((Nat → Int32) × (Nat → Nat → Int32)) [.ref (x 2), .int 3, .int 1] (XW cy x0 x v f) (fun r u => gsX_X6_expression_10 NF v f = (r, u) ∧ KV [2, 3, 4, 5, 7, 8, 16, 17] u.1 v ∧ KF [3, 4] u.2 f ∧ XI u.1 ∧ u.1 0 = v 0 ∧ u.1 1 = v 1 ∧ u.1 9 = v 9 ∧ u.1 10 = v 10 ∧ u.1 31 = v 31 ∧ u.1 32 = v 32 ∧ ((r = 1) ∨ (r = 0))) (fun u => XW cy x0 x u.1 u.2) := by
  refine ctIS_of (by decide) (Nat.le_of_ble_eq_true rfl) (fun p e s m below meth c A ls Q hx hb hml hts hown hE hF hT hP hD hA hl ret => ?_)
  have hM_v : KV [2, 3, 4, 5, 7, 8, 16, 17] v v := fun _ _ => rfl
  have hA_f : KF [3, 4] f f := fun _ _ => rfl
  have hown : s.vm.findClass RX6 = some m.cls := hown
  have hS : va_S A s.heap s.heap [] := va_S.rf
  have hl : lv_has ls 6 [(0, .ref (x 2)), (1, .int 3), (2, .int 1)] := hl
  refine lv_iload_n hx hb dX6_expression_0 rfl (lv_at hl 1 rfl) ?_
  refine lv_iconst (v := 5) hx hb dX6_expression_1 rfl ?_
  refine lv_icmp_lt (tgt := 11) hx hb dX6_expression_2 rfl (fun _ => ?_) (fun c0 => absurd (by decide) c0)
  refine lv_iload_n hx hb dX6_expression_11 rfl (lv_at hl 1 rfl) ?_
  refine lv_iconst (v := 2) hx hb dX6_expression_12 rfl ?_
  refine lv_icmp_ne (tgt := 34) hx hb dX6_expression_13 rfl (fun _ => ?_) (fun c0 => absurd c0 (by decide))
  refine lv_aload_n hx hb dX6_expression_34 rfl (lv_at hl 0 rfl) ?_
  refine lv_iload_n hx hb dX6_expression_35 rfl (lv_at hl 1 rfl) ?_
  refine lv_iconst (v := 1) hx hb dX6_expression_36 rfl ?_
  refine lv_iadd hx hb dX6_expression_37 ?_
  refine tI (y := 4) (by decide) ?_
  refine lv_iload_n hx hb dX6_expression_38 rfl (lv_at hl 2 rfl) ?_
  refine csVi (n := 2) (rest := []) hx hb hml hown hts hE hP hD hS hA hF hT (sX_X6_expression_11 NF l dC dI cy x0 x  v f hIv ) k_740 k_742 k_15 k_103 k_743 hd_yX6_expression ⟨Nat.le_of_ble_eq_true rfl, Nat.le_of_ble_eq_true rfl⟩ 3 6 rfl rfl (rfl) hl.1 rfl (Nat.le_of_ble_eq_true rfl) dX6_expression_39 (fun r1 u H locs hw hP hD hS => ?_)
  obtain ⟨hG2, hw⟩ := hw
  obtain ⟨v3, f4⟩ := u
  obtain ⟨kV_v3, kF_f4, hIv3, hk0_v3, hk1_v3, hk9_v3, hk10_v3, hk31_v3, hk32_v3, hw⟩ := hw
  have hM_v3 : KV [2, 3, 4, 5, 7, 8, 16, 17] v3 v := KV.tr kV_v3 hM_v rfl
  have hA_f4 : KF [3, 4] f4 f := KF.tr kF_f4 hA_f rfl
  have hP : va_P (dC, dI) vwCl (XW cy x0 x v3 f4) H := hP
  have hD : va_D A (XW cy x0 x v3 f4) := hD
  have hq0_v3 : v3 0 = (v 0) := hk0_v3
  have hq1_v3 : v3 1 = (v 1) := hk1_v3
  have hq9_v3 : v3 9 = (v 9) := hk9_v3
  have hq10_v3 : v3 10 = (v 10) := hk10_v3
  have hq31_v3 : v3 31 = (v 31) := hk31_v3
  have hq32_v3 : v3 32 = (v 32) := hk32_v3
  rcases hw with ⟨g5⟩ | ⟨g5⟩
  · skip
    subst g5
    refine lv_if_ne (tgt := 47) hx hb dX6_expression_42 rfl (fun _ => ?_) (fun c0 => absurd c0 (by decide))
    refine lv_iload_n hx hb dX6_expression_47 rfl (lv_at hl 1 rfl) ?_
    refine lv_iconst (v := 2) hx hb dX6_expression_48 rfl ?_
    refine lv_icmp_ne (tgt := 56) hx hb dX6_expression_49 rfl (fun _ => ?_) (fun c0 => absurd c0 (by decide))
    refine lv_sipush (v := 1600) hx hb dX6_expression_56 rfl ?_
    refine lv_istore_n (lv' := [(3, .int 1600), (0, .ref (x 2)), (1, .int 3), (2, .int 1)]) hx hb dX6_expression_59 rfl hl (Nat.le_of_ble_eq_true rfl) rfl (fun ls hl => ?_)
    refine lv_iconst (v := 0) hx hb dX6_expression_60 rfl ?_
    refine lv_istore (lv' := [(4, .int 0), (3, .int 1600), (0, .ref (x 2)), (1, .int 3), (2, .int 1)]) hx hb dX6_expression_61 hl (Nat.le_of_ble_eq_true rfl) rfl (fun ls hl => ?_)
    have lp6 : ∀ (n6 : Nat) (l4_6 : Int32) (v6 : Nat → Int32) (f6 : Nat → Nat → Int32), XI v6 → v6 0 = (v 0) → v6 1 = (v 1) → v6 9 = (v 9) → v6 10 = (v 10) → v6 31 = (v 31) → v6 32 = (v 32) → gsX_X6_expression_10_L6 NF n6 l4_6 v6 f6 = (gsX_X6_expression_10 NF v f) → ((0 : Int) ≤ l4_6.toInt ∧ l4_6.toInt ≤ 2147483647) → KV [2, 3, 4, 5, 7, 8, 16, 17] v6 v → KF [3, 4] f6 f → (2147483647 - l4_6.toInt).toNat < n6 → ∀ (H : Heap) (locs : List Loc) (ls : Array Slot), va_P (dC, dI) vwCl (XW cy x0 x v6 f6) H → va_D A (XW cy x0 x v6 f6) → va_S A s.heap H locs → lv_has ls 6 [(4, .int l4_6), (3, .int 1600), (0, .ref (x 2)), (1, .int 3), (2, .int 1)] → W p l e { frames := 52, cells := 0, slots := 0, locals := 1302 } s m ([.ref (x 2), .int 3, .int 1] : List Value).toArray below meth c H locs 0 0 Q (F0 m 63 ls []) := by
      intro n6
      induction n6 with
      | zero => intro l4_6 v6 f6 hIv6 hq0_v6 hq1_v6 hq9_v6 hq10_v6 hq31_v6 hq32_v6 hT6 hr4_6 hM_v6 hA_f6 hm; exact absurd hm (Nat.not_lt_zero _)
      | succ n6 ih6 =>
        intro l4_6 v6 f6 hIv6 hq0_v6 hq1_v6 hq9_v6 hq10_v6 hq31_v6 hq32_v6 hT6 hr4_6 hM_v6 hA_f6 hm6 H locs ls hP hD hS hl
        refine lv_iload hx hb dX6_expression_63 (lv_at hl 0 rfl) ?_
        refine lv_iload_n hx hb dX6_expression_65 rfl (lv_at hl 1 rfl) ?_
        refine lv_icmp_ge (tgt := 131) hx hb dX6_expression_66 rfl (fun c7 => ?_) (fun c7 => ?_)
        · skip
          refine lv_iconst (v := 1) hx hb dX6_expression_131 rfl ?_
          exact ret 1 (v6, f6) _ _ _ _ _ _ rfl ⟨(hT6.symm.trans (gsX_X6_expression_10_q0 c7)), hM_v6, hA_f6, hIv6, hq0_v6, hq1_v6, hq9_v6, hq10_v6, hq31_v6, hq32_v6, (Or.inl rfl)⟩ hP hD hS dX6_expression_132 (Nat.le_refl _) (Nat.le_refl _)
        · skip
          have zc7 : ¬ (1600 ≤ l4_6.toInt) := zMn tc_1600 rfl c7
          refine lv_iload_n hx hb dX6_expression_69 rfl (lv_at hl 3 rfl) ?_
          refine lv_aload_n hx hb dX6_expression_70 rfl (lv_at hl 2 rfl) ?_
          refine va_get (D := (dC, dI)) (ci := 6) (v := .ref (x 0)) (C := RX6) (T := TX6) (N := 7) hx hb hts inB_6 hown hE.1 hP 3 rfl rfl 0 (Nat.le_of_ble_eq_true rfl) (hts _ k_265) (fun _ h9 => h9) rfl dX6_expression_71 ?_
          refine va_getN (D := (dC, dI)) (ci := 9) (v := .int (v6 2)) (C := RX9) (T := TX9) (N := 6) hx hb hts inB_9 hown hE.1 hP 1 rfl rfl 2 (Nat.le_of_ble_eq_true rfl) (va_Nw.use rfl (hE.2 _ k_139)) (fun _ h9 => h9) rfl dX6_expression_74 ?_
          refine cbSi (n := 2) (rest := []) hx hb hml hown hts hE hP hD hS hA (sX_X6_joins_1 NF l dC dI cy x0 x 3 (v6 2) v6 f6 hIv6 ) k_756 k_757 k_103 k_758 he_yX6_joins ⟨Nat.le_of_ble_eq_true rfl, Nat.le_of_ble_eq_true rfl⟩ (rfl) hl.1 rfl (Nat.le_of_ble_eq_true rfl) dX6_expression_77 (fun r8 u H locs hw hP hD hS => ?_)
          obtain ⟨hG9, hw⟩ := hw
          rcases hw with ⟨g10⟩ | ⟨g10⟩
          · skip
            subst g10
            refine lv_if_eq (tgt := 131) hx hb dX6_expression_80 rfl (fun c0 => absurd c0 (by decide)) (fun _ => ?_)
            refine lv_aload_n hx hb dX6_expression_83 rfl (lv_at hl 2 rfl) ?_
            refine va_get (D := (dC, dI)) (ci := 6) (v := .ref (x 0)) (C := RX6) (T := TX6) (N := 7) hx hb hts inB_6 hown hE.1 hP 3 rfl rfl 0 (Nat.le_of_ble_eq_true rfl) (hts _ k_265) (fun _ h9 => h9) rfl dX6_expression_84 ?_
            refine va_getN (D := (dC, dI)) (ci := 9) (v := .int (v6 2)) (C := RX9) (T := TX9) (N := 6) hx hb hts inB_9 hown hE.1 hP 1 rfl rfl 2 (Nat.le_of_ble_eq_true rfl) (va_Nw.use rfl (hE.2 _ k_139)) (fun _ h9 => h9) rfl dX6_expression_87 ?_
            refine lv_istore (lv' := [(5, .int (v6 2)), (4, .int l4_6), (3, .int 1600), (0, .ref (x 2)), (1, .int 3), (2, .int 1)]) hx hb dX6_expression_90 hl (Nat.le_of_ble_eq_true rfl) rfl (fun ls hl => ?_)
            refine lv_aload_n hx hb dX6_expression_92 rfl (lv_at hl 3 rfl) ?_
            refine va_get (D := (dC, dI)) (ci := 6) (v := .ref (x 0)) (C := RX6) (T := TX6) (N := 7) hx hb hts inB_6 hown hE.1 hP 3 rfl rfl 0 (Nat.le_of_ble_eq_true rfl) (hts _ k_265) (fun _ h9 => h9) rfl dX6_expression_93 ?_
            refine csVv (n := 0) (rest := []) hx hb hml hown hts hE hP hD hS hA hF hT (sX_X9_advance_1 NF l dC dI cy x0 x  v6 f6 hIv6 ) k_699 k_559 k_560 k_102 k_561 hd_yX9_advance ⟨Nat.le_of_ble_eq_true rfl, Nat.le_of_ble_eq_true rfl⟩ 1 9 rfl rfl (rfl) hl.1 rfl (Nat.le_of_ble_eq_true rfl) dX6_expression_96 (fun u H locs hw hP hD hS => ?_)
            obtain ⟨hG11, hw⟩ := hw
            obtain ⟨v12, f13⟩ := u
            obtain ⟨kV_v12, kF_f13, hIv12, hk0_v12, hk1_v12, hk7_v12, hk8_v12, hk9_v12, hk10_v12, hk31_v12, hk32_v12⟩ := hw
            have hM_v12 : KV [2, 3, 4, 5, 7, 8, 16, 17] v12 v := KV.tr kV_v12 hM_v6 rfl
            have hA_f13 : KF [3, 4] f13 f := KF.tr kF_f13 hA_f6 rfl
            have hP : va_P (dC, dI) vwCl (XW cy x0 x v12 f13) H := hP
            have hD : va_D A (XW cy x0 x v12 f13) := hD
            have hq0_v12 : v12 0 = (v 0) := hk0_v12.trans hq0_v6
            have hq1_v12 : v12 1 = (v 1) := hk1_v12.trans hq1_v6
            have hq9_v12 : v12 9 = (v 9) := hk9_v12.trans hq9_v6
            have hq10_v12 : v12 10 = (v 10) := hk10_v12.trans hq10_v6
            have hq31_v12 : v12 31 = (v 31) := hk31_v12.trans hq31_v6
            have hq32_v12 : v12 32 = (v 32) := hk32_v12.trans hq32_v6
            refine lv_aload_n hx hb dX6_expression_99 rfl (lv_at hl 3 rfl) ?_
            refine lv_iload_n hx hb dX6_expression_100 rfl (lv_at hl 4 rfl) ?_
            refine lv_iconst (v := 1) hx hb dX6_expression_101 rfl ?_
            refine lv_iadd hx hb dX6_expression_102 ?_
            refine tI (y := 4) (by decide) ?_
            refine lv_iload_n hx hb dX6_expression_103 rfl (lv_at hl 5 rfl) ?_
            refine csVi (n := 2) (rest := []) hx hb hml hown hts hE hP hD hS hA hF hT (sX_X6_expression_11 NF l dC dI cy x0 x  v12 f13 hIv12 ) k_740 k_742 k_15 k_103 k_743 hd_yX6_expression ⟨Nat.le_of_ble_eq_true rfl, Nat.le_of_ble_eq_true rfl⟩ 3 6 rfl rfl (rfl) hl.1 rfl (Nat.le_of_ble_eq_true rfl) dX6_expression_104 (fun r14 u H locs hw hP hD hS => ?_)
            obtain ⟨hG15, hw⟩ := hw
            obtain ⟨v16, f17⟩ := u
            obtain ⟨kV_v16, kF_f17, hIv16, hk0_v16, hk1_v16, hk9_v16, hk10_v16, hk31_v16, hk32_v16, hw⟩ := hw
            have hM_v16 : KV [2, 3, 4, 5, 7, 8, 16, 17] v16 v := KV.tr kV_v16 hM_v12 rfl
            have hA_f17 : KF [3, 4] f17 f := KF.tr kF_f17 hA_f13 rfl
            have hP : va_P (dC, dI) vwCl (XW cy x0 x v16 f17) H := hP
            have hD : va_D A (XW cy x0 x v16 f17) := hD
            have hq0_v16 : v16 0 = (v 0) := hk0_v16.trans hq0_v12
            have hq1_v16 : v16 1 = (v 1) := hk1_v16.trans hq1_v12
            have hq9_v16 : v16 9 = (v 9) := hk9_v16.trans hq9_v12
            have hq10_v16 : v16 10 = (v 10) := hk10_v16.trans hq10_v12
            have hq31_v16 : v16 31 = (v 31) := hk31_v16.trans hq31_v12
            have hq32_v16 : v16 32 = (v 32) := hk32_v16.trans hq32_v12
            rcases hw with ⟨g18⟩ | ⟨g18⟩
            · skip
              subst g18
              refine lv_if_ne (tgt := 112) hx hb dX6_expression_107 rfl (fun _ => ?_) (fun c0 => absurd c0 (by decide))
              refine lv_aload_n hx hb dX6_expression_112 rfl (lv_at hl 3 rfl) ?_
              refine va_get (D := (dC, dI)) (ci := 6) (v := .ref (x 3)) (C := RX6) (T := TX6) (N := 7) hx hb hts inB_6 hown hE.1 hP 3 rfl rfl 1 (Nat.le_of_ble_eq_true rfl) (hts _ k_266) (fun _ h9 => h9) rfl dX6_expression_113 ?_
              refine va_getN (D := (dC, dI)) (ci := 7) (v := .ref (x 6)) (C := RX7) (T := TX7) (N := 10) hx hb hts inB_7 hown hE.1 hP 4 rfl rfl 2 (Nat.le_of_ble_eq_true rfl) (va_Nw.use rfl (hE.2 _ k_210)) (fun _ h9 => h9) rfl dX6_expression_116 ?_
              refine lv_iload hx hb dX6_expression_119 (lv_at hl 0 rfl) ?_
              refine lv_iconst (v := 0) hx hb dX6_expression_121 rfl ?_
              refine cbVv (n := 2) (rest := []) hx hb hml hown hts hE hP hD hS hA (sX_X4_add_1 NF l dC dI cy x0 x (v6 2) 0 v16 f17 hIv16 ) k_748 k_749 k_750 k_105 k_751 hd_yX4_add ⟨Nat.le_of_ble_eq_true rfl, Nat.le_of_ble_eq_true rfl⟩ 7 4 rfl rfl (rfl) hl.1 rfl (Nat.le_of_ble_eq_true rfl) dX6_expression_122 (fun u H locs hw hP hD hS => ?_)
              obtain ⟨hG19, hw⟩ := hw
              obtain ⟨v20, f21⟩ := u
              obtain ⟨kV_v20, kF_f21, hIv20, hk0_v20, hk1_v20, hk7_v20, hk8_v20, hk9_v20, hk10_v20, hk31_v20, hk32_v20⟩ := hw
              have hM_v20 : KV [2, 3, 4, 5, 7, 8, 16, 17] v20 v := KV.tr kV_v20 hM_v16 rfl
              have hA_f21 : KF [3, 4] f21 f := KF.tr kF_f21 hA_f17 rfl
              have hP : va_P (dC, dI) vwCl (XW cy x0 x v20 f21) H := hP
              have hD : va_D A (XW cy x0 x v20 f21) := hD
              have hq0_v20 : v20 0 = (v 0) := hk0_v20.trans hq0_v16
              have hq1_v20 : v20 1 = (v 1) := hk1_v20.trans hq1_v16
              have hq9_v20 : v20 9 = (v 9) := hk9_v20.trans hq9_v16
              have hq10_v20 : v20 10 = (v 10) := hk10_v20.trans hq10_v16
              have hq31_v20 : v20 31 = (v 31) := hk31_v20.trans hq31_v16
              have hq32_v20 : v20 32 = (v 32) := hk32_v20.trans hq32_v16
              obtain ⟨t22, et22⟩ : ∃ y : Int32, y = l4_6 + 1 := ⟨_, rfl⟩
              have zt22 : t22.toInt = l4_6.toInt + 1 := (congrArg Int32.toInt et22).trans (add_i rfl tc_1 (om_41 hr4_6) (om_5 zc7))
              refine lv_iinc (v := t22) (lv' := [(4, .int t22), (5, .int (v6 2)), (3, .int 1600), (0, .ref (x 2)), (1, .int 3), (2, .int 1)]) hx hb dX6_expression_125 hl (k := 1) rfl et22.symm (Nat.le_of_ble_eq_true rfl) rfl (fun ls hl => ?_)
              refine lv_goto (tgt := 63) hx hb dX6_expression_128 rfl ?_
              have rg24 := fb_rng t22
              exact ih6 t22 v20 f21 hIv20 hq0_v20 hq1_v20 hq9_v20 hq10_v20 hq31_v20 hq32_v20 ((gsX_X6_expression_10_q1 c7 hG9 hG11 hG15 hG19 et22).symm.trans hT6) ⟨show (0 : Int) ≤ t22.toInt from om_43 hr4_6 zt22, show t22.toInt ≤ (2147483647 : Int) from om_44 rg24⟩ hM_v20 hA_f21 (show (2147483647 - t22.toInt).toNat < n6 from om_33 hm6 zt22 rg24) _ _ _ hP hD hS (lv_sub hl [0, 2, 3, 4, 5] rfl)
            · skip
              subst g18
              refine lv_if_ne (tgt := 112) hx hb dX6_expression_107 rfl (fun c0 => absurd (by decide) c0) (fun _ => ?_)
              refine lv_iconst (v := 0) hx hb dX6_expression_110 rfl ?_
              exact ret 0 (v16, f17) _ _ _ _ _ _ rfl ⟨(hT6.symm.trans (gsX_X6_expression_10_q2 c7 hG9 hG11 hG15)), hM_v16, hA_f17, hIv16, (hk0_v16.trans (hk0_v12.trans hq0_v6)), (hk1_v16.trans (hk1_v12.trans hq1_v6)), (hk9_v16.trans (hk9_v12.trans hq9_v6)), (hk10_v16.trans (hk10_v12.trans hq10_v6)), (hk31_v16.trans (hk31_v12.trans hq31_v6)), (hk32_v16.trans (hk32_v12.trans hq32_v6)), (Or.inr rfl)⟩ hP hD hS dX6_expression_111 (Nat.le_refl _) (Nat.le_refl _)
          · skip
            subst g10
            refine lv_if_eq (tgt := 131) hx hb dX6_expression_80 rfl (fun _ => ?_) (fun c0 => absurd (by decide) c0)
            refine lv_iconst (v := 1) hx hb dX6_expression_131 rfl ?_
            exact ret 1 (v6, f6) _ _ _ _ _ _ rfl ⟨(hT6.symm.trans (gsX_X6_expression_10_q3 c7 hG9)), hM_v6, hA_f6, hIv6, hq0_v6, hq1_v6, hq9_v6, hq10_v6, hq31_v6, hq32_v6, (Or.inl rfl)⟩ hP hD hS dX6_expression_132 (Nat.le_refl _) (Nat.le_refl _)
    exact lp6 (4294967296 + NF) 0 v3 f4 hIv3 hq0_v3 hq1_v3 hq9_v3 hq10_v3 hq31_v3 hq32_v3 (gsX_X6_expression_10_q4 hG2).symm ⟨by decide, by decide⟩ hM_v3 hA_f4 (show (2147483647 - (0 : Int32).toInt).toNat < 4294967296 + NF from om_38 tc_0) _ _ _ hP hD hS (lv_sub hl [0, 1, 2, 3, 4] rfl)
  · skip
    subst g5
    refine lv_if_ne (tgt := 47) hx hb dX6_expression_42 rfl (fun c0 => absurd (by decide) c0) (fun _ => ?_)
    refine lv_iconst (v := 0) hx hb dX6_expression_45 rfl ?_
    exact ret 0 (v3, f4) _ _ _ _ _ _ rfl ⟨(gsX_X6_expression_10_q5 hG2), hM_v3, hA_f4, hIv3, hk0_v3, hk1_v3, hk9_v3, hk10_v3, hk31_v3, hk32_v3, (Or.inr rfl)⟩ hP hD hS dX6_expression_46 (Nat.le_refl _) (Nat.le_refl _)
set_option maxHeartbeats 4000000 in
set_option maxRecDepth 100000 in
theorem sX_X6_negation_7 (NF : Nat) (l : Launch) (dC : Nat → ClassId) (dI : Nat → Nat → Nat) (cy : Nat → ClassId) (x0 : Nat) (x : Nat → Nat)  (v : Nat → Int32) (f : Nat → Nat → Int32) (hIv : XI v)  : ctIS l (dC, dI) cy yX6_negation cX6_negation 2 .boolean 47 1179 0 0 ((Nat → Int32) × (Nat → Nat → Int32)) [.ref (x 2), .int 1] (XW cy x0 x v f) (fun r u => gsX_X6_negation_7 NF v f = (r, u) ∧ KV [2, 3, 4, 5, 7, 8, 16, 17] u.1 v ∧ KF [3, 4] u.2 f ∧ XI u.1 ∧ u.1 0 = v 0 ∧ u.1 1 = v 1 ∧ u.1 9 = v 9 ∧ u.1 10 = v 10 ∧ u.1 31 = v 31 ∧ u.1 32 = v 32 ∧ ((r = 1) ∨ (r = 0))) (fun u => XW cy x0 x u.1 u.2) := by
  refine ctIS_of (by decide) (Nat.le_of_ble_eq_true rfl) (fun p e s m below meth c A ls Q hx hb hml hts hown hE hF hT hP hD hA hl ret => ?_)
  have hM_v : KV [2, 3, 4, 5, 7, 8, 16, 17] v v := fun _ _ => rfl
  have hA_f : KF [3, 4] f f := fun _ _ => rfl
  have hown : s.vm.findClass RX6 = some m.cls := hown
  have hS : va_S A s.heap s.heap [] := va_S.rf
  have hl : lv_has ls 2 [(0, .ref (x 2)), (1, .int 1)] := hl
  refine lv_iload_n hx hb dX6_negation_0 rfl (lv_at hl 1 rfl) ?_
  refine lv_bipush (v := 7) hx hb dX6_negation_1 rfl ?_
  refine lv_icmp_lt (tgt := 11) hx hb dX6_negation_3 rfl (fun _ => ?_) (fun c0 => absurd (by decide) c0)
  refine lv_aload_n hx hb dX6_negation_11 rfl (lv_at hl 0 rfl) ?_
  refine va_get (D := (dC, dI)) (ci := 6) (v := .ref (x 0)) (C := RX6) (T := TX6) (N := 7) hx hb hts inB_6 hown hE.1 hP 3 rfl rfl 0 (Nat.le_of_ble_eq_true rfl) (hts _ k_265) (fun _ h9 => h9) rfl dX6_negation_12 ?_
  refine csVv (n := 0) (rest := []) hx hb hml hown hts hE hP hD hS hA hF hT (sX_X9_advance_1 NF l dC dI cy x0 x  v f hIv ) k_699 k_559 k_560 k_102 k_561 hd_yX9_advance ⟨Nat.le_of_ble_eq_true rfl, Nat.le_of_ble_eq_true rfl⟩ 1 9 rfl rfl (rfl) hl.1 rfl (Nat.le_of_ble_eq_true rfl) dX6_negation_15 (fun u H locs hw hP hD hS => ?_)
  obtain ⟨hG1, hw⟩ := hw
  obtain ⟨v2, f3⟩ := u
  obtain ⟨kV_v2, kF_f3, hIv2, hk0_v2, hk1_v2, hk7_v2, hk8_v2, hk9_v2, hk10_v2, hk31_v2, hk32_v2⟩ := hw
  have hM_v2 : KV [2, 3, 4, 5, 7, 8, 16, 17] v2 v := KV.tr kV_v2 hM_v rfl
  have hA_f3 : KF [3, 4] f3 f := KF.tr kF_f3 hA_f rfl
  have hP : va_P (dC, dI) vwCl (XW cy x0 x v2 f3) H := hP
  have hD : va_D A (XW cy x0 x v2 f3) := hD
  have hq0_v2 : v2 0 = (v 0) := hk0_v2
  have hq1_v2 : v2 1 = (v 1) := hk1_v2
  have hq7_v2 : v2 7 = (v 7) := hk7_v2
  have hq8_v2 : v2 8 = (v 8) := hk8_v2
  have hq9_v2 : v2 9 = (v 9) := hk9_v2
  have hq10_v2 : v2 10 = (v 10) := hk10_v2
  have hq31_v2 : v2 31 = (v 31) := hk31_v2
  have hq32_v2 : v2 32 = (v 32) := hk32_v2
  refine lv_aload_n hx hb dX6_negation_18 rfl (lv_at hl 0 rfl) ?_
  refine lv_iconst (v := 2) hx hb dX6_negation_19 rfl ?_
  refine lv_iload_n hx hb dX6_negation_20 rfl (lv_at hl 1 rfl) ?_
  refine lv_iconst (v := 1) hx hb dX6_negation_21 rfl ?_
  refine lv_iadd hx hb dX6_negation_22 ?_
  refine tI (y := 2) (by decide) ?_
  refine csVi (n := 2) (rest := []) hx hb hml hown hts hE hP hD hS hA hF hT (sX_X6_expression_15 NF l dC dI cy x0 x  v2 f3 hIv2 ) k_740 k_742 k_15 k_103 k_743 hd_yX6_expression ⟨Nat.le_of_ble_eq_true rfl, Nat.le_of_ble_eq_true rfl⟩ 3 6 rfl rfl (rfl) hl.1 rfl (Nat.le_of_ble_eq_true rfl) dX6_negation_23 (fun r4 u H locs hw hP hD hS => ?_)
  obtain ⟨hG5, hw⟩ := hw
  obtain ⟨v6, f7⟩ := u
  obtain ⟨kV_v6, kF_f7, hIv6, hk0_v6, hk1_v6, hk9_v6, hk10_v6, hk31_v6, hk32_v6, hw⟩ := hw
  have hM_v6 : KV [2, 3, 4, 5, 7, 8, 16, 17] v6 v := KV.tr kV_v6 hM_v2 rfl
  have hA_f7 : KF [3, 4] f7 f := KF.tr kF_f7 hA_f3 rfl
  have hP : va_P (dC, dI) vwCl (XW cy x0 x v6 f7) H := hP
  have hD : va_D A (XW cy x0 x v6 f7) := hD
  have hq0_v6 : v6 0 = (v 0) := hk0_v6.trans hq0_v2
  have hq1_v6 : v6 1 = (v 1) := hk1_v6.trans hq1_v2
  have hq9_v6 : v6 9 = (v 9) := hk9_v6.trans hq9_v2
  have hq10_v6 : v6 10 = (v 10) := hk10_v6.trans hq10_v2
  have hq31_v6 : v6 31 = (v 31) := hk31_v6.trans hq31_v2
  have hq32_v6 : v6 32 = (v 32) := hk32_v6.trans hq32_v2
  rcases hw with ⟨g8⟩ | ⟨g8⟩
  · skip
    subst g8
    refine lv_if_ne (tgt := 31) hx hb dX6_negation_26 rfl (fun _ => ?_) (fun c0 => absurd c0 (by decide))
    refine lv_aload_n hx hb dX6_negation_31 rfl (lv_at hl 0 rfl) ?_
    refine va_get (D := (dC, dI)) (ci := 6) (v := .ref (x 3)) (C := RX6) (T := TX6) (N := 7) hx hb hts inB_6 hown hE.1 hP 3 rfl rfl 1 (Nat.le_of_ble_eq_true rfl) (hts _ k_266) (fun _ h9 => h9) rfl dX6_negation_32 ?_
    refine va_getN (D := (dC, dI)) (ci := 7) (v := .ref (x 6)) (C := RX7) (T := TX7) (N := 10) hx hb hts inB_7 hown hE.1 hP 4 rfl rfl 2 (Nat.le_of_ble_eq_true rfl) (va_Nw.use rfl (hE.2 _ k_210)) (fun _ h9 => h9) rfl dX6_negation_35 ?_
    refine lv_bipush (v := 115) hx hb dX6_negation_38 rfl ?_
    refine lv_iconst (v := 0) hx hb dX6_negation_40 rfl ?_
    refine cbVv (n := 2) (rest := []) hx hb hml hown hts hE hP hD hS hA (sX_X4_add_1 NF l dC dI cy x0 x 115 0 v6 f7 hIv6 ) k_748 k_749 k_750 k_105 k_751 hd_yX4_add ⟨Nat.le_of_ble_eq_true rfl, Nat.le_of_ble_eq_true rfl⟩ 7 4 rfl rfl (rfl) hl.1 rfl (Nat.le_of_ble_eq_true rfl) dX6_negation_41 (fun u H locs hw hP hD hS => ?_)
    obtain ⟨hG9, hw⟩ := hw
    obtain ⟨v10, f11⟩ := u
    obtain ⟨kV_v10, kF_f11, hIv10, hk0_v10, hk1_v10, hk7_v10, hk8_v10, hk9_v10, hk10_v10, hk31_v10, hk32_v10⟩ := hw
    have hM_v10 : KV [2, 3, 4, 5, 7, 8, 16, 17] v10 v := KV.tr kV_v10 hM_v6 rfl
    have hA_f11 : KF [3, 4] f11 f := KF.tr kF_f11 hA_f7 rfl
    have hP : va_P (dC, dI) vwCl (XW cy x0 x v10 f11) H := hP
    have hD : va_D A (XW cy x0 x v10 f11) := hD
    have hq0_v10 : v10 0 = (v 0) := hk0_v10.trans hq0_v6
    have hq1_v10 : v10 1 = (v 1) := hk1_v10.trans hq1_v6
    have hq7_v10 : v10 7 = (v6 7) := hk7_v10
    have hq8_v10 : v10 8 = (v6 8) := hk8_v10
    have hq9_v10 : v10 9 = (v 9) := hk9_v10.trans hq9_v6
    have hq10_v10 : v10 10 = (v 10) := hk10_v10.trans hq10_v6
    have hq31_v10 : v10 31 = (v 31) := hk31_v10.trans hq31_v6
    have hq32_v10 : v10 32 = (v 32) := hk32_v10.trans hq32_v6
    refine lv_iconst (v := 1) hx hb dX6_negation_44 rfl ?_
    exact ret 1 (v10, f11) _ _ _ _ _ _ rfl ⟨(gsX_X6_negation_7_q0 hG1 hG5 hG9), hM_v10, hA_f11, hIv10, (hk0_v10.trans (hk0_v6.trans hk0_v2)), (hk1_v10.trans (hk1_v6.trans hk1_v2)), (hk9_v10.trans (hk9_v6.trans hk9_v2)), (hk10_v10.trans (hk10_v6.trans hk10_v2)), (hk31_v10.trans (hk31_v6.trans hk31_v2)), (hk32_v10.trans (hk32_v6.trans hk32_v2)), (Or.inl rfl)⟩ hP hD hS dX6_negation_45 (Nat.le_refl _) (Nat.le_refl _)
  · skip
    subst g8
    refine lv_if_ne (tgt := 31) hx hb dX6_negation_26 rfl (fun c0 => absurd (by decide) c0) (fun _ => ?_)
    refine lv_iconst (v := 0) hx hb dX6_negation_29 rfl ?_
    exact ret 0 (v6, f7) _ _ _ _ _ _ rfl ⟨(gsX_X6_negation_7_q1 hG1 hG5), hM_v6, hA_f7, hIv6, (hk0_v6.trans hk0_v2), (hk1_v6.trans hk1_v2), (hk9_v6.trans hk9_v2), (hk10_v6.trans hk10_v2), (hk31_v6.trans hk31_v2), (hk32_v6.trans hk32_v2), (Or.inr rfl)⟩ hP hD hS dX6_negation_30 (Nat.le_refl _) (Nat.le_refl _)
set_option maxHeartbeats 4000000 in
set_option maxRecDepth 100000 in
theorem sX_X6_expression_9 (NF : Nat) (l : Launch) (dC : Nat → ClassId) (dI : Nat → Nat → Nat) (cy : Nat → ClassId) (x0 : Nat) (x : Nat → Nat)  (v : Nat → Int32) (f : Nat → Nat → Int32) (hIv : XI v)  : ctIS l (dC, dI) cy yX6_expression cX6_expression 6 .boolean 53 1327 0 0 ((Nat → Int32) × (Nat → Nat → Int32)) [.ref (x 2), .int 2, .int 1] (XW cy x0 x v f) (fun r u => gsX_X6_expression_9 NF v f = (r, u) ∧ KV [2, 3, 4, 5, 7, 8, 16, 17] u.1 v ∧ KF [3, 4] u.2 f ∧ XI u.1 ∧ u.1 0 = v 0 ∧ u.1 1 = v 1 ∧ u.1 9 = v 9 ∧ u.1 10 = v 10 ∧ u.1 31 = v 31 ∧ u.1 32 = v 32 ∧ ((r = 1) ∨ (r = 0))) (fun u => XW cy x0 x u.1 u.2) := by
  refine ctIS_of (by decide) (Nat.le_of_ble_eq_true rfl) (fun p e s m below meth c A ls Q hx hb hml hts hown hE hF hT hP hD hA hl ret => ?_)
  have hM_v : KV [2, 3, 4, 5, 7, 8, 16, 17] v v := fun _ _ => rfl
  have hA_f : KF [3, 4] f f := fun _ _ => rfl
  have hown : s.vm.findClass RX6 = some m.cls := hown
  have hS : va_S A s.heap s.heap [] := va_S.rf
  have hl : lv_has ls 6 [(0, .ref (x 2)), (1, .int 2), (2, .int 1)] := hl
  refine lv_iload_n hx hb dX6_expression_0 rfl (lv_at hl 1 rfl) ?_
  refine lv_iconst (v := 5) hx hb dX6_expression_1 rfl ?_
  refine lv_icmp_lt (tgt := 11) hx hb dX6_expression_2 rfl (fun _ => ?_) (fun c0 => absurd (by decide) c0)
  refine lv_iload_n hx hb dX6_expression_11 rfl (lv_at hl 1 rfl) ?_
  refine lv_iconst (v := 2) hx hb dX6_expression_12 rfl ?_
  refine lv_icmp_ne (tgt := 34) hx hb dX6_expression_13 rfl (fun c0 => absurd (by decide) c0) (fun _ => ?_)
  refine lv_aload_n hx hb dX6_expression_16 rfl (lv_at hl 0 rfl) ?_
  refine va_get (D := (dC, dI)) (ci := 6) (v := .ref (x 0)) (C := RX6) (T := TX6) (N := 7) hx hb hts inB_6 hown hE.1 hP 3 rfl rfl 0 (Nat.le_of_ble_eq_true rfl) (hts _ k_265) (fun _ h9 => h9) rfl dX6_expression_17 ?_
  refine va_getN (D := (dC, dI)) (ci := 9) (v := .int (v 2)) (C := RX9) (T := TX9) (N := 6) hx hb hts inB_9 hown hE.1 hP 1 rfl rfl 2 (Nat.le_of_ble_eq_true rfl) (va_Nw.use rfl (hE.2 _ k_139)) (fun _ h9 => h9) rfl dX6_expression_20 ?_
  refine lv_bipush (v := 115) hx hb dX6_expression_23 rfl ?_
  refine lv_icmp_ne (tgt := 34) hx hb dX6_expression_25 rfl (fun c1 => ?_) (fun c1 => ?_)
  · skip
    refine lv_aload_n hx hb dX6_expression_34 rfl (lv_at hl 0 rfl) ?_
    refine lv_iload_n hx hb dX6_expression_35 rfl (lv_at hl 1 rfl) ?_
    refine lv_iconst (v := 1) hx hb dX6_expression_36 rfl ?_
    refine lv_iadd hx hb dX6_expression_37 ?_
    refine tI (y := 3) (by decide) ?_
    refine lv_iload_n hx hb dX6_expression_38 rfl (lv_at hl 2 rfl) ?_
    refine csVi (n := 2) (rest := []) hx hb hml hown hts hE hP hD hS hA hF hT (sX_X6_expression_10 NF l dC dI cy x0 x  v f hIv ) k_740 k_742 k_15 k_103 k_743 hd_yX6_expression ⟨Nat.le_of_ble_eq_true rfl, Nat.le_of_ble_eq_true rfl⟩ 3 6 rfl rfl (rfl) hl.1 rfl (Nat.le_of_ble_eq_true rfl) dX6_expression_39 (fun r2 u H locs hw hP hD hS => ?_)
    obtain ⟨hG3, hw⟩ := hw
    obtain ⟨v4, f5⟩ := u
    obtain ⟨kV_v4, kF_f5, hIv4, hk0_v4, hk1_v4, hk9_v4, hk10_v4, hk31_v4, hk32_v4, hw⟩ := hw
    have hM_v4 : KV [2, 3, 4, 5, 7, 8, 16, 17] v4 v := KV.tr kV_v4 hM_v rfl
    have hA_f5 : KF [3, 4] f5 f := KF.tr kF_f5 hA_f rfl
    have hP : va_P (dC, dI) vwCl (XW cy x0 x v4 f5) H := hP
    have hD : va_D A (XW cy x0 x v4 f5) := hD
    have hq0_v4 : v4 0 = (v 0) := hk0_v4
    have hq1_v4 : v4 1 = (v 1) := hk1_v4
    have hq9_v4 : v4 9 = (v 9) := hk9_v4
    have hq10_v4 : v4 10 = (v 10) := hk10_v4
    have hq31_v4 : v4 31 = (v 31) := hk31_v4
    have hq32_v4 : v4 32 = (v 32) := hk32_v4
    rcases hw with ⟨g6⟩ | ⟨g6⟩
    · skip
      subst g6
      refine lv_if_ne (tgt := 47) hx hb dX6_expression_42 rfl (fun _ => ?_) (fun c0 => absurd c0 (by decide))
      refine lv_iload_n hx hb dX6_expression_47 rfl (lv_at hl 1 rfl) ?_
      refine lv_iconst (v := 2) hx hb dX6_expression_48 rfl ?_
      refine lv_icmp_ne (tgt := 56) hx hb dX6_expression_49 rfl (fun c0 => absurd (by decide) c0) (fun _ => ?_)
      refine lv_iconst (v := 1) hx hb dX6_expression_52 rfl ?_
      refine lv_goto (tgt := 59) hx hb dX6_expression_53 rfl ?_
      refine lv_istore_n (lv' := [(3, .int 1), (0, .ref (x 2)), (1, .int 2), (2, .int 1)]) hx hb dX6_expression_59 rfl hl (Nat.le_of_ble_eq_true rfl) rfl (fun ls hl => ?_)
      refine lv_iconst (v := 0) hx hb dX6_expression_60 rfl ?_
      refine lv_istore (lv' := [(4, .int 0), (3, .int 1), (0, .ref (x 2)), (1, .int 2), (2, .int 1)]) hx hb dX6_expression_61 hl (Nat.le_of_ble_eq_true rfl) rfl (fun ls hl => ?_)
      have lp7 : ∀ (n7 : Nat) (l4_7 : Int32) (v7 : Nat → Int32) (f7 : Nat → Nat → Int32), XI v7 → v7 0 = (v 0) → v7 1 = (v 1) → v7 9 = (v 9) → v7 10 = (v 10) → v7 31 = (v 31) → v7 32 = (v 32) → gsX_X6_expression_9_L7 NF n7 l4_7 v7 f7 = (gsX_X6_expression_9 NF v f) → ((0 : Int) ≤ l4_7.toInt ∧ l4_7.toInt ≤ 2147483647) → KV [2, 3, 4, 5, 7, 8, 16, 17] v7 v → KF [3, 4] f7 f → (2147483647 - l4_7.toInt).toNat < n7 → ∀ (H : Heap) (locs : List Loc) (ls : Array Slot), va_P (dC, dI) vwCl (XW cy x0 x v7 f7) H → va_D A (XW cy x0 x v7 f7) → va_S A s.heap H locs → lv_has ls 6 [(4, .int l4_7), (3, .int 1), (0, .ref (x 2)), (1, .int 2), (2, .int 1)] → W p l e { frames := 53, cells := 0, slots := 0, locals := 1327 } s m ([.ref (x 2), .int 2, .int 1] : List Value).toArray below meth c H locs 0 0 Q (F0 m 63 ls []) := by
        intro n7
        induction n7 with
        | zero => intro l4_7 v7 f7 hIv7 hq0_v7 hq1_v7 hq9_v7 hq10_v7 hq31_v7 hq32_v7 hT7 hr4_7 hM_v7 hA_f7 hm; exact absurd hm (Nat.not_lt_zero _)
        | succ n7 ih7 =>
          intro l4_7 v7 f7 hIv7 hq0_v7 hq1_v7 hq9_v7 hq10_v7 hq31_v7 hq32_v7 hT7 hr4_7 hM_v7 hA_f7 hm7 H locs ls hP hD hS hl
          refine lv_iload hx hb dX6_expression_63 (lv_at hl 0 rfl) ?_
          refine lv_iload_n hx hb dX6_expression_65 rfl (lv_at hl 1 rfl) ?_
          refine lv_icmp_ge (tgt := 131) hx hb dX6_expression_66 rfl (fun c8 => ?_) (fun c8 => ?_)
          · skip
            refine lv_iconst (v := 1) hx hb dX6_expression_131 rfl ?_
            exact ret 1 (v7, f7) _ _ _ _ _ _ rfl ⟨(hT7.symm.trans (gsX_X6_expression_9_q0 c8)), hM_v7, hA_f7, hIv7, hq0_v7, hq1_v7, hq9_v7, hq10_v7, hq31_v7, hq32_v7, (Or.inl rfl)⟩ hP hD hS dX6_expression_132 (Nat.le_refl _) (Nat.le_refl _)
          · skip
            have zc8 : ¬ (1 ≤ l4_7.toInt) := zMn tc_1 rfl c8
            refine lv_iload_n hx hb dX6_expression_69 rfl (lv_at hl 3 rfl) ?_
            refine lv_aload_n hx hb dX6_expression_70 rfl (lv_at hl 2 rfl) ?_
            refine va_get (D := (dC, dI)) (ci := 6) (v := .ref (x 0)) (C := RX6) (T := TX6) (N := 7) hx hb hts inB_6 hown hE.1 hP 3 rfl rfl 0 (Nat.le_of_ble_eq_true rfl) (hts _ k_265) (fun _ h9 => h9) rfl dX6_expression_71 ?_
            refine va_getN (D := (dC, dI)) (ci := 9) (v := .int (v7 2)) (C := RX9) (T := TX9) (N := 6) hx hb hts inB_9 hown hE.1 hP 1 rfl rfl 2 (Nat.le_of_ble_eq_true rfl) (va_Nw.use rfl (hE.2 _ k_139)) (fun _ h9 => h9) rfl dX6_expression_74 ?_
            refine cbSi (n := 2) (rest := []) hx hb hml hown hts hE hP hD hS hA (sX_X6_joins_1 NF l dC dI cy x0 x 2 (v7 2) v7 f7 hIv7 ) k_756 k_757 k_103 k_758 he_yX6_joins ⟨Nat.le_of_ble_eq_true rfl, Nat.le_of_ble_eq_true rfl⟩ (rfl) hl.1 rfl (Nat.le_of_ble_eq_true rfl) dX6_expression_77 (fun r9 u H locs hw hP hD hS => ?_)
            obtain ⟨hG10, hw⟩ := hw
            rcases hw with ⟨g11⟩ | ⟨g11⟩
            · skip
              subst g11
              refine lv_if_eq (tgt := 131) hx hb dX6_expression_80 rfl (fun c0 => absurd c0 (by decide)) (fun _ => ?_)
              refine lv_aload_n hx hb dX6_expression_83 rfl (lv_at hl 2 rfl) ?_
              refine va_get (D := (dC, dI)) (ci := 6) (v := .ref (x 0)) (C := RX6) (T := TX6) (N := 7) hx hb hts inB_6 hown hE.1 hP 3 rfl rfl 0 (Nat.le_of_ble_eq_true rfl) (hts _ k_265) (fun _ h9 => h9) rfl dX6_expression_84 ?_
              refine va_getN (D := (dC, dI)) (ci := 9) (v := .int (v7 2)) (C := RX9) (T := TX9) (N := 6) hx hb hts inB_9 hown hE.1 hP 1 rfl rfl 2 (Nat.le_of_ble_eq_true rfl) (va_Nw.use rfl (hE.2 _ k_139)) (fun _ h9 => h9) rfl dX6_expression_87 ?_
              refine lv_istore (lv' := [(5, .int (v7 2)), (4, .int l4_7), (3, .int 1), (0, .ref (x 2)), (1, .int 2), (2, .int 1)]) hx hb dX6_expression_90 hl (Nat.le_of_ble_eq_true rfl) rfl (fun ls hl => ?_)
              refine lv_aload_n hx hb dX6_expression_92 rfl (lv_at hl 3 rfl) ?_
              refine va_get (D := (dC, dI)) (ci := 6) (v := .ref (x 0)) (C := RX6) (T := TX6) (N := 7) hx hb hts inB_6 hown hE.1 hP 3 rfl rfl 0 (Nat.le_of_ble_eq_true rfl) (hts _ k_265) (fun _ h9 => h9) rfl dX6_expression_93 ?_
              refine csVv (n := 0) (rest := []) hx hb hml hown hts hE hP hD hS hA hF hT (sX_X9_advance_1 NF l dC dI cy x0 x  v7 f7 hIv7 ) k_699 k_559 k_560 k_102 k_561 hd_yX9_advance ⟨Nat.le_of_ble_eq_true rfl, Nat.le_of_ble_eq_true rfl⟩ 1 9 rfl rfl (rfl) hl.1 rfl (Nat.le_of_ble_eq_true rfl) dX6_expression_96 (fun u H locs hw hP hD hS => ?_)
              obtain ⟨hG12, hw⟩ := hw
              obtain ⟨v13, f14⟩ := u
              obtain ⟨kV_v13, kF_f14, hIv13, hk0_v13, hk1_v13, hk7_v13, hk8_v13, hk9_v13, hk10_v13, hk31_v13, hk32_v13⟩ := hw
              have hM_v13 : KV [2, 3, 4, 5, 7, 8, 16, 17] v13 v := KV.tr kV_v13 hM_v7 rfl
              have hA_f14 : KF [3, 4] f14 f := KF.tr kF_f14 hA_f7 rfl
              have hP : va_P (dC, dI) vwCl (XW cy x0 x v13 f14) H := hP
              have hD : va_D A (XW cy x0 x v13 f14) := hD
              have hq0_v13 : v13 0 = (v 0) := hk0_v13.trans hq0_v7
              have hq1_v13 : v13 1 = (v 1) := hk1_v13.trans hq1_v7
              have hq9_v13 : v13 9 = (v 9) := hk9_v13.trans hq9_v7
              have hq10_v13 : v13 10 = (v 10) := hk10_v13.trans hq10_v7
              have hq31_v13 : v13 31 = (v 31) := hk31_v13.trans hq31_v7
              have hq32_v13 : v13 32 = (v 32) := hk32_v13.trans hq32_v7
              refine lv_aload_n hx hb dX6_expression_99 rfl (lv_at hl 3 rfl) ?_
              refine lv_iload_n hx hb dX6_expression_100 rfl (lv_at hl 4 rfl) ?_
              refine lv_iconst (v := 1) hx hb dX6_expression_101 rfl ?_
              refine lv_iadd hx hb dX6_expression_102 ?_
              refine tI (y := 3) (by decide) ?_
              refine lv_iload_n hx hb dX6_expression_103 rfl (lv_at hl 5 rfl) ?_
              refine csVi (n := 2) (rest := []) hx hb hml hown hts hE hP hD hS hA hF hT (sX_X6_expression_10 NF l dC dI cy x0 x  v13 f14 hIv13 ) k_740 k_742 k_15 k_103 k_743 hd_yX6_expression ⟨Nat.le_of_ble_eq_true rfl, Nat.le_of_ble_eq_true rfl⟩ 3 6 rfl rfl (rfl) hl.1 rfl (Nat.le_of_ble_eq_true rfl) dX6_expression_104 (fun r15 u H locs hw hP hD hS => ?_)
              obtain ⟨hG16, hw⟩ := hw
              obtain ⟨v17, f18⟩ := u
              obtain ⟨kV_v17, kF_f18, hIv17, hk0_v17, hk1_v17, hk9_v17, hk10_v17, hk31_v17, hk32_v17, hw⟩ := hw
              have hM_v17 : KV [2, 3, 4, 5, 7, 8, 16, 17] v17 v := KV.tr kV_v17 hM_v13 rfl
              have hA_f18 : KF [3, 4] f18 f := KF.tr kF_f18 hA_f14 rfl
              have hP : va_P (dC, dI) vwCl (XW cy x0 x v17 f18) H := hP
              have hD : va_D A (XW cy x0 x v17 f18) := hD
              have hq0_v17 : v17 0 = (v 0) := hk0_v17.trans hq0_v13
              have hq1_v17 : v17 1 = (v 1) := hk1_v17.trans hq1_v13
              have hq9_v17 : v17 9 = (v 9) := hk9_v17.trans hq9_v13
              have hq10_v17 : v17 10 = (v 10) := hk10_v17.trans hq10_v13
              have hq31_v17 : v17 31 = (v 31) := hk31_v17.trans hq31_v13
              have hq32_v17 : v17 32 = (v 32) := hk32_v17.trans hq32_v13
              rcases hw with ⟨g19⟩ | ⟨g19⟩
              · skip
                subst g19
                refine lv_if_ne (tgt := 112) hx hb dX6_expression_107 rfl (fun _ => ?_) (fun c0 => absurd c0 (by decide))
                refine lv_aload_n hx hb dX6_expression_112 rfl (lv_at hl 3 rfl) ?_
                refine va_get (D := (dC, dI)) (ci := 6) (v := .ref (x 3)) (C := RX6) (T := TX6) (N := 7) hx hb hts inB_6 hown hE.1 hP 3 rfl rfl 1 (Nat.le_of_ble_eq_true rfl) (hts _ k_266) (fun _ h9 => h9) rfl dX6_expression_113 ?_
                refine va_getN (D := (dC, dI)) (ci := 7) (v := .ref (x 6)) (C := RX7) (T := TX7) (N := 10) hx hb hts inB_7 hown hE.1 hP 4 rfl rfl 2 (Nat.le_of_ble_eq_true rfl) (va_Nw.use rfl (hE.2 _ k_210)) (fun _ h9 => h9) rfl dX6_expression_116 ?_
                refine lv_iload hx hb dX6_expression_119 (lv_at hl 0 rfl) ?_
                refine lv_iconst (v := 0) hx hb dX6_expression_121 rfl ?_
                refine cbVv (n := 2) (rest := []) hx hb hml hown hts hE hP hD hS hA (sX_X4_add_1 NF l dC dI cy x0 x (v7 2) 0 v17 f18 hIv17 ) k_748 k_749 k_750 k_105 k_751 hd_yX4_add ⟨Nat.le_of_ble_eq_true rfl, Nat.le_of_ble_eq_true rfl⟩ 7 4 rfl rfl (rfl) hl.1 rfl (Nat.le_of_ble_eq_true rfl) dX6_expression_122 (fun u H locs hw hP hD hS => ?_)
                obtain ⟨hG20, hw⟩ := hw
                obtain ⟨v21, f22⟩ := u
                obtain ⟨kV_v21, kF_f22, hIv21, hk0_v21, hk1_v21, hk7_v21, hk8_v21, hk9_v21, hk10_v21, hk31_v21, hk32_v21⟩ := hw
                have hM_v21 : KV [2, 3, 4, 5, 7, 8, 16, 17] v21 v := KV.tr kV_v21 hM_v17 rfl
                have hA_f22 : KF [3, 4] f22 f := KF.tr kF_f22 hA_f18 rfl
                have hP : va_P (dC, dI) vwCl (XW cy x0 x v21 f22) H := hP
                have hD : va_D A (XW cy x0 x v21 f22) := hD
                have hq0_v21 : v21 0 = (v 0) := hk0_v21.trans hq0_v17
                have hq1_v21 : v21 1 = (v 1) := hk1_v21.trans hq1_v17
                have hq9_v21 : v21 9 = (v 9) := hk9_v21.trans hq9_v17
                have hq10_v21 : v21 10 = (v 10) := hk10_v21.trans hq10_v17
                have hq31_v21 : v21 31 = (v 31) := hk31_v21.trans hq31_v17
                have hq32_v21 : v21 32 = (v 32) := hk32_v21.trans hq32_v17
                obtain ⟨t23, et23⟩ : ∃ y : Int32, y = l4_7 + 1 := ⟨_, rfl⟩
                have zt23 : t23.toInt = l4_7.toInt + 1 := (congrArg Int32.toInt et23).trans (add_i rfl tc_1 (om_41 hr4_7) (om_94 zc8))
                refine lv_iinc (v := t23) (lv' := [(4, .int t23), (5, .int (v7 2)), (3, .int 1), (0, .ref (x 2)), (1, .int 2), (2, .int 1)]) hx hb dX6_expression_125 hl (k := 1) rfl et23.symm (Nat.le_of_ble_eq_true rfl) rfl (fun ls hl => ?_)
                refine lv_goto (tgt := 63) hx hb dX6_expression_128 rfl ?_
                have rg25 := fb_rng t23
                exact ih7 t23 v21 f22 hIv21 hq0_v21 hq1_v21 hq9_v21 hq10_v21 hq31_v21 hq32_v21 ((gsX_X6_expression_9_q1 c8 hG10 hG12 hG16 hG20 et23).symm.trans hT7) ⟨show (0 : Int) ≤ t23.toInt from om_43 hr4_7 zt23, show t23.toInt ≤ (2147483647 : Int) from om_44 rg25⟩ hM_v21 hA_f22 (show (2147483647 - t23.toInt).toNat < n7 from om_33 hm7 zt23 rg25) _ _ _ hP hD hS (lv_sub hl [0, 2, 3, 4, 5] rfl)
              · skip
                subst g19
                refine lv_if_ne (tgt := 112) hx hb dX6_expression_107 rfl (fun c0 => absurd (by decide) c0) (fun _ => ?_)
                refine lv_iconst (v := 0) hx hb dX6_expression_110 rfl ?_
                exact ret 0 (v17, f18) _ _ _ _ _ _ rfl ⟨(hT7.symm.trans (gsX_X6_expression_9_q2 c8 hG10 hG12 hG16)), hM_v17, hA_f18, hIv17, (hk0_v17.trans (hk0_v13.trans hq0_v7)), (hk1_v17.trans (hk1_v13.trans hq1_v7)), (hk9_v17.trans (hk9_v13.trans hq9_v7)), (hk10_v17.trans (hk10_v13.trans hq10_v7)), (hk31_v17.trans (hk31_v13.trans hq31_v7)), (hk32_v17.trans (hk32_v13.trans hq32_v7)), (Or.inr rfl)⟩ hP hD hS dX6_expression_111 (Nat.le_refl _) (Nat.le_refl _)
            · skip
              subst g11
              refine lv_if_eq (tgt := 131) hx hb dX6_expression_80 rfl (fun _ => ?_) (fun c0 => absurd (by decide) c0)
              refine lv_iconst (v := 1) hx hb dX6_expression_131 rfl ?_
              exact ret 1 (v7, f7) _ _ _ _ _ _ rfl ⟨(hT7.symm.trans (gsX_X6_expression_9_q3 c8 hG10)), hM_v7, hA_f7, hIv7, hq0_v7, hq1_v7, hq9_v7, hq10_v7, hq31_v7, hq32_v7, (Or.inl rfl)⟩ hP hD hS dX6_expression_132 (Nat.le_refl _) (Nat.le_refl _)
      exact lp7 (4294967296 + NF) 0 v4 f5 hIv4 hq0_v4 hq1_v4 hq9_v4 hq10_v4 hq31_v4 hq32_v4 (gsX_X6_expression_9_q4 c1 hG3).symm ⟨by decide, by decide⟩ hM_v4 hA_f5 (show (2147483647 - (0 : Int32).toInt).toNat < 4294967296 + NF from om_38 tc_0) _ _ _ hP hD hS (lv_sub hl [0, 1, 2, 3, 4] rfl)
    · skip
      subst g6
      refine lv_if_ne (tgt := 47) hx hb dX6_expression_42 rfl (fun c0 => absurd (by decide) c0) (fun _ => ?_)
      refine lv_iconst (v := 0) hx hb dX6_expression_45 rfl ?_
      exact ret 0 (v4, f5) _ _ _ _ _ _ rfl ⟨(gsX_X6_expression_9_q5 c1 hG3), hM_v4, hA_f5, hIv4, hk0_v4, hk1_v4, hk9_v4, hk10_v4, hk31_v4, hk32_v4, (Or.inr rfl)⟩ hP hD hS dX6_expression_46 (Nat.le_refl _) (Nat.le_refl _)
  · skip
    refine lv_aload_n hx hb dX6_expression_28 rfl (lv_at hl 0 rfl) ?_
    refine lv_iload_n hx hb dX6_expression_29 rfl (lv_at hl 2 rfl) ?_
    refine csVi (n := 1) (rest := []) hx hb hml hown hts hE hP hD hS hA hF hT (sX_X6_negation_7 NF l dC dI cy x0 x  v f hIv ) k_752 k_754 k_17 k_103 k_755 hd_yX6_negation ⟨Nat.le_of_ble_eq_true rfl, Nat.le_of_ble_eq_true rfl⟩ 3 6 rfl rfl (rfl) hl.1 rfl (Nat.le_of_ble_eq_true rfl) dX6_expression_30 (fun r26 u H locs hw hP hD hS => ?_)
    obtain ⟨hG27, hw⟩ := hw
    obtain ⟨v28, f29⟩ := u
    obtain ⟨kV_v28, kF_f29, hIv28, hk0_v28, hk1_v28, hk9_v28, hk10_v28, hk31_v28, hk32_v28, hw⟩ := hw
    have hM_v28 : KV [2, 3, 4, 5, 7, 8, 16, 17] v28 v := KV.tr kV_v28 hM_v rfl
    have hA_f29 : KF [3, 4] f29 f := KF.tr kF_f29 hA_f rfl
    have hP : va_P (dC, dI) vwCl (XW cy x0 x v28 f29) H := hP
    have hD : va_D A (XW cy x0 x v28 f29) := hD
    rcases hw with ⟨g30⟩ | ⟨g30⟩
    · skip
      subst g30
      exact ret 1 (v28, f29) _ _ _ _ _ _ rfl ⟨(gsX_X6_expression_9_q6 c1 hG27), hM_v28, hA_f29, hIv28, hk0_v28, hk1_v28, hk9_v28, hk10_v28, hk31_v28, hk32_v28, (Or.inl rfl)⟩ hP hD hS dX6_expression_33 (Nat.le_refl _) (Nat.le_refl _)
    · skip
      subst g30
      exact ret 0 (v28, f29) _ _ _ _ _ _ rfl ⟨(gsX_X6_expression_9_q7 c1 hG27), hM_v28, hA_f29, hIv28, hk0_v28, hk1_v28, hk9_v28, hk10_v28, hk31_v28, hk32_v28, (Or.inr rfl)⟩ hP hD hS dX6_expression_33 (Nat.le_refl _) (Nat.le_refl _)
set_option maxHeartbeats 4000000 in
set_option maxRecDepth 100000 in
theorem sX_X6_expression_8 (NF : Nat) (l : Launch) (dC : Nat → ClassId) (dI : Nat → Nat → Nat) (cy : Nat → ClassId) (x0 : Nat) (x : Nat → Nat)  (v : Nat → Int32) (f : Nat → Nat → Int32) (hIv : XI v)  : ctIS l (dC, dI) cy yX6_expression cX6_expression 6 .boolean 54 1352 0 0 ((Nat → Int32) × (Nat → Nat → Int32)) [.ref (x 2), .int 1, .int 1] (XW cy x0 x v f) (fun r u => gsX_X6_expression_8 NF v f = (r, u) ∧ KV [2, 3, 4, 5, 7, 8, 16, 17] u.1 v ∧ KF [3, 4] u.2 f ∧ XI u.1 ∧ u.1 0 = v 0 ∧ u.1 1 = v 1 ∧ u.1 9 = v 9 ∧ u.1 10 = v 10 ∧ u.1 31 = v 31 ∧ u.1 32 = v 32 ∧ ((r = 1) ∨ (r = 0))) (fun u => XW cy x0 x u.1 u.2) := by
  refine ctIS_of (by decide) (Nat.le_of_ble_eq_true rfl) (fun p e s m below meth c A ls Q hx hb hml hts hown hE hF hT hP hD hA hl ret => ?_)
  have hM_v : KV [2, 3, 4, 5, 7, 8, 16, 17] v v := fun _ _ => rfl
  have hA_f : KF [3, 4] f f := fun _ _ => rfl
  have hown : s.vm.findClass RX6 = some m.cls := hown
  have hS : va_S A s.heap s.heap [] := va_S.rf
  have hl : lv_has ls 6 [(0, .ref (x 2)), (1, .int 1), (2, .int 1)] := hl
  refine lv_iload_n hx hb dX6_expression_0 rfl (lv_at hl 1 rfl) ?_
  refine lv_iconst (v := 5) hx hb dX6_expression_1 rfl ?_
  refine lv_icmp_lt (tgt := 11) hx hb dX6_expression_2 rfl (fun _ => ?_) (fun c0 => absurd (by decide) c0)
  refine lv_iload_n hx hb dX6_expression_11 rfl (lv_at hl 1 rfl) ?_
  refine lv_iconst (v := 2) hx hb dX6_expression_12 rfl ?_
  refine lv_icmp_ne (tgt := 34) hx hb dX6_expression_13 rfl (fun _ => ?_) (fun c0 => absurd c0 (by decide))
  refine lv_aload_n hx hb dX6_expression_34 rfl (lv_at hl 0 rfl) ?_
  refine lv_iload_n hx hb dX6_expression_35 rfl (lv_at hl 1 rfl) ?_
  refine lv_iconst (v := 1) hx hb dX6_expression_36 rfl ?_
  refine lv_iadd hx hb dX6_expression_37 ?_
  refine tI (y := 2) (by decide) ?_
  refine lv_iload_n hx hb dX6_expression_38 rfl (lv_at hl 2 rfl) ?_
  refine csVi (n := 2) (rest := []) hx hb hml hown hts hE hP hD hS hA hF hT (sX_X6_expression_9 NF l dC dI cy x0 x  v f hIv ) k_740 k_742 k_15 k_103 k_743 hd_yX6_expression ⟨Nat.le_of_ble_eq_true rfl, Nat.le_of_ble_eq_true rfl⟩ 3 6 rfl rfl (rfl) hl.1 rfl (Nat.le_of_ble_eq_true rfl) dX6_expression_39 (fun r1 u H locs hw hP hD hS => ?_)
  obtain ⟨hG2, hw⟩ := hw
  obtain ⟨v3, f4⟩ := u
  obtain ⟨kV_v3, kF_f4, hIv3, hk0_v3, hk1_v3, hk9_v3, hk10_v3, hk31_v3, hk32_v3, hw⟩ := hw
  have hM_v3 : KV [2, 3, 4, 5, 7, 8, 16, 17] v3 v := KV.tr kV_v3 hM_v rfl
  have hA_f4 : KF [3, 4] f4 f := KF.tr kF_f4 hA_f rfl
  have hP : va_P (dC, dI) vwCl (XW cy x0 x v3 f4) H := hP
  have hD : va_D A (XW cy x0 x v3 f4) := hD
  have hq0_v3 : v3 0 = (v 0) := hk0_v3
  have hq1_v3 : v3 1 = (v 1) := hk1_v3
  have hq9_v3 : v3 9 = (v 9) := hk9_v3
  have hq10_v3 : v3 10 = (v 10) := hk10_v3
  have hq31_v3 : v3 31 = (v 31) := hk31_v3
  have hq32_v3 : v3 32 = (v 32) := hk32_v3
  rcases hw with ⟨g5⟩ | ⟨g5⟩
  · skip
    subst g5
    refine lv_if_ne (tgt := 47) hx hb dX6_expression_42 rfl (fun _ => ?_) (fun c0 => absurd c0 (by decide))
    refine lv_iload_n hx hb dX6_expression_47 rfl (lv_at hl 1 rfl) ?_
    refine lv_iconst (v := 2) hx hb dX6_expression_48 rfl ?_
    refine lv_icmp_ne (tgt := 56) hx hb dX6_expression_49 rfl (fun _ => ?_) (fun c0 => absurd c0 (by decide))
    refine lv_sipush (v := 1600) hx hb dX6_expression_56 rfl ?_
    refine lv_istore_n (lv' := [(3, .int 1600), (0, .ref (x 2)), (1, .int 1), (2, .int 1)]) hx hb dX6_expression_59 rfl hl (Nat.le_of_ble_eq_true rfl) rfl (fun ls hl => ?_)
    refine lv_iconst (v := 0) hx hb dX6_expression_60 rfl ?_
    refine lv_istore (lv' := [(4, .int 0), (3, .int 1600), (0, .ref (x 2)), (1, .int 1), (2, .int 1)]) hx hb dX6_expression_61 hl (Nat.le_of_ble_eq_true rfl) rfl (fun ls hl => ?_)
    have lp6 : ∀ (n6 : Nat) (l4_6 : Int32) (v6 : Nat → Int32) (f6 : Nat → Nat → Int32), XI v6 → v6 0 = (v 0) → v6 1 = (v 1) → v6 9 = (v 9) → v6 10 = (v 10) → v6 31 = (v 31) → v6 32 = (v 32) → gsX_X6_expression_8_L6 NF n6 l4_6 v6 f6 = (gsX_X6_expression_8 NF v f) → ((0 : Int) ≤ l4_6.toInt ∧ l4_6.toInt ≤ 2147483647) → KV [2, 3, 4, 5, 7, 8, 16, 17] v6 v → KF [3, 4] f6 f → (2147483647 - l4_6.toInt).toNat < n6 → ∀ (H : Heap) (locs : List Loc) (ls : Array Slot), va_P (dC, dI) vwCl (XW cy x0 x v6 f6) H → va_D A (XW cy x0 x v6 f6) → va_S A s.heap H locs → lv_has ls 6 [(4, .int l4_6), (3, .int 1600), (0, .ref (x 2)), (1, .int 1), (2, .int 1)] → W p l e { frames := 54, cells := 0, slots := 0, locals := 1352 } s m ([.ref (x 2), .int 1, .int 1] : List Value).toArray below meth c H locs 0 0 Q (F0 m 63 ls []) := by
      intro n6
      induction n6 with
      | zero => intro l4_6 v6 f6 hIv6 hq0_v6 hq1_v6 hq9_v6 hq10_v6 hq31_v6 hq32_v6 hT6 hr4_6 hM_v6 hA_f6 hm; exact absurd hm (Nat.not_lt_zero _)
      | succ n6 ih6 =>
        intro l4_6 v6 f6 hIv6 hq0_v6 hq1_v6 hq9_v6 hq10_v6 hq31_v6 hq32_v6 hT6 hr4_6 hM_v6 hA_f6 hm6 H locs ls hP hD hS hl
        refine lv_iload hx hb dX6_expression_63 (lv_at hl 0 rfl) ?_
        refine lv_iload_n hx hb dX6_expression_65 rfl (lv_at hl 1 rfl) ?_
        refine lv_icmp_ge (tgt := 131) hx hb dX6_expression_66 rfl (fun c7 => ?_) (fun c7 => ?_)
        · skip
          refine lv_iconst (v := 1) hx hb dX6_expression_131 rfl ?_
          exact ret 1 (v6, f6) _ _ _ _ _ _ rfl ⟨(hT6.symm.trans (gsX_X6_expression_8_q0 c7)), hM_v6, hA_f6, hIv6, hq0_v6, hq1_v6, hq9_v6, hq10_v6, hq31_v6, hq32_v6, (Or.inl rfl)⟩ hP hD hS dX6_expression_132 (Nat.le_refl _) (Nat.le_refl _)
        · skip
          have zc7 : ¬ (1600 ≤ l4_6.toInt) := zMn tc_1600 rfl c7
          refine lv_iload_n hx hb dX6_expression_69 rfl (lv_at hl 3 rfl) ?_
          refine lv_aload_n hx hb dX6_expression_70 rfl (lv_at hl 2 rfl) ?_
          refine va_get (D := (dC, dI)) (ci := 6) (v := .ref (x 0)) (C := RX6) (T := TX6) (N := 7) hx hb hts inB_6 hown hE.1 hP 3 rfl rfl 0 (Nat.le_of_ble_eq_true rfl) (hts _ k_265) (fun _ h9 => h9) rfl dX6_expression_71 ?_
          refine va_getN (D := (dC, dI)) (ci := 9) (v := .int (v6 2)) (C := RX9) (T := TX9) (N := 6) hx hb hts inB_9 hown hE.1 hP 1 rfl rfl 2 (Nat.le_of_ble_eq_true rfl) (va_Nw.use rfl (hE.2 _ k_139)) (fun _ h9 => h9) rfl dX6_expression_74 ?_
          refine cbSi (n := 2) (rest := []) hx hb hml hown hts hE hP hD hS hA (sX_X6_joins_1 NF l dC dI cy x0 x 1 (v6 2) v6 f6 hIv6 ) k_756 k_757 k_103 k_758 he_yX6_joins ⟨Nat.le_of_ble_eq_true rfl, Nat.le_of_ble_eq_true rfl⟩ (rfl) hl.1 rfl (Nat.le_of_ble_eq_true rfl) dX6_expression_77 (fun r8 u H locs hw hP hD hS => ?_)
          obtain ⟨hG9, hw⟩ := hw
          rcases hw with ⟨g10⟩ | ⟨g10⟩
          · skip
            subst g10
            refine lv_if_eq (tgt := 131) hx hb dX6_expression_80 rfl (fun c0 => absurd c0 (by decide)) (fun _ => ?_)
            refine lv_aload_n hx hb dX6_expression_83 rfl (lv_at hl 2 rfl) ?_
            refine va_get (D := (dC, dI)) (ci := 6) (v := .ref (x 0)) (C := RX6) (T := TX6) (N := 7) hx hb hts inB_6 hown hE.1 hP 3 rfl rfl 0 (Nat.le_of_ble_eq_true rfl) (hts _ k_265) (fun _ h9 => h9) rfl dX6_expression_84 ?_
            refine va_getN (D := (dC, dI)) (ci := 9) (v := .int (v6 2)) (C := RX9) (T := TX9) (N := 6) hx hb hts inB_9 hown hE.1 hP 1 rfl rfl 2 (Nat.le_of_ble_eq_true rfl) (va_Nw.use rfl (hE.2 _ k_139)) (fun _ h9 => h9) rfl dX6_expression_87 ?_
            refine lv_istore (lv' := [(5, .int (v6 2)), (4, .int l4_6), (3, .int 1600), (0, .ref (x 2)), (1, .int 1), (2, .int 1)]) hx hb dX6_expression_90 hl (Nat.le_of_ble_eq_true rfl) rfl (fun ls hl => ?_)
            refine lv_aload_n hx hb dX6_expression_92 rfl (lv_at hl 3 rfl) ?_
            refine va_get (D := (dC, dI)) (ci := 6) (v := .ref (x 0)) (C := RX6) (T := TX6) (N := 7) hx hb hts inB_6 hown hE.1 hP 3 rfl rfl 0 (Nat.le_of_ble_eq_true rfl) (hts _ k_265) (fun _ h9 => h9) rfl dX6_expression_93 ?_
            refine csVv (n := 0) (rest := []) hx hb hml hown hts hE hP hD hS hA hF hT (sX_X9_advance_1 NF l dC dI cy x0 x  v6 f6 hIv6 ) k_699 k_559 k_560 k_102 k_561 hd_yX9_advance ⟨Nat.le_of_ble_eq_true rfl, Nat.le_of_ble_eq_true rfl⟩ 1 9 rfl rfl (rfl) hl.1 rfl (Nat.le_of_ble_eq_true rfl) dX6_expression_96 (fun u H locs hw hP hD hS => ?_)
            obtain ⟨hG11, hw⟩ := hw
            obtain ⟨v12, f13⟩ := u
            obtain ⟨kV_v12, kF_f13, hIv12, hk0_v12, hk1_v12, hk7_v12, hk8_v12, hk9_v12, hk10_v12, hk31_v12, hk32_v12⟩ := hw
            have hM_v12 : KV [2, 3, 4, 5, 7, 8, 16, 17] v12 v := KV.tr kV_v12 hM_v6 rfl
            have hA_f13 : KF [3, 4] f13 f := KF.tr kF_f13 hA_f6 rfl
            have hP : va_P (dC, dI) vwCl (XW cy x0 x v12 f13) H := hP
            have hD : va_D A (XW cy x0 x v12 f13) := hD
            have hq0_v12 : v12 0 = (v 0) := hk0_v12.trans hq0_v6
            have hq1_v12 : v12 1 = (v 1) := hk1_v12.trans hq1_v6
            have hq9_v12 : v12 9 = (v 9) := hk9_v12.trans hq9_v6
            have hq10_v12 : v12 10 = (v 10) := hk10_v12.trans hq10_v6
            have hq31_v12 : v12 31 = (v 31) := hk31_v12.trans hq31_v6
            have hq32_v12 : v12 32 = (v 32) := hk32_v12.trans hq32_v6
            refine lv_aload_n hx hb dX6_expression_99 rfl (lv_at hl 3 rfl) ?_
            refine lv_iload_n hx hb dX6_expression_100 rfl (lv_at hl 4 rfl) ?_
            refine lv_iconst (v := 1) hx hb dX6_expression_101 rfl ?_
            refine lv_iadd hx hb dX6_expression_102 ?_
            refine tI (y := 2) (by decide) ?_
            refine lv_iload_n hx hb dX6_expression_103 rfl (lv_at hl 5 rfl) ?_
            refine csVi (n := 2) (rest := []) hx hb hml hown hts hE hP hD hS hA hF hT (sX_X6_expression_9 NF l dC dI cy x0 x  v12 f13 hIv12 ) k_740 k_742 k_15 k_103 k_743 hd_yX6_expression ⟨Nat.le_of_ble_eq_true rfl, Nat.le_of_ble_eq_true rfl⟩ 3 6 rfl rfl (rfl) hl.1 rfl (Nat.le_of_ble_eq_true rfl) dX6_expression_104 (fun r14 u H locs hw hP hD hS => ?_)
            obtain ⟨hG15, hw⟩ := hw
            obtain ⟨v16, f17⟩ := u
            obtain ⟨kV_v16, kF_f17, hIv16, hk0_v16, hk1_v16, hk9_v16, hk10_v16, hk31_v16, hk32_v16, hw⟩ := hw
            have hM_v16 : KV [2, 3, 4, 5, 7, 8, 16, 17] v16 v := KV.tr kV_v16 hM_v12 rfl
            have hA_f17 : KF [3, 4] f17 f := KF.tr kF_f17 hA_f13 rfl
            have hP : va_P (dC, dI) vwCl (XW cy x0 x v16 f17) H := hP
            have hD : va_D A (XW cy x0 x v16 f17) := hD
            have hq0_v16 : v16 0 = (v 0) := hk0_v16.trans hq0_v12
            have hq1_v16 : v16 1 = (v 1) := hk1_v16.trans hq1_v12
            have hq9_v16 : v16 9 = (v 9) := hk9_v16.trans hq9_v12
            have hq10_v16 : v16 10 = (v 10) := hk10_v16.trans hq10_v12
            have hq31_v16 : v16 31 = (v 31) := hk31_v16.trans hq31_v12
            have hq32_v16 : v16 32 = (v 32) := hk32_v16.trans hq32_v12
            rcases hw with ⟨g18⟩ | ⟨g18⟩
            · skip
              subst g18
              refine lv_if_ne (tgt := 112) hx hb dX6_expression_107 rfl (fun _ => ?_) (fun c0 => absurd c0 (by decide))
              refine lv_aload_n hx hb dX6_expression_112 rfl (lv_at hl 3 rfl) ?_
              refine va_get (D := (dC, dI)) (ci := 6) (v := .ref (x 3)) (C := RX6) (T := TX6) (N := 7) hx hb hts inB_6 hown hE.1 hP 3 rfl rfl 1 (Nat.le_of_ble_eq_true rfl) (hts _ k_266) (fun _ h9 => h9) rfl dX6_expression_113 ?_
              refine va_getN (D := (dC, dI)) (ci := 7) (v := .ref (x 6)) (C := RX7) (T := TX7) (N := 10) hx hb hts inB_7 hown hE.1 hP 4 rfl rfl 2 (Nat.le_of_ble_eq_true rfl) (va_Nw.use rfl (hE.2 _ k_210)) (fun _ h9 => h9) rfl dX6_expression_116 ?_
              refine lv_iload hx hb dX6_expression_119 (lv_at hl 0 rfl) ?_
              refine lv_iconst (v := 0) hx hb dX6_expression_121 rfl ?_
              refine cbVv (n := 2) (rest := []) hx hb hml hown hts hE hP hD hS hA (sX_X4_add_1 NF l dC dI cy x0 x (v6 2) 0 v16 f17 hIv16 ) k_748 k_749 k_750 k_105 k_751 hd_yX4_add ⟨Nat.le_of_ble_eq_true rfl, Nat.le_of_ble_eq_true rfl⟩ 7 4 rfl rfl (rfl) hl.1 rfl (Nat.le_of_ble_eq_true rfl) dX6_expression_122 (fun u H locs hw hP hD hS => ?_)
              obtain ⟨hG19, hw⟩ := hw
              obtain ⟨v20, f21⟩ := u
              obtain ⟨kV_v20, kF_f21, hIv20, hk0_v20, hk1_v20, hk7_v20, hk8_v20, hk9_v20, hk10_v20, hk31_v20, hk32_v20⟩ := hw
              have hM_v20 : KV [2, 3, 4, 5, 7, 8, 16, 17] v20 v := KV.tr kV_v20 hM_v16 rfl
              have hA_f21 : KF [3, 4] f21 f := KF.tr kF_f21 hA_f17 rfl
              have hP : va_P (dC, dI) vwCl (XW cy x0 x v20 f21) H := hP
              have hD : va_D A (XW cy x0 x v20 f21) := hD
              have hq0_v20 : v20 0 = (v 0) := hk0_v20.trans hq0_v16
              have hq1_v20 : v20 1 = (v 1) := hk1_v20.trans hq1_v16
              have hq9_v20 : v20 9 = (v 9) := hk9_v20.trans hq9_v16
              have hq10_v20 : v20 10 = (v 10) := hk10_v20.trans hq10_v16
              have hq31_v20 : v20 31 = (v 31) := hk31_v20.trans hq31_v16
              have hq32_v20 : v20 32 = (v 32) := hk32_v20.trans hq32_v16
              obtain ⟨t22, et22⟩ : ∃ y : Int32, y = l4_6 + 1 := ⟨_, rfl⟩
              have zt22 : t22.toInt = l4_6.toInt + 1 := (congrArg Int32.toInt et22).trans (add_i rfl tc_1 (om_41 hr4_6) (om_5 zc7))
              refine lv_iinc (v := t22) (lv' := [(4, .int t22), (5, .int (v6 2)), (3, .int 1600), (0, .ref (x 2)), (1, .int 1), (2, .int 1)]) hx hb dX6_expression_125 hl (k := 1) rfl et22.symm (Nat.le_of_ble_eq_true rfl) rfl (fun ls hl => ?_)
              refine lv_goto (tgt := 63) hx hb dX6_expression_128 rfl ?_
              have rg24 := fb_rng t22
              exact ih6 t22 v20 f21 hIv20 hq0_v20 hq1_v20 hq9_v20 hq10_v20 hq31_v20 hq32_v20 ((gsX_X6_expression_8_q1 c7 hG9 hG11 hG15 hG19 et22).symm.trans hT6) ⟨show (0 : Int) ≤ t22.toInt from om_43 hr4_6 zt22, show t22.toInt ≤ (2147483647 : Int) from om_44 rg24⟩ hM_v20 hA_f21 (show (2147483647 - t22.toInt).toNat < n6 from om_33 hm6 zt22 rg24) _ _ _ hP hD hS (lv_sub hl [0, 2, 3, 4, 5] rfl)
            · skip
              subst g18
              refine lv_if_ne (tgt := 112) hx hb dX6_expression_107 rfl (fun c0 => absurd (by decide) c0) (fun _ => ?_)
              refine lv_iconst (v := 0) hx hb dX6_expression_110 rfl ?_
              exact ret 0 (v16, f17) _ _ _ _ _ _ rfl ⟨(hT6.symm.trans (gsX_X6_expression_8_q2 c7 hG9 hG11 hG15)), hM_v16, hA_f17, hIv16, (hk0_v16.trans (hk0_v12.trans hq0_v6)), (hk1_v16.trans (hk1_v12.trans hq1_v6)), (hk9_v16.trans (hk9_v12.trans hq9_v6)), (hk10_v16.trans (hk10_v12.trans hq10_v6)), (hk31_v16.trans (hk31_v12.trans hq31_v6)), (hk32_v16.trans (hk32_v12.trans hq32_v6)), (Or.inr rfl)⟩ hP hD hS dX6_expression_111 (Nat.le_refl _) (Nat.le_refl _)
          · skip
            subst g10
            refine lv_if_eq (tgt := 131) hx hb dX6_expression_80 rfl (fun _ => ?_) (fun c0 => absurd (by decide) c0)
            refine lv_iconst (v := 1) hx hb dX6_expression_131 rfl ?_
            exact ret 1 (v6, f6) _ _ _ _ _ _ rfl ⟨(hT6.symm.trans (gsX_X6_expression_8_q3 c7 hG9)), hM_v6, hA_f6, hIv6, hq0_v6, hq1_v6, hq9_v6, hq10_v6, hq31_v6, hq32_v6, (Or.inl rfl)⟩ hP hD hS dX6_expression_132 (Nat.le_refl _) (Nat.le_refl _)
    exact lp6 (4294967296 + NF) 0 v3 f4 hIv3 hq0_v3 hq1_v3 hq9_v3 hq10_v3 hq31_v3 hq32_v3 (gsX_X6_expression_8_q4 hG2).symm ⟨by decide, by decide⟩ hM_v3 hA_f4 (show (2147483647 - (0 : Int32).toInt).toNat < 4294967296 + NF from om_38 tc_0) _ _ _ hP hD hS (lv_sub hl [0, 1, 2, 3, 4] rfl)
  · skip
    subst g5
    refine lv_if_ne (tgt := 47) hx hb dX6_expression_42 rfl (fun c0 => absurd (by decide) c0) (fun _ => ?_)
    refine lv_iconst (v := 0) hx hb dX6_expression_45 rfl ?_
    exact ret 0 (v3, f4) _ _ _ _ _ _ rfl ⟨(gsX_X6_expression_8_q5 hG2), hM_v3, hA_f4, hIv3, hk0_v3, hk1_v3, hk9_v3, hk10_v3, hk31_v3, hk32_v3, (Or.inr rfl)⟩ hP hD hS dX6_expression_46 (Nat.le_refl _) (Nat.le_refl _)
set_option maxHeartbeats 4000000 in
set_option maxRecDepth 100000 in
theorem sX_X6_expression_7 (NF : Nat) (l : Launch) (dC : Nat → ClassId) (dI : Nat → Nat → Nat) (cy : Nat → ClassId) (x0 : Nat) (x : Nat → Nat)  (v : Nat → Int32) (f : Nat → Nat → Int32) (hIv : XI v)  : ctIS l (dC, dI) cy yX6_expression cX6_expression 6 .boolean 55 1377 0 0 ((Nat → Int32) × (Nat → Nat → Int32)) [.ref (x 2), .int 0, .int 1] (XW cy x0 x v f) (fun r u => gsX_X6_expression_7 NF v f = (r, u) ∧ KV [2, 3, 4, 5, 7, 8, 16, 17] u.1 v ∧ KF [3, 4] u.2 f ∧ XI u.1 ∧ u.1 0 = v 0 ∧ u.1 1 = v 1 ∧ u.1 9 = v 9 ∧ u.1 10 = v 10 ∧ u.1 31 = v 31 ∧ u.1 32 = v 32 ∧ ((r = 1) ∨ (r = 0))) (fun u => XW cy x0 x u.1 u.2) := by
  refine ctIS_of (by decide) (Nat.le_of_ble_eq_true rfl) (fun p e s m below meth c A ls Q hx hb hml hts hown hE hF hT hP hD hA hl ret => ?_)
  have hM_v : KV [2, 3, 4, 5, 7, 8, 16, 17] v v := fun _ _ => rfl
  have hA_f : KF [3, 4] f f := fun _ _ => rfl
  have hown : s.vm.findClass RX6 = some m.cls := hown
  have hS : va_S A s.heap s.heap [] := va_S.rf
  have hl : lv_has ls 6 [(0, .ref (x 2)), (1, .int 0), (2, .int 1)] := hl
  refine lv_iload_n hx hb dX6_expression_0 rfl (lv_at hl 1 rfl) ?_
  refine lv_iconst (v := 5) hx hb dX6_expression_1 rfl ?_
  refine lv_icmp_lt (tgt := 11) hx hb dX6_expression_2 rfl (fun _ => ?_) (fun c0 => absurd (by decide) c0)
  refine lv_iload_n hx hb dX6_expression_11 rfl (lv_at hl 1 rfl) ?_
  refine lv_iconst (v := 2) hx hb dX6_expression_12 rfl ?_
  refine lv_icmp_ne (tgt := 34) hx hb dX6_expression_13 rfl (fun _ => ?_) (fun c0 => absurd c0 (by decide))
  refine lv_aload_n hx hb dX6_expression_34 rfl (lv_at hl 0 rfl) ?_
  refine lv_iload_n hx hb dX6_expression_35 rfl (lv_at hl 1 rfl) ?_
  refine lv_iconst (v := 1) hx hb dX6_expression_36 rfl ?_
  refine lv_iadd hx hb dX6_expression_37 ?_
  refine tI (y := 1) (by decide) ?_
  refine lv_iload_n hx hb dX6_expression_38 rfl (lv_at hl 2 rfl) ?_
  refine csVi (n := 2) (rest := []) hx hb hml hown hts hE hP hD hS hA hF hT (sX_X6_expression_8 NF l dC dI cy x0 x  v f hIv ) k_740 k_742 k_15 k_103 k_743 hd_yX6_expression ⟨Nat.le_of_ble_eq_true rfl, Nat.le_of_ble_eq_true rfl⟩ 3 6 rfl rfl (rfl) hl.1 rfl (Nat.le_of_ble_eq_true rfl) dX6_expression_39 (fun r1 u H locs hw hP hD hS => ?_)
  obtain ⟨hG2, hw⟩ := hw
  obtain ⟨v3, f4⟩ := u
  obtain ⟨kV_v3, kF_f4, hIv3, hk0_v3, hk1_v3, hk9_v3, hk10_v3, hk31_v3, hk32_v3, hw⟩ := hw
  have hM_v3 : KV [2, 3, 4, 5, 7, 8, 16, 17] v3 v := KV.tr kV_v3 hM_v rfl
  have hA_f4 : KF [3, 4] f4 f := KF.tr kF_f4 hA_f rfl
  have hP : va_P (dC, dI) vwCl (XW cy x0 x v3 f4) H := hP
  have hD : va_D A (XW cy x0 x v3 f4) := hD
  have hq0_v3 : v3 0 = (v 0) := hk0_v3
  have hq1_v3 : v3 1 = (v 1) := hk1_v3
  have hq9_v3 : v3 9 = (v 9) := hk9_v3
  have hq10_v3 : v3 10 = (v 10) := hk10_v3
  have hq31_v3 : v3 31 = (v 31) := hk31_v3
  have hq32_v3 : v3 32 = (v 32) := hk32_v3
  rcases hw with ⟨g5⟩ | ⟨g5⟩
  · skip
    subst g5
    refine lv_if_ne (tgt := 47) hx hb dX6_expression_42 rfl (fun _ => ?_) (fun c0 => absurd c0 (by decide))
    refine lv_iload_n hx hb dX6_expression_47 rfl (lv_at hl 1 rfl) ?_
    refine lv_iconst (v := 2) hx hb dX6_expression_48 rfl ?_
    refine lv_icmp_ne (tgt := 56) hx hb dX6_expression_49 rfl (fun _ => ?_) (fun c0 => absurd c0 (by decide))
    refine lv_sipush (v := 1600) hx hb dX6_expression_56 rfl ?_
    refine lv_istore_n (lv' := [(3, .int 1600), (0, .ref (x 2)), (1, .int 0), (2, .int 1)]) hx hb dX6_expression_59 rfl hl (Nat.le_of_ble_eq_true rfl) rfl (fun ls hl => ?_)
    refine lv_iconst (v := 0) hx hb dX6_expression_60 rfl ?_
    refine lv_istore (lv' := [(4, .int 0), (3, .int 1600), (0, .ref (x 2)), (1, .int 0), (2, .int 1)]) hx hb dX6_expression_61 hl (Nat.le_of_ble_eq_true rfl) rfl (fun ls hl => ?_)
    have lp6 : ∀ (n6 : Nat) (l4_6 : Int32) (v6 : Nat → Int32) (f6 : Nat → Nat → Int32), XI v6 → v6 0 = (v 0) → v6 1 = (v 1) → v6 9 = (v 9) → v6 10 = (v 10) → v6 31 = (v 31) → v6 32 = (v 32) → gsX_X6_expression_7_L6 NF n6 l4_6 v6 f6 = (gsX_X6_expression_7 NF v f) → ((0 : Int) ≤ l4_6.toInt ∧ l4_6.toInt ≤ 2147483647) → KV [2, 3, 4, 5, 7, 8, 16, 17] v6 v → KF [3, 4] f6 f → (2147483647 - l4_6.toInt).toNat < n6 → ∀ (H : Heap) (locs : List Loc) (ls : Array Slot), va_P (dC, dI) vwCl (XW cy x0 x v6 f6) H → va_D A (XW cy x0 x v6 f6) → va_S A s.heap H locs → lv_has ls 6 [(4, .int l4_6), (3, .int 1600), (0, .ref (x 2)), (1, .int 0), (2, .int 1)] → W p l e { frames := 55, cells := 0, slots := 0, locals := 1377 } s m ([.ref (x 2), .int 0, .int 1] : List Value).toArray below meth c H locs 0 0 Q (F0 m 63 ls []) := by
      intro n6
      induction n6 with
      | zero => intro l4_6 v6 f6 hIv6 hq0_v6 hq1_v6 hq9_v6 hq10_v6 hq31_v6 hq32_v6 hT6 hr4_6 hM_v6 hA_f6 hm; exact absurd hm (Nat.not_lt_zero _)
      | succ n6 ih6 =>
        intro l4_6 v6 f6 hIv6 hq0_v6 hq1_v6 hq9_v6 hq10_v6 hq31_v6 hq32_v6 hT6 hr4_6 hM_v6 hA_f6 hm6 H locs ls hP hD hS hl
        refine lv_iload hx hb dX6_expression_63 (lv_at hl 0 rfl) ?_
        refine lv_iload_n hx hb dX6_expression_65 rfl (lv_at hl 1 rfl) ?_
        refine lv_icmp_ge (tgt := 131) hx hb dX6_expression_66 rfl (fun c7 => ?_) (fun c7 => ?_)
        · skip
          refine lv_iconst (v := 1) hx hb dX6_expression_131 rfl ?_
          exact ret 1 (v6, f6) _ _ _ _ _ _ rfl ⟨(hT6.symm.trans (gsX_X6_expression_7_q0 c7)), hM_v6, hA_f6, hIv6, hq0_v6, hq1_v6, hq9_v6, hq10_v6, hq31_v6, hq32_v6, (Or.inl rfl)⟩ hP hD hS dX6_expression_132 (Nat.le_refl _) (Nat.le_refl _)
        · skip
          have zc7 : ¬ (1600 ≤ l4_6.toInt) := zMn tc_1600 rfl c7
          refine lv_iload_n hx hb dX6_expression_69 rfl (lv_at hl 3 rfl) ?_
          refine lv_aload_n hx hb dX6_expression_70 rfl (lv_at hl 2 rfl) ?_
          refine va_get (D := (dC, dI)) (ci := 6) (v := .ref (x 0)) (C := RX6) (T := TX6) (N := 7) hx hb hts inB_6 hown hE.1 hP 3 rfl rfl 0 (Nat.le_of_ble_eq_true rfl) (hts _ k_265) (fun _ h9 => h9) rfl dX6_expression_71 ?_
          refine va_getN (D := (dC, dI)) (ci := 9) (v := .int (v6 2)) (C := RX9) (T := TX9) (N := 6) hx hb hts inB_9 hown hE.1 hP 1 rfl rfl 2 (Nat.le_of_ble_eq_true rfl) (va_Nw.use rfl (hE.2 _ k_139)) (fun _ h9 => h9) rfl dX6_expression_74 ?_
          refine cbSi (n := 2) (rest := []) hx hb hml hown hts hE hP hD hS hA (sX_X6_joins_1 NF l dC dI cy x0 x 0 (v6 2) v6 f6 hIv6 ) k_756 k_757 k_103 k_758 he_yX6_joins ⟨Nat.le_of_ble_eq_true rfl, Nat.le_of_ble_eq_true rfl⟩ (rfl) hl.1 rfl (Nat.le_of_ble_eq_true rfl) dX6_expression_77 (fun r8 u H locs hw hP hD hS => ?_)
          obtain ⟨hG9, hw⟩ := hw
          rcases hw with ⟨g10⟩ | ⟨g10⟩
          · skip
            subst g10
            refine lv_if_eq (tgt := 131) hx hb dX6_expression_80 rfl (fun c0 => absurd c0 (by decide)) (fun _ => ?_)
            refine lv_aload_n hx hb dX6_expression_83 rfl (lv_at hl 2 rfl) ?_
            refine va_get (D := (dC, dI)) (ci := 6) (v := .ref (x 0)) (C := RX6) (T := TX6) (N := 7) hx hb hts inB_6 hown hE.1 hP 3 rfl rfl 0 (Nat.le_of_ble_eq_true rfl) (hts _ k_265) (fun _ h9 => h9) rfl dX6_expression_84 ?_
            refine va_getN (D := (dC, dI)) (ci := 9) (v := .int (v6 2)) (C := RX9) (T := TX9) (N := 6) hx hb hts inB_9 hown hE.1 hP 1 rfl rfl 2 (Nat.le_of_ble_eq_true rfl) (va_Nw.use rfl (hE.2 _ k_139)) (fun _ h9 => h9) rfl dX6_expression_87 ?_
            refine lv_istore (lv' := [(5, .int (v6 2)), (4, .int l4_6), (3, .int 1600), (0, .ref (x 2)), (1, .int 0), (2, .int 1)]) hx hb dX6_expression_90 hl (Nat.le_of_ble_eq_true rfl) rfl (fun ls hl => ?_)
            refine lv_aload_n hx hb dX6_expression_92 rfl (lv_at hl 3 rfl) ?_
            refine va_get (D := (dC, dI)) (ci := 6) (v := .ref (x 0)) (C := RX6) (T := TX6) (N := 7) hx hb hts inB_6 hown hE.1 hP 3 rfl rfl 0 (Nat.le_of_ble_eq_true rfl) (hts _ k_265) (fun _ h9 => h9) rfl dX6_expression_93 ?_
            refine csVv (n := 0) (rest := []) hx hb hml hown hts hE hP hD hS hA hF hT (sX_X9_advance_1 NF l dC dI cy x0 x  v6 f6 hIv6 ) k_699 k_559 k_560 k_102 k_561 hd_yX9_advance ⟨Nat.le_of_ble_eq_true rfl, Nat.le_of_ble_eq_true rfl⟩ 1 9 rfl rfl (rfl) hl.1 rfl (Nat.le_of_ble_eq_true rfl) dX6_expression_96 (fun u H locs hw hP hD hS => ?_)
            obtain ⟨hG11, hw⟩ := hw
            obtain ⟨v12, f13⟩ := u
            obtain ⟨kV_v12, kF_f13, hIv12, hk0_v12, hk1_v12, hk7_v12, hk8_v12, hk9_v12, hk10_v12, hk31_v12, hk32_v12⟩ := hw
            have hM_v12 : KV [2, 3, 4, 5, 7, 8, 16, 17] v12 v := KV.tr kV_v12 hM_v6 rfl
            have hA_f13 : KF [3, 4] f13 f := KF.tr kF_f13 hA_f6 rfl
            have hP : va_P (dC, dI) vwCl (XW cy x0 x v12 f13) H := hP
            have hD : va_D A (XW cy x0 x v12 f13) := hD
            have hq0_v12 : v12 0 = (v 0) := hk0_v12.trans hq0_v6
            have hq1_v12 : v12 1 = (v 1) := hk1_v12.trans hq1_v6
            have hq9_v12 : v12 9 = (v 9) := hk9_v12.trans hq9_v6
            have hq10_v12 : v12 10 = (v 10) := hk10_v12.trans hq10_v6
            have hq31_v12 : v12 31 = (v 31) := hk31_v12.trans hq31_v6
            have hq32_v12 : v12 32 = (v 32) := hk32_v12.trans hq32_v6
            refine lv_aload_n hx hb dX6_expression_99 rfl (lv_at hl 3 rfl) ?_
            refine lv_iload_n hx hb dX6_expression_100 rfl (lv_at hl 4 rfl) ?_
            refine lv_iconst (v := 1) hx hb dX6_expression_101 rfl ?_
            refine lv_iadd hx hb dX6_expression_102 ?_
            refine tI (y := 1) (by decide) ?_
            refine lv_iload_n hx hb dX6_expression_103 rfl (lv_at hl 5 rfl) ?_
            refine csVi (n := 2) (rest := []) hx hb hml hown hts hE hP hD hS hA hF hT (sX_X6_expression_8 NF l dC dI cy x0 x  v12 f13 hIv12 ) k_740 k_742 k_15 k_103 k_743 hd_yX6_expression ⟨Nat.le_of_ble_eq_true rfl, Nat.le_of_ble_eq_true rfl⟩ 3 6 rfl rfl (rfl) hl.1 rfl (Nat.le_of_ble_eq_true rfl) dX6_expression_104 (fun r14 u H locs hw hP hD hS => ?_)
            obtain ⟨hG15, hw⟩ := hw
            obtain ⟨v16, f17⟩ := u
            obtain ⟨kV_v16, kF_f17, hIv16, hk0_v16, hk1_v16, hk9_v16, hk10_v16, hk31_v16, hk32_v16, hw⟩ := hw
            have hM_v16 : KV [2, 3, 4, 5, 7, 8, 16, 17] v16 v := KV.tr kV_v16 hM_v12 rfl
            have hA_f17 : KF [3, 4] f17 f := KF.tr kF_f17 hA_f13 rfl
            have hP : va_P (dC, dI) vwCl (XW cy x0 x v16 f17) H := hP
            have hD : va_D A (XW cy x0 x v16 f17) := hD
            have hq0_v16 : v16 0 = (v 0) := hk0_v16.trans hq0_v12
            have hq1_v16 : v16 1 = (v 1) := hk1_v16.trans hq1_v12
            have hq9_v16 : v16 9 = (v 9) := hk9_v16.trans hq9_v12
            have hq10_v16 : v16 10 = (v 10) := hk10_v16.trans hq10_v12
            have hq31_v16 : v16 31 = (v 31) := hk31_v16.trans hq31_v12
            have hq32_v16 : v16 32 = (v 32) := hk32_v16.trans hq32_v12
            rcases hw with ⟨g18⟩ | ⟨g18⟩
            · skip
              subst g18
              refine lv_if_ne (tgt := 112) hx hb dX6_expression_107 rfl (fun _ => ?_) (fun c0 => absurd c0 (by decide))
              refine lv_aload_n hx hb dX6_expression_112 rfl (lv_at hl 3 rfl) ?_
              refine va_get (D := (dC, dI)) (ci := 6) (v := .ref (x 3)) (C := RX6) (T := TX6) (N := 7) hx hb hts inB_6 hown hE.1 hP 3 rfl rfl 1 (Nat.le_of_ble_eq_true rfl) (hts _ k_266) (fun _ h9 => h9) rfl dX6_expression_113 ?_
              refine va_getN (D := (dC, dI)) (ci := 7) (v := .ref (x 6)) (C := RX7) (T := TX7) (N := 10) hx hb hts inB_7 hown hE.1 hP 4 rfl rfl 2 (Nat.le_of_ble_eq_true rfl) (va_Nw.use rfl (hE.2 _ k_210)) (fun _ h9 => h9) rfl dX6_expression_116 ?_
              refine lv_iload hx hb dX6_expression_119 (lv_at hl 0 rfl) ?_
              refine lv_iconst (v := 0) hx hb dX6_expression_121 rfl ?_
              refine cbVv (n := 2) (rest := []) hx hb hml hown hts hE hP hD hS hA (sX_X4_add_1 NF l dC dI cy x0 x (v6 2) 0 v16 f17 hIv16 ) k_748 k_749 k_750 k_105 k_751 hd_yX4_add ⟨Nat.le_of_ble_eq_true rfl, Nat.le_of_ble_eq_true rfl⟩ 7 4 rfl rfl (rfl) hl.1 rfl (Nat.le_of_ble_eq_true rfl) dX6_expression_122 (fun u H locs hw hP hD hS => ?_)
              obtain ⟨hG19, hw⟩ := hw
              obtain ⟨v20, f21⟩ := u
              obtain ⟨kV_v20, kF_f21, hIv20, hk0_v20, hk1_v20, hk7_v20, hk8_v20, hk9_v20, hk10_v20, hk31_v20, hk32_v20⟩ := hw
              have hM_v20 : KV [2, 3, 4, 5, 7, 8, 16, 17] v20 v := KV.tr kV_v20 hM_v16 rfl
              have hA_f21 : KF [3, 4] f21 f := KF.tr kF_f21 hA_f17 rfl
              have hP : va_P (dC, dI) vwCl (XW cy x0 x v20 f21) H := hP
              have hD : va_D A (XW cy x0 x v20 f21) := hD
              have hq0_v20 : v20 0 = (v 0) := hk0_v20.trans hq0_v16
              have hq1_v20 : v20 1 = (v 1) := hk1_v20.trans hq1_v16
              have hq9_v20 : v20 9 = (v 9) := hk9_v20.trans hq9_v16
              have hq10_v20 : v20 10 = (v 10) := hk10_v20.trans hq10_v16
              have hq31_v20 : v20 31 = (v 31) := hk31_v20.trans hq31_v16
              have hq32_v20 : v20 32 = (v 32) := hk32_v20.trans hq32_v16
              obtain ⟨t22, et22⟩ : ∃ y : Int32, y = l4_6 + 1 := ⟨_, rfl⟩
              have zt22 : t22.toInt = l4_6.toInt + 1 := (congrArg Int32.toInt et22).trans (add_i rfl tc_1 (om_41 hr4_6) (om_5 zc7))
              refine lv_iinc (v := t22) (lv' := [(4, .int t22), (5, .int (v6 2)), (3, .int 1600), (0, .ref (x 2)), (1, .int 0), (2, .int 1)]) hx hb dX6_expression_125 hl (k := 1) rfl et22.symm (Nat.le_of_ble_eq_true rfl) rfl (fun ls hl => ?_)
              refine lv_goto (tgt := 63) hx hb dX6_expression_128 rfl ?_
              have rg24 := fb_rng t22
              exact ih6 t22 v20 f21 hIv20 hq0_v20 hq1_v20 hq9_v20 hq10_v20 hq31_v20 hq32_v20 ((gsX_X6_expression_7_q1 c7 hG9 hG11 hG15 hG19 et22).symm.trans hT6) ⟨show (0 : Int) ≤ t22.toInt from om_43 hr4_6 zt22, show t22.toInt ≤ (2147483647 : Int) from om_44 rg24⟩ hM_v20 hA_f21 (show (2147483647 - t22.toInt).toNat < n6 from om_33 hm6 zt22 rg24) _ _ _ hP hD hS (lv_sub hl [0, 2, 3, 4, 5] rfl)
            · skip
              subst g18
              refine lv_if_ne (tgt := 112) hx hb dX6_expression_107 rfl (fun c0 => absurd (by decide) c0) (fun _ => ?_)
              refine lv_iconst (v := 0) hx hb dX6_expression_110 rfl ?_
              exact ret 0 (v16, f17) _ _ _ _ _ _ rfl ⟨(hT6.symm.trans (gsX_X6_expression_7_q2 c7 hG9 hG11 hG15)), hM_v16, hA_f17, hIv16, (hk0_v16.trans (hk0_v12.trans hq0_v6)), (hk1_v16.trans (hk1_v12.trans hq1_v6)), (hk9_v16.trans (hk9_v12.trans hq9_v6)), (hk10_v16.trans (hk10_v12.trans hq10_v6)), (hk31_v16.trans (hk31_v12.trans hq31_v6)), (hk32_v16.trans (hk32_v12.trans hq32_v6)), (Or.inr rfl)⟩ hP hD hS dX6_expression_111 (Nat.le_refl _) (Nat.le_refl _)
          · skip
            subst g10
            refine lv_if_eq (tgt := 131) hx hb dX6_expression_80 rfl (fun _ => ?_) (fun c0 => absurd (by decide) c0)
            refine lv_iconst (v := 1) hx hb dX6_expression_131 rfl ?_
            exact ret 1 (v6, f6) _ _ _ _ _ _ rfl ⟨(hT6.symm.trans (gsX_X6_expression_7_q3 c7 hG9)), hM_v6, hA_f6, hIv6, hq0_v6, hq1_v6, hq9_v6, hq10_v6, hq31_v6, hq32_v6, (Or.inl rfl)⟩ hP hD hS dX6_expression_132 (Nat.le_refl _) (Nat.le_refl _)
    exact lp6 (4294967296 + NF) 0 v3 f4 hIv3 hq0_v3 hq1_v3 hq9_v3 hq10_v3 hq31_v3 hq32_v3 (gsX_X6_expression_7_q4 hG2).symm ⟨by decide, by decide⟩ hM_v3 hA_f4 (show (2147483647 - (0 : Int32).toInt).toNat < 4294967296 + NF from om_38 tc_0) _ _ _ hP hD hS (lv_sub hl [0, 1, 2, 3, 4] rfl)
  · skip
    subst g5
    refine lv_if_ne (tgt := 47) hx hb dX6_expression_42 rfl (fun c0 => absurd (by decide) c0) (fun _ => ?_)
    refine lv_iconst (v := 0) hx hb dX6_expression_45 rfl ?_
    exact ret 0 (v3, f4) _ _ _ _ _ _ rfl ⟨(gsX_X6_expression_7_q5 hG2), hM_v3, hA_f4, hIv3, hk0_v3, hk1_v3, hk9_v3, hk10_v3, hk31_v3, hk32_v3, (Or.inr rfl)⟩ hP hD hS dX6_expression_46 (Nat.le_refl _) (Nat.le_refl _)
set_option maxHeartbeats 4000000 in
set_option maxRecDepth 100000 in
theorem sX_X6_unit_1 (NF : Nat) (l : Launch) (dC : Nat → ClassId) (dI : Nat → Nat → Nat) (cy : Nat → ClassId) (x0 : Nat) (x : Nat → Nat)  (v : Nat → Int32) (f : Nat → Nat → Int32) (hIv : XI v)  : ctIS l (dC, dI) cy yX6_unit cX6_unit 4 .boolean 56 1402 0 0 ((Nat → Int32) × (Nat → Nat → Int32)) [.ref (x 2), .int 0] (XW cy x0 x v f) (fun r u => gsX_X6_unit_1 NF v f = (r, u) ∧ KV [2, 3, 4, 5, 7, 8, 16, 17] u.1 v ∧ KF [3, 4] u.2 f ∧ XI u.1 ∧ u.1 0 = v 0 ∧ u.1 1 = v 1 ∧ u.1 9 = v 9 ∧ u.1 10 = v 10 ∧ u.1 31 = v 31 ∧ u.1 32 = v 32 ∧ ((r = 1) ∨ (r = 0))) (fun u => XW cy x0 x u.1 u.2) := by
  refine ctIS_of (by decide) (Nat.le_of_ble_eq_true rfl) (fun p e s m below meth c A ls Q hx hb hml hts hown hE hF hT hP hD hA hl ret => ?_)
  have hM_v : KV [2, 3, 4, 5, 7, 8, 16, 17] v v := fun _ _ => rfl
  have hA_f : KF [3, 4] f f := fun _ _ => rfl
  have hown : s.vm.findClass RX6 = some m.cls := hown
  have hS : va_S A s.heap s.heap [] := va_S.rf
  have hl : lv_has ls 4 [(0, .ref (x 2)), (1, .int 0)] := hl
  refine lv_aload_n hx hb dX6_unit_0 rfl (lv_at hl 0 rfl) ?_
  refine va_get (D := (dC, dI)) (ci := 6) (v := .ref (x 0)) (C := RX6) (T := TX6) (N := 7) hx hb hts inB_6 hown hE.1 hP 3 rfl rfl 0 (Nat.le_of_ble_eq_true rfl) (hts _ k_265) (fun _ h9 => h9) rfl dX6_unit_1 ?_
  refine va_getN (D := (dC, dI)) (ci := 9) (v := .int (v 2)) (C := RX9) (T := TX9) (N := 6) hx hb hts inB_9 hown hE.1 hP 1 rfl rfl 2 (Nat.le_of_ble_eq_true rfl) (va_Nw.use rfl (hE.2 _ k_139)) (fun _ h9 => h9) rfl dX6_unit_4 ?_
  refine lv_istore_n (lv' := [(2, .int (v 2)), (0, .ref (x 2)), (1, .int 0)]) hx hb dX6_unit_7 rfl hl (Nat.le_of_ble_eq_true rfl) rfl (fun ls hl => ?_)
  refine lv_iload_n hx hb dX6_unit_8 rfl (lv_at hl 0 rfl) ?_
  refine lv_iconst (v := 2) hx hb dX6_unit_9 rfl ?_
  refine lv_icmp_eq (tgt := 25) hx hb dX6_unit_10 rfl (fun c1 => ?_) (fun c1 => ?_)
  · skip
    refine lv_iconst (v := 1) hx hb dX6_unit_25 rfl ?_
    refine lv_goto (tgt := 30) hx hb dX6_unit_26 rfl ?_
    refine lv_istore_n (lv' := [(3, .int 1), (2, .int (v 2)), (0, .ref (x 2)), (1, .int 0)]) hx hb dX6_unit_30 rfl hl (Nat.le_of_ble_eq_true rfl) rfl (fun ls hl => ?_)
    refine lv_iload_n hx hb dX6_unit_31 rfl (lv_at hl 0 rfl) ?_
    refine lv_if_ne (tgt := 41) hx hb dX6_unit_32 rfl (fun _ => ?_) (fun c0 => absurd c0 (by decide))
    refine lv_aload_n hx hb dX6_unit_41 rfl (lv_at hl 2 rfl) ?_
    refine va_get (D := (dC, dI)) (ci := 6) (v := .ref (x 3)) (C := RX6) (T := TX6) (N := 7) hx hb hts inB_6 hown hE.1 hP 3 rfl rfl 1 (Nat.le_of_ble_eq_true rfl) (hts _ k_266) (fun _ h9 => h9) rfl dX6_unit_42 ?_
    refine va_getN (D := (dC, dI)) (ci := 7) (v := .ref (x 6)) (C := RX7) (T := TX7) (N := 10) hx hb hts inB_7 hown hE.1 hP 4 rfl rfl 2 (Nat.le_of_ble_eq_true rfl) (va_Nw.use rfl (hE.2 _ k_210)) (fun _ h9 => h9) rfl dX6_unit_45 ?_
    refine va_getN (D := (dC, dI)) (ci := 4) (v := .int (v 17)) (C := RX4) (T := TX4) (N := 6) hx hb hts inB_4 hown hE.1 hP 7 rfl rfl 5 (Nat.le_of_ble_eq_true rfl) (va_Nw.use rfl (hE.2 _ k_184)) (fun _ h9 => h9) rfl dX6_unit_48 ?_
    refine lv_bipush (v := 30) hx hb dX6_unit_51 rfl ?_
    refine lv_icmp_lt (tgt := 61) hx hb dX6_unit_53 rfl (fun c2 => ?_) (fun c2 => ?_)
    · skip
      refine lv_iload_n hx hb dX6_unit_61 rfl (lv_at hl 0 rfl) ?_
      refine lv_if_eq (tgt := 108) hx hb dX6_unit_62 rfl (fun c0 => absurd c0 (by decide)) (fun _ => ?_)
      refine lv_aload_n hx hb dX6_unit_65 rfl (lv_at hl 2 rfl) ?_
      refine va_get (D := (dC, dI)) (ci := 6) (v := .ref (x 3)) (C := RX6) (T := TX6) (N := 7) hx hb hts inB_6 hown hE.1 hP 3 rfl rfl 1 (Nat.le_of_ble_eq_true rfl) (hts _ k_266) (fun _ h9 => h9) rfl dX6_unit_66 ?_
      refine va_getN (D := (dC, dI)) (ci := 7) (v := .ref (x 6)) (C := RX7) (T := TX7) (N := 10) hx hb hts inB_7 hown hE.1 hP 4 rfl rfl 2 (Nat.le_of_ble_eq_true rfl) (va_Nw.use rfl (hE.2 _ k_210)) (fun _ h9 => h9) rfl dX6_unit_69 ?_
      refine lv_iload_n hx hb dX6_unit_72 rfl (lv_at hl 1 rfl) ?_
      refine lv_aload_n hx hb dX6_unit_73 rfl (lv_at hl 2 rfl) ?_
      refine va_get (D := (dC, dI)) (ci := 6) (v := .ref (x 0)) (C := RX6) (T := TX6) (N := 7) hx hb hts inB_6 hown hE.1 hP 3 rfl rfl 0 (Nat.le_of_ble_eq_true rfl) (hts _ k_265) (fun _ h9 => h9) rfl dX6_unit_74 ?_
      refine va_getN (D := (dC, dI)) (ci := 9) (v := .int (v 5)) (C := RX9) (T := TX9) (N := 6) hx hb hts inB_9 hown hE.1 hP 1 rfl rfl 5 (Nat.le_of_ble_eq_true rfl) (va_Nw.use rfl (hE.2 _ k_145)) (fun _ h9 => h9) rfl dX6_unit_77 ?_
      refine cbVv (n := 2) (rest := []) hx hb hml hown hts hE hP hD hS hA (sX_X4_add_1 NF l dC dI cy x0 x (v 2) (v 5) v f hIv ) k_748 k_749 k_750 k_105 k_751 hd_yX4_add ⟨Nat.le_of_ble_eq_true rfl, Nat.le_of_ble_eq_true rfl⟩ 7 4 rfl rfl (rfl) hl.1 rfl (Nat.le_of_ble_eq_true rfl) dX6_unit_80 (fun u H locs hw hP hD hS => ?_)
      obtain ⟨hG3, hw⟩ := hw
      obtain ⟨v4, f5⟩ := u
      obtain ⟨kV_v4, kF_f5, hIv4, hk0_v4, hk1_v4, hk7_v4, hk8_v4, hk9_v4, hk10_v4, hk31_v4, hk32_v4⟩ := hw
      have hM_v4 : KV [2, 3, 4, 5, 7, 8, 16, 17] v4 v := KV.tr kV_v4 hM_v rfl
      have hA_f5 : KF [3, 4] f5 f := KF.tr kF_f5 hA_f rfl
      have hP : va_P (dC, dI) vwCl (XW cy x0 x v4 f5) H := hP
      have hD : va_D A (XW cy x0 x v4 f5) := hD
      refine lv_aload_n hx hb dX6_unit_83 rfl (lv_at hl 2 rfl) ?_
      refine va_get (D := (dC, dI)) (ci := 6) (v := .ref (x 3)) (C := RX6) (T := TX6) (N := 7) hx hb hts inB_6 hown hE.1 hP 3 rfl rfl 1 (Nat.le_of_ble_eq_true rfl) (hts _ k_266) (fun _ h9 => h9) rfl dX6_unit_84 ?_
      refine va_getN (D := (dC, dI)) (ci := 7) (v := .ref (x 6)) (C := RX7) (T := TX7) (N := 10) hx hb hts inB_7 hown hE.1 hP 4 rfl rfl 2 (Nat.le_of_ble_eq_true rfl) (va_Nw.use rfl (hE.2 _ k_210)) (fun _ h9 => h9) rfl dX6_unit_87 ?_
      refine lv_dup hx hb dX6_unit_90 rfl ?_
      refine va_getN (D := (dC, dI)) (ci := 4) (v := .int (v4 17)) (C := RX4) (T := TX4) (N := 6) hx hb hts inB_4 hown hE.1 hP 7 rfl rfl 5 (Nat.le_of_ble_eq_true rfl) (va_Nw.use rfl (hE.2 _ k_184)) (fun _ h9 => h9) rfl dX6_unit_91 ?_
      refine lv_iconst (v := 1) hx hb dX6_unit_94 rfl ?_
      refine lv_iadd hx hb dX6_unit_95 ?_
      refine lv_topi (fun t6 et6 => ?_)
      refine va_putN (D := (dC, dI)) (ci := 4) (v := .int t6) (ty := tyX4 5) (C := RX4) (T := TX4) (N := 6) hx hb hts inB_4 tyX4 tyX4_ok nmX4 hown hE.1 hP hD hS 7 rfl rfl 5 (by decide) (va_Nw.use rfl (hE.2 _ k_184)) (fun _ h9 => h9) rfl (tyX4_ok 5 (Nat.le_of_ble_eq_true rfl)) rfl rfl (Nat.le_of_ble_eq_true rfl) dX6_unit_96 (fun H locs hP hD hS => ?_)
      have hP : va_P (dC, dI) vwCl (XW cy x0 x (upd v4 17 t6) f5) H := hP
      have hD : va_D A (XW cy x0 x (upd v4 17 t6) f5) := hD
      refine lv_aload_n hx hb dX6_unit_99 rfl (lv_at hl 2 rfl) ?_
      refine va_get (D := (dC, dI)) (ci := 6) (v := .ref (x 0)) (C := RX6) (T := TX6) (N := 7) hx hb hts inB_6 hown hE.1 hP 3 rfl rfl 0 (Nat.le_of_ble_eq_true rfl) (hts _ k_265) (fun _ h9 => h9) rfl dX6_unit_100 ?_
      refine csVv (n := 0) (rest := []) hx hb hml hown hts hE hP hD hS hA hF hT (sX_X9_advance_1 NF l dC dI cy x0 x  (upd v4 17 t6) f5 (Xu_17 (x := t6) hIv4 (rlo _) (rhi _)) ) k_699 k_559 k_560 k_102 k_561 hd_yX9_advance ⟨Nat.le_of_ble_eq_true rfl, Nat.le_of_ble_eq_true rfl⟩ 1 9 rfl rfl (rfl) hl.1 rfl (Nat.le_of_ble_eq_true rfl) dX6_unit_103 (fun u H locs hw hP hD hS => ?_)
      obtain ⟨hG7, hw⟩ := hw
      obtain ⟨v8, f9⟩ := u
      obtain ⟨kV_v8, kF_f9, hIv8, hk0_v8, hk1_v8, hk7_v8, hk8_v8, hk9_v8, hk10_v8, hk31_v8, hk32_v8⟩ := hw
      have hM_v8 : KV [2, 3, 4, 5, 7, 8, 16, 17] v8 v := KV.tr kV_v8 (KV.up (j := 17) (x := t6) hM_v4 rfl) rfl
      have hA_f9 : KF [3, 4] f9 f := KF.tr kF_f9 hA_f5 rfl
      have hP : va_P (dC, dI) vwCl (XW cy x0 x v8 f9) H := hP
      have hD : va_D A (XW cy x0 x v8 f9) := hD
      refine lv_iconst (v := 1) hx hb dX6_unit_106 rfl ?_
      exact ret 1 (v8, f9) _ _ _ _ _ _ rfl ⟨(gsX_X6_unit_1_q0 c1 c2 hG3 et6 hG7), hM_v8, hA_f9, hIv8, (hk0_v8.trans hk0_v4), (hk1_v8.trans hk1_v4), (hk9_v8.trans hk9_v4), (hk10_v8.trans hk10_v4), (hk31_v8.trans hk31_v4), (hk32_v8.trans hk32_v4), (Or.inl rfl)⟩ hP hD hS dX6_unit_107 (Nat.le_refl _) (Nat.le_refl _)
    · skip
      refine lv_aload_n hx hb dX6_unit_56 rfl (lv_at hl 2 rfl) ?_
      refine cbVi (n := 0) (rest := []) hx hb hml hown hts hE hP hD hS hA (sX_X6_refuse_1 NF l dC dI cy x0 x  v f hIv ) k_691 k_693 k_6 k_103 k_694 hd_yX6_refuse ⟨Nat.le_of_ble_eq_true rfl, Nat.le_of_ble_eq_true rfl⟩ 3 6 rfl rfl (rfl) hl.1 rfl (Nat.le_of_ble_eq_true rfl) dX6_unit_57 (fun r10 u H locs hw hP hD hS => ?_)
      obtain ⟨hG11, hw⟩ := hw
      obtain ⟨v12, f13⟩ := u
      obtain ⟨kV_v12, kF_f13, hIv12, hk0_v12, hk1_v12, hk9_v12, hk10_v12, hk31_v12, hk32_v12, hw⟩ := hw
      have hM_v12 : KV [2, 3, 4, 5, 7, 8, 16, 17] v12 v := KV.tr kV_v12 hM_v rfl
      have hA_f13 : KF [3, 4] f13 f := KF.tr kF_f13 hA_f rfl
      have hP : va_P (dC, dI) vwCl (XW cy x0 x v12 f13) H := hP
      have hD : va_D A (XW cy x0 x v12 f13) := hD
      rcases hw with ⟨g14⟩ | ⟨g14⟩
      · skip
        subst g14
        exact ret 1 (v12, f13) _ _ _ _ _ _ rfl ⟨(gsX_X6_unit_1_q1 c1 c2 hG11), hM_v12, hA_f13, hIv12, hk0_v12, hk1_v12, hk9_v12, hk10_v12, hk31_v12, hk32_v12, (Or.inl rfl)⟩ hP hD hS dX6_unit_60 (Nat.le_refl _) (Nat.le_refl _)
      · skip
        subst g14
        exact ret 0 (v12, f13) _ _ _ _ _ _ rfl ⟨(gsX_X6_unit_1_q2 c1 c2 hG11), hM_v12, hA_f13, hIv12, hk0_v12, hk1_v12, hk9_v12, hk10_v12, hk31_v12, hk32_v12, (Or.inr rfl)⟩ hP hD hS dX6_unit_60 (Nat.le_refl _) (Nat.le_refl _)
  · skip
    refine lv_iload_n hx hb dX6_unit_13 rfl (lv_at hl 0 rfl) ?_
    refine lv_bipush (v := 116) hx hb dX6_unit_14 rfl ?_
    refine lv_icmp_lt (tgt := 29) hx hb dX6_unit_16 rfl (fun c15 => ?_) (fun c15 => ?_)
    · skip
      refine lv_iconst (v := 0) hx hb dX6_unit_29 rfl ?_
      refine lv_istore_n (lv' := [(3, .int 0), (2, .int (v 2)), (0, .ref (x 2)), (1, .int 0)]) hx hb dX6_unit_30 rfl hl (Nat.le_of_ble_eq_true rfl) rfl (fun ls hl => ?_)
      refine lv_iload_n hx hb dX6_unit_31 rfl (lv_at hl 0 rfl) ?_
      refine lv_if_ne (tgt := 41) hx hb dX6_unit_32 rfl (fun c0 => absurd (by decide) c0) (fun _ => ?_)
      refine lv_iload_n hx hb dX6_unit_35 rfl (lv_at hl 1 rfl) ?_
      refine lv_bipush (v := 40) hx hb dX6_unit_36 rfl ?_
      refine lv_icmp_ne (tgt := 56) hx hb dX6_unit_38 rfl (fun c16 => ?_) (fun c16 => ?_)
      · skip
        refine lv_aload_n hx hb dX6_unit_56 rfl (lv_at hl 2 rfl) ?_
        refine cbVi (n := 0) (rest := []) hx hb hml hown hts hE hP hD hS hA (sX_X6_refuse_1 NF l dC dI cy x0 x  v f hIv ) k_691 k_693 k_6 k_103 k_694 hd_yX6_refuse ⟨Nat.le_of_ble_eq_true rfl, Nat.le_of_ble_eq_true rfl⟩ 3 6 rfl rfl (rfl) hl.1 rfl (Nat.le_of_ble_eq_true rfl) dX6_unit_57 (fun r17 u H locs hw hP hD hS => ?_)
        obtain ⟨hG18, hw⟩ := hw
        obtain ⟨v19, f20⟩ := u
        obtain ⟨kV_v19, kF_f20, hIv19, hk0_v19, hk1_v19, hk9_v19, hk10_v19, hk31_v19, hk32_v19, hw⟩ := hw
        have hM_v19 : KV [2, 3, 4, 5, 7, 8, 16, 17] v19 v := KV.tr kV_v19 hM_v rfl
        have hA_f20 : KF [3, 4] f20 f := KF.tr kF_f20 hA_f rfl
        have hP : va_P (dC, dI) vwCl (XW cy x0 x v19 f20) H := hP
        have hD : va_D A (XW cy x0 x v19 f20) := hD
        rcases hw with ⟨g21⟩ | ⟨g21⟩
        · skip
          subst g21
          exact ret 1 (v19, f20) _ _ _ _ _ _ rfl ⟨(gsX_X6_unit_1_q3 c1 c15 c16 hG18), hM_v19, hA_f20, hIv19, hk0_v19, hk1_v19, hk9_v19, hk10_v19, hk31_v19, hk32_v19, (Or.inl rfl)⟩ hP hD hS dX6_unit_60 (Nat.le_refl _) (Nat.le_refl _)
        · skip
          subst g21
          exact ret 0 (v19, f20) _ _ _ _ _ _ rfl ⟨(gsX_X6_unit_1_q4 c1 c15 c16 hG18), hM_v19, hA_f20, hIv19, hk0_v19, hk1_v19, hk9_v19, hk10_v19, hk31_v19, hk32_v19, (Or.inr rfl)⟩ hP hD hS dX6_unit_60 (Nat.le_refl _) (Nat.le_refl _)
      · skip
        refine lv_aload_n hx hb dX6_unit_41 rfl (lv_at hl 2 rfl) ?_
        refine va_get (D := (dC, dI)) (ci := 6) (v := .ref (x 3)) (C := RX6) (T := TX6) (N := 7) hx hb hts inB_6 hown hE.1 hP 3 rfl rfl 1 (Nat.le_of_ble_eq_true rfl) (hts _ k_266) (fun _ h9 => h9) rfl dX6_unit_42 ?_
        refine va_getN (D := (dC, dI)) (ci := 7) (v := .ref (x 6)) (C := RX7) (T := TX7) (N := 10) hx hb hts inB_7 hown hE.1 hP 4 rfl rfl 2 (Nat.le_of_ble_eq_true rfl) (va_Nw.use rfl (hE.2 _ k_210)) (fun _ h9 => h9) rfl dX6_unit_45 ?_
        refine va_getN (D := (dC, dI)) (ci := 4) (v := .int (v 17)) (C := RX4) (T := TX4) (N := 6) hx hb hts inB_4 hown hE.1 hP 7 rfl rfl 5 (Nat.le_of_ble_eq_true rfl) (va_Nw.use rfl (hE.2 _ k_184)) (fun _ h9 => h9) rfl dX6_unit_48 ?_
        refine lv_bipush (v := 30) hx hb dX6_unit_51 rfl ?_
        refine lv_icmp_lt (tgt := 61) hx hb dX6_unit_53 rfl (fun c22 => ?_) (fun c22 => ?_)
        · skip
          refine lv_iload_n hx hb dX6_unit_61 rfl (lv_at hl 0 rfl) ?_
          refine lv_if_eq (tgt := 108) hx hb dX6_unit_62 rfl (fun _ => ?_) (fun c0 => absurd (by decide) c0)
          refine lv_iload_n hx hb dX6_unit_108 rfl (lv_at hl 3 rfl) ?_
          refine lv_bipush (v := 7) hx hb dX6_unit_109 rfl ?_
          refine lv_icmp_lt (tgt := 119) hx hb dX6_unit_111 rfl (fun _ => ?_) (fun c0 => absurd (by decide) c0)
          refine lv_aload_n hx hb dX6_unit_119 rfl (lv_at hl 2 rfl) ?_
          refine va_get (D := (dC, dI)) (ci := 6) (v := .ref (x 3)) (C := RX6) (T := TX6) (N := 7) hx hb hts inB_6 hown hE.1 hP 3 rfl rfl 1 (Nat.le_of_ble_eq_true rfl) (hts _ k_266) (fun _ h9 => h9) rfl dX6_unit_120 ?_
          refine va_getN (D := (dC, dI)) (ci := 7) (v := .ref (x 6)) (C := RX7) (T := TX7) (N := 10) hx hb hts inB_7 hown hE.1 hP 4 rfl rfl 2 (Nat.le_of_ble_eq_true rfl) (va_Nw.use rfl (hE.2 _ k_210)) (fun _ h9 => h9) rfl dX6_unit_123 ?_
          refine lv_dup hx hb dX6_unit_126 rfl ?_
          refine va_getN (D := (dC, dI)) (ci := 4) (v := .int (v 17)) (C := RX4) (T := TX4) (N := 6) hx hb hts inB_4 hown hE.1 hP 7 rfl rfl 5 (Nat.le_of_ble_eq_true rfl) (va_Nw.use rfl (hE.2 _ k_184)) (fun _ h9 => h9) rfl dX6_unit_127 ?_
          refine lv_iconst (v := 1) hx hb dX6_unit_130 rfl ?_
          refine lv_iadd hx hb dX6_unit_131 ?_
          refine lv_topi (fun t23 et23 => ?_)
          refine va_putN (D := (dC, dI)) (ci := 4) (v := .int t23) (ty := tyX4 5) (C := RX4) (T := TX4) (N := 6) hx hb hts inB_4 tyX4 tyX4_ok nmX4 hown hE.1 hP hD hS 7 rfl rfl 5 (by decide) (va_Nw.use rfl (hE.2 _ k_184)) (fun _ h9 => h9) rfl (tyX4_ok 5 (Nat.le_of_ble_eq_true rfl)) rfl rfl (Nat.le_of_ble_eq_true rfl) dX6_unit_132 (fun H locs hP hD hS => ?_)
          have hP : va_P (dC, dI) vwCl (XW cy x0 x (upd v 17 t23) f) H := hP
          have hD : va_D A (XW cy x0 x (upd v 17 t23) f) := hD
          refine lv_aload_n hx hb dX6_unit_135 rfl (lv_at hl 2 rfl) ?_
          refine va_get (D := (dC, dI)) (ci := 6) (v := .ref (x 0)) (C := RX6) (T := TX6) (N := 7) hx hb hts inB_6 hown hE.1 hP 3 rfl rfl 0 (Nat.le_of_ble_eq_true rfl) (hts _ k_265) (fun _ h9 => h9) rfl dX6_unit_136 ?_
          refine csVv (n := 0) (rest := []) hx hb hml hown hts hE hP hD hS hA hF hT (sX_X9_advance_1 NF l dC dI cy x0 x  (upd v 17 t23) f (Xu_17 (x := t23) hIv (rlo _) (rhi _)) ) k_699 k_559 k_560 k_102 k_561 hd_yX9_advance ⟨Nat.le_of_ble_eq_true rfl, Nat.le_of_ble_eq_true rfl⟩ 1 9 rfl rfl (rfl) hl.1 rfl (Nat.le_of_ble_eq_true rfl) dX6_unit_139 (fun u H locs hw hP hD hS => ?_)
          obtain ⟨hG25, hw⟩ := hw
          obtain ⟨v26, f27⟩ := u
          obtain ⟨kV_v26, kF_f27, hIv26, hk0_v26, hk1_v26, hk7_v26, hk8_v26, hk9_v26, hk10_v26, hk31_v26, hk32_v26⟩ := hw
          have hM_v26 : KV [2, 3, 4, 5, 7, 8, 16, 17] v26 v := KV.tr kV_v26 (KV.up (j := 17) (x := t23) hM_v rfl) rfl
          have hA_f27 : KF [3, 4] f27 f := KF.tr kF_f27 hA_f rfl
          have hP : va_P (dC, dI) vwCl (XW cy x0 x v26 f27) H := hP
          have hD : va_D A (XW cy x0 x v26 f27) := hD
          refine lv_aload_n hx hb dX6_unit_142 rfl (lv_at hl 2 rfl) ?_
          refine lv_iconst (v := 0) hx hb dX6_unit_143 rfl ?_
          refine lv_iload_n hx hb dX6_unit_144 rfl (lv_at hl 3 rfl) ?_
          refine lv_iconst (v := 1) hx hb dX6_unit_145 rfl ?_
          refine lv_iadd hx hb dX6_unit_146 ?_
          refine tI (y := 1) (by decide) ?_
          refine csVi (n := 2) (rest := []) hx hb hml hown hts hE hP hD hS hA hF hT (sX_X6_expression_7 NF l dC dI cy x0 x  v26 f27 hIv26 ) k_740 k_742 k_15 k_103 k_743 hd_yX6_expression ⟨Nat.le_of_ble_eq_true rfl, Nat.le_of_ble_eq_true rfl⟩ 3 6 rfl rfl (rfl) hl.1 rfl (Nat.le_of_ble_eq_true rfl) dX6_unit_147 (fun r28 u H locs hw hP hD hS => ?_)
          obtain ⟨hG29, hw⟩ := hw
          obtain ⟨v30, f31⟩ := u
          obtain ⟨kV_v30, kF_f31, hIv30, hk0_v30, hk1_v30, hk9_v30, hk10_v30, hk31_v30, hk32_v30, hw⟩ := hw
          have hM_v30 : KV [2, 3, 4, 5, 7, 8, 16, 17] v30 v := KV.tr kV_v30 hM_v26 rfl
          have hA_f31 : KF [3, 4] f31 f := KF.tr kF_f31 hA_f27 rfl
          have hP : va_P (dC, dI) vwCl (XW cy x0 x v30 f31) H := hP
          have hD : va_D A (XW cy x0 x v30 f31) := hD
          rcases hw with ⟨g32⟩ | ⟨g32⟩
          · skip
            subst g32
            refine lv_if_eq (tgt := 166) hx hb dX6_unit_150 rfl (fun c0 => absurd c0 (by decide)) (fun _ => ?_)
            refine lv_aload_n hx hb dX6_unit_153 rfl (lv_at hl 2 rfl) ?_
            refine lv_bipush (v := 41) hx hb dX6_unit_154 rfl ?_
            refine csVi (n := 1) (rest := []) hx hb hml hown hts hE hP hD hS hA hF hT (sX_X6_taken_1 NF l dC dI cy x0 x 41 v30 f31 hIv30 ) k_724 k_726 k_12 k_103 k_727 hd_yX6_taken ⟨Nat.le_of_ble_eq_true rfl, Nat.le_of_ble_eq_true rfl⟩ 3 6 rfl rfl (rfl) hl.1 rfl (Nat.le_of_ble_eq_true rfl) dX6_unit_156 (fun r33 u H locs hw hP hD hS => ?_)
            obtain ⟨hG34, hw⟩ := hw
            obtain ⟨v35, f36⟩ := u
            obtain ⟨kV_v35, kF_f36, hIv35, hk0_v35, hk1_v35, hk9_v35, hk10_v35, hk31_v35, hk32_v35, hw⟩ := hw
            have hM_v35 : KV [2, 3, 4, 5, 7, 8, 16, 17] v35 v := KV.tr kV_v35 hM_v30 rfl
            have hA_f36 : KF [3, 4] f36 f := KF.tr kF_f36 hA_f31 rfl
            have hP : va_P (dC, dI) vwCl (XW cy x0 x v35 f36) H := hP
            have hD : va_D A (XW cy x0 x v35 f36) := hD
            rcases hw with ⟨g37⟩ | ⟨g37⟩
            · skip
              subst g37
              refine lv_if_eq (tgt := 166) hx hb dX6_unit_159 rfl (fun c0 => absurd c0 (by decide)) (fun _ => ?_)
              refine lv_iconst (v := 1) hx hb dX6_unit_162 rfl ?_
              refine lv_goto (tgt := 167) hx hb dX6_unit_163 rfl ?_
              exact ret 1 (v35, f36) _ _ _ _ _ _ rfl ⟨(gsX_X6_unit_1_q5 c1 c15 c16 c22 et23 hG25 hG29 hG34), hM_v35, hA_f36, hIv35, (hk0_v35.trans (hk0_v30.trans hk0_v26)), (hk1_v35.trans (hk1_v30.trans hk1_v26)), (hk9_v35.trans (hk9_v30.trans hk9_v26)), (hk10_v35.trans (hk10_v30.trans hk10_v26)), (hk31_v35.trans (hk31_v30.trans hk31_v26)), (hk32_v35.trans (hk32_v30.trans hk32_v26)), (Or.inl rfl)⟩ hP hD hS dX6_unit_167 (Nat.le_refl _) (Nat.le_refl _)
            · skip
              subst g37
              refine lv_if_eq (tgt := 166) hx hb dX6_unit_159 rfl (fun _ => ?_) (fun c0 => absurd (by decide) c0)
              refine lv_iconst (v := 0) hx hb dX6_unit_166 rfl ?_
              exact ret 0 (v35, f36) _ _ _ _ _ _ rfl ⟨(gsX_X6_unit_1_q6 c1 c15 c16 c22 et23 hG25 hG29 hG34), hM_v35, hA_f36, hIv35, (hk0_v35.trans (hk0_v30.trans hk0_v26)), (hk1_v35.trans (hk1_v30.trans hk1_v26)), (hk9_v35.trans (hk9_v30.trans hk9_v26)), (hk10_v35.trans (hk10_v30.trans hk10_v26)), (hk31_v35.trans (hk31_v30.trans hk31_v26)), (hk32_v35.trans (hk32_v30.trans hk32_v26)), (Or.inr rfl)⟩ hP hD hS dX6_unit_167 (Nat.le_refl _) (Nat.le_refl _)
          · skip
            subst g32
            refine lv_if_eq (tgt := 166) hx hb dX6_unit_150 rfl (fun _ => ?_) (fun c0 => absurd (by decide) c0)
            refine lv_iconst (v := 0) hx hb dX6_unit_166 rfl ?_
            exact ret 0 (v30, f31) _ _ _ _ _ _ rfl ⟨(gsX_X6_unit_1_q7 c1 c15 c16 c22 et23 hG25 hG29), hM_v30, hA_f31, hIv30, (hk0_v30.trans hk0_v26), (hk1_v30.trans hk1_v26), (hk9_v30.trans hk9_v26), (hk10_v30.trans hk10_v26), (hk31_v30.trans hk31_v26), (hk32_v30.trans hk32_v26), (Or.inr rfl)⟩ hP hD hS dX6_unit_167 (Nat.le_refl _) (Nat.le_refl _)
        · skip
          refine lv_aload_n hx hb dX6_unit_56 rfl (lv_at hl 2 rfl) ?_
          refine cbVi (n := 0) (rest := []) hx hb hml hown hts hE hP hD hS hA (sX_X6_refuse_1 NF l dC dI cy x0 x  v f hIv ) k_691 k_693 k_6 k_103 k_694 hd_yX6_refuse ⟨Nat.le_of_ble_eq_true rfl, Nat.le_of_ble_eq_true rfl⟩ 3 6 rfl rfl (rfl) hl.1 rfl (Nat.le_of_ble_eq_true rfl) dX6_unit_57 (fun r38 u H locs hw hP hD hS => ?_)
          obtain ⟨hG39, hw⟩ := hw
          obtain ⟨v40, f41⟩ := u
          obtain ⟨kV_v40, kF_f41, hIv40, hk0_v40, hk1_v40, hk9_v40, hk10_v40, hk31_v40, hk32_v40, hw⟩ := hw
          have hM_v40 : KV [2, 3, 4, 5, 7, 8, 16, 17] v40 v := KV.tr kV_v40 hM_v rfl
          have hA_f41 : KF [3, 4] f41 f := KF.tr kF_f41 hA_f rfl
          have hP : va_P (dC, dI) vwCl (XW cy x0 x v40 f41) H := hP
          have hD : va_D A (XW cy x0 x v40 f41) := hD
          rcases hw with ⟨g42⟩ | ⟨g42⟩
          · skip
            subst g42
            exact ret 1 (v40, f41) _ _ _ _ _ _ rfl ⟨(gsX_X6_unit_1_q8 c1 c15 c16 c22 hG39), hM_v40, hA_f41, hIv40, hk0_v40, hk1_v40, hk9_v40, hk10_v40, hk31_v40, hk32_v40, (Or.inl rfl)⟩ hP hD hS dX6_unit_60 (Nat.le_refl _) (Nat.le_refl _)
          · skip
            subst g42
            exact ret 0 (v40, f41) _ _ _ _ _ _ rfl ⟨(gsX_X6_unit_1_q9 c1 c15 c16 c22 hG39), hM_v40, hA_f41, hIv40, hk0_v40, hk1_v40, hk9_v40, hk10_v40, hk31_v40, hk32_v40, (Or.inr rfl)⟩ hP hD hS dX6_unit_60 (Nat.le_refl _) (Nat.le_refl _)
    · skip
      refine lv_iload_n hx hb dX6_unit_19 rfl (lv_at hl 0 rfl) ?_
      refine lv_bipush (v := 121) hx hb dX6_unit_20 rfl ?_
      refine lv_icmp_gt (tgt := 29) hx hb dX6_unit_22 rfl (fun c43 => ?_) (fun c43 => ?_)
      · skip
        refine lv_iconst (v := 0) hx hb dX6_unit_29 rfl ?_
        refine lv_istore_n (lv' := [(3, .int 0), (2, .int (v 2)), (0, .ref (x 2)), (1, .int 0)]) hx hb dX6_unit_30 rfl hl (Nat.le_of_ble_eq_true rfl) rfl (fun ls hl => ?_)
        refine lv_iload_n hx hb dX6_unit_31 rfl (lv_at hl 0 rfl) ?_
        refine lv_if_ne (tgt := 41) hx hb dX6_unit_32 rfl (fun c0 => absurd (by decide) c0) (fun _ => ?_)
        refine lv_iload_n hx hb dX6_unit_35 rfl (lv_at hl 1 rfl) ?_
        refine lv_bipush (v := 40) hx hb dX6_unit_36 rfl ?_
        refine lv_icmp_ne (tgt := 56) hx hb dX6_unit_38 rfl (fun c44 => ?_) (fun c44 => ?_)
        · skip
          refine lv_aload_n hx hb dX6_unit_56 rfl (lv_at hl 2 rfl) ?_
          refine cbVi (n := 0) (rest := []) hx hb hml hown hts hE hP hD hS hA (sX_X6_refuse_1 NF l dC dI cy x0 x  v f hIv ) k_691 k_693 k_6 k_103 k_694 hd_yX6_refuse ⟨Nat.le_of_ble_eq_true rfl, Nat.le_of_ble_eq_true rfl⟩ 3 6 rfl rfl (rfl) hl.1 rfl (Nat.le_of_ble_eq_true rfl) dX6_unit_57 (fun r45 u H locs hw hP hD hS => ?_)
          obtain ⟨hG46, hw⟩ := hw
          obtain ⟨v47, f48⟩ := u
          obtain ⟨kV_v47, kF_f48, hIv47, hk0_v47, hk1_v47, hk9_v47, hk10_v47, hk31_v47, hk32_v47, hw⟩ := hw
          have hM_v47 : KV [2, 3, 4, 5, 7, 8, 16, 17] v47 v := KV.tr kV_v47 hM_v rfl
          have hA_f48 : KF [3, 4] f48 f := KF.tr kF_f48 hA_f rfl
          have hP : va_P (dC, dI) vwCl (XW cy x0 x v47 f48) H := hP
          have hD : va_D A (XW cy x0 x v47 f48) := hD
          rcases hw with ⟨g49⟩ | ⟨g49⟩
          · skip
            subst g49
            exact ret 1 (v47, f48) _ _ _ _ _ _ rfl ⟨(gsX_X6_unit_1_q10 c1 c15 c43 c44 hG46), hM_v47, hA_f48, hIv47, hk0_v47, hk1_v47, hk9_v47, hk10_v47, hk31_v47, hk32_v47, (Or.inl rfl)⟩ hP hD hS dX6_unit_60 (Nat.le_refl _) (Nat.le_refl _)
          · skip
            subst g49
            exact ret 0 (v47, f48) _ _ _ _ _ _ rfl ⟨(gsX_X6_unit_1_q11 c1 c15 c43 c44 hG46), hM_v47, hA_f48, hIv47, hk0_v47, hk1_v47, hk9_v47, hk10_v47, hk31_v47, hk32_v47, (Or.inr rfl)⟩ hP hD hS dX6_unit_60 (Nat.le_refl _) (Nat.le_refl _)
        · skip
          refine lv_aload_n hx hb dX6_unit_41 rfl (lv_at hl 2 rfl) ?_
          refine va_get (D := (dC, dI)) (ci := 6) (v := .ref (x 3)) (C := RX6) (T := TX6) (N := 7) hx hb hts inB_6 hown hE.1 hP 3 rfl rfl 1 (Nat.le_of_ble_eq_true rfl) (hts _ k_266) (fun _ h9 => h9) rfl dX6_unit_42 ?_
          refine va_getN (D := (dC, dI)) (ci := 7) (v := .ref (x 6)) (C := RX7) (T := TX7) (N := 10) hx hb hts inB_7 hown hE.1 hP 4 rfl rfl 2 (Nat.le_of_ble_eq_true rfl) (va_Nw.use rfl (hE.2 _ k_210)) (fun _ h9 => h9) rfl dX6_unit_45 ?_
          refine va_getN (D := (dC, dI)) (ci := 4) (v := .int (v 17)) (C := RX4) (T := TX4) (N := 6) hx hb hts inB_4 hown hE.1 hP 7 rfl rfl 5 (Nat.le_of_ble_eq_true rfl) (va_Nw.use rfl (hE.2 _ k_184)) (fun _ h9 => h9) rfl dX6_unit_48 ?_
          refine lv_bipush (v := 30) hx hb dX6_unit_51 rfl ?_
          refine lv_icmp_lt (tgt := 61) hx hb dX6_unit_53 rfl (fun c50 => ?_) (fun c50 => ?_)
          · skip
            refine lv_iload_n hx hb dX6_unit_61 rfl (lv_at hl 0 rfl) ?_
            refine lv_if_eq (tgt := 108) hx hb dX6_unit_62 rfl (fun _ => ?_) (fun c0 => absurd (by decide) c0)
            refine lv_iload_n hx hb dX6_unit_108 rfl (lv_at hl 3 rfl) ?_
            refine lv_bipush (v := 7) hx hb dX6_unit_109 rfl ?_
            refine lv_icmp_lt (tgt := 119) hx hb dX6_unit_111 rfl (fun _ => ?_) (fun c0 => absurd (by decide) c0)
            refine lv_aload_n hx hb dX6_unit_119 rfl (lv_at hl 2 rfl) ?_
            refine va_get (D := (dC, dI)) (ci := 6) (v := .ref (x 3)) (C := RX6) (T := TX6) (N := 7) hx hb hts inB_6 hown hE.1 hP 3 rfl rfl 1 (Nat.le_of_ble_eq_true rfl) (hts _ k_266) (fun _ h9 => h9) rfl dX6_unit_120 ?_
            refine va_getN (D := (dC, dI)) (ci := 7) (v := .ref (x 6)) (C := RX7) (T := TX7) (N := 10) hx hb hts inB_7 hown hE.1 hP 4 rfl rfl 2 (Nat.le_of_ble_eq_true rfl) (va_Nw.use rfl (hE.2 _ k_210)) (fun _ h9 => h9) rfl dX6_unit_123 ?_
            refine lv_dup hx hb dX6_unit_126 rfl ?_
            refine va_getN (D := (dC, dI)) (ci := 4) (v := .int (v 17)) (C := RX4) (T := TX4) (N := 6) hx hb hts inB_4 hown hE.1 hP 7 rfl rfl 5 (Nat.le_of_ble_eq_true rfl) (va_Nw.use rfl (hE.2 _ k_184)) (fun _ h9 => h9) rfl dX6_unit_127 ?_
            refine lv_iconst (v := 1) hx hb dX6_unit_130 rfl ?_
            refine lv_iadd hx hb dX6_unit_131 ?_
            refine lv_topi (fun t51 et51 => ?_)
            refine va_putN (D := (dC, dI)) (ci := 4) (v := .int t51) (ty := tyX4 5) (C := RX4) (T := TX4) (N := 6) hx hb hts inB_4 tyX4 tyX4_ok nmX4 hown hE.1 hP hD hS 7 rfl rfl 5 (by decide) (va_Nw.use rfl (hE.2 _ k_184)) (fun _ h9 => h9) rfl (tyX4_ok 5 (Nat.le_of_ble_eq_true rfl)) rfl rfl (Nat.le_of_ble_eq_true rfl) dX6_unit_132 (fun H locs hP hD hS => ?_)
            have hP : va_P (dC, dI) vwCl (XW cy x0 x (upd v 17 t51) f) H := hP
            have hD : va_D A (XW cy x0 x (upd v 17 t51) f) := hD
            refine lv_aload_n hx hb dX6_unit_135 rfl (lv_at hl 2 rfl) ?_
            refine va_get (D := (dC, dI)) (ci := 6) (v := .ref (x 0)) (C := RX6) (T := TX6) (N := 7) hx hb hts inB_6 hown hE.1 hP 3 rfl rfl 0 (Nat.le_of_ble_eq_true rfl) (hts _ k_265) (fun _ h9 => h9) rfl dX6_unit_136 ?_
            refine csVv (n := 0) (rest := []) hx hb hml hown hts hE hP hD hS hA hF hT (sX_X9_advance_1 NF l dC dI cy x0 x  (upd v 17 t51) f (Xu_17 (x := t51) hIv (rlo _) (rhi _)) ) k_699 k_559 k_560 k_102 k_561 hd_yX9_advance ⟨Nat.le_of_ble_eq_true rfl, Nat.le_of_ble_eq_true rfl⟩ 1 9 rfl rfl (rfl) hl.1 rfl (Nat.le_of_ble_eq_true rfl) dX6_unit_139 (fun u H locs hw hP hD hS => ?_)
            obtain ⟨hG53, hw⟩ := hw
            obtain ⟨v54, f55⟩ := u
            obtain ⟨kV_v54, kF_f55, hIv54, hk0_v54, hk1_v54, hk7_v54, hk8_v54, hk9_v54, hk10_v54, hk31_v54, hk32_v54⟩ := hw
            have hM_v54 : KV [2, 3, 4, 5, 7, 8, 16, 17] v54 v := KV.tr kV_v54 (KV.up (j := 17) (x := t51) hM_v rfl) rfl
            have hA_f55 : KF [3, 4] f55 f := KF.tr kF_f55 hA_f rfl
            have hP : va_P (dC, dI) vwCl (XW cy x0 x v54 f55) H := hP
            have hD : va_D A (XW cy x0 x v54 f55) := hD
            refine lv_aload_n hx hb dX6_unit_142 rfl (lv_at hl 2 rfl) ?_
            refine lv_iconst (v := 0) hx hb dX6_unit_143 rfl ?_
            refine lv_iload_n hx hb dX6_unit_144 rfl (lv_at hl 3 rfl) ?_
            refine lv_iconst (v := 1) hx hb dX6_unit_145 rfl ?_
            refine lv_iadd hx hb dX6_unit_146 ?_
            refine tI (y := 1) (by decide) ?_
            refine csVi (n := 2) (rest := []) hx hb hml hown hts hE hP hD hS hA hF hT (sX_X6_expression_7 NF l dC dI cy x0 x  v54 f55 hIv54 ) k_740 k_742 k_15 k_103 k_743 hd_yX6_expression ⟨Nat.le_of_ble_eq_true rfl, Nat.le_of_ble_eq_true rfl⟩ 3 6 rfl rfl (rfl) hl.1 rfl (Nat.le_of_ble_eq_true rfl) dX6_unit_147 (fun r56 u H locs hw hP hD hS => ?_)
            obtain ⟨hG57, hw⟩ := hw
            obtain ⟨v58, f59⟩ := u
            obtain ⟨kV_v58, kF_f59, hIv58, hk0_v58, hk1_v58, hk9_v58, hk10_v58, hk31_v58, hk32_v58, hw⟩ := hw
            have hM_v58 : KV [2, 3, 4, 5, 7, 8, 16, 17] v58 v := KV.tr kV_v58 hM_v54 rfl
            have hA_f59 : KF [3, 4] f59 f := KF.tr kF_f59 hA_f55 rfl
            have hP : va_P (dC, dI) vwCl (XW cy x0 x v58 f59) H := hP
            have hD : va_D A (XW cy x0 x v58 f59) := hD
            rcases hw with ⟨g60⟩ | ⟨g60⟩
            · skip
              subst g60
              refine lv_if_eq (tgt := 166) hx hb dX6_unit_150 rfl (fun c0 => absurd c0 (by decide)) (fun _ => ?_)
              refine lv_aload_n hx hb dX6_unit_153 rfl (lv_at hl 2 rfl) ?_
              refine lv_bipush (v := 41) hx hb dX6_unit_154 rfl ?_
              refine csVi (n := 1) (rest := []) hx hb hml hown hts hE hP hD hS hA hF hT (sX_X6_taken_1 NF l dC dI cy x0 x 41 v58 f59 hIv58 ) k_724 k_726 k_12 k_103 k_727 hd_yX6_taken ⟨Nat.le_of_ble_eq_true rfl, Nat.le_of_ble_eq_true rfl⟩ 3 6 rfl rfl (rfl) hl.1 rfl (Nat.le_of_ble_eq_true rfl) dX6_unit_156 (fun r61 u H locs hw hP hD hS => ?_)
              obtain ⟨hG62, hw⟩ := hw
              obtain ⟨v63, f64⟩ := u
              obtain ⟨kV_v63, kF_f64, hIv63, hk0_v63, hk1_v63, hk9_v63, hk10_v63, hk31_v63, hk32_v63, hw⟩ := hw
              have hM_v63 : KV [2, 3, 4, 5, 7, 8, 16, 17] v63 v := KV.tr kV_v63 hM_v58 rfl
              have hA_f64 : KF [3, 4] f64 f := KF.tr kF_f64 hA_f59 rfl
              have hP : va_P (dC, dI) vwCl (XW cy x0 x v63 f64) H := hP
              have hD : va_D A (XW cy x0 x v63 f64) := hD
              rcases hw with ⟨g65⟩ | ⟨g65⟩
              · skip
                subst g65
                refine lv_if_eq (tgt := 166) hx hb dX6_unit_159 rfl (fun c0 => absurd c0 (by decide)) (fun _ => ?_)
                refine lv_iconst (v := 1) hx hb dX6_unit_162 rfl ?_
                refine lv_goto (tgt := 167) hx hb dX6_unit_163 rfl ?_
                exact ret 1 (v63, f64) _ _ _ _ _ _ rfl ⟨(gsX_X6_unit_1_q12 c1 c15 c43 c44 c50 et51 hG53 hG57 hG62), hM_v63, hA_f64, hIv63, (hk0_v63.trans (hk0_v58.trans hk0_v54)), (hk1_v63.trans (hk1_v58.trans hk1_v54)), (hk9_v63.trans (hk9_v58.trans hk9_v54)), (hk10_v63.trans (hk10_v58.trans hk10_v54)), (hk31_v63.trans (hk31_v58.trans hk31_v54)), (hk32_v63.trans (hk32_v58.trans hk32_v54)), (Or.inl rfl)⟩ hP hD hS dX6_unit_167 (Nat.le_refl _) (Nat.le_refl _)
              · skip
                subst g65
                refine lv_if_eq (tgt := 166) hx hb dX6_unit_159 rfl (fun _ => ?_) (fun c0 => absurd (by decide) c0)
                refine lv_iconst (v := 0) hx hb dX6_unit_166 rfl ?_
                exact ret 0 (v63, f64) _ _ _ _ _ _ rfl ⟨(gsX_X6_unit_1_q13 c1 c15 c43 c44 c50 et51 hG53 hG57 hG62), hM_v63, hA_f64, hIv63, (hk0_v63.trans (hk0_v58.trans hk0_v54)), (hk1_v63.trans (hk1_v58.trans hk1_v54)), (hk9_v63.trans (hk9_v58.trans hk9_v54)), (hk10_v63.trans (hk10_v58.trans hk10_v54)), (hk31_v63.trans (hk31_v58.trans hk31_v54)), (hk32_v63.trans (hk32_v58.trans hk32_v54)), (Or.inr rfl)⟩ hP hD hS dX6_unit_167 (Nat.le_refl _) (Nat.le_refl _)
            · skip
              subst g60
              refine lv_if_eq (tgt := 166) hx hb dX6_unit_150 rfl (fun _ => ?_) (fun c0 => absurd (by decide) c0)
              refine lv_iconst (v := 0) hx hb dX6_unit_166 rfl ?_
              exact ret 0 (v58, f59) _ _ _ _ _ _ rfl ⟨(gsX_X6_unit_1_q14 c1 c15 c43 c44 c50 et51 hG53 hG57), hM_v58, hA_f59, hIv58, (hk0_v58.trans hk0_v54), (hk1_v58.trans hk1_v54), (hk9_v58.trans hk9_v54), (hk10_v58.trans hk10_v54), (hk31_v58.trans hk31_v54), (hk32_v58.trans hk32_v54), (Or.inr rfl)⟩ hP hD hS dX6_unit_167 (Nat.le_refl _) (Nat.le_refl _)
          · skip
            refine lv_aload_n hx hb dX6_unit_56 rfl (lv_at hl 2 rfl) ?_
            refine cbVi (n := 0) (rest := []) hx hb hml hown hts hE hP hD hS hA (sX_X6_refuse_1 NF l dC dI cy x0 x  v f hIv ) k_691 k_693 k_6 k_103 k_694 hd_yX6_refuse ⟨Nat.le_of_ble_eq_true rfl, Nat.le_of_ble_eq_true rfl⟩ 3 6 rfl rfl (rfl) hl.1 rfl (Nat.le_of_ble_eq_true rfl) dX6_unit_57 (fun r66 u H locs hw hP hD hS => ?_)
            obtain ⟨hG67, hw⟩ := hw
            obtain ⟨v68, f69⟩ := u
            obtain ⟨kV_v68, kF_f69, hIv68, hk0_v68, hk1_v68, hk9_v68, hk10_v68, hk31_v68, hk32_v68, hw⟩ := hw
            have hM_v68 : KV [2, 3, 4, 5, 7, 8, 16, 17] v68 v := KV.tr kV_v68 hM_v rfl
            have hA_f69 : KF [3, 4] f69 f := KF.tr kF_f69 hA_f rfl
            have hP : va_P (dC, dI) vwCl (XW cy x0 x v68 f69) H := hP
            have hD : va_D A (XW cy x0 x v68 f69) := hD
            rcases hw with ⟨g70⟩ | ⟨g70⟩
            · skip
              subst g70
              exact ret 1 (v68, f69) _ _ _ _ _ _ rfl ⟨(gsX_X6_unit_1_q15 c1 c15 c43 c44 c50 hG67), hM_v68, hA_f69, hIv68, hk0_v68, hk1_v68, hk9_v68, hk10_v68, hk31_v68, hk32_v68, (Or.inl rfl)⟩ hP hD hS dX6_unit_60 (Nat.le_refl _) (Nat.le_refl _)
            · skip
              subst g70
              exact ret 0 (v68, f69) _ _ _ _ _ _ rfl ⟨(gsX_X6_unit_1_q16 c1 c15 c43 c44 c50 hG67), hM_v68, hA_f69, hIv68, hk0_v68, hk1_v68, hk9_v68, hk10_v68, hk31_v68, hk32_v68, (Or.inr rfl)⟩ hP hD hS dX6_unit_60 (Nat.le_refl _) (Nat.le_refl _)
      · skip
        refine lv_iconst (v := 1) hx hb dX6_unit_25 rfl ?_
        refine lv_goto (tgt := 30) hx hb dX6_unit_26 rfl ?_
        refine lv_istore_n (lv' := [(3, .int 1), (2, .int (v 2)), (0, .ref (x 2)), (1, .int 0)]) hx hb dX6_unit_30 rfl hl (Nat.le_of_ble_eq_true rfl) rfl (fun ls hl => ?_)
        refine lv_iload_n hx hb dX6_unit_31 rfl (lv_at hl 0 rfl) ?_
        refine lv_if_ne (tgt := 41) hx hb dX6_unit_32 rfl (fun _ => ?_) (fun c0 => absurd c0 (by decide))
        refine lv_aload_n hx hb dX6_unit_41 rfl (lv_at hl 2 rfl) ?_
        refine va_get (D := (dC, dI)) (ci := 6) (v := .ref (x 3)) (C := RX6) (T := TX6) (N := 7) hx hb hts inB_6 hown hE.1 hP 3 rfl rfl 1 (Nat.le_of_ble_eq_true rfl) (hts _ k_266) (fun _ h9 => h9) rfl dX6_unit_42 ?_
        refine va_getN (D := (dC, dI)) (ci := 7) (v := .ref (x 6)) (C := RX7) (T := TX7) (N := 10) hx hb hts inB_7 hown hE.1 hP 4 rfl rfl 2 (Nat.le_of_ble_eq_true rfl) (va_Nw.use rfl (hE.2 _ k_210)) (fun _ h9 => h9) rfl dX6_unit_45 ?_
        refine va_getN (D := (dC, dI)) (ci := 4) (v := .int (v 17)) (C := RX4) (T := TX4) (N := 6) hx hb hts inB_4 hown hE.1 hP 7 rfl rfl 5 (Nat.le_of_ble_eq_true rfl) (va_Nw.use rfl (hE.2 _ k_184)) (fun _ h9 => h9) rfl dX6_unit_48 ?_
        refine lv_bipush (v := 30) hx hb dX6_unit_51 rfl ?_
        refine lv_icmp_lt (tgt := 61) hx hb dX6_unit_53 rfl (fun c71 => ?_) (fun c71 => ?_)
        · skip
          refine lv_iload_n hx hb dX6_unit_61 rfl (lv_at hl 0 rfl) ?_
          refine lv_if_eq (tgt := 108) hx hb dX6_unit_62 rfl (fun c0 => absurd c0 (by decide)) (fun _ => ?_)
          refine lv_aload_n hx hb dX6_unit_65 rfl (lv_at hl 2 rfl) ?_
          refine va_get (D := (dC, dI)) (ci := 6) (v := .ref (x 3)) (C := RX6) (T := TX6) (N := 7) hx hb hts inB_6 hown hE.1 hP 3 rfl rfl 1 (Nat.le_of_ble_eq_true rfl) (hts _ k_266) (fun _ h9 => h9) rfl dX6_unit_66 ?_
          refine va_getN (D := (dC, dI)) (ci := 7) (v := .ref (x 6)) (C := RX7) (T := TX7) (N := 10) hx hb hts inB_7 hown hE.1 hP 4 rfl rfl 2 (Nat.le_of_ble_eq_true rfl) (va_Nw.use rfl (hE.2 _ k_210)) (fun _ h9 => h9) rfl dX6_unit_69 ?_
          refine lv_iload_n hx hb dX6_unit_72 rfl (lv_at hl 1 rfl) ?_
          refine lv_aload_n hx hb dX6_unit_73 rfl (lv_at hl 2 rfl) ?_
          refine va_get (D := (dC, dI)) (ci := 6) (v := .ref (x 0)) (C := RX6) (T := TX6) (N := 7) hx hb hts inB_6 hown hE.1 hP 3 rfl rfl 0 (Nat.le_of_ble_eq_true rfl) (hts _ k_265) (fun _ h9 => h9) rfl dX6_unit_74 ?_
          refine va_getN (D := (dC, dI)) (ci := 9) (v := .int (v 5)) (C := RX9) (T := TX9) (N := 6) hx hb hts inB_9 hown hE.1 hP 1 rfl rfl 5 (Nat.le_of_ble_eq_true rfl) (va_Nw.use rfl (hE.2 _ k_145)) (fun _ h9 => h9) rfl dX6_unit_77 ?_
          refine cbVv (n := 2) (rest := []) hx hb hml hown hts hE hP hD hS hA (sX_X4_add_1 NF l dC dI cy x0 x (v 2) (v 5) v f hIv ) k_748 k_749 k_750 k_105 k_751 hd_yX4_add ⟨Nat.le_of_ble_eq_true rfl, Nat.le_of_ble_eq_true rfl⟩ 7 4 rfl rfl (rfl) hl.1 rfl (Nat.le_of_ble_eq_true rfl) dX6_unit_80 (fun u H locs hw hP hD hS => ?_)
          obtain ⟨hG72, hw⟩ := hw
          obtain ⟨v73, f74⟩ := u
          obtain ⟨kV_v73, kF_f74, hIv73, hk0_v73, hk1_v73, hk7_v73, hk8_v73, hk9_v73, hk10_v73, hk31_v73, hk32_v73⟩ := hw
          have hM_v73 : KV [2, 3, 4, 5, 7, 8, 16, 17] v73 v := KV.tr kV_v73 hM_v rfl
          have hA_f74 : KF [3, 4] f74 f := KF.tr kF_f74 hA_f rfl
          have hP : va_P (dC, dI) vwCl (XW cy x0 x v73 f74) H := hP
          have hD : va_D A (XW cy x0 x v73 f74) := hD
          refine lv_aload_n hx hb dX6_unit_83 rfl (lv_at hl 2 rfl) ?_
          refine va_get (D := (dC, dI)) (ci := 6) (v := .ref (x 3)) (C := RX6) (T := TX6) (N := 7) hx hb hts inB_6 hown hE.1 hP 3 rfl rfl 1 (Nat.le_of_ble_eq_true rfl) (hts _ k_266) (fun _ h9 => h9) rfl dX6_unit_84 ?_
          refine va_getN (D := (dC, dI)) (ci := 7) (v := .ref (x 6)) (C := RX7) (T := TX7) (N := 10) hx hb hts inB_7 hown hE.1 hP 4 rfl rfl 2 (Nat.le_of_ble_eq_true rfl) (va_Nw.use rfl (hE.2 _ k_210)) (fun _ h9 => h9) rfl dX6_unit_87 ?_
          refine lv_dup hx hb dX6_unit_90 rfl ?_
          refine va_getN (D := (dC, dI)) (ci := 4) (v := .int (v73 17)) (C := RX4) (T := TX4) (N := 6) hx hb hts inB_4 hown hE.1 hP 7 rfl rfl 5 (Nat.le_of_ble_eq_true rfl) (va_Nw.use rfl (hE.2 _ k_184)) (fun _ h9 => h9) rfl dX6_unit_91 ?_
          refine lv_iconst (v := 1) hx hb dX6_unit_94 rfl ?_
          refine lv_iadd hx hb dX6_unit_95 ?_
          refine lv_topi (fun t75 et75 => ?_)
          refine va_putN (D := (dC, dI)) (ci := 4) (v := .int t75) (ty := tyX4 5) (C := RX4) (T := TX4) (N := 6) hx hb hts inB_4 tyX4 tyX4_ok nmX4 hown hE.1 hP hD hS 7 rfl rfl 5 (by decide) (va_Nw.use rfl (hE.2 _ k_184)) (fun _ h9 => h9) rfl (tyX4_ok 5 (Nat.le_of_ble_eq_true rfl)) rfl rfl (Nat.le_of_ble_eq_true rfl) dX6_unit_96 (fun H locs hP hD hS => ?_)
          have hP : va_P (dC, dI) vwCl (XW cy x0 x (upd v73 17 t75) f74) H := hP
          have hD : va_D A (XW cy x0 x (upd v73 17 t75) f74) := hD
          refine lv_aload_n hx hb dX6_unit_99 rfl (lv_at hl 2 rfl) ?_
          refine va_get (D := (dC, dI)) (ci := 6) (v := .ref (x 0)) (C := RX6) (T := TX6) (N := 7) hx hb hts inB_6 hown hE.1 hP 3 rfl rfl 0 (Nat.le_of_ble_eq_true rfl) (hts _ k_265) (fun _ h9 => h9) rfl dX6_unit_100 ?_
          refine csVv (n := 0) (rest := []) hx hb hml hown hts hE hP hD hS hA hF hT (sX_X9_advance_1 NF l dC dI cy x0 x  (upd v73 17 t75) f74 (Xu_17 (x := t75) hIv73 (rlo _) (rhi _)) ) k_699 k_559 k_560 k_102 k_561 hd_yX9_advance ⟨Nat.le_of_ble_eq_true rfl, Nat.le_of_ble_eq_true rfl⟩ 1 9 rfl rfl (rfl) hl.1 rfl (Nat.le_of_ble_eq_true rfl) dX6_unit_103 (fun u H locs hw hP hD hS => ?_)
          obtain ⟨hG76, hw⟩ := hw
          obtain ⟨v77, f78⟩ := u
          obtain ⟨kV_v77, kF_f78, hIv77, hk0_v77, hk1_v77, hk7_v77, hk8_v77, hk9_v77, hk10_v77, hk31_v77, hk32_v77⟩ := hw
          have hM_v77 : KV [2, 3, 4, 5, 7, 8, 16, 17] v77 v := KV.tr kV_v77 (KV.up (j := 17) (x := t75) hM_v73 rfl) rfl
          have hA_f78 : KF [3, 4] f78 f := KF.tr kF_f78 hA_f74 rfl
          have hP : va_P (dC, dI) vwCl (XW cy x0 x v77 f78) H := hP
          have hD : va_D A (XW cy x0 x v77 f78) := hD
          refine lv_iconst (v := 1) hx hb dX6_unit_106 rfl ?_
          exact ret 1 (v77, f78) _ _ _ _ _ _ rfl ⟨(gsX_X6_unit_1_q17 c1 c15 c43 c71 hG72 et75 hG76), hM_v77, hA_f78, hIv77, (hk0_v77.trans hk0_v73), (hk1_v77.trans hk1_v73), (hk9_v77.trans hk9_v73), (hk10_v77.trans hk10_v73), (hk31_v77.trans hk31_v73), (hk32_v77.trans hk32_v73), (Or.inl rfl)⟩ hP hD hS dX6_unit_107 (Nat.le_refl _) (Nat.le_refl _)
        · skip
          refine lv_aload_n hx hb dX6_unit_56 rfl (lv_at hl 2 rfl) ?_
          refine cbVi (n := 0) (rest := []) hx hb hml hown hts hE hP hD hS hA (sX_X6_refuse_1 NF l dC dI cy x0 x  v f hIv ) k_691 k_693 k_6 k_103 k_694 hd_yX6_refuse ⟨Nat.le_of_ble_eq_true rfl, Nat.le_of_ble_eq_true rfl⟩ 3 6 rfl rfl (rfl) hl.1 rfl (Nat.le_of_ble_eq_true rfl) dX6_unit_57 (fun r79 u H locs hw hP hD hS => ?_)
          obtain ⟨hG80, hw⟩ := hw
          obtain ⟨v81, f82⟩ := u
          obtain ⟨kV_v81, kF_f82, hIv81, hk0_v81, hk1_v81, hk9_v81, hk10_v81, hk31_v81, hk32_v81, hw⟩ := hw
          have hM_v81 : KV [2, 3, 4, 5, 7, 8, 16, 17] v81 v := KV.tr kV_v81 hM_v rfl
          have hA_f82 : KF [3, 4] f82 f := KF.tr kF_f82 hA_f rfl
          have hP : va_P (dC, dI) vwCl (XW cy x0 x v81 f82) H := hP
          have hD : va_D A (XW cy x0 x v81 f82) := hD
          rcases hw with ⟨g83⟩ | ⟨g83⟩
          · skip
            subst g83
            exact ret 1 (v81, f82) _ _ _ _ _ _ rfl ⟨(gsX_X6_unit_1_q18 c1 c15 c43 c71 hG80), hM_v81, hA_f82, hIv81, hk0_v81, hk1_v81, hk9_v81, hk10_v81, hk31_v81, hk32_v81, (Or.inl rfl)⟩ hP hD hS dX6_unit_60 (Nat.le_refl _) (Nat.le_refl _)
          · skip
            subst g83
            exact ret 0 (v81, f82) _ _ _ _ _ _ rfl ⟨(gsX_X6_unit_1_q19 c1 c15 c43 c71 hG80), hM_v81, hA_f82, hIv81, hk0_v81, hk1_v81, hk9_v81, hk10_v81, hk31_v81, hk32_v81, (Or.inr rfl)⟩ hP hD hS dX6_unit_60 (Nat.le_refl _) (Nat.le_refl _)
set_option maxHeartbeats 4000000 in
set_option maxRecDepth 100000 in
theorem sX_X6_expression_6 (NF : Nat) (l : Launch) (dC : Nat → ClassId) (dI : Nat → Nat → Nat) (cy : Nat → ClassId) (x0 : Nat) (x : Nat → Nat)  (v : Nat → Int32) (f : Nat → Nat → Int32) (hIv : XI v)  : ctIS l (dC, dI) cy yX6_expression cX6_expression 6 .boolean 57 1425 0 0 ((Nat → Int32) × (Nat → Nat → Int32)) [.ref (x 2), .int 5, .int 0] (XW cy x0 x v f) (fun r u => gsX_X6_expression_6 NF v f = (r, u) ∧ KV [2, 3, 4, 5, 7, 8, 16, 17] u.1 v ∧ KF [3, 4] u.2 f ∧ XI u.1 ∧ u.1 0 = v 0 ∧ u.1 1 = v 1 ∧ u.1 9 = v 9 ∧ u.1 10 = v 10 ∧ u.1 31 = v 31 ∧ u.1 32 = v 32 ∧ ((r = 1) ∨ (r = 0))) (fun u => XW cy x0 x u.1 u.2) := by
  refine ctIS_of (by decide) (Nat.le_of_ble_eq_true rfl) (fun p e s m below meth c A ls Q hx hb hml hts hown hE hF hT hP hD hA hl ret => ?_)
  have hM_v : KV [2, 3, 4, 5, 7, 8, 16, 17] v v := fun _ _ => rfl
  have hA_f : KF [3, 4] f f := fun _ _ => rfl
  have hown : s.vm.findClass RX6 = some m.cls := hown
  have hS : va_S A s.heap s.heap [] := va_S.rf
  have hl : lv_has ls 6 [(0, .ref (x 2)), (1, .int 5), (2, .int 0)] := hl
  refine lv_iload_n hx hb dX6_expression_0 rfl (lv_at hl 1 rfl) ?_
  refine lv_iconst (v := 5) hx hb dX6_expression_1 rfl ?_
  refine lv_icmp_lt (tgt := 11) hx hb dX6_expression_2 rfl (fun c0 => absurd c0 (by decide)) (fun _ => ?_)
  refine lv_aload_n hx hb dX6_expression_5 rfl (lv_at hl 0 rfl) ?_
  refine lv_iload_n hx hb dX6_expression_6 rfl (lv_at hl 2 rfl) ?_
  refine csVi (n := 1) (rest := []) hx hb hml hown hts hE hP hD hS hA hF hT (sX_X6_unit_1 NF l dC dI cy x0 x  v f hIv ) k_744 k_746 k_16 k_103 k_747 hd_yX6_unit ⟨Nat.le_of_ble_eq_true rfl, Nat.le_of_ble_eq_true rfl⟩ 3 6 rfl rfl (rfl) hl.1 rfl (Nat.le_of_ble_eq_true rfl) dX6_expression_7 (fun r1 u H locs hw hP hD hS => ?_)
  obtain ⟨hG2, hw⟩ := hw
  obtain ⟨v3, f4⟩ := u
  obtain ⟨kV_v3, kF_f4, hIv3, hk0_v3, hk1_v3, hk9_v3, hk10_v3, hk31_v3, hk32_v3, hw⟩ := hw
  have hM_v3 : KV [2, 3, 4, 5, 7, 8, 16, 17] v3 v := KV.tr kV_v3 hM_v rfl
  have hA_f4 : KF [3, 4] f4 f := KF.tr kF_f4 hA_f rfl
  have hP : va_P (dC, dI) vwCl (XW cy x0 x v3 f4) H := hP
  have hD : va_D A (XW cy x0 x v3 f4) := hD
  have hq0_v3 : v3 0 = (v 0) := hk0_v3
  have hq1_v3 : v3 1 = (v 1) := hk1_v3
  have hq9_v3 : v3 9 = (v 9) := hk9_v3
  have hq10_v3 : v3 10 = (v 10) := hk10_v3
  have hq31_v3 : v3 31 = (v 31) := hk31_v3
  have hq32_v3 : v3 32 = (v 32) := hk32_v3
  rcases hw with ⟨g5⟩ | ⟨g5⟩
  · skip
    subst g5
    exact ret 1 (v3, f4) _ _ _ _ _ _ rfl ⟨(gsX_X6_expression_6_q0 hG2), hM_v3, hA_f4, hIv3, hk0_v3, hk1_v3, hk9_v3, hk10_v3, hk31_v3, hk32_v3, (Or.inl rfl)⟩ hP hD hS dX6_expression_10 (Nat.le_refl _) (Nat.le_refl _)
  · skip
    subst g5
    exact ret 0 (v3, f4) _ _ _ _ _ _ rfl ⟨(gsX_X6_expression_6_q1 hG2), hM_v3, hA_f4, hIv3, hk0_v3, hk1_v3, hk9_v3, hk10_v3, hk31_v3, hk32_v3, (Or.inr rfl)⟩ hP hD hS dX6_expression_10 (Nat.le_refl _) (Nat.le_refl _)
set_option maxHeartbeats 4000000 in
set_option maxRecDepth 100000 in
theorem sX_X6_expression_5 (NF : Nat) (l : Launch) (dC : Nat → ClassId) (dI : Nat → Nat → Nat) (cy : Nat → ClassId) (x0 : Nat) (x : Nat → Nat)  (v : Nat → Int32) (f : Nat → Nat → Int32) (hIv : XI v)  : ctIS l (dC, dI) cy yX6_expression cX6_expression 6 .boolean 58 1450 0 0 ((Nat → Int32) × (Nat → Nat → Int32)) [.ref (x 2), .int 4, .int 0] (XW cy x0 x v f) (fun r u => gsX_X6_expression_5 NF v f = (r, u) ∧ KV [2, 3, 4, 5, 7, 8, 16, 17] u.1 v ∧ KF [3, 4] u.2 f ∧ XI u.1 ∧ u.1 0 = v 0 ∧ u.1 1 = v 1 ∧ u.1 9 = v 9 ∧ u.1 10 = v 10 ∧ u.1 31 = v 31 ∧ u.1 32 = v 32 ∧ ((r = 1) ∨ (r = 0))) (fun u => XW cy x0 x u.1 u.2) := by
  refine ctIS_of (by decide) (Nat.le_of_ble_eq_true rfl) (fun p e s m below meth c A ls Q hx hb hml hts hown hE hF hT hP hD hA hl ret => ?_)
  have hM_v : KV [2, 3, 4, 5, 7, 8, 16, 17] v v := fun _ _ => rfl
  have hA_f : KF [3, 4] f f := fun _ _ => rfl
  have hown : s.vm.findClass RX6 = some m.cls := hown
  have hS : va_S A s.heap s.heap [] := va_S.rf
  have hl : lv_has ls 6 [(0, .ref (x 2)), (1, .int 4), (2, .int 0)] := hl
  refine lv_iload_n hx hb dX6_expression_0 rfl (lv_at hl 1 rfl) ?_
  refine lv_iconst (v := 5) hx hb dX6_expression_1 rfl ?_
  refine lv_icmp_lt (tgt := 11) hx hb dX6_expression_2 rfl (fun _ => ?_) (fun c0 => absurd (by decide) c0)
  refine lv_iload_n hx hb dX6_expression_11 rfl (lv_at hl 1 rfl) ?_
  refine lv_iconst (v := 2) hx hb dX6_expression_12 rfl ?_
  refine lv_icmp_ne (tgt := 34) hx hb dX6_expression_13 rfl (fun _ => ?_) (fun c0 => absurd c0 (by decide))
  refine lv_aload_n hx hb dX6_expression_34 rfl (lv_at hl 0 rfl) ?_
  refine lv_iload_n hx hb dX6_expression_35 rfl (lv_at hl 1 rfl) ?_
  refine lv_iconst (v := 1) hx hb dX6_expression_36 rfl ?_
  refine lv_iadd hx hb dX6_expression_37 ?_
  refine tI (y := 5) (by decide) ?_
  refine lv_iload_n hx hb dX6_expression_38 rfl (lv_at hl 2 rfl) ?_
  refine csVi (n := 2) (rest := []) hx hb hml hown hts hE hP hD hS hA hF hT (sX_X6_expression_6 NF l dC dI cy x0 x  v f hIv ) k_740 k_742 k_15 k_103 k_743 hd_yX6_expression ⟨Nat.le_of_ble_eq_true rfl, Nat.le_of_ble_eq_true rfl⟩ 3 6 rfl rfl (rfl) hl.1 rfl (Nat.le_of_ble_eq_true rfl) dX6_expression_39 (fun r1 u H locs hw hP hD hS => ?_)
  obtain ⟨hG2, hw⟩ := hw
  obtain ⟨v3, f4⟩ := u
  obtain ⟨kV_v3, kF_f4, hIv3, hk0_v3, hk1_v3, hk9_v3, hk10_v3, hk31_v3, hk32_v3, hw⟩ := hw
  have hM_v3 : KV [2, 3, 4, 5, 7, 8, 16, 17] v3 v := KV.tr kV_v3 hM_v rfl
  have hA_f4 : KF [3, 4] f4 f := KF.tr kF_f4 hA_f rfl
  have hP : va_P (dC, dI) vwCl (XW cy x0 x v3 f4) H := hP
  have hD : va_D A (XW cy x0 x v3 f4) := hD
  have hq0_v3 : v3 0 = (v 0) := hk0_v3
  have hq1_v3 : v3 1 = (v 1) := hk1_v3
  have hq9_v3 : v3 9 = (v 9) := hk9_v3
  have hq10_v3 : v3 10 = (v 10) := hk10_v3
  have hq31_v3 : v3 31 = (v 31) := hk31_v3
  have hq32_v3 : v3 32 = (v 32) := hk32_v3
  rcases hw with ⟨g5⟩ | ⟨g5⟩
  · skip
    subst g5
    refine lv_if_ne (tgt := 47) hx hb dX6_expression_42 rfl (fun _ => ?_) (fun c0 => absurd c0 (by decide))
    refine lv_iload_n hx hb dX6_expression_47 rfl (lv_at hl 1 rfl) ?_
    refine lv_iconst (v := 2) hx hb dX6_expression_48 rfl ?_
    refine lv_icmp_ne (tgt := 56) hx hb dX6_expression_49 rfl (fun _ => ?_) (fun c0 => absurd c0 (by decide))
    refine lv_sipush (v := 1600) hx hb dX6_expression_56 rfl ?_
    refine lv_istore_n (lv' := [(3, .int 1600), (0, .ref (x 2)), (1, .int 4), (2, .int 0)]) hx hb dX6_expression_59 rfl hl (Nat.le_of_ble_eq_true rfl) rfl (fun ls hl => ?_)
    refine lv_iconst (v := 0) hx hb dX6_expression_60 rfl ?_
    refine lv_istore (lv' := [(4, .int 0), (3, .int 1600), (0, .ref (x 2)), (1, .int 4), (2, .int 0)]) hx hb dX6_expression_61 hl (Nat.le_of_ble_eq_true rfl) rfl (fun ls hl => ?_)
    have lp6 : ∀ (n6 : Nat) (l4_6 : Int32) (v6 : Nat → Int32) (f6 : Nat → Nat → Int32), XI v6 → v6 0 = (v 0) → v6 1 = (v 1) → v6 9 = (v 9) → v6 10 = (v 10) → v6 31 = (v 31) → v6 32 = (v 32) → gsX_X6_expression_5_L6 NF n6 l4_6 v6 f6 = (gsX_X6_expression_5 NF v f) → ((0 : Int) ≤ l4_6.toInt ∧ l4_6.toInt ≤ 2147483647) → KV [2, 3, 4, 5, 7, 8, 16, 17] v6 v → KF [3, 4] f6 f → (2147483647 - l4_6.toInt).toNat < n6 → ∀ (H : Heap) (locs : List Loc) (ls : Array Slot), va_P (dC, dI) vwCl (XW cy x0 x v6 f6) H → va_D A (XW cy x0 x v6 f6) → va_S A s.heap H locs → lv_has ls 6 [(4, .int l4_6), (3, .int 1600), (0, .ref (x 2)), (1, .int 4), (2, .int 0)] → W p l e { frames := 58, cells := 0, slots := 0, locals := 1450 } s m ([.ref (x 2), .int 4, .int 0] : List Value).toArray below meth c H locs 0 0 Q (F0 m 63 ls []) := by
      intro n6
      induction n6 with
      | zero => intro l4_6 v6 f6 hIv6 hq0_v6 hq1_v6 hq9_v6 hq10_v6 hq31_v6 hq32_v6 hT6 hr4_6 hM_v6 hA_f6 hm; exact absurd hm (Nat.not_lt_zero _)
      | succ n6 ih6 =>
        intro l4_6 v6 f6 hIv6 hq0_v6 hq1_v6 hq9_v6 hq10_v6 hq31_v6 hq32_v6 hT6 hr4_6 hM_v6 hA_f6 hm6 H locs ls hP hD hS hl
        refine lv_iload hx hb dX6_expression_63 (lv_at hl 0 rfl) ?_
        refine lv_iload_n hx hb dX6_expression_65 rfl (lv_at hl 1 rfl) ?_
        refine lv_icmp_ge (tgt := 131) hx hb dX6_expression_66 rfl (fun c7 => ?_) (fun c7 => ?_)
        · skip
          refine lv_iconst (v := 1) hx hb dX6_expression_131 rfl ?_
          exact ret 1 (v6, f6) _ _ _ _ _ _ rfl ⟨(hT6.symm.trans (gsX_X6_expression_5_q0 c7)), hM_v6, hA_f6, hIv6, hq0_v6, hq1_v6, hq9_v6, hq10_v6, hq31_v6, hq32_v6, (Or.inl rfl)⟩ hP hD hS dX6_expression_132 (Nat.le_refl _) (Nat.le_refl _)
        · skip
          have zc7 : ¬ (1600 ≤ l4_6.toInt) := zMn tc_1600 rfl c7
          refine lv_iload_n hx hb dX6_expression_69 rfl (lv_at hl 3 rfl) ?_
          refine lv_aload_n hx hb dX6_expression_70 rfl (lv_at hl 2 rfl) ?_
          refine va_get (D := (dC, dI)) (ci := 6) (v := .ref (x 0)) (C := RX6) (T := TX6) (N := 7) hx hb hts inB_6 hown hE.1 hP 3 rfl rfl 0 (Nat.le_of_ble_eq_true rfl) (hts _ k_265) (fun _ h9 => h9) rfl dX6_expression_71 ?_
          refine va_getN (D := (dC, dI)) (ci := 9) (v := .int (v6 2)) (C := RX9) (T := TX9) (N := 6) hx hb hts inB_9 hown hE.1 hP 1 rfl rfl 2 (Nat.le_of_ble_eq_true rfl) (va_Nw.use rfl (hE.2 _ k_139)) (fun _ h9 => h9) rfl dX6_expression_74 ?_
          refine cbSi (n := 2) (rest := []) hx hb hml hown hts hE hP hD hS hA (sX_X6_joins_1 NF l dC dI cy x0 x 4 (v6 2) v6 f6 hIv6 ) k_756 k_757 k_103 k_758 he_yX6_joins ⟨Nat.le_of_ble_eq_true rfl, Nat.le_of_ble_eq_true rfl⟩ (rfl) hl.1 rfl (Nat.le_of_ble_eq_true rfl) dX6_expression_77 (fun r8 u H locs hw hP hD hS => ?_)
          obtain ⟨hG9, hw⟩ := hw
          rcases hw with ⟨g10⟩ | ⟨g10⟩
          · skip
            subst g10
            refine lv_if_eq (tgt := 131) hx hb dX6_expression_80 rfl (fun c0 => absurd c0 (by decide)) (fun _ => ?_)
            refine lv_aload_n hx hb dX6_expression_83 rfl (lv_at hl 2 rfl) ?_
            refine va_get (D := (dC, dI)) (ci := 6) (v := .ref (x 0)) (C := RX6) (T := TX6) (N := 7) hx hb hts inB_6 hown hE.1 hP 3 rfl rfl 0 (Nat.le_of_ble_eq_true rfl) (hts _ k_265) (fun _ h9 => h9) rfl dX6_expression_84 ?_
            refine va_getN (D := (dC, dI)) (ci := 9) (v := .int (v6 2)) (C := RX9) (T := TX9) (N := 6) hx hb hts inB_9 hown hE.1 hP 1 rfl rfl 2 (Nat.le_of_ble_eq_true rfl) (va_Nw.use rfl (hE.2 _ k_139)) (fun _ h9 => h9) rfl dX6_expression_87 ?_
            refine lv_istore (lv' := [(5, .int (v6 2)), (4, .int l4_6), (3, .int 1600), (0, .ref (x 2)), (1, .int 4), (2, .int 0)]) hx hb dX6_expression_90 hl (Nat.le_of_ble_eq_true rfl) rfl (fun ls hl => ?_)
            refine lv_aload_n hx hb dX6_expression_92 rfl (lv_at hl 3 rfl) ?_
            refine va_get (D := (dC, dI)) (ci := 6) (v := .ref (x 0)) (C := RX6) (T := TX6) (N := 7) hx hb hts inB_6 hown hE.1 hP 3 rfl rfl 0 (Nat.le_of_ble_eq_true rfl) (hts _ k_265) (fun _ h9 => h9) rfl dX6_expression_93 ?_
            refine csVv (n := 0) (rest := []) hx hb hml hown hts hE hP hD hS hA hF hT (sX_X9_advance_1 NF l dC dI cy x0 x  v6 f6 hIv6 ) k_699 k_559 k_560 k_102 k_561 hd_yX9_advance ⟨Nat.le_of_ble_eq_true rfl, Nat.le_of_ble_eq_true rfl⟩ 1 9 rfl rfl (rfl) hl.1 rfl (Nat.le_of_ble_eq_true rfl) dX6_expression_96 (fun u H locs hw hP hD hS => ?_)
            obtain ⟨hG11, hw⟩ := hw
            obtain ⟨v12, f13⟩ := u
            obtain ⟨kV_v12, kF_f13, hIv12, hk0_v12, hk1_v12, hk7_v12, hk8_v12, hk9_v12, hk10_v12, hk31_v12, hk32_v12⟩ := hw
            have hM_v12 : KV [2, 3, 4, 5, 7, 8, 16, 17] v12 v := KV.tr kV_v12 hM_v6 rfl
            have hA_f13 : KF [3, 4] f13 f := KF.tr kF_f13 hA_f6 rfl
            have hP : va_P (dC, dI) vwCl (XW cy x0 x v12 f13) H := hP
            have hD : va_D A (XW cy x0 x v12 f13) := hD
            have hq0_v12 : v12 0 = (v 0) := hk0_v12.trans hq0_v6
            have hq1_v12 : v12 1 = (v 1) := hk1_v12.trans hq1_v6
            have hq9_v12 : v12 9 = (v 9) := hk9_v12.trans hq9_v6
            have hq10_v12 : v12 10 = (v 10) := hk10_v12.trans hq10_v6
            have hq31_v12 : v12 31 = (v 31) := hk31_v12.trans hq31_v6
            have hq32_v12 : v12 32 = (v 32) := hk32_v12.trans hq32_v6
            refine lv_aload_n hx hb dX6_expression_99 rfl (lv_at hl 3 rfl) ?_
            refine lv_iload_n hx hb dX6_expression_100 rfl (lv_at hl 4 rfl) ?_
            refine lv_iconst (v := 1) hx hb dX6_expression_101 rfl ?_
            refine lv_iadd hx hb dX6_expression_102 ?_
            refine tI (y := 5) (by decide) ?_
            refine lv_iload_n hx hb dX6_expression_103 rfl (lv_at hl 5 rfl) ?_
            refine csVi (n := 2) (rest := []) hx hb hml hown hts hE hP hD hS hA hF hT (sX_X6_expression_6 NF l dC dI cy x0 x  v12 f13 hIv12 ) k_740 k_742 k_15 k_103 k_743 hd_yX6_expression ⟨Nat.le_of_ble_eq_true rfl, Nat.le_of_ble_eq_true rfl⟩ 3 6 rfl rfl (rfl) hl.1 rfl (Nat.le_of_ble_eq_true rfl) dX6_expression_104 (fun r14 u H locs hw hP hD hS => ?_)
            obtain ⟨hG15, hw⟩ := hw
            obtain ⟨v16, f17⟩ := u
            obtain ⟨kV_v16, kF_f17, hIv16, hk0_v16, hk1_v16, hk9_v16, hk10_v16, hk31_v16, hk32_v16, hw⟩ := hw
            have hM_v16 : KV [2, 3, 4, 5, 7, 8, 16, 17] v16 v := KV.tr kV_v16 hM_v12 rfl
            have hA_f17 : KF [3, 4] f17 f := KF.tr kF_f17 hA_f13 rfl
            have hP : va_P (dC, dI) vwCl (XW cy x0 x v16 f17) H := hP
            have hD : va_D A (XW cy x0 x v16 f17) := hD
            have hq0_v16 : v16 0 = (v 0) := hk0_v16.trans hq0_v12
            have hq1_v16 : v16 1 = (v 1) := hk1_v16.trans hq1_v12
            have hq9_v16 : v16 9 = (v 9) := hk9_v16.trans hq9_v12
            have hq10_v16 : v16 10 = (v 10) := hk10_v16.trans hq10_v12
            have hq31_v16 : v16 31 = (v 31) := hk31_v16.trans hq31_v12
            have hq32_v16 : v16 32 = (v 32) := hk32_v16.trans hq32_v12
            rcases hw with ⟨g18⟩ | ⟨g18⟩
            · skip
              subst g18
              refine lv_if_ne (tgt := 112) hx hb dX6_expression_107 rfl (fun _ => ?_) (fun c0 => absurd c0 (by decide))
              refine lv_aload_n hx hb dX6_expression_112 rfl (lv_at hl 3 rfl) ?_
              refine va_get (D := (dC, dI)) (ci := 6) (v := .ref (x 3)) (C := RX6) (T := TX6) (N := 7) hx hb hts inB_6 hown hE.1 hP 3 rfl rfl 1 (Nat.le_of_ble_eq_true rfl) (hts _ k_266) (fun _ h9 => h9) rfl dX6_expression_113 ?_
              refine va_getN (D := (dC, dI)) (ci := 7) (v := .ref (x 6)) (C := RX7) (T := TX7) (N := 10) hx hb hts inB_7 hown hE.1 hP 4 rfl rfl 2 (Nat.le_of_ble_eq_true rfl) (va_Nw.use rfl (hE.2 _ k_210)) (fun _ h9 => h9) rfl dX6_expression_116 ?_
              refine lv_iload hx hb dX6_expression_119 (lv_at hl 0 rfl) ?_
              refine lv_iconst (v := 0) hx hb dX6_expression_121 rfl ?_
              refine cbVv (n := 2) (rest := []) hx hb hml hown hts hE hP hD hS hA (sX_X4_add_1 NF l dC dI cy x0 x (v6 2) 0 v16 f17 hIv16 ) k_748 k_749 k_750 k_105 k_751 hd_yX4_add ⟨Nat.le_of_ble_eq_true rfl, Nat.le_of_ble_eq_true rfl⟩ 7 4 rfl rfl (rfl) hl.1 rfl (Nat.le_of_ble_eq_true rfl) dX6_expression_122 (fun u H locs hw hP hD hS => ?_)
              obtain ⟨hG19, hw⟩ := hw
              obtain ⟨v20, f21⟩ := u
              obtain ⟨kV_v20, kF_f21, hIv20, hk0_v20, hk1_v20, hk7_v20, hk8_v20, hk9_v20, hk10_v20, hk31_v20, hk32_v20⟩ := hw
              have hM_v20 : KV [2, 3, 4, 5, 7, 8, 16, 17] v20 v := KV.tr kV_v20 hM_v16 rfl
              have hA_f21 : KF [3, 4] f21 f := KF.tr kF_f21 hA_f17 rfl
              have hP : va_P (dC, dI) vwCl (XW cy x0 x v20 f21) H := hP
              have hD : va_D A (XW cy x0 x v20 f21) := hD
              have hq0_v20 : v20 0 = (v 0) := hk0_v20.trans hq0_v16
              have hq1_v20 : v20 1 = (v 1) := hk1_v20.trans hq1_v16
              have hq9_v20 : v20 9 = (v 9) := hk9_v20.trans hq9_v16
              have hq10_v20 : v20 10 = (v 10) := hk10_v20.trans hq10_v16
              have hq31_v20 : v20 31 = (v 31) := hk31_v20.trans hq31_v16
              have hq32_v20 : v20 32 = (v 32) := hk32_v20.trans hq32_v16
              obtain ⟨t22, et22⟩ : ∃ y : Int32, y = l4_6 + 1 := ⟨_, rfl⟩
              have zt22 : t22.toInt = l4_6.toInt + 1 := (congrArg Int32.toInt et22).trans (add_i rfl tc_1 (om_41 hr4_6) (om_5 zc7))
              refine lv_iinc (v := t22) (lv' := [(4, .int t22), (5, .int (v6 2)), (3, .int 1600), (0, .ref (x 2)), (1, .int 4), (2, .int 0)]) hx hb dX6_expression_125 hl (k := 1) rfl et22.symm (Nat.le_of_ble_eq_true rfl) rfl (fun ls hl => ?_)
              refine lv_goto (tgt := 63) hx hb dX6_expression_128 rfl ?_
              have rg24 := fb_rng t22
              exact ih6 t22 v20 f21 hIv20 hq0_v20 hq1_v20 hq9_v20 hq10_v20 hq31_v20 hq32_v20 ((gsX_X6_expression_5_q1 c7 hG9 hG11 hG15 hG19 et22).symm.trans hT6) ⟨show (0 : Int) ≤ t22.toInt from om_43 hr4_6 zt22, show t22.toInt ≤ (2147483647 : Int) from om_44 rg24⟩ hM_v20 hA_f21 (show (2147483647 - t22.toInt).toNat < n6 from om_33 hm6 zt22 rg24) _ _ _ hP hD hS (lv_sub hl [0, 2, 3, 4, 5] rfl)
            · skip
              subst g18
              refine lv_if_ne (tgt := 112) hx hb dX6_expression_107 rfl (fun c0 => absurd (by decide) c0) (fun _ => ?_)
              refine lv_iconst (v := 0) hx hb dX6_expression_110 rfl ?_
              exact ret 0 (v16, f17) _ _ _ _ _ _ rfl ⟨(hT6.symm.trans (gsX_X6_expression_5_q2 c7 hG9 hG11 hG15)), hM_v16, hA_f17, hIv16, (hk0_v16.trans (hk0_v12.trans hq0_v6)), (hk1_v16.trans (hk1_v12.trans hq1_v6)), (hk9_v16.trans (hk9_v12.trans hq9_v6)), (hk10_v16.trans (hk10_v12.trans hq10_v6)), (hk31_v16.trans (hk31_v12.trans hq31_v6)), (hk32_v16.trans (hk32_v12.trans hq32_v6)), (Or.inr rfl)⟩ hP hD hS dX6_expression_111 (Nat.le_refl _) (Nat.le_refl _)
          · skip
            subst g10
            refine lv_if_eq (tgt := 131) hx hb dX6_expression_80 rfl (fun _ => ?_) (fun c0 => absurd (by decide) c0)
            refine lv_iconst (v := 1) hx hb dX6_expression_131 rfl ?_
            exact ret 1 (v6, f6) _ _ _ _ _ _ rfl ⟨(hT6.symm.trans (gsX_X6_expression_5_q3 c7 hG9)), hM_v6, hA_f6, hIv6, hq0_v6, hq1_v6, hq9_v6, hq10_v6, hq31_v6, hq32_v6, (Or.inl rfl)⟩ hP hD hS dX6_expression_132 (Nat.le_refl _) (Nat.le_refl _)
    exact lp6 (4294967296 + NF) 0 v3 f4 hIv3 hq0_v3 hq1_v3 hq9_v3 hq10_v3 hq31_v3 hq32_v3 (gsX_X6_expression_5_q4 hG2).symm ⟨by decide, by decide⟩ hM_v3 hA_f4 (show (2147483647 - (0 : Int32).toInt).toNat < 4294967296 + NF from om_38 tc_0) _ _ _ hP hD hS (lv_sub hl [0, 1, 2, 3, 4] rfl)
  · skip
    subst g5
    refine lv_if_ne (tgt := 47) hx hb dX6_expression_42 rfl (fun c0 => absurd (by decide) c0) (fun _ => ?_)
    refine lv_iconst (v := 0) hx hb dX6_expression_45 rfl ?_
    exact ret 0 (v3, f4) _ _ _ _ _ _ rfl ⟨(gsX_X6_expression_5_q5 hG2), hM_v3, hA_f4, hIv3, hk0_v3, hk1_v3, hk9_v3, hk10_v3, hk31_v3, hk32_v3, (Or.inr rfl)⟩ hP hD hS dX6_expression_46 (Nat.le_refl _) (Nat.le_refl _)
set_option maxHeartbeats 4000000 in
set_option maxRecDepth 100000 in
theorem sX_X6_expression_4 (NF : Nat) (l : Launch) (dC : Nat → ClassId) (dI : Nat → Nat → Nat) (cy : Nat → ClassId) (x0 : Nat) (x : Nat → Nat)  (v : Nat → Int32) (f : Nat → Nat → Int32) (hIv : XI v)  : ctIS l (dC, dI) cy yX6_expression cX6_expression 6 .boolean 59 1475 0 0 ((Nat → Int32) × (Nat → Nat → Int32)) [.ref (x 2), .int 3, .int 0] (XW cy x0 x v f) (fun r u => gsX_X6_expression_4 NF v f = (r, u) ∧ KV [2, 3, 4, 5, 7, 8, 16, 17] u.1 v ∧ KF [3, 4] u.2 f ∧ XI u.1 ∧ u.1 0 = v 0 ∧ u.1 1 = v 1 ∧ u.1 9 = v 9 ∧ u.1 10 = v 10 ∧ u.1 31 = v 31 ∧ u.1 32 = v 32 ∧ ((r = 1) ∨ (r = 0))) (fun u => XW cy x0 x u.1 u.2) := by
  refine ctIS_of (by decide) (Nat.le_of_ble_eq_true rfl) (fun p e s m below meth c A ls Q hx hb hml hts hown hE hF hT hP hD hA hl ret => ?_)
  have hM_v : KV [2, 3, 4, 5, 7, 8, 16, 17] v v := fun _ _ => rfl
  have hA_f : KF [3, 4] f f := fun _ _ => rfl
  have hown : s.vm.findClass RX6 = some m.cls := hown
  have hS : va_S A s.heap s.heap [] := va_S.rf
  have hl : lv_has ls 6 [(0, .ref (x 2)), (1, .int 3), (2, .int 0)] := hl
  refine lv_iload_n hx hb dX6_expression_0 rfl (lv_at hl 1 rfl) ?_
  refine lv_iconst (v := 5) hx hb dX6_expression_1 rfl ?_
  refine lv_icmp_lt (tgt := 11) hx hb dX6_expression_2 rfl (fun _ => ?_) (fun c0 => absurd (by decide) c0)
  refine lv_iload_n hx hb dX6_expression_11 rfl (lv_at hl 1 rfl) ?_
  refine lv_iconst (v := 2) hx hb dX6_expression_12 rfl ?_
  refine lv_icmp_ne (tgt := 34) hx hb dX6_expression_13 rfl (fun _ => ?_) (fun c0 => absurd c0 (by decide))
  refine lv_aload_n hx hb dX6_expression_34 rfl (lv_at hl 0 rfl) ?_
  refine lv_iload_n hx hb dX6_expression_35 rfl (lv_at hl 1 rfl) ?_
  refine lv_iconst (v := 1) hx hb dX6_expression_36 rfl ?_
  refine lv_iadd hx hb dX6_expression_37 ?_
  refine tI (y := 4) (by decide) ?_
  refine lv_iload_n hx hb dX6_expression_38 rfl (lv_at hl 2 rfl) ?_
  refine csVi (n := 2) (rest := []) hx hb hml hown hts hE hP hD hS hA hF hT (sX_X6_expression_5 NF l dC dI cy x0 x  v f hIv ) k_740 k_742 k_15 k_103 k_743 hd_yX6_expression ⟨Nat.le_of_ble_eq_true rfl, Nat.le_of_ble_eq_true rfl⟩ 3 6 rfl rfl (rfl) hl.1 rfl (Nat.le_of_ble_eq_true rfl) dX6_expression_39 (fun r1 u H locs hw hP hD hS => ?_)
  obtain ⟨hG2, hw⟩ := hw
  obtain ⟨v3, f4⟩ := u
  obtain ⟨kV_v3, kF_f4, hIv3, hk0_v3, hk1_v3, hk9_v3, hk10_v3, hk31_v3, hk32_v3, hw⟩ := hw
  have hM_v3 : KV [2, 3, 4, 5, 7, 8, 16, 17] v3 v := KV.tr kV_v3 hM_v rfl
  have hA_f4 : KF [3, 4] f4 f := KF.tr kF_f4 hA_f rfl
  have hP : va_P (dC, dI) vwCl (XW cy x0 x v3 f4) H := hP
  have hD : va_D A (XW cy x0 x v3 f4) := hD
  have hq0_v3 : v3 0 = (v 0) := hk0_v3
  have hq1_v3 : v3 1 = (v 1) := hk1_v3
  have hq9_v3 : v3 9 = (v 9) := hk9_v3
  have hq10_v3 : v3 10 = (v 10) := hk10_v3
  have hq31_v3 : v3 31 = (v 31) := hk31_v3
  have hq32_v3 : v3 32 = (v 32) := hk32_v3
  rcases hw with ⟨g5⟩ | ⟨g5⟩
  · skip
    subst g5
    refine lv_if_ne (tgt := 47) hx hb dX6_expression_42 rfl (fun _ => ?_) (fun c0 => absurd c0 (by decide))
    refine lv_iload_n hx hb dX6_expression_47 rfl (lv_at hl 1 rfl) ?_
    refine lv_iconst (v := 2) hx hb dX6_expression_48 rfl ?_
    refine lv_icmp_ne (tgt := 56) hx hb dX6_expression_49 rfl (fun _ => ?_) (fun c0 => absurd c0 (by decide))
    refine lv_sipush (v := 1600) hx hb dX6_expression_56 rfl ?_
    refine lv_istore_n (lv' := [(3, .int 1600), (0, .ref (x 2)), (1, .int 3), (2, .int 0)]) hx hb dX6_expression_59 rfl hl (Nat.le_of_ble_eq_true rfl) rfl (fun ls hl => ?_)
    refine lv_iconst (v := 0) hx hb dX6_expression_60 rfl ?_
    refine lv_istore (lv' := [(4, .int 0), (3, .int 1600), (0, .ref (x 2)), (1, .int 3), (2, .int 0)]) hx hb dX6_expression_61 hl (Nat.le_of_ble_eq_true rfl) rfl (fun ls hl => ?_)
    have lp6 : ∀ (n6 : Nat) (l4_6 : Int32) (v6 : Nat → Int32) (f6 : Nat → Nat → Int32), XI v6 → v6 0 = (v 0) → v6 1 = (v 1) → v6 9 = (v 9) → v6 10 = (v 10) → v6 31 = (v 31) → v6 32 = (v 32) → gsX_X6_expression_4_L6 NF n6 l4_6 v6 f6 = (gsX_X6_expression_4 NF v f) → ((0 : Int) ≤ l4_6.toInt ∧ l4_6.toInt ≤ 2147483647) → KV [2, 3, 4, 5, 7, 8, 16, 17] v6 v → KF [3, 4] f6 f → (2147483647 - l4_6.toInt).toNat < n6 → ∀ (H : Heap) (locs : List Loc) (ls : Array Slot), va_P (dC, dI) vwCl (XW cy x0 x v6 f6) H → va_D A (XW cy x0 x v6 f6) → va_S A s.heap H locs → lv_has ls 6 [(4, .int l4_6), (3, .int 1600), (0, .ref (x 2)), (1, .int 3), (2, .int 0)] → W p l e { frames := 59, cells := 0, slots := 0, locals := 1475 } s m ([.ref (x 2), .int 3, .int 0] : List Value).toArray below meth c H locs 0 0 Q (F0 m 63 ls []) := by
      intro n6
      induction n6 with
      | zero => intro l4_6 v6 f6 hIv6 hq0_v6 hq1_v6 hq9_v6 hq10_v6 hq31_v6 hq32_v6 hT6 hr4_6 hM_v6 hA_f6 hm; exact absurd hm (Nat.not_lt_zero _)
      | succ n6 ih6 =>
        intro l4_6 v6 f6 hIv6 hq0_v6 hq1_v6 hq9_v6 hq10_v6 hq31_v6 hq32_v6 hT6 hr4_6 hM_v6 hA_f6 hm6 H locs ls hP hD hS hl
        refine lv_iload hx hb dX6_expression_63 (lv_at hl 0 rfl) ?_
        refine lv_iload_n hx hb dX6_expression_65 rfl (lv_at hl 1 rfl) ?_
        refine lv_icmp_ge (tgt := 131) hx hb dX6_expression_66 rfl (fun c7 => ?_) (fun c7 => ?_)
        · skip
          refine lv_iconst (v := 1) hx hb dX6_expression_131 rfl ?_
          exact ret 1 (v6, f6) _ _ _ _ _ _ rfl ⟨(hT6.symm.trans (gsX_X6_expression_4_q0 c7)), hM_v6, hA_f6, hIv6, hq0_v6, hq1_v6, hq9_v6, hq10_v6, hq31_v6, hq32_v6, (Or.inl rfl)⟩ hP hD hS dX6_expression_132 (Nat.le_refl _) (Nat.le_refl _)
        · skip
          have zc7 : ¬ (1600 ≤ l4_6.toInt) := zMn tc_1600 rfl c7
          refine lv_iload_n hx hb dX6_expression_69 rfl (lv_at hl 3 rfl) ?_
          refine lv_aload_n hx hb dX6_expression_70 rfl (lv_at hl 2 rfl) ?_
          refine va_get (D := (dC, dI)) (ci := 6) (v := .ref (x 0)) (C := RX6) (T := TX6) (N := 7) hx hb hts inB_6 hown hE.1 hP 3 rfl rfl 0 (Nat.le_of_ble_eq_true rfl) (hts _ k_265) (fun _ h9 => h9) rfl dX6_expression_71 ?_
          refine va_getN (D := (dC, dI)) (ci := 9) (v := .int (v6 2)) (C := RX9) (T := TX9) (N := 6) hx hb hts inB_9 hown hE.1 hP 1 rfl rfl 2 (Nat.le_of_ble_eq_true rfl) (va_Nw.use rfl (hE.2 _ k_139)) (fun _ h9 => h9) rfl dX6_expression_74 ?_
          refine cbSi (n := 2) (rest := []) hx hb hml hown hts hE hP hD hS hA (sX_X6_joins_1 NF l dC dI cy x0 x 3 (v6 2) v6 f6 hIv6 ) k_756 k_757 k_103 k_758 he_yX6_joins ⟨Nat.le_of_ble_eq_true rfl, Nat.le_of_ble_eq_true rfl⟩ (rfl) hl.1 rfl (Nat.le_of_ble_eq_true rfl) dX6_expression_77 (fun r8 u H locs hw hP hD hS => ?_)
          obtain ⟨hG9, hw⟩ := hw
          rcases hw with ⟨g10⟩ | ⟨g10⟩
          · skip
            subst g10
            refine lv_if_eq (tgt := 131) hx hb dX6_expression_80 rfl (fun c0 => absurd c0 (by decide)) (fun _ => ?_)
            refine lv_aload_n hx hb dX6_expression_83 rfl (lv_at hl 2 rfl) ?_
            refine va_get (D := (dC, dI)) (ci := 6) (v := .ref (x 0)) (C := RX6) (T := TX6) (N := 7) hx hb hts inB_6 hown hE.1 hP 3 rfl rfl 0 (Nat.le_of_ble_eq_true rfl) (hts _ k_265) (fun _ h9 => h9) rfl dX6_expression_84 ?_
            refine va_getN (D := (dC, dI)) (ci := 9) (v := .int (v6 2)) (C := RX9) (T := TX9) (N := 6) hx hb hts inB_9 hown hE.1 hP 1 rfl rfl 2 (Nat.le_of_ble_eq_true rfl) (va_Nw.use rfl (hE.2 _ k_139)) (fun _ h9 => h9) rfl dX6_expression_87 ?_
            refine lv_istore (lv' := [(5, .int (v6 2)), (4, .int l4_6), (3, .int 1600), (0, .ref (x 2)), (1, .int 3), (2, .int 0)]) hx hb dX6_expression_90 hl (Nat.le_of_ble_eq_true rfl) rfl (fun ls hl => ?_)
            refine lv_aload_n hx hb dX6_expression_92 rfl (lv_at hl 3 rfl) ?_
            refine va_get (D := (dC, dI)) (ci := 6) (v := .ref (x 0)) (C := RX6) (T := TX6) (N := 7) hx hb hts inB_6 hown hE.1 hP 3 rfl rfl 0 (Nat.le_of_ble_eq_true rfl) (hts _ k_265) (fun _ h9 => h9) rfl dX6_expression_93 ?_
            refine csVv (n := 0) (rest := []) hx hb hml hown hts hE hP hD hS hA hF hT (sX_X9_advance_1 NF l dC dI cy x0 x  v6 f6 hIv6 ) k_699 k_559 k_560 k_102 k_561 hd_yX9_advance ⟨Nat.le_of_ble_eq_true rfl, Nat.le_of_ble_eq_true rfl⟩ 1 9 rfl rfl (rfl) hl.1 rfl (Nat.le_of_ble_eq_true rfl) dX6_expression_96 (fun u H locs hw hP hD hS => ?_)
            obtain ⟨hG11, hw⟩ := hw
            obtain ⟨v12, f13⟩ := u
            obtain ⟨kV_v12, kF_f13, hIv12, hk0_v12, hk1_v12, hk7_v12, hk8_v12, hk9_v12, hk10_v12, hk31_v12, hk32_v12⟩ := hw
            have hM_v12 : KV [2, 3, 4, 5, 7, 8, 16, 17] v12 v := KV.tr kV_v12 hM_v6 rfl
            have hA_f13 : KF [3, 4] f13 f := KF.tr kF_f13 hA_f6 rfl
            have hP : va_P (dC, dI) vwCl (XW cy x0 x v12 f13) H := hP
            have hD : va_D A (XW cy x0 x v12 f13) := hD
            have hq0_v12 : v12 0 = (v 0) := hk0_v12.trans hq0_v6
            have hq1_v12 : v12 1 = (v 1) := hk1_v12.trans hq1_v6
            have hq9_v12 : v12 9 = (v 9) := hk9_v12.trans hq9_v6
            have hq10_v12 : v12 10 = (v 10) := hk10_v12.trans hq10_v6
            have hq31_v12 : v12 31 = (v 31) := hk31_v12.trans hq31_v6
            have hq32_v12 : v12 32 = (v 32) := hk32_v12.trans hq32_v6
            refine lv_aload_n hx hb dX6_expression_99 rfl (lv_at hl 3 rfl) ?_
            refine lv_iload_n hx hb dX6_expression_100 rfl (lv_at hl 4 rfl) ?_
            refine lv_iconst (v := 1) hx hb dX6_expression_101 rfl ?_
            refine lv_iadd hx hb dX6_expression_102 ?_
            refine tI (y := 4) (by decide) ?_
            refine lv_iload_n hx hb dX6_expression_103 rfl (lv_at hl 5 rfl) ?_
            refine csVi (n := 2) (rest := []) hx hb hml hown hts hE hP hD hS hA hF hT (sX_X6_expression_5 NF l dC dI cy x0 x  v12 f13 hIv12 ) k_740 k_742 k_15 k_103 k_743 hd_yX6_expression ⟨Nat.le_of_ble_eq_true rfl, Nat.le_of_ble_eq_true rfl⟩ 3 6 rfl rfl (rfl) hl.1 rfl (Nat.le_of_ble_eq_true rfl) dX6_expression_104 (fun r14 u H locs hw hP hD hS => ?_)
            obtain ⟨hG15, hw⟩ := hw
            obtain ⟨v16, f17⟩ := u
            obtain ⟨kV_v16, kF_f17, hIv16, hk0_v16, hk1_v16, hk9_v16, hk10_v16, hk31_v16, hk32_v16, hw⟩ := hw
            have hM_v16 : KV [2, 3, 4, 5, 7, 8, 16, 17] v16 v := KV.tr kV_v16 hM_v12 rfl
            have hA_f17 : KF [3, 4] f17 f := KF.tr kF_f17 hA_f13 rfl
            have hP : va_P (dC, dI) vwCl (XW cy x0 x v16 f17) H := hP
            have hD : va_D A (XW cy x0 x v16 f17) := hD
            have hq0_v16 : v16 0 = (v 0) := hk0_v16.trans hq0_v12
            have hq1_v16 : v16 1 = (v 1) := hk1_v16.trans hq1_v12
            have hq9_v16 : v16 9 = (v 9) := hk9_v16.trans hq9_v12
            have hq10_v16 : v16 10 = (v 10) := hk10_v16.trans hq10_v12
            have hq31_v16 : v16 31 = (v 31) := hk31_v16.trans hq31_v12
            have hq32_v16 : v16 32 = (v 32) := hk32_v16.trans hq32_v12
            rcases hw with ⟨g18⟩ | ⟨g18⟩
            · skip
              subst g18
              refine lv_if_ne (tgt := 112) hx hb dX6_expression_107 rfl (fun _ => ?_) (fun c0 => absurd c0 (by decide))
              refine lv_aload_n hx hb dX6_expression_112 rfl (lv_at hl 3 rfl) ?_
              refine va_get (D := (dC, dI)) (ci := 6) (v := .ref (x 3)) (C := RX6) (T := TX6) (N := 7) hx hb hts inB_6 hown hE.1 hP 3 rfl rfl 1 (Nat.le_of_ble_eq_true rfl) (hts _ k_266) (fun _ h9 => h9) rfl dX6_expression_113 ?_
              refine va_getN (D := (dC, dI)) (ci := 7) (v := .ref (x 6)) (C := RX7) (T := TX7) (N := 10) hx hb hts inB_7 hown hE.1 hP 4 rfl rfl 2 (Nat.le_of_ble_eq_true rfl) (va_Nw.use rfl (hE.2 _ k_210)) (fun _ h9 => h9) rfl dX6_expression_116 ?_
              refine lv_iload hx hb dX6_expression_119 (lv_at hl 0 rfl) ?_
              refine lv_iconst (v := 0) hx hb dX6_expression_121 rfl ?_
              refine cbVv (n := 2) (rest := []) hx hb hml hown hts hE hP hD hS hA (sX_X4_add_1 NF l dC dI cy x0 x (v6 2) 0 v16 f17 hIv16 ) k_748 k_749 k_750 k_105 k_751 hd_yX4_add ⟨Nat.le_of_ble_eq_true rfl, Nat.le_of_ble_eq_true rfl⟩ 7 4 rfl rfl (rfl) hl.1 rfl (Nat.le_of_ble_eq_true rfl) dX6_expression_122 (fun u H locs hw hP hD hS => ?_)
              obtain ⟨hG19, hw⟩ := hw
              obtain ⟨v20, f21⟩ := u
              obtain ⟨kV_v20, kF_f21, hIv20, hk0_v20, hk1_v20, hk7_v20, hk8_v20, hk9_v20, hk10_v20, hk31_v20, hk32_v20⟩ := hw
              have hM_v20 : KV [2, 3, 4, 5, 7, 8, 16, 17] v20 v := KV.tr kV_v20 hM_v16 rfl
              have hA_f21 : KF [3, 4] f21 f := KF.tr kF_f21 hA_f17 rfl
              have hP : va_P (dC, dI) vwCl (XW cy x0 x v20 f21) H := hP
              have hD : va_D A (XW cy x0 x v20 f21) := hD
              have hq0_v20 : v20 0 = (v 0) := hk0_v20.trans hq0_v16
              have hq1_v20 : v20 1 = (v 1) := hk1_v20.trans hq1_v16
              have hq9_v20 : v20 9 = (v 9) := hk9_v20.trans hq9_v16
              have hq10_v20 : v20 10 = (v 10) := hk10_v20.trans hq10_v16
              have hq31_v20 : v20 31 = (v 31) := hk31_v20.trans hq31_v16
              have hq32_v20 : v20 32 = (v 32) := hk32_v20.trans hq32_v16
              obtain ⟨t22, et22⟩ : ∃ y : Int32, y = l4_6 + 1 := ⟨_, rfl⟩
              have zt22 : t22.toInt = l4_6.toInt + 1 := (congrArg Int32.toInt et22).trans (add_i rfl tc_1 (om_41 hr4_6) (om_5 zc7))
              refine lv_iinc (v := t22) (lv' := [(4, .int t22), (5, .int (v6 2)), (3, .int 1600), (0, .ref (x 2)), (1, .int 3), (2, .int 0)]) hx hb dX6_expression_125 hl (k := 1) rfl et22.symm (Nat.le_of_ble_eq_true rfl) rfl (fun ls hl => ?_)
              refine lv_goto (tgt := 63) hx hb dX6_expression_128 rfl ?_
              have rg24 := fb_rng t22
              exact ih6 t22 v20 f21 hIv20 hq0_v20 hq1_v20 hq9_v20 hq10_v20 hq31_v20 hq32_v20 ((gsX_X6_expression_4_q1 c7 hG9 hG11 hG15 hG19 et22).symm.trans hT6) ⟨show (0 : Int) ≤ t22.toInt from om_43 hr4_6 zt22, show t22.toInt ≤ (2147483647 : Int) from om_44 rg24⟩ hM_v20 hA_f21 (show (2147483647 - t22.toInt).toNat < n6 from om_33 hm6 zt22 rg24) _ _ _ hP hD hS (lv_sub hl [0, 2, 3, 4, 5] rfl)
            · skip
              subst g18
              refine lv_if_ne (tgt := 112) hx hb dX6_expression_107 rfl (fun c0 => absurd (by decide) c0) (fun _ => ?_)
              refine lv_iconst (v := 0) hx hb dX6_expression_110 rfl ?_
              exact ret 0 (v16, f17) _ _ _ _ _ _ rfl ⟨(hT6.symm.trans (gsX_X6_expression_4_q2 c7 hG9 hG11 hG15)), hM_v16, hA_f17, hIv16, (hk0_v16.trans (hk0_v12.trans hq0_v6)), (hk1_v16.trans (hk1_v12.trans hq1_v6)), (hk9_v16.trans (hk9_v12.trans hq9_v6)), (hk10_v16.trans (hk10_v12.trans hq10_v6)), (hk31_v16.trans (hk31_v12.trans hq31_v6)), (hk32_v16.trans (hk32_v12.trans hq32_v6)), (Or.inr rfl)⟩ hP hD hS dX6_expression_111 (Nat.le_refl _) (Nat.le_refl _)
          · skip
            subst g10
            refine lv_if_eq (tgt := 131) hx hb dX6_expression_80 rfl (fun _ => ?_) (fun c0 => absurd (by decide) c0)
            refine lv_iconst (v := 1) hx hb dX6_expression_131 rfl ?_
            exact ret 1 (v6, f6) _ _ _ _ _ _ rfl ⟨(hT6.symm.trans (gsX_X6_expression_4_q3 c7 hG9)), hM_v6, hA_f6, hIv6, hq0_v6, hq1_v6, hq9_v6, hq10_v6, hq31_v6, hq32_v6, (Or.inl rfl)⟩ hP hD hS dX6_expression_132 (Nat.le_refl _) (Nat.le_refl _)
    exact lp6 (4294967296 + NF) 0 v3 f4 hIv3 hq0_v3 hq1_v3 hq9_v3 hq10_v3 hq31_v3 hq32_v3 (gsX_X6_expression_4_q4 hG2).symm ⟨by decide, by decide⟩ hM_v3 hA_f4 (show (2147483647 - (0 : Int32).toInt).toNat < 4294967296 + NF from om_38 tc_0) _ _ _ hP hD hS (lv_sub hl [0, 1, 2, 3, 4] rfl)
  · skip
    subst g5
    refine lv_if_ne (tgt := 47) hx hb dX6_expression_42 rfl (fun c0 => absurd (by decide) c0) (fun _ => ?_)
    refine lv_iconst (v := 0) hx hb dX6_expression_45 rfl ?_
    exact ret 0 (v3, f4) _ _ _ _ _ _ rfl ⟨(gsX_X6_expression_4_q5 hG2), hM_v3, hA_f4, hIv3, hk0_v3, hk1_v3, hk9_v3, hk10_v3, hk31_v3, hk32_v3, (Or.inr rfl)⟩ hP hD hS dX6_expression_46 (Nat.le_refl _) (Nat.le_refl _)
set_option maxHeartbeats 4000000 in
set_option maxRecDepth 100000 in
theorem sX_X6_negation_8 (NF : Nat) (l : Launch) (dC : Nat → ClassId) (dI : Nat → Nat → Nat) (cy : Nat → ClassId) (x0 : Nat) (x : Nat → Nat)  (v : Nat → Int32) (f : Nat → Nat → Int32) (hIv : XI v)  : ctIS l (dC, dI) cy yX6_negation cX6_negation 2 .boolean 54 1352 0 0 ((Nat → Int32) × (Nat → Nat → Int32)) [.ref (x 2), .int 0] (XW cy x0 x v f) (fun r u => gsX_X6_negation_8 NF v f = (r, u) ∧ KV [2, 3, 4, 5, 7, 8, 16, 17] u.1 v ∧ KF [3, 4] u.2 f ∧ XI u.1 ∧ u.1 0 = v 0 ∧ u.1 1 = v 1 ∧ u.1 9 = v 9 ∧ u.1 10 = v 10 ∧ u.1 31 = v 31 ∧ u.1 32 = v 32 ∧ ((r = 1) ∨ (r = 0))) (fun u => XW cy x0 x u.1 u.2) := by
  refine ctIS_of (by decide) (Nat.le_of_ble_eq_true rfl) (fun p e s m below meth c A ls Q hx hb hml hts hown hE hF hT hP hD hA hl ret => ?_)
  have hM_v : KV [2, 3, 4, 5, 7, 8, 16, 17] v v := fun _ _ => rfl
  have hA_f : KF [3, 4] f f := fun _ _ => rfl
  have hown : s.vm.findClass RX6 = some m.cls := hown
  have hS : va_S A s.heap s.heap [] := va_S.rf
  have hl : lv_has ls 2 [(0, .ref (x 2)), (1, .int 0)] := hl
  refine lv_iload_n hx hb dX6_negation_0 rfl (lv_at hl 1 rfl) ?_
  refine lv_bipush (v := 7) hx hb dX6_negation_1 rfl ?_
  refine lv_icmp_lt (tgt := 11) hx hb dX6_negation_3 rfl (fun _ => ?_) (fun c0 => absurd (by decide) c0)
  refine lv_aload_n hx hb dX6_negation_11 rfl (lv_at hl 0 rfl) ?_
  refine va_get (D := (dC, dI)) (ci := 6) (v := .ref (x 0)) (C := RX6) (T := TX6) (N := 7) hx hb hts inB_6 hown hE.1 hP 3 rfl rfl 0 (Nat.le_of_ble_eq_true rfl) (hts _ k_265) (fun _ h9 => h9) rfl dX6_negation_12 ?_
  refine csVv (n := 0) (rest := []) hx hb hml hown hts hE hP hD hS hA hF hT (sX_X9_advance_1 NF l dC dI cy x0 x  v f hIv ) k_699 k_559 k_560 k_102 k_561 hd_yX9_advance ⟨Nat.le_of_ble_eq_true rfl, Nat.le_of_ble_eq_true rfl⟩ 1 9 rfl rfl (rfl) hl.1 rfl (Nat.le_of_ble_eq_true rfl) dX6_negation_15 (fun u H locs hw hP hD hS => ?_)
  obtain ⟨hG1, hw⟩ := hw
  obtain ⟨v2, f3⟩ := u
  obtain ⟨kV_v2, kF_f3, hIv2, hk0_v2, hk1_v2, hk7_v2, hk8_v2, hk9_v2, hk10_v2, hk31_v2, hk32_v2⟩ := hw
  have hM_v2 : KV [2, 3, 4, 5, 7, 8, 16, 17] v2 v := KV.tr kV_v2 hM_v rfl
  have hA_f3 : KF [3, 4] f3 f := KF.tr kF_f3 hA_f rfl
  have hP : va_P (dC, dI) vwCl (XW cy x0 x v2 f3) H := hP
  have hD : va_D A (XW cy x0 x v2 f3) := hD
  have hq0_v2 : v2 0 = (v 0) := hk0_v2
  have hq1_v2 : v2 1 = (v 1) := hk1_v2
  have hq7_v2 : v2 7 = (v 7) := hk7_v2
  have hq8_v2 : v2 8 = (v 8) := hk8_v2
  have hq9_v2 : v2 9 = (v 9) := hk9_v2
  have hq10_v2 : v2 10 = (v 10) := hk10_v2
  have hq31_v2 : v2 31 = (v 31) := hk31_v2
  have hq32_v2 : v2 32 = (v 32) := hk32_v2
  refine lv_aload_n hx hb dX6_negation_18 rfl (lv_at hl 0 rfl) ?_
  refine lv_iconst (v := 2) hx hb dX6_negation_19 rfl ?_
  refine lv_iload_n hx hb dX6_negation_20 rfl (lv_at hl 1 rfl) ?_
  refine lv_iconst (v := 1) hx hb dX6_negation_21 rfl ?_
  refine lv_iadd hx hb dX6_negation_22 ?_
  refine tI (y := 1) (by decide) ?_
  refine csVi (n := 2) (rest := []) hx hb hml hown hts hE hP hD hS hA hF hT (sX_X6_expression_9 NF l dC dI cy x0 x  v2 f3 hIv2 ) k_740 k_742 k_15 k_103 k_743 hd_yX6_expression ⟨Nat.le_of_ble_eq_true rfl, Nat.le_of_ble_eq_true rfl⟩ 3 6 rfl rfl (rfl) hl.1 rfl (Nat.le_of_ble_eq_true rfl) dX6_negation_23 (fun r4 u H locs hw hP hD hS => ?_)
  obtain ⟨hG5, hw⟩ := hw
  obtain ⟨v6, f7⟩ := u
  obtain ⟨kV_v6, kF_f7, hIv6, hk0_v6, hk1_v6, hk9_v6, hk10_v6, hk31_v6, hk32_v6, hw⟩ := hw
  have hM_v6 : KV [2, 3, 4, 5, 7, 8, 16, 17] v6 v := KV.tr kV_v6 hM_v2 rfl
  have hA_f7 : KF [3, 4] f7 f := KF.tr kF_f7 hA_f3 rfl
  have hP : va_P (dC, dI) vwCl (XW cy x0 x v6 f7) H := hP
  have hD : va_D A (XW cy x0 x v6 f7) := hD
  have hq0_v6 : v6 0 = (v 0) := hk0_v6.trans hq0_v2
  have hq1_v6 : v6 1 = (v 1) := hk1_v6.trans hq1_v2
  have hq9_v6 : v6 9 = (v 9) := hk9_v6.trans hq9_v2
  have hq10_v6 : v6 10 = (v 10) := hk10_v6.trans hq10_v2
  have hq31_v6 : v6 31 = (v 31) := hk31_v6.trans hq31_v2
  have hq32_v6 : v6 32 = (v 32) := hk32_v6.trans hq32_v2
  rcases hw with ⟨g8⟩ | ⟨g8⟩
  · skip
    subst g8
    refine lv_if_ne (tgt := 31) hx hb dX6_negation_26 rfl (fun _ => ?_) (fun c0 => absurd c0 (by decide))
    refine lv_aload_n hx hb dX6_negation_31 rfl (lv_at hl 0 rfl) ?_
    refine va_get (D := (dC, dI)) (ci := 6) (v := .ref (x 3)) (C := RX6) (T := TX6) (N := 7) hx hb hts inB_6 hown hE.1 hP 3 rfl rfl 1 (Nat.le_of_ble_eq_true rfl) (hts _ k_266) (fun _ h9 => h9) rfl dX6_negation_32 ?_
    refine va_getN (D := (dC, dI)) (ci := 7) (v := .ref (x 6)) (C := RX7) (T := TX7) (N := 10) hx hb hts inB_7 hown hE.1 hP 4 rfl rfl 2 (Nat.le_of_ble_eq_true rfl) (va_Nw.use rfl (hE.2 _ k_210)) (fun _ h9 => h9) rfl dX6_negation_35 ?_
    refine lv_bipush (v := 115) hx hb dX6_negation_38 rfl ?_
    refine lv_iconst (v := 0) hx hb dX6_negation_40 rfl ?_
    refine cbVv (n := 2) (rest := []) hx hb hml hown hts hE hP hD hS hA (sX_X4_add_1 NF l dC dI cy x0 x 115 0 v6 f7 hIv6 ) k_748 k_749 k_750 k_105 k_751 hd_yX4_add ⟨Nat.le_of_ble_eq_true rfl, Nat.le_of_ble_eq_true rfl⟩ 7 4 rfl rfl (rfl) hl.1 rfl (Nat.le_of_ble_eq_true rfl) dX6_negation_41 (fun u H locs hw hP hD hS => ?_)
    obtain ⟨hG9, hw⟩ := hw
    obtain ⟨v10, f11⟩ := u
    obtain ⟨kV_v10, kF_f11, hIv10, hk0_v10, hk1_v10, hk7_v10, hk8_v10, hk9_v10, hk10_v10, hk31_v10, hk32_v10⟩ := hw
    have hM_v10 : KV [2, 3, 4, 5, 7, 8, 16, 17] v10 v := KV.tr kV_v10 hM_v6 rfl
    have hA_f11 : KF [3, 4] f11 f := KF.tr kF_f11 hA_f7 rfl
    have hP : va_P (dC, dI) vwCl (XW cy x0 x v10 f11) H := hP
    have hD : va_D A (XW cy x0 x v10 f11) := hD
    have hq0_v10 : v10 0 = (v 0) := hk0_v10.trans hq0_v6
    have hq1_v10 : v10 1 = (v 1) := hk1_v10.trans hq1_v6
    have hq7_v10 : v10 7 = (v6 7) := hk7_v10
    have hq8_v10 : v10 8 = (v6 8) := hk8_v10
    have hq9_v10 : v10 9 = (v 9) := hk9_v10.trans hq9_v6
    have hq10_v10 : v10 10 = (v 10) := hk10_v10.trans hq10_v6
    have hq31_v10 : v10 31 = (v 31) := hk31_v10.trans hq31_v6
    have hq32_v10 : v10 32 = (v 32) := hk32_v10.trans hq32_v6
    refine lv_iconst (v := 1) hx hb dX6_negation_44 rfl ?_
    exact ret 1 (v10, f11) _ _ _ _ _ _ rfl ⟨(gsX_X6_negation_8_q0 hG1 hG5 hG9), hM_v10, hA_f11, hIv10, (hk0_v10.trans (hk0_v6.trans hk0_v2)), (hk1_v10.trans (hk1_v6.trans hk1_v2)), (hk9_v10.trans (hk9_v6.trans hk9_v2)), (hk10_v10.trans (hk10_v6.trans hk10_v2)), (hk31_v10.trans (hk31_v6.trans hk31_v2)), (hk32_v10.trans (hk32_v6.trans hk32_v2)), (Or.inl rfl)⟩ hP hD hS dX6_negation_45 (Nat.le_refl _) (Nat.le_refl _)
  · skip
    subst g8
    refine lv_if_ne (tgt := 31) hx hb dX6_negation_26 rfl (fun c0 => absurd (by decide) c0) (fun _ => ?_)
    refine lv_iconst (v := 0) hx hb dX6_negation_29 rfl ?_
    exact ret 0 (v6, f7) _ _ _ _ _ _ rfl ⟨(gsX_X6_negation_8_q1 hG1 hG5), hM_v6, hA_f7, hIv6, (hk0_v6.trans hk0_v2), (hk1_v6.trans hk1_v2), (hk9_v6.trans hk9_v2), (hk10_v6.trans hk10_v2), (hk31_v6.trans hk31_v2), (hk32_v6.trans hk32_v2), (Or.inr rfl)⟩ hP hD hS dX6_negation_30 (Nat.le_refl _) (Nat.le_refl _)
set_option maxHeartbeats 4000000 in
set_option maxRecDepth 100000 in
theorem sX_X6_expression_3 (NF : Nat) (l : Launch) (dC : Nat → ClassId) (dI : Nat → Nat → Nat) (cy : Nat → ClassId) (x0 : Nat) (x : Nat → Nat)  (v : Nat → Int32) (f : Nat → Nat → Int32) (hIv : XI v)  : ctIS l (dC, dI) cy yX6_expression cX6_expression 6 .boolean 60 1500 0 0 ((Nat → Int32) × (Nat → Nat → Int32)) [.ref (x 2), .int 2, .int 0] (XW cy x0 x v f) (fun r u => gsX_X6_expression_3 NF v f = (r, u) ∧ KV [2, 3, 4, 5, 7, 8, 16, 17] u.1 v ∧ KF [3, 4] u.2 f ∧ XI u.1 ∧ u.1 0 = v 0 ∧ u.1 1 = v 1 ∧ u.1 9 = v 9 ∧ u.1 10 = v 10 ∧ u.1 31 = v 31 ∧ u.1 32 = v 32 ∧ ((r = 1) ∨ (r = 0))) (fun u => XW cy x0 x u.1 u.2) := by
  refine ctIS_of (by decide) (Nat.le_of_ble_eq_true rfl) (fun p e s m below meth c A ls Q hx hb hml hts hown hE hF hT hP hD hA hl ret => ?_)
  have hM_v : KV [2, 3, 4, 5, 7, 8, 16, 17] v v := fun _ _ => rfl
  have hA_f : KF [3, 4] f f := fun _ _ => rfl
  have hown : s.vm.findClass RX6 = some m.cls := hown
  have hS : va_S A s.heap s.heap [] := va_S.rf
  have hl : lv_has ls 6 [(0, .ref (x 2)), (1, .int 2), (2, .int 0)] := hl
  refine lv_iload_n hx hb dX6_expression_0 rfl (lv_at hl 1 rfl) ?_
  refine lv_iconst (v := 5) hx hb dX6_expression_1 rfl ?_
  refine lv_icmp_lt (tgt := 11) hx hb dX6_expression_2 rfl (fun _ => ?_) (fun c0 => absurd (by decide) c0)
  refine lv_iload_n hx hb dX6_expression_11 rfl (lv_at hl 1 rfl) ?_
  refine lv_iconst (v := 2) hx hb dX6_expression_12 rfl ?_
  refine lv_icmp_ne (tgt := 34) hx hb dX6_expression_13 rfl (fun c0 => absurd (by decide) c0) (fun _ => ?_)
  refine lv_aload_n hx hb dX6_expression_16 rfl (lv_at hl 0 rfl) ?_
  refine va_get (D := (dC, dI)) (ci := 6) (v := .ref (x 0)) (C := RX6) (T := TX6) (N := 7) hx hb hts inB_6 hown hE.1 hP 3 rfl rfl 0 (Nat.le_of_ble_eq_true rfl) (hts _ k_265) (fun _ h9 => h9) rfl dX6_expression_17 ?_
  refine va_getN (D := (dC, dI)) (ci := 9) (v := .int (v 2)) (C := RX9) (T := TX9) (N := 6) hx hb hts inB_9 hown hE.1 hP 1 rfl rfl 2 (Nat.le_of_ble_eq_true rfl) (va_Nw.use rfl (hE.2 _ k_139)) (fun _ h9 => h9) rfl dX6_expression_20 ?_
  refine lv_bipush (v := 115) hx hb dX6_expression_23 rfl ?_
  refine lv_icmp_ne (tgt := 34) hx hb dX6_expression_25 rfl (fun c1 => ?_) (fun c1 => ?_)
  · skip
    refine lv_aload_n hx hb dX6_expression_34 rfl (lv_at hl 0 rfl) ?_
    refine lv_iload_n hx hb dX6_expression_35 rfl (lv_at hl 1 rfl) ?_
    refine lv_iconst (v := 1) hx hb dX6_expression_36 rfl ?_
    refine lv_iadd hx hb dX6_expression_37 ?_
    refine tI (y := 3) (by decide) ?_
    refine lv_iload_n hx hb dX6_expression_38 rfl (lv_at hl 2 rfl) ?_
    refine csVi (n := 2) (rest := []) hx hb hml hown hts hE hP hD hS hA hF hT (sX_X6_expression_4 NF l dC dI cy x0 x  v f hIv ) k_740 k_742 k_15 k_103 k_743 hd_yX6_expression ⟨Nat.le_of_ble_eq_true rfl, Nat.le_of_ble_eq_true rfl⟩ 3 6 rfl rfl (rfl) hl.1 rfl (Nat.le_of_ble_eq_true rfl) dX6_expression_39 (fun r2 u H locs hw hP hD hS => ?_)
    obtain ⟨hG3, hw⟩ := hw
    obtain ⟨v4, f5⟩ := u
    obtain ⟨kV_v4, kF_f5, hIv4, hk0_v4, hk1_v4, hk9_v4, hk10_v4, hk31_v4, hk32_v4, hw⟩ := hw
    have hM_v4 : KV [2, 3, 4, 5, 7, 8, 16, 17] v4 v := KV.tr kV_v4 hM_v rfl
    have hA_f5 : KF [3, 4] f5 f := KF.tr kF_f5 hA_f rfl
    have hP : va_P (dC, dI) vwCl (XW cy x0 x v4 f5) H := hP
    have hD : va_D A (XW cy x0 x v4 f5) := hD
    have hq0_v4 : v4 0 = (v 0) := hk0_v4
    have hq1_v4 : v4 1 = (v 1) := hk1_v4
    have hq9_v4 : v4 9 = (v 9) := hk9_v4
    have hq10_v4 : v4 10 = (v 10) := hk10_v4
    have hq31_v4 : v4 31 = (v 31) := hk31_v4
    have hq32_v4 : v4 32 = (v 32) := hk32_v4
    rcases hw with ⟨g6⟩ | ⟨g6⟩
    · skip
      subst g6
      refine lv_if_ne (tgt := 47) hx hb dX6_expression_42 rfl (fun _ => ?_) (fun c0 => absurd c0 (by decide))
      refine lv_iload_n hx hb dX6_expression_47 rfl (lv_at hl 1 rfl) ?_
      refine lv_iconst (v := 2) hx hb dX6_expression_48 rfl ?_
      refine lv_icmp_ne (tgt := 56) hx hb dX6_expression_49 rfl (fun c0 => absurd (by decide) c0) (fun _ => ?_)
      refine lv_iconst (v := 1) hx hb dX6_expression_52 rfl ?_
      refine lv_goto (tgt := 59) hx hb dX6_expression_53 rfl ?_
      refine lv_istore_n (lv' := [(3, .int 1), (0, .ref (x 2)), (1, .int 2), (2, .int 0)]) hx hb dX6_expression_59 rfl hl (Nat.le_of_ble_eq_true rfl) rfl (fun ls hl => ?_)
      refine lv_iconst (v := 0) hx hb dX6_expression_60 rfl ?_
      refine lv_istore (lv' := [(4, .int 0), (3, .int 1), (0, .ref (x 2)), (1, .int 2), (2, .int 0)]) hx hb dX6_expression_61 hl (Nat.le_of_ble_eq_true rfl) rfl (fun ls hl => ?_)
      have lp7 : ∀ (n7 : Nat) (l4_7 : Int32) (v7 : Nat → Int32) (f7 : Nat → Nat → Int32), XI v7 → v7 0 = (v 0) → v7 1 = (v 1) → v7 9 = (v 9) → v7 10 = (v 10) → v7 31 = (v 31) → v7 32 = (v 32) → gsX_X6_expression_3_L7 NF n7 l4_7 v7 f7 = (gsX_X6_expression_3 NF v f) → ((0 : Int) ≤ l4_7.toInt ∧ l4_7.toInt ≤ 2147483647) → KV [2, 3, 4, 5, 7, 8, 16, 17] v7 v → KF [3, 4] f7 f → (2147483647 - l4_7.toInt).toNat < n7 → ∀ (H : Heap) (locs : List Loc) (ls : Array Slot), va_P (dC, dI) vwCl (XW cy x0 x v7 f7) H → va_D A (XW cy x0 x v7 f7) → va_S A s.heap H locs → lv_has ls 6 [(4, .int l4_7), (3, .int 1), (0, .ref (x 2)), (1, .int 2), (2, .int 0)] → W p l e { frames := 60, cells := 0, slots := 0, locals := 1500 } s m ([.ref (x 2), .int 2, .int 0] : List Value).toArray below meth c H locs 0 0 Q (F0 m 63 ls []) := by
        intro n7
        induction n7 with
        | zero => intro l4_7 v7 f7 hIv7 hq0_v7 hq1_v7 hq9_v7 hq10_v7 hq31_v7 hq32_v7 hT7 hr4_7 hM_v7 hA_f7 hm; exact absurd hm (Nat.not_lt_zero _)
        | succ n7 ih7 =>
          intro l4_7 v7 f7 hIv7 hq0_v7 hq1_v7 hq9_v7 hq10_v7 hq31_v7 hq32_v7 hT7 hr4_7 hM_v7 hA_f7 hm7 H locs ls hP hD hS hl
          refine lv_iload hx hb dX6_expression_63 (lv_at hl 0 rfl) ?_
          refine lv_iload_n hx hb dX6_expression_65 rfl (lv_at hl 1 rfl) ?_
          refine lv_icmp_ge (tgt := 131) hx hb dX6_expression_66 rfl (fun c8 => ?_) (fun c8 => ?_)
          · skip
            refine lv_iconst (v := 1) hx hb dX6_expression_131 rfl ?_
            exact ret 1 (v7, f7) _ _ _ _ _ _ rfl ⟨(hT7.symm.trans (gsX_X6_expression_3_q0 c8)), hM_v7, hA_f7, hIv7, hq0_v7, hq1_v7, hq9_v7, hq10_v7, hq31_v7, hq32_v7, (Or.inl rfl)⟩ hP hD hS dX6_expression_132 (Nat.le_refl _) (Nat.le_refl _)
          · skip
            have zc8 : ¬ (1 ≤ l4_7.toInt) := zMn tc_1 rfl c8
            refine lv_iload_n hx hb dX6_expression_69 rfl (lv_at hl 3 rfl) ?_
            refine lv_aload_n hx hb dX6_expression_70 rfl (lv_at hl 2 rfl) ?_
            refine va_get (D := (dC, dI)) (ci := 6) (v := .ref (x 0)) (C := RX6) (T := TX6) (N := 7) hx hb hts inB_6 hown hE.1 hP 3 rfl rfl 0 (Nat.le_of_ble_eq_true rfl) (hts _ k_265) (fun _ h9 => h9) rfl dX6_expression_71 ?_
            refine va_getN (D := (dC, dI)) (ci := 9) (v := .int (v7 2)) (C := RX9) (T := TX9) (N := 6) hx hb hts inB_9 hown hE.1 hP 1 rfl rfl 2 (Nat.le_of_ble_eq_true rfl) (va_Nw.use rfl (hE.2 _ k_139)) (fun _ h9 => h9) rfl dX6_expression_74 ?_
            refine cbSi (n := 2) (rest := []) hx hb hml hown hts hE hP hD hS hA (sX_X6_joins_1 NF l dC dI cy x0 x 2 (v7 2) v7 f7 hIv7 ) k_756 k_757 k_103 k_758 he_yX6_joins ⟨Nat.le_of_ble_eq_true rfl, Nat.le_of_ble_eq_true rfl⟩ (rfl) hl.1 rfl (Nat.le_of_ble_eq_true rfl) dX6_expression_77 (fun r9 u H locs hw hP hD hS => ?_)
            obtain ⟨hG10, hw⟩ := hw
            rcases hw with ⟨g11⟩ | ⟨g11⟩
            · skip
              subst g11
              refine lv_if_eq (tgt := 131) hx hb dX6_expression_80 rfl (fun c0 => absurd c0 (by decide)) (fun _ => ?_)
              refine lv_aload_n hx hb dX6_expression_83 rfl (lv_at hl 2 rfl) ?_
              refine va_get (D := (dC, dI)) (ci := 6) (v := .ref (x 0)) (C := RX6) (T := TX6) (N := 7) hx hb hts inB_6 hown hE.1 hP 3 rfl rfl 0 (Nat.le_of_ble_eq_true rfl) (hts _ k_265) (fun _ h9 => h9) rfl dX6_expression_84 ?_
              refine va_getN (D := (dC, dI)) (ci := 9) (v := .int (v7 2)) (C := RX9) (T := TX9) (N := 6) hx hb hts inB_9 hown hE.1 hP 1 rfl rfl 2 (Nat.le_of_ble_eq_true rfl) (va_Nw.use rfl (hE.2 _ k_139)) (fun _ h9 => h9) rfl dX6_expression_87 ?_
              refine lv_istore (lv' := [(5, .int (v7 2)), (4, .int l4_7), (3, .int 1), (0, .ref (x 2)), (1, .int 2), (2, .int 0)]) hx hb dX6_expression_90 hl (Nat.le_of_ble_eq_true rfl) rfl (fun ls hl => ?_)
              refine lv_aload_n hx hb dX6_expression_92 rfl (lv_at hl 3 rfl) ?_
              refine va_get (D := (dC, dI)) (ci := 6) (v := .ref (x 0)) (C := RX6) (T := TX6) (N := 7) hx hb hts inB_6 hown hE.1 hP 3 rfl rfl 0 (Nat.le_of_ble_eq_true rfl) (hts _ k_265) (fun _ h9 => h9) rfl dX6_expression_93 ?_
              refine csVv (n := 0) (rest := []) hx hb hml hown hts hE hP hD hS hA hF hT (sX_X9_advance_1 NF l dC dI cy x0 x  v7 f7 hIv7 ) k_699 k_559 k_560 k_102 k_561 hd_yX9_advance ⟨Nat.le_of_ble_eq_true rfl, Nat.le_of_ble_eq_true rfl⟩ 1 9 rfl rfl (rfl) hl.1 rfl (Nat.le_of_ble_eq_true rfl) dX6_expression_96 (fun u H locs hw hP hD hS => ?_)
              obtain ⟨hG12, hw⟩ := hw
              obtain ⟨v13, f14⟩ := u
              obtain ⟨kV_v13, kF_f14, hIv13, hk0_v13, hk1_v13, hk7_v13, hk8_v13, hk9_v13, hk10_v13, hk31_v13, hk32_v13⟩ := hw
              have hM_v13 : KV [2, 3, 4, 5, 7, 8, 16, 17] v13 v := KV.tr kV_v13 hM_v7 rfl
              have hA_f14 : KF [3, 4] f14 f := KF.tr kF_f14 hA_f7 rfl
              have hP : va_P (dC, dI) vwCl (XW cy x0 x v13 f14) H := hP
              have hD : va_D A (XW cy x0 x v13 f14) := hD
              have hq0_v13 : v13 0 = (v 0) := hk0_v13.trans hq0_v7
              have hq1_v13 : v13 1 = (v 1) := hk1_v13.trans hq1_v7
              have hq9_v13 : v13 9 = (v 9) := hk9_v13.trans hq9_v7
              have hq10_v13 : v13 10 = (v 10) := hk10_v13.trans hq10_v7
              have hq31_v13 : v13 31 = (v 31) := hk31_v13.trans hq31_v7
              have hq32_v13 : v13 32 = (v 32) := hk32_v13.trans hq32_v7
              refine lv_aload_n hx hb dX6_expression_99 rfl (lv_at hl 3 rfl) ?_
              refine lv_iload_n hx hb dX6_expression_100 rfl (lv_at hl 4 rfl) ?_
              refine lv_iconst (v := 1) hx hb dX6_expression_101 rfl ?_
              refine lv_iadd hx hb dX6_expression_102 ?_
              refine tI (y := 3) (by decide) ?_
              refine lv_iload_n hx hb dX6_expression_103 rfl (lv_at hl 5 rfl) ?_
              refine csVi (n := 2) (rest := []) hx hb hml hown hts hE hP hD hS hA hF hT (sX_X6_expression_4 NF l dC dI cy x0 x  v13 f14 hIv13 ) k_740 k_742 k_15 k_103 k_743 hd_yX6_expression ⟨Nat.le_of_ble_eq_true rfl, Nat.le_of_ble_eq_true rfl⟩ 3 6 rfl rfl (rfl) hl.1 rfl (Nat.le_of_ble_eq_true rfl) dX6_expression_104 (fun r15 u H locs hw hP hD hS => ?_)
              obtain ⟨hG16, hw⟩ := hw
              obtain ⟨v17, f18⟩ := u
              obtain ⟨kV_v17, kF_f18, hIv17, hk0_v17, hk1_v17, hk9_v17, hk10_v17, hk31_v17, hk32_v17, hw⟩ := hw
              have hM_v17 : KV [2, 3, 4, 5, 7, 8, 16, 17] v17 v := KV.tr kV_v17 hM_v13 rfl
              have hA_f18 : KF [3, 4] f18 f := KF.tr kF_f18 hA_f14 rfl
              have hP : va_P (dC, dI) vwCl (XW cy x0 x v17 f18) H := hP
              have hD : va_D A (XW cy x0 x v17 f18) := hD
              have hq0_v17 : v17 0 = (v 0) := hk0_v17.trans hq0_v13
              have hq1_v17 : v17 1 = (v 1) := hk1_v17.trans hq1_v13
              have hq9_v17 : v17 9 = (v 9) := hk9_v17.trans hq9_v13
              have hq10_v17 : v17 10 = (v 10) := hk10_v17.trans hq10_v13
              have hq31_v17 : v17 31 = (v 31) := hk31_v17.trans hq31_v13
              have hq32_v17 : v17 32 = (v 32) := hk32_v17.trans hq32_v13
              rcases hw with ⟨g19⟩ | ⟨g19⟩
              · skip
                subst g19
                refine lv_if_ne (tgt := 112) hx hb dX6_expression_107 rfl (fun _ => ?_) (fun c0 => absurd c0 (by decide))
                refine lv_aload_n hx hb dX6_expression_112 rfl (lv_at hl 3 rfl) ?_
                refine va_get (D := (dC, dI)) (ci := 6) (v := .ref (x 3)) (C := RX6) (T := TX6) (N := 7) hx hb hts inB_6 hown hE.1 hP 3 rfl rfl 1 (Nat.le_of_ble_eq_true rfl) (hts _ k_266) (fun _ h9 => h9) rfl dX6_expression_113 ?_
                refine va_getN (D := (dC, dI)) (ci := 7) (v := .ref (x 6)) (C := RX7) (T := TX7) (N := 10) hx hb hts inB_7 hown hE.1 hP 4 rfl rfl 2 (Nat.le_of_ble_eq_true rfl) (va_Nw.use rfl (hE.2 _ k_210)) (fun _ h9 => h9) rfl dX6_expression_116 ?_
                refine lv_iload hx hb dX6_expression_119 (lv_at hl 0 rfl) ?_
                refine lv_iconst (v := 0) hx hb dX6_expression_121 rfl ?_
                refine cbVv (n := 2) (rest := []) hx hb hml hown hts hE hP hD hS hA (sX_X4_add_1 NF l dC dI cy x0 x (v7 2) 0 v17 f18 hIv17 ) k_748 k_749 k_750 k_105 k_751 hd_yX4_add ⟨Nat.le_of_ble_eq_true rfl, Nat.le_of_ble_eq_true rfl⟩ 7 4 rfl rfl (rfl) hl.1 rfl (Nat.le_of_ble_eq_true rfl) dX6_expression_122 (fun u H locs hw hP hD hS => ?_)
                obtain ⟨hG20, hw⟩ := hw
                obtain ⟨v21, f22⟩ := u
                obtain ⟨kV_v21, kF_f22, hIv21, hk0_v21, hk1_v21, hk7_v21, hk8_v21, hk9_v21, hk10_v21, hk31_v21, hk32_v21⟩ := hw
                have hM_v21 : KV [2, 3, 4, 5, 7, 8, 16, 17] v21 v := KV.tr kV_v21 hM_v17 rfl
                have hA_f22 : KF [3, 4] f22 f := KF.tr kF_f22 hA_f18 rfl
                have hP : va_P (dC, dI) vwCl (XW cy x0 x v21 f22) H := hP
                have hD : va_D A (XW cy x0 x v21 f22) := hD
                have hq0_v21 : v21 0 = (v 0) := hk0_v21.trans hq0_v17
                have hq1_v21 : v21 1 = (v 1) := hk1_v21.trans hq1_v17
                have hq9_v21 : v21 9 = (v 9) := hk9_v21.trans hq9_v17
                have hq10_v21 : v21 10 = (v 10) := hk10_v21.trans hq10_v17
                have hq31_v21 : v21 31 = (v 31) := hk31_v21.trans hq31_v17
                have hq32_v21 : v21 32 = (v 32) := hk32_v21.trans hq32_v17
                obtain ⟨t23, et23⟩ : ∃ y : Int32, y = l4_7 + 1 := ⟨_, rfl⟩
                have zt23 : t23.toInt = l4_7.toInt + 1 := (congrArg Int32.toInt et23).trans (add_i rfl tc_1 (om_41 hr4_7) (om_94 zc8))
                refine lv_iinc (v := t23) (lv' := [(4, .int t23), (5, .int (v7 2)), (3, .int 1), (0, .ref (x 2)), (1, .int 2), (2, .int 0)]) hx hb dX6_expression_125 hl (k := 1) rfl et23.symm (Nat.le_of_ble_eq_true rfl) rfl (fun ls hl => ?_)
                refine lv_goto (tgt := 63) hx hb dX6_expression_128 rfl ?_
                have rg25 := fb_rng t23
                exact ih7 t23 v21 f22 hIv21 hq0_v21 hq1_v21 hq9_v21 hq10_v21 hq31_v21 hq32_v21 ((gsX_X6_expression_3_q1 c8 hG10 hG12 hG16 hG20 et23).symm.trans hT7) ⟨show (0 : Int) ≤ t23.toInt from om_43 hr4_7 zt23, show t23.toInt ≤ (2147483647 : Int) from om_44 rg25⟩ hM_v21 hA_f22 (show (2147483647 - t23.toInt).toNat < n7 from om_33 hm7 zt23 rg25) _ _ _ hP hD hS (lv_sub hl [0, 2, 3, 4, 5] rfl)
              · skip
                subst g19
                refine lv_if_ne (tgt := 112) hx hb dX6_expression_107 rfl (fun c0 => absurd (by decide) c0) (fun _ => ?_)
                refine lv_iconst (v := 0) hx hb dX6_expression_110 rfl ?_
                exact ret 0 (v17, f18) _ _ _ _ _ _ rfl ⟨(hT7.symm.trans (gsX_X6_expression_3_q2 c8 hG10 hG12 hG16)), hM_v17, hA_f18, hIv17, (hk0_v17.trans (hk0_v13.trans hq0_v7)), (hk1_v17.trans (hk1_v13.trans hq1_v7)), (hk9_v17.trans (hk9_v13.trans hq9_v7)), (hk10_v17.trans (hk10_v13.trans hq10_v7)), (hk31_v17.trans (hk31_v13.trans hq31_v7)), (hk32_v17.trans (hk32_v13.trans hq32_v7)), (Or.inr rfl)⟩ hP hD hS dX6_expression_111 (Nat.le_refl _) (Nat.le_refl _)
            · skip
              subst g11
              refine lv_if_eq (tgt := 131) hx hb dX6_expression_80 rfl (fun _ => ?_) (fun c0 => absurd (by decide) c0)
              refine lv_iconst (v := 1) hx hb dX6_expression_131 rfl ?_
              exact ret 1 (v7, f7) _ _ _ _ _ _ rfl ⟨(hT7.symm.trans (gsX_X6_expression_3_q3 c8 hG10)), hM_v7, hA_f7, hIv7, hq0_v7, hq1_v7, hq9_v7, hq10_v7, hq31_v7, hq32_v7, (Or.inl rfl)⟩ hP hD hS dX6_expression_132 (Nat.le_refl _) (Nat.le_refl _)
      exact lp7 (4294967296 + NF) 0 v4 f5 hIv4 hq0_v4 hq1_v4 hq9_v4 hq10_v4 hq31_v4 hq32_v4 (gsX_X6_expression_3_q4 c1 hG3).symm ⟨by decide, by decide⟩ hM_v4 hA_f5 (show (2147483647 - (0 : Int32).toInt).toNat < 4294967296 + NF from om_38 tc_0) _ _ _ hP hD hS (lv_sub hl [0, 1, 2, 3, 4] rfl)
    · skip
      subst g6
      refine lv_if_ne (tgt := 47) hx hb dX6_expression_42 rfl (fun c0 => absurd (by decide) c0) (fun _ => ?_)
      refine lv_iconst (v := 0) hx hb dX6_expression_45 rfl ?_
      exact ret 0 (v4, f5) _ _ _ _ _ _ rfl ⟨(gsX_X6_expression_3_q5 c1 hG3), hM_v4, hA_f5, hIv4, hk0_v4, hk1_v4, hk9_v4, hk10_v4, hk31_v4, hk32_v4, (Or.inr rfl)⟩ hP hD hS dX6_expression_46 (Nat.le_refl _) (Nat.le_refl _)
  · skip
    refine lv_aload_n hx hb dX6_expression_28 rfl (lv_at hl 0 rfl) ?_
    refine lv_iload_n hx hb dX6_expression_29 rfl (lv_at hl 2 rfl) ?_
    refine csVi (n := 1) (rest := []) hx hb hml hown hts hE hP hD hS hA hF hT (sX_X6_negation_8 NF l dC dI cy x0 x  v f hIv ) k_752 k_754 k_17 k_103 k_755 hd_yX6_negation ⟨Nat.le_of_ble_eq_true rfl, Nat.le_of_ble_eq_true rfl⟩ 3 6 rfl rfl (rfl) hl.1 rfl (Nat.le_of_ble_eq_true rfl) dX6_expression_30 (fun r26 u H locs hw hP hD hS => ?_)
    obtain ⟨hG27, hw⟩ := hw
    obtain ⟨v28, f29⟩ := u
    obtain ⟨kV_v28, kF_f29, hIv28, hk0_v28, hk1_v28, hk9_v28, hk10_v28, hk31_v28, hk32_v28, hw⟩ := hw
    have hM_v28 : KV [2, 3, 4, 5, 7, 8, 16, 17] v28 v := KV.tr kV_v28 hM_v rfl
    have hA_f29 : KF [3, 4] f29 f := KF.tr kF_f29 hA_f rfl
    have hP : va_P (dC, dI) vwCl (XW cy x0 x v28 f29) H := hP
    have hD : va_D A (XW cy x0 x v28 f29) := hD
    rcases hw with ⟨g30⟩ | ⟨g30⟩
    · skip
      subst g30
      exact ret 1 (v28, f29) _ _ _ _ _ _ rfl ⟨(gsX_X6_expression_3_q6 c1 hG27), hM_v28, hA_f29, hIv28, hk0_v28, hk1_v28, hk9_v28, hk10_v28, hk31_v28, hk32_v28, (Or.inl rfl)⟩ hP hD hS dX6_expression_33 (Nat.le_refl _) (Nat.le_refl _)
    · skip
      subst g30
      exact ret 0 (v28, f29) _ _ _ _ _ _ rfl ⟨(gsX_X6_expression_3_q7 c1 hG27), hM_v28, hA_f29, hIv28, hk0_v28, hk1_v28, hk9_v28, hk10_v28, hk31_v28, hk32_v28, (Or.inr rfl)⟩ hP hD hS dX6_expression_33 (Nat.le_refl _) (Nat.le_refl _)
set_option maxHeartbeats 4000000 in
set_option maxRecDepth 100000 in
theorem sX_X6_expression_2 (NF : Nat) (l : Launch) (dC : Nat → ClassId) (dI : Nat → Nat → Nat) (cy : Nat → ClassId) (x0 : Nat) (x : Nat → Nat)  (v : Nat → Int32) (f : Nat → Nat → Int32) (hIv : XI v)  : ctIS l (dC, dI) cy yX6_expression cX6_expression 6 .boolean 61 1525 0 0 ((Nat → Int32) × (Nat → Nat → Int32)) [.ref (x 2), .int 1, .int 0] (XW cy x0 x v f) (fun r u => gsX_X6_expression_2 NF v f = (r, u) ∧ KV [2, 3, 4, 5, 7, 8, 16, 17] u.1 v ∧ KF [3, 4] u.2 f ∧ XI u.1 ∧ u.1 0 = v 0 ∧ u.1 1 = v 1 ∧ u.1 9 = v 9 ∧ u.1 10 = v 10 ∧ u.1 31 = v 31 ∧ u.1 32 = v 32 ∧ ((r = 1) ∨ (r = 0))) (fun u => XW cy x0 x u.1 u.2) := by
  refine ctIS_of (by decide) (Nat.le_of_ble_eq_true rfl) (fun p e s m below meth c A ls Q hx hb hml hts hown hE hF hT hP hD hA hl ret => ?_)
  have hM_v : KV [2, 3, 4, 5, 7, 8, 16, 17] v v := fun _ _ => rfl
  have hA_f : KF [3, 4] f f := fun _ _ => rfl
  have hown : s.vm.findClass RX6 = some m.cls := hown
  have hS : va_S A s.heap s.heap [] := va_S.rf
  have hl : lv_has ls 6 [(0, .ref (x 2)), (1, .int 1), (2, .int 0)] := hl
  refine lv_iload_n hx hb dX6_expression_0 rfl (lv_at hl 1 rfl) ?_
  refine lv_iconst (v := 5) hx hb dX6_expression_1 rfl ?_
  refine lv_icmp_lt (tgt := 11) hx hb dX6_expression_2 rfl (fun _ => ?_) (fun c0 => absurd (by decide) c0)
  refine lv_iload_n hx hb dX6_expression_11 rfl (lv_at hl 1 rfl) ?_
  refine lv_iconst (v := 2) hx hb dX6_expression_12 rfl ?_
  refine lv_icmp_ne (tgt := 34) hx hb dX6_expression_13 rfl (fun _ => ?_) (fun c0 => absurd c0 (by decide))
  refine lv_aload_n hx hb dX6_expression_34 rfl (lv_at hl 0 rfl) ?_
  refine lv_iload_n hx hb dX6_expression_35 rfl (lv_at hl 1 rfl) ?_
  refine lv_iconst (v := 1) hx hb dX6_expression_36 rfl ?_
  refine lv_iadd hx hb dX6_expression_37 ?_
  refine tI (y := 2) (by decide) ?_
  refine lv_iload_n hx hb dX6_expression_38 rfl (lv_at hl 2 rfl) ?_
  refine csVi (n := 2) (rest := []) hx hb hml hown hts hE hP hD hS hA hF hT (sX_X6_expression_3 NF l dC dI cy x0 x  v f hIv ) k_740 k_742 k_15 k_103 k_743 hd_yX6_expression ⟨Nat.le_of_ble_eq_true rfl, Nat.le_of_ble_eq_true rfl⟩ 3 6 rfl rfl (rfl) hl.1 rfl (Nat.le_of_ble_eq_true rfl) dX6_expression_39 (fun r1 u H locs hw hP hD hS => ?_)
  obtain ⟨hG2, hw⟩ := hw
  obtain ⟨v3, f4⟩ := u
  obtain ⟨kV_v3, kF_f4, hIv3, hk0_v3, hk1_v3, hk9_v3, hk10_v3, hk31_v3, hk32_v3, hw⟩ := hw
  have hM_v3 : KV [2, 3, 4, 5, 7, 8, 16, 17] v3 v := KV.tr kV_v3 hM_v rfl
  have hA_f4 : KF [3, 4] f4 f := KF.tr kF_f4 hA_f rfl
  have hP : va_P (dC, dI) vwCl (XW cy x0 x v3 f4) H := hP
  have hD : va_D A (XW cy x0 x v3 f4) := hD
  have hq0_v3 : v3 0 = (v 0) := hk0_v3
  have hq1_v3 : v3 1 = (v 1) := hk1_v3
  have hq9_v3 : v3 9 = (v 9) := hk9_v3
  have hq10_v3 : v3 10 = (v 10) := hk10_v3
  have hq31_v3 : v3 31 = (v 31) := hk31_v3
  have hq32_v3 : v3 32 = (v 32) := hk32_v3
  rcases hw with ⟨g5⟩ | ⟨g5⟩
  · skip
    subst g5
    refine lv_if_ne (tgt := 47) hx hb dX6_expression_42 rfl (fun _ => ?_) (fun c0 => absurd c0 (by decide))
    refine lv_iload_n hx hb dX6_expression_47 rfl (lv_at hl 1 rfl) ?_
    refine lv_iconst (v := 2) hx hb dX6_expression_48 rfl ?_
    refine lv_icmp_ne (tgt := 56) hx hb dX6_expression_49 rfl (fun _ => ?_) (fun c0 => absurd c0 (by decide))
    refine lv_sipush (v := 1600) hx hb dX6_expression_56 rfl ?_
    refine lv_istore_n (lv' := [(3, .int 1600), (0, .ref (x 2)), (1, .int 1), (2, .int 0)]) hx hb dX6_expression_59 rfl hl (Nat.le_of_ble_eq_true rfl) rfl (fun ls hl => ?_)
    refine lv_iconst (v := 0) hx hb dX6_expression_60 rfl ?_
    refine lv_istore (lv' := [(4, .int 0), (3, .int 1600), (0, .ref (x 2)), (1, .int 1), (2, .int 0)]) hx hb dX6_expression_61 hl (Nat.le_of_ble_eq_true rfl) rfl (fun ls hl => ?_)
    have lp6 : ∀ (n6 : Nat) (l4_6 : Int32) (v6 : Nat → Int32) (f6 : Nat → Nat → Int32), XI v6 → v6 0 = (v 0) → v6 1 = (v 1) → v6 9 = (v 9) → v6 10 = (v 10) → v6 31 = (v 31) → v6 32 = (v 32) → gsX_X6_expression_2_L6 NF n6 l4_6 v6 f6 = (gsX_X6_expression_2 NF v f) → ((0 : Int) ≤ l4_6.toInt ∧ l4_6.toInt ≤ 2147483647) → KV [2, 3, 4, 5, 7, 8, 16, 17] v6 v → KF [3, 4] f6 f → (2147483647 - l4_6.toInt).toNat < n6 → ∀ (H : Heap) (locs : List Loc) (ls : Array Slot), va_P (dC, dI) vwCl (XW cy x0 x v6 f6) H → va_D A (XW cy x0 x v6 f6) → va_S A s.heap H locs → lv_has ls 6 [(4, .int l4_6), (3, .int 1600), (0, .ref (x 2)), (1, .int 1), (2, .int 0)] → W p l e { frames := 61, cells := 0, slots := 0, locals := 1525 } s m ([.ref (x 2), .int 1, .int 0] : List Value).toArray below meth c H locs 0 0 Q (F0 m 63 ls []) := by
      intro n6
      induction n6 with
      | zero => intro l4_6 v6 f6 hIv6 hq0_v6 hq1_v6 hq9_v6 hq10_v6 hq31_v6 hq32_v6 hT6 hr4_6 hM_v6 hA_f6 hm; exact absurd hm (Nat.not_lt_zero _)
      | succ n6 ih6 =>
        intro l4_6 v6 f6 hIv6 hq0_v6 hq1_v6 hq9_v6 hq10_v6 hq31_v6 hq32_v6 hT6 hr4_6 hM_v6 hA_f6 hm6 H locs ls hP hD hS hl
        refine lv_iload hx hb dX6_expression_63 (lv_at hl 0 rfl) ?_
        refine lv_iload_n hx hb dX6_expression_65 rfl (lv_at hl 1 rfl) ?_
        refine lv_icmp_ge (tgt := 131) hx hb dX6_expression_66 rfl (fun c7 => ?_) (fun c7 => ?_)
        · skip
          refine lv_iconst (v := 1) hx hb dX6_expression_131 rfl ?_
          exact ret 1 (v6, f6) _ _ _ _ _ _ rfl ⟨(hT6.symm.trans (gsX_X6_expression_2_q0 c7)), hM_v6, hA_f6, hIv6, hq0_v6, hq1_v6, hq9_v6, hq10_v6, hq31_v6, hq32_v6, (Or.inl rfl)⟩ hP hD hS dX6_expression_132 (Nat.le_refl _) (Nat.le_refl _)
        · skip
          have zc7 : ¬ (1600 ≤ l4_6.toInt) := zMn tc_1600 rfl c7
          refine lv_iload_n hx hb dX6_expression_69 rfl (lv_at hl 3 rfl) ?_
          refine lv_aload_n hx hb dX6_expression_70 rfl (lv_at hl 2 rfl) ?_
          refine va_get (D := (dC, dI)) (ci := 6) (v := .ref (x 0)) (C := RX6) (T := TX6) (N := 7) hx hb hts inB_6 hown hE.1 hP 3 rfl rfl 0 (Nat.le_of_ble_eq_true rfl) (hts _ k_265) (fun _ h9 => h9) rfl dX6_expression_71 ?_
          refine va_getN (D := (dC, dI)) (ci := 9) (v := .int (v6 2)) (C := RX9) (T := TX9) (N := 6) hx hb hts inB_9 hown hE.1 hP 1 rfl rfl 2 (Nat.le_of_ble_eq_true rfl) (va_Nw.use rfl (hE.2 _ k_139)) (fun _ h9 => h9) rfl dX6_expression_74 ?_
          refine cbSi (n := 2) (rest := []) hx hb hml hown hts hE hP hD hS hA (sX_X6_joins_1 NF l dC dI cy x0 x 1 (v6 2) v6 f6 hIv6 ) k_756 k_757 k_103 k_758 he_yX6_joins ⟨Nat.le_of_ble_eq_true rfl, Nat.le_of_ble_eq_true rfl⟩ (rfl) hl.1 rfl (Nat.le_of_ble_eq_true rfl) dX6_expression_77 (fun r8 u H locs hw hP hD hS => ?_)
          obtain ⟨hG9, hw⟩ := hw
          rcases hw with ⟨g10⟩ | ⟨g10⟩
          · skip
            subst g10
            refine lv_if_eq (tgt := 131) hx hb dX6_expression_80 rfl (fun c0 => absurd c0 (by decide)) (fun _ => ?_)
            refine lv_aload_n hx hb dX6_expression_83 rfl (lv_at hl 2 rfl) ?_
            refine va_get (D := (dC, dI)) (ci := 6) (v := .ref (x 0)) (C := RX6) (T := TX6) (N := 7) hx hb hts inB_6 hown hE.1 hP 3 rfl rfl 0 (Nat.le_of_ble_eq_true rfl) (hts _ k_265) (fun _ h9 => h9) rfl dX6_expression_84 ?_
            refine va_getN (D := (dC, dI)) (ci := 9) (v := .int (v6 2)) (C := RX9) (T := TX9) (N := 6) hx hb hts inB_9 hown hE.1 hP 1 rfl rfl 2 (Nat.le_of_ble_eq_true rfl) (va_Nw.use rfl (hE.2 _ k_139)) (fun _ h9 => h9) rfl dX6_expression_87 ?_
            refine lv_istore (lv' := [(5, .int (v6 2)), (4, .int l4_6), (3, .int 1600), (0, .ref (x 2)), (1, .int 1), (2, .int 0)]) hx hb dX6_expression_90 hl (Nat.le_of_ble_eq_true rfl) rfl (fun ls hl => ?_)
            refine lv_aload_n hx hb dX6_expression_92 rfl (lv_at hl 3 rfl) ?_
            refine va_get (D := (dC, dI)) (ci := 6) (v := .ref (x 0)) (C := RX6) (T := TX6) (N := 7) hx hb hts inB_6 hown hE.1 hP 3 rfl rfl 0 (Nat.le_of_ble_eq_true rfl) (hts _ k_265) (fun _ h9 => h9) rfl dX6_expression_93 ?_
            refine csVv (n := 0) (rest := []) hx hb hml hown hts hE hP hD hS hA hF hT (sX_X9_advance_1 NF l dC dI cy x0 x  v6 f6 hIv6 ) k_699 k_559 k_560 k_102 k_561 hd_yX9_advance ⟨Nat.le_of_ble_eq_true rfl, Nat.le_of_ble_eq_true rfl⟩ 1 9 rfl rfl (rfl) hl.1 rfl (Nat.le_of_ble_eq_true rfl) dX6_expression_96 (fun u H locs hw hP hD hS => ?_)
            obtain ⟨hG11, hw⟩ := hw
            obtain ⟨v12, f13⟩ := u
            obtain ⟨kV_v12, kF_f13, hIv12, hk0_v12, hk1_v12, hk7_v12, hk8_v12, hk9_v12, hk10_v12, hk31_v12, hk32_v12⟩ := hw
            have hM_v12 : KV [2, 3, 4, 5, 7, 8, 16, 17] v12 v := KV.tr kV_v12 hM_v6 rfl
            have hA_f13 : KF [3, 4] f13 f := KF.tr kF_f13 hA_f6 rfl
            have hP : va_P (dC, dI) vwCl (XW cy x0 x v12 f13) H := hP
            have hD : va_D A (XW cy x0 x v12 f13) := hD
            have hq0_v12 : v12 0 = (v 0) := hk0_v12.trans hq0_v6
            have hq1_v12 : v12 1 = (v 1) := hk1_v12.trans hq1_v6
            have hq9_v12 : v12 9 = (v 9) := hk9_v12.trans hq9_v6
            have hq10_v12 : v12 10 = (v 10) := hk10_v12.trans hq10_v6
            have hq31_v12 : v12 31 = (v 31) := hk31_v12.trans hq31_v6
            have hq32_v12 : v12 32 = (v 32) := hk32_v12.trans hq32_v6
            refine lv_aload_n hx hb dX6_expression_99 rfl (lv_at hl 3 rfl) ?_
            refine lv_iload_n hx hb dX6_expression_100 rfl (lv_at hl 4 rfl) ?_
            refine lv_iconst (v := 1) hx hb dX6_expression_101 rfl ?_
            refine lv_iadd hx hb dX6_expression_102 ?_
            refine tI (y := 2) (by decide) ?_
            refine lv_iload_n hx hb dX6_expression_103 rfl (lv_at hl 5 rfl) ?_
            refine csVi (n := 2) (rest := []) hx hb hml hown hts hE hP hD hS hA hF hT (sX_X6_expression_3 NF l dC dI cy x0 x  v12 f13 hIv12 ) k_740 k_742 k_15 k_103 k_743 hd_yX6_expression ⟨Nat.le_of_ble_eq_true rfl, Nat.le_of_ble_eq_true rfl⟩ 3 6 rfl rfl (rfl) hl.1 rfl (Nat.le_of_ble_eq_true rfl) dX6_expression_104 (fun r14 u H locs hw hP hD hS => ?_)
            obtain ⟨hG15, hw⟩ := hw
            obtain ⟨v16, f17⟩ := u
            obtain ⟨kV_v16, kF_f17, hIv16, hk0_v16, hk1_v16, hk9_v16, hk10_v16, hk31_v16, hk32_v16, hw⟩ := hw
            have hM_v16 : KV [2, 3, 4, 5, 7, 8, 16, 17] v16 v := KV.tr kV_v16 hM_v12 rfl
            have hA_f17 : KF [3, 4] f17 f := KF.tr kF_f17 hA_f13 rfl
            have hP : va_P (dC, dI) vwCl (XW cy x0 x v16 f17) H := hP
            have hD : va_D A (XW cy x0 x v16 f17) := hD
            have hq0_v16 : v16 0 = (v 0) := hk0_v16.trans hq0_v12
            have hq1_v16 : v16 1 = (v 1) := hk1_v16.trans hq1_v12
            have hq9_v16 : v16 9 = (v 9) := hk9_v16.trans hq9_v12
            have hq10_v16 : v16 10 = (v 10) := hk10_v16.trans hq10_v12
            have hq31_v16 : v16 31 = (v 31) := hk31_v16.trans hq31_v12
            have hq32_v16 : v16 32 = (v 32) := hk32_v16.trans hq32_v12
            rcases hw with ⟨g18⟩ | ⟨g18⟩
            · skip
              subst g18
              refine lv_if_ne (tgt := 112) hx hb dX6_expression_107 rfl (fun _ => ?_) (fun c0 => absurd c0 (by decide))
              refine lv_aload_n hx hb dX6_expression_112 rfl (lv_at hl 3 rfl) ?_
              refine va_get (D := (dC, dI)) (ci := 6) (v := .ref (x 3)) (C := RX6) (T := TX6) (N := 7) hx hb hts inB_6 hown hE.1 hP 3 rfl rfl 1 (Nat.le_of_ble_eq_true rfl) (hts _ k_266) (fun _ h9 => h9) rfl dX6_expression_113 ?_
              refine va_getN (D := (dC, dI)) (ci := 7) (v := .ref (x 6)) (C := RX7) (T := TX7) (N := 10) hx hb hts inB_7 hown hE.1 hP 4 rfl rfl 2 (Nat.le_of_ble_eq_true rfl) (va_Nw.use rfl (hE.2 _ k_210)) (fun _ h9 => h9) rfl dX6_expression_116 ?_
              refine lv_iload hx hb dX6_expression_119 (lv_at hl 0 rfl) ?_
              refine lv_iconst (v := 0) hx hb dX6_expression_121 rfl ?_
              refine cbVv (n := 2) (rest := []) hx hb hml hown hts hE hP hD hS hA (sX_X4_add_1 NF l dC dI cy x0 x (v6 2) 0 v16 f17 hIv16 ) k_748 k_749 k_750 k_105 k_751 hd_yX4_add ⟨Nat.le_of_ble_eq_true rfl, Nat.le_of_ble_eq_true rfl⟩ 7 4 rfl rfl (rfl) hl.1 rfl (Nat.le_of_ble_eq_true rfl) dX6_expression_122 (fun u H locs hw hP hD hS => ?_)
              obtain ⟨hG19, hw⟩ := hw
              obtain ⟨v20, f21⟩ := u
              obtain ⟨kV_v20, kF_f21, hIv20, hk0_v20, hk1_v20, hk7_v20, hk8_v20, hk9_v20, hk10_v20, hk31_v20, hk32_v20⟩ := hw
              have hM_v20 : KV [2, 3, 4, 5, 7, 8, 16, 17] v20 v := KV.tr kV_v20 hM_v16 rfl
              have hA_f21 : KF [3, 4] f21 f := KF.tr kF_f21 hA_f17 rfl
              have hP : va_P (dC, dI) vwCl (XW cy x0 x v20 f21) H := hP
              have hD : va_D A (XW cy x0 x v20 f21) := hD
              have hq0_v20 : v20 0 = (v 0) := hk0_v20.trans hq0_v16
              have hq1_v20 : v20 1 = (v 1) := hk1_v20.trans hq1_v16
              have hq9_v20 : v20 9 = (v 9) := hk9_v20.trans hq9_v16
              have hq10_v20 : v20 10 = (v 10) := hk10_v20.trans hq10_v16
              have hq31_v20 : v20 31 = (v 31) := hk31_v20.trans hq31_v16
              have hq32_v20 : v20 32 = (v 32) := hk32_v20.trans hq32_v16
              obtain ⟨t22, et22⟩ : ∃ y : Int32, y = l4_6 + 1 := ⟨_, rfl⟩
              have zt22 : t22.toInt = l4_6.toInt + 1 := (congrArg Int32.toInt et22).trans (add_i rfl tc_1 (om_41 hr4_6) (om_5 zc7))
              refine lv_iinc (v := t22) (lv' := [(4, .int t22), (5, .int (v6 2)), (3, .int 1600), (0, .ref (x 2)), (1, .int 1), (2, .int 0)]) hx hb dX6_expression_125 hl (k := 1) rfl et22.symm (Nat.le_of_ble_eq_true rfl) rfl (fun ls hl => ?_)
              refine lv_goto (tgt := 63) hx hb dX6_expression_128 rfl ?_
              have rg24 := fb_rng t22
              exact ih6 t22 v20 f21 hIv20 hq0_v20 hq1_v20 hq9_v20 hq10_v20 hq31_v20 hq32_v20 ((gsX_X6_expression_2_q1 c7 hG9 hG11 hG15 hG19 et22).symm.trans hT6) ⟨show (0 : Int) ≤ t22.toInt from om_43 hr4_6 zt22, show t22.toInt ≤ (2147483647 : Int) from om_44 rg24⟩ hM_v20 hA_f21 (show (2147483647 - t22.toInt).toNat < n6 from om_33 hm6 zt22 rg24) _ _ _ hP hD hS (lv_sub hl [0, 2, 3, 4, 5] rfl)
            · skip
              subst g18
              refine lv_if_ne (tgt := 112) hx hb dX6_expression_107 rfl (fun c0 => absurd (by decide) c0) (fun _ => ?_)
              refine lv_iconst (v := 0) hx hb dX6_expression_110 rfl ?_
              exact ret 0 (v16, f17) _ _ _ _ _ _ rfl ⟨(hT6.symm.trans (gsX_X6_expression_2_q2 c7 hG9 hG11 hG15)), hM_v16, hA_f17, hIv16, (hk0_v16.trans (hk0_v12.trans hq0_v6)), (hk1_v16.trans (hk1_v12.trans hq1_v6)), (hk9_v16.trans (hk9_v12.trans hq9_v6)), (hk10_v16.trans (hk10_v12.trans hq10_v6)), (hk31_v16.trans (hk31_v12.trans hq31_v6)), (hk32_v16.trans (hk32_v12.trans hq32_v6)), (Or.inr rfl)⟩ hP hD hS dX6_expression_111 (Nat.le_refl _) (Nat.le_refl _)
          · skip
            subst g10
            refine lv_if_eq (tgt := 131) hx hb dX6_expression_80 rfl (fun _ => ?_) (fun c0 => absurd (by decide) c0)
            refine lv_iconst (v := 1) hx hb dX6_expression_131 rfl ?_
            exact ret 1 (v6, f6) _ _ _ _ _ _ rfl ⟨(hT6.symm.trans (gsX_X6_expression_2_q3 c7 hG9)), hM_v6, hA_f6, hIv6, hq0_v6, hq1_v6, hq9_v6, hq10_v6, hq31_v6, hq32_v6, (Or.inl rfl)⟩ hP hD hS dX6_expression_132 (Nat.le_refl _) (Nat.le_refl _)
    exact lp6 (4294967296 + NF) 0 v3 f4 hIv3 hq0_v3 hq1_v3 hq9_v3 hq10_v3 hq31_v3 hq32_v3 (gsX_X6_expression_2_q4 hG2).symm ⟨by decide, by decide⟩ hM_v3 hA_f4 (show (2147483647 - (0 : Int32).toInt).toNat < 4294967296 + NF from om_38 tc_0) _ _ _ hP hD hS (lv_sub hl [0, 1, 2, 3, 4] rfl)
  · skip
    subst g5
    refine lv_if_ne (tgt := 47) hx hb dX6_expression_42 rfl (fun c0 => absurd (by decide) c0) (fun _ => ?_)
    refine lv_iconst (v := 0) hx hb dX6_expression_45 rfl ?_
    exact ret 0 (v3, f4) _ _ _ _ _ _ rfl ⟨(gsX_X6_expression_2_q5 hG2), hM_v3, hA_f4, hIv3, hk0_v3, hk1_v3, hk9_v3, hk10_v3, hk31_v3, hk32_v3, (Or.inr rfl)⟩ hP hD hS dX6_expression_46 (Nat.le_refl _) (Nat.le_refl _)
set_option maxHeartbeats 4000000 in
set_option maxRecDepth 100000 in
theorem sX_X6_expression_1 (NF : Nat) (l : Launch) (dC : Nat → ClassId) (dI : Nat → Nat → Nat) (cy : Nat → ClassId) (x0 : Nat) (x : Nat → Nat)  (v : Nat → Int32) (f : Nat → Nat → Int32) (hIv : XI v)  : ctIS l (dC, dI) cy yX6_expression cX6_expression 6 .boolean 62 1550 0 0 ((Nat → Int32) × (Nat → Nat → Int32)) [.ref (x 2), .int 0, .int 0] (XW cy x0 x v f) (fun r u => gsX_X6_expression_1 NF v f = (r, u) ∧ KV [2, 3, 4, 5, 7, 8, 16, 17] u.1 v ∧ KF [3, 4] u.2 f ∧ XI u.1 ∧ u.1 0 = v 0 ∧ u.1 1 = v 1 ∧ u.1 9 = v 9 ∧ u.1 10 = v 10 ∧ u.1 31 = v 31 ∧ u.1 32 = v 32 ∧ ((r = 1) ∨ (r = 0))) (fun u => XW cy x0 x u.1 u.2) := by
  refine ctIS_of (by decide) (Nat.le_of_ble_eq_true rfl) (fun p e s m below meth c A ls Q hx hb hml hts hown hE hF hT hP hD hA hl ret => ?_)
  have hM_v : KV [2, 3, 4, 5, 7, 8, 16, 17] v v := fun _ _ => rfl
  have hA_f : KF [3, 4] f f := fun _ _ => rfl
  have hown : s.vm.findClass RX6 = some m.cls := hown
  have hS : va_S A s.heap s.heap [] := va_S.rf
  have hl : lv_has ls 6 [(0, .ref (x 2)), (1, .int 0), (2, .int 0)] := hl
  refine lv_iload_n hx hb dX6_expression_0 rfl (lv_at hl 1 rfl) ?_
  refine lv_iconst (v := 5) hx hb dX6_expression_1 rfl ?_
  refine lv_icmp_lt (tgt := 11) hx hb dX6_expression_2 rfl (fun _ => ?_) (fun c0 => absurd (by decide) c0)
  refine lv_iload_n hx hb dX6_expression_11 rfl (lv_at hl 1 rfl) ?_
  refine lv_iconst (v := 2) hx hb dX6_expression_12 rfl ?_
  refine lv_icmp_ne (tgt := 34) hx hb dX6_expression_13 rfl (fun _ => ?_) (fun c0 => absurd c0 (by decide))
  refine lv_aload_n hx hb dX6_expression_34 rfl (lv_at hl 0 rfl) ?_
  refine lv_iload_n hx hb dX6_expression_35 rfl (lv_at hl 1 rfl) ?_
  refine lv_iconst (v := 1) hx hb dX6_expression_36 rfl ?_
  refine lv_iadd hx hb dX6_expression_37 ?_
  refine tI (y := 1) (by decide) ?_
  refine lv_iload_n hx hb dX6_expression_38 rfl (lv_at hl 2 rfl) ?_
  refine csVi (n := 2) (rest := []) hx hb hml hown hts hE hP hD hS hA hF hT (sX_X6_expression_2 NF l dC dI cy x0 x  v f hIv ) k_740 k_742 k_15 k_103 k_743 hd_yX6_expression ⟨Nat.le_of_ble_eq_true rfl, Nat.le_of_ble_eq_true rfl⟩ 3 6 rfl rfl (rfl) hl.1 rfl (Nat.le_of_ble_eq_true rfl) dX6_expression_39 (fun r1 u H locs hw hP hD hS => ?_)
  obtain ⟨hG2, hw⟩ := hw
  obtain ⟨v3, f4⟩ := u
  obtain ⟨kV_v3, kF_f4, hIv3, hk0_v3, hk1_v3, hk9_v3, hk10_v3, hk31_v3, hk32_v3, hw⟩ := hw
  have hM_v3 : KV [2, 3, 4, 5, 7, 8, 16, 17] v3 v := KV.tr kV_v3 hM_v rfl
  have hA_f4 : KF [3, 4] f4 f := KF.tr kF_f4 hA_f rfl
  have hP : va_P (dC, dI) vwCl (XW cy x0 x v3 f4) H := hP
  have hD : va_D A (XW cy x0 x v3 f4) := hD
  have hq0_v3 : v3 0 = (v 0) := hk0_v3
  have hq1_v3 : v3 1 = (v 1) := hk1_v3
  have hq9_v3 : v3 9 = (v 9) := hk9_v3
  have hq10_v3 : v3 10 = (v 10) := hk10_v3
  have hq31_v3 : v3 31 = (v 31) := hk31_v3
  have hq32_v3 : v3 32 = (v 32) := hk32_v3
  rcases hw with ⟨g5⟩ | ⟨g5⟩
  · skip
    subst g5
    refine lv_if_ne (tgt := 47) hx hb dX6_expression_42 rfl (fun _ => ?_) (fun c0 => absurd c0 (by decide))
    refine lv_iload_n hx hb dX6_expression_47 rfl (lv_at hl 1 rfl) ?_
    refine lv_iconst (v := 2) hx hb dX6_expression_48 rfl ?_
    refine lv_icmp_ne (tgt := 56) hx hb dX6_expression_49 rfl (fun _ => ?_) (fun c0 => absurd c0 (by decide))
    refine lv_sipush (v := 1600) hx hb dX6_expression_56 rfl ?_
    refine lv_istore_n (lv' := [(3, .int 1600), (0, .ref (x 2)), (1, .int 0), (2, .int 0)]) hx hb dX6_expression_59 rfl hl (Nat.le_of_ble_eq_true rfl) rfl (fun ls hl => ?_)
    refine lv_iconst (v := 0) hx hb dX6_expression_60 rfl ?_
    refine lv_istore (lv' := [(4, .int 0), (3, .int 1600), (0, .ref (x 2)), (1, .int 0), (2, .int 0)]) hx hb dX6_expression_61 hl (Nat.le_of_ble_eq_true rfl) rfl (fun ls hl => ?_)
    have lp6 : ∀ (n6 : Nat) (l4_6 : Int32) (v6 : Nat → Int32) (f6 : Nat → Nat → Int32), XI v6 → v6 0 = (v 0) → v6 1 = (v 1) → v6 9 = (v 9) → v6 10 = (v 10) → v6 31 = (v 31) → v6 32 = (v 32) → gsX_X6_expression_1_L6 NF n6 l4_6 v6 f6 = (gsX_X6_expression_1 NF v f) → ((0 : Int) ≤ l4_6.toInt ∧ l4_6.toInt ≤ 2147483647) → KV [2, 3, 4, 5, 7, 8, 16, 17] v6 v → KF [3, 4] f6 f → (2147483647 - l4_6.toInt).toNat < n6 → ∀ (H : Heap) (locs : List Loc) (ls : Array Slot), va_P (dC, dI) vwCl (XW cy x0 x v6 f6) H → va_D A (XW cy x0 x v6 f6) → va_S A s.heap H locs → lv_has ls 6 [(4, .int l4_6), (3, .int 1600), (0, .ref (x 2)), (1, .int 0), (2, .int 0)] → W p l e { frames := 62, cells := 0, slots := 0, locals := 1550 } s m ([.ref (x 2), .int 0, .int 0] : List Value).toArray below meth c H locs 0 0 Q (F0 m 63 ls []) := by
      intro n6
      induction n6 with
      | zero => intro l4_6 v6 f6 hIv6 hq0_v6 hq1_v6 hq9_v6 hq10_v6 hq31_v6 hq32_v6 hT6 hr4_6 hM_v6 hA_f6 hm; exact absurd hm (Nat.not_lt_zero _)
      | succ n6 ih6 =>
        intro l4_6 v6 f6 hIv6 hq0_v6 hq1_v6 hq9_v6 hq10_v6 hq31_v6 hq32_v6 hT6 hr4_6 hM_v6 hA_f6 hm6 H locs ls hP hD hS hl
        refine lv_iload hx hb dX6_expression_63 (lv_at hl 0 rfl) ?_
        refine lv_iload_n hx hb dX6_expression_65 rfl (lv_at hl 1 rfl) ?_
        refine lv_icmp_ge (tgt := 131) hx hb dX6_expression_66 rfl (fun c7 => ?_) (fun c7 => ?_)
        · skip
          refine lv_iconst (v := 1) hx hb dX6_expression_131 rfl ?_
          exact ret 1 (v6, f6) _ _ _ _ _ _ rfl ⟨(hT6.symm.trans (gsX_X6_expression_1_q0 c7)), hM_v6, hA_f6, hIv6, hq0_v6, hq1_v6, hq9_v6, hq10_v6, hq31_v6, hq32_v6, (Or.inl rfl)⟩ hP hD hS dX6_expression_132 (Nat.le_refl _) (Nat.le_refl _)
        · skip
          have zc7 : ¬ (1600 ≤ l4_6.toInt) := zMn tc_1600 rfl c7
          refine lv_iload_n hx hb dX6_expression_69 rfl (lv_at hl 3 rfl) ?_
          refine lv_aload_n hx hb dX6_expression_70 rfl (lv_at hl 2 rfl) ?_
          refine va_get (D := (dC, dI)) (ci := 6) (v := .ref (x 0)) (C := RX6) (T := TX6) (N := 7) hx hb hts inB_6 hown hE.1 hP 3 rfl rfl 0 (Nat.le_of_ble_eq_true rfl) (hts _ k_265) (fun _ h9 => h9) rfl dX6_expression_71 ?_
          refine va_getN (D := (dC, dI)) (ci := 9) (v := .int (v6 2)) (C := RX9) (T := TX9) (N := 6) hx hb hts inB_9 hown hE.1 hP 1 rfl rfl 2 (Nat.le_of_ble_eq_true rfl) (va_Nw.use rfl (hE.2 _ k_139)) (fun _ h9 => h9) rfl dX6_expression_74 ?_
          refine cbSi (n := 2) (rest := []) hx hb hml hown hts hE hP hD hS hA (sX_X6_joins_1 NF l dC dI cy x0 x 0 (v6 2) v6 f6 hIv6 ) k_756 k_757 k_103 k_758 he_yX6_joins ⟨Nat.le_of_ble_eq_true rfl, Nat.le_of_ble_eq_true rfl⟩ (rfl) hl.1 rfl (Nat.le_of_ble_eq_true rfl) dX6_expression_77 (fun r8 u H locs hw hP hD hS => ?_)
          obtain ⟨hG9, hw⟩ := hw
          rcases hw with ⟨g10⟩ | ⟨g10⟩
          · skip
            subst g10
            refine lv_if_eq (tgt := 131) hx hb dX6_expression_80 rfl (fun c0 => absurd c0 (by decide)) (fun _ => ?_)
            refine lv_aload_n hx hb dX6_expression_83 rfl (lv_at hl 2 rfl) ?_
            refine va_get (D := (dC, dI)) (ci := 6) (v := .ref (x 0)) (C := RX6) (T := TX6) (N := 7) hx hb hts inB_6 hown hE.1 hP 3 rfl rfl 0 (Nat.le_of_ble_eq_true rfl) (hts _ k_265) (fun _ h9 => h9) rfl dX6_expression_84 ?_
            refine va_getN (D := (dC, dI)) (ci := 9) (v := .int (v6 2)) (C := RX9) (T := TX9) (N := 6) hx hb hts inB_9 hown hE.1 hP 1 rfl rfl 2 (Nat.le_of_ble_eq_true rfl) (va_Nw.use rfl (hE.2 _ k_139)) (fun _ h9 => h9) rfl dX6_expression_87 ?_
            refine lv_istore (lv' := [(5, .int (v6 2)), (4, .int l4_6), (3, .int 1600), (0, .ref (x 2)), (1, .int 0), (2, .int 0)]) hx hb dX6_expression_90 hl (Nat.le_of_ble_eq_true rfl) rfl (fun ls hl => ?_)
            refine lv_aload_n hx hb dX6_expression_92 rfl (lv_at hl 3 rfl) ?_
            refine va_get (D := (dC, dI)) (ci := 6) (v := .ref (x 0)) (C := RX6) (T := TX6) (N := 7) hx hb hts inB_6 hown hE.1 hP 3 rfl rfl 0 (Nat.le_of_ble_eq_true rfl) (hts _ k_265) (fun _ h9 => h9) rfl dX6_expression_93 ?_
            refine csVv (n := 0) (rest := []) hx hb hml hown hts hE hP hD hS hA hF hT (sX_X9_advance_1 NF l dC dI cy x0 x  v6 f6 hIv6 ) k_699 k_559 k_560 k_102 k_561 hd_yX9_advance ⟨Nat.le_of_ble_eq_true rfl, Nat.le_of_ble_eq_true rfl⟩ 1 9 rfl rfl (rfl) hl.1 rfl (Nat.le_of_ble_eq_true rfl) dX6_expression_96 (fun u H locs hw hP hD hS => ?_)
            obtain ⟨hG11, hw⟩ := hw
            obtain ⟨v12, f13⟩ := u
            obtain ⟨kV_v12, kF_f13, hIv12, hk0_v12, hk1_v12, hk7_v12, hk8_v12, hk9_v12, hk10_v12, hk31_v12, hk32_v12⟩ := hw
            have hM_v12 : KV [2, 3, 4, 5, 7, 8, 16, 17] v12 v := KV.tr kV_v12 hM_v6 rfl
            have hA_f13 : KF [3, 4] f13 f := KF.tr kF_f13 hA_f6 rfl
            have hP : va_P (dC, dI) vwCl (XW cy x0 x v12 f13) H := hP
            have hD : va_D A (XW cy x0 x v12 f13) := hD
            have hq0_v12 : v12 0 = (v 0) := hk0_v12.trans hq0_v6
            have hq1_v12 : v12 1 = (v 1) := hk1_v12.trans hq1_v6
            have hq9_v12 : v12 9 = (v 9) := hk9_v12.trans hq9_v6
            have hq10_v12 : v12 10 = (v 10) := hk10_v12.trans hq10_v6
            have hq31_v12 : v12 31 = (v 31) := hk31_v12.trans hq31_v6
            have hq32_v12 : v12 32 = (v 32) := hk32_v12.trans hq32_v6
            refine lv_aload_n hx hb dX6_expression_99 rfl (lv_at hl 3 rfl) ?_
            refine lv_iload_n hx hb dX6_expression_100 rfl (lv_at hl 4 rfl) ?_
            refine lv_iconst (v := 1) hx hb dX6_expression_101 rfl ?_
            refine lv_iadd hx hb dX6_expression_102 ?_
            refine tI (y := 1) (by decide) ?_
            refine lv_iload_n hx hb dX6_expression_103 rfl (lv_at hl 5 rfl) ?_
            refine csVi (n := 2) (rest := []) hx hb hml hown hts hE hP hD hS hA hF hT (sX_X6_expression_2 NF l dC dI cy x0 x  v12 f13 hIv12 ) k_740 k_742 k_15 k_103 k_743 hd_yX6_expression ⟨Nat.le_of_ble_eq_true rfl, Nat.le_of_ble_eq_true rfl⟩ 3 6 rfl rfl (rfl) hl.1 rfl (Nat.le_of_ble_eq_true rfl) dX6_expression_104 (fun r14 u H locs hw hP hD hS => ?_)
            obtain ⟨hG15, hw⟩ := hw
            obtain ⟨v16, f17⟩ := u
            obtain ⟨kV_v16, kF_f17, hIv16, hk0_v16, hk1_v16, hk9_v16, hk10_v16, hk31_v16, hk32_v16, hw⟩ := hw
            have hM_v16 : KV [2, 3, 4, 5, 7, 8, 16, 17] v16 v := KV.tr kV_v16 hM_v12 rfl
            have hA_f17 : KF [3, 4] f17 f := KF.tr kF_f17 hA_f13 rfl
            have hP : va_P (dC, dI) vwCl (XW cy x0 x v16 f17) H := hP
            have hD : va_D A (XW cy x0 x v16 f17) := hD
            have hq0_v16 : v16 0 = (v 0) := hk0_v16.trans hq0_v12
            have hq1_v16 : v16 1 = (v 1) := hk1_v16.trans hq1_v12
            have hq9_v16 : v16 9 = (v 9) := hk9_v16.trans hq9_v12
            have hq10_v16 : v16 10 = (v 10) := hk10_v16.trans hq10_v12
            have hq31_v16 : v16 31 = (v 31) := hk31_v16.trans hq31_v12
            have hq32_v16 : v16 32 = (v 32) := hk32_v16.trans hq32_v12
            rcases hw with ⟨g18⟩ | ⟨g18⟩
            · skip
              subst g18
              refine lv_if_ne (tgt := 112) hx hb dX6_expression_107 rfl (fun _ => ?_) (fun c0 => absurd c0 (by decide))
              refine lv_aload_n hx hb dX6_expression_112 rfl (lv_at hl 3 rfl) ?_
              refine va_get (D := (dC, dI)) (ci := 6) (v := .ref (x 3)) (C := RX6) (T := TX6) (N := 7) hx hb hts inB_6 hown hE.1 hP 3 rfl rfl 1 (Nat.le_of_ble_eq_true rfl) (hts _ k_266) (fun _ h9 => h9) rfl dX6_expression_113 ?_
              refine va_getN (D := (dC, dI)) (ci := 7) (v := .ref (x 6)) (C := RX7) (T := TX7) (N := 10) hx hb hts inB_7 hown hE.1 hP 4 rfl rfl 2 (Nat.le_of_ble_eq_true rfl) (va_Nw.use rfl (hE.2 _ k_210)) (fun _ h9 => h9) rfl dX6_expression_116 ?_
              refine lv_iload hx hb dX6_expression_119 (lv_at hl 0 rfl) ?_
              refine lv_iconst (v := 0) hx hb dX6_expression_121 rfl ?_
              refine cbVv (n := 2) (rest := []) hx hb hml hown hts hE hP hD hS hA (sX_X4_add_1 NF l dC dI cy x0 x (v6 2) 0 v16 f17 hIv16 ) k_748 k_749 k_750 k_105 k_751 hd_yX4_add ⟨Nat.le_of_ble_eq_true rfl, Nat.le_of_ble_eq_true rfl⟩ 7 4 rfl rfl (rfl) hl.1 rfl (Nat.le_of_ble_eq_true rfl) dX6_expression_122 (fun u H locs hw hP hD hS => ?_)
              obtain ⟨hG19, hw⟩ := hw
              obtain ⟨v20, f21⟩ := u
              obtain ⟨kV_v20, kF_f21, hIv20, hk0_v20, hk1_v20, hk7_v20, hk8_v20, hk9_v20, hk10_v20, hk31_v20, hk32_v20⟩ := hw
              have hM_v20 : KV [2, 3, 4, 5, 7, 8, 16, 17] v20 v := KV.tr kV_v20 hM_v16 rfl
              have hA_f21 : KF [3, 4] f21 f := KF.tr kF_f21 hA_f17 rfl
              have hP : va_P (dC, dI) vwCl (XW cy x0 x v20 f21) H := hP
              have hD : va_D A (XW cy x0 x v20 f21) := hD
              have hq0_v20 : v20 0 = (v 0) := hk0_v20.trans hq0_v16
              have hq1_v20 : v20 1 = (v 1) := hk1_v20.trans hq1_v16
              have hq9_v20 : v20 9 = (v 9) := hk9_v20.trans hq9_v16
              have hq10_v20 : v20 10 = (v 10) := hk10_v20.trans hq10_v16
              have hq31_v20 : v20 31 = (v 31) := hk31_v20.trans hq31_v16
              have hq32_v20 : v20 32 = (v 32) := hk32_v20.trans hq32_v16
              obtain ⟨t22, et22⟩ : ∃ y : Int32, y = l4_6 + 1 := ⟨_, rfl⟩
              have zt22 : t22.toInt = l4_6.toInt + 1 := (congrArg Int32.toInt et22).trans (add_i rfl tc_1 (om_41 hr4_6) (om_5 zc7))
              refine lv_iinc (v := t22) (lv' := [(4, .int t22), (5, .int (v6 2)), (3, .int 1600), (0, .ref (x 2)), (1, .int 0), (2, .int 0)]) hx hb dX6_expression_125 hl (k := 1) rfl et22.symm (Nat.le_of_ble_eq_true rfl) rfl (fun ls hl => ?_)
              refine lv_goto (tgt := 63) hx hb dX6_expression_128 rfl ?_
              have rg24 := fb_rng t22
              exact ih6 t22 v20 f21 hIv20 hq0_v20 hq1_v20 hq9_v20 hq10_v20 hq31_v20 hq32_v20 ((gsX_X6_expression_1_q1 c7 hG9 hG11 hG15 hG19 et22).symm.trans hT6) ⟨show (0 : Int) ≤ t22.toInt from om_43 hr4_6 zt22, show t22.toInt ≤ (2147483647 : Int) from om_44 rg24⟩ hM_v20 hA_f21 (show (2147483647 - t22.toInt).toNat < n6 from om_33 hm6 zt22 rg24) _ _ _ hP hD hS (lv_sub hl [0, 2, 3, 4, 5] rfl)
            · skip
              subst g18
              refine lv_if_ne (tgt := 112) hx hb dX6_expression_107 rfl (fun c0 => absurd (by decide) c0) (fun _ => ?_)
              refine lv_iconst (v := 0) hx hb dX6_expression_110 rfl ?_
              exact ret 0 (v16, f17) _ _ _ _ _ _ rfl ⟨(hT6.symm.trans (gsX_X6_expression_1_q2 c7 hG9 hG11 hG15)), hM_v16, hA_f17, hIv16, (hk0_v16.trans (hk0_v12.trans hq0_v6)), (hk1_v16.trans (hk1_v12.trans hq1_v6)), (hk9_v16.trans (hk9_v12.trans hq9_v6)), (hk10_v16.trans (hk10_v12.trans hq10_v6)), (hk31_v16.trans (hk31_v12.trans hq31_v6)), (hk32_v16.trans (hk32_v12.trans hq32_v6)), (Or.inr rfl)⟩ hP hD hS dX6_expression_111 (Nat.le_refl _) (Nat.le_refl _)
          · skip
            subst g10
            refine lv_if_eq (tgt := 131) hx hb dX6_expression_80 rfl (fun _ => ?_) (fun c0 => absurd (by decide) c0)
            refine lv_iconst (v := 1) hx hb dX6_expression_131 rfl ?_
            exact ret 1 (v6, f6) _ _ _ _ _ _ rfl ⟨(hT6.symm.trans (gsX_X6_expression_1_q3 c7 hG9)), hM_v6, hA_f6, hIv6, hq0_v6, hq1_v6, hq9_v6, hq10_v6, hq31_v6, hq32_v6, (Or.inl rfl)⟩ hP hD hS dX6_expression_132 (Nat.le_refl _) (Nat.le_refl _)
    exact lp6 (4294967296 + NF) 0 v3 f4 hIv3 hq0_v3 hq1_v3 hq9_v3 hq10_v3 hq31_v3 hq32_v3 (gsX_X6_expression_1_q4 hG2).symm ⟨by decide, by decide⟩ hM_v3 hA_f4 (show (2147483647 - (0 : Int32).toInt).toNat < 4294967296 + NF from om_38 tc_0) _ _ _ hP hD hS (lv_sub hl [0, 1, 2, 3, 4] rfl)
  · skip
    subst g5
    refine lv_if_ne (tgt := 47) hx hb dX6_expression_42 rfl (fun c0 => absurd (by decide) c0) (fun _ => ?_)
    refine lv_iconst (v := 0) hx hb dX6_expression_45 rfl ?_
    exact ret 0 (v3, f4) _ _ _ _ _ _ rfl ⟨(gsX_X6_expression_1_q5 hG2), hM_v3, hA_f4, hIv3, hk0_v3, hk1_v3, hk9_v3, hk10_v3, hk31_v3, hk32_v3, (Or.inr rfl)⟩ hP hD hS dX6_expression_46 (Nat.le_refl _) (Nat.le_refl _)
set_option maxHeartbeats 4000000 in
set_option maxRecDepth 100000 in
theorem sX_X7_set_1 (NF : Nat) (l : Launch) (dC : Nat → ClassId) (dI : Nat → Nat → Nat) (cy : Nat → ClassId) (x0 : Nat) (x : Nat → Nat) (p1 : Int32) (p2 : Int32) (v : Nat → Int32) (f : Nat → Nat → Int32) (hIv : XI v)  : ctV l (dC, dI) cy yX7_set cX7_set 3 1 60 0 0 ((Nat → Int32) × (Nat → Nat → Int32)) [.ref (x 3), .int p1, .int p2] (XW cy x0 x v f) (fun u => gsX_X7_set_1 NF p1 p2 v f = u ∧ KV [11, 12, 13, 14, 15] u.1 v ∧ KF [] u.2 f ∧ XI u.1 ∧ u.1 0 = v 0 ∧ u.1 1 = v 1 ∧ u.1 7 = v 7 ∧ u.1 8 = v 8 ∧ u.1 9 = v 9 ∧ u.1 10 = v 10 ∧ u.1 31 = v 31 ∧ u.1 32 = v 32) (fun u => XW cy x0 x u.1 u.2) := by
  refine ctV_of (by decide) (Nat.le_of_ble_eq_true rfl) (fun p e s m below meth c A ls Q hx hb hml hts hown hnm hE hP hD hA hl ret => ?_)
  have hM_v : KV [11, 12, 13, 14, 15] v v := fun _ _ => rfl
  have hA_f : KF [] f f := fun _ _ => rfl
  have hown : s.vm.findClass RX7 = some m.cls := hown
  have hS : va_S A s.heap s.heap [] := va_S.rf
  have hl : lv_has ls 3 [(0, .ref (x 3)), (1, .int p1), (2, .int p2)] := hl
  refine lv_iload_n hx hb dX7_set_0 rfl (lv_at hl 1 rfl) ?_
  by_cases c1 : p1 = 104
  · skip
    refine lv_tableIn (off := 31) (tgt := 32) hx hb dX7_set_1 (by rw [c1]; decide) (by rw [c1]; decide) (by rw [c1]; decide) (by decide) ?_
    refine lv_aload_n hx hb dX7_set_32 rfl (lv_at hl 0 rfl) ?_
    refine lv_iload_n hx hb dX7_set_33 rfl (lv_at hl 2 rfl) ?_
    refine va_put (D := (dC, dI)) (ci := 7) (v := .int p2) (ty := tyX7 5) (C := RX7) (T := TX7) (N := 10) hx hb hts inB_7 tyX7 tyX7_ok nmX7 hown hE.1 hP hD hS 4 rfl rfl 5 (Nat.le_of_ble_eq_true rfl) (hts _ k_228) (fun _ h9 => h9) rfl (tyX7_ok 5 (Nat.le_of_ble_eq_true rfl)) rfl rfl (Nat.le_of_ble_eq_true rfl) dX7_set_34 (fun H locs hP hD hS => ?_)
    have hP : va_P (dC, dI) vwCl (XW cy x0 x (upd v 11 p2) f) H := hP
    have hD : va_D A (XW cy x0 x (upd v 11 p2) f) := hD
    refine lv_goto (tgt := 69) hx hb dX7_set_37 rfl ?_
    exact ret ((upd v 11 p2), f) _ _ _ _ _ _ ⟨(gsX_X7_set_1_q0 c1), (KV.up (j := 11) (x := p2) hM_v rfl), hA_f, (Xu_11 (x := p2) hIv (rlo _) (rhi _)), rfl, rfl, rfl, rfl, rfl, rfl, rfl, rfl⟩ hP hD hS dX7_set_69 (Nat.le_refl _) (Nat.le_refl _)
  · skip
    have zc1 : ¬ (p1.toInt = 104) := zEn rfl tc_104 c1
    by_cases c2 : p1 = 105
    · skip
      refine lv_tableIn (off := 39) (tgt := 40) hx hb dX7_set_1 (by rw [c2]; decide) (by rw [c2]; decide) (by rw [c2]; decide) (by decide) ?_
      refine lv_aload_n hx hb dX7_set_40 rfl (lv_at hl 0 rfl) ?_
      refine lv_iload_n hx hb dX7_set_41 rfl (lv_at hl 2 rfl) ?_
      refine va_put (D := (dC, dI)) (ci := 7) (v := .int p2) (ty := tyX7 6) (C := RX7) (T := TX7) (N := 10) hx hb hts inB_7 tyX7 tyX7_ok nmX7 hown hE.1 hP hD hS 4 rfl rfl 6 (Nat.le_of_ble_eq_true rfl) (hts _ k_234) (fun _ h9 => h9) rfl (tyX7_ok 6 (Nat.le_of_ble_eq_true rfl)) rfl rfl (Nat.le_of_ble_eq_true rfl) dX7_set_42 (fun H locs hP hD hS => ?_)
      have hP : va_P (dC, dI) vwCl (XW cy x0 x (upd v 12 p2) f) H := hP
      have hD : va_D A (XW cy x0 x (upd v 12 p2) f) := hD
      refine lv_goto (tgt := 69) hx hb dX7_set_45 rfl ?_
      exact ret ((upd v 12 p2), f) _ _ _ _ _ _ ⟨(gsX_X7_set_1_q1 c1 c2), (KV.up (j := 12) (x := p2) hM_v rfl), hA_f, (Xu_12 (x := p2) hIv (rlo _) (rhi _)), rfl, rfl, rfl, rfl, rfl, rfl, rfl, rfl⟩ hP hD hS dX7_set_69 (Nat.le_refl _) (Nat.le_refl _)
    · skip
      have zc2 : ¬ (p1.toInt = 105) := zEn rfl tc_105 c2
      by_cases c3 : p1 = 106
      · skip
        refine lv_tableIn (off := 47) (tgt := 48) hx hb dX7_set_1 (by rw [c3]; decide) (by rw [c3]; decide) (by rw [c3]; decide) (by decide) ?_
        refine lv_aload_n hx hb dX7_set_48 rfl (lv_at hl 0 rfl) ?_
        refine lv_iload_n hx hb dX7_set_49 rfl (lv_at hl 2 rfl) ?_
        refine va_put (D := (dC, dI)) (ci := 7) (v := .int p2) (ty := tyX7 7) (C := RX7) (T := TX7) (N := 10) hx hb hts inB_7 tyX7 tyX7_ok nmX7 hown hE.1 hP hD hS 4 rfl rfl 7 (Nat.le_of_ble_eq_true rfl) (hts _ k_237) (fun _ h9 => h9) rfl (tyX7_ok 7 (Nat.le_of_ble_eq_true rfl)) rfl rfl (Nat.le_of_ble_eq_true rfl) dX7_set_50 (fun H locs hP hD hS => ?_)
        have hP : va_P (dC, dI) vwCl (XW cy x0 x (upd v 13 p2) f) H := hP
        have hD : va_D A (XW cy x0 x (upd v 13 p2) f) := hD
        refine lv_goto (tgt := 69) hx hb dX7_set_53 rfl ?_
        exact ret ((upd v 13 p2), f) _ _ _ _ _ _ ⟨(gsX_X7_set_1_q2 c1 c2 c3), (KV.up (j := 13) (x := p2) hM_v rfl), hA_f, (Xu_13 (x := p2) hIv (rlo _) (rhi _)), rfl, rfl, rfl, rfl, rfl, rfl, rfl, rfl⟩ hP hD hS dX7_set_69 (Nat.le_refl _) (Nat.le_refl _)
      · skip
        have zc3 : ¬ (p1.toInt = 106) := zEn rfl tc_106 c3
        by_cases c4 : p1 = 107
        · skip
          refine lv_tableIn (off := 55) (tgt := 56) hx hb dX7_set_1 (by rw [c4]; decide) (by rw [c4]; decide) (by rw [c4]; decide) (by decide) ?_
          refine lv_aload_n hx hb dX7_set_56 rfl (lv_at hl 0 rfl) ?_
          refine lv_iload_n hx hb dX7_set_57 rfl (lv_at hl 2 rfl) ?_
          refine va_put (D := (dC, dI)) (ci := 7) (v := .int p2) (ty := tyX7 8) (C := RX7) (T := TX7) (N := 10) hx hb hts inB_7 tyX7 tyX7_ok nmX7 hown hE.1 hP hD hS 4 rfl rfl 8 (Nat.le_of_ble_eq_true rfl) (hts _ k_240) (fun _ h9 => h9) rfl (tyX7_ok 8 (Nat.le_of_ble_eq_true rfl)) rfl rfl (Nat.le_of_ble_eq_true rfl) dX7_set_58 (fun H locs hP hD hS => ?_)
          have hP : va_P (dC, dI) vwCl (XW cy x0 x (upd v 14 p2) f) H := hP
          have hD : va_D A (XW cy x0 x (upd v 14 p2) f) := hD
          refine lv_goto (tgt := 69) hx hb dX7_set_61 rfl ?_
          exact ret ((upd v 14 p2), f) _ _ _ _ _ _ ⟨(gsX_X7_set_1_q3 c1 c2 c3 c4), (KV.up (j := 14) (x := p2) hM_v rfl), hA_f, (Xu_14 (x := p2) hIv (rlo _) (rhi _)), rfl, rfl, rfl, rfl, rfl, rfl, rfl, rfl⟩ hP hD hS dX7_set_69 (Nat.le_refl _) (Nat.le_refl _)
        · skip
          have zc4 : ¬ (p1.toInt = 107) := zEn rfl tc_107 c4
          refine lv_tableOut (tgt := 64) hx hb dX7_set_1 (by omega) (by decide) ?_
          refine lv_aload_n hx hb dX7_set_64 rfl (lv_at hl 0 rfl) ?_
          refine lv_iload_n hx hb dX7_set_65 rfl (lv_at hl 2 rfl) ?_
          refine va_put (D := (dC, dI)) (ci := 7) (v := .int p2) (ty := tyX7 9) (C := RX7) (T := TX7) (N := 10) hx hb hts inB_7 tyX7 tyX7_ok nmX7 hown hE.1 hP hD hS 4 rfl rfl 9 (Nat.le_of_ble_eq_true rfl) (hts _ k_243) (fun _ h9 => h9) rfl (tyX7_ok 9 (Nat.le_of_ble_eq_true rfl)) rfl rfl (Nat.le_of_ble_eq_true rfl) dX7_set_66 (fun H locs hP hD hS => ?_)
          have hP : va_P (dC, dI) vwCl (XW cy x0 x (upd v 15 p2) f) H := hP
          have hD : va_D A (XW cy x0 x (upd v 15 p2) f) := hD
          exact ret ((upd v 15 p2), f) _ _ _ _ _ _ ⟨(gsX_X7_set_1_q4 c1 c2 c3 c4), (KV.up (j := 15) (x := p2) hM_v rfl), hA_f, (Xu_15 (x := p2) hIv (rlo _) (rhi _)), rfl, rfl, rfl, rfl, rfl, rfl, rfl, rfl⟩ hP hD hS dX7_set_69 (Nat.le_refl _) (Nat.le_refl _)
set_option maxHeartbeats 4000000 in
set_option maxRecDepth 100000 in
theorem sX_X6_settingLine_1 (NF : Nat) (l : Launch) (dC : Nat → ClassId) (dI : Nat → Nat → Nat) (cy : Nat → ClassId) (x0 : Nat) (x : Nat → Nat) (p1 : Int32) (v : Nat → Int32) (f : Nat → Nat → Int32) (hIv : XI v)  : ctIS l (dC, dI) cy yX6_settingLine cX6_settingLine 4 .boolean 8 213 0 0 ((Nat → Int32) × (Nat → Nat → Int32)) [.ref (x 2), .int p1] (XW cy x0 x v f) (fun r u => gsX_X6_settingLine_1 NF p1 v f = (r, u) ∧ KV [2, 3, 4, 5, 6, 7, 8, 11, 12, 13, 14, 15] u.1 v ∧ KF [] u.2 f ∧ XI u.1 ∧ u.1 0 = v 0 ∧ u.1 1 = v 1 ∧ u.1 9 = v 9 ∧ u.1 10 = v 10 ∧ u.1 31 = v 31 ∧ u.1 32 = v 32 ∧ ((r = 1) ∨ (r = 0))) (fun u => XW cy x0 x u.1 u.2) := by
  refine ctIS_of (by decide) (Nat.le_of_ble_eq_true rfl) (fun p e s m below meth c A ls Q hx hb hml hts hown hE hF hT hP hD hA hl ret => ?_)
  have hM_v : KV [2, 3, 4, 5, 6, 7, 8, 11, 12, 13, 14, 15] v v := fun _ _ => rfl
  have hA_f : KF [] f f := fun _ _ => rfl
  have hown : s.vm.findClass RX6 = some m.cls := hown
  have hS : va_S A s.heap s.heap [] := va_S.rf
  have hl : lv_has ls 4 [(0, .ref (x 2)), (1, .int p1)] := hl
  refine lv_aload_n hx hb dX6_settingLine_0 rfl (lv_at hl 0 rfl) ?_
  refine va_get (D := (dC, dI)) (ci := 6) (v := .ref (x 0)) (C := RX6) (T := TX6) (N := 7) hx hb hts inB_6 hown hE.1 hP 3 rfl rfl 0 (Nat.le_of_ble_eq_true rfl) (hts _ k_265) (fun _ h9 => h9) rfl dX6_settingLine_1 ?_
  refine va_getN (D := (dC, dI)) (ci := 9) (v := .int (v 2)) (C := RX9) (T := TX9) (N := 6) hx hb hts inB_9 hown hE.1 hP 1 rfl rfl 2 (Nat.le_of_ble_eq_true rfl) (va_Nw.use rfl (hE.2 _ k_139)) (fun _ h9 => h9) rfl dX6_settingLine_4 ?_
  refine lv_istore_n (lv' := [(2, .int (v 2)), (0, .ref (x 2)), (1, .int p1)]) hx hb dX6_settingLine_7 rfl hl (Nat.le_of_ble_eq_true rfl) rfl (fun ls hl => ?_)
  refine lv_aload_n hx hb dX6_settingLine_8 rfl (lv_at hl 1 rfl) ?_
  refine lv_iload_n hx hb dX6_settingLine_9 rfl (lv_at hl 0 rfl) ?_
  refine csVi (n := 1) (rest := []) hx hb hml hown hts hE hP hD hS hA hF hT (sX_X6_opened_1 NF l dC dI cy x0 x (v 2) v f hIv ) k_736 k_738 k_14 k_103 k_739 hd_yX6_opened ⟨Nat.le_of_ble_eq_true rfl, Nat.le_of_ble_eq_true rfl⟩ 3 6 rfl rfl (rfl) hl.1 rfl (Nat.le_of_ble_eq_true rfl) dX6_settingLine_10 (fun r1 u H locs hw hP hD hS => ?_)
  obtain ⟨hG2, hw⟩ := hw
  obtain ⟨v3, f4⟩ := u
  obtain ⟨kV_v3, kF_f4, hIv3, hk0_v3, hk1_v3, hk9_v3, hk10_v3, hk31_v3, hk32_v3, hw⟩ := hw
  have hM_v3 : KV [2, 3, 4, 5, 6, 7, 8, 11, 12, 13, 14, 15] v3 v := KV.tr kV_v3 hM_v (by decide +kernel)
  have hA_f4 : KF [] f4 f := KF.tr kF_f4 hA_f rfl
  have hP : va_P (dC, dI) vwCl (XW cy x0 x v3 f4) H := hP
  have hD : va_D A (XW cy x0 x v3 f4) := hD
  rcases hw with ⟨g5⟩ | ⟨g5⟩
  · skip
    subst g5
    refine lv_if_eq (tgt := 24) hx hb dX6_settingLine_13 rfl (fun c0 => absurd c0 (by decide)) (fun _ => ?_)
    refine lv_aload_n hx hb dX6_settingLine_16 rfl (lv_at hl 1 rfl) ?_
    refine lv_iload_n hx hb dX6_settingLine_17 rfl (lv_at hl 2 rfl) ?_
    refine csVi (n := 1) (rest := []) hx hb hml hown hts hE hP hD hS hA hF hT (sX_X6_numbered_1 NF l dC dI cy x0 x p1 v3 f4 hIv3 ) k_712 k_714 k_10 k_103 k_715 hd_yX6_numbered ⟨Nat.le_of_ble_eq_true rfl, Nat.le_of_ble_eq_true rfl⟩ 3 6 rfl rfl (rfl) hl.1 rfl (Nat.le_of_ble_eq_true rfl) dX6_settingLine_18 (fun r6 u H locs hw hP hD hS => ?_)
    obtain ⟨hG7, hw⟩ := hw
    obtain ⟨v8, f9⟩ := u
    obtain ⟨kV_v8, kF_f9, hIv8, hk0_v8, hk1_v8, hk9_v8, hk10_v8, hk31_v8, hk32_v8⟩ := hw
    have hM_v8 : KV [2, 3, 4, 5, 6, 7, 8, 11, 12, 13, 14, 15] v8 v := KV.tr kV_v8 hM_v3 (by decide +kernel)
    have hA_f9 : KF [] f9 f := KF.tr kF_f9 hA_f4 rfl
    have hP : va_P (dC, dI) vwCl (XW cy x0 x v8 f9) H := hP
    have hD : va_D A (XW cy x0 x v8 f9) := hD
    refine lv_goto (tgt := 25) hx hb dX6_settingLine_21 rfl ?_
    refine lv_istore_n (lv' := [(3, .int r6), (2, .int (v 2)), (0, .ref (x 2)), (1, .int p1)]) hx hb dX6_settingLine_25 rfl hl (Nat.le_of_ble_eq_true rfl) rfl (fun ls hl => ?_)
    refine lv_iload_n hx hb dX6_settingLine_26 rfl (lv_at hl 0 rfl) ?_
    refine lv_if_ge (tgt := 32) hx hb dX6_settingLine_27 rfl (fun c10 => ?_) (fun c10 => ?_)
    · skip
      refine lv_aload_n hx hb dX6_settingLine_32 rfl (lv_at hl 2 rfl) ?_
      refine va_get (D := (dC, dI)) (ci := 6) (v := .ref (x 3)) (C := RX6) (T := TX6) (N := 7) hx hb hts inB_6 hown hE.1 hP 3 rfl rfl 1 (Nat.le_of_ble_eq_true rfl) (hts _ k_266) (fun _ h9 => h9) rfl dX6_settingLine_33 ?_
      refine lv_iload_n hx hb dX6_settingLine_36 rfl (lv_at hl 1 rfl) ?_
      refine lv_iload_n hx hb dX6_settingLine_37 rfl (lv_at hl 0 rfl) ?_
      refine cbVv (n := 2) (rest := []) hx hb hml hown hts hE hP hD hS hA (sX_X7_set_1 NF l dC dI cy x0 x (v 2) r6 v8 f9 hIv8 ) k_763 k_764 k_765 k_104 k_766 hd_yX7_set ⟨Nat.le_of_ble_eq_true rfl, Nat.le_of_ble_eq_true rfl⟩ 4 7 rfl rfl (rfl) hl.1 rfl (Nat.le_of_ble_eq_true rfl) dX6_settingLine_38 (fun u H locs hw hP hD hS => ?_)
      obtain ⟨hG11, hw⟩ := hw
      obtain ⟨v12, f13⟩ := u
      obtain ⟨kV_v12, kF_f13, hIv12, hk0_v12, hk1_v12, hk7_v12, hk8_v12, hk9_v12, hk10_v12, hk31_v12, hk32_v12⟩ := hw
      have hM_v12 : KV [2, 3, 4, 5, 6, 7, 8, 11, 12, 13, 14, 15] v12 v := KV.tr kV_v12 hM_v8 (by decide +kernel)
      have hA_f13 : KF [] f13 f := KF.tr kF_f13 hA_f9 rfl
      have hP : va_P (dC, dI) vwCl (XW cy x0 x v12 f13) H := hP
      have hD : va_D A (XW cy x0 x v12 f13) := hD
      refine lv_iconst (v := 1) hx hb dX6_settingLine_41 rfl ?_
      exact ret 1 (v12, f13) _ _ _ _ _ _ rfl ⟨(gsX_X6_settingLine_1_q0 hG2 hG7 c10 hG11), hM_v12, hA_f13, hIv12, (hk0_v12.trans (hk0_v8.trans hk0_v3)), (hk1_v12.trans (hk1_v8.trans hk1_v3)), (hk9_v12.trans (hk9_v8.trans hk9_v3)), (hk10_v12.trans (hk10_v8.trans hk10_v3)), (hk31_v12.trans (hk31_v8.trans hk31_v3)), (hk32_v12.trans (hk32_v8.trans hk32_v3)), (Or.inl rfl)⟩ hP hD hS dX6_settingLine_42 (Nat.le_refl _) (Nat.le_refl _)
    · skip
      refine lv_iconst (v := 0) hx hb dX6_settingLine_30 rfl ?_
      exact ret 0 (v8, f9) _ _ _ _ _ _ rfl ⟨(gsX_X6_settingLine_1_q1 hG2 hG7 c10), hM_v8, hA_f9, hIv8, (hk0_v8.trans hk0_v3), (hk1_v8.trans hk1_v3), (hk9_v8.trans hk9_v3), (hk10_v8.trans hk10_v3), (hk31_v8.trans hk31_v3), (hk32_v8.trans hk32_v3), (Or.inr rfl)⟩ hP hD hS dX6_settingLine_31 (Nat.le_refl _) (Nat.le_refl _)
  · skip
    subst g5
    refine lv_if_eq (tgt := 24) hx hb dX6_settingLine_13 rfl (fun _ => ?_) (fun c0 => absurd (by decide) c0)
    refine lv_iconst (v := (-1)) hx hb dX6_settingLine_24 rfl ?_
    refine lv_istore_n (lv' := [(3, .int (-1)), (2, .int (v 2)), (0, .ref (x 2)), (1, .int p1)]) hx hb dX6_settingLine_25 rfl hl (Nat.le_of_ble_eq_true rfl) rfl (fun ls hl => ?_)
    refine lv_iload_n hx hb dX6_settingLine_26 rfl (lv_at hl 0 rfl) ?_
    refine lv_if_ge (tgt := 32) hx hb dX6_settingLine_27 rfl (fun c0 => absurd c0 (by decide)) (fun _ => ?_)
    refine lv_iconst (v := 0) hx hb dX6_settingLine_30 rfl ?_
    exact ret 0 (v3, f4) _ _ _ _ _ _ rfl ⟨(gsX_X6_settingLine_1_q2 hG2), hM_v3, hA_f4, hIv3, hk0_v3, hk1_v3, hk9_v3, hk10_v3, hk31_v3, hk32_v3, (Or.inr rfl)⟩ hP hD hS dX6_settingLine_31 (Nat.le_refl _) (Nat.le_refl _)
set_option maxHeartbeats 4000000 in
set_option maxRecDepth 100000 in
theorem sX_X6_line_1 (NF : Nat) (l : Launch) (dC : Nat → ClassId) (dI : Nat → Nat → Nat) (cy : Nat → ClassId) (x0 : Nat) (x : Nat → Nat)  (v : Nat → Int32) (f : Nat → Nat → Int32) (hIv : XI v)  : ctIS l (dC, dI) cy yX6_line cX6_line 1 .boolean 63 1575 0 0 ((Nat → Int32) × (Nat → Nat → Int32)) [.ref (x 2)] (XW cy x0 x v f) (fun r u => gsX_X6_line_1 NF v f = (r, u) ∧ KV [2, 3, 4, 5, 6, 7, 8, 9, 10, 11, 12, 13, 14, 15, 16, 17] u.1 v ∧ KF [1, 2, 3, 4, 7, 8] u.2 f ∧ XI u.1 ∧ u.1 0 = v 0 ∧ u.1 1 = v 1 ∧ ((r = 1) ∨ (r = 0))) (fun u => XW cy x0 x u.1 u.2) := by
  refine ctIS_of (by decide) (Nat.le_of_ble_eq_true rfl) (fun p e s m below meth c A ls Q hx hb hml hts hown hE hF hT hP hD hA hl ret => ?_)
  have hM_v : KV [2, 3, 4, 5, 6, 7, 8, 9, 10, 11, 12, 13, 14, 15, 16, 17] v v := fun _ _ => rfl
  have hA_f : KF [1, 2, 3, 4, 7, 8] f f := fun _ _ => rfl
  have hown : s.vm.findClass RX6 = some m.cls := hown
  have hS : va_S A s.heap s.heap [] := va_S.rf
  have hl : lv_has ls 1 [(0, .ref (x 2))] := hl
  refine lv_aload_n hx hb dX6_line_0 rfl (lv_at hl 0 rfl) ?_
  refine va_get (D := (dC, dI)) (ci := 6) (v := .ref (x 0)) (C := RX6) (T := TX6) (N := 7) hx hb hts inB_6 hown hE.1 hP 3 rfl rfl 0 (Nat.le_of_ble_eq_true rfl) (hts _ k_265) (fun _ h9 => h9) rfl dX6_line_1 ?_
  refine va_getN (D := (dC, dI)) (ci := 9) (v := .int (v 2)) (C := RX9) (T := TX9) (N := 6) hx hb hts inB_9 hown hE.1 hP 1 rfl rfl 2 (Nat.le_of_ble_eq_true rfl) (va_Nw.use rfl (hE.2 _ k_139)) (fun _ h9 => h9) rfl dX6_line_4 ?_
  by_cases c1 : (v 2) = 101
  · skip
    refine lv_tableIn (off := 45) (tgt := 52) hx hb dX6_line_7 (by rw [c1]; decide) (by rw [c1]; decide) (by rw [c1]; decide) (by decide) ?_
    refine lv_aload_n hx hb dX6_line_52 rfl (lv_at hl 0 rfl) ?_
    refine csVi (n := 0) (rest := []) hx hb hml hown hts hE hP hD hS hA hF hT (sX_X6_manLine_1 NF l dC dI cy x0 x  v f hIv ) k_687 k_689 k_5 k_103 k_690 hd_yX6_manLine ⟨Nat.le_of_ble_eq_true rfl, Nat.le_of_ble_eq_true rfl⟩ 3 6 rfl rfl (rfl) hl.1 rfl (Nat.le_of_ble_eq_true rfl) dX6_line_53 (fun r2 u H locs hw hP hD hS => ?_)
    obtain ⟨hG3, hw⟩ := hw
    obtain ⟨v4, f5⟩ := u
    obtain ⟨kV_v4, kF_f5, hIv4, hk0_v4, hk1_v4, hk10_v4, hk32_v4, hw⟩ := hw
    have hM_v4 : KV [2, 3, 4, 5, 6, 7, 8, 9, 10, 11, 12, 13, 14, 15, 16, 17] v4 v := KV.tr kV_v4 hM_v (by decide +kernel)
    have hA_f5 : KF [1, 2, 3, 4, 7, 8] f5 f := KF.tr kF_f5 hA_f rfl
    have hP : va_P (dC, dI) vwCl (XW cy x0 x v4 f5) H := hP
    have hD : va_D A (XW cy x0 x v4 f5) := hD
    rcases hw with ⟨g6⟩ | ⟨g6⟩
    · skip
      subst g6
      refine lv_if_eq (tgt := 70) hx hb dX6_line_56 rfl (fun c0 => absurd c0 (by decide)) (fun _ => ?_)
      refine lv_aload_n hx hb dX6_line_59 rfl (lv_at hl 0 rfl) ?_
      refine csVi (n := 0) (rest := []) hx hb hml hown hts hE hP hD hS hA hF hT (sX_X6_closing_1 NF l dC dI cy x0 x  v4 f5 hIv4 ) k_720 k_722 k_11 k_103 k_723 hd_yX6_closing ⟨Nat.le_of_ble_eq_true rfl, Nat.le_of_ble_eq_true rfl⟩ 3 6 rfl rfl (rfl) hl.1 rfl (Nat.le_of_ble_eq_true rfl) dX6_line_60 (fun r7 u H locs hw hP hD hS => ?_)
      obtain ⟨hG8, hw⟩ := hw
      obtain ⟨v9, f10⟩ := u
      obtain ⟨kV_v9, kF_f10, hIv9, hk0_v9, hk1_v9, hk9_v9, hk10_v9, hk31_v9, hk32_v9, hw⟩ := hw
      have hM_v9 : KV [2, 3, 4, 5, 6, 7, 8, 9, 10, 11, 12, 13, 14, 15, 16, 17] v9 v := KV.tr kV_v9 hM_v4 (by decide +kernel)
      have hA_f10 : KF [1, 2, 3, 4, 7, 8] f10 f := KF.tr kF_f10 hA_f5 rfl
      have hP : va_P (dC, dI) vwCl (XW cy x0 x v9 f10) H := hP
      have hD : va_D A (XW cy x0 x v9 f10) := hD
      rcases hw with ⟨g11⟩ | ⟨g11⟩
      · skip
        subst g11
        refine lv_if_eq (tgt := 70) hx hb dX6_line_63 rfl (fun c0 => absurd c0 (by decide)) (fun _ => ?_)
        refine lv_iconst (v := 1) hx hb dX6_line_66 rfl ?_
        refine lv_goto (tgt := 71) hx hb dX6_line_67 rfl ?_
        exact ret 1 (v9, f10) _ _ _ _ _ _ rfl ⟨(gsX_X6_line_1_q0 c1 hG3 hG8), hM_v9, hA_f10, hIv9, (hk0_v9.trans hk0_v4), (hk1_v9.trans hk1_v4), (Or.inl rfl)⟩ hP hD hS dX6_line_71 (Nat.le_refl _) (Nat.le_refl _)
      · skip
        subst g11
        refine lv_if_eq (tgt := 70) hx hb dX6_line_63 rfl (fun _ => ?_) (fun c0 => absurd (by decide) c0)
        refine lv_iconst (v := 0) hx hb dX6_line_70 rfl ?_
        exact ret 0 (v9, f10) _ _ _ _ _ _ rfl ⟨(gsX_X6_line_1_q1 c1 hG3 hG8), hM_v9, hA_f10, hIv9, (hk0_v9.trans hk0_v4), (hk1_v9.trans hk1_v4), (Or.inr rfl)⟩ hP hD hS dX6_line_71 (Nat.le_refl _) (Nat.le_refl _)
    · skip
      subst g6
      refine lv_if_eq (tgt := 70) hx hb dX6_line_56 rfl (fun _ => ?_) (fun c0 => absurd (by decide) c0)
      refine lv_iconst (v := 0) hx hb dX6_line_70 rfl ?_
      exact ret 0 (v4, f5) _ _ _ _ _ _ rfl ⟨(gsX_X6_line_1_q2 c1 hG3), hM_v4, hA_f5, hIv4, hk0_v4, hk1_v4, (Or.inr rfl)⟩ hP hD hS dX6_line_71 (Nat.le_refl _) (Nat.le_refl _)
  · skip
    have zc1 : ¬ ((v 2).toInt = 101) := zEn rfl tc_101 c1
    by_cases c12 : (v 2) = 102
    · skip
      refine lv_tableIn (off := 65) (tgt := 72) hx hb dX6_line_7 (by rw [c12]; decide) (by rw [c12]; decide) (by rw [c12]; decide) (by decide) ?_
      refine lv_aload_n hx hb dX6_line_72 rfl (lv_at hl 0 rfl) ?_
      refine csVi (n := 0) (rest := []) hx hb hml hown hts hE hP hD hS hA hF hT (sX_X6_coatLine_1 NF l dC dI cy x0 x  v f hIv ) k_728 k_730 k_13 k_103 k_731 hd_yX6_coatLine ⟨Nat.le_of_ble_eq_true rfl, Nat.le_of_ble_eq_true rfl⟩ 3 6 rfl rfl (rfl) hl.1 rfl (Nat.le_of_ble_eq_true rfl) dX6_line_73 (fun r13 u H locs hw hP hD hS => ?_)
      obtain ⟨hG14, hw⟩ := hw
      obtain ⟨v15, f16⟩ := u
      obtain ⟨kV_v15, kF_f16, hIv15, hk0_v15, hk1_v15, hk9_v15, hk31_v15, hw⟩ := hw
      have hM_v15 : KV [2, 3, 4, 5, 6, 7, 8, 9, 10, 11, 12, 13, 14, 15, 16, 17] v15 v := KV.tr kV_v15 hM_v (by decide +kernel)
      have hA_f16 : KF [1, 2, 3, 4, 7, 8] f16 f := KF.tr kF_f16 hA_f rfl
      have hP : va_P (dC, dI) vwCl (XW cy x0 x v15 f16) H := hP
      have hD : va_D A (XW cy x0 x v15 f16) := hD
      rcases hw with ⟨g17⟩ | ⟨g17⟩
      · skip
        subst g17
        refine lv_if_eq (tgt := 90) hx hb dX6_line_76 rfl (fun c0 => absurd c0 (by decide)) (fun _ => ?_)
        refine lv_aload_n hx hb dX6_line_79 rfl (lv_at hl 0 rfl) ?_
        refine csVi (n := 0) (rest := []) hx hb hml hown hts hE hP hD hS hA hF hT (sX_X6_closing_1 NF l dC dI cy x0 x  v15 f16 hIv15 ) k_720 k_722 k_11 k_103 k_723 hd_yX6_closing ⟨Nat.le_of_ble_eq_true rfl, Nat.le_of_ble_eq_true rfl⟩ 3 6 rfl rfl (rfl) hl.1 rfl (Nat.le_of_ble_eq_true rfl) dX6_line_80 (fun r18 u H locs hw hP hD hS => ?_)
        obtain ⟨hG19, hw⟩ := hw
        obtain ⟨v20, f21⟩ := u
        obtain ⟨kV_v20, kF_f21, hIv20, hk0_v20, hk1_v20, hk9_v20, hk10_v20, hk31_v20, hk32_v20, hw⟩ := hw
        have hM_v20 : KV [2, 3, 4, 5, 6, 7, 8, 9, 10, 11, 12, 13, 14, 15, 16, 17] v20 v := KV.tr kV_v20 hM_v15 (by decide +kernel)
        have hA_f21 : KF [1, 2, 3, 4, 7, 8] f21 f := KF.tr kF_f21 hA_f16 rfl
        have hP : va_P (dC, dI) vwCl (XW cy x0 x v20 f21) H := hP
        have hD : va_D A (XW cy x0 x v20 f21) := hD
        rcases hw with ⟨g22⟩ | ⟨g22⟩
        · skip
          subst g22
          refine lv_if_eq (tgt := 90) hx hb dX6_line_83 rfl (fun c0 => absurd c0 (by decide)) (fun _ => ?_)
          refine lv_iconst (v := 1) hx hb dX6_line_86 rfl ?_
          refine lv_goto (tgt := 91) hx hb dX6_line_87 rfl ?_
          exact ret 1 (v20, f21) _ _ _ _ _ _ rfl ⟨(gsX_X6_line_1_q3 c1 c12 hG14 hG19), hM_v20, hA_f21, hIv20, (hk0_v20.trans hk0_v15), (hk1_v20.trans hk1_v15), (Or.inl rfl)⟩ hP hD hS dX6_line_91 (Nat.le_refl _) (Nat.le_refl _)
        · skip
          subst g22
          refine lv_if_eq (tgt := 90) hx hb dX6_line_83 rfl (fun _ => ?_) (fun c0 => absurd (by decide) c0)
          refine lv_iconst (v := 0) hx hb dX6_line_90 rfl ?_
          exact ret 0 (v20, f21) _ _ _ _ _ _ rfl ⟨(gsX_X6_line_1_q4 c1 c12 hG14 hG19), hM_v20, hA_f21, hIv20, (hk0_v20.trans hk0_v15), (hk1_v20.trans hk1_v15), (Or.inr rfl)⟩ hP hD hS dX6_line_91 (Nat.le_refl _) (Nat.le_refl _)
      · skip
        subst g17
        refine lv_if_eq (tgt := 90) hx hb dX6_line_76 rfl (fun _ => ?_) (fun c0 => absurd (by decide) c0)
        refine lv_iconst (v := 0) hx hb dX6_line_90 rfl ?_
        exact ret 0 (v15, f16) _ _ _ _ _ _ rfl ⟨(gsX_X6_line_1_q5 c1 c12 hG14), hM_v15, hA_f16, hIv15, hk0_v15, hk1_v15, (Or.inr rfl)⟩ hP hD hS dX6_line_91 (Nat.le_refl _) (Nat.le_refl _)
    · skip
      have zc12 : ¬ ((v 2).toInt = 102) := zEn rfl tc_102 c12
      by_cases c23 : (v 2) = 103
      · skip
        refine lv_tableIn (off := 85) (tgt := 92) hx hb dX6_line_7 (by rw [c23]; decide) (by rw [c23]; decide) (by rw [c23]; decide) (by decide) ?_
        refine lv_aload_n hx hb dX6_line_92 rfl (lv_at hl 0 rfl) ?_
        refine lv_bipush (v := 103) hx hb dX6_line_93 rfl ?_
        refine csVi (n := 1) (rest := []) hx hb hml hown hts hE hP hD hS hA hF hT (sX_X6_opened_1 NF l dC dI cy x0 x 103 v f hIv ) k_736 k_738 k_14 k_103 k_739 hd_yX6_opened ⟨Nat.le_of_ble_eq_true rfl, Nat.le_of_ble_eq_true rfl⟩ 3 6 rfl rfl (rfl) hl.1 rfl (Nat.le_of_ble_eq_true rfl) dX6_line_95 (fun r24 u H locs hw hP hD hS => ?_)
        obtain ⟨hG25, hw⟩ := hw
        obtain ⟨v26, f27⟩ := u
        obtain ⟨kV_v26, kF_f27, hIv26, hk0_v26, hk1_v26, hk9_v26, hk10_v26, hk31_v26, hk32_v26, hw⟩ := hw
        have hM_v26 : KV [2, 3, 4, 5, 6, 7, 8, 9, 10, 11, 12, 13, 14, 15, 16, 17] v26 v := KV.tr kV_v26 hM_v (by decide +kernel)
        have hA_f27 : KF [1, 2, 3, 4, 7, 8] f27 f := KF.tr kF_f27 hA_f rfl
        have hP : va_P (dC, dI) vwCl (XW cy x0 x v26 f27) H := hP
        have hD : va_D A (XW cy x0 x v26 f27) := hD
        rcases hw with ⟨g28⟩ | ⟨g28⟩
        · skip
          subst g28
          refine lv_if_eq (tgt := 121) hx hb dX6_line_98 rfl (fun c0 => absurd c0 (by decide)) (fun _ => ?_)
          refine lv_aload_n hx hb dX6_line_101 rfl (lv_at hl 0 rfl) ?_
          refine lv_iconst (v := 0) hx hb dX6_line_102 rfl ?_
          refine lv_iconst (v := 0) hx hb dX6_line_103 rfl ?_
          refine csVi (n := 2) (rest := []) hx hb hml hown hts hE hP hD hS hA hF hT (sX_X6_expression_1 NF l dC dI cy x0 x  v26 f27 hIv26 ) k_740 k_742 k_15 k_103 k_743 hd_yX6_expression ⟨Nat.le_of_ble_eq_true rfl, Nat.le_of_ble_eq_true rfl⟩ 3 6 rfl rfl (rfl) hl.1 rfl (Nat.le_of_ble_eq_true rfl) dX6_line_104 (fun r29 u H locs hw hP hD hS => ?_)
          obtain ⟨hG30, hw⟩ := hw
          obtain ⟨v31, f32⟩ := u
          obtain ⟨kV_v31, kF_f32, hIv31, hk0_v31, hk1_v31, hk9_v31, hk10_v31, hk31_v31, hk32_v31, hw⟩ := hw
          have hM_v31 : KV [2, 3, 4, 5, 6, 7, 8, 9, 10, 11, 12, 13, 14, 15, 16, 17] v31 v := KV.tr kV_v31 hM_v26 (by decide +kernel)
          have hA_f32 : KF [1, 2, 3, 4, 7, 8] f32 f := KF.tr kF_f32 hA_f27 rfl
          have hP : va_P (dC, dI) vwCl (XW cy x0 x v31 f32) H := hP
          have hD : va_D A (XW cy x0 x v31 f32) := hD
          rcases hw with ⟨g33⟩ | ⟨g33⟩
          · skip
            subst g33
            refine lv_if_eq (tgt := 121) hx hb dX6_line_107 rfl (fun c0 => absurd c0 (by decide)) (fun _ => ?_)
            refine lv_aload_n hx hb dX6_line_110 rfl (lv_at hl 0 rfl) ?_
            refine csVi (n := 0) (rest := []) hx hb hml hown hts hE hP hD hS hA hF hT (sX_X6_closing_1 NF l dC dI cy x0 x  v31 f32 hIv31 ) k_720 k_722 k_11 k_103 k_723 hd_yX6_closing ⟨Nat.le_of_ble_eq_true rfl, Nat.le_of_ble_eq_true rfl⟩ 3 6 rfl rfl (rfl) hl.1 rfl (Nat.le_of_ble_eq_true rfl) dX6_line_111 (fun r34 u H locs hw hP hD hS => ?_)
            obtain ⟨hG35, hw⟩ := hw
            obtain ⟨v36, f37⟩ := u
            obtain ⟨kV_v36, kF_f37, hIv36, hk0_v36, hk1_v36, hk9_v36, hk10_v36, hk31_v36, hk32_v36, hw⟩ := hw
            have hM_v36 : KV [2, 3, 4, 5, 6, 7, 8, 9, 10, 11, 12, 13, 14, 15, 16, 17] v36 v := KV.tr kV_v36 hM_v31 (by decide +kernel)
            have hA_f37 : KF [1, 2, 3, 4, 7, 8] f37 f := KF.tr kF_f37 hA_f32 rfl
            have hP : va_P (dC, dI) vwCl (XW cy x0 x v36 f37) H := hP
            have hD : va_D A (XW cy x0 x v36 f37) := hD
            rcases hw with ⟨g38⟩ | ⟨g38⟩
            · skip
              subst g38
              refine lv_if_eq (tgt := 121) hx hb dX6_line_114 rfl (fun c0 => absurd c0 (by decide)) (fun _ => ?_)
              refine lv_iconst (v := 1) hx hb dX6_line_117 rfl ?_
              refine lv_goto (tgt := 122) hx hb dX6_line_118 rfl ?_
              exact ret 1 (v36, f37) _ _ _ _ _ _ rfl ⟨(gsX_X6_line_1_q6 c1 c12 c23 hG25 hG30 hG35), hM_v36, hA_f37, hIv36, (hk0_v36.trans (hk0_v31.trans hk0_v26)), (hk1_v36.trans (hk1_v31.trans hk1_v26)), (Or.inl rfl)⟩ hP hD hS dX6_line_122 (Nat.le_refl _) (Nat.le_refl _)
            · skip
              subst g38
              refine lv_if_eq (tgt := 121) hx hb dX6_line_114 rfl (fun _ => ?_) (fun c0 => absurd (by decide) c0)
              refine lv_iconst (v := 0) hx hb dX6_line_121 rfl ?_
              exact ret 0 (v36, f37) _ _ _ _ _ _ rfl ⟨(gsX_X6_line_1_q7 c1 c12 c23 hG25 hG30 hG35), hM_v36, hA_f37, hIv36, (hk0_v36.trans (hk0_v31.trans hk0_v26)), (hk1_v36.trans (hk1_v31.trans hk1_v26)), (Or.inr rfl)⟩ hP hD hS dX6_line_122 (Nat.le_refl _) (Nat.le_refl _)
          · skip
            subst g33
            refine lv_if_eq (tgt := 121) hx hb dX6_line_107 rfl (fun _ => ?_) (fun c0 => absurd (by decide) c0)
            refine lv_iconst (v := 0) hx hb dX6_line_121 rfl ?_
            exact ret 0 (v31, f32) _ _ _ _ _ _ rfl ⟨(gsX_X6_line_1_q8 c1 c12 c23 hG25 hG30), hM_v31, hA_f32, hIv31, (hk0_v31.trans hk0_v26), (hk1_v31.trans hk1_v26), (Or.inr rfl)⟩ hP hD hS dX6_line_122 (Nat.le_refl _) (Nat.le_refl _)
        · skip
          subst g28
          refine lv_if_eq (tgt := 121) hx hb dX6_line_98 rfl (fun _ => ?_) (fun c0 => absurd (by decide) c0)
          refine lv_iconst (v := 0) hx hb dX6_line_121 rfl ?_
          exact ret 0 (v26, f27) _ _ _ _ _ _ rfl ⟨(gsX_X6_line_1_q9 c1 c12 c23 hG25), hM_v26, hA_f27, hIv26, hk0_v26, hk1_v26, (Or.inr rfl)⟩ hP hD hS dX6_line_122 (Nat.le_refl _) (Nat.le_refl _)
      · skip
        have zc23 : ¬ ((v 2).toInt = 103) := zEn rfl tc_103 c23
        by_cases c39 : (v 2) = 104
        · skip
          refine lv_tableIn (off := 116) (tgt := 123) hx hb dX6_line_7 (by rw [c39]; decide) (by rw [c39]; decide) (by rw [c39]; decide) (by decide) ?_
          refine lv_aload_n hx hb dX6_line_123 rfl (lv_at hl 0 rfl) ?_
          refine lv_sipush (v := 999) hx hb dX6_line_124 rfl ?_
          refine csVi (n := 1) (rest := []) hx hb hml hown hts hE hP hD hS hA hF hT (sX_X6_settingLine_1 NF l dC dI cy x0 x 999 v f hIv ) k_759 k_761 k_18 k_103 k_762 hd_yX6_settingLine ⟨Nat.le_of_ble_eq_true rfl, Nat.le_of_ble_eq_true rfl⟩ 3 6 rfl rfl (rfl) hl.1 rfl (Nat.le_of_ble_eq_true rfl) dX6_line_127 (fun r40 u H locs hw hP hD hS => ?_)
          obtain ⟨hG41, hw⟩ := hw
          obtain ⟨v42, f43⟩ := u
          obtain ⟨kV_v42, kF_f43, hIv42, hk0_v42, hk1_v42, hk9_v42, hk10_v42, hk31_v42, hk32_v42, hw⟩ := hw
          have hM_v42 : KV [2, 3, 4, 5, 6, 7, 8, 9, 10, 11, 12, 13, 14, 15, 16, 17] v42 v := KV.tr kV_v42 hM_v (by decide +kernel)
          have hA_f43 : KF [1, 2, 3, 4, 7, 8] f43 f := KF.tr kF_f43 hA_f rfl
          have hP : va_P (dC, dI) vwCl (XW cy x0 x v42 f43) H := hP
          have hD : va_D A (XW cy x0 x v42 f43) := hD
          rcases hw with ⟨g44⟩ | ⟨g44⟩
          · skip
            subst g44
            refine lv_if_eq (tgt := 144) hx hb dX6_line_130 rfl (fun c0 => absurd c0 (by decide)) (fun _ => ?_)
            refine lv_aload_n hx hb dX6_line_133 rfl (lv_at hl 0 rfl) ?_
            refine csVi (n := 0) (rest := []) hx hb hml hown hts hE hP hD hS hA hF hT (sX_X6_closing_1 NF l dC dI cy x0 x  v42 f43 hIv42 ) k_720 k_722 k_11 k_103 k_723 hd_yX6_closing ⟨Nat.le_of_ble_eq_true rfl, Nat.le_of_ble_eq_true rfl⟩ 3 6 rfl rfl (rfl) hl.1 rfl (Nat.le_of_ble_eq_true rfl) dX6_line_134 (fun r45 u H locs hw hP hD hS => ?_)
            obtain ⟨hG46, hw⟩ := hw
            obtain ⟨v47, f48⟩ := u
            obtain ⟨kV_v47, kF_f48, hIv47, hk0_v47, hk1_v47, hk9_v47, hk10_v47, hk31_v47, hk32_v47, hw⟩ := hw
            have hM_v47 : KV [2, 3, 4, 5, 6, 7, 8, 9, 10, 11, 12, 13, 14, 15, 16, 17] v47 v := KV.tr kV_v47 hM_v42 (by decide +kernel)
            have hA_f48 : KF [1, 2, 3, 4, 7, 8] f48 f := KF.tr kF_f48 hA_f43 rfl
            have hP : va_P (dC, dI) vwCl (XW cy x0 x v47 f48) H := hP
            have hD : va_D A (XW cy x0 x v47 f48) := hD
            rcases hw with ⟨g49⟩ | ⟨g49⟩
            · skip
              subst g49
              refine lv_if_eq (tgt := 144) hx hb dX6_line_137 rfl (fun c0 => absurd c0 (by decide)) (fun _ => ?_)
              refine lv_iconst (v := 1) hx hb dX6_line_140 rfl ?_
              refine lv_goto (tgt := 145) hx hb dX6_line_141 rfl ?_
              exact ret 1 (v47, f48) _ _ _ _ _ _ rfl ⟨(gsX_X6_line_1_q10 c1 c12 c23 c39 hG41 hG46), hM_v47, hA_f48, hIv47, (hk0_v47.trans hk0_v42), (hk1_v47.trans hk1_v42), (Or.inl rfl)⟩ hP hD hS dX6_line_145 (Nat.le_refl _) (Nat.le_refl _)
            · skip
              subst g49
              refine lv_if_eq (tgt := 144) hx hb dX6_line_137 rfl (fun _ => ?_) (fun c0 => absurd (by decide) c0)
              refine lv_iconst (v := 0) hx hb dX6_line_144 rfl ?_
              exact ret 0 (v47, f48) _ _ _ _ _ _ rfl ⟨(gsX_X6_line_1_q11 c1 c12 c23 c39 hG41 hG46), hM_v47, hA_f48, hIv47, (hk0_v47.trans hk0_v42), (hk1_v47.trans hk1_v42), (Or.inr rfl)⟩ hP hD hS dX6_line_145 (Nat.le_refl _) (Nat.le_refl _)
          · skip
            subst g44
            refine lv_if_eq (tgt := 144) hx hb dX6_line_130 rfl (fun _ => ?_) (fun c0 => absurd (by decide) c0)
            refine lv_iconst (v := 0) hx hb dX6_line_144 rfl ?_
            exact ret 0 (v42, f43) _ _ _ _ _ _ rfl ⟨(gsX_X6_line_1_q12 c1 c12 c23 c39 hG41), hM_v42, hA_f43, hIv42, hk0_v42, hk1_v42, (Or.inr rfl)⟩ hP hD hS dX6_line_145 (Nat.le_refl _) (Nat.le_refl _)
        · skip
          have zc39 : ¬ ((v 2).toInt = 104) := zEn rfl tc_104 c39
          by_cases c50 : (v 2) = 105
          · skip
            refine lv_tableIn (off := 116) (tgt := 123) hx hb dX6_line_7 (by rw [c50]; decide) (by rw [c50]; decide) (by rw [c50]; decide) (by decide) ?_
            refine lv_aload_n hx hb dX6_line_123 rfl (lv_at hl 0 rfl) ?_
            refine lv_sipush (v := 999) hx hb dX6_line_124 rfl ?_
            refine csVi (n := 1) (rest := []) hx hb hml hown hts hE hP hD hS hA hF hT (sX_X6_settingLine_1 NF l dC dI cy x0 x 999 v f hIv ) k_759 k_761 k_18 k_103 k_762 hd_yX6_settingLine ⟨Nat.le_of_ble_eq_true rfl, Nat.le_of_ble_eq_true rfl⟩ 3 6 rfl rfl (rfl) hl.1 rfl (Nat.le_of_ble_eq_true rfl) dX6_line_127 (fun r51 u H locs hw hP hD hS => ?_)
            obtain ⟨hG52, hw⟩ := hw
            obtain ⟨v53, f54⟩ := u
            obtain ⟨kV_v53, kF_f54, hIv53, hk0_v53, hk1_v53, hk9_v53, hk10_v53, hk31_v53, hk32_v53, hw⟩ := hw
            have hM_v53 : KV [2, 3, 4, 5, 6, 7, 8, 9, 10, 11, 12, 13, 14, 15, 16, 17] v53 v := KV.tr kV_v53 hM_v (by decide +kernel)
            have hA_f54 : KF [1, 2, 3, 4, 7, 8] f54 f := KF.tr kF_f54 hA_f rfl
            have hP : va_P (dC, dI) vwCl (XW cy x0 x v53 f54) H := hP
            have hD : va_D A (XW cy x0 x v53 f54) := hD
            rcases hw with ⟨g55⟩ | ⟨g55⟩
            · skip
              subst g55
              refine lv_if_eq (tgt := 144) hx hb dX6_line_130 rfl (fun c0 => absurd c0 (by decide)) (fun _ => ?_)
              refine lv_aload_n hx hb dX6_line_133 rfl (lv_at hl 0 rfl) ?_
              refine csVi (n := 0) (rest := []) hx hb hml hown hts hE hP hD hS hA hF hT (sX_X6_closing_1 NF l dC dI cy x0 x  v53 f54 hIv53 ) k_720 k_722 k_11 k_103 k_723 hd_yX6_closing ⟨Nat.le_of_ble_eq_true rfl, Nat.le_of_ble_eq_true rfl⟩ 3 6 rfl rfl (rfl) hl.1 rfl (Nat.le_of_ble_eq_true rfl) dX6_line_134 (fun r56 u H locs hw hP hD hS => ?_)
              obtain ⟨hG57, hw⟩ := hw
              obtain ⟨v58, f59⟩ := u
              obtain ⟨kV_v58, kF_f59, hIv58, hk0_v58, hk1_v58, hk9_v58, hk10_v58, hk31_v58, hk32_v58, hw⟩ := hw
              have hM_v58 : KV [2, 3, 4, 5, 6, 7, 8, 9, 10, 11, 12, 13, 14, 15, 16, 17] v58 v := KV.tr kV_v58 hM_v53 (by decide +kernel)
              have hA_f59 : KF [1, 2, 3, 4, 7, 8] f59 f := KF.tr kF_f59 hA_f54 rfl
              have hP : va_P (dC, dI) vwCl (XW cy x0 x v58 f59) H := hP
              have hD : va_D A (XW cy x0 x v58 f59) := hD
              rcases hw with ⟨g60⟩ | ⟨g60⟩
              · skip
                subst g60
                refine lv_if_eq (tgt := 144) hx hb dX6_line_137 rfl (fun c0 => absurd c0 (by decide)) (fun _ => ?_)
                refine lv_iconst (v := 1) hx hb dX6_line_140 rfl ?_
                refine lv_goto (tgt := 145) hx hb dX6_line_141 rfl ?_
                exact ret 1 (v58, f59) _ _ _ _ _ _ rfl ⟨(gsX_X6_line_1_q13 c1 c12 c23 c39 c50 hG52 hG57), hM_v58, hA_f59, hIv58, (hk0_v58.trans hk0_v53), (hk1_v58.trans hk1_v53), (Or.inl rfl)⟩ hP hD hS dX6_line_145 (Nat.le_refl _) (Nat.le_refl _)
              · skip
                subst g60
                refine lv_if_eq (tgt := 144) hx hb dX6_line_137 rfl (fun _ => ?_) (fun c0 => absurd (by decide) c0)
                refine lv_iconst (v := 0) hx hb dX6_line_144 rfl ?_
                exact ret 0 (v58, f59) _ _ _ _ _ _ rfl ⟨(gsX_X6_line_1_q14 c1 c12 c23 c39 c50 hG52 hG57), hM_v58, hA_f59, hIv58, (hk0_v58.trans hk0_v53), (hk1_v58.trans hk1_v53), (Or.inr rfl)⟩ hP hD hS dX6_line_145 (Nat.le_refl _) (Nat.le_refl _)
            · skip
              subst g55
              refine lv_if_eq (tgt := 144) hx hb dX6_line_130 rfl (fun _ => ?_) (fun c0 => absurd (by decide) c0)
              refine lv_iconst (v := 0) hx hb dX6_line_144 rfl ?_
              exact ret 0 (v53, f54) _ _ _ _ _ _ rfl ⟨(gsX_X6_line_1_q15 c1 c12 c23 c39 c50 hG52), hM_v53, hA_f54, hIv53, hk0_v53, hk1_v53, (Or.inr rfl)⟩ hP hD hS dX6_line_145 (Nat.le_refl _) (Nat.le_refl _)
          · skip
            have zc50 : ¬ ((v 2).toInt = 105) := zEn rfl tc_105 c50
            by_cases c61 : (v 2) = 106
            · skip
              refine lv_tableIn (off := 139) (tgt := 146) hx hb dX6_line_7 (by rw [c61]; decide) (by rw [c61]; decide) (by rw [c61]; decide) (by decide) ?_
              refine lv_aload_n hx hb dX6_line_146 rfl (lv_at hl 0 rfl) ?_
              refine lv_bipush (v := 99) hx hb dX6_line_147 rfl ?_
              refine csVi (n := 1) (rest := []) hx hb hml hown hts hE hP hD hS hA hF hT (sX_X6_settingLine_1 NF l dC dI cy x0 x 99 v f hIv ) k_759 k_761 k_18 k_103 k_762 hd_yX6_settingLine ⟨Nat.le_of_ble_eq_true rfl, Nat.le_of_ble_eq_true rfl⟩ 3 6 rfl rfl (rfl) hl.1 rfl (Nat.le_of_ble_eq_true rfl) dX6_line_149 (fun r62 u H locs hw hP hD hS => ?_)
              obtain ⟨hG63, hw⟩ := hw
              obtain ⟨v64, f65⟩ := u
              obtain ⟨kV_v64, kF_f65, hIv64, hk0_v64, hk1_v64, hk9_v64, hk10_v64, hk31_v64, hk32_v64, hw⟩ := hw
              have hM_v64 : KV [2, 3, 4, 5, 6, 7, 8, 9, 10, 11, 12, 13, 14, 15, 16, 17] v64 v := KV.tr kV_v64 hM_v (by decide +kernel)
              have hA_f65 : KF [1, 2, 3, 4, 7, 8] f65 f := KF.tr kF_f65 hA_f rfl
              have hP : va_P (dC, dI) vwCl (XW cy x0 x v64 f65) H := hP
              have hD : va_D A (XW cy x0 x v64 f65) := hD
              rcases hw with ⟨g66⟩ | ⟨g66⟩
              · skip
                subst g66
                refine lv_if_eq (tgt := 166) hx hb dX6_line_152 rfl (fun c0 => absurd c0 (by decide)) (fun _ => ?_)
                refine lv_aload_n hx hb dX6_line_155 rfl (lv_at hl 0 rfl) ?_
                refine csVi (n := 0) (rest := []) hx hb hml hown hts hE hP hD hS hA hF hT (sX_X6_closing_1 NF l dC dI cy x0 x  v64 f65 hIv64 ) k_720 k_722 k_11 k_103 k_723 hd_yX6_closing ⟨Nat.le_of_ble_eq_true rfl, Nat.le_of_ble_eq_true rfl⟩ 3 6 rfl rfl (rfl) hl.1 rfl (Nat.le_of_ble_eq_true rfl) dX6_line_156 (fun r67 u H locs hw hP hD hS => ?_)
                obtain ⟨hG68, hw⟩ := hw
                obtain ⟨v69, f70⟩ := u
                obtain ⟨kV_v69, kF_f70, hIv69, hk0_v69, hk1_v69, hk9_v69, hk10_v69, hk31_v69, hk32_v69, hw⟩ := hw
                have hM_v69 : KV [2, 3, 4, 5, 6, 7, 8, 9, 10, 11, 12, 13, 14, 15, 16, 17] v69 v := KV.tr kV_v69 hM_v64 (by decide +kernel)
                have hA_f70 : KF [1, 2, 3, 4, 7, 8] f70 f := KF.tr kF_f70 hA_f65 rfl
                have hP : va_P (dC, dI) vwCl (XW cy x0 x v69 f70) H := hP
                have hD : va_D A (XW cy x0 x v69 f70) := hD
                rcases hw with ⟨g71⟩ | ⟨g71⟩
                · skip
                  subst g71
                  refine lv_if_eq (tgt := 166) hx hb dX6_line_159 rfl (fun c0 => absurd c0 (by decide)) (fun _ => ?_)
                  refine lv_iconst (v := 1) hx hb dX6_line_162 rfl ?_
                  refine lv_goto (tgt := 167) hx hb dX6_line_163 rfl ?_
                  exact ret 1 (v69, f70) _ _ _ _ _ _ rfl ⟨(gsX_X6_line_1_q16 c1 c12 c23 c39 c50 c61 hG63 hG68), hM_v69, hA_f70, hIv69, (hk0_v69.trans hk0_v64), (hk1_v69.trans hk1_v64), (Or.inl rfl)⟩ hP hD hS dX6_line_167 (Nat.le_refl _) (Nat.le_refl _)
                · skip
                  subst g71
                  refine lv_if_eq (tgt := 166) hx hb dX6_line_159 rfl (fun _ => ?_) (fun c0 => absurd (by decide) c0)
                  refine lv_iconst (v := 0) hx hb dX6_line_166 rfl ?_
                  exact ret 0 (v69, f70) _ _ _ _ _ _ rfl ⟨(gsX_X6_line_1_q17 c1 c12 c23 c39 c50 c61 hG63 hG68), hM_v69, hA_f70, hIv69, (hk0_v69.trans hk0_v64), (hk1_v69.trans hk1_v64), (Or.inr rfl)⟩ hP hD hS dX6_line_167 (Nat.le_refl _) (Nat.le_refl _)
              · skip
                subst g66
                refine lv_if_eq (tgt := 166) hx hb dX6_line_152 rfl (fun _ => ?_) (fun c0 => absurd (by decide) c0)
                refine lv_iconst (v := 0) hx hb dX6_line_166 rfl ?_
                exact ret 0 (v64, f65) _ _ _ _ _ _ rfl ⟨(gsX_X6_line_1_q18 c1 c12 c23 c39 c50 c61 hG63), hM_v64, hA_f65, hIv64, hk0_v64, hk1_v64, (Or.inr rfl)⟩ hP hD hS dX6_line_167 (Nat.le_refl _) (Nat.le_refl _)
            · skip
              have zc61 : ¬ ((v 2).toInt = 106) := zEn rfl tc_106 c61
              by_cases c72 : (v 2) = 107
              · skip
                refine lv_tableIn (off := 161) (tgt := 168) hx hb dX6_line_7 (by rw [c72]; decide) (by rw [c72]; decide) (by rw [c72]; decide) (by decide) ?_
                refine lv_aload_n hx hb dX6_line_168 rfl (lv_at hl 0 rfl) ?_
                refine lv_bipush (v := 100) hx hb dX6_line_169 rfl ?_
                refine csVi (n := 1) (rest := []) hx hb hml hown hts hE hP hD hS hA hF hT (sX_X6_settingLine_1 NF l dC dI cy x0 x 100 v f hIv ) k_759 k_761 k_18 k_103 k_762 hd_yX6_settingLine ⟨Nat.le_of_ble_eq_true rfl, Nat.le_of_ble_eq_true rfl⟩ 3 6 rfl rfl (rfl) hl.1 rfl (Nat.le_of_ble_eq_true rfl) dX6_line_171 (fun r73 u H locs hw hP hD hS => ?_)
                obtain ⟨hG74, hw⟩ := hw
                obtain ⟨v75, f76⟩ := u
                obtain ⟨kV_v75, kF_f76, hIv75, hk0_v75, hk1_v75, hk9_v75, hk10_v75, hk31_v75, hk32_v75, hw⟩ := hw
                have hM_v75 : KV [2, 3, 4, 5, 6, 7, 8, 9, 10, 11, 12, 13, 14, 15, 16, 17] v75 v := KV.tr kV_v75 hM_v (by decide +kernel)
                have hA_f76 : KF [1, 2, 3, 4, 7, 8] f76 f := KF.tr kF_f76 hA_f rfl
                have hP : va_P (dC, dI) vwCl (XW cy x0 x v75 f76) H := hP
                have hD : va_D A (XW cy x0 x v75 f76) := hD
                rcases hw with ⟨g77⟩ | ⟨g77⟩
                · skip
                  subst g77
                  refine lv_if_eq (tgt := 188) hx hb dX6_line_174 rfl (fun c0 => absurd c0 (by decide)) (fun _ => ?_)
                  refine lv_aload_n hx hb dX6_line_177 rfl (lv_at hl 0 rfl) ?_
                  refine csVi (n := 0) (rest := []) hx hb hml hown hts hE hP hD hS hA hF hT (sX_X6_closing_1 NF l dC dI cy x0 x  v75 f76 hIv75 ) k_720 k_722 k_11 k_103 k_723 hd_yX6_closing ⟨Nat.le_of_ble_eq_true rfl, Nat.le_of_ble_eq_true rfl⟩ 3 6 rfl rfl (rfl) hl.1 rfl (Nat.le_of_ble_eq_true rfl) dX6_line_178 (fun r78 u H locs hw hP hD hS => ?_)
                  obtain ⟨hG79, hw⟩ := hw
                  obtain ⟨v80, f81⟩ := u
                  obtain ⟨kV_v80, kF_f81, hIv80, hk0_v80, hk1_v80, hk9_v80, hk10_v80, hk31_v80, hk32_v80, hw⟩ := hw
                  have hM_v80 : KV [2, 3, 4, 5, 6, 7, 8, 9, 10, 11, 12, 13, 14, 15, 16, 17] v80 v := KV.tr kV_v80 hM_v75 (by decide +kernel)
                  have hA_f81 : KF [1, 2, 3, 4, 7, 8] f81 f := KF.tr kF_f81 hA_f76 rfl
                  have hP : va_P (dC, dI) vwCl (XW cy x0 x v80 f81) H := hP
                  have hD : va_D A (XW cy x0 x v80 f81) := hD
                  rcases hw with ⟨g82⟩ | ⟨g82⟩
                  · skip
                    subst g82
                    refine lv_if_eq (tgt := 188) hx hb dX6_line_181 rfl (fun c0 => absurd c0 (by decide)) (fun _ => ?_)
                    refine lv_iconst (v := 1) hx hb dX6_line_184 rfl ?_
                    refine lv_goto (tgt := 189) hx hb dX6_line_185 rfl ?_
                    exact ret 1 (v80, f81) _ _ _ _ _ _ rfl ⟨(gsX_X6_line_1_q19 c1 c12 c23 c39 c50 c61 c72 hG74 hG79), hM_v80, hA_f81, hIv80, (hk0_v80.trans hk0_v75), (hk1_v80.trans hk1_v75), (Or.inl rfl)⟩ hP hD hS dX6_line_189 (Nat.le_refl _) (Nat.le_refl _)
                  · skip
                    subst g82
                    refine lv_if_eq (tgt := 188) hx hb dX6_line_181 rfl (fun _ => ?_) (fun c0 => absurd (by decide) c0)
                    refine lv_iconst (v := 0) hx hb dX6_line_188 rfl ?_
                    exact ret 0 (v80, f81) _ _ _ _ _ _ rfl ⟨(gsX_X6_line_1_q20 c1 c12 c23 c39 c50 c61 c72 hG74 hG79), hM_v80, hA_f81, hIv80, (hk0_v80.trans hk0_v75), (hk1_v80.trans hk1_v75), (Or.inr rfl)⟩ hP hD hS dX6_line_189 (Nat.le_refl _) (Nat.le_refl _)
                · skip
                  subst g77
                  refine lv_if_eq (tgt := 188) hx hb dX6_line_174 rfl (fun _ => ?_) (fun c0 => absurd (by decide) c0)
                  refine lv_iconst (v := 0) hx hb dX6_line_188 rfl ?_
                  exact ret 0 (v75, f76) _ _ _ _ _ _ rfl ⟨(gsX_X6_line_1_q21 c1 c12 c23 c39 c50 c61 c72 hG74), hM_v75, hA_f76, hIv75, hk0_v75, hk1_v75, (Or.inr rfl)⟩ hP hD hS dX6_line_189 (Nat.le_refl _) (Nat.le_refl _)
              · skip
                have zc72 : ¬ ((v 2).toInt = 107) := zEn rfl tc_107 c72
                by_cases c83 : (v 2) = 108
                · skip
                  refine lv_tableIn (off := 116) (tgt := 123) hx hb dX6_line_7 (by rw [c83]; decide) (by rw [c83]; decide) (by rw [c83]; decide) (by decide) ?_
                  refine lv_aload_n hx hb dX6_line_123 rfl (lv_at hl 0 rfl) ?_
                  refine lv_sipush (v := 999) hx hb dX6_line_124 rfl ?_
                  refine csVi (n := 1) (rest := []) hx hb hml hown hts hE hP hD hS hA hF hT (sX_X6_settingLine_1 NF l dC dI cy x0 x 999 v f hIv ) k_759 k_761 k_18 k_103 k_762 hd_yX6_settingLine ⟨Nat.le_of_ble_eq_true rfl, Nat.le_of_ble_eq_true rfl⟩ 3 6 rfl rfl (rfl) hl.1 rfl (Nat.le_of_ble_eq_true rfl) dX6_line_127 (fun r84 u H locs hw hP hD hS => ?_)
                  obtain ⟨hG85, hw⟩ := hw
                  obtain ⟨v86, f87⟩ := u
                  obtain ⟨kV_v86, kF_f87, hIv86, hk0_v86, hk1_v86, hk9_v86, hk10_v86, hk31_v86, hk32_v86, hw⟩ := hw
                  have hM_v86 : KV [2, 3, 4, 5, 6, 7, 8, 9, 10, 11, 12, 13, 14, 15, 16, 17] v86 v := KV.tr kV_v86 hM_v (by decide +kernel)
                  have hA_f87 : KF [1, 2, 3, 4, 7, 8] f87 f := KF.tr kF_f87 hA_f rfl
                  have hP : va_P (dC, dI) vwCl (XW cy x0 x v86 f87) H := hP
                  have hD : va_D A (XW cy x0 x v86 f87) := hD
                  rcases hw with ⟨g88⟩ | ⟨g88⟩
                  · skip
                    subst g88
                    refine lv_if_eq (tgt := 144) hx hb dX6_line_130 rfl (fun c0 => absurd c0 (by decide)) (fun _ => ?_)
                    refine lv_aload_n hx hb dX6_line_133 rfl (lv_at hl 0 rfl) ?_
                    refine csVi (n := 0) (rest := []) hx hb hml hown hts hE hP hD hS hA hF hT (sX_X6_closing_1 NF l dC dI cy x0 x  v86 f87 hIv86 ) k_720 k_722 k_11 k_103 k_723 hd_yX6_closing ⟨Nat.le_of_ble_eq_true rfl, Nat.le_of_ble_eq_true rfl⟩ 3 6 rfl rfl (rfl) hl.1 rfl (Nat.le_of_ble_eq_true rfl) dX6_line_134 (fun r89 u H locs hw hP hD hS => ?_)
                    obtain ⟨hG90, hw⟩ := hw
                    obtain ⟨v91, f92⟩ := u
                    obtain ⟨kV_v91, kF_f92, hIv91, hk0_v91, hk1_v91, hk9_v91, hk10_v91, hk31_v91, hk32_v91, hw⟩ := hw
                    have hM_v91 : KV [2, 3, 4, 5, 6, 7, 8, 9, 10, 11, 12, 13, 14, 15, 16, 17] v91 v := KV.tr kV_v91 hM_v86 (by decide +kernel)
                    have hA_f92 : KF [1, 2, 3, 4, 7, 8] f92 f := KF.tr kF_f92 hA_f87 rfl
                    have hP : va_P (dC, dI) vwCl (XW cy x0 x v91 f92) H := hP
                    have hD : va_D A (XW cy x0 x v91 f92) := hD
                    rcases hw with ⟨g93⟩ | ⟨g93⟩
                    · skip
                      subst g93
                      refine lv_if_eq (tgt := 144) hx hb dX6_line_137 rfl (fun c0 => absurd c0 (by decide)) (fun _ => ?_)
                      refine lv_iconst (v := 1) hx hb dX6_line_140 rfl ?_
                      refine lv_goto (tgt := 145) hx hb dX6_line_141 rfl ?_
                      exact ret 1 (v91, f92) _ _ _ _ _ _ rfl ⟨(gsX_X6_line_1_q22 c1 c12 c23 c39 c50 c61 c72 c83 hG85 hG90), hM_v91, hA_f92, hIv91, (hk0_v91.trans hk0_v86), (hk1_v91.trans hk1_v86), (Or.inl rfl)⟩ hP hD hS dX6_line_145 (Nat.le_refl _) (Nat.le_refl _)
                    · skip
                      subst g93
                      refine lv_if_eq (tgt := 144) hx hb dX6_line_137 rfl (fun _ => ?_) (fun c0 => absurd (by decide) c0)
                      refine lv_iconst (v := 0) hx hb dX6_line_144 rfl ?_
                      exact ret 0 (v91, f92) _ _ _ _ _ _ rfl ⟨(gsX_X6_line_1_q23 c1 c12 c23 c39 c50 c61 c72 c83 hG85 hG90), hM_v91, hA_f92, hIv91, (hk0_v91.trans hk0_v86), (hk1_v91.trans hk1_v86), (Or.inr rfl)⟩ hP hD hS dX6_line_145 (Nat.le_refl _) (Nat.le_refl _)
                  · skip
                    subst g88
                    refine lv_if_eq (tgt := 144) hx hb dX6_line_130 rfl (fun _ => ?_) (fun c0 => absurd (by decide) c0)
                    refine lv_iconst (v := 0) hx hb dX6_line_144 rfl ?_
                    exact ret 0 (v86, f87) _ _ _ _ _ _ rfl ⟨(gsX_X6_line_1_q24 c1 c12 c23 c39 c50 c61 c72 c83 hG85), hM_v86, hA_f87, hIv86, hk0_v86, hk1_v86, (Or.inr rfl)⟩ hP hD hS dX6_line_145 (Nat.le_refl _) (Nat.le_refl _)
                · skip
                  have zc83 : ¬ ((v 2).toInt = 108) := zEn rfl tc_108 c83
                  refine lv_tableOut (tgt := 190) hx hb dX6_line_7 (by omega) (by decide) ?_
                  refine lv_aload_n hx hb dX6_line_190 rfl (lv_at hl 0 rfl) ?_
                  refine cbVi (n := 0) (rest := []) hx hb hml hown hts hE hP hD hS hA (sX_X6_refuse_1 NF l dC dI cy x0 x  v f hIv ) k_691 k_693 k_6 k_103 k_694 hd_yX6_refuse ⟨Nat.le_of_ble_eq_true rfl, Nat.le_of_ble_eq_true rfl⟩ 3 6 rfl rfl (rfl) hl.1 rfl (Nat.le_of_ble_eq_true rfl) dX6_line_191 (fun r94 u H locs hw hP hD hS => ?_)
                  obtain ⟨hG95, hw⟩ := hw
                  obtain ⟨v96, f97⟩ := u
                  obtain ⟨kV_v96, kF_f97, hIv96, hk0_v96, hk1_v96, hk9_v96, hk10_v96, hk31_v96, hk32_v96, hw⟩ := hw
                  have hM_v96 : KV [2, 3, 4, 5, 6, 7, 8, 9, 10, 11, 12, 13, 14, 15, 16, 17] v96 v := KV.tr kV_v96 hM_v (by decide +kernel)
                  have hA_f97 : KF [1, 2, 3, 4, 7, 8] f97 f := KF.tr kF_f97 hA_f rfl
                  have hP : va_P (dC, dI) vwCl (XW cy x0 x v96 f97) H := hP
                  have hD : va_D A (XW cy x0 x v96 f97) := hD
                  rcases hw with ⟨g98⟩ | ⟨g98⟩
                  · skip
                    subst g98
                    exact ret 1 (v96, f97) _ _ _ _ _ _ rfl ⟨(gsX_X6_line_1_q25 c1 c12 c23 c39 c50 c61 c72 c83 hG95), hM_v96, hA_f97, hIv96, hk0_v96, hk1_v96, (Or.inl rfl)⟩ hP hD hS dX6_line_194 (Nat.le_refl _) (Nat.le_refl _)
                  · skip
                    subst g98
                    exact ret 0 (v96, f97) _ _ _ _ _ _ rfl ⟨(gsX_X6_line_1_q26 c1 c12 c23 c39 c50 c61 c72 c83 hG95), hM_v96, hA_f97, hIv96, hk0_v96, hk1_v96, (Or.inr rfl)⟩ hP hD hS dX6_line_194 (Nat.le_refl _) (Nat.le_refl _)
set_option maxHeartbeats 4000000 in
set_option maxRecDepth 100000 in
theorem sX_X6_read_1 (NF : Nat) (l : Launch) (dC : Nat → ClassId) (dI : Nat → Nat → Nat) (cy : Nat → ClassId) (x0 : Nat) (x : Nat → Nat)  (v : Nat → Int32) (f : Nat → Nat → Int32) (hIv : XI v)  : ctIS l (dC, dI) cy yX6_read cX6_read 2 .boolean 64 1595 0 0 ((Nat → Int32) × (Nat → Nat → Int32)) [.ref (x 2)] (XW cy x0 x v f) (fun r u => gsX_X6_read_1 NF v f = (r, u) ∧ KV [2, 3, 4, 5, 6, 7, 8, 9, 10, 11, 12, 13, 14, 15, 16, 17] u.1 v ∧ KF [1, 2, 3, 4, 7, 8] u.2 f ∧ XI u.1 ∧ u.1 0 = v 0 ∧ u.1 1 = v 1 ∧ ((r = 1) ∨ (r = 0))) (fun u => XW cy x0 x u.1 u.2) := by
  refine ctIS_of (by decide) (Nat.le_of_ble_eq_true rfl) (fun p e s m below meth c A ls Q hx hb hml hts hown hE hF hT hP hD hA hl ret => ?_)
  have hM_v : KV [2, 3, 4, 5, 6, 7, 8, 9, 10, 11, 12, 13, 14, 15, 16, 17] v v := fun _ _ => rfl
  have hA_f : KF [1, 2, 3, 4, 7, 8] f f := fun _ _ => rfl
  have hown : s.vm.findClass RX6 = some m.cls := hown
  have hS : va_S A s.heap s.heap [] := va_S.rf
  have hl : lv_has ls 2 [(0, .ref (x 2))] := hl
  refine lv_aload_n hx hb dX6_read_0 rfl (lv_at hl 0 rfl) ?_
  refine va_get (D := (dC, dI)) (ci := 6) (v := .ref (x 3)) (C := RX6) (T := TX6) (N := 7) hx hb hts inB_6 hown hE.1 hP 3 rfl rfl 1 (Nat.le_of_ble_eq_true rfl) (hts _ k_266) (fun _ h9 => h9) rfl dX6_read_1 ?_
  refine cbVv (n := 0) (rest := []) hx hb hml hown hts hE hP hD hS hA (sX_X7_clear_1 NF l dC dI cy x0 x  v f hIv ) k_546 k_547 k_548 k_104 k_549 hd_yX7_clear ⟨Nat.le_of_ble_eq_true rfl, Nat.le_of_ble_eq_true rfl⟩ 4 7 rfl rfl (rfl) hl.1 rfl (Nat.le_of_ble_eq_true rfl) dX6_read_4 (fun u H locs hw hP hD hS => ?_)
  obtain ⟨hG1, hw⟩ := hw
  obtain ⟨v2, f3⟩ := u
  obtain ⟨kV_v2, kF_f3, hIv2, hk0_v2, hk1_v2, hk7_v2, hk8_v2⟩ := hw
  have hM_v2 : KV [2, 3, 4, 5, 6, 7, 8, 9, 10, 11, 12, 13, 14, 15, 16, 17] v2 v := KV.tr kV_v2 hM_v (by decide +kernel)
  have hA_f3 : KF [1, 2, 3, 4, 7, 8] f3 f := KF.tr kF_f3 hA_f rfl
  have hP : va_P (dC, dI) vwCl (XW cy x0 x v2 f3) H := hP
  have hD : va_D A (XW cy x0 x v2 f3) := hD
  have hq0_v2 : v2 0 = (v 0) := hk0_v2
  have hq1_v2 : v2 1 = (v 1) := hk1_v2
  refine lv_aload_n hx hb dX6_read_7 rfl (lv_at hl 0 rfl) ?_
  refine lv_iconst (v := 0) hx hb dX6_read_8 rfl ?_
  refine va_put (D := (dC, dI)) (ci := 6) (v := .int 0) (ty := tyX6 4) (C := RX6) (T := TX6) (N := 7) hx hb hts inB_6 tyX6 tyX6_ok nmX6 hown hE.1 hP hD hS 3 rfl rfl 4 (Nat.le_of_ble_eq_true rfl) (hts _ k_270) (fun _ h9 => h9) rfl (tyX6_ok 4 (Nat.le_of_ble_eq_true rfl)) rfl rfl (Nat.le_of_ble_eq_true rfl) dX6_read_9 (fun H locs hP hD hS => ?_)
  have hP : va_P (dC, dI) vwCl (XW cy x0 x (upd v2 6 0) f3) H := hP
  have hD : va_D A (XW cy x0 x (upd v2 6 0) f3) := hD
  refine lv_aload_n hx hb dX6_read_12 rfl (lv_at hl 0 rfl) ?_
  refine lv_iconst (v := 0) hx hb dX6_read_13 rfl ?_
  refine va_put (D := (dC, dI)) (ci := 6) (v := .int 0) (ty := tyX6 5) (C := RX6) (T := TX6) (N := 7) hx hb hts inB_6 tyX6 tyX6_ok nmX6 hown hE.1 hP hD hS 3 rfl rfl 5 (Nat.le_of_ble_eq_true rfl) (hts _ k_271) (fun _ h9 => h9) rfl (tyX6_ok 5 (Nat.le_of_ble_eq_true rfl)) rfl rfl (Nat.le_of_ble_eq_true rfl) dX6_read_14 (fun H locs hP hD hS => ?_)
  have hP : va_P (dC, dI) vwCl (XW cy x0 x (upd (upd v2 6 0) 7 0) f3) H := hP
  have hD : va_D A (XW cy x0 x (upd (upd v2 6 0) 7 0) f3) := hD
  refine lv_aload_n hx hb dX6_read_17 rfl (lv_at hl 0 rfl) ?_
  refine lv_iconst (v := (-1)) hx hb dX6_read_18 rfl ?_
  refine va_put (D := (dC, dI)) (ci := 6) (v := .int (-1)) (ty := tyX6 6) (C := RX6) (T := TX6) (N := 7) hx hb hts inB_6 tyX6 tyX6_ok nmX6 hown hE.1 hP hD hS 3 rfl rfl 6 (Nat.le_of_ble_eq_true rfl) (hts _ k_273) (fun _ h9 => h9) rfl (tyX6_ok 6 (Nat.le_of_ble_eq_true rfl)) rfl rfl (Nat.le_of_ble_eq_true rfl) dX6_read_19 (fun H locs hP hD hS => ?_)
  have hP : va_P (dC, dI) vwCl (XW cy x0 x (upd (upd (upd v2 6 0) 7 0) 8 (-1)) f3) H := hP
  have hD : va_D A (XW cy x0 x (upd (upd (upd v2 6 0) 7 0) 8 (-1)) f3) := hD
  refine lv_aload_n hx hb dX6_read_22 rfl (lv_at hl 0 rfl) ?_
  refine va_get (D := (dC, dI)) (ci := 6) (v := .ref (x 0)) (C := RX6) (T := TX6) (N := 7) hx hb hts inB_6 hown hE.1 hP 3 rfl rfl 0 (Nat.le_of_ble_eq_true rfl) (hts _ k_265) (fun _ h9 => h9) rfl dX6_read_23 ?_
  refine csVv (n := 0) (rest := []) hx hb hml hown hts hE hP hD hS hA hF hT (sX_X9_rewind_1 NF l dC dI cy x0 x  (upd (upd (upd v2 6 0) 7 0) 8 (-1)) f3 (Xu_8 (x := (-1)) (Xu_7 (x := 0) (Xu_6 (x := 0) hIv2 (rlo _) (rhi _)) (rlo _) (rhi _)) (rlo _) (rhi _)) ) k_554 k_555 k_556 k_102 k_557 hd_yX9_rewind ⟨Nat.le_of_ble_eq_true rfl, Nat.le_of_ble_eq_true rfl⟩ 1 9 rfl rfl (rfl) hl.1 rfl (Nat.le_of_ble_eq_true rfl) dX6_read_26 (fun u H locs hw hP hD hS => ?_)
  obtain ⟨hG4, hw⟩ := hw
  obtain ⟨v5, f6⟩ := u
  obtain ⟨kV_v5, kF_f6, hIv5, hk0_v5, hk1_v5, hk7_v5, hk8_v5, hk9_v5, hk10_v5, hk31_v5, hk32_v5⟩ := hw
  have hM_v5 : KV [2, 3, 4, 5, 6, 7, 8, 9, 10, 11, 12, 13, 14, 15, 16, 17] v5 v := KV.tr kV_v5 (KV.up (j := 8) (x := (-1)) (KV.up (j := 7) (x := 0) (KV.up (j := 6) (x := 0) hM_v2 (by decide +kernel)) (by decide +kernel)) (by decide +kernel)) (by decide +kernel)
  have hA_f6 : KF [1, 2, 3, 4, 7, 8] f6 f := KF.tr kF_f6 hA_f3 rfl
  have hP : va_P (dC, dI) vwCl (XW cy x0 x v5 f6) H := hP
  have hD : va_D A (XW cy x0 x v5 f6) := hD
  have hq0_v5 : v5 0 = (v 0) := hk0_v5.trans hq0_v2
  have hq1_v5 : v5 1 = (v 1) := hk1_v5.trans hq1_v2
  refine lv_iconst (v := 0) hx hb dX6_read_29 rfl ?_
  refine lv_istore_n (lv' := [(1, .int 0), (0, .ref (x 2))]) hx hb dX6_read_30 rfl hl (Nat.le_of_ble_eq_true rfl) rfl (fun ls hl => ?_)
  have lp7 : ∀ (n7 : Nat) (l1_7 : Int32) (v7 : Nat → Int32) (f7 : Nat → Nat → Int32), XI v7 → v7 0 = (v 0) → v7 1 = (v 1) → gsX_X6_read_1_L7 NF n7 l1_7 v7 f7 = (gsX_X6_read_1 NF v f) → ((0 : Int) ≤ l1_7.toInt ∧ l1_7.toInt ≤ 2147483647) → KV [2, 3, 4, 5, 6, 7, 8, 9, 10, 11, 12, 13, 14, 15, 16, 17] v7 v → KF [1, 2, 3, 4, 7, 8] f7 f → (2147483647 - l1_7.toInt).toNat < n7 → ∀ (H : Heap) (locs : List Loc) (ls : Array Slot), va_P (dC, dI) vwCl (XW cy x0 x v7 f7) H → va_D A (XW cy x0 x v7 f7) → va_S A s.heap H locs → lv_has ls 2 [(1, .int l1_7), (0, .ref (x 2))] → W p l e { frames := 64, cells := 0, slots := 0, locals := 1595 } s m ([.ref (x 2)] : List Value).toArray below meth c H locs 0 0 Q (F0 m 31 ls []) := by
    intro n7
    induction n7 with
    | zero => intro l1_7 v7 f7 hIv7 hq0_v7 hq1_v7 hT7 hr1_7 hM_v7 hA_f7 hm; exact absurd hm (Nat.not_lt_zero _)
    | succ n7 ih7 =>
      intro l1_7 v7 f7 hIv7 hq0_v7 hq1_v7 hT7 hr1_7 hM_v7 hA_f7 hm7 H locs ls hP hD hS hl
      refine lv_iload_n hx hb dX6_read_31 rfl (lv_at hl 0 rfl) ?_
      refine lv_sipush (v := 1600) hx hb dX6_read_32 rfl ?_
      refine lv_icmp_ge (tgt := 63) hx hb dX6_read_35 rfl (fun c8 => ?_) (fun c8 => ?_)
      · skip
        refine lv_iconst (v := 1) hx hb dX6_read_63 rfl ?_
        exact ret 1 (v7, f7) _ _ _ _ _ _ rfl ⟨(hT7.symm.trans (gsX_X6_read_1_q0 c8)), hM_v7, hA_f7, hIv7, hq0_v7, hq1_v7, (Or.inl rfl)⟩ hP hD hS dX6_read_64 (Nat.le_refl _) (Nat.le_refl _)
      · skip
        have zc8 : ¬ (1600 ≤ l1_7.toInt) := zMn tc_1600 rfl c8
        refine lv_aload_n hx hb dX6_read_38 rfl (lv_at hl 1 rfl) ?_
        refine va_get (D := (dC, dI)) (ci := 6) (v := .ref (x 0)) (C := RX6) (T := TX6) (N := 7) hx hb hts inB_6 hown hE.1 hP 3 rfl rfl 0 (Nat.le_of_ble_eq_true rfl) (hts _ k_265) (fun _ h9 => h9) rfl dX6_read_39 ?_
        refine va_getN (D := (dC, dI)) (ci := 9) (v := .int (v7 2)) (C := RX9) (T := TX9) (N := 6) hx hb hts inB_9 hown hE.1 hP 1 rfl rfl 2 (Nat.le_of_ble_eq_true rfl) (va_Nw.use rfl (hE.2 _ k_139)) (fun _ h9 => h9) rfl dX6_read_42 ?_
        refine lv_if_eq (tgt := 63) hx hb dX6_read_45 rfl (fun c9 => ?_) (fun c9 => ?_)
        · skip
          refine lv_iconst (v := 1) hx hb dX6_read_63 rfl ?_
          exact ret 1 (v7, f7) _ _ _ _ _ _ rfl ⟨(hT7.symm.trans (gsX_X6_read_1_q1 c8 c9)), hM_v7, hA_f7, hIv7, hq0_v7, hq1_v7, (Or.inl rfl)⟩ hP hD hS dX6_read_64 (Nat.le_refl _) (Nat.le_refl _)
        · skip
          refine lv_aload_n hx hb dX6_read_48 rfl (lv_at hl 1 rfl) ?_
          refine csVi (n := 0) (rest := []) hx hb hml hown hts hE hP hD hS hA hF hT (sX_X6_line_1 NF l dC dI cy x0 x  v7 f7 hIv7 ) k_683 k_685 k_4 k_103 k_686 hd_yX6_line ⟨Nat.le_of_ble_eq_true rfl, Nat.le_of_ble_eq_true rfl⟩ 3 6 rfl rfl (rfl) hl.1 rfl (Nat.le_of_ble_eq_true rfl) dX6_read_49 (fun r10 u H locs hw hP hD hS => ?_)
          obtain ⟨hG11, hw⟩ := hw
          obtain ⟨v12, f13⟩ := u
          obtain ⟨kV_v12, kF_f13, hIv12, hk0_v12, hk1_v12, hw⟩ := hw
          have hM_v12 : KV [2, 3, 4, 5, 6, 7, 8, 9, 10, 11, 12, 13, 14, 15, 16, 17] v12 v := KV.tr kV_v12 hM_v7 (by decide +kernel)
          have hA_f13 : KF [1, 2, 3, 4, 7, 8] f13 f := KF.tr kF_f13 hA_f7 rfl
          have hP : va_P (dC, dI) vwCl (XW cy x0 x v12 f13) H := hP
          have hD : va_D A (XW cy x0 x v12 f13) := hD
          have hq0_v12 : v12 0 = (v 0) := hk0_v12.trans hq0_v7
          have hq1_v12 : v12 1 = (v 1) := hk1_v12.trans hq1_v7
          rcases hw with ⟨g14⟩ | ⟨g14⟩
          · skip
            subst g14
            refine lv_if_ne (tgt := 57) hx hb dX6_read_52 rfl (fun _ => ?_) (fun c0 => absurd c0 (by decide))
            obtain ⟨t15, et15⟩ : ∃ y : Int32, y = l1_7 + 1 := ⟨_, rfl⟩
            have zt15 : t15.toInt = l1_7.toInt + 1 := (congrArg Int32.toInt et15).trans (add_i rfl tc_1 (om_41 hr1_7) (om_5 zc8))
            refine lv_iinc (v := t15) (lv' := [(1, .int t15), (0, .ref (x 2))]) hx hb dX6_read_57 hl (k := 0) rfl et15.symm (Nat.le_of_ble_eq_true rfl) rfl (fun ls hl => ?_)
            refine lv_goto (tgt := 31) hx hb dX6_read_60 rfl ?_
            have rg17 := fb_rng t15
            exact ih7 t15 v12 f13 hIv12 hq0_v12 hq1_v12 ((gsX_X6_read_1_q2 c8 c9 hG11 et15).symm.trans hT7) ⟨show (0 : Int) ≤ t15.toInt from om_43 hr1_7 zt15, show t15.toInt ≤ (2147483647 : Int) from om_44 rg17⟩ hM_v12 hA_f13 (show (2147483647 - t15.toInt).toNat < n7 from om_33 hm7 zt15 rg17) _ _ _ hP hD hS (lv_sub hl [0, 1] rfl)
          · skip
            subst g14
            refine lv_if_ne (tgt := 57) hx hb dX6_read_52 rfl (fun c0 => absurd (by decide) c0) (fun _ => ?_)
            refine lv_iconst (v := 0) hx hb dX6_read_55 rfl ?_
            exact ret 0 (v12, f13) _ _ _ _ _ _ rfl ⟨(hT7.symm.trans (gsX_X6_read_1_q3 c8 c9 hG11)), hM_v12, hA_f13, hIv12, (hk0_v12.trans hq0_v7), (hk1_v12.trans hq1_v7), (Or.inr rfl)⟩ hP hD hS dX6_read_56 (Nat.le_refl _) (Nat.le_refl _)
  exact lp7 (4294967296 + NF) 0 v5 f6 hIv5 hq0_v5 hq1_v5 (gsX_X6_read_1_q4 hG1 hG4).symm ⟨by decide, by decide⟩ hM_v5 hA_f6 (show (2147483647 - (0 : Int32).toInt).toNat < 4294967296 + NF from om_38 tc_0) _ _ _ hP hD hS (lv_sub hl [0, 1] rfl)
set_option maxHeartbeats 4000000 in
set_option maxRecDepth 100000 in
theorem sX_X4_copy_1 (NF : Nat) (l : Launch) (dC : Nat → ClassId) (dI : Nat → Nat → Nat) (cy : Nat → ClassId) (x0 : Nat) (x : Nat → Nat)  (v : Nat → Int32) (f : Nat → Nat → Int32) (hIv : XI v)  : ctV l (dC, dI) cy yX4_copy cX4_copy 2 1 100 0 0 ((Nat → Int32) × (Nat → Nat → Int32)) [.ref (x 15), .ref (x 6)] (XW cy x0 x v f) (fun u => gsX_X4_copy_1 NF v f = u ∧ KV [18, 19] u.1 v ∧ KF [11, 12] u.2 f ∧ XI u.1 ∧ u.1 0 = v 0 ∧ u.1 1 = v 1 ∧ u.1 7 = v 7 ∧ u.1 8 = v 8 ∧ u.1 9 = v 9 ∧ u.1 10 = v 10 ∧ u.1 31 = v 31 ∧ u.1 32 = v 32) (fun u => XW cy x0 x u.1 u.2) := by
  refine ctV_of (by decide) (Nat.le_of_ble_eq_true rfl) (fun p e s m below meth c A ls Q hx hb hml hts hown hnm hE hP hD hA hl ret => ?_)
  have hM_v : KV [18, 19] v v := fun _ _ => rfl
  have hA_f : KF [11, 12] f f := fun _ _ => rfl
  have hown : s.vm.findClass RX4 = some m.cls := hown
  have hS : va_S A s.heap s.heap [] := va_S.rf
  have hl : lv_has ls 2 [(0, .ref (x 15)), (1, .ref (x 6))] := hl
  refine lv_aload_n hx hb dX4_copy_0 rfl (lv_at hl 1 rfl) ?_
  refine va_get (D := (dC, dI)) (ci := 4) (v := .ref (x 7)) (C := RX4) (T := TX4) (N := 6) hx hb hts inB_4 hown hE.1 hP 7 rfl rfl 0 (Nat.le_of_ble_eq_true rfl) (hts _ k_178) (fun _ h9 => h9) rfl dX4_copy_1 ?_
  refine lv_iconst (v := 0) hx hb dX4_copy_4 rfl ?_
  refine lv_aload_n hx hb dX4_copy_5 rfl (lv_at hl 0 rfl) ?_
  refine va_get (D := (dC, dI)) (ci := 4) (v := .ref (x 16)) (C := RX4) (T := TX4) (N := 6) hx hb hts inB_4 hown hE.1 hP 16 rfl rfl 0 (Nat.le_of_ble_eq_true rfl) (hts _ k_178) (fun _ h9 => h9) rfl dX4_copy_6 ?_
  refine lv_iconst (v := 0) hx hb dX4_copy_9 rfl ?_
  refine lv_sipush (v := 300) hx hb dX4_copy_10 rfl ?_
  refine cpE (zs := 0) (zd := 0) (zn := 300) hx hb (by rw [hml]; exact hl.1.symm) hown (hts _ k_776) (hts _ k_337) (hts _ k_336) (hts _ k_108) hE hP hD hS 8 17 rfl rfl (by decide) (by decide) (by decide) (by omega) (by omega) (by omega) (by omega) (by omega) (Nat.le_of_ble_eq_true rfl) (Nat.le_of_ble_eq_true rfl) dX4_copy_13 (fun H locs hP hD hS => ?_)
  obtain ⟨f1, ef1, hP, hD⟩ : ∃ fz9, fz9 = upd2 f 11 (va_cpy (f 3) (f 11) (0 : Int32).toNatClampNeg (0 : Int32).toNatClampNeg (300 : Int32).toNatClampNeg) ∧ va_P (dC, dI) vwCl (XW cy x0 x v fz9) H ∧ va_D A (XW cy x0 x v fz9) := ⟨_, rfl, hP, hD⟩
  have hA_f1 : KF [11, 12] f1 f := by rw [ef1]; exact KF.up hA_f rfl
  refine lv_aload_n hx hb dX4_copy_16 rfl (lv_at hl 1 rfl) ?_
  refine va_get (D := (dC, dI)) (ci := 4) (v := .ref (x 8)) (C := RX4) (T := TX4) (N := 6) hx hb hts inB_4 hown hE.1 hP 7 rfl rfl 1 (Nat.le_of_ble_eq_true rfl) (hts _ k_179) (fun _ h9 => h9) rfl dX4_copy_17 ?_
  refine lv_iconst (v := 0) hx hb dX4_copy_20 rfl ?_
  refine lv_aload_n hx hb dX4_copy_21 rfl (lv_at hl 0 rfl) ?_
  refine va_get (D := (dC, dI)) (ci := 4) (v := .ref (x 17)) (C := RX4) (T := TX4) (N := 6) hx hb hts inB_4 hown hE.1 hP 16 rfl rfl 1 (Nat.le_of_ble_eq_true rfl) (hts _ k_179) (fun _ h9 => h9) rfl dX4_copy_22 ?_
  refine lv_iconst (v := 0) hx hb dX4_copy_25 rfl ?_
  refine lv_sipush (v := 300) hx hb dX4_copy_26 rfl ?_
  refine cpE (zs := 0) (zd := 0) (zn := 300) hx hb (by rw [hml]; exact hl.1.symm) hown (hts _ k_776) (hts _ k_337) (hts _ k_336) (hts _ k_108) hE hP hD hS 9 18 rfl rfl (by decide) (by decide) (by decide) (by omega) (by omega) (by omega) (by omega) (by omega) (Nat.le_of_ble_eq_true rfl) (Nat.le_of_ble_eq_true rfl) dX4_copy_29 (fun H locs hP hD hS => ?_)
  obtain ⟨f2, ef2, hP, hD⟩ : ∃ fz9, fz9 = upd2 f1 12 (va_cpy (f1 4) (f1 12) (0 : Int32).toNatClampNeg (0 : Int32).toNatClampNeg (300 : Int32).toNatClampNeg) ∧ va_P (dC, dI) vwCl (XW cy x0 x v fz9) H ∧ va_D A (XW cy x0 x v fz9) := ⟨_, rfl, hP, hD⟩
  have hA_f2 : KF [11, 12] f2 f := by rw [ef2]; exact KF.up hA_f1 rfl
  refine lv_aload_n hx hb dX4_copy_32 rfl (lv_at hl 0 rfl) ?_
  refine lv_aload_n hx hb dX4_copy_33 rfl (lv_at hl 1 rfl) ?_
  refine va_get (D := (dC, dI)) (ci := 4) (v := .int (v 16)) (C := RX4) (T := TX4) (N := 6) hx hb hts inB_4 hown hE.1 hP 7 rfl rfl 4 (Nat.le_of_ble_eq_true rfl) (hts _ k_182) (fun _ h9 => h9) rfl dX4_copy_34 ?_
  have b16_v : 0 ≤ (v 16).toInt ∧ (v 16).toInt ≤ 300 := Xb_16 hIv
  refine va_put (D := (dC, dI)) (ci := 4) (v := .int (v 16)) (ty := tyX4 4) (C := RX4) (T := TX4) (N := 6) hx hb hts inB_4 tyX4 tyX4_ok nmX4 hown hE.1 hP hD hS 16 rfl rfl 4 (Nat.le_of_ble_eq_true rfl) (hts _ k_182) (fun _ h9 => h9) rfl (tyX4_ok 4 (Nat.le_of_ble_eq_true rfl)) rfl rfl (Nat.le_of_ble_eq_true rfl) dX4_copy_37 (fun H locs hP hD hS => ?_)
  have hP : va_P (dC, dI) vwCl (XW cy x0 x (upd v 18 (v 16)) f2) H := hP
  have hD : va_D A (XW cy x0 x (upd v 18 (v 16)) f2) := hD
  refine lv_aload_n hx hb dX4_copy_40 rfl (lv_at hl 0 rfl) ?_
  refine lv_aload_n hx hb dX4_copy_41 rfl (lv_at hl 1 rfl) ?_
  refine va_get (D := (dC, dI)) (ci := 4) (v := .int (v 17)) (C := RX4) (T := TX4) (N := 6) hx hb hts inB_4 hown hE.1 hP 7 rfl rfl 5 (Nat.le_of_ble_eq_true rfl) (hts _ k_183) (fun _ h9 => h9) rfl dX4_copy_42 ?_
  refine va_put (D := (dC, dI)) (ci := 4) (v := .int (v 17)) (ty := tyX4 5) (C := RX4) (T := TX4) (N := 6) hx hb hts inB_4 tyX4 tyX4_ok nmX4 hown hE.1 hP hD hS 16 rfl rfl 5 (Nat.le_of_ble_eq_true rfl) (hts _ k_183) (fun _ h9 => h9) rfl (tyX4_ok 5 (Nat.le_of_ble_eq_true rfl)) rfl rfl (Nat.le_of_ble_eq_true rfl) dX4_copy_45 (fun H locs hP hD hS => ?_)
  have hP : va_P (dC, dI) vwCl (XW cy x0 x (upd (upd v 18 (v 16)) 19 (v 17)) f2) H := hP
  have hD : va_D A (XW cy x0 x (upd (upd v 18 (v 16)) 19 (v 17)) f2) := hD
  exact ret ((upd (upd v 18 (v 16)) 19 (v 17)), f2) _ _ _ _ _ _ ⟨(gsX_X4_copy_1_q0 ef1 ef2), (KV.up (j := 19) (x := (v 17)) (KV.up (j := 18) (x := (v 16)) hM_v rfl) rfl), hA_f2, (Xu_19 (x := (v 17)) (Xu_18 (x := (v 16)) hIv (show (0 : Int) ≤ (v 16).toInt from om_88 b16_v) (show (v 16).toInt ≤ (300 : Int) from om_97 b16_v)) (rlo _) (rhi _)), rfl, rfl, rfl, rfl, rfl, rfl, rfl, rfl⟩ hP hD hS dX4_copy_48 (Nat.le_refl _) (Nat.le_refl _)
set_option maxHeartbeats 4000000 in
set_option maxRecDepth 100000 in
theorem sX_X7_copy_1 (NF : Nat) (l : Launch) (dC : Nat → ClassId) (dI : Nat → Nat → Nat) (cy : Nat → ClassId) (x0 : Nat) (x : Nat → Nat)  (v : Nat → Int32) (f : Nat → Nat → Int32) (hIv : XI v)  : ctV l (dC, dI) cy yX7_copy cX7_copy 2 2 121 0 0 ((Nat → Int32) × (Nat → Nat → Int32)) [.ref (x 26), .ref (x 3)] (XW cy x0 x v f) (fun u => gsX_X7_copy_1 NF v f = u ∧ KV [18, 19, 31, 32, 33, 34, 35, 36, 37] u.1 v ∧ KF [9, 10, 11, 12] u.2 f ∧ XI u.1 ∧ u.1 0 = v 0 ∧ u.1 1 = v 1 ∧ u.1 7 = v 7 ∧ u.1 8 = v 8) (fun u => XW cy x0 x u.1 u.2) := by
  refine ctV_of (by decide) (Nat.le_of_ble_eq_true rfl) (fun p e s m below meth c A ls Q hx hb hml hts hown hnm hE hP hD hA hl ret => ?_)
  have hM_v : KV [18, 19, 31, 32, 33, 34, 35, 36, 37] v v := fun _ _ => rfl
  have hA_f : KF [9, 10, 11, 12] f f := fun _ _ => rfl
  have hown : s.vm.findClass RX7 = some m.cls := hown
  have hS : va_S A s.heap s.heap [] := va_S.rf
  have hl : lv_has ls 2 [(0, .ref (x 26)), (1, .ref (x 3))] := hl
  refine lv_aload_n hx hb dX7_copy_0 rfl (lv_at hl 1 rfl) ?_
  refine va_get (D := (dC, dI)) (ci := 7) (v := .ref (x 4)) (C := RX7) (T := TX7) (N := 10) hx hb hts inB_7 hown hE.1 hP 4 rfl rfl 0 (Nat.le_of_ble_eq_true rfl) (hts _ k_204) (fun _ h9 => h9) rfl dX7_copy_1 ?_
  refine lv_iconst (v := 0) hx hb dX7_copy_4 rfl ?_
  refine lv_aload_n hx hb dX7_copy_5 rfl (lv_at hl 0 rfl) ?_
  refine va_get (D := (dC, dI)) (ci := 7) (v := .ref (x 13)) (C := RX7) (T := TX7) (N := 10) hx hb hts inB_7 hown hE.1 hP 27 rfl rfl 0 (Nat.le_of_ble_eq_true rfl) (hts _ k_204) (fun _ h9 => h9) rfl dX7_copy_6 ?_
  refine lv_iconst (v := 0) hx hb dX7_copy_9 rfl ?_
  refine lv_aload_n hx hb dX7_copy_10 rfl (lv_at hl 0 rfl) ?_
  refine va_get (D := (dC, dI)) (ci := 7) (v := .ref (x 13)) (C := RX7) (T := TX7) (N := 10) hx hb hts inB_7 hown hE.1 hP 27 rfl rfl 0 (Nat.le_of_ble_eq_true rfl) (hts _ k_204) (fun _ h9 => h9) rfl dX7_copy_11 ?_
  refine va_alen (v := 18) hx hb hE.1 hP 14 1 rfl rfl rfl dX7_copy_14 ?_
  refine cpE (zs := 0) (zd := 0) (zn := 18) hx hb (by rw [hml]; exact hl.1.symm) hown (hts _ k_771) (hts _ k_337) (hts _ k_336) (hts _ k_108) hE hP hD hS 5 14 rfl rfl (by decide) (by decide) (by decide) (by omega) (by omega) (by omega) (by omega) (by omega) (Nat.le_of_ble_eq_true rfl) (Nat.le_of_ble_eq_true rfl) dX7_copy_15 (fun H locs hP hD hS => ?_)
  obtain ⟨f1, ef1, hP, hD⟩ : ∃ fz9, fz9 = upd2 f 9 (va_cpy (f 1) (f 9) (0 : Int32).toNatClampNeg (0 : Int32).toNatClampNeg (18 : Int32).toNatClampNeg) ∧ va_P (dC, dI) vwCl (XW cy x0 x v fz9) H ∧ va_D A (XW cy x0 x v fz9) := ⟨_, rfl, hP, hD⟩
  have hA_f1 : KF [9, 10, 11, 12] f1 f := by rw [ef1]; exact KF.up hA_f rfl
  refine lv_aload_n hx hb dX7_copy_18 rfl (lv_at hl 1 rfl) ?_
  refine va_get (D := (dC, dI)) (ci := 7) (v := .ref (x 5)) (C := RX7) (T := TX7) (N := 10) hx hb hts inB_7 hown hE.1 hP 4 rfl rfl 1 (Nat.le_of_ble_eq_true rfl) (hts _ k_205) (fun _ h9 => h9) rfl dX7_copy_19 ?_
  refine lv_iconst (v := 0) hx hb dX7_copy_22 rfl ?_
  refine lv_aload_n hx hb dX7_copy_23 rfl (lv_at hl 0 rfl) ?_
  refine va_get (D := (dC, dI)) (ci := 7) (v := .ref (x 14)) (C := RX7) (T := TX7) (N := 10) hx hb hts inB_7 hown hE.1 hP 27 rfl rfl 1 (Nat.le_of_ble_eq_true rfl) (hts _ k_205) (fun _ h9 => h9) rfl dX7_copy_24 ?_
  refine lv_iconst (v := 0) hx hb dX7_copy_27 rfl ?_
  refine lv_aload_n hx hb dX7_copy_28 rfl (lv_at hl 0 rfl) ?_
  refine va_get (D := (dC, dI)) (ci := 7) (v := .ref (x 14)) (C := RX7) (T := TX7) (N := 10) hx hb hts inB_7 hown hE.1 hP 27 rfl rfl 1 (Nat.le_of_ble_eq_true rfl) (hts _ k_205) (fun _ h9 => h9) rfl dX7_copy_29 ?_
  refine va_alen (v := 24) hx hb hE.1 hP 15 1 rfl rfl rfl dX7_copy_32 ?_
  refine cpE (zs := 0) (zd := 0) (zn := 24) hx hb (by rw [hml]; exact hl.1.symm) hown (hts _ k_771) (hts _ k_337) (hts _ k_336) (hts _ k_108) hE hP hD hS 6 15 rfl rfl (by decide) (by decide) (by decide) (by omega) (by omega) (by omega) (by omega) (by omega) (Nat.le_of_ble_eq_true rfl) (Nat.le_of_ble_eq_true rfl) dX7_copy_33 (fun H locs hP hD hS => ?_)
  obtain ⟨f2, ef2, hP, hD⟩ : ∃ fz9, fz9 = upd2 f1 10 (va_cpy (f1 2) (f1 10) (0 : Int32).toNatClampNeg (0 : Int32).toNatClampNeg (24 : Int32).toNatClampNeg) ∧ va_P (dC, dI) vwCl (XW cy x0 x v fz9) H ∧ va_D A (XW cy x0 x v fz9) := ⟨_, rfl, hP, hD⟩
  have hA_f2 : KF [9, 10, 11, 12] f2 f := by rw [ef2]; exact KF.up hA_f1 rfl
  refine lv_aload_n hx hb dX7_copy_36 rfl (lv_at hl 0 rfl) ?_
  refine va_get (D := (dC, dI)) (ci := 7) (v := .ref (x 15)) (C := RX7) (T := TX7) (N := 10) hx hb hts inB_7 hown hE.1 hP 27 rfl rfl 2 (Nat.le_of_ble_eq_true rfl) (hts _ k_206) (fun _ h9 => h9) rfl dX7_copy_37 ?_
  refine lv_aload_n hx hb dX7_copy_40 rfl (lv_at hl 1 rfl) ?_
  refine va_get (D := (dC, dI)) (ci := 7) (v := .ref (x 6)) (C := RX7) (T := TX7) (N := 10) hx hb hts inB_7 hown hE.1 hP 4 rfl rfl 2 (Nat.le_of_ble_eq_true rfl) (hts _ k_206) (fun _ h9 => h9) rfl dX7_copy_41 ?_
  refine cbVv (n := 1) (rest := []) hx hb hml hown hts hE hP hD hS hA (sX_X4_copy_1 NF l dC dI cy x0 x  v f2 hIv ) k_772 k_773 k_774 k_105 k_775 hd_yX4_copy ⟨Nat.le_of_ble_eq_true rfl, Nat.le_of_ble_eq_true rfl⟩ 16 4 rfl rfl (rfl) hl.1 rfl (Nat.le_of_ble_eq_true rfl) dX7_copy_44 (fun u H locs hw hP hD hS => ?_)
  obtain ⟨hG3, hw⟩ := hw
  obtain ⟨v4, f5⟩ := u
  obtain ⟨kV_v4, kF_f5, hIv4, hk0_v4, hk1_v4, hk7_v4, hk8_v4, hk9_v4, hk10_v4, hk31_v4, hk32_v4⟩ := hw
  have hM_v4 : KV [18, 19, 31, 32, 33, 34, 35, 36, 37] v4 v := KV.tr kV_v4 hM_v rfl
  have hA_f5 : KF [9, 10, 11, 12] f5 f := KF.tr kF_f5 hA_f2 rfl
  have hP : va_P (dC, dI) vwCl (XW cy x0 x v4 f5) H := hP
  have hD : va_D A (XW cy x0 x v4 f5) := hD
  have hq9_v4 : v4 9 = (v 9) := hk9_v4
  have hq10_v4 : v4 10 = (v 10) := hk10_v4
  refine lv_aload_n hx hb dX7_copy_47 rfl (lv_at hl 0 rfl) ?_
  refine lv_aload_n hx hb dX7_copy_48 rfl (lv_at hl 1 rfl) ?_
  refine va_get (D := (dC, dI)) (ci := 7) (v := .int (v4 9)) (C := RX7) (T := TX7) (N := 10) hx hb hts inB_7 hown hE.1 hP 4 rfl rfl 3 (Nat.le_of_ble_eq_true rfl) (hts _ k_212) (fun _ h9 => h9) rfl dX7_copy_49 ?_
  refine tI (y := (v 9)) hq9_v4 ?_
  have b9_v : 0 ≤ (v 9).toInt ∧ (v 9).toInt ≤ 6 := Xb_9 hIv
  refine va_put (D := (dC, dI)) (ci := 7) (v := .int (v 9)) (ty := tyX7 3) (C := RX7) (T := TX7) (N := 10) hx hb hts inB_7 tyX7 tyX7_ok nmX7 hown hE.1 hP hD hS 27 rfl rfl 3 (Nat.le_of_ble_eq_true rfl) (hts _ k_212) (fun _ h9 => h9) rfl (tyX7_ok 3 (Nat.le_of_ble_eq_true rfl)) rfl rfl (Nat.le_of_ble_eq_true rfl) dX7_copy_52 (fun H locs hP hD hS => ?_)
  have hP : va_P (dC, dI) vwCl (XW cy x0 x (upd v4 31 (v 9)) f5) H := hP
  have hD : va_D A (XW cy x0 x (upd v4 31 (v 9)) f5) := hD
  refine lv_aload_n hx hb dX7_copy_55 rfl (lv_at hl 0 rfl) ?_
  refine lv_aload_n hx hb dX7_copy_56 rfl (lv_at hl 1 rfl) ?_
  refine va_get (D := (dC, dI)) (ci := 7) (v := .int (v4 10)) (C := RX7) (T := TX7) (N := 10) hx hb hts inB_7 hown hE.1 hP 4 rfl rfl 4 (Nat.le_of_ble_eq_true rfl) (hts _ k_220) (fun _ h9 => h9) rfl dX7_copy_57 ?_
  refine tI (y := (v 10)) hq10_v4 ?_
  have b10_v : 0 ≤ (v 10).toInt ∧ (v 10).toInt ≤ 6 := Xb_10 hIv
  refine va_put (D := (dC, dI)) (ci := 7) (v := .int (v 10)) (ty := tyX7 4) (C := RX7) (T := TX7) (N := 10) hx hb hts inB_7 tyX7 tyX7_ok nmX7 hown hE.1 hP hD hS 27 rfl rfl 4 (Nat.le_of_ble_eq_true rfl) (hts _ k_220) (fun _ h9 => h9) rfl (tyX7_ok 4 (Nat.le_of_ble_eq_true rfl)) rfl rfl (Nat.le_of_ble_eq_true rfl) dX7_copy_60 (fun H locs hP hD hS => ?_)
  have hP : va_P (dC, dI) vwCl (XW cy x0 x (upd (upd v4 31 (v 9)) 32 (v 10)) f5) H := hP
  have hD : va_D A (XW cy x0 x (upd (upd v4 31 (v 9)) 32 (v 10)) f5) := hD
  refine lv_aload_n hx hb dX7_copy_63 rfl (lv_at hl 0 rfl) ?_
  refine lv_aload_n hx hb dX7_copy_64 rfl (lv_at hl 1 rfl) ?_
  refine va_get (D := (dC, dI)) (ci := 7) (v := .int (v4 11)) (C := RX7) (T := TX7) (N := 10) hx hb hts inB_7 hown hE.1 hP 4 rfl rfl 5 (Nat.le_of_ble_eq_true rfl) (hts _ k_228) (fun _ h9 => h9) rfl dX7_copy_65 ?_
  refine va_put (D := (dC, dI)) (ci := 7) (v := .int (v4 11)) (ty := tyX7 5) (C := RX7) (T := TX7) (N := 10) hx hb hts inB_7 tyX7 tyX7_ok nmX7 hown hE.1 hP hD hS 27 rfl rfl 5 (Nat.le_of_ble_eq_true rfl) (hts _ k_228) (fun _ h9 => h9) rfl (tyX7_ok 5 (Nat.le_of_ble_eq_true rfl)) rfl rfl (Nat.le_of_ble_eq_true rfl) dX7_copy_68 (fun H locs hP hD hS => ?_)
  have hP : va_P (dC, dI) vwCl (XW cy x0 x (upd (upd (upd v4 31 (v 9)) 32 (v 10)) 33 (v4 11)) f5) H := hP
  have hD : va_D A (XW cy x0 x (upd (upd (upd v4 31 (v 9)) 32 (v 10)) 33 (v4 11)) f5) := hD
  refine lv_aload_n hx hb dX7_copy_71 rfl (lv_at hl 0 rfl) ?_
  refine lv_aload_n hx hb dX7_copy_72 rfl (lv_at hl 1 rfl) ?_
  refine va_get (D := (dC, dI)) (ci := 7) (v := .int (v4 12)) (C := RX7) (T := TX7) (N := 10) hx hb hts inB_7 hown hE.1 hP 4 rfl rfl 6 (Nat.le_of_ble_eq_true rfl) (hts _ k_234) (fun _ h9 => h9) rfl dX7_copy_73 ?_
  refine va_put (D := (dC, dI)) (ci := 7) (v := .int (v4 12)) (ty := tyX7 6) (C := RX7) (T := TX7) (N := 10) hx hb hts inB_7 tyX7 tyX7_ok nmX7 hown hE.1 hP hD hS 27 rfl rfl 6 (Nat.le_of_ble_eq_true rfl) (hts _ k_234) (fun _ h9 => h9) rfl (tyX7_ok 6 (Nat.le_of_ble_eq_true rfl)) rfl rfl (Nat.le_of_ble_eq_true rfl) dX7_copy_76 (fun H locs hP hD hS => ?_)
  have hP : va_P (dC, dI) vwCl (XW cy x0 x (upd (upd (upd (upd v4 31 (v 9)) 32 (v 10)) 33 (v4 11)) 34 (v4 12)) f5) H := hP
  have hD : va_D A (XW cy x0 x (upd (upd (upd (upd v4 31 (v 9)) 32 (v 10)) 33 (v4 11)) 34 (v4 12)) f5) := hD
  refine lv_aload_n hx hb dX7_copy_79 rfl (lv_at hl 0 rfl) ?_
  refine lv_aload_n hx hb dX7_copy_80 rfl (lv_at hl 1 rfl) ?_
  refine va_get (D := (dC, dI)) (ci := 7) (v := .int (v4 13)) (C := RX7) (T := TX7) (N := 10) hx hb hts inB_7 hown hE.1 hP 4 rfl rfl 7 (Nat.le_of_ble_eq_true rfl) (hts _ k_237) (fun _ h9 => h9) rfl dX7_copy_81 ?_
  refine va_put (D := (dC, dI)) (ci := 7) (v := .int (v4 13)) (ty := tyX7 7) (C := RX7) (T := TX7) (N := 10) hx hb hts inB_7 tyX7 tyX7_ok nmX7 hown hE.1 hP hD hS 27 rfl rfl 7 (Nat.le_of_ble_eq_true rfl) (hts _ k_237) (fun _ h9 => h9) rfl (tyX7_ok 7 (Nat.le_of_ble_eq_true rfl)) rfl rfl (Nat.le_of_ble_eq_true rfl) dX7_copy_84 (fun H locs hP hD hS => ?_)
  have hP : va_P (dC, dI) vwCl (XW cy x0 x (upd (upd (upd (upd (upd v4 31 (v 9)) 32 (v 10)) 33 (v4 11)) 34 (v4 12)) 35 (v4 13)) f5) H := hP
  have hD : va_D A (XW cy x0 x (upd (upd (upd (upd (upd v4 31 (v 9)) 32 (v 10)) 33 (v4 11)) 34 (v4 12)) 35 (v4 13)) f5) := hD
  refine lv_aload_n hx hb dX7_copy_87 rfl (lv_at hl 0 rfl) ?_
  refine lv_aload_n hx hb dX7_copy_88 rfl (lv_at hl 1 rfl) ?_
  refine va_get (D := (dC, dI)) (ci := 7) (v := .int (v4 14)) (C := RX7) (T := TX7) (N := 10) hx hb hts inB_7 hown hE.1 hP 4 rfl rfl 8 (Nat.le_of_ble_eq_true rfl) (hts _ k_240) (fun _ h9 => h9) rfl dX7_copy_89 ?_
  refine va_put (D := (dC, dI)) (ci := 7) (v := .int (v4 14)) (ty := tyX7 8) (C := RX7) (T := TX7) (N := 10) hx hb hts inB_7 tyX7 tyX7_ok nmX7 hown hE.1 hP hD hS 27 rfl rfl 8 (Nat.le_of_ble_eq_true rfl) (hts _ k_240) (fun _ h9 => h9) rfl (tyX7_ok 8 (Nat.le_of_ble_eq_true rfl)) rfl rfl (Nat.le_of_ble_eq_true rfl) dX7_copy_92 (fun H locs hP hD hS => ?_)
  have hP : va_P (dC, dI) vwCl (XW cy x0 x (upd (upd (upd (upd (upd (upd v4 31 (v 9)) 32 (v 10)) 33 (v4 11)) 34 (v4 12)) 35 (v4 13)) 36 (v4 14)) f5) H := hP
  have hD : va_D A (XW cy x0 x (upd (upd (upd (upd (upd (upd v4 31 (v 9)) 32 (v 10)) 33 (v4 11)) 34 (v4 12)) 35 (v4 13)) 36 (v4 14)) f5) := hD
  refine lv_aload_n hx hb dX7_copy_95 rfl (lv_at hl 0 rfl) ?_
  refine lv_aload_n hx hb dX7_copy_96 rfl (lv_at hl 1 rfl) ?_
  refine va_get (D := (dC, dI)) (ci := 7) (v := .int (v4 15)) (C := RX7) (T := TX7) (N := 10) hx hb hts inB_7 hown hE.1 hP 4 rfl rfl 9 (Nat.le_of_ble_eq_true rfl) (hts _ k_243) (fun _ h9 => h9) rfl dX7_copy_97 ?_
  refine va_put (D := (dC, dI)) (ci := 7) (v := .int (v4 15)) (ty := tyX7 9) (C := RX7) (T := TX7) (N := 10) hx hb hts inB_7 tyX7 tyX7_ok nmX7 hown hE.1 hP hD hS 27 rfl rfl 9 (Nat.le_of_ble_eq_true rfl) (hts _ k_243) (fun _ h9 => h9) rfl (tyX7_ok 9 (Nat.le_of_ble_eq_true rfl)) rfl rfl (Nat.le_of_ble_eq_true rfl) dX7_copy_100 (fun H locs hP hD hS => ?_)
  have hP : va_P (dC, dI) vwCl (XW cy x0 x (upd (upd (upd (upd (upd (upd (upd v4 31 (v 9)) 32 (v 10)) 33 (v4 11)) 34 (v4 12)) 35 (v4 13)) 36 (v4 14)) 37 (v4 15)) f5) H := hP
  have hD : va_D A (XW cy x0 x (upd (upd (upd (upd (upd (upd (upd v4 31 (v 9)) 32 (v 10)) 33 (v4 11)) 34 (v4 12)) 35 (v4 13)) 36 (v4 14)) 37 (v4 15)) f5) := hD
  exact ret ((upd (upd (upd (upd (upd (upd (upd v4 31 (v 9)) 32 (v 10)) 33 (v4 11)) 34 (v4 12)) 35 (v4 13)) 36 (v4 14)) 37 (v4 15)), f5) _ _ _ _ _ _ ⟨(gsX_X7_copy_1_q0 ef1 ef2 hG3), (KV.up (j := 37) (x := (v4 15)) (KV.up (j := 36) (x := (v4 14)) (KV.up (j := 35) (x := (v4 13)) (KV.up (j := 34) (x := (v4 12)) (KV.up (j := 33) (x := (v4 11)) (KV.up (j := 32) (x := (v 10)) (KV.up (j := 31) (x := (v 9)) hM_v4 rfl) rfl) rfl) rfl) rfl) rfl) rfl), hA_f5, (Xu_37 (x := (v4 15)) (Xu_36 (x := (v4 14)) (Xu_35 (x := (v4 13)) (Xu_34 (x := (v4 12)) (Xu_33 (x := (v4 11)) (Xu_32 (x := (v 10)) (Xu_31 (x := (v 9)) hIv4 (show (0 : Int) ≤ (v 9).toInt from om_98 b9_v) (show (v 9).toInt ≤ (6 : Int) from om_99 b9_v)) (show (0 : Int) ≤ (v 10).toInt from om_98 b10_v) (show (v 10).toInt ≤ (6 : Int) from om_99 b10_v)) (rlo _) (rhi _)) (rlo _) (rhi _)) (rlo _) (rhi _)) (rlo _) (rhi _)) (rlo _) (rhi _)), hk0_v4, hk1_v4, hk7_v4, hk8_v4⟩ hP hD hS dX7_copy_103 (Nat.le_refl _) (Nat.le_refl _)
set_option maxHeartbeats 4000000 in
set_option maxRecDepth 100000 in
theorem sX_X7_hasCoat_1 (NF : Nat) (l : Launch) (dC : Nat → ClassId) (dI : Nat → Nat → Nat) (cy : Nat → ClassId) (x0 : Nat) (x : Nat → Nat) (p1 : Int32) (v : Nat → Int32) (f : Nat → Nat → Int32) (hIv : XI v)  : ctI l (dC, dI) cy yX7_hasCoat cX7_hasCoat 2 .boolean 1 60 0 0 Unit [.ref (x 26), .int p1] (XW cy x0 x v f) (fun r u => gsX_X7_hasCoat_1 NF p1 v f = r ∧ ((r = 1 ∧ 0 ≤ p1.toInt ∧ p1.toInt < (v 32).toInt ∧ p1.toInt ≤ 5) ∨ (r = 0))) (fun u => XW cy x0 x v f) := by
  refine ctI_of (by decide) (Nat.le_of_ble_eq_true rfl) (fun p e s m below meth c A ls Q hx hb hml hts hown hE hP hD hA hl ret => ?_)
  have hown : s.vm.findClass RX7 = some m.cls := hown
  have hS : va_S A s.heap s.heap [] := va_S.rf
  have hl : lv_has ls 2 [(0, .ref (x 26)), (1, .int p1)] := hl
  refine lv_iload_n hx hb dX7_hasCoat_0 rfl (lv_at hl 1 rfl) ?_
  refine lv_if_lt (tgt := 16) hx hb dX7_hasCoat_1 rfl (fun c1 => ?_) (fun c1 => ?_)
  · skip
    refine lv_iconst (v := 0) hx hb dX7_hasCoat_16 rfl ?_
    exact ret 0 () _ _ _ _ _ _ rfl ⟨(gsX_X7_hasCoat_1_q0 c1), (Or.inr rfl)⟩ hP hD hS dX7_hasCoat_17 (Nat.le_refl _) (Nat.le_refl _)
  · skip
    have zc1 : ¬ (p1.toInt < 0) := zLn rfl tc_0 c1
    refine lv_iload_n hx hb dX7_hasCoat_4 rfl (lv_at hl 1 rfl) ?_
    refine lv_aload_n hx hb dX7_hasCoat_5 rfl (lv_at hl 0 rfl) ?_
    refine va_get (D := (dC, dI)) (ci := 7) (v := .int (v 32)) (C := RX7) (T := TX7) (N := 10) hx hb hts inB_7 hown hE.1 hP 27 rfl rfl 4 (Nat.le_of_ble_eq_true rfl) (hts _ k_220) (fun _ h9 => h9) rfl dX7_hasCoat_6 ?_
    have b32_v : 0 ≤ (v 32).toInt ∧ (v 32).toInt ≤ 6 := Xb_32 hIv
    refine lv_icmp_ge (tgt := 16) hx hb dX7_hasCoat_9 rfl (fun c2 => ?_) (fun c2 => ?_)
    · skip
      refine lv_iconst (v := 0) hx hb dX7_hasCoat_16 rfl ?_
      exact ret 0 () _ _ _ _ _ _ rfl ⟨(gsX_X7_hasCoat_1_q1 c1 c2), (Or.inr rfl)⟩ hP hD hS dX7_hasCoat_17 (Nat.le_refl _) (Nat.le_refl _)
    · skip
      have zc2 : ¬ ((v 32).toInt ≤ p1.toInt) := zMn rfl rfl c2
      refine lv_iconst (v := 1) hx hb dX7_hasCoat_12 rfl ?_
      refine lv_goto (tgt := 17) hx hb dX7_hasCoat_13 rfl ?_
      exact ret 1 () _ _ _ _ _ _ rfl ⟨(gsX_X7_hasCoat_1_q2 c1 c2), (Or.inl ⟨rfl, show 0 ≤ p1.toInt from om_14 zc1, show p1.toInt < (v 32).toInt from om_17 zc2, show p1.toInt ≤ 5 from om_100 b32_v zc2⟩)⟩ hP hD hS dX7_hasCoat_17 (Nat.le_refl _) (Nat.le_refl _)
set_option maxHeartbeats 4000000 in
set_option maxRecDepth 100000 in
theorem sX_X7_coatPart_1 (NF : Nat) (l : Launch) (dC : Nat → ClassId) (dI : Nat → Nat → Nat) (cy : Nat → ClassId) (x0 : Nat) (x : Nat → Nat) (p1 : Int32) (p2 : Int32) (v : Nat → Int32) (f : Nat → Nat → Int32) (hIv : XI v)  : ctI l (dC, dI) cy yX7_coatPart cX7_coatPart 3 .int 2 81 0 0 Unit [.ref (x 26), .int p1, .int p2] (XW cy x0 x v f) (fun r u => gsX_X7_coatPart_1 NF p1 p2 v f = r) (fun u => XW cy x0 x v f) := by
  refine ctI_of (by decide) (Nat.le_of_ble_eq_true rfl) (fun p e s m below meth c A ls Q hx hb hml hts hown hE hP hD hA hl ret => ?_)
  have hown : s.vm.findClass RX7 = some m.cls := hown
  have hS : va_S A s.heap s.heap [] := va_S.rf
  have hl : lv_has ls 3 [(0, .ref (x 26)), (1, .int p1), (2, .int p2)] := hl
  refine lv_aload_n hx hb dX7_coatPart_0 rfl (lv_at hl 0 rfl) ?_
  refine lv_iload_n hx hb dX7_coatPart_1 rfl (lv_at hl 2 rfl) ?_
  refine cbVi (n := 1) (rest := []) hx hb hml hown hts hE hP hD hS hA (sX_X7_hasCoat_1 NF l dC dI cy x0 x p2 v f hIv ) k_314 k_315 k_316 k_104 k_317 hd_yX7_hasCoat ⟨Nat.le_of_ble_eq_true rfl, Nat.le_of_ble_eq_true rfl⟩ 27 7 rfl rfl (rfl) hl.1 rfl (Nat.le_of_ble_eq_true rfl) dX7_coatPart_2 (fun r1 u H locs hw hP hD hS => ?_)
  obtain ⟨hG2, hw⟩ := hw
  rcases hw with ⟨g3, g3_0, g3_1, g3_2⟩ | ⟨g3⟩
  · skip
    subst g3
    refine lv_if_eq (tgt := 31) hx hb dX7_coatPart_5 rfl (fun c0 => absurd c0 (by decide)) (fun _ => ?_)
    refine lv_iload_n hx hb dX7_coatPart_8 rfl (lv_at hl 1 rfl) ?_
    refine lv_if_lt (tgt := 31) hx hb dX7_coatPart_9 rfl (fun c4 => ?_) (fun c4 => ?_)
    · skip
      refine lv_iconst (v := 0) hx hb dX7_coatPart_31 rfl ?_
      exact ret 0 () _ _ _ _ _ _ rfl (gsX_X7_coatPart_1_q0 hG2 c4) hP hD hS dX7_coatPart_32 (Nat.le_refl _) (Nat.le_refl _)
    · skip
      have zc4 : ¬ (p1.toInt < 0) := zLn rfl tc_0 c4
      refine lv_iload_n hx hb dX7_coatPart_12 rfl (lv_at hl 1 rfl) ?_
      refine lv_iconst (v := 4) hx hb dX7_coatPart_13 rfl ?_
      refine lv_icmp_ge (tgt := 31) hx hb dX7_coatPart_14 rfl (fun c5 => ?_) (fun c5 => ?_)
      · skip
        refine lv_iconst (v := 0) hx hb dX7_coatPart_31 rfl ?_
        exact ret 0 () _ _ _ _ _ _ rfl (gsX_X7_coatPart_1_q1 hG2 c4 c5) hP hD hS dX7_coatPart_32 (Nat.le_refl _) (Nat.le_refl _)
      · skip
        have zc5 : ¬ (4 ≤ p1.toInt) := zMn tc_4 rfl c5
        refine lv_aload_n hx hb dX7_coatPart_17 rfl (lv_at hl 0 rfl) ?_
        refine va_get (D := (dC, dI)) (ci := 7) (v := .ref (x 14)) (C := RX7) (T := TX7) (N := 10) hx hb hts inB_7 hown hE.1 hP 27 rfl rfl 1 (Nat.le_of_ble_eq_true rfl) (hts _ k_205) (fun _ h9 => h9) rfl dX7_coatPart_18 ?_
        refine lv_iload_n hx hb dX7_coatPart_21 rfl (lv_at hl 1 rfl) ?_
        refine lv_bipush (v := 6) hx hb dX7_coatPart_22 rfl ?_
        refine lv_imul hx hb dX7_coatPart_24 ?_
        refine lv_topi (fun t6 et6 => ?_)
        have zt6 : t6.toInt = p1.toInt * 6 := (congrArg Int32.toInt et6).trans (mul_i rfl tc_6 (om_101 zc4) (om_102 zc5))
        refine lv_iload_n hx hb dX7_coatPart_25 rfl (lv_at hl 2 rfl) ?_
        refine lv_iadd hx hb dX7_coatPart_26 ?_
        refine lv_topi (fun t8 et8 => ?_)
        have rg9 := fb_rng t6
        have zt8 : t8.toInt = t6.toInt + p2.toInt := (congrArg Int32.toInt et8).trans (add_i rfl rfl (om_103 g3_0 rg9) (om_104 g3_2 zc5 zt6))
        refine ldI hx hb hE hP 15 rfl (vpI (k := 24) rfl (show 0 ≤ t8.toInt from om_105 g3_0 zc4 zt6 zt8) (show t8.toInt < 24 from om_106 g3_2 zc5 zt6 zt8)) rfl rfl dX7_coatPart_27 ?_
        refine lv_topi (fun t11 et11 => ?_)
        refine lv_goto (tgt := 32) hx hb dX7_coatPart_28 rfl ?_
        exact ret t11 () _ _ _ _ _ _ rfl (gsX_X7_coatPart_1_q2 hG2 c4 c5 et6 et8 et11) hP hD hS dX7_coatPart_32 (Nat.le_refl _) (Nat.le_refl _)
  · skip
    subst g3
    refine lv_if_eq (tgt := 31) hx hb dX7_coatPart_5 rfl (fun _ => ?_) (fun c0 => absurd (by decide) c0)
    refine lv_iconst (v := 0) hx hb dX7_coatPart_31 rfl ?_
    exact ret 0 () _ _ _ _ _ _ rfl (gsX_X7_coatPart_1_q3 hG2) hP hD hS dX7_coatPart_32 (Nat.le_refl _) (Nat.le_refl _)
set_option maxHeartbeats 4000000 in
set_option maxRecDepth 100000 in
theorem sX_X7_hasMan_1 (NF : Nat) (l : Launch) (dC : Nat → ClassId) (dI : Nat → Nat → Nat) (cy : Nat → ClassId) (x0 : Nat) (x : Nat → Nat) (p1 : Int32) (v : Nat → Int32) (f : Nat → Nat → Int32) (hIv : XI v)  : ctI l (dC, dI) cy yX7_hasMan cX7_hasMan 2 .boolean 1 60 0 0 Unit [.ref (x 26), .int p1] (XW cy x0 x v f) (fun r u => gsX_X7_hasMan_1 NF p1 v f = r ∧ ((r = 1 ∧ 0 ≤ p1.toInt ∧ p1.toInt < (v 31).toInt ∧ p1.toInt ≤ 5) ∨ (r = 0))) (fun u => XW cy x0 x v f) := by
  refine ctI_of (by decide) (Nat.le_of_ble_eq_true rfl) (fun p e s m below meth c A ls Q hx hb hml hts hown hE hP hD hA hl ret => ?_)
  have hown : s.vm.findClass RX7 = some m.cls := hown
  have hS : va_S A s.heap s.heap [] := va_S.rf
  have hl : lv_has ls 2 [(0, .ref (x 26)), (1, .int p1)] := hl
  refine lv_iload_n hx hb dX7_hasMan_0 rfl (lv_at hl 1 rfl) ?_
  refine lv_if_lt (tgt := 16) hx hb dX7_hasMan_1 rfl (fun c1 => ?_) (fun c1 => ?_)
  · skip
    refine lv_iconst (v := 0) hx hb dX7_hasMan_16 rfl ?_
    exact ret 0 () _ _ _ _ _ _ rfl ⟨(gsX_X7_hasMan_1_q0 c1), (Or.inr rfl)⟩ hP hD hS dX7_hasMan_17 (Nat.le_refl _) (Nat.le_refl _)
  · skip
    have zc1 : ¬ (p1.toInt < 0) := zLn rfl tc_0 c1
    refine lv_iload_n hx hb dX7_hasMan_4 rfl (lv_at hl 1 rfl) ?_
    refine lv_aload_n hx hb dX7_hasMan_5 rfl (lv_at hl 0 rfl) ?_
    refine va_get (D := (dC, dI)) (ci := 7) (v := .int (v 31)) (C := RX7) (T := TX7) (N := 10) hx hb hts inB_7 hown hE.1 hP 27 rfl rfl 3 (Nat.le_of_ble_eq_true rfl) (hts _ k_212) (fun _ h9 => h9) rfl dX7_hasMan_6 ?_
    have b31_v : 0 ≤ (v 31).toInt ∧ (v 31).toInt ≤ 6 := Xb_31 hIv
    refine lv_icmp_ge (tgt := 16) hx hb dX7_hasMan_9 rfl (fun c2 => ?_) (fun c2 => ?_)
    · skip
      refine lv_iconst (v := 0) hx hb dX7_hasMan_16 rfl ?_
      exact ret 0 () _ _ _ _ _ _ rfl ⟨(gsX_X7_hasMan_1_q1 c1 c2), (Or.inr rfl)⟩ hP hD hS dX7_hasMan_17 (Nat.le_refl _) (Nat.le_refl _)
    · skip
      have zc2 : ¬ ((v 31).toInt ≤ p1.toInt) := zMn rfl rfl c2
      refine lv_iconst (v := 1) hx hb dX7_hasMan_12 rfl ?_
      refine lv_goto (tgt := 17) hx hb dX7_hasMan_13 rfl ?_
      exact ret 1 () _ _ _ _ _ _ rfl ⟨(gsX_X7_hasMan_1_q2 c1 c2), (Or.inl ⟨rfl, show 0 ≤ p1.toInt from om_14 zc1, show p1.toInt < (v 31).toInt from om_17 zc2, show p1.toInt ≤ 5 from om_100 b31_v zc2⟩)⟩ hP hD hS dX7_hasMan_17 (Nat.le_refl _) (Nat.le_refl _)
set_option maxHeartbeats 4000000 in
set_option maxRecDepth 100000 in
theorem sX_X7_manPart_1 (NF : Nat) (l : Launch) (dC : Nat → ClassId) (dI : Nat → Nat → Nat) (cy : Nat → ClassId) (x0 : Nat) (x : Nat → Nat) (p1 : Int32) (p2 : Int32) (v : Nat → Int32) (f : Nat → Nat → Int32) (hIv : XI v)  : ctI l (dC, dI) cy yX7_manPart cX7_manPart 3 .int 2 81 0 0 Unit [.ref (x 26), .int p1, .int p2] (XW cy x0 x v f) (fun r u => gsX_X7_manPart_1 NF p1 p2 v f = r) (fun u => XW cy x0 x v f) := by
  refine ctI_of (by decide) (Nat.le_of_ble_eq_true rfl) (fun p e s m below meth c A ls Q hx hb hml hts hown hE hP hD hA hl ret => ?_)
  have hown : s.vm.findClass RX7 = some m.cls := hown
  have hS : va_S A s.heap s.heap [] := va_S.rf
  have hl : lv_has ls 3 [(0, .ref (x 26)), (1, .int p1), (2, .int p2)] := hl
  refine lv_aload_n hx hb dX7_manPart_0 rfl (lv_at hl 0 rfl) ?_
  refine lv_iload_n hx hb dX7_manPart_1 rfl (lv_at hl 2 rfl) ?_
  refine cbVi (n := 1) (rest := []) hx hb hml hown hts hE hP hD hS hA (sX_X7_hasMan_1 NF l dC dI cy x0 x p2 v f hIv ) k_306 k_307 k_308 k_104 k_309 hd_yX7_hasMan ⟨Nat.le_of_ble_eq_true rfl, Nat.le_of_ble_eq_true rfl⟩ 27 7 rfl rfl (rfl) hl.1 rfl (Nat.le_of_ble_eq_true rfl) dX7_manPart_2 (fun r1 u H locs hw hP hD hS => ?_)
  obtain ⟨hG2, hw⟩ := hw
  rcases hw with ⟨g3, g3_0, g3_1, g3_2⟩ | ⟨g3⟩
  · skip
    subst g3
    refine lv_if_eq (tgt := 31) hx hb dX7_manPart_5 rfl (fun c0 => absurd c0 (by decide)) (fun _ => ?_)
    refine lv_iload_n hx hb dX7_manPart_8 rfl (lv_at hl 1 rfl) ?_
    refine lv_if_lt (tgt := 31) hx hb dX7_manPart_9 rfl (fun c4 => ?_) (fun c4 => ?_)
    · skip
      refine lv_iconst (v := 0) hx hb dX7_manPart_31 rfl ?_
      exact ret 0 () _ _ _ _ _ _ rfl (gsX_X7_manPart_1_q0 hG2 c4) hP hD hS dX7_manPart_32 (Nat.le_refl _) (Nat.le_refl _)
    · skip
      have zc4 : ¬ (p1.toInt < 0) := zLn rfl tc_0 c4
      refine lv_iload_n hx hb dX7_manPart_12 rfl (lv_at hl 1 rfl) ?_
      refine lv_iconst (v := 3) hx hb dX7_manPart_13 rfl ?_
      refine lv_icmp_ge (tgt := 31) hx hb dX7_manPart_14 rfl (fun c5 => ?_) (fun c5 => ?_)
      · skip
        refine lv_iconst (v := 0) hx hb dX7_manPart_31 rfl ?_
        exact ret 0 () _ _ _ _ _ _ rfl (gsX_X7_manPart_1_q1 hG2 c4 c5) hP hD hS dX7_manPart_32 (Nat.le_refl _) (Nat.le_refl _)
      · skip
        have zc5 : ¬ (3 ≤ p1.toInt) := zMn tc_3 rfl c5
        refine lv_aload_n hx hb dX7_manPart_17 rfl (lv_at hl 0 rfl) ?_
        refine va_get (D := (dC, dI)) (ci := 7) (v := .ref (x 13)) (C := RX7) (T := TX7) (N := 10) hx hb hts inB_7 hown hE.1 hP 27 rfl rfl 0 (Nat.le_of_ble_eq_true rfl) (hts _ k_204) (fun _ h9 => h9) rfl dX7_manPart_18 ?_
        refine lv_iload_n hx hb dX7_manPart_21 rfl (lv_at hl 1 rfl) ?_
        refine lv_bipush (v := 6) hx hb dX7_manPart_22 rfl ?_
        refine lv_imul hx hb dX7_manPart_24 ?_
        refine lv_topi (fun t6 et6 => ?_)
        have zt6 : t6.toInt = p1.toInt * 6 := (congrArg Int32.toInt et6).trans (mul_i rfl tc_6 (om_101 zc4) (om_107 zc5))
        refine lv_iload_n hx hb dX7_manPart_25 rfl (lv_at hl 2 rfl) ?_
        refine lv_iadd hx hb dX7_manPart_26 ?_
        refine lv_topi (fun t8 et8 => ?_)
        have rg9 := fb_rng t6
        have zt8 : t8.toInt = t6.toInt + p2.toInt := (congrArg Int32.toInt et8).trans (add_i rfl rfl (om_103 g3_0 rg9) (om_108 g3_2 zc5 zt6))
        refine ldI hx hb hE hP 14 rfl (vpI (k := 18) rfl (show 0 ≤ t8.toInt from om_105 g3_0 zc4 zt6 zt8) (show t8.toInt < 18 from om_109 g3_2 zc5 zt6 zt8)) rfl rfl dX7_manPart_27 ?_
        refine lv_topi (fun t11 et11 => ?_)
        refine lv_goto (tgt := 32) hx hb dX7_manPart_28 rfl ?_
        exact ret t11 () _ _ _ _ _ _ rfl (gsX_X7_manPart_1_q2 hG2 c4 c5 et6 et8 et11) hP hD hS dX7_manPart_32 (Nat.le_refl _) (Nat.le_refl _)
  · skip
    subst g3
    refine lv_if_eq (tgt := 31) hx hb dX7_manPart_5 rfl (fun _ => ?_) (fun c0 => absurd (by decide) c0)
    refine lv_iconst (v := 0) hx hb dX7_manPart_31 rfl ?_
    exact ret 0 () _ _ _ _ _ _ rfl (gsX_X7_manPart_1_q3 hG2) hP hD hS dX7_manPart_32 (Nat.le_refl _) (Nat.le_refl _)
set_option maxHeartbeats 4000000 in
set_option maxRecDepth 100000 in
theorem sX_X1_muster_1 (NF : Nat) (l : Launch) (dC : Nat → ClassId) (dI : Nat → Nat → Nat) (cy : Nat → ClassId) (x0 : Nat) (x : Nat → Nat)  (v : Nat → Int32) (f : Nat → Nat → Int32) (hIv : XI v)  : ctV l (dC, dI) cy yX1_muster cX1_muster 3 3 103 0 0 ((Nat → Int32) × (Nat → Nat → Int32)) [.ref (x 21)] (XW cy x0 x v f) (fun u => gsX_X1_muster_1 NF v f = u ∧ KV [] u.1 v ∧ KF [15] u.2 f ∧ XI u.1 ∧ u.1 0 = v 0 ∧ u.1 1 = v 1 ∧ u.1 7 = v 7 ∧ u.1 8 = v 8 ∧ u.1 9 = v 9 ∧ u.1 10 = v 10 ∧ u.1 31 = v 31 ∧ u.1 32 = v 32) (fun u => XW cy x0 x u.1 u.2) := by
  refine ctV_of (by decide) (Nat.le_of_ble_eq_true rfl) (fun p e s m below meth c A ls Q hx hb hml hts hown hnm hE hP hD hA hl ret => ?_)
  have hM_v : KV [] v v := fun _ _ => rfl
  have hA_f : KF [15] f f := fun _ _ => rfl
  have hown : s.vm.findClass RX1 = some m.cls := hown
  have hS : va_S A s.heap s.heap [] := va_S.rf
  have hl : lv_has ls 3 [(0, .ref (x 21))] := hl
  refine lv_iconst (v := 0) hx hb dX1_muster_0 rfl ?_
  refine lv_istore_n (lv' := [(1, .int 0), (0, .ref (x 21))]) hx hb dX1_muster_1 rfl hl (Nat.le_of_ble_eq_true rfl) rfl (fun ls hl => ?_)
  have lp1 : ∀ (n1 : Nat) (l1_1 : Int32) (v1 : Nat → Int32) (f1 : Nat → Nat → Int32), XI v1 → v1 0 = (v 0) → v1 1 = (v 1) → v1 7 = (v 7) → v1 8 = (v 8) → v1 9 = (v 9) → v1 10 = (v 10) → v1 31 = (v 31) → v1 32 = (v 32) → gsX_X1_muster_1_L1 NF n1 l1_1 v1 f1 = (gsX_X1_muster_1 NF v f) → ((0 : Int) ≤ l1_1.toInt ∧ l1_1.toInt ≤ 2147483647) → KV [] v1 v → KF [15] f1 f → (2147483647 - l1_1.toInt).toNat < n1 → ∀ (H : Heap) (locs : List Loc) (ls : Array Slot), va_P (dC, dI) vwCl (XW cy x0 x v1 f1) H → va_D A (XW cy x0 x v1 f1) → va_S A s.heap H locs → lv_has ls 3 [(1, .int l1_1), (0, .ref (x 21))] → W p l e { frames := 3, cells := 0, slots := 0, locals := 103 } s m ([.ref (x 21)] : List Value).toArray below meth c H locs 0 0 Q (F0 m 2 ls []) := by
    intro n1
    induction n1 with
    | zero => intro l1_1 v1 f1 hIv1 hq0_v1 hq1_v1 hq7_v1 hq8_v1 hq9_v1 hq10_v1 hq31_v1 hq32_v1 hT1 hr1_1 hM_v1 hA_f1 hm; exact absurd hm (Nat.not_lt_zero _)
    | succ n1 ih1 =>
      intro l1_1 v1 f1 hIv1 hq0_v1 hq1_v1 hq7_v1 hq8_v1 hq9_v1 hq10_v1 hq31_v1 hq32_v1 hT1 hr1_1 hM_v1 hA_f1 hm1 H locs ls hP hD hS hl
      refine lv_iload_n hx hb dX1_muster_2 rfl (lv_at hl 0 rfl) ?_
      refine lv_bipush (v := 6) hx hb dX1_muster_3 rfl ?_
      refine lv_icmp_ge (tgt := 39) hx hb dX1_muster_5 rfl (fun c2 => ?_) (fun c2 => ?_)
      · skip
        refine lv_iconst (v := 0) hx hb dX1_muster_39 rfl ?_
        refine lv_istore_n (lv' := [(1, .int 0), (0, .ref (x 21))]) hx hb dX1_muster_40 rfl hl (Nat.le_of_ble_eq_true rfl) rfl (fun ls hl => ?_)
        have lp3 : ∀ (n3 : Nat) (l1_3 : Int32) (v3 : Nat → Int32) (f3 : Nat → Nat → Int32), XI v3 → v3 0 = (v 0) → v3 1 = (v 1) → v3 7 = (v 7) → v3 8 = (v 8) → v3 9 = (v 9) → v3 10 = (v 10) → v3 31 = (v 31) → v3 32 = (v 32) → gsX_X1_muster_1_L3 NF n3 l1_3 v3 f3 = (gsX_X1_muster_1 NF v f) → ((0 : Int) ≤ l1_3.toInt ∧ l1_3.toInt ≤ 2147483647) → KV [] v3 v → KF [15] f3 f → (2147483647 - l1_3.toInt).toNat < n3 → ∀ (H : Heap) (locs : List Loc) (ls : Array Slot), va_P (dC, dI) vwCl (XW cy x0 x v3 f3) H → va_D A (XW cy x0 x v3 f3) → va_S A s.heap H locs → lv_has ls 3 [(1, .int l1_3), (0, .ref (x 21))] → W p l e { frames := 3, cells := 0, slots := 0, locals := 103 } s m ([.ref (x 21)] : List Value).toArray below meth c H locs 0 0 Q (F0 m 41 ls []) := by
          intro n3
          induction n3 with
          | zero => intro l1_3 v3 f3 hIv3 hq0_v3 hq1_v3 hq7_v3 hq8_v3 hq9_v3 hq10_v3 hq31_v3 hq32_v3 hT3 hr1_3 hM_v3 hA_f3 hm; exact absurd hm (Nat.not_lt_zero _)
          | succ n3 ih3 =>
            intro l1_3 v3 f3 hIv3 hq0_v3 hq1_v3 hq7_v3 hq8_v3 hq9_v3 hq10_v3 hq31_v3 hq32_v3 hT3 hr1_3 hM_v3 hA_f3 hm3 H locs ls hP hD hS hl
            refine lv_iload_n hx hb dX1_muster_41 rfl (lv_at hl 0 rfl) ?_
            refine lv_bipush (v := 6) hx hb dX1_muster_42 rfl ?_
            refine lv_icmp_ge (tgt := 89) hx hb dX1_muster_44 rfl (fun c4 => ?_) (fun c4 => ?_)
            · skip
              refine lv_aload_n hx hb dX1_muster_89 rfl (lv_at hl 1 rfl) ?_
              refine va_get (D := (dC, dI)) (ci := 1) (v := .ref (x 22)) (C := RX1) (T := TX1) (N := 2) hx hb hts inB_1 hown hE.1 hP 22 rfl rfl 1 (Nat.le_of_ble_eq_true rfl) (hts _ k_319) (fun _ h9 => h9) rfl dX1_muster_90 ?_
              refine lv_bipush (v := 42) hx hb dX1_muster_93 rfl ?_
              refine lv_iconst (v := 0) hx hb dX1_muster_95 rfl ?_
              refine stI hx hb hE hP hD hS 23 rfl (vp_in_nI (n := 42) (by decide) (by decide)) rfl dX1_muster_96 (fun H locs hP hD hS => ?_)
              obtain ⟨f5, ef5, hP, hD⟩ : ∃ fz9, fz9 = upd2 f3 15 (upd (f3 15) (42 : Int32).toNatClampNeg 0) ∧ va_P (dC, dI) vwCl (XW cy x0 x v3 fz9) H ∧ va_D A (XW cy x0 x v3 fz9) := ⟨_, rfl, hP, hD⟩
              have hA_f5 : KF [15] f5 f := by rw [ef5]; exact KF.up hA_f3 rfl
              refine lv_aload_n hx hb dX1_muster_97 rfl (lv_at hl 1 rfl) ?_
              refine va_get (D := (dC, dI)) (ci := 1) (v := .ref (x 22)) (C := RX1) (T := TX1) (N := 2) hx hb hts inB_1 hown hE.1 hP 22 rfl rfl 1 (Nat.le_of_ble_eq_true rfl) (hts _ k_319) (fun _ h9 => h9) rfl dX1_muster_98 ?_
              refine lv_bipush (v := 43) hx hb dX1_muster_101 rfl ?_
              refine lv_aload_n hx hb dX1_muster_103 rfl (lv_at hl 1 rfl) ?_
              refine va_get (D := (dC, dI)) (ci := 1) (v := .ref (x 26)) (C := RX1) (T := TX1) (N := 2) hx hb hts inB_1 hown hE.1 hP 22 rfl rfl 0 (Nat.le_of_ble_eq_true rfl) (hts _ k_318) (fun _ h9 => h9) rfl dX1_muster_104 ?_
              refine va_getN (D := (dC, dI)) (ci := 7) (v := .int (v3 37)) (C := RX7) (T := TX7) (N := 10) hx hb hts inB_7 hown hE.1 hP 27 rfl rfl 9 (Nat.le_of_ble_eq_true rfl) (va_Nw.use rfl (hE.2 _ k_242)) (fun _ h9 => h9) rfl dX1_muster_107 ?_
              refine stI hx hb hE hP hD hS 23 rfl (vp_in_nI (n := 43) (by decide) (by decide)) rfl dX1_muster_110 (fun H locs hP hD hS => ?_)
              obtain ⟨f6, ef6, hP, hD⟩ : ∃ fz9, fz9 = upd2 f5 15 (upd (f5 15) (43 : Int32).toNatClampNeg (v3 37)) ∧ va_P (dC, dI) vwCl (XW cy x0 x v3 fz9) H ∧ va_D A (XW cy x0 x v3 fz9) := ⟨_, rfl, hP, hD⟩
              have hA_f6 : KF [15] f6 f := by rw [ef6]; exact KF.up hA_f5 rfl
              exact ret (v3, f6) _ _ _ _ _ _ ⟨(hT3.symm.trans (gsX_X1_muster_1_q0 c4 ef5 ef6)), hM_v3, hA_f6, hIv3, hq0_v3, hq1_v3, hq7_v3, hq8_v3, hq9_v3, hq10_v3, hq31_v3, hq32_v3⟩ hP hD hS dX1_muster_111 (Nat.le_refl _) (Nat.le_refl _)
            · skip
              have zc4 : ¬ (6 ≤ l1_3.toInt) := zMn tc_6 rfl c4
              refine lv_iconst (v := 0) hx hb dX1_muster_47 rfl ?_
              refine lv_istore_n (lv' := [(2, .int 0), (1, .int l1_3), (0, .ref (x 21))]) hx hb dX1_muster_48 rfl hl (Nat.le_of_ble_eq_true rfl) rfl (fun ls hl => ?_)
              have lp7 : ∀ (n7 : Nat) (l2_7 : Int32) (v7 : Nat → Int32) (f7 : Nat → Nat → Int32), XI v7 → v7 0 = (v 0) → v7 1 = (v 1) → v7 7 = (v 7) → v7 8 = (v 8) → v7 9 = (v 9) → v7 10 = (v 10) → v7 31 = (v 31) → v7 32 = (v 32) → gsX_X1_muster_1_L7 NF l1_3 (fun z0 z1 z2 => gsX_X1_muster_1_L3 NF n3 z0 z1 z2) n7 l2_7 v7 f7 = (gsX_X1_muster_1 NF v f) → ((0 : Int) ≤ l2_7.toInt ∧ l2_7.toInt ≤ 2147483647) → KV [] v7 v → KF [15] f7 f → (2147483647 - l2_7.toInt).toNat < n7 → ∀ (H : Heap) (locs : List Loc) (ls : Array Slot), va_P (dC, dI) vwCl (XW cy x0 x v7 f7) H → va_D A (XW cy x0 x v7 f7) → va_S A s.heap H locs → lv_has ls 3 [(2, .int l2_7), (1, .int l1_3), (0, .ref (x 21))] → W p l e { frames := 3, cells := 0, slots := 0, locals := 103 } s m ([.ref (x 21)] : List Value).toArray below meth c H locs 0 0 Q (F0 m 49 ls []) := by
                intro n7
                induction n7 with
                | zero => intro l2_7 v7 f7 hIv7 hq0_v7 hq1_v7 hq7_v7 hq8_v7 hq9_v7 hq10_v7 hq31_v7 hq32_v7 hT7 hr2_7 hM_v7 hA_f7 hm; exact absurd hm (Nat.not_lt_zero _)
                | succ n7 ih7 =>
                  intro l2_7 v7 f7 hIv7 hq0_v7 hq1_v7 hq7_v7 hq8_v7 hq9_v7 hq10_v7 hq31_v7 hq32_v7 hT7 hr2_7 hM_v7 hA_f7 hm7 H locs ls hP hD hS hl
                  refine lv_iload_n hx hb dX1_muster_49 rfl (lv_at hl 0 rfl) ?_
                  refine lv_iconst (v := 5) hx hb dX1_muster_50 rfl ?_
                  refine lv_icmp_ge (tgt := 83) hx hb dX1_muster_51 rfl (fun c8 => ?_) (fun c8 => ?_)
                  · skip
                    obtain ⟨t9, et9⟩ : ∃ y : Int32, y = l1_3 + 1 := ⟨_, rfl⟩
                    have zt9 : t9.toInt = l1_3.toInt + 1 := (congrArg Int32.toInt et9).trans (add_i rfl tc_1 (om_41 hr1_3) (om_65 zc4))
                    refine lv_iinc (v := t9) (lv' := [(1, .int t9), (2, .int l2_7), (0, .ref (x 21))]) hx hb dX1_muster_83 hl (k := 1) rfl et9.symm (Nat.le_of_ble_eq_true rfl) rfl (fun ls hl => ?_)
                    refine lv_goto (tgt := 41) hx hb dX1_muster_86 rfl ?_
                    have rg11 := fb_rng t9
                    exact ih3 t9 v7 f7 hIv7 hq0_v7 hq1_v7 hq7_v7 hq8_v7 hq9_v7 hq10_v7 hq31_v7 hq32_v7 ((gsX_X1_muster_1_q1 c8 et9).symm.trans hT7) ⟨show (0 : Int) ≤ t9.toInt from om_43 hr1_3 zt9, show t9.toInt ≤ (2147483647 : Int) from om_44 rg11⟩ hM_v7 hA_f7 (show (2147483647 - t9.toInt).toNat < n3 from om_33 hm3 zt9 rg11) _ _ _ hP hD hS (lv_sub hl [0, 2] rfl)
                  · skip
                    have zc8 : ¬ (5 ≤ l2_7.toInt) := zMn tc_5 rfl c8
                    refine lv_aload_n hx hb dX1_muster_54 rfl (lv_at hl 2 rfl) ?_
                    refine va_get (D := (dC, dI)) (ci := 1) (v := .ref (x 22)) (C := RX1) (T := TX1) (N := 2) hx hb hts inB_1 hown hE.1 hP 22 rfl rfl 1 (Nat.le_of_ble_eq_true rfl) (hts _ k_319) (fun _ h9 => h9) rfl dX1_muster_55 ?_
                    refine lv_bipush (v := 12) hx hb dX1_muster_58 rfl ?_
                    refine lv_iload_n hx hb dX1_muster_60 rfl (lv_at hl 0 rfl) ?_
                    refine lv_bipush (v := 6) hx hb dX1_muster_61 rfl ?_
                    refine lv_imul hx hb dX1_muster_63 ?_
                    refine lv_topi (fun t12 et12 => ?_)
                    have zt12 : t12.toInt = l2_7.toInt * 6 := (congrArg Int32.toInt et12).trans (mul_i rfl tc_6 (om_110 hr2_7) (om_111 zc8))
                    refine lv_iadd hx hb dX1_muster_64 ?_
                    refine lv_topi (fun t14 et14 => ?_)
                    have rg15 := fb_rng t12
                    have zt14 : t14.toInt = 12 + t12.toInt := (congrArg Int32.toInt et14).trans (add_i tc_12 rfl (om_112 rg15) (om_113 zc8 zt12))
                    refine lv_iload_n hx hb dX1_muster_65 rfl (lv_at hl 1 rfl) ?_
                    refine lv_iadd hx hb dX1_muster_66 ?_
                    refine lv_topi (fun t16 et16 => ?_)
                    have rg17 := fb_rng t14
                    have zt16 : t16.toInt = t14.toInt + l1_3.toInt := (congrArg Int32.toInt et16).trans (add_i rfl rfl (om_114 hr1_3 rg17) (om_115 zc4 zc8 zt12 zt14))
                    refine lv_aload_n hx hb dX1_muster_67 rfl (lv_at hl 2 rfl) ?_
                    refine va_get (D := (dC, dI)) (ci := 1) (v := .ref (x 26)) (C := RX1) (T := TX1) (N := 2) hx hb hts inB_1 hown hE.1 hP 22 rfl rfl 0 (Nat.le_of_ble_eq_true rfl) (hts _ k_318) (fun _ h9 => h9) rfl dX1_muster_68 ?_
                    refine lv_iload_n hx hb dX1_muster_71 rfl (lv_at hl 0 rfl) ?_
                    refine lv_iload_n hx hb dX1_muster_72 rfl (lv_at hl 1 rfl) ?_
                    refine cbVi (n := 2) (rest := [.int t16, .ref (x 22)]) hx hb hml hown hts hE hP hD hS hA (sX_X7_coatPart_1 NF l dC dI cy x0 x l2_7 l1_3 v7 f7 hIv7 ) k_310 k_311 k_312 k_104 k_313 hd_yX7_coatPart ⟨Nat.le_of_ble_eq_true rfl, Nat.le_of_ble_eq_true rfl⟩ 27 7 rfl rfl (rfl) hl.1 rfl (Nat.le_of_ble_eq_true rfl) dX1_muster_73 (fun r19 u H locs hw hP hD hS => ?_)
                    have hG20 := hw
                    refine stI hx hb hE hP hD hS 23 rfl (vpI (k := 44) rfl (show 0 ≤ t16.toInt from om_116 hr1_3 hr2_7 zt12 zt14 zt16) (show t16.toInt < 44 from om_117 zc4 zc8 zt12 zt14 zt16)) rfl dX1_muster_76 (fun H locs hP hD hS => ?_)
                    obtain ⟨f21, ef21, hP, hD⟩ : ∃ fz9, fz9 = upd2 f7 15 (upd (f7 15) t16.toNatClampNeg r19) ∧ va_P (dC, dI) vwCl (XW cy x0 x v7 fz9) H ∧ va_D A (XW cy x0 x v7 fz9) := ⟨_, rfl, hP, hD⟩
                    have hA_f21 : KF [15] f21 f := by rw [ef21]; exact KF.up hA_f7 rfl
                    obtain ⟨t22, et22⟩ : ∃ y : Int32, y = l2_7 + 1 := ⟨_, rfl⟩
                    have zt22 : t22.toInt = l2_7.toInt + 1 := (congrArg Int32.toInt et22).trans (add_i rfl tc_1 (om_41 hr2_7) (om_118 zc8))
                    refine lv_iinc (v := t22) (lv' := [(2, .int t22), (1, .int l1_3), (0, .ref (x 21))]) hx hb dX1_muster_77 hl (k := 0) rfl et22.symm (Nat.le_of_ble_eq_true rfl) rfl (fun ls hl => ?_)
                    refine lv_goto (tgt := 49) hx hb dX1_muster_80 rfl ?_
                    have rg23 := fb_rng t22
                    exact ih7 t22 v7 f21 hIv7 hq0_v7 hq1_v7 hq7_v7 hq8_v7 hq9_v7 hq10_v7 hq31_v7 hq32_v7 ((gsX_X1_muster_1_q2 c8 et12 et14 et16 hG20.symm ef21 et22).symm.trans hT7) ⟨show (0 : Int) ≤ t22.toInt from om_43 hr2_7 zt22, show t22.toInt ≤ (2147483647 : Int) from om_44 rg23⟩ hM_v7 hA_f21 (show (2147483647 - t22.toInt).toNat < n7 from om_33 hm7 zt22 rg23) _ _ _ hP hD hS (lv_sub hl [0, 1, 2] rfl)
              exact lp7 (4294967296 + NF) 0 v3 f3 hIv3 hq0_v3 hq1_v3 hq7_v3 hq8_v3 hq9_v3 hq10_v3 hq31_v3 hq32_v3 ((gsX_X1_muster_1_q3 c4).symm.trans hT3) ⟨by decide, by decide⟩ hM_v3 hA_f3 (show (2147483647 - (0 : Int32).toInt).toNat < 4294967296 + NF from om_38 tc_0) _ _ _ hP hD hS (lv_sub hl [0, 1, 2] rfl)
        exact lp3 (4294967296 + NF) 0 v1 f1 hIv1 hq0_v1 hq1_v1 hq7_v1 hq8_v1 hq9_v1 hq10_v1 hq31_v1 hq32_v1 ((gsX_X1_muster_1_q4 c2).symm.trans hT1) ⟨by decide, by decide⟩ hM_v1 hA_f1 (show (2147483647 - (0 : Int32).toInt).toNat < 4294967296 + NF from om_38 tc_0) _ _ _ hP hD hS (lv_sub hl [0, 1] rfl)
      · skip
        have zc2 : ¬ (6 ≤ l1_1.toInt) := zMn tc_6 rfl c2
        refine lv_aload_n hx hb dX1_muster_8 rfl (lv_at hl 1 rfl) ?_
        refine va_get (D := (dC, dI)) (ci := 1) (v := .ref (x 22)) (C := RX1) (T := TX1) (N := 2) hx hb hts inB_1 hown hE.1 hP 22 rfl rfl 1 (Nat.le_of_ble_eq_true rfl) (hts _ k_319) (fun _ h9 => h9) rfl dX1_muster_9 ?_
        refine lv_iload_n hx hb dX1_muster_12 rfl (lv_at hl 0 rfl) ?_
        refine lv_aload_n hx hb dX1_muster_13 rfl (lv_at hl 1 rfl) ?_
        refine va_get (D := (dC, dI)) (ci := 1) (v := .ref (x 26)) (C := RX1) (T := TX1) (N := 2) hx hb hts inB_1 hown hE.1 hP 22 rfl rfl 0 (Nat.le_of_ble_eq_true rfl) (hts _ k_318) (fun _ h9 => h9) rfl dX1_muster_14 ?_
        refine lv_iconst (v := 1) hx hb dX1_muster_17 rfl ?_
        refine lv_iload_n hx hb dX1_muster_18 rfl (lv_at hl 0 rfl) ?_
        refine cbVi (n := 2) (rest := [.int l1_1, .ref (x 22)]) hx hb hml hown hts hE hP hD hS hA (sX_X7_manPart_1 NF l dC dI cy x0 x 1 l1_1 v1 f1 hIv1 ) k_302 k_303 k_304 k_104 k_305 hd_yX7_manPart ⟨Nat.le_of_ble_eq_true rfl, Nat.le_of_ble_eq_true rfl⟩ 27 7 rfl rfl (rfl) hl.1 rfl (Nat.le_of_ble_eq_true rfl) dX1_muster_19 (fun r24 u H locs hw hP hD hS => ?_)
        have hG25 := hw
        refine stI hx hb hE hP hD hS 23 rfl (vpI (k := 44) rfl (show 0 ≤ l1_1.toInt from om_39 hr1_1) (show l1_1.toInt < 44 from om_119 zc2)) rfl dX1_muster_22 (fun H locs hP hD hS => ?_)
        obtain ⟨f26, ef26, hP, hD⟩ : ∃ fz9, fz9 = upd2 f1 15 (upd (f1 15) l1_1.toNatClampNeg r24) ∧ va_P (dC, dI) vwCl (XW cy x0 x v1 fz9) H ∧ va_D A (XW cy x0 x v1 fz9) := ⟨_, rfl, hP, hD⟩
        have hA_f26 : KF [15] f26 f := by rw [ef26]; exact KF.up hA_f1 rfl
        refine lv_aload_n hx hb dX1_muster_23 rfl (lv_at hl 1 rfl) ?_
        refine va_get (D := (dC, dI)) (ci := 1) (v := .ref (x 22)) (C := RX1) (T := TX1) (N := 2) hx hb hts inB_1 hown hE.1 hP 22 rfl rfl 1 (Nat.le_of_ble_eq_true rfl) (hts _ k_319) (fun _ h9 => h9) rfl dX1_muster_24 ?_
        refine lv_bipush (v := 6) hx hb dX1_muster_27 rfl ?_
        refine lv_iload_n hx hb dX1_muster_29 rfl (lv_at hl 0 rfl) ?_
        refine lv_iadd hx hb dX1_muster_30 ?_
        refine lv_topi (fun t27 et27 => ?_)
        have zt27 : t27.toInt = 6 + l1_1.toInt := (congrArg Int32.toInt et27).trans (add_i tc_6 rfl (om_120 hr1_1) (om_71 zc2))
        refine lv_iconst (v := (-1)) hx hb dX1_muster_31 rfl ?_
        refine stI hx hb hE hP hD hS 23 rfl (vpI (k := 44) rfl (show 0 ≤ t27.toInt from om_121 hr1_1 zt27) (show t27.toInt < 44 from om_122 zc2 zt27)) rfl dX1_muster_32 (fun H locs hP hD hS => ?_)
        obtain ⟨f29, ef29, hP, hD⟩ : ∃ fz9, fz9 = upd2 f26 15 (upd (f26 15) t27.toNatClampNeg (-1)) ∧ va_P (dC, dI) vwCl (XW cy x0 x v1 fz9) H ∧ va_D A (XW cy x0 x v1 fz9) := ⟨_, rfl, hP, hD⟩
        have hA_f29 : KF [15] f29 f := by rw [ef29]; exact KF.up hA_f26 rfl
        obtain ⟨t30, et30⟩ : ∃ y : Int32, y = l1_1 + 1 := ⟨_, rfl⟩
        have zt30 : t30.toInt = l1_1.toInt + 1 := (congrArg Int32.toInt et30).trans (add_i rfl tc_1 (om_41 hr1_1) (om_65 zc2))
        refine lv_iinc (v := t30) (lv' := [(1, .int t30), (0, .ref (x 21))]) hx hb dX1_muster_33 hl (k := 0) rfl et30.symm (Nat.le_of_ble_eq_true rfl) rfl (fun ls hl => ?_)
        refine lv_goto (tgt := 2) hx hb dX1_muster_36 rfl ?_
        have rg31 := fb_rng t30
        exact ih1 t30 v1 f29 hIv1 hq0_v1 hq1_v1 hq7_v1 hq8_v1 hq9_v1 hq10_v1 hq31_v1 hq32_v1 ((gsX_X1_muster_1_q5 c2 hG25.symm ef26 et27 ef29 et30).symm.trans hT1) ⟨show (0 : Int) ≤ t30.toInt from om_43 hr1_1 zt30, show t30.toInt ≤ (2147483647 : Int) from om_44 rg31⟩ hM_v1 hA_f29 (show (2147483647 - t30.toInt).toNat < n1 from om_33 hm1 zt30 rg31) _ _ _ hP hD hS (lv_sub hl [0, 1] rfl)
  exact lp1 (4294967296 + NF) 0 v f hIv rfl rfl rfl rfl rfl rfl rfl rfl gsX_X1_muster_1_q6.symm ⟨by decide, by decide⟩ hM_v hA_f (show (2147483647 - (0 : Int32).toInt).toNat < 4294967296 + NF from om_38 tc_0) _ _ _ hP hD hS (lv_sub hl [0, 1] rfl)
set_option maxHeartbeats 4000000 in
set_option maxRecDepth 100000 in
theorem sX_X1_saveTo_1 (NF : Nat) (l : Launch) (dC : Nat → ClassId) (dI : Nat → Nat → Nat) (cy : Nat → ClassId) (x0 : Nat) (x : Nat → Nat) (p2 : Int32) (v : Nat → Int32) (f : Nat → Nat → Int32) (hIv : XI v)  : ctV l (dC, dI) cy yX1_saveTo cX1_saveTo 3 1 100 0 0 ((Nat → Int32) × (Nat → Nat → Int32)) [.ref (x 21), .ref (x 24), .int p2] (XW cy x0 x v f) (fun u => gsX_X1_saveTo_1 NF p2 v f = u ∧ KV [] u.1 v ∧ KF [17] u.2 f ∧ XI u.1 ∧ u.1 0 = v 0 ∧ u.1 1 = v 1 ∧ u.1 7 = v 7 ∧ u.1 8 = v 8 ∧ u.1 9 = v 9 ∧ u.1 10 = v 10 ∧ u.1 31 = v 31 ∧ u.1 32 = v 32) (fun u => XW cy x0 x u.1 u.2) := by
  refine ctV_of (by decide) (Nat.le_of_ble_eq_true rfl) (fun p e s m below meth c A ls Q hx hb hml hts hown hnm hE hP hD hA hl ret => ?_)
  have hM_v : KV [] v v := fun _ _ => rfl
  have hA_f : KF [17] f f := fun _ _ => rfl
  have hown : s.vm.findClass RX1 = some m.cls := hown
  have hS : va_S A s.heap s.heap [] := va_S.rf
  have hl : lv_has ls 3 [(0, .ref (x 21)), (1, .ref (x 24)), (2, .int p2)] := hl
  refine lv_iload_n hx hb dX1_saveTo_0 rfl (lv_at hl 2 rfl) ?_
  refine lv_if_lt (tgt := 28) hx hb dX1_saveTo_1 rfl (fun c1 => ?_) (fun c1 => ?_)
  · skip
    exact ret (v, f) _ _ _ _ _ _ ⟨(gsX_X1_saveTo_1_q0 c1), hM_v, hA_f, hIv, rfl, rfl, rfl, rfl, rfl, rfl, rfl, rfl⟩ hP hD hS dX1_saveTo_28 (Nat.le_refl _) (Nat.le_refl _)
  · skip
    have zc1 : ¬ (p2.toInt < 0) := zLn rfl tc_0 c1
    refine lv_iload_n hx hb dX1_saveTo_4 rfl (lv_at hl 2 rfl) ?_
    refine lv_aload_n hx hb dX1_saveTo_5 rfl (lv_at hl 1 rfl) ?_
    refine va_alen (v := 1804) hx hb hE.1 hP 25 1 rfl rfl rfl dX1_saveTo_6 ?_
    refine lv_bipush (v := 44) hx hb dX1_saveTo_7 rfl ?_
    refine lv_idiv hx hb dX1_saveTo_9 (by decide) ?_
    refine tI (y := 41) (by decide) ?_
    refine lv_icmp_ge (tgt := 28) hx hb dX1_saveTo_10 rfl (fun c2 => ?_) (fun c2 => ?_)
    · skip
      exact ret (v, f) _ _ _ _ _ _ ⟨(gsX_X1_saveTo_1_q1 c1 c2), hM_v, hA_f, hIv, rfl, rfl, rfl, rfl, rfl, rfl, rfl, rfl⟩ hP hD hS dX1_saveTo_28 (Nat.le_refl _) (Nat.le_refl _)
    · skip
      have zc2 : ¬ (41 ≤ p2.toInt) := zMn tc_41 rfl c2
      refine lv_aload_n hx hb dX1_saveTo_13 rfl (lv_at hl 0 rfl) ?_
      refine va_get (D := (dC, dI)) (ci := 1) (v := .ref (x 22)) (C := RX1) (T := TX1) (N := 2) hx hb hts inB_1 hown hE.1 hP 22 rfl rfl 1 (Nat.le_of_ble_eq_true rfl) (hts _ k_319) (fun _ h9 => h9) rfl dX1_saveTo_14 ?_
      refine lv_iconst (v := 0) hx hb dX1_saveTo_17 rfl ?_
      refine lv_aload_n hx hb dX1_saveTo_18 rfl (lv_at hl 1 rfl) ?_
      refine lv_iload_n hx hb dX1_saveTo_19 rfl (lv_at hl 2 rfl) ?_
      refine lv_bipush (v := 44) hx hb dX1_saveTo_20 rfl ?_
      refine lv_imul hx hb dX1_saveTo_22 ?_
      refine lv_topi (fun t3 et3 => ?_)
      have rg4 := fb_rng p2
      have zt3 : t3.toInt = p2.toInt * 44 := (congrArg Int32.toInt et3).trans (mul_i rfl tc_44 (om_123 zc1) (om_124 zc2))
      refine lv_bipush (v := 44) hx hb dX1_saveTo_23 rfl ?_
      refine cpE (zs := 0) (zd := t3.toInt) (zn := 44) hx hb (by rw [hml]; exact hl.1.symm) hown (hts _ k_335) (hts _ k_337) (hts _ k_336) (hts _ k_108) hE hP hD hS 23 25 rfl rfl (by decide) rfl (by decide) (by omega) (by omega) (by omega) (by omega) (by omega) (Nat.le_of_ble_eq_true rfl) (Nat.le_of_ble_eq_true rfl) dX1_saveTo_25 (fun H locs hP hD hS => ?_)
      obtain ⟨f5, ef5, hP, hD⟩ : ∃ fz9, fz9 = upd2 f 17 (va_cpy (f 15) (f 17) (0 : Int32).toNatClampNeg (t3).toNatClampNeg (44 : Int32).toNatClampNeg) ∧ va_P (dC, dI) vwCl (XW cy x0 x v fz9) H ∧ va_D A (XW cy x0 x v fz9) := ⟨_, rfl, hP, hD⟩
      have hA_f5 : KF [17] f5 f := by rw [ef5]; exact KF.up hA_f rfl
      exact ret (v, f5) _ _ _ _ _ _ ⟨(gsX_X1_saveTo_1_q2 c1 c2 et3 ef5), hM_v, hA_f5, hIv, rfl, rfl, rfl, rfl, rfl, rfl, rfl, rfl⟩ hP hD hS dX1_saveTo_28 (Nat.le_refl _) (Nat.le_refl _)
set_option maxHeartbeats 4000000 in
set_option maxRecDepth 100000 in
theorem sX_X5_forgetActs_1 (NF : Nat) (l : Launch) (dC : Nat → ClassId) (dI : Nat → Nat → Nat) (cy : Nat → ClassId) (x0 : Nat) (x : Nat → Nat)  (v : Nat → Int32) (f : Nat → Nat → Int32) (hIv : XI v)  : ctV l (dC, dI) cy yX5_forgetActs cX5_forgetActs 1 2 122 0 0 ((Nat → Int32) × (Nat → Nat → Int32)) [.ref (x 20)] (XW cy x0 x v f) (fun u => gsX_X5_forgetActs_1 NF v f = u ∧ KV [21, 22, 23] u.1 v ∧ KF [17] u.2 f ∧ XI u.1 ∧ u.1 0 = v 0 ∧ u.1 1 = v 1 ∧ u.1 7 = v 7 ∧ u.1 8 = v 8 ∧ u.1 9 = v 9 ∧ u.1 10 = v 10 ∧ u.1 31 = v 31 ∧ u.1 32 = v 32) (fun u => XW cy x0 x u.1 u.2) := by
  refine ctV_of (by decide) (Nat.le_of_ble_eq_true rfl) (fun p e s m below meth c A ls Q hx hb hml hts hown hnm hE hP hD hA hl ret => ?_)
  have hM_v : KV [21, 22, 23] v v := fun _ _ => rfl
  have hA_f : KF [17] f f := fun _ _ => rfl
  have hown : s.vm.findClass RX5 = some m.cls := hown
  have hS : va_S A s.heap s.heap [] := va_S.rf
  have hl : lv_has ls 1 [(0, .ref (x 20))] := hl
  refine lv_aload_n hx hb dX5_forgetActs_0 rfl (lv_at hl 0 rfl) ?_
  refine lv_iconst (v := 0) hx hb dX5_forgetActs_1 rfl ?_
  refine va_put (D := (dC, dI)) (ci := 5) (v := .int 0) (ty := tyX5 4) (C := RX5) (T := TX5) (N := 7) hx hb hts inB_5 tyX5 tyX5_ok nmX5 hown hE.1 hP hD hS 21 rfl rfl 4 (Nat.le_of_ble_eq_true rfl) (hts _ k_342) (fun _ h9 => h9) rfl (tyX5_ok 4 (Nat.le_of_ble_eq_true rfl)) rfl rfl (Nat.le_of_ble_eq_true rfl) dX5_forgetActs_2 (fun H locs hP hD hS => ?_)
  have hP : va_P (dC, dI) vwCl (XW cy x0 x (upd v 21 0) f) H := hP
  have hD : va_D A (XW cy x0 x (upd v 21 0) f) := hD
  refine lv_aload_n hx hb dX5_forgetActs_5 rfl (lv_at hl 0 rfl) ?_
  refine lv_iconst (v := 0) hx hb dX5_forgetActs_6 rfl ?_
  refine va_put (D := (dC, dI)) (ci := 5) (v := .int 0) (ty := tyX5 5) (C := RX5) (T := TX5) (N := 7) hx hb hts inB_5 tyX5 tyX5_ok nmX5 hown hE.1 hP hD hS 21 rfl rfl 5 (Nat.le_of_ble_eq_true rfl) (hts _ k_343) (fun _ h9 => h9) rfl (tyX5_ok 5 (Nat.le_of_ble_eq_true rfl)) rfl rfl (Nat.le_of_ble_eq_true rfl) dX5_forgetActs_7 (fun H locs hP hD hS => ?_)
  have hP : va_P (dC, dI) vwCl (XW cy x0 x (upd (upd v 21 0) 22 0) f) H := hP
  have hD : va_D A (XW cy x0 x (upd (upd v 21 0) 22 0) f) := hD
  refine lv_aload_n hx hb dX5_forgetActs_10 rfl (lv_at hl 0 rfl) ?_
  refine lv_iconst (v := 0) hx hb dX5_forgetActs_11 rfl ?_
  refine va_put (D := (dC, dI)) (ci := 5) (v := .int 0) (ty := tyX5 6) (C := RX5) (T := TX5) (N := 7) hx hb hts inB_5 tyX5 tyX5_ok nmX5 hown hE.1 hP hD hS 21 rfl rfl 6 (Nat.le_of_ble_eq_true rfl) (hts _ k_345) (fun _ h9 => h9) rfl (tyX5_ok 6 (Nat.le_of_ble_eq_true rfl)) rfl rfl (Nat.le_of_ble_eq_true rfl) dX5_forgetActs_12 (fun H locs hP hD hS => ?_)
  have hP : va_P (dC, dI) vwCl (XW cy x0 x (upd (upd (upd v 21 0) 22 0) 23 0) f) H := hP
  have hD : va_D A (XW cy x0 x (upd (upd (upd v 21 0) 22 0) 23 0) f) := hD
  refine lv_aload_n hx hb dX5_forgetActs_15 rfl (lv_at hl 0 rfl) ?_
  refine va_get (D := (dC, dI)) (ci := 5) (v := .ref (x 21)) (C := RX5) (T := TX5) (N := 7) hx hb hts inB_5 hown hE.1 hP 21 rfl rfl 0 (Nat.le_of_ble_eq_true rfl) (hts _ k_338) (fun _ h9 => h9) rfl dX5_forgetActs_16 ?_
  refine lv_aload_n hx hb dX5_forgetActs_19 rfl (lv_at hl 0 rfl) ?_
  refine va_get (D := (dC, dI)) (ci := 5) (v := .ref (x 24)) (C := RX5) (T := TX5) (N := 7) hx hb hts inB_5 hown hE.1 hP 21 rfl rfl 1 (Nat.le_of_ble_eq_true rfl) (hts _ k_339) (fun _ h9 => h9) rfl dX5_forgetActs_20 ?_
  refine lv_iconst (v := 0) hx hb dX5_forgetActs_23 rfl ?_
  refine cbVv (n := 2) (rest := []) hx hb hml hown hts hE hP hD hS hA (sX_X1_saveTo_1 NF l dC dI cy x0 x 0 (upd (upd (upd v 21 0) 22 0) 23 0) f (Xu_23 (x := 0) (Xu_22 (x := 0) (Xu_21 (x := 0) hIv (rlo _) (rhi _)) (rlo _) (rhi _)) (rlo _) (rhi _)) ) k_331 k_332 k_333 k_106 k_334 hd_yX1_saveTo ⟨Nat.le_of_ble_eq_true rfl, Nat.le_of_ble_eq_true rfl⟩ 22 1 rfl rfl (rfl) hl.1 rfl (Nat.le_of_ble_eq_true rfl) dX5_forgetActs_24 (fun u H locs hw hP hD hS => ?_)
  obtain ⟨hG1, hw⟩ := hw
  obtain ⟨v2, f3⟩ := u
  obtain ⟨kV_v2, kF_f3, hIv2, hk0_v2, hk1_v2, hk7_v2, hk8_v2, hk9_v2, hk10_v2, hk31_v2, hk32_v2⟩ := hw
  have hM_v2 : KV [21, 22, 23] v2 v := KV.tr kV_v2 (KV.up (j := 23) (x := 0) (KV.up (j := 22) (x := 0) (KV.up (j := 21) (x := 0) hM_v rfl) rfl) rfl) rfl
  have hA_f3 : KF [17] f3 f := KF.tr kF_f3 hA_f rfl
  have hP : va_P (dC, dI) vwCl (XW cy x0 x v2 f3) H := hP
  have hD : va_D A (XW cy x0 x v2 f3) := hD
  have hq0_v2 : v2 0 = (v 0) := hk0_v2
  have hq1_v2 : v2 1 = (v 1) := hk1_v2
  have hq7_v2 : v2 7 = (v 7) := hk7_v2
  have hq8_v2 : v2 8 = (v 8) := hk8_v2
  have hq9_v2 : v2 9 = (v 9) := hk9_v2
  have hq10_v2 : v2 10 = (v 10) := hk10_v2
  have hq31_v2 : v2 31 = (v 31) := hk31_v2
  have hq32_v2 : v2 32 = (v 32) := hk32_v2
  exact ret (v2, f3) _ _ _ _ _ _ ⟨(gsX_X5_forgetActs_1_q0 hG1), hM_v2, hA_f3, hIv2, hk0_v2, hk1_v2, hk7_v2, hk8_v2, hk9_v2, hk10_v2, hk31_v2, hk32_v2⟩ hP hD hS dX5_forgetActs_27 (Nat.le_refl _) (Nat.le_refl _)
set_option maxHeartbeats 4000000 in
set_option maxRecDepth 100000 in
theorem sX_X5_forgetAll_1 (NF : Nat) (l : Launch) (dC : Nat → ClassId) (dI : Nat → Nat → Nat) (cy : Nat → ClassId) (x0 : Nat) (x : Nat → Nat)  (v : Nat → Int32) (f : Nat → Nat → Int32) (hIv : XI v)  : ctV l (dC, dI) cy yX5_forgetAll cX5_forgetAll 1 3 142 0 0 ((Nat → Int32) × (Nat → Nat → Int32)) [.ref (x 20)] (XW cy x0 x v f) (fun u => gsX_X5_forgetAll_1 NF v f = u ∧ KV [20, 21, 22, 23] u.1 v ∧ KF [17] u.2 f ∧ XI u.1 ∧ u.1 0 = v 0 ∧ u.1 1 = v 1 ∧ u.1 7 = v 7 ∧ u.1 8 = v 8 ∧ u.1 9 = v 9 ∧ u.1 10 = v 10 ∧ u.1 31 = v 31 ∧ u.1 32 = v 32) (fun u => XW cy x0 x u.1 u.2) := by
  refine ctV_of (by decide) (Nat.le_of_ble_eq_true rfl) (fun p e s m below meth c A ls Q hx hb hml hts hown hnm hE hP hD hA hl ret => ?_)
  have hM_v : KV [20, 21, 22, 23] v v := fun _ _ => rfl
  have hA_f : KF [17] f f := fun _ _ => rfl
  have hown : s.vm.findClass RX5 = some m.cls := hown
  have hS : va_S A s.heap s.heap [] := va_S.rf
  have hl : lv_has ls 1 [(0, .ref (x 20))] := hl
  refine lv_aload_n hx hb dX5_forgetAll_0 rfl (lv_at hl 0 rfl) ?_
  refine lv_iconst (v := 0) hx hb dX5_forgetAll_1 rfl ?_
  refine va_put (D := (dC, dI)) (ci := 5) (v := .int 0) (ty := tyX5 3) (C := RX5) (T := TX5) (N := 7) hx hb hts inB_5 tyX5 tyX5_ok nmX5 hown hE.1 hP hD hS 21 rfl rfl 3 (Nat.le_of_ble_eq_true rfl) (hts _ k_341) (fun _ h9 => h9) rfl (tyX5_ok 3 (Nat.le_of_ble_eq_true rfl)) rfl rfl (Nat.le_of_ble_eq_true rfl) dX5_forgetAll_2 (fun H locs hP hD hS => ?_)
  have hP : va_P (dC, dI) vwCl (XW cy x0 x (upd v 20 0) f) H := hP
  have hD : va_D A (XW cy x0 x (upd v 20 0) f) := hD
  refine lv_aload_n hx hb dX5_forgetAll_5 rfl (lv_at hl 0 rfl) ?_
  refine cbVv (n := 0) (rest := []) hx hb hml hown hts hE hP hD hS hA (sX_X5_forgetActs_1 NF l dC dI cy x0 x  (upd v 20 0) f (Xu_20 (x := 0) hIv (rlo _) (rhi _)) ) k_782 k_784 k_19 k_107 k_785 hd_yX5_forgetActs ⟨Nat.le_of_ble_eq_true rfl, Nat.le_of_ble_eq_true rfl⟩ 21 5 rfl rfl (rfl) hl.1 rfl (Nat.le_of_ble_eq_true rfl) dX5_forgetAll_6 (fun u H locs hw hP hD hS => ?_)
  obtain ⟨hG1, hw⟩ := hw
  obtain ⟨v2, f3⟩ := u
  obtain ⟨kV_v2, kF_f3, hIv2, hk0_v2, hk1_v2, hk7_v2, hk8_v2, hk9_v2, hk10_v2, hk31_v2, hk32_v2⟩ := hw
  have hM_v2 : KV [20, 21, 22, 23] v2 v := KV.tr kV_v2 (KV.up (j := 20) (x := 0) hM_v rfl) rfl
  have hA_f3 : KF [17] f3 f := KF.tr kF_f3 hA_f rfl
  have hP : va_P (dC, dI) vwCl (XW cy x0 x v2 f3) H := hP
  have hD : va_D A (XW cy x0 x v2 f3) := hD
  have hq0_v2 : v2 0 = (v 0) := hk0_v2
  have hq1_v2 : v2 1 = (v 1) := hk1_v2
  have hq7_v2 : v2 7 = (v 7) := hk7_v2
  have hq8_v2 : v2 8 = (v 8) := hk8_v2
  have hq9_v2 : v2 9 = (v 9) := hk9_v2
  have hq10_v2 : v2 10 = (v 10) := hk10_v2
  have hq31_v2 : v2 31 = (v 31) := hk31_v2
  have hq32_v2 : v2 32 = (v 32) := hk32_v2
  exact ret (v2, f3) _ _ _ _ _ _ ⟨(gsX_X5_forgetAll_1_q0 hG1), hM_v2, hA_f3, hIv2, hk0_v2, hk1_v2, hk7_v2, hk8_v2, hk9_v2, hk10_v2, hk31_v2, hk32_v2⟩ hP hD hS dX5_forgetAll_9 (Nat.le_refl _) (Nat.le_refl _)
set_option maxHeartbeats 4000000 in
set_option maxRecDepth 100000 in
theorem sX_X0_clear_1 (NF : Nat) (l : Launch) (dC : Nat → ClassId) (dI : Nat → Nat → Nat) (cy : Nat → ClassId) (x0 : Nat) (x : Nat → Nat)  (v : Nat → Int32) (f : Nat → Nat → Int32) (hIv : XI v)  : ctV l (dC, dI) cy yX0_clear cX0_clear 1 1 60 0 0 ((Nat → Int32) × (Nat → Nat → Int32)) [.ref (x 31)] (XW cy x0 x v f) (fun u => gsX_X0_clear_1 NF v f = u ∧ KV [38] u.1 v ∧ KF [] u.2 f ∧ XI u.1 ∧ u.1 0 = v 0 ∧ u.1 1 = v 1 ∧ u.1 7 = v 7 ∧ u.1 8 = v 8 ∧ u.1 9 = v 9 ∧ u.1 10 = v 10 ∧ u.1 31 = v 31 ∧ u.1 32 = v 32) (fun u => XW cy x0 x u.1 u.2) := by
  refine ctV_of (by decide) (Nat.le_of_ble_eq_true rfl) (fun p e s m below meth c A ls Q hx hb hml hts hown hnm hE hP hD hA hl ret => ?_)
  have hM_v : KV [38] v v := fun _ _ => rfl
  have hA_f : KF [] f f := fun _ _ => rfl
  have hown : s.vm.findClass RX0 = some m.cls := hown
  have hS : va_S A s.heap s.heap [] := va_S.rf
  have hl : lv_has ls 1 [(0, .ref (x 31))] := hl
  refine lv_aload_n hx hb dX0_clear_0 rfl (lv_at hl 0 rfl) ?_
  refine lv_iconst (v := 0) hx hb dX0_clear_1 rfl ?_
  refine va_put (D := (dC, dI)) (ci := 0) (v := .int 0) (ty := tyX0 3) (C := RX0) (T := TX0) (N := 8) hx hb hts inB_0 tyX0 tyX0_ok nmX0 hown hE.1 hP hD hS 32 rfl rfl 3 (Nat.le_of_ble_eq_true rfl) (hts _ k_433) (fun _ h9 => h9) rfl (tyX0_ok 3 (Nat.le_of_ble_eq_true rfl)) rfl rfl (Nat.le_of_ble_eq_true rfl) dX0_clear_2 (fun H locs hP hD hS => ?_)
  have hP : va_P (dC, dI) vwCl (XW cy x0 x (upd v 38 0) f) H := hP
  have hD : va_D A (XW cy x0 x (upd v 38 0) f) := hD
  exact ret ((upd v 38 0), f) _ _ _ _ _ _ ⟨gsX_X0_clear_1_q0, (KV.up (j := 38) (x := 0) hM_v rfl), hA_f, (Xu_38 (x := 0) hIv (by decide) (by decide)), rfl, rfl, rfl, rfl, rfl, rfl, rfl, rfl⟩ hP hD hS dX0_clear_5 (Nat.le_refl _) (Nat.le_refl _)
set_option maxHeartbeats 4000000 in
set_option maxRecDepth 100000 in
theorem sX_J7_fill_53178_1 (NF : Nat) (l : Launch) (dC : Nat → ClassId) (dI : Nat → Nat → Nat) (cy : Nat → ClassId) (x0 : Nat) (x : Nat → Nat) (p1 : Int32) (v : Nat → Int32) (f : Nat → Nat → Int32) (hIv : XI v)  : ctV l (dC, dI) cy yJ7_fill_53178 cJ7_fill_53178 4 1 60 0 0 ((Nat → Int32) × (Nat → Nat → Int32)) [.ref (x 40), .int p1] (XW cy x0 x v f) (fun u => gsX_J7_fill_53178_1 NF p1 v f = u ∧ KV [] u.1 v ∧ KF [27] u.2 f ∧ XI u.1 ∧ u.1 0 = v 0 ∧ u.1 1 = v 1 ∧ u.1 7 = v 7 ∧ u.1 8 = v 8 ∧ u.1 9 = v 9 ∧ u.1 10 = v 10 ∧ u.1 31 = v 31 ∧ u.1 32 = v 32) (fun u => XW cy x0 x u.1 u.2) := by
  refine ctV_of (by decide) (Nat.le_of_ble_eq_true rfl) (fun p e s m below meth c A ls Q hx hb hml hts hown hnm hE hP hD hA hl ret => ?_)
  have hM_v : KV [] v v := fun _ _ => rfl
  have hA_f : KF [27] f f := fun _ _ => rfl
  have hown : s.vm.findClass RJ7 = some m.cls := hown
  have hS : va_S A s.heap s.heap [] := va_S.rf
  have hl : lv_has ls 4 [(0, .ref (x 40)), (1, .int p1)] := hl
  refine lv_iconst (v := 0) hx hb dJ7_fill_53178_0 rfl ?_
  refine lv_istore_n (lv' := [(2, .int 0), (0, .ref (x 40)), (1, .int p1)]) hx hb dJ7_fill_53178_1 rfl hl (Nat.le_of_ble_eq_true rfl) rfl (fun ls hl => ?_)
  refine lv_aload_n hx hb dJ7_fill_53178_2 rfl (lv_at hl 1 rfl) ?_
  refine va_alen (v := 21) hx hb hE.1 hP 41 1 rfl rfl rfl dJ7_fill_53178_3 ?_
  refine lv_istore_n (lv' := [(3, .int 21), (2, .int 0), (0, .ref (x 40)), (1, .int p1)]) hx hb dJ7_fill_53178_4 rfl hl (Nat.le_of_ble_eq_true rfl) rfl (fun ls hl => ?_)
  have lp1 : ∀ (n1 : Nat) (l2_1 : Int32) (v1 : Nat → Int32) (f1 : Nat → Nat → Int32), XI v1 → v1 0 = (v 0) → v1 1 = (v 1) → v1 7 = (v 7) → v1 8 = (v 8) → v1 9 = (v 9) → v1 10 = (v 10) → v1 31 = (v 31) → v1 32 = (v 32) → gsX_J7_fill_53178_1_L1 NF p1 n1 l2_1 v1 f1 = (gsX_J7_fill_53178_1 NF p1 v f) → ((0 : Int) ≤ l2_1.toInt ∧ l2_1.toInt ≤ 2147483647) → KV [] v1 v → KF [27] f1 f → (2147483647 - l2_1.toInt).toNat < n1 → ∀ (H : Heap) (locs : List Loc) (ls : Array Slot), va_P (dC, dI) vwCl (XW cy x0 x v1 f1) H → va_D A (XW cy x0 x v1 f1) → va_S A s.heap H locs → lv_has ls 4 [(3, .int 21), (2, .int l2_1), (0, .ref (x 40)), (1, .int p1)] → W p l e { frames := 1, cells := 0, slots := 0, locals := 60 } s m ([.ref (x 40), .int p1] : List Value).toArray below meth c H locs 0 0 Q (F0 m 5 ls []) := by
    intro n1
    induction n1 with
    | zero => intro l2_1 v1 f1 hIv1 hq0_v1 hq1_v1 hq7_v1 hq8_v1 hq9_v1 hq10_v1 hq31_v1 hq32_v1 hT1 hr2_1 hM_v1 hA_f1 hm; exact absurd hm (Nat.not_lt_zero _)
    | succ n1 ih1 =>
      intro l2_1 v1 f1 hIv1 hq0_v1 hq1_v1 hq7_v1 hq8_v1 hq9_v1 hq10_v1 hq31_v1 hq32_v1 hT1 hr2_1 hM_v1 hA_f1 hm1 H locs ls hP hD hS hl
      refine lv_iload_n hx hb dJ7_fill_53178_5 rfl (lv_at hl 1 rfl) ?_
      refine lv_iload_n hx hb dJ7_fill_53178_6 rfl (lv_at hl 0 rfl) ?_
      refine lv_icmp_ge (tgt := 20) hx hb dJ7_fill_53178_7 rfl (fun c2 => ?_) (fun c2 => ?_)
      · skip
        exact ret (v1, f1) _ _ _ _ _ _ ⟨(hT1.symm.trans (gsX_J7_fill_53178_1_q0 c2)), hM_v1, hA_f1, hIv1, (show v1 0 = v 0 from hq0_v1), (show v1 1 = v 1 from hq1_v1), (show v1 7 = v 7 from hq7_v1), (show v1 8 = v 8 from hq8_v1), (show v1 9 = v 9 from hq9_v1), (show v1 10 = v 10 from hq10_v1), (show v1 31 = v 31 from hq31_v1), (show v1 32 = v 32 from hq32_v1)⟩ hP hD hS dJ7_fill_53178_20 (Nat.le_refl _) (Nat.le_refl _)
      · skip
        have zc2 : ¬ (21 ≤ l2_1.toInt) := zMn tc_21 rfl c2
        refine lv_aload_n hx hb dJ7_fill_53178_10 rfl (lv_at hl 2 rfl) ?_
        refine lv_iload_n hx hb dJ7_fill_53178_11 rfl (lv_at hl 1 rfl) ?_
        refine lv_iload_n hx hb dJ7_fill_53178_12 rfl (lv_at hl 3 rfl) ?_
        refine stI hx hb hE hP hD hS 41 rfl (vpI (k := 21) rfl (show 0 ≤ l2_1.toInt from om_39 hr2_1) (show l2_1.toInt < 21 from om_125 zc2)) rfl dJ7_fill_53178_13 (fun H locs hP hD hS => ?_)
        obtain ⟨f3, ef3, hP, hD⟩ : ∃ fz9, fz9 = upd2 f1 27 (upd (f1 27) l2_1.toNatClampNeg p1) ∧ va_P (dC, dI) vwCl (XW cy x0 x v1 fz9) H ∧ va_D A (XW cy x0 x v1 fz9) := ⟨_, rfl, hP, hD⟩
        have hA_f3 : KF [27] f3 f := by rw [ef3]; exact KF.up hA_f1 rfl
        obtain ⟨t4, et4⟩ : ∃ y : Int32, y = l2_1 + 1 := ⟨_, rfl⟩
        have zt4 : t4.toInt = l2_1.toInt + 1 := (congrArg Int32.toInt et4).trans (add_i rfl tc_1 (om_41 hr2_1) (om_126 zc2))
        refine lv_iinc (v := t4) (lv' := [(2, .int t4), (3, .int 21), (0, .ref (x 40)), (1, .int p1)]) hx hb dJ7_fill_53178_14 hl (k := 1) rfl et4.symm (Nat.le_of_ble_eq_true rfl) rfl (fun ls hl => ?_)
        refine lv_goto (tgt := 5) hx hb dJ7_fill_53178_17 rfl ?_
        have rg6 := fb_rng t4
        exact ih1 t4 v1 f3 hIv1 hq0_v1 hq1_v1 hq7_v1 hq8_v1 hq9_v1 hq10_v1 hq31_v1 hq32_v1 ((gsX_J7_fill_53178_1_q1 c2 ef3 et4).symm.trans hT1) ⟨show (0 : Int) ≤ t4.toInt from om_43 hr2_1 zt4, show t4.toInt ≤ (2147483647 : Int) from om_44 rg6⟩ hM_v1 hA_f3 (show (2147483647 - t4.toInt).toNat < n1 from om_33 hm1 zt4 rg6) _ _ _ hP hD hS (lv_sub hl [1, 0, 2, 3] rfl)
  exact lp1 (4294967296 + NF) 0 v f hIv rfl rfl rfl rfl rfl rfl rfl rfl gsX_J7_fill_53178_1_q2.symm ⟨by decide, by decide⟩ hM_v hA_f (show (2147483647 - (0 : Int32).toInt).toNat < 4294967296 + NF from om_38 tc_0) _ _ _ hP hD hS (lv_sub hl [0, 1, 2, 3] rfl)
set_option maxHeartbeats 4000000 in
set_option maxRecDepth 100000 in
theorem sX_X8_clear_1 (NF : Nat) (l : Launch) (dC : Nat → ClassId) (dI : Nat → Nat → Nat) (cy : Nat → ClassId) (x0 : Nat) (x : Nat → Nat)  (v : Nat → Int32) (f : Nat → Nat → Int32) (hIv : XI v)  : ctV l (dC, dI) cy yX8_clear cX8_clear 1 2 83 0 0 ((Nat → Int32) × (Nat → Nat → Int32)) [.ref (x 35)] (XW cy x0 x v f) (fun u => gsX_X8_clear_1 NF v f = u ∧ KV [41] u.1 v ∧ KF [27] u.2 f ∧ XI u.1 ∧ u.1 0 = v 0 ∧ u.1 1 = v 1 ∧ u.1 7 = v 7 ∧ u.1 8 = v 8 ∧ u.1 9 = v 9 ∧ u.1 10 = v 10 ∧ u.1 31 = v 31 ∧ u.1 32 = v 32) (fun u => XW cy x0 x u.1 u.2) := by
  refine ctV_of (by decide) (Nat.le_of_ble_eq_true rfl) (fun p e s m below meth c A ls Q hx hb hml hts hown hnm hE hP hD hA hl ret => ?_)
  have hM_v : KV [41] v v := fun _ _ => rfl
  have hA_f : KF [27] f f := fun _ _ => rfl
  have hown : s.vm.findClass RX8 = some m.cls := hown
  have hS : va_S A s.heap s.heap [] := va_S.rf
  have hl : lv_has ls 1 [(0, .ref (x 35))] := hl
  refine lv_aload_n hx hb dX8_clear_0 rfl (lv_at hl 0 rfl) ?_
  refine lv_iconst (v := 0) hx hb dX8_clear_1 rfl ?_
  refine va_put (D := (dC, dI)) (ci := 8) (v := .int 0) (ty := tyX8 5) (C := RX8) (T := TX8) (N := 7) hx hb hts inB_8 tyX8 tyX8_ok nmX8 hown hE.1 hP hD hS 36 rfl rfl 5 (Nat.le_of_ble_eq_true rfl) (hts _ k_472) (fun _ h9 => h9) rfl (tyX8_ok 5 (Nat.le_of_ble_eq_true rfl)) rfl rfl (Nat.le_of_ble_eq_true rfl) dX8_clear_2 (fun H locs hP hD hS => ?_)
  have hP : va_P (dC, dI) vwCl (XW cy x0 x (upd v 41 0) f) H := hP
  have hD : va_D A (XW cy x0 x (upd v 41 0) f) := hD
  refine lv_aload_n hx hb dX8_clear_5 rfl (lv_at hl 0 rfl) ?_
  refine va_get (D := (dC, dI)) (ci := 8) (v := .ref (x 40)) (C := RX8) (T := TX8) (N := 7) hx hb hts inB_8 hown hE.1 hP 36 rfl rfl 6 (Nat.le_of_ble_eq_true rfl) (hts _ k_474) (fun _ h9 => h9) rfl dX8_clear_6 ?_
  refine lv_iconst (v := (-1)) hx hb dX8_clear_9 rfl ?_
  refine cbSv (n := 2) (rest := []) hx hb hml hown hts hE hP hD hS hA (sX_J7_fill_53178_1 NF l dC dI cy x0 x (-1) (upd v 41 0) f (Xu_41 (x := 0) hIv (by decide) (by decide)) ) k_464 k_465 k_113 k_466 he_yJ7_fill_53178 ⟨Nat.le_of_ble_eq_true rfl, Nat.le_of_ble_eq_true rfl⟩ (rfl) hl.1 rfl (Nat.le_of_ble_eq_true rfl) dX8_clear_10 (fun u H locs hw hP hD hS => ?_)
  obtain ⟨hG1, hw⟩ := hw
  obtain ⟨v2, f3⟩ := u
  obtain ⟨kV_v2, kF_f3, hIv2, hk0_v2, hk1_v2, hk7_v2, hk8_v2, hk9_v2, hk10_v2, hk31_v2, hk32_v2⟩ := hw
  have hM_v2 : KV [41] v2 v := KV.tr kV_v2 (KV.up (j := 41) (x := 0) hM_v rfl) rfl
  have hA_f3 : KF [27] f3 f := KF.tr kF_f3 hA_f rfl
  have hP : va_P (dC, dI) vwCl (XW cy x0 x v2 f3) H := hP
  have hD : va_D A (XW cy x0 x v2 f3) := hD
  have hq0_v2 : v2 0 = (v 0) := hk0_v2
  have hq1_v2 : v2 1 = (v 1) := hk1_v2
  have hq7_v2 : v2 7 = (v 7) := hk7_v2
  have hq8_v2 : v2 8 = (v 8) := hk8_v2
  have hq9_v2 : v2 9 = (v 9) := hk9_v2
  have hq10_v2 : v2 10 = (v 10) := hk10_v2
  have hq31_v2 : v2 31 = (v 31) := hk31_v2
  have hq32_v2 : v2 32 = (v 32) := hk32_v2
  exact ret (v2, f3) _ _ _ _ _ _ ⟨(gsX_X8_clear_1_q0 hG1), hM_v2, hA_f3, hIv2, hk0_v2, hk1_v2, hk7_v2, hk8_v2, hk9_v2, hk10_v2, hk31_v2, hk32_v2⟩ hP hD hS dX8_clear_13 (Nat.le_refl _) (Nat.le_refl _)
set_option maxHeartbeats 4000000 in
set_option maxRecDepth 100000 in
theorem sX_X10_regiment_1 (NF : Nat) (l : Launch) (dC : Nat → ClassId) (dI : Nat → Nat → Nat) (cy : Nat → ClassId) (x0 : Nat) (x : Nat → Nat)  (v : Nat → Int32) (f : Nat → Nat → Int32) (hIv : XI v)  : ctIS l (dC, dI) cy yX10_regiment cX10_regiment 2 .int 65 1616 0 0 ((Nat → Int32) × (Nat → Nat → Int32)) [.ref x0] (XW cy x0 x v f) (fun r u => gsX_X10_regiment_1 NF v f = (r, u) ∧ KV [1, 2, 3, 4, 5, 6, 7, 8, 9, 10, 11, 12, 13, 14, 15, 16, 17, 18, 19, 20, 21, 22, 23, 31, 32, 33, 34, 35, 36, 37, 38, 41] u.1 v ∧ KF [1, 2, 3, 4, 7, 8, 9, 10, 11, 12, 15, 17, 27] u.2 f ∧ XI u.1 ∧ u.1 0 = v 0 ∧ ((u.1 1).toInt = 0) ∧ ((gsX_X6_read_1 NF v f).1 = 1 ∨ ((∀ k, ([18, 31, 32, 33, 34, 35, 36, 0, 41, 20, 21, 22, 23] : List Nat).contains k = true → u.1 k = v k) ∧ ∀ k, ([9, 10, 11, 12, 23, 24, 25, 26, 15, 16, 17] : List Nat).contains k = true → u.2 k = f k))) (fun u => XW cy x0 x u.1 u.2) := by
  refine ctIS_of (by decide) (Nat.le_of_ble_eq_true rfl) (fun p e s m below meth c A ls Q hx hb hml hts hown hE hF hT hP hD hA hl ret => ?_)
  have hM_v : KV [1, 2, 3, 4, 5, 6, 7, 8, 9, 10, 11, 12, 13, 14, 15, 16, 17, 18, 19, 20, 21, 22, 23, 31, 32, 33, 34, 35, 36, 37, 38, 41] v v := fun _ _ => rfl
  have hA_f : KF [1, 2, 3, 4, 7, 8, 9, 10, 11, 12, 15, 17, 27] f f := fun _ _ => rfl
  have hown : s.vm.findClass RX10 = some m.cls := hown
  have hS : va_S A s.heap s.heap [] := va_S.rf
  have hl : lv_has ls 2 [(0, .ref x0)] := hl
  refine lv_aload_n hx hb dX10_regiment_0 rfl (lv_at hl 0 rfl) ?_
  refine va_get (D := (dC, dI)) (ci := 10) (v := .ref (x 2)) (C := RX10) (T := TX10) (N := 10) hx hb hts inB_10 hown hE.1 hP 0 rfl rfl 1 (Nat.le_of_ble_eq_true rfl) (hts _ k_492) (fun _ h9 => h9) rfl dX10_regiment_1 ?_
  refine csVi (n := 0) (rest := []) hx hb hml hown hts hE hP hD hS hA hF hT (sX_X6_read_1 NF l dC dI cy x0 x  v f hIv ) k_542 k_543 k_544 k_103 k_545 hd_yX6_read ⟨Nat.le_of_ble_eq_true rfl, Nat.le_of_ble_eq_true rfl⟩ 3 6 rfl rfl (rfl) hl.1 rfl (Nat.le_of_ble_eq_true rfl) dX10_regiment_4 (fun r1 u H locs hw hP hD hS => ?_)
  obtain ⟨hG2, hw⟩ := hw
  obtain ⟨v3, f4⟩ := u
  obtain ⟨kV_v3, kF_f4, hIv3, hk0_v3, hk1_v3, hw⟩ := hw
  have hM_v3 : KV [1, 2, 3, 4, 5, 6, 7, 8, 9, 10, 11, 12, 13, 14, 15, 16, 17, 18, 19, 20, 21, 22, 23, 31, 32, 33, 34, 35, 36, 37, 38, 41] v3 v := KV.tr kV_v3 hM_v (by decide +kernel)
  have hA_f4 : KF [1, 2, 3, 4, 7, 8, 9, 10, 11, 12, 15, 17, 27] f4 f := KF.tr kF_f4 hA_f (by decide +kernel)
  have hP : va_P (dC, dI) vwCl (XW cy x0 x v3 f4) H := hP
  have hD : va_D A (XW cy x0 x v3 f4) := hD
  have hq0_v3 : v3 0 = (v 0) := hk0_v3
  have hq1_v3 : v3 1 = (v 1) := hk1_v3
  rcases hw with ⟨g5⟩ | ⟨g5⟩
  · skip
    subst g5
    refine lv_istore_n (lv' := [(1, .int 1), (0, .ref x0)]) hx hb dX10_regiment_7 rfl hl (Nat.le_of_ble_eq_true rfl) rfl (fun ls hl => ?_)
    refine lv_aload_n hx hb dX10_regiment_8 rfl (lv_at hl 1 rfl) ?_
    refine va_get (D := (dC, dI)) (ci := 10) (v := .ref (x 0)) (C := RX10) (T := TX10) (N := 10) hx hb hts inB_10 hown hE.1 hP 0 rfl rfl 0 (Nat.le_of_ble_eq_true rfl) (hts _ k_491) (fun _ h9 => h9) rfl dX10_regiment_9 ?_
    refine lv_iconst (v := 0) hx hb dX10_regiment_12 rfl ?_
    refine va_putN (D := (dC, dI)) (ci := 9) (v := .int 0) (ty := tyX9 1) (C := RX9) (T := TX9) (N := 6) hx hb hts inB_9 tyX9 tyX9_ok nmX9 hown hE.1 hP hD hS 1 rfl rfl 1 (by decide) (va_Nw.use rfl (hE.2 _ k_138)) (fun _ h9 => h9) rfl (tyX9_ok 1 (Nat.le_of_ble_eq_true rfl)) rfl rfl (Nat.le_of_ble_eq_true rfl) dX10_regiment_13 (fun H locs hP hD hS => ?_)
    have hP : va_P (dC, dI) vwCl (XW cy x0 x (upd v3 1 0) f4) H := hP
    have hD : va_D A (XW cy x0 x (upd v3 1 0) f4) := hD
    refine lv_iload_n hx hb dX10_regiment_16 rfl (lv_at hl 0 rfl) ?_
    refine lv_if_ne (tgt := 22) hx hb dX10_regiment_17 rfl (fun _ => ?_) (fun c0 => absurd c0 (by decide))
    refine lv_aload_n hx hb dX10_regiment_22 rfl (lv_at hl 1 rfl) ?_
    refine va_get (D := (dC, dI)) (ci := 10) (v := .ref (x 26)) (C := RX10) (T := TX10) (N := 10) hx hb hts inB_10 hown hE.1 hP 0 rfl rfl 2 (Nat.le_of_ble_eq_true rfl) (hts _ k_493) (fun _ h9 => h9) rfl dX10_regiment_23 ?_
    refine lv_aload_n hx hb dX10_regiment_26 rfl (lv_at hl 1 rfl) ?_
    refine va_get (D := (dC, dI)) (ci := 10) (v := .ref (x 2)) (C := RX10) (T := TX10) (N := 10) hx hb hts inB_10 hown hE.1 hP 0 rfl rfl 1 (Nat.le_of_ble_eq_true rfl) (hts _ k_492) (fun _ h9 => h9) rfl dX10_regiment_27 ?_
    refine va_getN (D := (dC, dI)) (ci := 6) (v := .ref (x 3)) (C := RX6) (T := TX6) (N := 7) hx hb hts inB_6 hown hE.1 hP 3 rfl rfl 1 (Nat.le_of_ble_eq_true rfl) (va_Nw.use rfl (hE.2 _ k_267)) (fun _ h9 => h9) rfl dX10_regiment_30 ?_
    refine cbVv (n := 1) (rest := []) hx hb hml hown hts hE hP hD hS hA (sX_X7_copy_1 NF l dC dI cy x0 x  (upd v3 1 0) f4 (Xu_1 (x := 0) hIv3 (by decide) (by decide)) ) k_767 k_768 k_769 k_104 k_770 hd_yX7_copy ⟨Nat.le_of_ble_eq_true rfl, Nat.le_of_ble_eq_true rfl⟩ 27 7 rfl rfl (rfl) hl.1 rfl (Nat.le_of_ble_eq_true rfl) dX10_regiment_33 (fun u H locs hw hP hD hS => ?_)
    obtain ⟨hG6, hw⟩ := hw
    obtain ⟨v7, f8⟩ := u
    obtain ⟨kV_v7, kF_f8, hIv7, hk0_v7, hk1_v7, hk7_v7, hk8_v7⟩ := hw
    have hM_v7 : KV [1, 2, 3, 4, 5, 6, 7, 8, 9, 10, 11, 12, 13, 14, 15, 16, 17, 18, 19, 20, 21, 22, 23, 31, 32, 33, 34, 35, 36, 37, 38, 41] v7 v := KV.tr kV_v7 (KV.up (j := 1) (x := 0) hM_v3 (by decide +kernel)) (by decide +kernel)
    have hA_f8 : KF [1, 2, 3, 4, 7, 8, 9, 10, 11, 12, 15, 17, 27] f8 f := KF.tr kF_f8 hA_f4 (by decide +kernel)
    have hP : va_P (dC, dI) vwCl (XW cy x0 x v7 f8) H := hP
    have hD : va_D A (XW cy x0 x v7 f8) := hD
    have hq0_v7 : v7 0 = (v 0) := hk0_v7.trans hq0_v3
    have hq1_v7 : v7 1 = 0 := hk1_v7
    have hq7_v7 : v7 7 = (v3 7) := hk7_v7
    have hq8_v7 : v7 8 = (v3 8) := hk8_v7
    refine lv_aload_n hx hb dX10_regiment_36 rfl (lv_at hl 1 rfl) ?_
    refine va_get (D := (dC, dI)) (ci := 10) (v := .ref (x 21)) (C := RX10) (T := TX10) (N := 10) hx hb hts inB_10 hown hE.1 hP 0 rfl rfl 3 (Nat.le_of_ble_eq_true rfl) (hts _ k_494) (fun _ h9 => h9) rfl dX10_regiment_37 ?_
    refine cbVv (n := 0) (rest := []) hx hb hml hown hts hE hP hD hS hA (sX_X1_muster_1 NF l dC dI cy x0 x  v7 f8 hIv7 ) k_777 k_299 k_300 k_106 k_301 hd_yX1_muster ⟨Nat.le_of_ble_eq_true rfl, Nat.le_of_ble_eq_true rfl⟩ 22 1 rfl rfl (rfl) hl.1 rfl (Nat.le_of_ble_eq_true rfl) dX10_regiment_40 (fun u H locs hw hP hD hS => ?_)
    obtain ⟨hG9, hw⟩ := hw
    obtain ⟨v10, f11⟩ := u
    obtain ⟨kV_v10, kF_f11, hIv10, hk0_v10, hk1_v10, hk7_v10, hk8_v10, hk9_v10, hk10_v10, hk31_v10, hk32_v10⟩ := hw
    have hM_v10 : KV [1, 2, 3, 4, 5, 6, 7, 8, 9, 10, 11, 12, 13, 14, 15, 16, 17, 18, 19, 20, 21, 22, 23, 31, 32, 33, 34, 35, 36, 37, 38, 41] v10 v := KV.tr kV_v10 hM_v7 (by decide +kernel)
    have hA_f11 : KF [1, 2, 3, 4, 7, 8, 9, 10, 11, 12, 15, 17, 27] f11 f := KF.tr kF_f11 hA_f8 (by decide +kernel)
    have hP : va_P (dC, dI) vwCl (XW cy x0 x v10 f11) H := hP
    have hD : va_D A (XW cy x0 x v10 f11) := hD
    have hq0_v10 : v10 0 = (v 0) := hk0_v10.trans hq0_v7
    have hq1_v10 : v10 1 = 0 := hk1_v10.trans hq1_v7
    have hq7_v10 : v10 7 = (v3 7) := hk7_v10.trans hq7_v7
    have hq8_v10 : v10 8 = (v3 8) := hk8_v10.trans hq8_v7
    have hq9_v10 : v10 9 = (v7 9) := hk9_v10
    have hq10_v10 : v10 10 = (v7 10) := hk10_v10
    have hq31_v10 : v10 31 = (v7 31) := hk31_v10
    have hq32_v10 : v10 32 = (v7 32) := hk32_v10
    refine lv_aload_n hx hb dX10_regiment_43 rfl (lv_at hl 1 rfl) ?_
    refine va_get (D := (dC, dI)) (ci := 10) (v := .ref (x 20)) (C := RX10) (T := TX10) (N := 10) hx hb hts inB_10 hown hE.1 hP 0 rfl rfl 4 (Nat.le_of_ble_eq_true rfl) (hts _ k_495) (fun _ h9 => h9) rfl dX10_regiment_44 ?_
    refine cbVv (n := 0) (rest := []) hx hb hml hown hts hE hP hD hS hA (sX_X5_forgetAll_1 NF l dC dI cy x0 x  v10 f11 hIv10 ) k_778 k_779 k_780 k_107 k_781 hd_yX5_forgetAll ⟨Nat.le_of_ble_eq_true rfl, Nat.le_of_ble_eq_true rfl⟩ 21 5 rfl rfl (rfl) hl.1 rfl (Nat.le_of_ble_eq_true rfl) dX10_regiment_47 (fun u H locs hw hP hD hS => ?_)
    obtain ⟨hG12, hw⟩ := hw
    obtain ⟨v13, f14⟩ := u
    obtain ⟨kV_v13, kF_f14, hIv13, hk0_v13, hk1_v13, hk7_v13, hk8_v13, hk9_v13, hk10_v13, hk31_v13, hk32_v13⟩ := hw
    have hM_v13 : KV [1, 2, 3, 4, 5, 6, 7, 8, 9, 10, 11, 12, 13, 14, 15, 16, 17, 18, 19, 20, 21, 22, 23, 31, 32, 33, 34, 35, 36, 37, 38, 41] v13 v := KV.tr kV_v13 hM_v10 (by decide +kernel)
    have hA_f14 : KF [1, 2, 3, 4, 7, 8, 9, 10, 11, 12, 15, 17, 27] f14 f := KF.tr kF_f14 hA_f11 (by decide +kernel)
    have hP : va_P (dC, dI) vwCl (XW cy x0 x v13 f14) H := hP
    have hD : va_D A (XW cy x0 x v13 f14) := hD
    have hq0_v13 : v13 0 = (v 0) := hk0_v13.trans hq0_v10
    have hq1_v13 : v13 1 = 0 := hk1_v13.trans hq1_v10
    have hq7_v13 : v13 7 = (v3 7) := hk7_v13.trans hq7_v10
    have hq8_v13 : v13 8 = (v3 8) := hk8_v13.trans hq8_v10
    have hq9_v13 : v13 9 = (v7 9) := hk9_v13.trans hq9_v10
    have hq10_v13 : v13 10 = (v7 10) := hk10_v13.trans hq10_v10
    have hq31_v13 : v13 31 = (v7 31) := hk31_v13.trans hq31_v10
    have hq32_v13 : v13 32 = (v7 32) := hk32_v13.trans hq32_v10
    refine lv_aload_n hx hb dX10_regiment_50 rfl (lv_at hl 1 rfl) ?_
    refine va_get (D := (dC, dI)) (ci := 10) (v := .ref (x 31)) (C := RX10) (T := TX10) (N := 10) hx hb hts inB_10 hown hE.1 hP 0 rfl rfl 7 (Nat.le_of_ble_eq_true rfl) (hts _ k_498) (fun _ h9 => h9) rfl dX10_regiment_51 ?_
    refine cbVv (n := 0) (rest := []) hx hb hml hown hts hE hP hD hS hA (sX_X0_clear_1 NF l dC dI cy x0 x  v13 f14 hIv13 ) k_786 k_787 k_788 k_111 k_789 hd_yX0_clear ⟨Nat.le_of_ble_eq_true rfl, Nat.le_of_ble_eq_true rfl⟩ 32 0 rfl rfl (rfl) hl.1 rfl (Nat.le_of_ble_eq_true rfl) dX10_regiment_54 (fun u H locs hw hP hD hS => ?_)
    obtain ⟨hG15, hw⟩ := hw
    obtain ⟨v16, f17⟩ := u
    obtain ⟨kV_v16, kF_f17, hIv16, hk0_v16, hk1_v16, hk7_v16, hk8_v16, hk9_v16, hk10_v16, hk31_v16, hk32_v16⟩ := hw
    have hM_v16 : KV [1, 2, 3, 4, 5, 6, 7, 8, 9, 10, 11, 12, 13, 14, 15, 16, 17, 18, 19, 20, 21, 22, 23, 31, 32, 33, 34, 35, 36, 37, 38, 41] v16 v := KV.tr kV_v16 hM_v13 (by decide +kernel)
    have hA_f17 : KF [1, 2, 3, 4, 7, 8, 9, 10, 11, 12, 15, 17, 27] f17 f := KF.tr kF_f17 hA_f14 (by decide +kernel)
    have hP : va_P (dC, dI) vwCl (XW cy x0 x v16 f17) H := hP
    have hD : va_D A (XW cy x0 x v16 f17) := hD
    have hq0_v16 : v16 0 = (v 0) := hk0_v16.trans hq0_v13
    have hq1_v16 : v16 1 = 0 := hk1_v16.trans hq1_v13
    have hq7_v16 : v16 7 = (v3 7) := hk7_v16.trans hq7_v13
    have hq8_v16 : v16 8 = (v3 8) := hk8_v16.trans hq8_v13
    have hq9_v16 : v16 9 = (v7 9) := hk9_v16.trans hq9_v13
    have hq10_v16 : v16 10 = (v7 10) := hk10_v16.trans hq10_v13
    have hq31_v16 : v16 31 = (v7 31) := hk31_v16.trans hq31_v13
    have hq32_v16 : v16 32 = (v7 32) := hk32_v16.trans hq32_v13
    refine lv_aload_n hx hb dX10_regiment_57 rfl (lv_at hl 1 rfl) ?_
    refine va_get (D := (dC, dI)) (ci := 10) (v := .ref (x 35)) (C := RX10) (T := TX10) (N := 10) hx hb hts inB_10 hown hE.1 hP 0 rfl rfl 8 (Nat.le_of_ble_eq_true rfl) (hts _ k_499) (fun _ h9 => h9) rfl dX10_regiment_58 ?_
    refine cbVv (n := 0) (rest := []) hx hb hml hown hts hE hP hD hS hA (sX_X8_clear_1 NF l dC dI cy x0 x  v16 f17 hIv16 ) k_790 k_791 k_792 k_112 k_793 hd_yX8_clear ⟨Nat.le_of_ble_eq_true rfl, Nat.le_of_ble_eq_true rfl⟩ 36 8 rfl rfl (rfl) hl.1 rfl (Nat.le_of_ble_eq_true rfl) dX10_regiment_61 (fun u H locs hw hP hD hS => ?_)
    obtain ⟨hG18, hw⟩ := hw
    obtain ⟨v19, f20⟩ := u
    obtain ⟨kV_v19, kF_f20, hIv19, hk0_v19, hk1_v19, hk7_v19, hk8_v19, hk9_v19, hk10_v19, hk31_v19, hk32_v19⟩ := hw
    have hM_v19 : KV [1, 2, 3, 4, 5, 6, 7, 8, 9, 10, 11, 12, 13, 14, 15, 16, 17, 18, 19, 20, 21, 22, 23, 31, 32, 33, 34, 35, 36, 37, 38, 41] v19 v := KV.tr kV_v19 hM_v16 (by decide +kernel)
    have hA_f20 : KF [1, 2, 3, 4, 7, 8, 9, 10, 11, 12, 15, 17, 27] f20 f := KF.tr kF_f20 hA_f17 (by decide +kernel)
    have hP : va_P (dC, dI) vwCl (XW cy x0 x v19 f20) H := hP
    have hD : va_D A (XW cy x0 x v19 f20) := hD
    have hq0_v19 : v19 0 = (v 0) := hk0_v19.trans hq0_v16
    have hq1_v19 : v19 1 = 0 := hk1_v19.trans hq1_v16
    have hq7_v19 : v19 7 = (v3 7) := hk7_v19.trans hq7_v16
    have hq8_v19 : v19 8 = (v3 8) := hk8_v19.trans hq8_v16
    have hq9_v19 : v19 9 = (v7 9) := hk9_v19.trans hq9_v16
    have hq10_v19 : v19 10 = (v7 10) := hk10_v19.trans hq10_v16
    have hq31_v19 : v19 31 = (v7 31) := hk31_v19.trans hq31_v16
    have hq32_v19 : v19 32 = (v7 32) := hk32_v19.trans hq32_v16
    refine lv_aload_n hx hb dX10_regiment_64 rfl (lv_at hl 1 rfl) ?_
    refine va_get (D := (dC, dI)) (ci := 10) (v := .ref (x 26)) (C := RX10) (T := TX10) (N := 10) hx hb hts inB_10 hown hE.1 hP 0 rfl rfl 2 (Nat.le_of_ble_eq_true rfl) (hts _ k_493) (fun _ h9 => h9) rfl dX10_regiment_65 ?_
    refine va_getN (D := (dC, dI)) (ci := 7) (v := .int (v19 31)) (C := RX7) (T := TX7) (N := 10) hx hb hts inB_7 hown hE.1 hP 27 rfl rfl 3 (Nat.le_of_ble_eq_true rfl) (va_Nw.use rfl (hE.2 _ k_214)) (fun _ h9 => h9) rfl dX10_regiment_68 ?_
    refine tI (y := (v7 31)) hq31_v19 ?_
    have b31_v7 : 0 ≤ (v7 31).toInt ∧ (v7 31).toInt ≤ 6 := Xb_31 hIv7
    exact ret (v7 31) (v19, f20) _ _ _ _ _ _ rfl ⟨(gsX_X10_regiment_1_q0 hG2 hG6 hG9 hG12 hG15 hG18), hM_v19, hA_f20, hIv19, (hk0_v19.trans (hk0_v16.trans (hk0_v13.trans (hk0_v10.trans (hk0_v7.trans hk0_v3))))), (by show (v19 1).toInt = 0; rw [hq1_v19]; decide), (Or.inl (show (gsX_X6_read_1 NF v f).1 = 1 from congrArg (fun z => z.1) hG2))⟩ hP hD hS dX10_regiment_71 (Nat.le_refl _) (Nat.le_refl _)
  · skip
    subst g5
    refine lv_istore_n (lv' := [(1, .int 0), (0, .ref x0)]) hx hb dX10_regiment_7 rfl hl (Nat.le_of_ble_eq_true rfl) rfl (fun ls hl => ?_)
    refine lv_aload_n hx hb dX10_regiment_8 rfl (lv_at hl 1 rfl) ?_
    refine va_get (D := (dC, dI)) (ci := 10) (v := .ref (x 0)) (C := RX10) (T := TX10) (N := 10) hx hb hts inB_10 hown hE.1 hP 0 rfl rfl 0 (Nat.le_of_ble_eq_true rfl) (hts _ k_491) (fun _ h9 => h9) rfl dX10_regiment_9 ?_
    refine lv_iconst (v := 0) hx hb dX10_regiment_12 rfl ?_
    refine va_putN (D := (dC, dI)) (ci := 9) (v := .int 0) (ty := tyX9 1) (C := RX9) (T := TX9) (N := 6) hx hb hts inB_9 tyX9 tyX9_ok nmX9 hown hE.1 hP hD hS 1 rfl rfl 1 (by decide) (va_Nw.use rfl (hE.2 _ k_138)) (fun _ h9 => h9) rfl (tyX9_ok 1 (Nat.le_of_ble_eq_true rfl)) rfl rfl (Nat.le_of_ble_eq_true rfl) dX10_regiment_13 (fun H locs hP hD hS => ?_)
    have hP : va_P (dC, dI) vwCl (XW cy x0 x (upd v3 1 0) f4) H := hP
    have hD : va_D A (XW cy x0 x (upd v3 1 0) f4) := hD
    refine lv_iload_n hx hb dX10_regiment_16 rfl (lv_at hl 0 rfl) ?_
    refine lv_if_ne (tgt := 22) hx hb dX10_regiment_17 rfl (fun c0 => absurd (by decide) c0) (fun _ => ?_)
    refine lv_iconst (v := (-1)) hx hb dX10_regiment_20 rfl ?_
    exact ret (-1) ((upd v3 1 0), f4) _ _ _ _ _ _ rfl ⟨(gsX_X10_regiment_1_q1 hG2), (KV.up (j := 1) (x := 0) hM_v3 (by decide +kernel)), hA_f4, (Xu_1 (x := 0) hIv3 (by decide) (by decide)), hk0_v3, (by have q0 : (0 : Int32).toInt = 0 := (by decide); show (0 : Int32).toInt = 0; decide), (Or.inr ⟨KV.use (KV.up (j := 1) (x := 0) (KV.tr (M := [1, 2, 3, 4, 5, 6, 7, 8, 9, 10, 11, 12, 13, 14, 15, 16, 17]) kV_v3 (fun _ _ => rfl) rfl) rfl) rfl, KF.use kF_f4 rfl⟩)⟩ hP hD hS dX10_regiment_21 (Nat.le_refl _) (Nat.le_refl _)
set_option maxHeartbeats 4000000 in
set_option maxRecDepth 100000 in
theorem sX_X8_tell_1 (NF : Nat) (l : Launch) (dC : Nat → ClassId) (dI : Nat → Nat → Nat) (cy : Nat → ClassId) (x0 : Nat) (x : Nat → Nat) (p1 : Int32) (p2 : Int32) (p3 : Int32) (v : Nat → Int32) (f : Nat → Nat → Int32) (hIv : XI v)  : ctI l (dC, dI) cy yX8_tell cX8_tell 4 .int 1 60 0 0 ((Nat → Int32) × (Nat → Nat → Int32)) [.ref (x 35), .int p1, .int p2, .int p3] (XW cy x0 x v f) (fun r u => gsX_X8_tell_1 NF p1 p2 p3 v f = (r, u) ∧ KV [41] u.1 v ∧ KF [23, 24, 25, 26] u.2 f ∧ XI u.1 ∧ u.1 0 = v 0 ∧ u.1 1 = v 1 ∧ u.1 7 = v 7 ∧ u.1 8 = v 8 ∧ u.1 9 = v 9 ∧ u.1 10 = v 10 ∧ u.1 31 = v 31 ∧ u.1 32 = v 32) (fun u => XW cy x0 x u.1 u.2) := by
  refine ctI_of (by decide) (Nat.le_of_ble_eq_true rfl) (fun p e s m below meth c A ls Q hx hb hml hts hown hE hP hD hA hl ret => ?_)
  have hM_v : KV [41] v v := fun _ _ => rfl
  have hA_f : KF [23, 24, 25, 26] f f := fun _ _ => rfl
  have hown : s.vm.findClass RX8 = some m.cls := hown
  have hS : va_S A s.heap s.heap [] := va_S.rf
  have hl : lv_has ls 4 [(0, .ref (x 35)), (1, .int p1), (2, .int p2), (3, .int p3)] := hl
  refine lv_iload_n hx hb dX8_tell_0 rfl (lv_at hl 1 rfl) ?_
  refine lv_if_lt (tgt := 19) hx hb dX8_tell_1 rfl (fun c1 => ?_) (fun c1 => ?_)
  · skip
    refine lv_iconst (v := (-1)) hx hb dX8_tell_19 rfl ?_
    exact ret (-1) (v, f) _ _ _ _ _ _ rfl ⟨(gsX_X8_tell_1_q0 c1), hM_v, hA_f, hIv, rfl, rfl, rfl, rfl, rfl, rfl, rfl, rfl⟩ hP hD hS dX8_tell_20 (Nat.le_refl _) (Nat.le_refl _)
  · skip
    refine lv_iload_n hx hb dX8_tell_4 rfl (lv_at hl 1 rfl) ?_
    refine lv_bipush (v := 20) hx hb dX8_tell_5 rfl ?_
    refine lv_icmp_gt (tgt := 19) hx hb dX8_tell_7 rfl (fun c2 => ?_) (fun c2 => ?_)
    · skip
      refine lv_iconst (v := (-1)) hx hb dX8_tell_19 rfl ?_
      exact ret (-1) (v, f) _ _ _ _ _ _ rfl ⟨(gsX_X8_tell_1_q1 c1 c2), hM_v, hA_f, hIv, rfl, rfl, rfl, rfl, rfl, rfl, rfl, rfl⟩ hP hD hS dX8_tell_20 (Nat.le_refl _) (Nat.le_refl _)
    · skip
      refine lv_aload_n hx hb dX8_tell_10 rfl (lv_at hl 0 rfl) ?_
      refine va_get (D := (dC, dI)) (ci := 8) (v := .int (v 41)) (C := RX8) (T := TX8) (N := 7) hx hb hts inB_8 hown hE.1 hP 36 rfl rfl 5 (Nat.le_of_ble_eq_true rfl) (hts _ k_472) (fun _ h9 => h9) rfl dX8_tell_11 ?_
      have b41_v : 0 ≤ (v 41).toInt ∧ (v 41).toInt ≤ 30 := Xb_41 hIv
      refine lv_bipush (v := 30) hx hb dX8_tell_14 rfl ?_
      refine lv_icmp_lt (tgt := 21) hx hb dX8_tell_16 rfl (fun c3 => ?_) (fun c3 => ?_)
      · skip
        have zc3 : (v 41).toInt < 30 := zLp rfl tc_30 c3
        refine lv_aload_n hx hb dX8_tell_21 rfl (lv_at hl 0 rfl) ?_
        refine va_get (D := (dC, dI)) (ci := 8) (v := .ref (x 36)) (C := RX8) (T := TX8) (N := 7) hx hb hts inB_8 hown hE.1 hP 36 rfl rfl 1 (Nat.le_of_ble_eq_true rfl) (hts _ k_468) (fun _ h9 => h9) rfl dX8_tell_22 ?_
        refine lv_aload_n hx hb dX8_tell_25 rfl (lv_at hl 0 rfl) ?_
        refine va_get (D := (dC, dI)) (ci := 8) (v := .int (v 41)) (C := RX8) (T := TX8) (N := 7) hx hb hts inB_8 hown hE.1 hP 36 rfl rfl 5 (Nat.le_of_ble_eq_true rfl) (hts _ k_472) (fun _ h9 => h9) rfl dX8_tell_26 ?_
        refine lv_iload_n hx hb dX8_tell_29 rfl (lv_at hl 1 rfl) ?_
        refine stI hx hb hE hP hD hS 37 rfl (vpI (k := 30) rfl (show 0 ≤ (v 41).toInt from om_127 b41_v) (show (v 41).toInt < 30 from om_128 zc3)) rfl dX8_tell_30 (fun H locs hP hD hS => ?_)
        obtain ⟨f4, ef4, hP, hD⟩ : ∃ fz9, fz9 = upd2 f 23 (upd (f 23) (v 41).toNatClampNeg p1) ∧ va_P (dC, dI) vwCl (XW cy x0 x v fz9) H ∧ va_D A (XW cy x0 x v fz9) := ⟨_, rfl, hP, hD⟩
        have hA_f4 : KF [23, 24, 25, 26] f4 f := by rw [ef4]; exact KF.up hA_f rfl
        refine lv_aload_n hx hb dX8_tell_31 rfl (lv_at hl 0 rfl) ?_
        refine va_get (D := (dC, dI)) (ci := 8) (v := .ref (x 37)) (C := RX8) (T := TX8) (N := 7) hx hb hts inB_8 hown hE.1 hP 36 rfl rfl 2 (Nat.le_of_ble_eq_true rfl) (hts _ k_469) (fun _ h9 => h9) rfl dX8_tell_32 ?_
        refine lv_aload_n hx hb dX8_tell_35 rfl (lv_at hl 0 rfl) ?_
        refine va_get (D := (dC, dI)) (ci := 8) (v := .int (v 41)) (C := RX8) (T := TX8) (N := 7) hx hb hts inB_8 hown hE.1 hP 36 rfl rfl 5 (Nat.le_of_ble_eq_true rfl) (hts _ k_472) (fun _ h9 => h9) rfl dX8_tell_36 ?_
        refine lv_iload_n hx hb dX8_tell_39 rfl (lv_at hl 2 rfl) ?_
        refine stZ hx hb hE hP hD hS 38 rfl (vpI (k := 30) rfl (show 0 ≤ (v 41).toInt from om_127 b41_v) (show (v 41).toInt < 30 from om_128 zc3)) rfl dX8_tell_40 (fun H locs hP hD hS => ?_)
        obtain ⟨f5, ef5, hP, hD⟩ : ∃ fz9, fz9 = upd2 f4 24 (upd (f4 24) (v 41).toNatClampNeg (vp_nar .boolean p2)) ∧ va_P (dC, dI) vwCl (XW cy x0 x v fz9) H ∧ va_D A (XW cy x0 x v fz9) := ⟨_, rfl, hP, hD⟩
        have hA_f5 : KF [23, 24, 25, 26] f5 f := by rw [ef5]; exact KF.up hA_f4 rfl
        refine lv_aload_n hx hb dX8_tell_41 rfl (lv_at hl 0 rfl) ?_
        refine va_get (D := (dC, dI)) (ci := 8) (v := .ref (x 38)) (C := RX8) (T := TX8) (N := 7) hx hb hts inB_8 hown hE.1 hP 36 rfl rfl 3 (Nat.le_of_ble_eq_true rfl) (hts _ k_470) (fun _ h9 => h9) rfl dX8_tell_42 ?_
        refine lv_aload_n hx hb dX8_tell_45 rfl (lv_at hl 0 rfl) ?_
        refine va_get (D := (dC, dI)) (ci := 8) (v := .int (v 41)) (C := RX8) (T := TX8) (N := 7) hx hb hts inB_8 hown hE.1 hP 36 rfl rfl 5 (Nat.le_of_ble_eq_true rfl) (hts _ k_472) (fun _ h9 => h9) rfl dX8_tell_46 ?_
        refine lv_iload_n hx hb dX8_tell_49 rfl (lv_at hl 3 rfl) ?_
        refine stI hx hb hE hP hD hS 39 rfl (vpI (k := 30) rfl (show 0 ≤ (v 41).toInt from om_127 b41_v) (show (v 41).toInt < 30 from om_128 zc3)) rfl dX8_tell_50 (fun H locs hP hD hS => ?_)
        obtain ⟨f6, ef6, hP, hD⟩ : ∃ fz9, fz9 = upd2 f5 25 (upd (f5 25) (v 41).toNatClampNeg p3) ∧ va_P (dC, dI) vwCl (XW cy x0 x v fz9) H ∧ va_D A (XW cy x0 x v fz9) := ⟨_, rfl, hP, hD⟩
        have hA_f6 : KF [23, 24, 25, 26] f6 f := by rw [ef6]; exact KF.up hA_f5 rfl
        refine lv_aload_n hx hb dX8_tell_51 rfl (lv_at hl 0 rfl) ?_
        refine va_get (D := (dC, dI)) (ci := 8) (v := .ref (x 39)) (C := RX8) (T := TX8) (N := 7) hx hb hts inB_8 hown hE.1 hP 36 rfl rfl 4 (Nat.le_of_ble_eq_true rfl) (hts _ k_471) (fun _ h9 => h9) rfl dX8_tell_52 ?_
        refine lv_aload_n hx hb dX8_tell_55 rfl (lv_at hl 0 rfl) ?_
        refine va_get (D := (dC, dI)) (ci := 8) (v := .int (v 41)) (C := RX8) (T := TX8) (N := 7) hx hb hts inB_8 hown hE.1 hP 36 rfl rfl 5 (Nat.le_of_ble_eq_true rfl) (hts _ k_472) (fun _ h9 => h9) rfl dX8_tell_56 ?_
        refine lv_iconst (v := (-1)) hx hb dX8_tell_59 rfl ?_
        refine stI hx hb hE hP hD hS 40 rfl (vpI (k := 30) rfl (show 0 ≤ (v 41).toInt from om_127 b41_v) (show (v 41).toInt < 30 from om_128 zc3)) rfl dX8_tell_60 (fun H locs hP hD hS => ?_)
        obtain ⟨f7, ef7, hP, hD⟩ : ∃ fz9, fz9 = upd2 f6 26 (upd (f6 26) (v 41).toNatClampNeg (-1)) ∧ va_P (dC, dI) vwCl (XW cy x0 x v fz9) H ∧ va_D A (XW cy x0 x v fz9) := ⟨_, rfl, hP, hD⟩
        have hA_f7 : KF [23, 24, 25, 26] f7 f := by rw [ef7]; exact KF.up hA_f6 rfl
        refine lv_aload_n hx hb dX8_tell_61 rfl (lv_at hl 0 rfl) ?_
        refine lv_dup hx hb dX8_tell_62 rfl ?_
        refine va_get (D := (dC, dI)) (ci := 8) (v := .int (v 41)) (C := RX8) (T := TX8) (N := 7) hx hb hts inB_8 hown hE.1 hP 36 rfl rfl 5 (Nat.le_of_ble_eq_true rfl) (hts _ k_472) (fun _ h9 => h9) rfl dX8_tell_63 ?_
        refine lv_iconst (v := 1) hx hb dX8_tell_66 rfl ?_
        refine lv_iadd hx hb dX8_tell_67 ?_
        refine lv_topi (fun t8 et8 => ?_)
        have zt8 : t8.toInt = (v 41).toInt + 1 := (congrArg Int32.toInt et8).trans (add_i rfl tc_1 (om_129 b41_v) (om_96 zc3))
        refine va_put (D := (dC, dI)) (ci := 8) (v := .int t8) (ty := tyX8 5) (C := RX8) (T := TX8) (N := 7) hx hb hts inB_8 tyX8 tyX8_ok nmX8 hown hE.1 hP hD hS 36 rfl rfl 5 (Nat.le_of_ble_eq_true rfl) (hts _ k_472) (fun _ h9 => h9) rfl (tyX8_ok 5 (Nat.le_of_ble_eq_true rfl)) rfl rfl (Nat.le_of_ble_eq_true rfl) dX8_tell_68 (fun H locs hP hD hS => ?_)
        have hP : va_P (dC, dI) vwCl (XW cy x0 x (upd v 41 t8) f7) H := hP
        have hD : va_D A (XW cy x0 x (upd v 41 t8) f7) := hD
        refine lv_aload_n hx hb dX8_tell_71 rfl (lv_at hl 0 rfl) ?_
        refine va_get (D := (dC, dI)) (ci := 8) (v := .int t8) (C := RX8) (T := TX8) (N := 7) hx hb hts inB_8 hown hE.1 hP 36 rfl rfl 5 (Nat.le_of_ble_eq_true rfl) (hts _ k_472) (fun _ h9 => h9) rfl dX8_tell_72 ?_
        refine lv_iconst (v := 1) hx hb dX8_tell_75 rfl ?_
        refine lv_isub hx hb dX8_tell_76 ?_
        refine lv_topi (fun t10 et10 => ?_)
        exact ret t10 ((upd v 41 t8), f7) _ _ _ _ _ _ rfl ⟨(gsX_X8_tell_1_q2 c1 c2 c3 ef4 ef5 ef6 ef7 et8 et10), (KV.up (j := 41) (x := t8) hM_v rfl), hA_f7, (Xu_41 (x := t8) hIv (show (0 : Int) ≤ t8.toInt from om_132 b41_v zt8) (show t8.toInt ≤ (30 : Int) from om_133 zc3 zt8)), rfl, rfl, rfl, rfl, rfl, rfl, rfl, rfl⟩ hP hD hS dX8_tell_77 (Nat.le_refl _) (Nat.le_refl _)
      · skip
        refine lv_iconst (v := (-1)) hx hb dX8_tell_19 rfl ?_
        exact ret (-1) (v, f) _ _ _ _ _ _ rfl ⟨(gsX_X8_tell_1_q3 c1 c2 c3), hM_v, hA_f, hIv, rfl, rfl, rfl, rfl, rfl, rfl, rfl, rfl⟩ hP hD hS dX8_tell_20 (Nat.le_refl _) (Nat.le_refl _)
