set_option maxHeartbeats 4000000 in
set_option maxRecDepth 100000 in
theorem sX_X6_expression_30 (NF : Nat) (l : Launch) (dC : Nat → ClassId) (dI : Nat → Nat → Nat) (cy : Nat → ClassId) (x0 : Nat) (x : Nat → Nat)  (v : Nat → Int32) (f : Nat → Nat → Int32) (hIv : XI v)  : ctIS l (dC, dI) cy yX6_expression cX6_expression 6 .boolean 29 733 0 0 ((Nat → Int32) × (Nat → Nat → Int32)) [.ref (x 2), .int 5, .int 4] (XW cy x0 x v f) (fun r u => gsX_X6_expression_30 NF v f = (r, u) ∧ KV [2, 3, 4, 5, 7, 8, 16, 17] u.1 v ∧ KF [3, 4] u.2 f ∧ XI u.1 ∧ u.1 0 = v 0 ∧ u.1 1 = v 1 ∧ u.1 9 = v 9 ∧ u.1 10 = v 10 ∧ u.1 31 = v 31 ∧ u.1 32 = v 32 ∧ ((r = 1) ∨ (r = 0))) (fun u => XW cy x0 x u.1 u.2) := by
  refine ctIS_of (by decide) (Nat.le_of_ble_eq_true rfl) (fun p e s m below meth c A ls Q hx hb hml hts hown hE hF hT hP hD hA hl ret => ?_)
  have hM_v : KV [2, 3, 4, 5, 7, 8, 16, 17] v v := fun _ _ => rfl
  have hA_f : KF [3, 4] f f := fun _ _ => rfl
  have hown : s.vm.findClass RX6 = some m.cls := hown
  have hS : va_S A s.heap s.heap [] := va_S.rf
  have hl : lv_has ls 6 [(0, .ref (x 2)), (1, .int 5), (2, .int 4)] := hl
  refine lv_iload_n hx hb dX6_expression_0 rfl (lv_at hl 1 rfl) ?_
  refine lv_iconst (v := 5) hx hb dX6_expression_1 rfl ?_
  refine lv_icmp_lt (tgt := 11) hx hb dX6_expression_2 rfl (fun c0 => absurd c0 (by decide)) (fun _ => ?_)
  refine lv_aload_n hx hb dX6_expression_5 rfl (lv_at hl 0 rfl) ?_
  refine lv_iload_n hx hb dX6_expression_6 rfl (lv_at hl 2 rfl) ?_
  refine csVi (n := 1) (rest := []) hx hb hml hown hts hE hP hD hS hA hF hT (sX_X6_unit_5 NF l dC dI cy x0 x  v f hIv ) k_744 k_746 k_16 k_103 k_747 hd_yX6_unit ⟨Nat.le_of_ble_eq_true rfl, Nat.le_of_ble_eq_true rfl⟩ 3 6 rfl rfl (rfl) hl.1 rfl (Nat.le_of_ble_eq_true rfl) dX6_expression_7 (fun r1 u H locs hw hP hD hS => ?_)
  obtain ⟨hG2, hw⟩ := hw
  obtain ⟨v3, f4⟩ := u
  obtain ⟨kV_v3, kF_f4, hIv3, hk0_v3, hk1_v3, hk9_v3, hk10_v3, hk31_v3, hk32_v3, hw⟩ := hw
  have hM_v3 : KV [2, 3, 4, 5, 7, 8, 16, 17] v3 v := KV.tr kV_v3 hM_v rfl
  have hA_f4 : KF [3, 4] f4 f := KF.tr kF_f4 hA_f rfl
  have hP : va_P (dC, dI) vwCl (XW cy x0 x v3 f4) H := hP
  have hD : va_D A (XW cy x0 x v3 f4) := hD
  have hq0_v3 : v3 0 = (v 0) := hk0_v3
  have hq1_v3 : v3 1 = (v 1) := hk1_v3
  have hq9_v3 : v3 9 = (v 9) := hk9_v3
  have hq10_v3 : v3 10 = (v 10) := hk10_v3
  have hq31_v3 : v3 31 = (v 31) := hk31_v3
  have hq32_v3 : v3 32 = (v 32) := hk32_v3
  rcases hw with ⟨g5⟩ | ⟨g5⟩
  · skip
    subst g5
    exact ret 1 (v3, f4) _ _ _ _ _ _ rfl ⟨(gsX_X6_expression_30_q0 hG2), hM_v3, hA_f4, hIv3, hk0_v3, hk1_v3, hk9_v3, hk10_v3, hk31_v3, hk32_v3, (Or.inl rfl)⟩ hP hD hS dX6_expression_10 (Nat.le_refl _) (Nat.le_refl _)
  · skip
    subst g5
    exact ret 0 (v3, f4) _ _ _ _ _ _ rfl ⟨(gsX_X6_expression_30_q1 hG2), hM_v3, hA_f4, hIv3, hk0_v3, hk1_v3, hk9_v3, hk10_v3, hk31_v3, hk32_v3, (Or.inr rfl)⟩ hP hD hS dX6_expression_10 (Nat.le_refl _) (Nat.le_refl _)
set_option maxHeartbeats 4000000 in
set_option maxRecDepth 100000 in
theorem sX_X6_expression_29 (NF : Nat) (l : Launch) (dC : Nat → ClassId) (dI : Nat → Nat → Nat) (cy : Nat → ClassId) (x0 : Nat) (x : Nat → Nat)  (v : Nat → Int32) (f : Nat → Nat → Int32) (hIv : XI v)  : ctIS l (dC, dI) cy yX6_expression cX6_expression 6 .boolean 30 758 0 0 ((Nat → Int32) × (Nat → Nat → Int32)) [.ref (x 2), .int 4, .int 4] (XW cy x0 x v f) (fun r u => gsX_X6_expression_29 NF v f = (r, u) ∧ KV [2, 3, 4, 5, 7, 8, 16, 17] u.1 v ∧ KF [3, 4] u.2 f ∧ XI u.1 ∧ u.1 0 = v 0 ∧ u.1 1 = v 1 ∧ u.1 9 = v 9 ∧ u.1 10 = v 10 ∧ u.1 31 = v 31 ∧ u.1 32 = v 32 ∧ ((r = 1) ∨ (r = 0))) (fun u => XW cy x0 x u.1 u.2) := by
  refine ctIS_of (by decide) (Nat.le_of_ble_eq_true rfl) (fun p e s m below meth c A ls Q hx hb hml hts hown hE hF hT hP hD hA hl ret => ?_)
  have hM_v : KV [2, 3, 4, 5, 7, 8, 16, 17] v v := fun _ _ => rfl
  have hA_f : KF [3, 4] f f := fun _ _ => rfl
  have hown : s.vm.findClass RX6 = some m.cls := hown
  have hS : va_S A s.heap s.heap [] := va_S.rf
  have hl : lv_has ls 6 [(0, .ref (x 2)), (1, .int 4), (2, .int 4)] := hl
  refine lv_iload_n hx hb dX6_expression_0 rfl (lv_at hl 1 rfl) ?_
  refine lv_iconst (v := 5) hx hb dX6_expression_1 rfl ?_
  refine lv_icmp_lt (tgt := 11) hx hb dX6_expression_2 rfl (fun _ => ?_) (fun c0 => absurd (by decide) c0)
  refine lv_iload_n hx hb dX6_expression_11 rfl (lv_at hl 1 rfl) ?_
  refine lv_iconst (v := 2) hx hb dX6_expression_12 rfl ?_
  refine lv_icmp_ne (tgt := 34) hx hb dX6_expression_13 rfl (fun _ => ?_) (fun c0 => absurd c0 (by decide))
  refine lv_aload_n hx hb dX6_expression_34 rfl (lv_at hl 0 rfl) ?_
  refine lv_iload_n hx hb dX6_expression_35 rfl (lv_at hl 1 rfl) ?_
  refine lv_iconst (v := 1) hx hb dX6_expression_36 rfl ?_
  refine lv_iadd hx hb dX6_expression_37 ?_
  refine tI (y := 5) (by decide) ?_
  refine lv_iload_n hx hb dX6_expression_38 rfl (lv_at hl 2 rfl) ?_
  refine csVi (n := 2) (rest := []) hx hb hml hown hts hE hP hD hS hA hF hT (sX_X6_expression_30 NF l dC dI cy x0 x  v f hIv ) k_740 k_742 k_15 k_103 k_743 hd_yX6_expression ⟨Nat.le_of_ble_eq_true rfl, Nat.le_of_ble_eq_true rfl⟩ 3 6 rfl rfl (rfl) hl.1 rfl (Nat.le_of_ble_eq_true rfl) dX6_expression_39 (fun r1 u H locs hw hP hD hS => ?_)
  obtain ⟨hG2, hw⟩ := hw
  obtain ⟨v3, f4⟩ := u
  obtain ⟨kV_v3, kF_f4, hIv3, hk0_v3, hk1_v3, hk9_v3, hk10_v3, hk31_v3, hk32_v3, hw⟩ := hw
  have hM_v3 : KV [2, 3, 4, 5, 7, 8, 16, 17] v3 v := KV.tr kV_v3 hM_v rfl
  have hA_f4 : KF [3, 4] f4 f := KF.tr kF_f4 hA_f rfl
  have hP : va_P (dC, dI) vwCl (XW cy x0 x v3 f4) H := hP
  have hD : va_D A (XW cy x0 x v3 f4) := hD
  have hq0_v3 : v3 0 = (v 0) := hk0_v3
  have hq1_v3 : v3 1 = (v 1) := hk1_v3
  have hq9_v3 : v3 9 = (v 9) := hk9_v3
  have hq10_v3 : v3 10 = (v 10) := hk10_v3
  have hq31_v3 : v3 31 = (v 31) := hk31_v3
  have hq32_v3 : v3 32 = (v 32) := hk32_v3
  rcases hw with ⟨g5⟩ | ⟨g5⟩
  · skip
    subst g5
    refine lv_if_ne (tgt := 47) hx hb dX6_expression_42 rfl (fun _ => ?_) (fun c0 => absurd c0 (by decide))
    refine lv_iload_n hx hb dX6_expression_47 rfl (lv_at hl 1 rfl) ?_
    refine lv_iconst (v := 2) hx hb dX6_expression_48 rfl ?_
    refine lv_icmp_ne (tgt := 56) hx hb dX6_expression_49 rfl (fun _ => ?_) (fun c0 => absurd c0 (by decide))
    refine lv_sipush (v := 1600) hx hb dX6_expression_56 rfl ?_
    refine lv_istore_n (lv' := [(3, .int 1600), (0, .ref (x 2)), (1, .int 4), (2, .int 4)]) hx hb dX6_expression_59 rfl hl (Nat.le_of_ble_eq_true rfl) rfl (fun ls hl => ?_)
    refine lv_iconst (v := 0) hx hb dX6_expression_60 rfl ?_
    refine lv_istore (lv' := [(4, .int 0), (3, .int 1600), (0, .ref (x 2)), (1, .int 4), (2, .int 4)]) hx hb dX6_expression_61 hl (Nat.le_of_ble_eq_true rfl) rfl (fun ls hl => ?_)
    have lp6 : ∀ (n6 : Nat) (l4_6 : Int32) (v6 : Nat → Int32) (f6 : Nat → Nat → Int32), XI v6 → v6 0 = (v 0) → v6 1 = (v 1) → v6 9 = (v 9) → v6 10 = (v 10) → v6 31 = (v 31) → v6 32 = (v 32) → gsX_X6_expression_29_L6 NF n6 l4_6 v6 f6 = (gsX_X6_expression_29 NF v f) → ((0 : Int) ≤ l4_6.toInt ∧ l4_6.toInt ≤ 2147483647) → KV [2, 3, 4, 5, 7, 8, 16, 17] v6 v → KF [3, 4] f6 f → (2147483647 - l4_6.toInt).toNat < n6 → ∀ (H : Heap) (locs : List Loc) (ls : Array Slot), va_P (dC, dI) vwCl (XW cy x0 x v6 f6) H → va_D A (XW cy x0 x v6 f6) → va_S A s.heap H locs → lv_has ls 6 [(4, .int l4_6), (3, .int 1600), (0, .ref (x 2)), (1, .int 4), (2, .int 4)] → W p l e { frames := 30, cells := 0, slots := 0, locals := 758 } s m ([.ref (x 2), .int 4, .int 4] : List Value).toArray below meth c H locs 0 0 Q (F0 m 63 ls []) := by
      intro n6
      induction n6 with
      | zero => intro l4_6 v6 f6 hIv6 hq0_v6 hq1_v6 hq9_v6 hq10_v6 hq31_v6 hq32_v6 hT6 hr4_6 hM_v6 hA_f6 hm; exact absurd hm (Nat.not_lt_zero _)
      | succ n6 ih6 =>
        intro l4_6 v6 f6 hIv6 hq0_v6 hq1_v6 hq9_v6 hq10_v6 hq31_v6 hq32_v6 hT6 hr4_6 hM_v6 hA_f6 hm6 H locs ls hP hD hS hl
        refine lv_iload hx hb dX6_expression_63 (lv_at hl 0 rfl) ?_
        refine lv_iload_n hx hb dX6_expression_65 rfl (lv_at hl 1 rfl) ?_
        refine lv_icmp_ge (tgt := 131) hx hb dX6_expression_66 rfl (fun c7 => ?_) (fun c7 => ?_)
        · skip
          refine lv_iconst (v := 1) hx hb dX6_expression_131 rfl ?_
          exact ret 1 (v6, f6) _ _ _ _ _ _ rfl ⟨(hT6.symm.trans (gsX_X6_expression_29_q0 c7)), hM_v6, hA_f6, hIv6, hq0_v6, hq1_v6, hq9_v6, hq10_v6, hq31_v6, hq32_v6, (Or.inl rfl)⟩ hP hD hS dX6_expression_132 (Nat.le_refl _) (Nat.le_refl _)
        · skip
          have zc7 : ¬ (1600 ≤ l4_6.toInt) := zMn tc_1600 rfl c7
          refine lv_iload_n hx hb dX6_expression_69 rfl (lv_at hl 3 rfl) ?_
          refine lv_aload_n hx hb dX6_expression_70 rfl (lv_at hl 2 rfl) ?_
          refine va_get (D := (dC, dI)) (ci := 6) (v := .ref (x 0)) (C := RX6) (T := TX6) (N := 7) hx hb hts inB_6 hown hE.1 hP 3 rfl rfl 0 (Nat.le_of_ble_eq_true rfl) (hts _ k_265) (fun _ h9 => h9) rfl dX6_expression_71 ?_
          refine va_getN (D := (dC, dI)) (ci := 9) (v := .int (v6 2)) (C := RX9) (T := TX9) (N := 6) hx hb hts inB_9 hown hE.1 hP 1 rfl rfl 2 (Nat.le_of_ble_eq_true rfl) (va_Nw.use rfl (hE.2 _ k_139)) (fun _ h9 => h9) rfl dX6_expression_74 ?_
          refine cbSi (n := 2) (rest := []) hx hb hml hown hts hE hP hD hS hA (sX_X6_joins_1 NF l dC dI cy x0 x 4 (v6 2) v6 f6 hIv6 ) k_756 k_757 k_103 k_758 he_yX6_joins ⟨Nat.le_of_ble_eq_true rfl, Nat.le_of_ble_eq_true rfl⟩ (rfl) hl.1 rfl (Nat.le_of_ble_eq_true rfl) dX6_expression_77 (fun r8 u H locs hw hP hD hS => ?_)
          obtain ⟨hG9, hw⟩ := hw
          rcases hw with ⟨g10⟩ | ⟨g10⟩
          · skip
            subst g10
            refine lv_if_eq (tgt := 131) hx hb dX6_expression_80 rfl (fun c0 => absurd c0 (by decide)) (fun _ => ?_)
            refine lv_aload_n hx hb dX6_expression_83 rfl (lv_at hl 2 rfl) ?_
            refine va_get (D := (dC, dI)) (ci := 6) (v := .ref (x 0)) (C := RX6) (T := TX6) (N := 7) hx hb hts inB_6 hown hE.1 hP 3 rfl rfl 0 (Nat.le_of_ble_eq_true rfl) (hts _ k_265) (fun _ h9 => h9) rfl dX6_expression_84 ?_
            refine va_getN (D := (dC, dI)) (ci := 9) (v := .int (v6 2)) (C := RX9) (T := TX9) (N := 6) hx hb hts inB_9 hown hE.1 hP 1 rfl rfl 2 (Nat.le_of_ble_eq_true rfl) (va_Nw.use rfl (hE.2 _ k_139)) (fun _ h9 => h9) rfl dX6_expression_87 ?_
            refine lv_istore (lv' := [(5, .int (v6 2)), (4, .int l4_6), (3, .int 1600), (0, .ref (x 2)), (1, .int 4), (2, .int 4)]) hx hb dX6_expression_90 hl (Nat.le_of_ble_eq_true rfl) rfl (fun ls hl => ?_)
            refine lv_aload_n hx hb dX6_expression_92 rfl (lv_at hl 3 rfl) ?_
            refine va_get (D := (dC, dI)) (ci := 6) (v := .ref (x 0)) (C := RX6) (T := TX6) (N := 7) hx hb hts inB_6 hown hE.1 hP 3 rfl rfl 0 (Nat.le_of_ble_eq_true rfl) (hts _ k_265) (fun _ h9 => h9) rfl dX6_expression_93 ?_
            refine csVv (n := 0) (rest := []) hx hb hml hown hts hE hP hD hS hA hF hT (sX_X9_advance_1 NF l dC dI cy x0 x  v6 f6 hIv6 ) k_699 k_559 k_560 k_102 k_561 hd_yX9_advance ⟨Nat.le_of_ble_eq_true rfl, Nat.le_of_ble_eq_true rfl⟩ 1 9 rfl rfl (rfl) hl.1 rfl (Nat.le_of_ble_eq_true rfl) dX6_expression_96 (fun u H locs hw hP hD hS => ?_)
            obtain ⟨hG11, hw⟩ := hw
            obtain ⟨v12, f13⟩ := u
            obtain ⟨kV_v12, kF_f13, hIv12, hk0_v12, hk1_v12, hk7_v12, hk8_v12, hk9_v12, hk10_v12, hk31_v12, hk32_v12⟩ := hw
            have hM_v12 : KV [2, 3, 4, 5, 7, 8, 16, 17] v12 v := KV.tr kV_v12 hM_v6 rfl
            have hA_f13 : KF [3, 4] f13 f := KF.tr kF_f13 hA_f6 rfl
            have hP : va_P (dC, dI) vwCl (XW cy x0 x v12 f13) H := hP
            have hD : va_D A (XW cy x0 x v12 f13) := hD
            have hq0_v12 : v12 0 = (v 0) := hk0_v12.trans hq0_v6
            have hq1_v12 : v12 1 = (v 1) := hk1_v12.trans hq1_v6
            have hq9_v12 : v12 9 = (v 9) := hk9_v12.trans hq9_v6
            have hq10_v12 : v12 10 = (v 10) := hk10_v12.trans hq10_v6
            have hq31_v12 : v12 31 = (v 31) := hk31_v12.trans hq31_v6
            have hq32_v12 : v12 32 = (v 32) := hk32_v12.trans hq32_v6
            refine lv_aload_n hx hb dX6_expression_99 rfl (lv_at hl 3 rfl) ?_
            refine lv_iload_n hx hb dX6_expression_100 rfl (lv_at hl 4 rfl) ?_
            refine lv_iconst (v := 1) hx hb dX6_expression_101 rfl ?_
            refine lv_iadd hx hb dX6_expression_102 ?_
            refine tI (y := 5) (by decide) ?_
            refine lv_iload_n hx hb dX6_expression_103 rfl (lv_at hl 5 rfl) ?_
            refine csVi (n := 2) (rest := []) hx hb hml hown hts hE hP hD hS hA hF hT (sX_X6_expression_30 NF l dC dI cy x0 x  v12 f13 hIv12 ) k_740 k_742 k_15 k_103 k_743 hd_yX6_expression ⟨Nat.le_of_ble_eq_true rfl, Nat.le_of_ble_eq_true rfl⟩ 3 6 rfl rfl (rfl) hl.1 rfl (Nat.le_of_ble_eq_true rfl) dX6_expression_104 (fun r14 u H locs hw hP hD hS => ?_)
            obtain ⟨hG15, hw⟩ := hw
            obtain ⟨v16, f17⟩ := u
            obtain ⟨kV_v16, kF_f17, hIv16, hk0_v16, hk1_v16, hk9_v16, hk10_v16, hk31_v16, hk32_v16, hw⟩ := hw
            have hM_v16 : KV [2, 3, 4, 5, 7, 8, 16, 17] v16 v := KV.tr kV_v16 hM_v12 rfl
            have hA_f17 : KF [3, 4] f17 f := KF.tr kF_f17 hA_f13 rfl
            have hP : va_P (dC, dI) vwCl (XW cy x0 x v16 f17) H := hP
            have hD : va_D A (XW cy x0 x v16 f17) := hD
            have hq0_v16 : v16 0 = (v 0) := hk0_v16.trans hq0_v12
            have hq1_v16 : v16 1 = (v 1) := hk1_v16.trans hq1_v12
            have hq9_v16 : v16 9 = (v 9) := hk9_v16.trans hq9_v12
            have hq10_v16 : v16 10 = (v 10) := hk10_v16.trans hq10_v12
            have hq31_v16 : v16 31 = (v 31) := hk31_v16.trans hq31_v12
            have hq32_v16 : v16 32 = (v 32) := hk32_v16.trans hq32_v12
            rcases hw with ⟨g18⟩ | ⟨g18⟩
            · skip
              subst g18
              refine lv_if_ne (tgt := 112) hx hb dX6_expression_107 rfl (fun _ => ?_) (fun c0 => absurd c0 (by decide))
              refine lv_aload_n hx hb dX6_expression_112 rfl (lv_at hl 3 rfl) ?_
              refine va_get (D := (dC, dI)) (ci := 6) (v := .ref (x 3)) (C := RX6) (T := TX6) (N := 7) hx hb hts inB_6 hown hE.1 hP 3 rfl rfl 1 (Nat.le_of_ble_eq_true rfl) (hts _ k_266) (fun _ h9 => h9) rfl dX6_expression_113 ?_
              refine va_getN (D := (dC, dI)) (ci := 7) (v := .ref (x 6)) (C := RX7) (T := TX7) (N := 10) hx hb hts inB_7 hown hE.1 hP 4 rfl rfl 2 (Nat.le_of_ble_eq_true rfl) (va_Nw.use rfl (hE.2 _ k_210)) (fun _ h9 => h9) rfl dX6_expression_116 ?_
              refine lv_iload hx hb dX6_expression_119 (lv_at hl 0 rfl) ?_
              refine lv_iconst (v := 0) hx hb dX6_expression_121 rfl ?_
              refine cbVv (n := 2) (rest := []) hx hb hml hown hts hE hP hD hS hA (sX_X4_add_1 NF l dC dI cy x0 x (v6 2) 0 v16 f17 hIv16 ) k_748 k_749 k_750 k_105 k_751 hd_yX4_add ⟨Nat.le_of_ble_eq_true rfl, Nat.le_of_ble_eq_true rfl⟩ 7 4 rfl rfl (rfl) hl.1 rfl (Nat.le_of_ble_eq_true rfl) dX6_expression_122 (fun u H locs hw hP hD hS => ?_)
              obtain ⟨hG19, hw⟩ := hw
              obtain ⟨v20, f21⟩ := u
              obtain ⟨kV_v20, kF_f21, hIv20, hk0_v20, hk1_v20, hk7_v20, hk8_v20, hk9_v20, hk10_v20, hk31_v20, hk32_v20⟩ := hw
              have hM_v20 : KV [2, 3, 4, 5, 7, 8, 16, 17] v20 v := KV.tr kV_v20 hM_v16 rfl
              have hA_f21 : KF [3, 4] f21 f := KF.tr kF_f21 hA_f17 rfl
              have hP : va_P (dC, dI) vwCl (XW cy x0 x v20 f21) H := hP
              have hD : va_D A (XW cy x0 x v20 f21) := hD
              have hq0_v20 : v20 0 = (v 0) := hk0_v20.trans hq0_v16
              have hq1_v20 : v20 1 = (v 1) := hk1_v20.trans hq1_v16
              have hq9_v20 : v20 9 = (v 9) := hk9_v20.trans hq9_v16
              have hq10_v20 : v20 10 = (v 10) := hk10_v20.trans hq10_v16
              have hq31_v20 : v20 31 = (v 31) := hk31_v20.trans hq31_v16
              have hq32_v20 : v20 32 = (v 32) := hk32_v20.trans hq32_v16
              obtain ⟨t22, et22⟩ : ∃ y : Int32, y = l4_6 + 1 := ⟨_, rfl⟩
              have zt22 : t22.toInt = l4_6.toInt + 1 := (congrArg Int32.toInt et22).trans (add_i rfl tc_1 (om_41 hr4_6) (om_5 zc7))
              refine lv_iinc (v := t22) (lv' := [(4, .int t22), (5, .int (v6 2)), (3, .int 1600), (0, .ref (x 2)), (1, .int 4), (2, .int 4)]) hx hb dX6_expression_125 hl (k := 1) rfl et22.symm (Nat.le_of_ble_eq_true rfl) rfl (fun ls hl => ?_)
              refine lv_goto (tgt := 63) hx hb dX6_expression_128 rfl ?_
              have rg24 := fb_rng t22
              exact ih6 t22 v20 f21 hIv20 hq0_v20 hq1_v20 hq9_v20 hq10_v20 hq31_v20 hq32_v20 ((gsX_X6_expression_29_q1 c7 hG9 hG11 hG15 hG19 et22).symm.trans hT6) ⟨show (0 : Int) ≤ t22.toInt from om_43 hr4_6 zt22, show t22.toInt ≤ (2147483647 : Int) from om_44 rg24⟩ hM_v20 hA_f21 (show (2147483647 - t22.toInt).toNat < n6 from om_33 hm6 zt22 rg24) _ _ _ hP hD hS (lv_sub hl [0, 2, 3, 4, 5] rfl)
            · skip
              subst g18
              refine lv_if_ne (tgt := 112) hx hb dX6_expression_107 rfl (fun c0 => absurd (by decide) c0) (fun _ => ?_)
              refine lv_iconst (v := 0) hx hb dX6_expression_110 rfl ?_
              exact ret 0 (v16, f17) _ _ _ _ _ _ rfl ⟨(hT6.symm.trans (gsX_X6_expression_29_q2 c7 hG9 hG11 hG15)), hM_v16, hA_f17, hIv16, (hk0_v16.trans (hk0_v12.trans hq0_v6)), (hk1_v16.trans (hk1_v12.trans hq1_v6)), (hk9_v16.trans (hk9_v12.trans hq9_v6)), (hk10_v16.trans (hk10_v12.trans hq10_v6)), (hk31_v16.trans (hk31_v12.trans hq31_v6)), (hk32_v16.trans (hk32_v12.trans hq32_v6)), (Or.inr rfl)⟩ hP hD hS dX6_expression_111 (Nat.le_refl _) (Nat.le_refl _)
          · skip
            subst g10
            refine lv_if_eq (tgt := 131) hx hb dX6_expression_80 rfl (fun _ => ?_) (fun c0 => absurd (by decide) c0)
            refine lv_iconst (v := 1) hx hb dX6_expression_131 rfl ?_
            exact ret 1 (v6, f6) _ _ _ _ _ _ rfl ⟨(hT6.symm.trans (gsX_X6_expression_29_q3 c7 hG9)), hM_v6, hA_f6, hIv6, hq0_v6, hq1_v6, hq9_v6, hq10_v6, hq31_v6, hq32_v6, (Or.inl rfl)⟩ hP hD hS dX6_expression_132 (Nat.le_refl _) (Nat.le_refl _)
    exact lp6 (4294967296 + NF) 0 v3 f4 hIv3 hq0_v3 hq1_v3 hq9_v3 hq10_v3 hq31_v3 hq32_v3 (gsX_X6_expression_29_q4 hG2).symm ⟨by decide, by decide⟩ hM_v3 hA_f4 (show (2147483647 - (0 : Int32).toInt).toNat < 4294967296 + NF from om_38 tc_0) _ _ _ hP hD hS (lv_sub hl [0, 1, 2, 3, 4] rfl)
  · skip
    subst g5
    refine lv_if_ne (tgt := 47) hx hb dX6_expression_42 rfl (fun c0 => absurd (by decide) c0) (fun _ => ?_)
    refine lv_iconst (v := 0) hx hb dX6_expression_45 rfl ?_
    exact ret 0 (v3, f4) _ _ _ _ _ _ rfl ⟨(gsX_X6_expression_29_q5 hG2), hM_v3, hA_f4, hIv3, hk0_v3, hk1_v3, hk9_v3, hk10_v3, hk31_v3, hk32_v3, (Or.inr rfl)⟩ hP hD hS dX6_expression_46 (Nat.le_refl _) (Nat.le_refl _)
set_option maxHeartbeats 4000000 in
set_option maxRecDepth 100000 in
theorem sX_X6_expression_28 (NF : Nat) (l : Launch) (dC : Nat → ClassId) (dI : Nat → Nat → Nat) (cy : Nat → ClassId) (x0 : Nat) (x : Nat → Nat)  (v : Nat → Int32) (f : Nat → Nat → Int32) (hIv : XI v)  : ctIS l (dC, dI) cy yX6_expression cX6_expression 6 .boolean 31 783 0 0 ((Nat → Int32) × (Nat → Nat → Int32)) [.ref (x 2), .int 3, .int 4] (XW cy x0 x v f) (fun r u => gsX_X6_expression_28 NF v f = (r, u) ∧ KV [2, 3, 4, 5, 7, 8, 16, 17] u.1 v ∧ KF [3, 4] u.2 f ∧ XI u.1 ∧ u.1 0 = v 0 ∧ u.1 1 = v 1 ∧ u.1 9 = v 9 ∧ u.1 10 = v 10 ∧ u.1 31 = v 31 ∧ u.1 32 = v 32 ∧ ((r = 1) ∨ (r = 0))) (fun u => XW cy x0 x u.1 u.2) := by
  refine ctIS_of (by decide) (Nat.le_of_ble_eq_true rfl) (fun p e s m below meth c A ls Q hx hb hml hts hown hE hF hT hP hD hA hl ret => ?_)
  have hM_v : KV [2, 3, 4, 5, 7, 8, 16, 17] v v := fun _ _ => rfl
  have hA_f : KF [3, 4] f f := fun _ _ => rfl
  have hown : s.vm.findClass RX6 = some m.cls := hown
  have hS : va_S A s.heap s.heap [] := va_S.rf
  have hl : lv_has ls 6 [(0, .ref (x 2)), (1, .int 3), (2, .int 4)] := hl
  refine lv_iload_n hx hb dX6_expression_0 rfl (lv_at hl 1 rfl) ?_
  refine lv_iconst (v := 5) hx hb dX6_expression_1 rfl ?_
  refine lv_icmp_lt (tgt := 11) hx hb dX6_expression_2 rfl (fun _ => ?_) (fun c0 => absurd (by decide) c0)
  refine lv_iload_n hx hb dX6_expression_11 rfl (lv_at hl 1 rfl) ?_
  refine lv_iconst (v := 2) hx hb dX6_expression_12 rfl ?_
  refine lv_icmp_ne (tgt := 34) hx hb dX6_expression_13 rfl (fun _ => ?_) (fun c0 => absurd c0 (by decide))
  refine lv_aload_n hx hb dX6_expression_34 rfl (lv_at hl 0 rfl) ?_
  refine lv_iload_n hx hb dX6_expression_35 rfl (lv_at hl 1 rfl) ?_
  refine lv_iconst (v := 1) hx hb dX6_expression_36 rfl ?_
  refine lv_iadd hx hb dX6_expression_37 ?_
  refine tI (y := 4) (by decide) ?_
  refine lv_iload_n hx hb dX6_expression_38 rfl (lv_at hl 2 rfl) ?_
  refine csVi (n := 2) (rest := []) hx hb hml hown hts hE hP hD hS hA hF hT (sX_X6_expression_29 NF l dC dI cy x0 x  v f hIv ) k_740 k_742 k_15 k_103 k_743 hd_yX6_expression ⟨Nat.le_of_ble_eq_true rfl, Nat.le_of_ble_eq_true rfl⟩ 3 6 rfl rfl (rfl) hl.1 rfl (Nat.le_of_ble_eq_true rfl) dX6_expression_39 (fun r1 u H locs hw hP hD hS => ?_)
  obtain ⟨hG2, hw⟩ := hw
  obtain ⟨v3, f4⟩ := u
  obtain ⟨kV_v3, kF_f4, hIv3, hk0_v3, hk1_v3, hk9_v3, hk10_v3, hk31_v3, hk32_v3, hw⟩ := hw
  have hM_v3 : KV [2, 3, 4, 5, 7, 8, 16, 17] v3 v := KV.tr kV_v3 hM_v rfl
  have hA_f4 : KF [3, 4] f4 f := KF.tr kF_f4 hA_f rfl
  have hP : va_P (dC, dI) vwCl (XW cy x0 x v3 f4) H := hP
  have hD : va_D A (XW cy x0 x v3 f4) := hD
  have hq0_v3 : v3 0 = (v 0) := hk0_v3
  have hq1_v3 : v3 1 = (v 1) := hk1_v3
  have hq9_v3 : v3 9 = (v 9) := hk9_v3
  have hq10_v3 : v3 10 = (v 10) := hk10_v3
  have hq31_v3 : v3 31 = (v 31) := hk31_v3
  have hq32_v3 : v3 32 = (v 32) := hk32_v3
  rcases hw with ⟨g5⟩ | ⟨g5⟩
  · skip
    subst g5
    refine lv_if_ne (tgt := 47) hx hb dX6_expression_42 rfl (fun _ => ?_) (fun c0 => absurd c0 (by decide))
    refine lv_iload_n hx hb dX6_expression_47 rfl (lv_at hl 1 rfl) ?_
    refine lv_iconst (v := 2) hx hb dX6_expression_48 rfl ?_
    refine lv_icmp_ne (tgt := 56) hx hb dX6_expression_49 rfl (fun _ => ?_) (fun c0 => absurd c0 (by decide))
    refine lv_sipush (v := 1600) hx hb dX6_expression_56 rfl ?_
    refine lv_istore_n (lv' := [(3, .int 1600), (0, .ref (x 2)), (1, .int 3), (2, .int 4)]) hx hb dX6_expression_59 rfl hl (Nat.le_of_ble_eq_true rfl) rfl (fun ls hl => ?_)
    refine lv_iconst (v := 0) hx hb dX6_expression_60 rfl ?_
    refine lv_istore (lv' := [(4, .int 0), (3, .int 1600), (0, .ref (x 2)), (1, .int 3), (2, .int 4)]) hx hb dX6_expression_61 hl (Nat.le_of_ble_eq_true rfl) rfl (fun ls hl => ?_)
    have lp6 : ∀ (n6 : Nat) (l4_6 : Int32) (v6 : Nat → Int32) (f6 : Nat → Nat → Int32), XI v6 → v6 0 = (v 0) → v6 1 = (v 1) → v6 9 = (v 9) → v6 10 = (v 10) → v6 31 = (v 31) → v6 32 = (v 32) → gsX_X6_expression_28_L6 NF n6 l4_6 v6 f6 = (gsX_X6_expression_28 NF v f) → ((0 : Int) ≤ l4_6.toInt ∧ l4_6.toInt ≤ 2147483647) → KV [2, 3, 4, 5, 7, 8, 16, 17] v6 v → KF [3, 4] f6 f → (2147483647 - l4_6.toInt).toNat < n6 → ∀ (H : Heap) (locs : List Loc) (ls : Array Slot), va_P (dC, dI) vwCl (XW cy x0 x v6 f6) H → va_D A (XW cy x0 x v6 f6) → va_S A s.heap H locs → lv_has ls 6 [(4, .int l4_6), (3, .int 1600), (0, .ref (x 2)), (1, .int 3), (2, .int 4)] → W p l e { frames := 31, cells := 0, slots := 0, locals := 783 } s m ([.ref (x 2), .int 3, .int 4] : List Value).toArray below meth c H locs 0 0 Q (F0 m 63 ls []) := by
      intro n6
      induction n6 with
      | zero => intro l4_6 v6 f6 hIv6 hq0_v6 hq1_v6 hq9_v6 hq10_v6 hq31_v6 hq32_v6 hT6 hr4_6 hM_v6 hA_f6 hm; exact absurd hm (Nat.not_lt_zero _)
      | succ n6 ih6 =>
        intro l4_6 v6 f6 hIv6 hq0_v6 hq1_v6 hq9_v6 hq10_v6 hq31_v6 hq32_v6 hT6 hr4_6 hM_v6 hA_f6 hm6 H locs ls hP hD hS hl
        refine lv_iload hx hb dX6_expression_63 (lv_at hl 0 rfl) ?_
        refine lv_iload_n hx hb dX6_expression_65 rfl (lv_at hl 1 rfl) ?_
        refine lv_icmp_ge (tgt := 131) hx hb dX6_expression_66 rfl (fun c7 => ?_) (fun c7 => ?_)
        · skip
          refine lv_iconst (v := 1) hx hb dX6_expression_131 rfl ?_
          exact ret 1 (v6, f6) _ _ _ _ _ _ rfl ⟨(hT6.symm.trans (gsX_X6_expression_28_q0 c7)), hM_v6, hA_f6, hIv6, hq0_v6, hq1_v6, hq9_v6, hq10_v6, hq31_v6, hq32_v6, (Or.inl rfl)⟩ hP hD hS dX6_expression_132 (Nat.le_refl _) (Nat.le_refl _)
        · skip
          have zc7 : ¬ (1600 ≤ l4_6.toInt) := zMn tc_1600 rfl c7
          refine lv_iload_n hx hb dX6_expression_69 rfl (lv_at hl 3 rfl) ?_
          refine lv_aload_n hx hb dX6_expression_70 rfl (lv_at hl 2 rfl) ?_
          refine va_get (D := (dC, dI)) (ci := 6) (v := .ref (x 0)) (C := RX6) (T := TX6) (N := 7) hx hb hts inB_6 hown hE.1 hP 3 rfl rfl 0 (Nat.le_of_ble_eq_true rfl) (hts _ k_265) (fun _ h9 => h9) rfl dX6_expression_71 ?_
          refine va_getN (D := (dC, dI)) (ci := 9) (v := .int (v6 2)) (C := RX9) (T := TX9) (N := 6) hx hb hts inB_9 hown hE.1 hP 1 rfl rfl 2 (Nat.le_of_ble_eq_true rfl) (va_Nw.use rfl (hE.2 _ k_139)) (fun _ h9 => h9) rfl dX6_expression_74 ?_
          refine cbSi (n := 2) (rest := []) hx hb hml hown hts hE hP hD hS hA (sX_X6_joins_1 NF l dC dI cy x0 x 3 (v6 2) v6 f6 hIv6 ) k_756 k_757 k_103 k_758 he_yX6_joins ⟨Nat.le_of_ble_eq_true rfl, Nat.le_of_ble_eq_true rfl⟩ (rfl) hl.1 rfl (Nat.le_of_ble_eq_true rfl) dX6_expression_77 (fun r8 u H locs hw hP hD hS => ?_)
          obtain ⟨hG9, hw⟩ := hw
          rcases hw with ⟨g10⟩ | ⟨g10⟩
          · skip
            subst g10
            refine lv_if_eq (tgt := 131) hx hb dX6_expression_80 rfl (fun c0 => absurd c0 (by decide)) (fun _ => ?_)
            refine lv_aload_n hx hb dX6_expression_83 rfl (lv_at hl 2 rfl) ?_
            refine va_get (D := (dC, dI)) (ci := 6) (v := .ref (x 0)) (C := RX6) (T := TX6) (N := 7) hx hb hts inB_6 hown hE.1 hP 3 rfl rfl 0 (Nat.le_of_ble_eq_true rfl) (hts _ k_265) (fun _ h9 => h9) rfl dX6_expression_84 ?_
            refine va_getN (D := (dC, dI)) (ci := 9) (v := .int (v6 2)) (C := RX9) (T := TX9) (N := 6) hx hb hts inB_9 hown hE.1 hP 1 rfl rfl 2 (Nat.le_of_ble_eq_true rfl) (va_Nw.use rfl (hE.2 _ k_139)) (fun _ h9 => h9) rfl dX6_expression_87 ?_
            refine lv_istore (lv' := [(5, .int (v6 2)), (4, .int l4_6), (3, .int 1600), (0, .ref (x 2)), (1, .int 3), (2, .int 4)]) hx hb dX6_expression_90 hl (Nat.le_of_ble_eq_true rfl) rfl (fun ls hl => ?_)
            refine lv_aload_n hx hb dX6_expression_92 rfl (lv_at hl 3 rfl) ?_
            refine va_get (D := (dC, dI)) (ci := 6) (v := .ref (x 0)) (C := RX6) (T := TX6) (N := 7) hx hb hts inB_6 hown hE.1 hP 3 rfl rfl 0 (Nat.le_of_ble_eq_true rfl) (hts _ k_265) (fun _ h9 => h9) rfl dX6_expression_93 ?_
            refine csVv (n := 0) (rest := []) hx hb hml hown hts hE hP hD hS hA hF hT (sX_X9_advance_1 NF l dC dI cy x0 x  v6 f6 hIv6 ) k_699 k_559 k_560 k_102 k_561 hd_yX9_advance ⟨Nat.le_of_ble_eq_true rfl, Nat.le_of_ble_eq_true rfl⟩ 1 9 rfl rfl (rfl) hl.1 rfl (Nat.le_of_ble_eq_true rfl) dX6_expression_96 (fun u H locs hw hP hD hS => ?_)
            obtain ⟨hG11, hw⟩ := hw
            obtain ⟨v12, f13⟩ := u
            obtain ⟨kV_v12, kF_f13, hIv12, hk0_v12, hk1_v12, hk7_v12, hk8_v12, hk9_v12, hk10_v12, hk31_v12, hk32_v12⟩ := hw
            have hM_v12 : KV [2, 3, 4, 5, 7, 8, 16, 17] v12 v := KV.tr kV_v12 hM_v6 rfl
            have hA_f13 : KF [3, 4] f13 f := KF.tr kF_f13 hA_f6 rfl
            have hP : va_P (dC, dI) vwCl (XW cy x0 x v12 f13) H := hP
            have hD : va_D A (XW cy x0 x v12 f13) := hD
            have hq0_v12 : v12 0 = (v 0) := hk0_v12.trans hq0_v6
            have hq1_v12 : v12 1 = (v 1) := hk1_v12.trans hq1_v6
            have hq9_v12 : v12 9 = (v 9) := hk9_v12.trans hq9_v6
            have hq10_v12 : v12 10 = (v 10) := hk10_v12.trans hq10_v6
            have hq31_v12 : v12 31 = (v 31) := hk31_v12.trans hq31_v6
            have hq32_v12 : v12 32 = (v 32) := hk32_v12.trans hq32_v6
            refine lv_aload_n hx hb dX6_expression_99 rfl (lv_at hl 3 rfl) ?_
            refine lv_iload_n hx hb dX6_expression_100 rfl (lv_at hl 4 rfl) ?_
            refine lv_iconst (v := 1) hx hb dX6_expression_101 rfl ?_
            refine lv_iadd hx hb dX6_expression_102 ?_
            refine tI (y := 4) (by decide) ?_
            refine lv_iload_n hx hb dX6_expression_103 rfl (lv_at hl 5 rfl) ?_
            refine csVi (n := 2) (rest := []) hx hb hml hown hts hE hP hD hS hA hF hT (sX_X6_expression_29 NF l dC dI cy x0 x  v12 f13 hIv12 ) k_740 k_742 k_15 k_103 k_743 hd_yX6_expression ⟨Nat.le_of_ble_eq_true rfl, Nat.le_of_ble_eq_true rfl⟩ 3 6 rfl rfl (rfl) hl.1 rfl (Nat.le_of_ble_eq_true rfl) dX6_expression_104 (fun r14 u H locs hw hP hD hS => ?_)
            obtain ⟨hG15, hw⟩ := hw
            obtain ⟨v16, f17⟩ := u
            obtain ⟨kV_v16, kF_f17, hIv16, hk0_v16, hk1_v16, hk9_v16, hk10_v16, hk31_v16, hk32_v16, hw⟩ := hw
            have hM_v16 : KV [2, 3, 4, 5, 7, 8, 16, 17] v16 v := KV.tr kV_v16 hM_v12 rfl
            have hA_f17 : KF [3, 4] f17 f := KF.tr kF_f17 hA_f13 rfl
            have hP : va_P (dC, dI) vwCl (XW cy x0 x v16 f17) H := hP
            have hD : va_D A (XW cy x0 x v16 f17) := hD
            have hq0_v16 : v16 0 = (v 0) := hk0_v16.trans hq0_v12
            have hq1_v16 : v16 1 = (v 1) := hk1_v16.trans hq1_v12
            have hq9_v16 : v16 9 = (v 9) := hk9_v16.trans hq9_v12
            have hq10_v16 : v16 10 = (v 10) := hk10_v16.trans hq10_v12
            have hq31_v16 : v16 31 = (v 31) := hk31_v16.trans hq31_v12
            have hq32_v16 : v16 32 = (v 32) := hk32_v16.trans hq32_v12
            rcases hw with ⟨g18⟩ | ⟨g18⟩
            · skip
              subst g18
              refine lv_if_ne (tgt := 112) hx hb dX6_expression_107 rfl (fun _ => ?_) (fun c0 => absurd c0 (by decide))
              refine lv_aload_n hx hb dX6_expression_112 rfl (lv_at hl 3 rfl) ?_
              refine va_get (D := (dC, dI)) (ci := 6) (v := .ref (x 3)) (C := RX6) (T := TX6) (N := 7) hx hb hts inB_6 hown hE.1 hP 3 rfl rfl 1 (Nat.le_of_ble_eq_true rfl) (hts _ k_266) (fun _ h9 => h9) rfl dX6_expression_113 ?_
              refine va_getN (D := (dC, dI)) (ci := 7) (v := .ref (x 6)) (C := RX7) (T := TX7) (N := 10) hx hb hts inB_7 hown hE.1 hP 4 rfl rfl 2 (Nat.le_of_ble_eq_true rfl) (va_Nw.use rfl (hE.2 _ k_210)) (fun _ h9 => h9) rfl dX6_expression_116 ?_
              refine lv_iload hx hb dX6_expression_119 (lv_at hl 0 rfl) ?_
              refine lv_iconst (v := 0) hx hb dX6_expression_121 rfl ?_
              refine cbVv (n := 2) (rest := []) hx hb hml hown hts hE hP hD hS hA (sX_X4_add_1 NF l dC dI cy x0 x (v6 2) 0 v16 f17 hIv16 ) k_748 k_749 k_750 k_105 k_751 hd_yX4_add ⟨Nat.le_of_ble_eq_true rfl, Nat.le_of_ble_eq_true rfl⟩ 7 4 rfl rfl (rfl) hl.1 rfl (Nat.le_of_ble_eq_true rfl) dX6_expression_122 (fun u H locs hw hP hD hS => ?_)
              obtain ⟨hG19, hw⟩ := hw
              obtain ⟨v20, f21⟩ := u
              obtain ⟨kV_v20, kF_f21, hIv20, hk0_v20, hk1_v20, hk7_v20, hk8_v20, hk9_v20, hk10_v20, hk31_v20, hk32_v20⟩ := hw
              have hM_v20 : KV [2, 3, 4, 5, 7, 8, 16, 17] v20 v := KV.tr kV_v20 hM_v16 rfl
              have hA_f21 : KF [3, 4] f21 f := KF.tr kF_f21 hA_f17 rfl
              have hP : va_P (dC, dI) vwCl (XW cy x0 x v20 f21) H := hP
              have hD : va_D A (XW cy x0 x v20 f21) := hD
              have hq0_v20 : v20 0 = (v 0) := hk0_v20.trans hq0_v16
              have hq1_v20 : v20 1 = (v 1) := hk1_v20.trans hq1_v16
              have hq9_v20 : v20 9 = (v 9) := hk9_v20.trans hq9_v16
              have hq10_v20 : v20 10 = (v 10) := hk10_v20.trans hq10_v16
              have hq31_v20 : v20 31 = (v 31) := hk31_v20.trans hq31_v16
              have hq32_v20 : v20 32 = (v 32) := hk32_v20.trans hq32_v16
              obtain ⟨t22, et22⟩ : ∃ y : Int32, y = l4_6 + 1 := ⟨_, rfl⟩
              have zt22 : t22.toInt = l4_6.toInt + 1 := (congrArg Int32.toInt et22).trans (add_i rfl tc_1 (om_41 hr4_6) (om_5 zc7))
              refine lv_iinc (v := t22) (lv' := [(4, .int t22), (5, .int (v6 2)), (3, .int 1600), (0, .ref (x 2)), (1, .int 3), (2, .int 4)]) hx hb dX6_expression_125 hl (k := 1) rfl et22.symm (Nat.le_of_ble_eq_true rfl) rfl (fun ls hl => ?_)
              refine lv_goto (tgt := 63) hx hb dX6_expression_128 rfl ?_
              have rg24 := fb_rng t22
              exact ih6 t22 v20 f21 hIv20 hq0_v20 hq1_v20 hq9_v20 hq10_v20 hq31_v20 hq32_v20 ((gsX_X6_expression_28_q1 c7 hG9 hG11 hG15 hG19 et22).symm.trans hT6) ⟨show (0 : Int) ≤ t22.toInt from om_43 hr4_6 zt22, show t22.toInt ≤ (2147483647 : Int) from om_44 rg24⟩ hM_v20 hA_f21 (show (2147483647 - t22.toInt).toNat < n6 from om_33 hm6 zt22 rg24) _ _ _ hP hD hS (lv_sub hl [0, 2, 3, 4, 5] rfl)
            · skip
              subst g18
              refine lv_if_ne (tgt := 112) hx hb dX6_expression_107 rfl (fun c0 => absurd (by decide) c0) (fun _ => ?_)
              refine lv_iconst (v := 0) hx hb dX6_expression_110 rfl ?_
              exact ret 0 (v16, f17) _ _ _ _ _ _ rfl ⟨(hT6.symm.trans (gsX_X6_expression_28_q2 c7 hG9 hG11 hG15)), hM_v16, hA_f17, hIv16, (hk0_v16.trans (hk0_v12.trans hq0_v6)), (hk1_v16.trans (hk1_v12.trans hq1_v6)), (hk9_v16.trans (hk9_v12.trans hq9_v6)), (hk10_v16.trans (hk10_v12.trans hq10_v6)), (hk31_v16.trans (hk31_v12.trans hq31_v6)), (hk32_v16.trans (hk32_v12.trans hq32_v6)), (Or.inr rfl)⟩ hP hD hS dX6_expression_111 (Nat.le_refl _) (Nat.le_refl _)
          · skip
            subst g10
            refine lv_if_eq (tgt := 131) hx hb dX6_expression_80 rfl (fun _ => ?_) (fun c0 => absurd (by decide) c0)
            refine lv_iconst (v := 1) hx hb dX6_expression_131 rfl ?_
            exact ret 1 (v6, f6) _ _ _ _ _ _ rfl ⟨(hT6.symm.trans (gsX_X6_expression_28_q3 c7 hG9)), hM_v6, hA_f6, hIv6, hq0_v6, hq1_v6, hq9_v6, hq10_v6, hq31_v6, hq32_v6, (Or.inl rfl)⟩ hP hD hS dX6_expression_132 (Nat.le_refl _) (Nat.le_refl _)
    exact lp6 (4294967296 + NF) 0 v3 f4 hIv3 hq0_v3 hq1_v3 hq9_v3 hq10_v3 hq31_v3 hq32_v3 (gsX_X6_expression_28_q4 hG2).symm ⟨by decide, by decide⟩ hM_v3 hA_f4 (show (2147483647 - (0 : Int32).toInt).toNat < 4294967296 + NF from om_38 tc_0) _ _ _ hP hD hS (lv_sub hl [0, 1, 2, 3, 4] rfl)
  · skip
    subst g5
    refine lv_if_ne (tgt := 47) hx hb dX6_expression_42 rfl (fun c0 => absurd (by decide) c0) (fun _ => ?_)
    refine lv_iconst (v := 0) hx hb dX6_expression_45 rfl ?_
    exact ret 0 (v3, f4) _ _ _ _ _ _ rfl ⟨(gsX_X6_expression_28_q5 hG2), hM_v3, hA_f4, hIv3, hk0_v3, hk1_v3, hk9_v3, hk10_v3, hk31_v3, hk32_v3, (Or.inr rfl)⟩ hP hD hS dX6_expression_46 (Nat.le_refl _) (Nat.le_refl _)
set_option maxHeartbeats 4000000 in
set_option maxRecDepth 100000 in
theorem sX_X6_negation_4 (NF : Nat) (l : Launch) (dC : Nat → ClassId) (dI : Nat → Nat → Nat) (cy : Nat → ClassId) (x0 : Nat) (x : Nat → Nat)  (v : Nat → Int32) (f : Nat → Nat → Int32) (hIv : XI v)  : ctIS l (dC, dI) cy yX6_negation cX6_negation 2 .boolean 26 660 0 0 ((Nat → Int32) × (Nat → Nat → Int32)) [.ref (x 2), .int 4] (XW cy x0 x v f) (fun r u => gsX_X6_negation_4 NF v f = (r, u) ∧ KV [2, 3, 4, 5, 7, 8, 16, 17] u.1 v ∧ KF [3, 4] u.2 f ∧ XI u.1 ∧ u.1 0 = v 0 ∧ u.1 1 = v 1 ∧ u.1 9 = v 9 ∧ u.1 10 = v 10 ∧ u.1 31 = v 31 ∧ u.1 32 = v 32 ∧ ((r = 1) ∨ (r = 0))) (fun u => XW cy x0 x u.1 u.2) := by
  refine ctIS_of (by decide) (Nat.le_of_ble_eq_true rfl) (fun p e s m below meth c A ls Q hx hb hml hts hown hE hF hT hP hD hA hl ret => ?_)
  have hM_v : KV [2, 3, 4, 5, 7, 8, 16, 17] v v := fun _ _ => rfl
  have hA_f : KF [3, 4] f f := fun _ _ => rfl
  have hown : s.vm.findClass RX6 = some m.cls := hown
  have hS : va_S A s.heap s.heap [] := va_S.rf
  have hl : lv_has ls 2 [(0, .ref (x 2)), (1, .int 4)] := hl
  refine lv_iload_n hx hb dX6_negation_0 rfl (lv_at hl 1 rfl) ?_
  refine lv_bipush (v := 7) hx hb dX6_negation_1 rfl ?_
  refine lv_icmp_lt (tgt := 11) hx hb dX6_negation_3 rfl (fun _ => ?_) (fun c0 => absurd (by decide) c0)
  refine lv_aload_n hx hb dX6_negation_11 rfl (lv_at hl 0 rfl) ?_
  refine va_get (D := (dC, dI)) (ci := 6) (v := .ref (x 0)) (C := RX6) (T := TX6) (N := 7) hx hb hts inB_6 hown hE.1 hP 3 rfl rfl 0 (Nat.le_of_ble_eq_true rfl) (hts _ k_265) (fun _ h9 => h9) rfl dX6_negation_12 ?_
  refine csVv (n := 0) (rest := []) hx hb hml hown hts hE hP hD hS hA hF hT (sX_X9_advance_1 NF l dC dI cy x0 x  v f hIv ) k_699 k_559 k_560 k_102 k_561 hd_yX9_advance ⟨Nat.le_of_ble_eq_true rfl, Nat.le_of_ble_eq_true rfl⟩ 1 9 rfl rfl (rfl) hl.1 rfl (Nat.le_of_ble_eq_true rfl) dX6_negation_15 (fun u H locs hw hP hD hS => ?_)
  obtain ⟨hG1, hw⟩ := hw
  obtain ⟨v2, f3⟩ := u
  obtain ⟨kV_v2, kF_f3, hIv2, hk0_v2, hk1_v2, hk7_v2, hk8_v2, hk9_v2, hk10_v2, hk31_v2, hk32_v2⟩ := hw
  have hM_v2 : KV [2, 3, 4, 5, 7, 8, 16, 17] v2 v := KV.tr kV_v2 hM_v rfl
  have hA_f3 : KF [3, 4] f3 f := KF.tr kF_f3 hA_f rfl
  have hP : va_P (dC, dI) vwCl (XW cy x0 x v2 f3) H := hP
  have hD : va_D A (XW cy x0 x v2 f3) := hD
  have hq0_v2 : v2 0 = (v 0) := hk0_v2
  have hq1_v2 : v2 1 = (v 1) := hk1_v2
  have hq7_v2 : v2 7 = (v 7) := hk7_v2
  have hq8_v2 : v2 8 = (v 8) := hk8_v2
  have hq9_v2 : v2 9 = (v 9) := hk9_v2
  have hq10_v2 : v2 10 = (v 10) := hk10_v2
  have hq31_v2 : v2 31 = (v 31) := hk31_v2
  have hq32_v2 : v2 32 = (v 32) := hk32_v2
  refine lv_aload_n hx hb dX6_negation_18 rfl (lv_at hl 0 rfl) ?_
  refine lv_iconst (v := 2) hx hb dX6_negation_19 rfl ?_
  refine lv_iload_n hx hb dX6_negation_20 rfl (lv_at hl 1 rfl) ?_
  refine lv_iconst (v := 1) hx hb dX6_negation_21 rfl ?_
  refine lv_iadd hx hb dX6_negation_22 ?_
  refine tI (y := 5) (by decide) ?_
  refine csVi (n := 2) (rest := []) hx hb hml hown hts hE hP hD hS hA hF hT (sX_X6_expression_33 NF l dC dI cy x0 x  v2 f3 hIv2 ) k_740 k_742 k_15 k_103 k_743 hd_yX6_expression ⟨Nat.le_of_ble_eq_true rfl, Nat.le_of_ble_eq_true rfl⟩ 3 6 rfl rfl (rfl) hl.1 rfl (Nat.le_of_ble_eq_true rfl) dX6_negation_23 (fun r4 u H locs hw hP hD hS => ?_)
  obtain ⟨hG5, hw⟩ := hw
  obtain ⟨v6, f7⟩ := u
  obtain ⟨kV_v6, kF_f7, hIv6, hk0_v6, hk1_v6, hk9_v6, hk10_v6, hk31_v6, hk32_v6, hw⟩ := hw
  have hM_v6 : KV [2, 3, 4, 5, 7, 8, 16, 17] v6 v := KV.tr kV_v6 hM_v2 rfl
  have hA_f7 : KF [3, 4] f7 f := KF.tr kF_f7 hA_f3 rfl
  have hP : va_P (dC, dI) vwCl (XW cy x0 x v6 f7) H := hP
  have hD : va_D A (XW cy x0 x v6 f7) := hD
  have hq0_v6 : v6 0 = (v 0) := hk0_v6.trans hq0_v2
  have hq1_v6 : v6 1 = (v 1) := hk1_v6.trans hq1_v2
  have hq9_v6 : v6 9 = (v 9) := hk9_v6.trans hq9_v2
  have hq10_v6 : v6 10 = (v 10) := hk10_v6.trans hq10_v2
  have hq31_v6 : v6 31 = (v 31) := hk31_v6.trans hq31_v2
  have hq32_v6 : v6 32 = (v 32) := hk32_v6.trans hq32_v2
  rcases hw with ⟨g8⟩ | ⟨g8⟩
  · skip
    subst g8
    refine lv_if_ne (tgt := 31) hx hb dX6_negation_26 rfl (fun _ => ?_) (fun c0 => absurd c0 (by decide))
    refine lv_aload_n hx hb dX6_negation_31 rfl (lv_at hl 0 rfl) ?_
    refine va_get (D := (dC, dI)) (ci := 6) (v := .ref (x 3)) (C := RX6) (T := TX6) (N := 7) hx hb hts inB_6 hown hE.1 hP 3 rfl rfl 1 (Nat.le_of_ble_eq_true rfl) (hts _ k_266) (fun _ h9 => h9) rfl dX6_negation_32 ?_
    refine va_getN (D := (dC, dI)) (ci := 7) (v := .ref (x 6)) (C := RX7) (T := TX7) (N := 10) hx hb hts inB_7 hown hE.1 hP 4 rfl rfl 2 (Nat.le_of_ble_eq_true rfl) (va_Nw.use rfl (hE.2 _ k_210)) (fun _ h9 => h9) rfl dX6_negation_35 ?_
    refine lv_bipush (v := 115) hx hb dX6_negation_38 rfl ?_
    refine lv_iconst (v := 0) hx hb dX6_negation_40 rfl ?_
    refine cbVv (n := 2) (rest := []) hx hb hml hown hts hE hP hD hS hA (sX_X4_add_1 NF l dC dI cy x0 x 115 0 v6 f7 hIv6 ) k_748 k_749 k_750 k_105 k_751 hd_yX4_add ⟨Nat.le_of_ble_eq_true rfl, Nat.le_of_ble_eq_true rfl⟩ 7 4 rfl rfl (rfl) hl.1 rfl (Nat.le_of_ble_eq_true rfl) dX6_negation_41 (fun u H locs hw hP hD hS => ?_)
    obtain ⟨hG9, hw⟩ := hw
    obtain ⟨v10, f11⟩ := u
    obtain ⟨kV_v10, kF_f11, hIv10, hk0_v10, hk1_v10, hk7_v10, hk8_v10, hk9_v10, hk10_v10, hk31_v10, hk32_v10⟩ := hw
    have hM_v10 : KV [2, 3, 4, 5, 7, 8, 16, 17] v10 v := KV.tr kV_v10 hM_v6 rfl
    have hA_f11 : KF [3, 4] f11 f := KF.tr kF_f11 hA_f7 rfl
    have hP : va_P (dC, dI) vwCl (XW cy x0 x v10 f11) H := hP
    have hD : va_D A (XW cy x0 x v10 f11) := hD
    have hq0_v10 : v10 0 = (v 0) := hk0_v10.trans hq0_v6
    have hq1_v10 : v10 1 = (v 1) := hk1_v10.trans hq1_v6
    have hq7_v10 : v10 7 = (v6 7) := hk7_v10
    have hq8_v10 : v10 8 = (v6 8) := hk8_v10
    have hq9_v10 : v10 9 = (v 9) := hk9_v10.trans hq9_v6
    have hq10_v10 : v10 10 = (v 10) := hk10_v10.trans hq10_v6
    have hq31_v10 : v10 31 = (v 31) := hk31_v10.trans hq31_v6
    have hq32_v10 : v10 32 = (v 32) := hk32_v10.trans hq32_v6
    refine lv_iconst (v := 1) hx hb dX6_negation_44 rfl ?_
    exact ret 1 (v10, f11) _ _ _ _ _ _ rfl ⟨(gsX_X6_negation_4_q0 hG1 hG5 hG9), hM_v10, hA_f11, hIv10, (hk0_v10.trans (hk0_v6.trans hk0_v2)), (hk1_v10.trans (hk1_v6.trans hk1_v2)), (hk9_v10.trans (hk9_v6.trans hk9_v2)), (hk10_v10.trans (hk10_v6.trans hk10_v2)), (hk31_v10.trans (hk31_v6.trans hk31_v2)), (hk32_v10.trans (hk32_v6.trans hk32_v2)), (Or.inl rfl)⟩ hP hD hS dX6_negation_45 (Nat.le_refl _) (Nat.le_refl _)
  · skip
    subst g8
    refine lv_if_ne (tgt := 31) hx hb dX6_negation_26 rfl (fun c0 => absurd (by decide) c0) (fun _ => ?_)
    refine lv_iconst (v := 0) hx hb dX6_negation_29 rfl ?_
    exact ret 0 (v6, f7) _ _ _ _ _ _ rfl ⟨(gsX_X6_negation_4_q1 hG1 hG5), hM_v6, hA_f7, hIv6, (hk0_v6.trans hk0_v2), (hk1_v6.trans hk1_v2), (hk9_v6.trans hk9_v2), (hk10_v6.trans hk10_v2), (hk31_v6.trans hk31_v2), (hk32_v6.trans hk32_v2), (Or.inr rfl)⟩ hP hD hS dX6_negation_30 (Nat.le_refl _) (Nat.le_refl _)
set_option maxHeartbeats 4000000 in
set_option maxRecDepth 100000 in
theorem sX_X6_expression_27 (NF : Nat) (l : Launch) (dC : Nat → ClassId) (dI : Nat → Nat → Nat) (cy : Nat → ClassId) (x0 : Nat) (x : Nat → Nat)  (v : Nat → Int32) (f : Nat → Nat → Int32) (hIv : XI v)  : ctIS l (dC, dI) cy yX6_expression cX6_expression 6 .boolean 32 808 0 0 ((Nat → Int32) × (Nat → Nat → Int32)) [.ref (x 2), .int 2, .int 4] (XW cy x0 x v f) (fun r u => gsX_X6_expression_27 NF v f = (r, u) ∧ KV [2, 3, 4, 5, 7, 8, 16, 17] u.1 v ∧ KF [3, 4] u.2 f ∧ XI u.1 ∧ u.1 0 = v 0 ∧ u.1 1 = v 1 ∧ u.1 9 = v 9 ∧ u.1 10 = v 10 ∧ u.1 31 = v 31 ∧ u.1 32 = v 32 ∧ ((r = 1) ∨ (r = 0))) (fun u => XW cy x0 x u.1 u.2) := by
  refine ctIS_of (by decide) (Nat.le_of_ble_eq_true rfl) (fun p e s m below meth c A ls Q hx hb hml hts hown hE hF hT hP hD hA hl ret => ?_)
  have hM_v : KV [2, 3, 4, 5, 7, 8, 16, 17] v v := fun _ _ => rfl
  have hA_f : KF [3, 4] f f := fun _ _ => rfl
  have hown : s.vm.findClass RX6 = some m.cls := hown
  have hS : va_S A s.heap s.heap [] := va_S.rf
  have hl : lv_has ls 6 [(0, .ref (x 2)), (1, .int 2), (2, .int 4)] := hl
  refine lv_iload_n hx hb dX6_expression_0 rfl (lv_at hl 1 rfl) ?_
  refine lv_iconst (v := 5) hx hb dX6_expression_1 rfl ?_
  refine lv_icmp_lt (tgt := 11) hx hb dX6_expression_2 rfl (fun _ => ?_) (fun c0 => absurd (by decide) c0)
  refine lv_iload_n hx hb dX6_expression_11 rfl (lv_at hl 1 rfl) ?_
  refine lv_iconst (v := 2) hx hb dX6_expression_12 rfl ?_
  refine lv_icmp_ne (tgt := 34) hx hb dX6_expression_13 rfl (fun c0 => absurd (by decide) c0) (fun _ => ?_)
  refine lv_aload_n hx hb dX6_expression_16 rfl (lv_at hl 0 rfl) ?_
  refine va_get (D := (dC, dI)) (ci := 6) (v := .ref (x 0)) (C := RX6) (T := TX6) (N := 7) hx hb hts inB_6 hown hE.1 hP 3 rfl rfl 0 (Nat.le_of_ble_eq_true rfl) (hts _ k_265) (fun _ h9 => h9) rfl dX6_expression_17 ?_
  refine va_getN (D := (dC, dI)) (ci := 9) (v := .int (v 2)) (C := RX9) (T := TX9) (N := 6) hx hb hts inB_9 hown hE.1 hP 1 rfl rfl 2 (Nat.le_of_ble_eq_true rfl) (va_Nw.use rfl (hE.2 _ k_139)) (fun _ h9 => h9) rfl dX6_expression_20 ?_
  refine lv_bipush (v := 115) hx hb dX6_expression_23 rfl ?_
  refine lv_icmp_ne (tgt := 34) hx hb dX6_expression_25 rfl (fun c1 => ?_) (fun c1 => ?_)
  · skip
    refine lv_aload_n hx hb dX6_expression_34 rfl (lv_at hl 0 rfl) ?_
    refine lv_iload_n hx hb dX6_expression_35 rfl (lv_at hl 1 rfl) ?_
    refine lv_iconst (v := 1) hx hb dX6_expression_36 rfl ?_
    refine lv_iadd hx hb dX6_expression_37 ?_
    refine tI (y := 3) (by decide) ?_
    refine lv_iload_n hx hb dX6_expression_38 rfl (lv_at hl 2 rfl) ?_
    refine csVi (n := 2) (rest := []) hx hb hml hown hts hE hP hD hS hA hF hT (sX_X6_expression_28 NF l dC dI cy x0 x  v f hIv ) k_740 k_742 k_15 k_103 k_743 hd_yX6_expression ⟨Nat.le_of_ble_eq_true rfl, Nat.le_of_ble_eq_true rfl⟩ 3 6 rfl rfl (rfl) hl.1 rfl (Nat.le_of_ble_eq_true rfl) dX6_expression_39 (fun r2 u H locs hw hP hD hS => ?_)
    obtain ⟨hG3, hw⟩ := hw
    obtain ⟨v4, f5⟩ := u
    obtain ⟨kV_v4, kF_f5, hIv4, hk0_v4, hk1_v4, hk9_v4, hk10_v4, hk31_v4, hk32_v4, hw⟩ := hw
    have hM_v4 : KV [2, 3, 4, 5, 7, 8, 16, 17] v4 v := KV.tr kV_v4 hM_v rfl
    have hA_f5 : KF [3, 4] f5 f := KF.tr kF_f5 hA_f rfl
    have hP : va_P (dC, dI) vwCl (XW cy x0 x v4 f5) H := hP
    have hD : va_D A (XW cy x0 x v4 f5) := hD
    have hq0_v4 : v4 0 = (v 0) := hk0_v4
    have hq1_v4 : v4 1 = (v 1) := hk1_v4
    have hq9_v4 : v4 9 = (v 9) := hk9_v4
    have hq10_v4 : v4 10 = (v 10) := hk10_v4
    have hq31_v4 : v4 31 = (v 31) := hk31_v4
    have hq32_v4 : v4 32 = (v 32) := hk32_v4
    rcases hw with ⟨g6⟩ | ⟨g6⟩
    · skip
      subst g6
      refine lv_if_ne (tgt := 47) hx hb dX6_expression_42 rfl (fun _ => ?_) (fun c0 => absurd c0 (by decide))
      refine lv_iload_n hx hb dX6_expression_47 rfl (lv_at hl 1 rfl) ?_
      refine lv_iconst (v := 2) hx hb dX6_expression_48 rfl ?_
      refine lv_icmp_ne (tgt := 56) hx hb dX6_expression_49 rfl (fun c0 => absurd (by decide) c0) (fun _ => ?_)
      refine lv_iconst (v := 1) hx hb dX6_expression_52 rfl ?_
      refine lv_goto (tgt := 59) hx hb dX6_expression_53 rfl ?_
      refine lv_istore_n (lv' := [(3, .int 1), (0, .ref (x 2)), (1, .int 2), (2, .int 4)]) hx hb dX6_expression_59 rfl hl (Nat.le_of_ble_eq_true rfl) rfl (fun ls hl => ?_)
      refine lv_iconst (v := 0) hx hb dX6_expression_60 rfl ?_
      refine lv_istore (lv' := [(4, .int 0), (3, .int 1), (0, .ref (x 2)), (1, .int 2), (2, .int 4)]) hx hb dX6_expression_61 hl (Nat.le_of_ble_eq_true rfl) rfl (fun ls hl => ?_)
      have lp7 : ∀ (n7 : Nat) (l4_7 : Int32) (v7 : Nat → Int32) (f7 : Nat → Nat → Int32), XI v7 → v7 0 = (v 0) → v7 1 = (v 1) → v7 9 = (v 9) → v7 10 = (v 10) → v7 31 = (v 31) → v7 32 = (v 32) → gsX_X6_expression_27_L7 NF n7 l4_7 v7 f7 = (gsX_X6_expression_27 NF v f) → ((0 : Int) ≤ l4_7.toInt ∧ l4_7.toInt ≤ 2147483647) → KV [2, 3, 4, 5, 7, 8, 16, 17] v7 v → KF [3, 4] f7 f → (2147483647 - l4_7.toInt).toNat < n7 → ∀ (H : Heap) (locs : List Loc) (ls : Array Slot), va_P (dC, dI) vwCl (XW cy x0 x v7 f7) H → va_D A (XW cy x0 x v7 f7) → va_S A s.heap H locs → lv_has ls 6 [(4, .int l4_7), (3, .int 1), (0, .ref (x 2)), (1, .int 2), (2, .int 4)] → W p l e { frames := 32, cells := 0, slots := 0, locals := 808 } s m ([.ref (x 2), .int 2, .int 4] : List Value).toArray below meth c H locs 0 0 Q (F0 m 63 ls []) := by
        intro n7
        induction n7 with
        | zero => intro l4_7 v7 f7 hIv7 hq0_v7 hq1_v7 hq9_v7 hq10_v7 hq31_v7 hq32_v7 hT7 hr4_7 hM_v7 hA_f7 hm; exact absurd hm (Nat.not_lt_zero _)
        | succ n7 ih7 =>
          intro l4_7 v7 f7 hIv7 hq0_v7 hq1_v7 hq9_v7 hq10_v7 hq31_v7 hq32_v7 hT7 hr4_7 hM_v7 hA_f7 hm7 H locs ls hP hD hS hl
          refine lv_iload hx hb dX6_expression_63 (lv_at hl 0 rfl) ?_
          refine lv_iload_n hx hb dX6_expression_65 rfl (lv_at hl 1 rfl) ?_
          refine lv_icmp_ge (tgt := 131) hx hb dX6_expression_66 rfl (fun c8 => ?_) (fun c8 => ?_)
          · skip
            refine lv_iconst (v := 1) hx hb dX6_expression_131 rfl ?_
            exact ret 1 (v7, f7) _ _ _ _ _ _ rfl ⟨(hT7.symm.trans (gsX_X6_expression_27_q0 c8)), hM_v7, hA_f7, hIv7, hq0_v7, hq1_v7, hq9_v7, hq10_v7, hq31_v7, hq32_v7, (Or.inl rfl)⟩ hP hD hS dX6_expression_132 (Nat.le_refl _) (Nat.le_refl _)
          · skip
            have zc8 : ¬ (1 ≤ l4_7.toInt) := zMn tc_1 rfl c8
            refine lv_iload_n hx hb dX6_expression_69 rfl (lv_at hl 3 rfl) ?_
            refine lv_aload_n hx hb dX6_expression_70 rfl (lv_at hl 2 rfl) ?_
            refine va_get (D := (dC, dI)) (ci := 6) (v := .ref (x 0)) (C := RX6) (T := TX6) (N := 7) hx hb hts inB_6 hown hE.1 hP 3 rfl rfl 0 (Nat.le_of_ble_eq_true rfl) (hts _ k_265) (fun _ h9 => h9) rfl dX6_expression_71 ?_
            refine va_getN (D := (dC, dI)) (ci := 9) (v := .int (v7 2)) (C := RX9) (T := TX9) (N := 6) hx hb hts inB_9 hown hE.1 hP 1 rfl rfl 2 (Nat.le_of_ble_eq_true rfl) (va_Nw.use rfl (hE.2 _ k_139)) (fun _ h9 => h9) rfl dX6_expression_74 ?_
            refine cbSi (n := 2) (rest := []) hx hb hml hown hts hE hP hD hS hA (sX_X6_joins_1 NF l dC dI cy x0 x 2 (v7 2) v7 f7 hIv7 ) k_756 k_757 k_103 k_758 he_yX6_joins ⟨Nat.le_of_ble_eq_true rfl, Nat.le_of_ble_eq_true rfl⟩ (rfl) hl.1 rfl (Nat.le_of_ble_eq_true rfl) dX6_expression_77 (fun r9 u H locs hw hP hD hS => ?_)
            obtain ⟨hG10, hw⟩ := hw
            rcases hw with ⟨g11⟩ | ⟨g11⟩
            · skip
              subst g11
              refine lv_if_eq (tgt := 131) hx hb dX6_expression_80 rfl (fun c0 => absurd c0 (by decide)) (fun _ => ?_)
              refine lv_aload_n hx hb dX6_expression_83 rfl (lv_at hl 2 rfl) ?_
              refine va_get (D := (dC, dI)) (ci := 6) (v := .ref (x 0)) (C := RX6) (T := TX6) (N := 7) hx hb hts inB_6 hown hE.1 hP 3 rfl rfl 0 (Nat.le_of_ble_eq_true rfl) (hts _ k_265) (fun _ h9 => h9) rfl dX6_expression_84 ?_
              refine va_getN (D := (dC, dI)) (ci := 9) (v := .int (v7 2)) (C := RX9) (T := TX9) (N := 6) hx hb hts inB_9 hown hE.1 hP 1 rfl rfl 2 (Nat.le_of_ble_eq_true rfl) (va_Nw.use rfl (hE.2 _ k_139)) (fun _ h9 => h9) rfl dX6_expression_87 ?_
              refine lv_istore (lv' := [(5, .int (v7 2)), (4, .int l4_7), (3, .int 1), (0, .ref (x 2)), (1, .int 2), (2, .int 4)]) hx hb dX6_expression_90 hl (Nat.le_of_ble_eq_true rfl) rfl (fun ls hl => ?_)
              refine lv_aload_n hx hb dX6_expression_92 rfl (lv_at hl 3 rfl) ?_
              refine va_get (D := (dC, dI)) (ci := 6) (v := .ref (x 0)) (C := RX6) (T := TX6) (N := 7) hx hb hts inB_6 hown hE.1 hP 3 rfl rfl 0 (Nat.le_of_ble_eq_true rfl) (hts _ k_265) (fun _ h9 => h9) rfl dX6_expression_93 ?_
              refine csVv (n := 0) (rest := []) hx hb hml hown hts hE hP hD hS hA hF hT (sX_X9_advance_1 NF l dC dI cy x0 x  v7 f7 hIv7 ) k_699 k_559 k_560 k_102 k_561 hd_yX9_advance ⟨Nat.le_of_ble_eq_true rfl, Nat.le_of_ble_eq_true rfl⟩ 1 9 rfl rfl (rfl) hl.1 rfl (Nat.le_of_ble_eq_true rfl) dX6_expression_96 (fun u H locs hw hP hD hS => ?_)
              obtain ⟨hG12, hw⟩ := hw
              obtain ⟨v13, f14⟩ := u
              obtain ⟨kV_v13, kF_f14, hIv13, hk0_v13, hk1_v13, hk7_v13, hk8_v13, hk9_v13, hk10_v13, hk31_v13, hk32_v13⟩ := hw
              have hM_v13 : KV [2, 3, 4, 5, 7, 8, 16, 17] v13 v := KV.tr kV_v13 hM_v7 rfl
              have hA_f14 : KF [3, 4] f14 f := KF.tr kF_f14 hA_f7 rfl
              have hP : va_P (dC, dI) vwCl (XW cy x0 x v13 f14) H := hP
              have hD : va_D A (XW cy x0 x v13 f14) := hD
              have hq0_v13 : v13 0 = (v 0) := hk0_v13.trans hq0_v7
              have hq1_v13 : v13 1 = (v 1) := hk1_v13.trans hq1_v7
              have hq9_v13 : v13 9 = (v 9) := hk9_v13.trans hq9_v7
              have hq10_v13 : v13 10 = (v 10) := hk10_v13.trans hq10_v7
              have hq31_v13 : v13 31 = (v 31) := hk31_v13.trans hq31_v7
              have hq32_v13 : v13 32 = (v 32) := hk32_v13.trans hq32_v7
              refine lv_aload_n hx hb dX6_expression_99 rfl (lv_at hl 3 rfl) ?_
              refine lv_iload_n hx hb dX6_expression_100 rfl (lv_at hl 4 rfl) ?_
              refine lv_iconst (v := 1) hx hb dX6_expression_101 rfl ?_
              refine lv_iadd hx hb dX6_expression_102 ?_
              refine tI (y := 3) (by decide) ?_
              refine lv_iload_n hx hb dX6_expression_103 rfl (lv_at hl 5 rfl) ?_
              refine csVi (n := 2) (rest := []) hx hb hml hown hts hE hP hD hS hA hF hT (sX_X6_expression_28 NF l dC dI cy x0 x  v13 f14 hIv13 ) k_740 k_742 k_15 k_103 k_743 hd_yX6_expression ⟨Nat.le_of_ble_eq_true rfl, Nat.le_of_ble_eq_true rfl⟩ 3 6 rfl rfl (rfl) hl.1 rfl (Nat.le_of_ble_eq_true rfl) dX6_expression_104 (fun r15 u H locs hw hP hD hS => ?_)
              obtain ⟨hG16, hw⟩ := hw
              obtain ⟨v17, f18⟩ := u
              obtain ⟨kV_v17, kF_f18, hIv17, hk0_v17, hk1_v17, hk9_v17, hk10_v17, hk31_v17, hk32_v17, hw⟩ := hw
              have hM_v17 : KV [2, 3, 4, 5, 7, 8, 16, 17] v17 v := KV.tr kV_v17 hM_v13 rfl
              have hA_f18 : KF [3, 4] f18 f := KF.tr kF_f18 hA_f14 rfl
              have hP : va_P (dC, dI) vwCl (XW cy x0 x v17 f18) H := hP
              have hD : va_D A (XW cy x0 x v17 f18) := hD
              have hq0_v17 : v17 0 = (v 0) := hk0_v17.trans hq0_v13
              have hq1_v17 : v17 1 = (v 1) := hk1_v17.trans hq1_v13
              have hq9_v17 : v17 9 = (v 9) := hk9_v17.trans hq9_v13
              have hq10_v17 : v17 10 = (v 10) := hk10_v17.trans hq10_v13
              have hq31_v17 : v17 31 = (v 31) := hk31_v17.trans hq31_v13
              have hq32_v17 : v17 32 = (v 32) := hk32_v17.trans hq32_v13
              rcases hw with ⟨g19⟩ | ⟨g19⟩
              · skip
                subst g19
                refine lv_if_ne (tgt := 112) hx hb dX6_expression_107 rfl (fun _ => ?_) (fun c0 => absurd c0 (by decide))
                refine lv_aload_n hx hb dX6_expression_112 rfl (lv_at hl 3 rfl) ?_
                refine va_get (D := (dC, dI)) (ci := 6) (v := .ref (x 3)) (C := RX6) (T := TX6) (N := 7) hx hb hts inB_6 hown hE.1 hP 3 rfl rfl 1 (Nat.le_of_ble_eq_true rfl) (hts _ k_266) (fun _ h9 => h9) rfl dX6_expression_113 ?_
                refine va_getN (D := (dC, dI)) (ci := 7) (v := .ref (x 6)) (C := RX7) (T := TX7) (N := 10) hx hb hts inB_7 hown hE.1 hP 4 rfl rfl 2 (Nat.le_of_ble_eq_true rfl) (va_Nw.use rfl (hE.2 _ k_210)) (fun _ h9 => h9) rfl dX6_expression_116 ?_
                refine lv_iload hx hb dX6_expression_119 (lv_at hl 0 rfl) ?_
                refine lv_iconst (v := 0) hx hb dX6_expression_121 rfl ?_
                refine cbVv (n := 2) (rest := []) hx hb hml hown hts hE hP hD hS hA (sX_X4_add_1 NF l dC dI cy x0 x (v7 2) 0 v17 f18 hIv17 ) k_748 k_749 k_750 k_105 k_751 hd_yX4_add ⟨Nat.le_of_ble_eq_true rfl, Nat.le_of_ble_eq_true rfl⟩ 7 4 rfl rfl (rfl) hl.1 rfl (Nat.le_of_ble_eq_true rfl) dX6_expression_122 (fun u H locs hw hP hD hS => ?_)
                obtain ⟨hG20, hw⟩ := hw
                obtain ⟨v21, f22⟩ := u
                obtain ⟨kV_v21, kF_f22, hIv21, hk0_v21, hk1_v21, hk7_v21, hk8_v21, hk9_v21, hk10_v21, hk31_v21, hk32_v21⟩ := hw
                have hM_v21 : KV [2, 3, 4, 5, 7, 8, 16, 17] v21 v := KV.tr kV_v21 hM_v17 rfl
                have hA_f22 : KF [3, 4] f22 f := KF.tr kF_f22 hA_f18 rfl
                have hP : va_P (dC, dI) vwCl (XW cy x0 x v21 f22) H := hP
                have hD : va_D A (XW cy x0 x v21 f22) := hD
                have hq0_v21 : v21 0 = (v 0) := hk0_v21.trans hq0_v17
                have hq1_v21 : v21 1 = (v 1) := hk1_v21.trans hq1_v17
                have hq9_v21 : v21 9 = (v 9) := hk9_v21.trans hq9_v17
                have hq10_v21 : v21 10 = (v 10) := hk10_v21.trans hq10_v17
                have hq31_v21 : v21 31 = (v 31) := hk31_v21.trans hq31_v17
                have hq32_v21 : v21 32 = (v 32) := hk32_v21.trans hq32_v17
                obtain ⟨t23, et23⟩ : ∃ y : Int32, y = l4_7 + 1 := ⟨_, rfl⟩
                have zt23 : t23.toInt = l4_7.toInt + 1 := (congrArg Int32.toInt et23).trans (add_i rfl tc_1 (om_41 hr4_7) (om_94 zc8))
                refine lv_iinc (v := t23) (lv' := [(4, .int t23), (5, .int (v7 2)), (3, .int 1), (0, .ref (x 2)), (1, .int 2), (2, .int 4)]) hx hb dX6_expression_125 hl (k := 1) rfl et23.symm (Nat.le_of_ble_eq_true rfl) rfl (fun ls hl => ?_)
                refine lv_goto (tgt := 63) hx hb dX6_expression_128 rfl ?_
                have rg25 := fb_rng t23
                exact ih7 t23 v21 f22 hIv21 hq0_v21 hq1_v21 hq9_v21 hq10_v21 hq31_v21 hq32_v21 ((gsX_X6_expression_27_q1 c8 hG10 hG12 hG16 hG20 et23).symm.trans hT7) ⟨show (0 : Int) ≤ t23.toInt from om_43 hr4_7 zt23, show t23.toInt ≤ (2147483647 : Int) from om_44 rg25⟩ hM_v21 hA_f22 (show (2147483647 - t23.toInt).toNat < n7 from om_33 hm7 zt23 rg25) _ _ _ hP hD hS (lv_sub hl [0, 2, 3, 4, 5] rfl)
              · skip
                subst g19
                refine lv_if_ne (tgt := 112) hx hb dX6_expression_107 rfl (fun c0 => absurd (by decide) c0) (fun _ => ?_)
                refine lv_iconst (v := 0) hx hb dX6_expression_110 rfl ?_
                exact ret 0 (v17, f18) _ _ _ _ _ _ rfl ⟨(hT7.symm.trans (gsX_X6_expression_27_q2 c8 hG10 hG12 hG16)), hM_v17, hA_f18, hIv17, (hk0_v17.trans (hk0_v13.trans hq0_v7)), (hk1_v17.trans (hk1_v13.trans hq1_v7)), (hk9_v17.trans (hk9_v13.trans hq9_v7)), (hk10_v17.trans (hk10_v13.trans hq10_v7)), (hk31_v17.trans (hk31_v13.trans hq31_v7)), (hk32_v17.trans (hk32_v13.trans hq32_v7)), (Or.inr rfl)⟩ hP hD hS dX6_expression_111 (Nat.le_refl _) (Nat.le_refl _)
            · skip
              subst g11
              refine lv_if_eq (tgt := 131) hx hb dX6_expression_80 rfl (fun _ => ?_) (fun c0 => absurd (by decide) c0)
              refine lv_iconst (v := 1) hx hb dX6_expression_131 rfl ?_
              exact ret 1 (v7, f7) _ _ _ _ _ _ rfl ⟨(hT7.symm.trans (gsX_X6_expression_27_q3 c8 hG10)), hM_v7, hA_f7, hIv7, hq0_v7, hq1_v7, hq9_v7, hq10_v7, hq31_v7, hq32_v7, (Or.inl rfl)⟩ hP hD hS dX6_expression_132 (Nat.le_refl _) (Nat.le_refl _)
      exact lp7 (4294967296 + NF) 0 v4 f5 hIv4 hq0_v4 hq1_v4 hq9_v4 hq10_v4 hq31_v4 hq32_v4 (gsX_X6_expression_27_q4 c1 hG3).symm ⟨by decide, by decide⟩ hM_v4 hA_f5 (show (2147483647 - (0 : Int32).toInt).toNat < 4294967296 + NF from om_38 tc_0) _ _ _ hP hD hS (lv_sub hl [0, 1, 2, 3, 4] rfl)
    · skip
      subst g6
      refine lv_if_ne (tgt := 47) hx hb dX6_expression_42 rfl (fun c0 => absurd (by decide) c0) (fun _ => ?_)
      refine lv_iconst (v := 0) hx hb dX6_expression_45 rfl ?_
      exact ret 0 (v4, f5) _ _ _ _ _ _ rfl ⟨(gsX_X6_expression_27_q5 c1 hG3), hM_v4, hA_f5, hIv4, hk0_v4, hk1_v4, hk9_v4, hk10_v4, hk31_v4, hk32_v4, (Or.inr rfl)⟩ hP hD hS dX6_expression_46 (Nat.le_refl _) (Nat.le_refl _)
  · skip
    refine lv_aload_n hx hb dX6_expression_28 rfl (lv_at hl 0 rfl) ?_
    refine lv_iload_n hx hb dX6_expression_29 rfl (lv_at hl 2 rfl) ?_
    refine csVi (n := 1) (rest := []) hx hb hml hown hts hE hP hD hS hA hF hT (sX_X6_negation_4 NF l dC dI cy x0 x  v f hIv ) k_752 k_754 k_17 k_103 k_755 hd_yX6_negation ⟨Nat.le_of_ble_eq_true rfl, Nat.le_of_ble_eq_true rfl⟩ 3 6 rfl rfl (rfl) hl.1 rfl (Nat.le_of_ble_eq_true rfl) dX6_expression_30 (fun r26 u H locs hw hP hD hS => ?_)
    obtain ⟨hG27, hw⟩ := hw
    obtain ⟨v28, f29⟩ := u
    obtain ⟨kV_v28, kF_f29, hIv28, hk0_v28, hk1_v28, hk9_v28, hk10_v28, hk31_v28, hk32_v28, hw⟩ := hw
    have hM_v28 : KV [2, 3, 4, 5, 7, 8, 16, 17] v28 v := KV.tr kV_v28 hM_v rfl
    have hA_f29 : KF [3, 4] f29 f := KF.tr kF_f29 hA_f rfl
    have hP : va_P (dC, dI) vwCl (XW cy x0 x v28 f29) H := hP
    have hD : va_D A (XW cy x0 x v28 f29) := hD
    rcases hw with ⟨g30⟩ | ⟨g30⟩
    · skip
      subst g30
      exact ret 1 (v28, f29) _ _ _ _ _ _ rfl ⟨(gsX_X6_expression_27_q6 c1 hG27), hM_v28, hA_f29, hIv28, hk0_v28, hk1_v28, hk9_v28, hk10_v28, hk31_v28, hk32_v28, (Or.inl rfl)⟩ hP hD hS dX6_expression_33 (Nat.le_refl _) (Nat.le_refl _)
    · skip
      subst g30
      exact ret 0 (v28, f29) _ _ _ _ _ _ rfl ⟨(gsX_X6_expression_27_q7 c1 hG27), hM_v28, hA_f29, hIv28, hk0_v28, hk1_v28, hk9_v28, hk10_v28, hk31_v28, hk32_v28, (Or.inr rfl)⟩ hP hD hS dX6_expression_33 (Nat.le_refl _) (Nat.le_refl _)
set_option maxHeartbeats 4000000 in
set_option maxRecDepth 100000 in
theorem sX_X6_expression_26 (NF : Nat) (l : Launch) (dC : Nat → ClassId) (dI : Nat → Nat → Nat) (cy : Nat → ClassId) (x0 : Nat) (x : Nat → Nat)  (v : Nat → Int32) (f : Nat → Nat → Int32) (hIv : XI v)  : ctIS l (dC, dI) cy yX6_expression cX6_expression 6 .boolean 33 833 0 0 ((Nat → Int32) × (Nat → Nat → Int32)) [.ref (x 2), .int 1, .int 4] (XW cy x0 x v f) (fun r u => gsX_X6_expression_26 NF v f = (r, u) ∧ KV [2, 3, 4, 5, 7, 8, 16, 17] u.1 v ∧ KF [3, 4] u.2 f ∧ XI u.1 ∧ u.1 0 = v 0 ∧ u.1 1 = v 1 ∧ u.1 9 = v 9 ∧ u.1 10 = v 10 ∧ u.1 31 = v 31 ∧ u.1 32 = v 32 ∧ ((r = 1) ∨ (r = 0))) (fun u => XW cy x0 x u.1 u.2) := by
  refine ctIS_of (by decide) (Nat.le_of_ble_eq_true rfl) (fun p e s m below meth c A ls Q hx hb hml hts hown hE hF hT hP hD hA hl ret => ?_)
  have hM_v : KV [2, 3, 4, 5, 7, 8, 16, 17] v v := fun _ _ => rfl
  have hA_f : KF [3, 4] f f := fun _ _ => rfl
  have hown : s.vm.findClass RX6 = some m.cls := hown
  have hS : va_S A s.heap s.heap [] := va_S.rf
  have hl : lv_has ls 6 [(0, .ref (x 2)), (1, .int 1), (2, .int 4)] := hl
  refine lv_iload_n hx hb dX6_expression_0 rfl (lv_at hl 1 rfl) ?_
  refine lv_iconst (v := 5) hx hb dX6_expression_1 rfl ?_
  refine lv_icmp_lt (tgt := 11) hx hb dX6_expression_2 rfl (fun _ => ?_) (fun c0 => absurd (by decide) c0)
  refine lv_iload_n hx hb dX6_expression_11 rfl (lv_at hl 1 rfl) ?_
  refine lv_iconst (v := 2) hx hb dX6_expression_12 rfl ?_
  refine lv_icmp_ne (tgt := 34) hx hb dX6_expression_13 rfl (fun _ => ?_) (fun c0 => absurd c0 (by decide))
  refine lv_aload_n hx hb dX6_expression_34 rfl (lv_at hl 0 rfl) ?_
  refine lv_iload_n hx hb dX6_expression_35 rfl (lv_at hl 1 rfl) ?_
  refine lv_iconst (v := 1) hx hb dX6_expression_36 rfl ?_
  refine lv_iadd hx hb dX6_expression_37 ?_
  refine tI (y := 2) (by decide) ?_
  refine lv_iload_n hx hb dX6_expression_38 rfl (lv_at hl 2 rfl) ?_
  refine csVi (n := 2) (rest := []) hx hb hml hown hts hE hP hD hS hA hF hT (sX_X6_expression_27 NF l dC dI cy x0 x  v f hIv ) k_740 k_742 k_15 k_103 k_743 hd_yX6_expression ⟨Nat.le_of_ble_eq_true rfl, Nat.le_of_ble_eq_true rfl⟩ 3 6 rfl rfl (rfl) hl.1 rfl (Nat.le_of_ble_eq_true rfl) dX6_expression_39 (fun r1 u H locs hw hP hD hS => ?_)
  obtain ⟨hG2, hw⟩ := hw
  obtain ⟨v3, f4⟩ := u
  obtain ⟨kV_v3, kF_f4, hIv3, hk0_v3, hk1_v3, hk9_v3, hk10_v3, hk31_v3, hk32_v3, hw⟩ := hw
  have hM_v3 : KV [2, 3, 4, 5, 7, 8, 16, 17] v3 v := KV.tr kV_v3 hM_v rfl
  have hA_f4 : KF [3, 4] f4 f := KF.tr kF_f4 hA_f rfl
  have hP : va_P (dC, dI) vwCl (XW cy x0 x v3 f4) H := hP
  have hD : va_D A (XW cy x0 x v3 f4) := hD
  have hq0_v3 : v3 0 = (v 0) := hk0_v3
  have hq1_v3 : v3 1 = (v 1) := hk1_v3
  have hq9_v3 : v3 9 = (v 9) := hk9_v3
  have hq10_v3 : v3 10 = (v 10) := hk10_v3
  have hq31_v3 : v3 31 = (v 31) := hk31_v3
  have hq32_v3 : v3 32 = (v 32) := hk32_v3
  rcases hw with ⟨g5⟩ | ⟨g5⟩
  · skip
    subst g5
    refine lv_if_ne (tgt := 47) hx hb dX6_expression_42 rfl (fun _ => ?_) (fun c0 => absurd c0 (by decide))
    refine lv_iload_n hx hb dX6_expression_47 rfl (lv_at hl 1 rfl) ?_
    refine lv_iconst (v := 2) hx hb dX6_expression_48 rfl ?_
    refine lv_icmp_ne (tgt := 56) hx hb dX6_expression_49 rfl (fun _ => ?_) (fun c0 => absurd c0 (by decide))
    refine lv_sipush (v := 1600) hx hb dX6_expression_56 rfl ?_
    refine lv_istore_n (lv' := [(3, .int 1600), (0, .ref (x 2)), (1, .int 1), (2, .int 4)]) hx hb dX6_expression_59 rfl hl (Nat.le_of_ble_eq_true rfl) rfl (fun ls hl => ?_)
    refine lv_iconst (v := 0) hx hb dX6_expression_60 rfl ?_
    refine lv_istore (lv' := [(4, .int 0), (3, .int 1600), (0, .ref (x 2)), (1, .int 1), (2, .int 4)]) hx hb dX6_expression_61 hl (Nat.le_of_ble_eq_true rfl) rfl (fun ls hl => ?_)
    have lp6 : ∀ (n6 : Nat) (l4_6 : Int32) (v6 : Nat → Int32) (f6 : Nat → Nat → Int32), XI v6 → v6 0 = (v 0) → v6 1 = (v 1) → v6 9 = (v 9) → v6 10 = (v 10) → v6 31 = (v 31) → v6 32 = (v 32) → gsX_X6_expression_26_L6 NF n6 l4_6 v6 f6 = (gsX_X6_expression_26 NF v f) → ((0 : Int) ≤ l4_6.toInt ∧ l4_6.toInt ≤ 2147483647) → KV [2, 3, 4, 5, 7, 8, 16, 17] v6 v → KF [3, 4] f6 f → (2147483647 - l4_6.toInt).toNat < n6 → ∀ (H : Heap) (locs : List Loc) (ls : Array Slot), va_P (dC, dI) vwCl (XW cy x0 x v6 f6) H → va_D A (XW cy x0 x v6 f6) → va_S A s.heap H locs → lv_has ls 6 [(4, .int l4_6), (3, .int 1600), (0, .ref (x 2)), (1, .int 1), (2, .int 4)] → W p l e { frames := 33, cells := 0, slots := 0, locals := 833 } s m ([.ref (x 2), .int 1, .int 4] : List Value).toArray below meth c H locs 0 0 Q (F0 m 63 ls []) := by
      intro n6
      induction n6 with
      | zero => intro l4_6 v6 f6 hIv6 hq0_v6 hq1_v6 hq9_v6 hq10_v6 hq31_v6 hq32_v6 hT6 hr4_6 hM_v6 hA_f6 hm; exact absurd hm (Nat.not_lt_zero _)
      | succ n6 ih6 =>
        intro l4_6 v6 f6 hIv6 hq0_v6 hq1_v6 hq9_v6 hq10_v6 hq31_v6 hq32_v6 hT6 hr4_6 hM_v6 hA_f6 hm6 H locs ls hP hD hS hl
        refine lv_iload hx hb dX6_expression_63 (lv_at hl 0 rfl) ?_
        refine lv_iload_n hx hb dX6_expression_65 rfl (lv_at hl 1 rfl) ?_
        refine lv_icmp_ge (tgt := 131) hx hb dX6_expression_66 rfl (fun c7 => ?_) (fun c7 => ?_)
        · skip
          refine lv_iconst (v := 1) hx hb dX6_expression_131 rfl ?_
          exact ret 1 (v6, f6) _ _ _ _ _ _ rfl ⟨(hT6.symm.trans (gsX_X6_expression_26_q0 c7)), hM_v6, hA_f6, hIv6, hq0_v6, hq1_v6, hq9_v6, hq10_v6, hq31_v6, hq32_v6, (Or.inl rfl)⟩ hP hD hS dX6_expression_132 (Nat.le_refl _) (Nat.le_refl _)
        · skip
          have zc7 : ¬ (1600 ≤ l4_6.toInt) := zMn tc_1600 rfl c7
          refine lv_iload_n hx hb dX6_expression_69 rfl (lv_at hl 3 rfl) ?_
          refine lv_aload_n hx hb dX6_expression_70 rfl (lv_at hl 2 rfl) ?_
          refine va_get (D := (dC, dI)) (ci := 6) (v := .ref (x 0)) (C := RX6) (T := TX6) (N := 7) hx hb hts inB_6 hown hE.1 hP 3 rfl rfl 0 (Nat.le_of_ble_eq_true rfl) (hts _ k_265) (fun _ h9 => h9) rfl dX6_expression_71 ?_
          refine va_getN (D := (dC, dI)) (ci := 9) (v := .int (v6 2)) (C := RX9) (T := TX9) (N := 6) hx hb hts inB_9 hown hE.1 hP 1 rfl rfl 2 (Nat.le_of_ble_eq_true rfl) (va_Nw.use rfl (hE.2 _ k_139)) (fun _ h9 => h9) rfl dX6_expression_74 ?_
          refine cbSi (n := 2) (rest := []) hx hb hml hown hts hE hP hD hS hA (sX_X6_joins_1 NF l dC dI cy x0 x 1 (v6 2) v6 f6 hIv6 ) k_756 k_757 k_103 k_758 he_yX6_joins ⟨Nat.le_of_ble_eq_true rfl, Nat.le_of_ble_eq_true rfl⟩ (rfl) hl.1 rfl (Nat.le_of_ble_eq_true rfl) dX6_expression_77 (fun r8 u H locs hw hP hD hS => ?_)
          obtain ⟨hG9, hw⟩ := hw
          rcases hw with ⟨g10⟩ | ⟨g10⟩
          · skip
            subst g10
            refine lv_if_eq (tgt := 131) hx hb dX6_expression_80 rfl (fun c0 => absurd c0 (by decide)) (fun _ => ?_)
            refine lv_aload_n hx hb dX6_expression_83 rfl (lv_at hl 2 rfl) ?_
            refine va_get (D := (dC, dI)) (ci := 6) (v := .ref (x 0)) (C := RX6) (T := TX6) (N := 7) hx hb hts inB_6 hown hE.1 hP 3 rfl rfl 0 (Nat.le_of_ble_eq_true rfl) (hts _ k_265) (fun _ h9 => h9) rfl dX6_expression_84 ?_
            refine va_getN (D := (dC, dI)) (ci := 9) (v := .int (v6 2)) (C := RX9) (T := TX9) (N := 6) hx hb hts inB_9 hown hE.1 hP 1 rfl rfl 2 (Nat.le_of_ble_eq_true rfl) (va_Nw.use rfl (hE.2 _ k_139)) (fun _ h9 => h9) rfl dX6_expression_87 ?_
            refine lv_istore (lv' := [(5, .int (v6 2)), (4, .int l4_6), (3, .int 1600), (0, .ref (x 2)), (1, .int 1), (2, .int 4)]) hx hb dX6_expression_90 hl (Nat.le_of_ble_eq_true rfl) rfl (fun ls hl => ?_)
            refine lv_aload_n hx hb dX6_expression_92 rfl (lv_at hl 3 rfl) ?_
            refine va_get (D := (dC, dI)) (ci := 6) (v := .ref (x 0)) (C := RX6) (T := TX6) (N := 7) hx hb hts inB_6 hown hE.1 hP 3 rfl rfl 0 (Nat.le_of_ble_eq_true rfl) (hts _ k_265) (fun _ h9 => h9) rfl dX6_expression_93 ?_
            refine csVv (n := 0) (rest := []) hx hb hml hown hts hE hP hD hS hA hF hT (sX_X9_advance_1 NF l dC dI cy x0 x  v6 f6 hIv6 ) k_699 k_559 k_560 k_102 k_561 hd_yX9_advance ⟨Nat.le_of_ble_eq_true rfl, Nat.le_of_ble_eq_true rfl⟩ 1 9 rfl rfl (rfl) hl.1 rfl (Nat.le_of_ble_eq_true rfl) dX6_expression_96 (fun u H locs hw hP hD hS => ?_)
            obtain ⟨hG11, hw⟩ := hw
            obtain ⟨v12, f13⟩ := u
            obtain ⟨kV_v12, kF_f13, hIv12, hk0_v12, hk1_v12, hk7_v12, hk8_v12, hk9_v12, hk10_v12, hk31_v12, hk32_v12⟩ := hw
            have hM_v12 : KV [2, 3, 4, 5, 7, 8, 16, 17] v12 v := KV.tr kV_v12 hM_v6 rfl
            have hA_f13 : KF [3, 4] f13 f := KF.tr kF_f13 hA_f6 rfl
            have hP : va_P (dC, dI) vwCl (XW cy x0 x v12 f13) H := hP
            have hD : va_D A (XW cy x0 x v12 f13) := hD
            have hq0_v12 : v12 0 = (v 0) := hk0_v12.trans hq0_v6
            have hq1_v12 : v12 1 = (v 1) := hk1_v12.trans hq1_v6
            have hq9_v12 : v12 9 = (v 9) := hk9_v12.trans hq9_v6
            have hq10_v12 : v12 10 = (v 10) := hk10_v12.trans hq10_v6
            have hq31_v12 : v12 31 = (v 31) := hk31_v12.trans hq31_v6
            have hq32_v12 : v12 32 = (v 32) := hk32_v12.trans hq32_v6
            refine lv_aload_n hx hb dX6_expression_99 rfl (lv_at hl 3 rfl) ?_
            refine lv_iload_n hx hb dX6_expression_100 rfl (lv_at hl 4 rfl) ?_
            refine lv_iconst (v := 1) hx hb dX6_expression_101 rfl ?_
            refine lv_iadd hx hb dX6_expression_102 ?_
            refine tI (y := 2) (by decide) ?_
            refine lv_iload_n hx hb dX6_expression_103 rfl (lv_at hl 5 rfl) ?_
            refine csVi (n := 2) (rest := []) hx hb hml hown hts hE hP hD hS hA hF hT (sX_X6_expression_27 NF l dC dI cy x0 x  v12 f13 hIv12 ) k_740 k_742 k_15 k_103 k_743 hd_yX6_expression ⟨Nat.le_of_ble_eq_true rfl, Nat.le_of_ble_eq_true rfl⟩ 3 6 rfl rfl (rfl) hl.1 rfl (Nat.le_of_ble_eq_true rfl) dX6_expression_104 (fun r14 u H locs hw hP hD hS => ?_)
            obtain ⟨hG15, hw⟩ := hw
            obtain ⟨v16, f17⟩ := u
            obtain ⟨kV_v16, kF_f17, hIv16, hk0_v16, hk1_v16, hk9_v16, hk10_v16, hk31_v16, hk32_v16, hw⟩ := hw
            have hM_v16 : KV [2, 3, 4, 5, 7, 8, 16, 17] v16 v := KV.tr kV_v16 hM_v12 rfl
            have hA_f17 : KF [3, 4] f17 f := KF.tr kF_f17 hA_f13 rfl
            have hP : va_P (dC, dI) vwCl (XW cy x0 x v16 f17) H := hP
            have hD : va_D A (XW cy x0 x v16 f17) := hD
            have hq0_v16 : v16 0 = (v 0) := hk0_v16.trans hq0_v12
            have hq1_v16 : v16 1 = (v 1) := hk1_v16.trans hq1_v12
            have hq9_v16 : v16 9 = (v 9) := hk9_v16.trans hq9_v12
            have hq10_v16 : v16 10 = (v 10) := hk10_v16.trans hq10_v12
            have hq31_v16 : v16 31 = (v 31) := hk31_v16.trans hq31_v12
            have hq32_v16 : v16 32 = (v 32) := hk32_v16.trans hq32_v12
            rcases hw with ⟨g18⟩ | ⟨g18⟩
            · skip
              subst g18
              refine lv_if_ne (tgt := 112) hx hb dX6_expression_107 rfl (fun _ => ?_) (fun c0 => absurd c0 (by decide))
              refine lv_aload_n hx hb dX6_expression_112 rfl (lv_at hl 3 rfl) ?_
              refine va_get (D := (dC, dI)) (ci := 6) (v := .ref (x 3)) (C := RX6) (T := TX6) (N := 7) hx hb hts inB_6 hown hE.1 hP 3 rfl rfl 1 (Nat.le_of_ble_eq_true rfl) (hts _ k_266) (fun _ h9 => h9) rfl dX6_expression_113 ?_
              refine va_getN (D := (dC, dI)) (ci := 7) (v := .ref (x 6)) (C := RX7) (T := TX7) (N := 10) hx hb hts inB_7 hown hE.1 hP 4 rfl rfl 2 (Nat.le_of_ble_eq_true rfl) (va_Nw.use rfl (hE.2 _ k_210)) (fun _ h9 => h9) rfl dX6_expression_116 ?_
              refine lv_iload hx hb dX6_expression_119 (lv_at hl 0 rfl) ?_
              refine lv_iconst (v := 0) hx hb dX6_expression_121 rfl ?_
              refine cbVv (n := 2) (rest := []) hx hb hml hown hts hE hP hD hS hA (sX_X4_add_1 NF l dC dI cy x0 x (v6 2) 0 v16 f17 hIv16 ) k_748 k_749 k_750 k_105 k_751 hd_yX4_add ⟨Nat.le_of_ble_eq_true rfl, Nat.le_of_ble_eq_true rfl⟩ 7 4 rfl rfl (rfl) hl.1 rfl (Nat.le_of_ble_eq_true rfl) dX6_expression_122 (fun u H locs hw hP hD hS => ?_)
              obtain ⟨hG19, hw⟩ := hw
              obtain ⟨v20, f21⟩ := u
              obtain ⟨kV_v20, kF_f21, hIv20, hk0_v20, hk1_v20, hk7_v20, hk8_v20, hk9_v20, hk10_v20, hk31_v20, hk32_v20⟩ := hw
              have hM_v20 : KV [2, 3, 4, 5, 7, 8, 16, 17] v20 v := KV.tr kV_v20 hM_v16 rfl
              have hA_f21 : KF [3, 4] f21 f := KF.tr kF_f21 hA_f17 rfl
              have hP : va_P (dC, dI) vwCl (XW cy x0 x v20 f21) H := hP
              have hD : va_D A (XW cy x0 x v20 f21) := hD
              have hq0_v20 : v20 0 = (v 0) := hk0_v20.trans hq0_v16
              have hq1_v20 : v20 1 = (v 1) := hk1_v20.trans hq1_v16
              have hq9_v20 : v20 9 = (v 9) := hk9_v20.trans hq9_v16
              have hq10_v20 : v20 10 = (v 10) := hk10_v20.trans hq10_v16
              have hq31_v20 : v20 31 = (v 31) := hk31_v20.trans hq31_v16
              have hq32_v20 : v20 32 = (v 32) := hk32_v20.trans hq32_v16
              obtain ⟨t22, et22⟩ : ∃ y : Int32, y = l4_6 + 1 := ⟨_, rfl⟩
              have zt22 : t22.toInt = l4_6.toInt + 1 := (congrArg Int32.toInt et22).trans (add_i rfl tc_1 (om_41 hr4_6) (om_5 zc7))
              refine lv_iinc (v := t22) (lv' := [(4, .int t22), (5, .int (v6 2)), (3, .int 1600), (0, .ref (x 2)), (1, .int 1), (2, .int 4)]) hx hb dX6_expression_125 hl (k := 1) rfl et22.symm (Nat.le_of_ble_eq_true rfl) rfl (fun ls hl => ?_)
              refine lv_goto (tgt := 63) hx hb dX6_expression_128 rfl ?_
              have rg24 := fb_rng t22
              exact ih6 t22 v20 f21 hIv20 hq0_v20 hq1_v20 hq9_v20 hq10_v20 hq31_v20 hq32_v20 ((gsX_X6_expression_26_q1 c7 hG9 hG11 hG15 hG19 et22).symm.trans hT6) ⟨show (0 : Int) ≤ t22.toInt from om_43 hr4_6 zt22, show t22.toInt ≤ (2147483647 : Int) from om_44 rg24⟩ hM_v20 hA_f21 (show (2147483647 - t22.toInt).toNat < n6 from om_33 hm6 zt22 rg24) _ _ _ hP hD hS (lv_sub hl [0, 2, 3, 4, 5] rfl)
            · skip
              subst g18
              refine lv_if_ne (tgt := 112) hx hb dX6_expression_107 rfl (fun c0 => absurd (by decide) c0) (fun _ => ?_)
              refine lv_iconst (v := 0) hx hb dX6_expression_110 rfl ?_
              exact ret 0 (v16, f17) _ _ _ _ _ _ rfl ⟨(hT6.symm.trans (gsX_X6_expression_26_q2 c7 hG9 hG11 hG15)), hM_v16, hA_f17, hIv16, (hk0_v16.trans (hk0_v12.trans hq0_v6)), (hk1_v16.trans (hk1_v12.trans hq1_v6)), (hk9_v16.trans (hk9_v12.trans hq9_v6)), (hk10_v16.trans (hk10_v12.trans hq10_v6)), (hk31_v16.trans (hk31_v12.trans hq31_v6)), (hk32_v16.trans (hk32_v12.trans hq32_v6)), (Or.inr rfl)⟩ hP hD hS dX6_expression_111 (Nat.le_refl _) (Nat.le_refl _)
          · skip
            subst g10
            refine lv_if_eq (tgt := 131) hx hb dX6_expression_80 rfl (fun _ => ?_) (fun c0 => absurd (by decide) c0)
            refine lv_iconst (v := 1) hx hb dX6_expression_131 rfl ?_
            exact ret 1 (v6, f6) _ _ _ _ _ _ rfl ⟨(hT6.symm.trans (gsX_X6_expression_26_q3 c7 hG9)), hM_v6, hA_f6, hIv6, hq0_v6, hq1_v6, hq9_v6, hq10_v6, hq31_v6, hq32_v6, (Or.inl rfl)⟩ hP hD hS dX6_expression_132 (Nat.le_refl _) (Nat.le_refl _)
    exact lp6 (4294967296 + NF) 0 v3 f4 hIv3 hq0_v3 hq1_v3 hq9_v3 hq10_v3 hq31_v3 hq32_v3 (gsX_X6_expression_26_q4 hG2).symm ⟨by decide, by decide⟩ hM_v3 hA_f4 (show (2147483647 - (0 : Int32).toInt).toNat < 4294967296 + NF from om_38 tc_0) _ _ _ hP hD hS (lv_sub hl [0, 1, 2, 3, 4] rfl)
  · skip
    subst g5
    refine lv_if_ne (tgt := 47) hx hb dX6_expression_42 rfl (fun c0 => absurd (by decide) c0) (fun _ => ?_)
    refine lv_iconst (v := 0) hx hb dX6_expression_45 rfl ?_
    exact ret 0 (v3, f4) _ _ _ _ _ _ rfl ⟨(gsX_X6_expression_26_q5 hG2), hM_v3, hA_f4, hIv3, hk0_v3, hk1_v3, hk9_v3, hk10_v3, hk31_v3, hk32_v3, (Or.inr rfl)⟩ hP hD hS dX6_expression_46 (Nat.le_refl _) (Nat.le_refl _)
set_option maxHeartbeats 4000000 in
set_option maxRecDepth 100000 in
theorem sX_X6_expression_25 (NF : Nat) (l : Launch) (dC : Nat → ClassId) (dI : Nat → Nat → Nat) (cy : Nat → ClassId) (x0 : Nat) (x : Nat → Nat)  (v : Nat → Int32) (f : Nat → Nat → Int32) (hIv : XI v)  : ctIS l (dC, dI) cy yX6_expression cX6_expression 6 .boolean 34 858 0 0 ((Nat → Int32) × (Nat → Nat → Int32)) [.ref (x 2), .int 0, .int 4] (XW cy x0 x v f) (fun r u => gsX_X6_expression_25 NF v f = (r, u) ∧ KV [2, 3, 4, 5, 7, 8, 16, 17] u.1 v ∧ KF [3, 4] u.2 f ∧ XI u.1 ∧ u.1 0 = v 0 ∧ u.1 1 = v 1 ∧ u.1 9 = v 9 ∧ u.1 10 = v 10 ∧ u.1 31 = v 31 ∧ u.1 32 = v 32 ∧ ((r = 1) ∨ (r = 0))) (fun u => XW cy x0 x u.1 u.2) := by
  refine ctIS_of (by decide) (Nat.le_of_ble_eq_true rfl) (fun p e s m below meth c A ls Q hx hb hml hts hown hE hF hT hP hD hA hl ret => ?_)
  have hM_v : KV [2, 3, 4, 5, 7, 8, 16, 17] v v := fun _ _ => rfl
  have hA_f : KF [3, 4] f f := fun _ _ => rfl
  have hown : s.vm.findClass RX6 = some m.cls := hown
  have hS : va_S A s.heap s.heap [] := va_S.rf
  have hl : lv_has ls 6 [(0, .ref (x 2)), (1, .int 0), (2, .int 4)] := hl
  refine lv_iload_n hx hb dX6_expression_0 rfl (lv_at hl 1 rfl) ?_
  refine lv_iconst (v := 5) hx hb dX6_expression_1 rfl ?_
  refine lv_icmp_lt (tgt := 11) hx hb dX6_expression_2 rfl (fun _ => ?_) (fun c0 => absurd (by decide) c0)
  refine lv_iload_n hx hb dX6_expression_11 rfl (lv_at hl 1 rfl) ?_
  refine lv_iconst (v := 2) hx hb dX6_expression_12 rfl ?_
  refine lv_icmp_ne (tgt := 34) hx hb dX6_expression_13 rfl (fun _ => ?_) (fun c0 => absurd c0 (by decide))
  refine lv_aload_n hx hb dX6_expression_34 rfl (lv_at hl 0 rfl) ?_
  refine lv_iload_n hx hb dX6_expression_35 rfl (lv_at hl 1 rfl) ?_
  refine lv_iconst (v := 1) hx hb dX6_expression_36 rfl ?_
  refine lv_iadd hx hb dX6_expression_37 ?_
  refine tI (y := 1) (by decide) ?_
  refine lv_iload_n hx hb dX6_expression_38 rfl (lv_at hl 2 rfl) ?_
  refine csVi (n := 2) (rest := []) hx hb hml hown hts hE hP hD hS hA hF hT (sX_X6_expression_26 NF l dC dI cy x0 x  v f hIv ) k_740 k_742 k_15 k_103 k_743 hd_yX6_expression ⟨Nat.le_of_ble_eq_true rfl, Nat.le_of_ble_eq_true rfl⟩ 3 6 rfl rfl (rfl) hl.1 rfl (Nat.le_of_ble_eq_true rfl) dX6_expression_39 (fun r1 u H locs hw hP hD hS => ?_)
  obtain ⟨hG2, hw⟩ := hw
  obtain ⟨v3, f4⟩ := u
  obtain ⟨kV_v3, kF_f4, hIv3, hk0_v3, hk1_v3, hk9_v3, hk10_v3, hk31_v3, hk32_v3, hw⟩ := hw
  have hM_v3 : KV [2, 3, 4, 5, 7, 8, 16, 17] v3 v := KV.tr kV_v3 hM_v rfl
  have hA_f4 : KF [3, 4] f4 f := KF.tr kF_f4 hA_f rfl
  have hP : va_P (dC, dI) vwCl (XW cy x0 x v3 f4) H := hP
  have hD : va_D A (XW cy x0 x v3 f4) := hD
  have hq0_v3 : v3 0 = (v 0) := hk0_v3
  have hq1_v3 : v3 1 = (v 1) := hk1_v3
  have hq9_v3 : v3 9 = (v 9) := hk9_v3
  have hq10_v3 : v3 10 = (v 10) := hk10_v3
  have hq31_v3 : v3 31 = (v 31) := hk31_v3
  have hq32_v3 : v3 32 = (v 32) := hk32_v3
  rcases hw with ⟨g5⟩ | ⟨g5⟩
  · skip
    subst g5
    refine lv_if_ne (tgt := 47) hx hb dX6_expression_42 rfl (fun _ => ?_) (fun c0 => absurd c0 (by decide))
    refine lv_iload_n hx hb dX6_expression_47 rfl (lv_at hl 1 rfl) ?_
    refine lv_iconst (v := 2) hx hb dX6_expression_48 rfl ?_
    refine lv_icmp_ne (tgt := 56) hx hb dX6_expression_49 rfl (fun _ => ?_) (fun c0 => absurd c0 (by decide))
    refine lv_sipush (v := 1600) hx hb dX6_expression_56 rfl ?_
    refine lv_istore_n (lv' := [(3, .int 1600), (0, .ref (x 2)), (1, .int 0), (2, .int 4)]) hx hb dX6_expression_59 rfl hl (Nat.le_of_ble_eq_true rfl) rfl (fun ls hl => ?_)
    refine lv_iconst (v := 0) hx hb dX6_expression_60 rfl ?_
    refine lv_istore (lv' := [(4, .int 0), (3, .int 1600), (0, .ref (x 2)), (1, .int 0), (2, .int 4)]) hx hb dX6_expression_61 hl (Nat.le_of_ble_eq_true rfl) rfl (fun ls hl => ?_)
    have lp6 : ∀ (n6 : Nat) (l4_6 : Int32) (v6 : Nat → Int32) (f6 : Nat → Nat → Int32), XI v6 → v6 0 = (v 0) → v6 1 = (v 1) → v6 9 = (v 9) → v6 10 = (v 10) → v6 31 = (v 31) → v6 32 = (v 32) → gsX_X6_expression_25_L6 NF n6 l4_6 v6 f6 = (gsX_X6_expression_25 NF v f) → ((0 : Int) ≤ l4_6.toInt ∧ l4_6.toInt ≤ 2147483647) → KV [2, 3, 4, 5, 7, 8, 16, 17] v6 v → KF [3, 4] f6 f → (2147483647 - l4_6.toInt).toNat < n6 → ∀ (H : Heap) (locs : List Loc) (ls : Array Slot), va_P (dC, dI) vwCl (XW cy x0 x v6 f6) H → va_D A (XW cy x0 x v6 f6) → va_S A s.heap H locs → lv_has ls 6 [(4, .int l4_6), (3, .int 1600), (0, .ref (x 2)), (1, .int 0), (2, .int 4)] → W p l e { frames := 34, cells := 0, slots := 0, locals := 858 } s m ([.ref (x 2), .int 0, .int 4] : List Value).toArray below meth c H locs 0 0 Q (F0 m 63 ls []) := by
      intro n6
      induction n6 with
      | zero => intro l4_6 v6 f6 hIv6 hq0_v6 hq1_v6 hq9_v6 hq10_v6 hq31_v6 hq32_v6 hT6 hr4_6 hM_v6 hA_f6 hm; exact absurd hm (Nat.not_lt_zero _)
      | succ n6 ih6 =>
        intro l4_6 v6 f6 hIv6 hq0_v6 hq1_v6 hq9_v6 hq10_v6 hq31_v6 hq32_v6 hT6 hr4_6 hM_v6 hA_f6 hm6 H locs ls hP hD hS hl
        refine lv_iload hx hb dX6_expression_63 (lv_at hl 0 rfl) ?_
        refine lv_iload_n hx hb dX6_expression_65 rfl (lv_at hl 1 rfl) ?_
        refine lv_icmp_ge (tgt := 131) hx hb dX6_expression_66 rfl (fun c7 => ?_) (fun c7 => ?_)
        · skip
          refine lv_iconst (v := 1) hx hb dX6_expression_131 rfl ?_
          exact ret 1 (v6, f6) _ _ _ _ _ _ rfl ⟨(hT6.symm.trans (gsX_X6_expression_25_q0 c7)), hM_v6, hA_f6, hIv6, hq0_v6, hq1_v6, hq9_v6, hq10_v6, hq31_v6, hq32_v6, (Or.inl rfl)⟩ hP hD hS dX6_expression_132 (Nat.le_refl _) (Nat.le_refl _)
        · skip
          have zc7 : ¬ (1600 ≤ l4_6.toInt) := zMn tc_1600 rfl c7
          refine lv_iload_n hx hb dX6_expression_69 rfl (lv_at hl 3 rfl) ?_
          refine lv_aload_n hx hb dX6_expression_70 rfl (lv_at hl 2 rfl) ?_
          refine va_get (D := (dC, dI)) (ci := 6) (v := .ref (x 0)) (C := RX6) (T := TX6) (N := 7) hx hb hts inB_6 hown hE.1 hP 3 rfl rfl 0 (Nat.le_of_ble_eq_true rfl) (hts _ k_265) (fun _ h9 => h9) rfl dX6_expression_71 ?_
          refine va_getN (D := (dC, dI)) (ci := 9) (v := .int (v6 2)) (C := RX9) (T := TX9) (N := 6) hx hb hts inB_9 hown hE.1 hP 1 rfl rfl 2 (Nat.le_of_ble_eq_true rfl) (va_Nw.use rfl (hE.2 _ k_139)) (fun _ h9 => h9) rfl dX6_expression_74 ?_
          refine cbSi (n := 2) (rest := []) hx hb hml hown hts hE hP hD hS hA (sX_X6_joins_1 NF l dC dI cy x0 x 0 (v6 2) v6 f6 hIv6 ) k_756 k_757 k_103 k_758 he_yX6_joins ⟨Nat.le_of_ble_eq_true rfl, Nat.le_of_ble_eq_true rfl⟩ (rfl) hl.1 rfl (Nat.le_of_ble_eq_true rfl) dX6_expression_77 (fun r8 u H locs hw hP hD hS => ?_)
          obtain ⟨hG9, hw⟩ := hw
          rcases hw with ⟨g10⟩ | ⟨g10⟩
          · skip
            subst g10
            refine lv_if_eq (tgt := 131) hx hb dX6_expression_80 rfl (fun c0 => absurd c0 (by decide)) (fun _ => ?_)
            refine lv_aload_n hx hb dX6_expression_83 rfl (lv_at hl 2 rfl) ?_
            refine va_get (D := (dC, dI)) (ci := 6) (v := .ref (x 0)) (C := RX6) (T := TX6) (N := 7) hx hb hts inB_6 hown hE.1 hP 3 rfl rfl 0 (Nat.le_of_ble_eq_true rfl) (hts _ k_265) (fun _ h9 => h9) rfl dX6_expression_84 ?_
            refine va_getN (D := (dC, dI)) (ci := 9) (v := .int (v6 2)) (C := RX9) (T := TX9) (N := 6) hx hb hts inB_9 hown hE.1 hP 1 rfl rfl 2 (Nat.le_of_ble_eq_true rfl) (va_Nw.use rfl (hE.2 _ k_139)) (fun _ h9 => h9) rfl dX6_expression_87 ?_
            refine lv_istore (lv' := [(5, .int (v6 2)), (4, .int l4_6), (3, .int 1600), (0, .ref (x 2)), (1, .int 0), (2, .int 4)]) hx hb dX6_expression_90 hl (Nat.le_of_ble_eq_true rfl) rfl (fun ls hl => ?_)
            refine lv_aload_n hx hb dX6_expression_92 rfl (lv_at hl 3 rfl) ?_
            refine va_get (D := (dC, dI)) (ci := 6) (v := .ref (x 0)) (C := RX6) (T := TX6) (N := 7) hx hb hts inB_6 hown hE.1 hP 3 rfl rfl 0 (Nat.le_of_ble_eq_true rfl) (hts _ k_265) (fun _ h9 => h9) rfl dX6_expression_93 ?_
            refine csVv (n := 0) (rest := []) hx hb hml hown hts hE hP hD hS hA hF hT (sX_X9_advance_1 NF l dC dI cy x0 x  v6 f6 hIv6 ) k_699 k_559 k_560 k_102 k_561 hd_yX9_advance ⟨Nat.le_of_ble_eq_true rfl, Nat.le_of_ble_eq_true rfl⟩ 1 9 rfl rfl (rfl) hl.1 rfl (Nat.le_of_ble_eq_true rfl) dX6_expression_96 (fun u H locs hw hP hD hS => ?_)
            obtain ⟨hG11, hw⟩ := hw
            obtain ⟨v12, f13⟩ := u
            obtain ⟨kV_v12, kF_f13, hIv12, hk0_v12, hk1_v12, hk7_v12, hk8_v12, hk9_v12, hk10_v12, hk31_v12, hk32_v12⟩ := hw
            have hM_v12 : KV [2, 3, 4, 5, 7, 8, 16, 17] v12 v := KV.tr kV_v12 hM_v6 rfl
            have hA_f13 : KF [3, 4] f13 f := KF.tr kF_f13 hA_f6 rfl
            have hP : va_P (dC, dI) vwCl (XW cy x0 x v12 f13) H := hP
            have hD : va_D A (XW cy x0 x v12 f13) := hD
            have hq0_v12 : v12 0 = (v 0) := hk0_v12.trans hq0_v6
            have hq1_v12 : v12 1 = (v 1) := hk1_v12.trans hq1_v6
            have hq9_v12 : v12 9 = (v 9) := hk9_v12.trans hq9_v6
            have hq10_v12 : v12 10 = (v 10) := hk10_v12.trans hq10_v6
            have hq31_v12 : v12 31 = (v 31) := hk31_v12.trans hq31_v6
            have hq32_v12 : v12 32 = (v 32) := hk32_v12.trans hq32_v6
            refine lv_aload_n hx hb dX6_expression_99 rfl (lv_at hl 3 rfl) ?_
            refine lv_iload_n hx hb dX6_expression_100 rfl (lv_at hl 4 rfl) ?_
            refine lv_iconst (v := 1) hx hb dX6_expression_101 rfl ?_
            refine lv_iadd hx hb dX6_expression_102 ?_
            refine tI (y := 1) (by decide) ?_
            refine lv_iload_n hx hb dX6_expression_103 rfl (lv_at hl 5 rfl) ?_
            refine csVi (n := 2) (rest := []) hx hb hml hown hts hE hP hD hS hA hF hT (sX_X6_expression_26 NF l dC dI cy x0 x  v12 f13 hIv12 ) k_740 k_742 k_15 k_103 k_743 hd_yX6_expression ⟨Nat.le_of_ble_eq_true rfl, Nat.le_of_ble_eq_true rfl⟩ 3 6 rfl rfl (rfl) hl.1 rfl (Nat.le_of_ble_eq_true rfl) dX6_expression_104 (fun r14 u H locs hw hP hD hS => ?_)
            obtain ⟨hG15, hw⟩ := hw
            obtain ⟨v16, f17⟩ := u
            obtain ⟨kV_v16, kF_f17, hIv16, hk0_v16, hk1_v16, hk9_v16, hk10_v16, hk31_v16, hk32_v16, hw⟩ := hw
            have hM_v16 : KV [2, 3, 4, 5, 7, 8, 16, 17] v16 v := KV.tr kV_v16 hM_v12 rfl
            have hA_f17 : KF [3, 4] f17 f := KF.tr kF_f17 hA_f13 rfl
            have hP : va_P (dC, dI) vwCl (XW cy x0 x v16 f17) H := hP
            have hD : va_D A (XW cy x0 x v16 f17) := hD
            have hq0_v16 : v16 0 = (v 0) := hk0_v16.trans hq0_v12
            have hq1_v16 : v16 1 = (v 1) := hk1_v16.trans hq1_v12
            have hq9_v16 : v16 9 = (v 9) := hk9_v16.trans hq9_v12
            have hq10_v16 : v16 10 = (v 10) := hk10_v16.trans hq10_v12
            have hq31_v16 : v16 31 = (v 31) := hk31_v16.trans hq31_v12
            have hq32_v16 : v16 32 = (v 32) := hk32_v16.trans hq32_v12
            rcases hw with ⟨g18⟩ | ⟨g18⟩
            · skip
              subst g18
              refine lv_if_ne (tgt := 112) hx hb dX6_expression_107 rfl (fun _ => ?_) (fun c0 => absurd c0 (by decide))
              refine lv_aload_n hx hb dX6_expression_112 rfl (lv_at hl 3 rfl) ?_
              refine va_get (D := (dC, dI)) (ci := 6) (v := .ref (x 3)) (C := RX6) (T := TX6) (N := 7) hx hb hts inB_6 hown hE.1 hP 3 rfl rfl 1 (Nat.le_of_ble_eq_true rfl) (hts _ k_266) (fun _ h9 => h9) rfl dX6_expression_113 ?_
              refine va_getN (D := (dC, dI)) (ci := 7) (v := .ref (x 6)) (C := RX7) (T := TX7) (N := 10) hx hb hts inB_7 hown hE.1 hP 4 rfl rfl 2 (Nat.le_of_ble_eq_true rfl) (va_Nw.use rfl (hE.2 _ k_210)) (fun _ h9 => h9) rfl dX6_expression_116 ?_
              refine lv_iload hx hb dX6_expression_119 (lv_at hl 0 rfl) ?_
              refine lv_iconst (v := 0) hx hb dX6_expression_121 rfl ?_
              refine cbVv (n := 2) (rest := []) hx hb hml hown hts hE hP hD hS hA (sX_X4_add_1 NF l dC dI cy x0 x (v6 2) 0 v16 f17 hIv16 ) k_748 k_749 k_750 k_105 k_751 hd_yX4_add ⟨Nat.le_of_ble_eq_true rfl, Nat.le_of_ble_eq_true rfl⟩ 7 4 rfl rfl (rfl) hl.1 rfl (Nat.le_of_ble_eq_true rfl) dX6_expression_122 (fun u H locs hw hP hD hS => ?_)
              obtain ⟨hG19, hw⟩ := hw
              obtain ⟨v20, f21⟩ := u
              obtain ⟨kV_v20, kF_f21, hIv20, hk0_v20, hk1_v20, hk7_v20, hk8_v20, hk9_v20, hk10_v20, hk31_v20, hk32_v20⟩ := hw
              have hM_v20 : KV [2, 3, 4, 5, 7, 8, 16, 17] v20 v := KV.tr kV_v20 hM_v16 rfl
              have hA_f21 : KF [3, 4] f21 f := KF.tr kF_f21 hA_f17 rfl
              have hP : va_P (dC, dI) vwCl (XW cy x0 x v20 f21) H := hP
              have hD : va_D A (XW cy x0 x v20 f21) := hD
              have hq0_v20 : v20 0 = (v 0) := hk0_v20.trans hq0_v16
              have hq1_v20 : v20 1 = (v 1) := hk1_v20.trans hq1_v16
              have hq9_v20 : v20 9 = (v 9) := hk9_v20.trans hq9_v16
              have hq10_v20 : v20 10 = (v 10) := hk10_v20.trans hq10_v16
              have hq31_v20 : v20 31 = (v 31) := hk31_v20.trans hq31_v16
              have hq32_v20 : v20 32 = (v 32) := hk32_v20.trans hq32_v16
              obtain ⟨t22, et22⟩ : ∃ y : Int32, y = l4_6 + 1 := ⟨_, rfl⟩
              have zt22 : t22.toInt = l4_6.toInt + 1 := (congrArg Int32.toInt et22).trans (add_i rfl tc_1 (om_41 hr4_6) (om_5 zc7))
              refine lv_iinc (v := t22) (lv' := [(4, .int t22), (5, .int (v6 2)), (3, .int 1600), (0, .ref (x 2)), (1, .int 0), (2, .int 4)]) hx hb dX6_expression_125 hl (k := 1) rfl et22.symm (Nat.le_of_ble_eq_true rfl) rfl (fun ls hl => ?_)
              refine lv_goto (tgt := 63) hx hb dX6_expression_128 rfl ?_
              have rg24 := fb_rng t22
              exact ih6 t22 v20 f21 hIv20 hq0_v20 hq1_v20 hq9_v20 hq10_v20 hq31_v20 hq32_v20 ((gsX_X6_expression_25_q1 c7 hG9 hG11 hG15 hG19 et22).symm.trans hT6) ⟨show (0 : Int) ≤ t22.toInt from om_43 hr4_6 zt22, show t22.toInt ≤ (2147483647 : Int) from om_44 rg24⟩ hM_v20 hA_f21 (show (2147483647 - t22.toInt).toNat < n6 from om_33 hm6 zt22 rg24) _ _ _ hP hD hS (lv_sub hl [0, 2, 3, 4, 5] rfl)
            · skip
              subst g18
              refine lv_if_ne (tgt := 112) hx hb dX6_expression_107 rfl (fun c0 => absurd (by decide) c0) (fun _ => ?_)
              refine lv_iconst (v := 0) hx hb dX6_expression_110 rfl ?_
              exact ret 0 (v16, f17) _ _ _ _ _ _ rfl ⟨(hT6.symm.trans (gsX_X6_expression_25_q2 c7 hG9 hG11 hG15)), hM_v16, hA_f17, hIv16, (hk0_v16.trans (hk0_v12.trans hq0_v6)), (hk1_v16.trans (hk1_v12.trans hq1_v6)), (hk9_v16.trans (hk9_v12.trans hq9_v6)), (hk10_v16.trans (hk10_v12.trans hq10_v6)), (hk31_v16.trans (hk31_v12.trans hq31_v6)), (hk32_v16.trans (hk32_v12.trans hq32_v6)), (Or.inr rfl)⟩ hP hD hS dX6_expression_111 (Nat.le_refl _) (Nat.le_refl _)
          · skip
            subst g10
            refine lv_if_eq (tgt := 131) hx hb dX6_expression_80 rfl (fun _ => ?_) (fun c0 => absurd (by decide) c0)
            refine lv_iconst (v := 1) hx hb dX6_expression_131 rfl ?_
            exact ret 1 (v6, f6) _ _ _ _ _ _ rfl ⟨(hT6.symm.trans (gsX_X6_expression_25_q3 c7 hG9)), hM_v6, hA_f6, hIv6, hq0_v6, hq1_v6, hq9_v6, hq10_v6, hq31_v6, hq32_v6, (Or.inl rfl)⟩ hP hD hS dX6_expression_132 (Nat.le_refl _) (Nat.le_refl _)
    exact lp6 (4294967296 + NF) 0 v3 f4 hIv3 hq0_v3 hq1_v3 hq9_v3 hq10_v3 hq31_v3 hq32_v3 (gsX_X6_expression_25_q4 hG2).symm ⟨by decide, by decide⟩ hM_v3 hA_f4 (show (2147483647 - (0 : Int32).toInt).toNat < 4294967296 + NF from om_38 tc_0) _ _ _ hP hD hS (lv_sub hl [0, 1, 2, 3, 4] rfl)
  · skip
    subst g5
    refine lv_if_ne (tgt := 47) hx hb dX6_expression_42 rfl (fun c0 => absurd (by decide) c0) (fun _ => ?_)
    refine lv_iconst (v := 0) hx hb dX6_expression_45 rfl ?_
    exact ret 0 (v3, f4) _ _ _ _ _ _ rfl ⟨(gsX_X6_expression_25_q5 hG2), hM_v3, hA_f4, hIv3, hk0_v3, hk1_v3, hk9_v3, hk10_v3, hk31_v3, hk32_v3, (Or.inr rfl)⟩ hP hD hS dX6_expression_46 (Nat.le_refl _) (Nat.le_refl _)
set_option maxHeartbeats 4000000 in
set_option maxRecDepth 100000 in
theorem sX_X6_unit_4 (NF : Nat) (l : Launch) (dC : Nat → ClassId) (dI : Nat → Nat → Nat) (cy : Nat → ClassId) (x0 : Nat) (x : Nat → Nat)  (v : Nat → Int32) (f : Nat → Nat → Int32) (hIv : XI v)  : ctIS l (dC, dI) cy yX6_unit cX6_unit 4 .boolean 35 883 0 0 ((Nat → Int32) × (Nat → Nat → Int32)) [.ref (x 2), .int 3] (XW cy x0 x v f) (fun r u => gsX_X6_unit_4 NF v f = (r, u) ∧ KV [2, 3, 4, 5, 7, 8, 16, 17] u.1 v ∧ KF [3, 4] u.2 f ∧ XI u.1 ∧ u.1 0 = v 0 ∧ u.1 1 = v 1 ∧ u.1 9 = v 9 ∧ u.1 10 = v 10 ∧ u.1 31 = v 31 ∧ u.1 32 = v 32 ∧ ((r = 1) ∨ (r = 0))) (fun u => XW cy x0 x u.1 u.2) := by
  refine ctIS_of (by decide) (Nat.le_of_ble_eq_true rfl) (fun p e s m below meth c A ls Q hx hb hml hts hown hE hF hT hP hD hA hl ret => ?_)
  have hM_v : KV [2, 3, 4, 5, 7, 8, 16, 17] v v := fun _ _ => rfl
  have hA_f : KF [3, 4] f f := fun _ _ => rfl
  have hown : s.vm.findClass RX6 = some m.cls := hown
  have hS : va_S A s.heap s.heap [] := va_S.rf
  have hl : lv_has ls 4 [(0, .ref (x 2)), (1, .int 3)] := hl
  refine lv_aload_n hx hb dX6_unit_0 rfl (lv_at hl 0 rfl) ?_
  refine va_get (D := (dC, dI)) (ci := 6) (v := .ref (x 0)) (C := RX6) (T := TX6) (N := 7) hx hb hts inB_6 hown hE.1 hP 3 rfl rfl 0 (Nat.le_of_ble_eq_true rfl) (hts _ k_265) (fun _ h9 => h9) rfl dX6_unit_1 ?_
  refine va_getN (D := (dC, dI)) (ci := 9) (v := .int (v 2)) (C := RX9) (T := TX9) (N := 6) hx hb hts inB_9 hown hE.1 hP 1 rfl rfl 2 (Nat.le_of_ble_eq_true rfl) (va_Nw.use rfl (hE.2 _ k_139)) (fun _ h9 => h9) rfl dX6_unit_4 ?_
  refine lv_istore_n (lv' := [(2, .int (v 2)), (0, .ref (x 2)), (1, .int 3)]) hx hb dX6_unit_7 rfl hl (Nat.le_of_ble_eq_true rfl) rfl (fun ls hl => ?_)
  refine lv_iload_n hx hb dX6_unit_8 rfl (lv_at hl 0 rfl) ?_
  refine lv_iconst (v := 2) hx hb dX6_unit_9 rfl ?_
  refine lv_icmp_eq (tgt := 25) hx hb dX6_unit_10 rfl (fun c1 => ?_) (fun c1 => ?_)
  · skip
    refine lv_iconst (v := 1) hx hb dX6_unit_25 rfl ?_
    refine lv_goto (tgt := 30) hx hb dX6_unit_26 rfl ?_
    refine lv_istore_n (lv' := [(3, .int 1), (2, .int (v 2)), (0, .ref (x 2)), (1, .int 3)]) hx hb dX6_unit_30 rfl hl (Nat.le_of_ble_eq_true rfl) rfl (fun ls hl => ?_)
    refine lv_iload_n hx hb dX6_unit_31 rfl (lv_at hl 0 rfl) ?_
    refine lv_if_ne (tgt := 41) hx hb dX6_unit_32 rfl (fun _ => ?_) (fun c0 => absurd c0 (by decide))
    refine lv_aload_n hx hb dX6_unit_41 rfl (lv_at hl 2 rfl) ?_
    refine va_get (D := (dC, dI)) (ci := 6) (v := .ref (x 3)) (C := RX6) (T := TX6) (N := 7) hx hb hts inB_6 hown hE.1 hP 3 rfl rfl 1 (Nat.le_of_ble_eq_true rfl) (hts _ k_266) (fun _ h9 => h9) rfl dX6_unit_42 ?_
    refine va_getN (D := (dC, dI)) (ci := 7) (v := .ref (x 6)) (C := RX7) (T := TX7) (N := 10) hx hb hts inB_7 hown hE.1 hP 4 rfl rfl 2 (Nat.le_of_ble_eq_true rfl) (va_Nw.use rfl (hE.2 _ k_210)) (fun _ h9 => h9) rfl dX6_unit_45 ?_
    refine va_getN (D := (dC, dI)) (ci := 4) (v := .int (v 17)) (C := RX4) (T := TX4) (N := 6) hx hb hts inB_4 hown hE.1 hP 7 rfl rfl 5 (Nat.le_of_ble_eq_true rfl) (va_Nw.use rfl (hE.2 _ k_184)) (fun _ h9 => h9) rfl dX6_unit_48 ?_
    refine lv_bipush (v := 30) hx hb dX6_unit_51 rfl ?_
    refine lv_icmp_lt (tgt := 61) hx hb dX6_unit_53 rfl (fun c2 => ?_) (fun c2 => ?_)
    · skip
      refine lv_iload_n hx hb dX6_unit_61 rfl (lv_at hl 0 rfl) ?_
      refine lv_if_eq (tgt := 108) hx hb dX6_unit_62 rfl (fun c0 => absurd c0 (by decide)) (fun _ => ?_)
      refine lv_aload_n hx hb dX6_unit_65 rfl (lv_at hl 2 rfl) ?_
      refine va_get (D := (dC, dI)) (ci := 6) (v := .ref (x 3)) (C := RX6) (T := TX6) (N := 7) hx hb hts inB_6 hown hE.1 hP 3 rfl rfl 1 (Nat.le_of_ble_eq_true rfl) (hts _ k_266) (fun _ h9 => h9) rfl dX6_unit_66 ?_
      refine va_getN (D := (dC, dI)) (ci := 7) (v := .ref (x 6)) (C := RX7) (T := TX7) (N := 10) hx hb hts inB_7 hown hE.1 hP 4 rfl rfl 2 (Nat.le_of_ble_eq_true rfl) (va_Nw.use rfl (hE.2 _ k_210)) (fun _ h9 => h9) rfl dX6_unit_69 ?_
      refine lv_iload_n hx hb dX6_unit_72 rfl (lv_at hl 1 rfl) ?_
      refine lv_aload_n hx hb dX6_unit_73 rfl (lv_at hl 2 rfl) ?_
      refine va_get (D := (dC, dI)) (ci := 6) (v := .ref (x 0)) (C := RX6) (T := TX6) (N := 7) hx hb hts inB_6 hown hE.1 hP 3 rfl rfl 0 (Nat.le_of_ble_eq_true rfl) (hts _ k_265) (fun _ h9 => h9) rfl dX6_unit_74 ?_
      refine va_getN (D := (dC, dI)) (ci := 9) (v := .int (v 5)) (C := RX9) (T := TX9) (N := 6) hx hb hts inB_9 hown hE.1 hP 1 rfl rfl 5 (Nat.le_of_ble_eq_true rfl) (va_Nw.use rfl (hE.2 _ k_145)) (fun _ h9 => h9) rfl dX6_unit_77 ?_
      refine cbVv (n := 2) (rest := []) hx hb hml hown hts hE hP hD hS hA (sX_X4_add_1 NF l dC dI cy x0 x (v 2) (v 5) v f hIv ) k_748 k_749 k_750 k_105 k_751 hd_yX4_add ⟨Nat.le_of_ble_eq_true rfl, Nat.le_of_ble_eq_true rfl⟩ 7 4 rfl rfl (rfl) hl.1 rfl (Nat.le_of_ble_eq_true rfl) dX6_unit_80 (fun u H locs hw hP hD hS => ?_)
      obtain ⟨hG3, hw⟩ := hw
      obtain ⟨v4, f5⟩ := u
      obtain ⟨kV_v4, kF_f5, hIv4, hk0_v4, hk1_v4, hk7_v4, hk8_v4, hk9_v4, hk10_v4, hk31_v4, hk32_v4⟩ := hw
      have hM_v4 : KV [2, 3, 4, 5, 7, 8, 16, 17] v4 v := KV.tr kV_v4 hM_v rfl
      have hA_f5 : KF [3, 4] f5 f := KF.tr kF_f5 hA_f rfl
      have hP : va_P (dC, dI) vwCl (XW cy x0 x v4 f5) H := hP
      have hD : va_D A (XW cy x0 x v4 f5) := hD
      refine lv_aload_n hx hb dX6_unit_83 rfl (lv_at hl 2 rfl) ?_
      refine va_get (D := (dC, dI)) (ci := 6) (v := .ref (x 3)) (C := RX6) (T := TX6) (N := 7) hx hb hts inB_6 hown hE.1 hP 3 rfl rfl 1 (Nat.le_of_ble_eq_true rfl) (hts _ k_266) (fun _ h9 => h9) rfl dX6_unit_84 ?_
      refine va_getN (D := (dC, dI)) (ci := 7) (v := .ref (x 6)) (C := RX7) (T := TX7) (N := 10) hx hb hts inB_7 hown hE.1 hP 4 rfl rfl 2 (Nat.le_of_ble_eq_true rfl) (va_Nw.use rfl (hE.2 _ k_210)) (fun _ h9 => h9) rfl dX6_unit_87 ?_
      refine lv_dup hx hb dX6_unit_90 rfl ?_
      refine va_getN (D := (dC, dI)) (ci := 4) (v := .int (v4 17)) (C := RX4) (T := TX4) (N := 6) hx hb hts inB_4 hown hE.1 hP 7 rfl rfl 5 (Nat.le_of_ble_eq_true rfl) (va_Nw.use rfl (hE.2 _ k_184)) (fun _ h9 => h9) rfl dX6_unit_91 ?_
      refine lv_iconst (v := 1) hx hb dX6_unit_94 rfl ?_
      refine lv_iadd hx hb dX6_unit_95 ?_
      refine lv_topi (fun t6 et6 => ?_)
      refine va_putN (D := (dC, dI)) (ci := 4) (v := .int t6) (ty := tyX4 5) (C := RX4) (T := TX4) (N := 6) hx hb hts inB_4 tyX4 tyX4_ok nmX4 hown hE.1 hP hD hS 7 rfl rfl 5 (by decide) (va_Nw.use rfl (hE.2 _ k_184)) (fun _ h9 => h9) rfl (tyX4_ok 5 (Nat.le_of_ble_eq_true rfl)) rfl rfl (Nat.le_of_ble_eq_true rfl) dX6_unit_96 (fun H locs hP hD hS => ?_)
      have hP : va_P (dC, dI) vwCl (XW cy x0 x (upd v4 17 t6) f5) H := hP
      have hD : va_D A (XW cy x0 x (upd v4 17 t6) f5) := hD
      refine lv_aload_n hx hb dX6_unit_99 rfl (lv_at hl 2 rfl) ?_
      refine va_get (D := (dC, dI)) (ci := 6) (v := .ref (x 0)) (C := RX6) (T := TX6) (N := 7) hx hb hts inB_6 hown hE.1 hP 3 rfl rfl 0 (Nat.le_of_ble_eq_true rfl) (hts _ k_265) (fun _ h9 => h9) rfl dX6_unit_100 ?_
      refine csVv (n := 0) (rest := []) hx hb hml hown hts hE hP hD hS hA hF hT (sX_X9_advance_1 NF l dC dI cy x0 x  (upd v4 17 t6) f5 (Xu_17 (x := t6) hIv4 (rlo _) (rhi _)) ) k_699 k_559 k_560 k_102 k_561 hd_yX9_advance ⟨Nat.le_of_ble_eq_true rfl, Nat.le_of_ble_eq_true rfl⟩ 1 9 rfl rfl (rfl) hl.1 rfl (Nat.le_of_ble_eq_true rfl) dX6_unit_103 (fun u H locs hw hP hD hS => ?_)
      obtain ⟨hG7, hw⟩ := hw
      obtain ⟨v8, f9⟩ := u
      obtain ⟨kV_v8, kF_f9, hIv8, hk0_v8, hk1_v8, hk7_v8, hk8_v8, hk9_v8, hk10_v8, hk31_v8, hk32_v8⟩ := hw
      have hM_v8 : KV [2, 3, 4, 5, 7, 8, 16, 17] v8 v := KV.tr kV_v8 (KV.up (j := 17) (x := t6) hM_v4 rfl) rfl
      have hA_f9 : KF [3, 4] f9 f := KF.tr kF_f9 hA_f5 rfl
      have hP : va_P (dC, dI) vwCl (XW cy x0 x v8 f9) H := hP
      have hD : va_D A (XW cy x0 x v8 f9) := hD
      refine lv_iconst (v := 1) hx hb dX6_unit_106 rfl ?_
      exact ret 1 (v8, f9) _ _ _ _ _ _ rfl ⟨(gsX_X6_unit_4_q0 c1 c2 hG3 et6 hG7), hM_v8, hA_f9, hIv8, (hk0_v8.trans hk0_v4), (hk1_v8.trans hk1_v4), (hk9_v8.trans hk9_v4), (hk10_v8.trans hk10_v4), (hk31_v8.trans hk31_v4), (hk32_v8.trans hk32_v4), (Or.inl rfl)⟩ hP hD hS dX6_unit_107 (Nat.le_refl _) (Nat.le_refl _)
    · skip
      refine lv_aload_n hx hb dX6_unit_56 rfl (lv_at hl 2 rfl) ?_
      refine cbVi (n := 0) (rest := []) hx hb hml hown hts hE hP hD hS hA (sX_X6_refuse_1 NF l dC dI cy x0 x  v f hIv ) k_691 k_693 k_6 k_103 k_694 hd_yX6_refuse ⟨Nat.le_of_ble_eq_true rfl, Nat.le_of_ble_eq_true rfl⟩ 3 6 rfl rfl (rfl) hl.1 rfl (Nat.le_of_ble_eq_true rfl) dX6_unit_57 (fun r10 u H locs hw hP hD hS => ?_)
      obtain ⟨hG11, hw⟩ := hw
      obtain ⟨v12, f13⟩ := u
      obtain ⟨kV_v12, kF_f13, hIv12, hk0_v12, hk1_v12, hk9_v12, hk10_v12, hk31_v12, hk32_v12, hw⟩ := hw
      have hM_v12 : KV [2, 3, 4, 5, 7, 8, 16, 17] v12 v := KV.tr kV_v12 hM_v rfl
      have hA_f13 : KF [3, 4] f13 f := KF.tr kF_f13 hA_f rfl
      have hP : va_P (dC, dI) vwCl (XW cy x0 x v12 f13) H := hP
      have hD : va_D A (XW cy x0 x v12 f13) := hD
      rcases hw with ⟨g14⟩ | ⟨g14⟩
      · skip
        subst g14
        exact ret 1 (v12, f13) _ _ _ _ _ _ rfl ⟨(gsX_X6_unit_4_q1 c1 c2 hG11), hM_v12, hA_f13, hIv12, hk0_v12, hk1_v12, hk9_v12, hk10_v12, hk31_v12, hk32_v12, (Or.inl rfl)⟩ hP hD hS dX6_unit_60 (Nat.le_refl _) (Nat.le_refl _)
      · skip
        subst g14
        exact ret 0 (v12, f13) _ _ _ _ _ _ rfl ⟨(gsX_X6_unit_4_q2 c1 c2 hG11), hM_v12, hA_f13, hIv12, hk0_v12, hk1_v12, hk9_v12, hk10_v12, hk31_v12, hk32_v12, (Or.inr rfl)⟩ hP hD hS dX6_unit_60 (Nat.le_refl _) (Nat.le_refl _)
  · skip
    refine lv_iload_n hx hb dX6_unit_13 rfl (lv_at hl 0 rfl) ?_
    refine lv_bipush (v := 116) hx hb dX6_unit_14 rfl ?_
    refine lv_icmp_lt (tgt := 29) hx hb dX6_unit_16 rfl (fun c15 => ?_) (fun c15 => ?_)
    · skip
      refine lv_iconst (v := 0) hx hb dX6_unit_29 rfl ?_
      refine lv_istore_n (lv' := [(3, .int 0), (2, .int (v 2)), (0, .ref (x 2)), (1, .int 3)]) hx hb dX6_unit_30 rfl hl (Nat.le_of_ble_eq_true rfl) rfl (fun ls hl => ?_)
      refine lv_iload_n hx hb dX6_unit_31 rfl (lv_at hl 0 rfl) ?_
      refine lv_if_ne (tgt := 41) hx hb dX6_unit_32 rfl (fun c0 => absurd (by decide) c0) (fun _ => ?_)
      refine lv_iload_n hx hb dX6_unit_35 rfl (lv_at hl 1 rfl) ?_
      refine lv_bipush (v := 40) hx hb dX6_unit_36 rfl ?_
      refine lv_icmp_ne (tgt := 56) hx hb dX6_unit_38 rfl (fun c16 => ?_) (fun c16 => ?_)
      · skip
        refine lv_aload_n hx hb dX6_unit_56 rfl (lv_at hl 2 rfl) ?_
        refine cbVi (n := 0) (rest := []) hx hb hml hown hts hE hP hD hS hA (sX_X6_refuse_1 NF l dC dI cy x0 x  v f hIv ) k_691 k_693 k_6 k_103 k_694 hd_yX6_refuse ⟨Nat.le_of_ble_eq_true rfl, Nat.le_of_ble_eq_true rfl⟩ 3 6 rfl rfl (rfl) hl.1 rfl (Nat.le_of_ble_eq_true rfl) dX6_unit_57 (fun r17 u H locs hw hP hD hS => ?_)
        obtain ⟨hG18, hw⟩ := hw
        obtain ⟨v19, f20⟩ := u
        obtain ⟨kV_v19, kF_f20, hIv19, hk0_v19, hk1_v19, hk9_v19, hk10_v19, hk31_v19, hk32_v19, hw⟩ := hw
        have hM_v19 : KV [2, 3, 4, 5, 7, 8, 16, 17] v19 v := KV.tr kV_v19 hM_v rfl
        have hA_f20 : KF [3, 4] f20 f := KF.tr kF_f20 hA_f rfl
        have hP : va_P (dC, dI) vwCl (XW cy x0 x v19 f20) H := hP
        have hD : va_D A (XW cy x0 x v19 f20) := hD
        rcases hw with ⟨g21⟩ | ⟨g21⟩
        · skip
          subst g21
          exact ret 1 (v19, f20) _ _ _ _ _ _ rfl ⟨(gsX_X6_unit_4_q3 c1 c15 c16 hG18), hM_v19, hA_f20, hIv19, hk0_v19, hk1_v19, hk9_v19, hk10_v19, hk31_v19, hk32_v19, (Or.inl rfl)⟩ hP hD hS dX6_unit_60 (Nat.le_refl _) (Nat.le_refl _)
        · skip
          subst g21
          exact ret 0 (v19, f20) _ _ _ _ _ _ rfl ⟨(gsX_X6_unit_4_q4 c1 c15 c16 hG18), hM_v19, hA_f20, hIv19, hk0_v19, hk1_v19, hk9_v19, hk10_v19, hk31_v19, hk32_v19, (Or.inr rfl)⟩ hP hD hS dX6_unit_60 (Nat.le_refl _) (Nat.le_refl _)
      · skip
        refine lv_aload_n hx hb dX6_unit_41 rfl (lv_at hl 2 rfl) ?_
        refine va_get (D := (dC, dI)) (ci := 6) (v := .ref (x 3)) (C := RX6) (T := TX6) (N := 7) hx hb hts inB_6 hown hE.1 hP 3 rfl rfl 1 (Nat.le_of_ble_eq_true rfl) (hts _ k_266) (fun _ h9 => h9) rfl dX6_unit_42 ?_
        refine va_getN (D := (dC, dI)) (ci := 7) (v := .ref (x 6)) (C := RX7) (T := TX7) (N := 10) hx hb hts inB_7 hown hE.1 hP 4 rfl rfl 2 (Nat.le_of_ble_eq_true rfl) (va_Nw.use rfl (hE.2 _ k_210)) (fun _ h9 => h9) rfl dX6_unit_45 ?_
        refine va_getN (D := (dC, dI)) (ci := 4) (v := .int (v 17)) (C := RX4) (T := TX4) (N := 6) hx hb hts inB_4 hown hE.1 hP 7 rfl rfl 5 (Nat.le_of_ble_eq_true rfl) (va_Nw.use rfl (hE.2 _ k_184)) (fun _ h9 => h9) rfl dX6_unit_48 ?_
        refine lv_bipush (v := 30) hx hb dX6_unit_51 rfl ?_
        refine lv_icmp_lt (tgt := 61) hx hb dX6_unit_53 rfl (fun c22 => ?_) (fun c22 => ?_)
        · skip
          refine lv_iload_n hx hb dX6_unit_61 rfl (lv_at hl 0 rfl) ?_
          refine lv_if_eq (tgt := 108) hx hb dX6_unit_62 rfl (fun _ => ?_) (fun c0 => absurd (by decide) c0)
          refine lv_iload_n hx hb dX6_unit_108 rfl (lv_at hl 3 rfl) ?_
          refine lv_bipush (v := 7) hx hb dX6_unit_109 rfl ?_
          refine lv_icmp_lt (tgt := 119) hx hb dX6_unit_111 rfl (fun _ => ?_) (fun c0 => absurd (by decide) c0)
          refine lv_aload_n hx hb dX6_unit_119 rfl (lv_at hl 2 rfl) ?_
          refine va_get (D := (dC, dI)) (ci := 6) (v := .ref (x 3)) (C := RX6) (T := TX6) (N := 7) hx hb hts inB_6 hown hE.1 hP 3 rfl rfl 1 (Nat.le_of_ble_eq_true rfl) (hts _ k_266) (fun _ h9 => h9) rfl dX6_unit_120 ?_
          refine va_getN (D := (dC, dI)) (ci := 7) (v := .ref (x 6)) (C := RX7) (T := TX7) (N := 10) hx hb hts inB_7 hown hE.1 hP 4 rfl rfl 2 (Nat.le_of_ble_eq_true rfl) (va_Nw.use rfl (hE.2 _ k_210)) (fun _ h9 => h9) rfl dX6_unit_123 ?_
          refine lv_dup hx hb dX6_unit_126 rfl ?_
          refine va_getN (D := (dC, dI)) (ci := 4) (v := .int (v 17)) (C := RX4) (T := TX4) (N := 6) hx hb hts inB_4 hown hE.1 hP 7 rfl rfl 5 (Nat.le_of_ble_eq_true rfl) (va_Nw.use rfl (hE.2 _ k_184)) (fun _ h9 => h9) rfl dX6_unit_127 ?_
          refine lv_iconst (v := 1) hx hb dX6_unit_130 rfl ?_
          refine lv_iadd hx hb dX6_unit_131 ?_
          refine lv_topi (fun t23 et23 => ?_)
          refine va_putN (D := (dC, dI)) (ci := 4) (v := .int t23) (ty := tyX4 5) (C := RX4) (T := TX4) (N := 6) hx hb hts inB_4 tyX4 tyX4_ok nmX4 hown hE.1 hP hD hS 7 rfl rfl 5 (by decide) (va_Nw.use rfl (hE.2 _ k_184)) (fun _ h9 => h9) rfl (tyX4_ok 5 (Nat.le_of_ble_eq_true rfl)) rfl rfl (Nat.le_of_ble_eq_true rfl) dX6_unit_132 (fun H locs hP hD hS => ?_)
          have hP : va_P (dC, dI) vwCl (XW cy x0 x (upd v 17 t23) f) H := hP
          have hD : va_D A (XW cy x0 x (upd v 17 t23) f) := hD
          refine lv_aload_n hx hb dX6_unit_135 rfl (lv_at hl 2 rfl) ?_
          refine va_get (D := (dC, dI)) (ci := 6) (v := .ref (x 0)) (C := RX6) (T := TX6) (N := 7) hx hb hts inB_6 hown hE.1 hP 3 rfl rfl 0 (Nat.le_of_ble_eq_true rfl) (hts _ k_265) (fun _ h9 => h9) rfl dX6_unit_136 ?_
          refine csVv (n := 0) (rest := []) hx hb hml hown hts hE hP hD hS hA hF hT (sX_X9_advance_1 NF l dC dI cy x0 x  (upd v 17 t23) f (Xu_17 (x := t23) hIv (rlo _) (rhi _)) ) k_699 k_559 k_560 k_102 k_561 hd_yX9_advance ⟨Nat.le_of_ble_eq_true rfl, Nat.le_of_ble_eq_true rfl⟩ 1 9 rfl rfl (rfl) hl.1 rfl (Nat.le_of_ble_eq_true rfl) dX6_unit_139 (fun u H locs hw hP hD hS => ?_)
          obtain ⟨hG25, hw⟩ := hw
          obtain ⟨v26, f27⟩ := u
          obtain ⟨kV_v26, kF_f27, hIv26, hk0_v26, hk1_v26, hk7_v26, hk8_v26, hk9_v26, hk10_v26, hk31_v26, hk32_v26⟩ := hw
          have hM_v26 : KV [2, 3, 4, 5, 7, 8, 16, 17] v26 v := KV.tr kV_v26 (KV.up (j := 17) (x := t23) hM_v rfl) rfl
          have hA_f27 : KF [3, 4] f27 f := KF.tr kF_f27 hA_f rfl
          have hP : va_P (dC, dI) vwCl (XW cy x0 x v26 f27) H := hP
          have hD : va_D A (XW cy x0 x v26 f27) := hD
          refine lv_aload_n hx hb dX6_unit_142 rfl (lv_at hl 2 rfl) ?_
          refine lv_iconst (v := 0) hx hb dX6_unit_143 rfl ?_
          refine lv_iload_n hx hb dX6_unit_144 rfl (lv_at hl 3 rfl) ?_
          refine lv_iconst (v := 1) hx hb dX6_unit_145 rfl ?_
          refine lv_iadd hx hb dX6_unit_146 ?_
          refine tI (y := 4) (by decide) ?_
          refine csVi (n := 2) (rest := []) hx hb hml hown hts hE hP hD hS hA hF hT (sX_X6_expression_25 NF l dC dI cy x0 x  v26 f27 hIv26 ) k_740 k_742 k_15 k_103 k_743 hd_yX6_expression ⟨Nat.le_of_ble_eq_true rfl, Nat.le_of_ble_eq_true rfl⟩ 3 6 rfl rfl (rfl) hl.1 rfl (Nat.le_of_ble_eq_true rfl) dX6_unit_147 (fun r28 u H locs hw hP hD hS => ?_)
          obtain ⟨hG29, hw⟩ := hw
          obtain ⟨v30, f31⟩ := u
          obtain ⟨kV_v30, kF_f31, hIv30, hk0_v30, hk1_v30, hk9_v30, hk10_v30, hk31_v30, hk32_v30, hw⟩ := hw
          have hM_v30 : KV [2, 3, 4, 5, 7, 8, 16, 17] v30 v := KV.tr kV_v30 hM_v26 rfl
          have hA_f31 : KF [3, 4] f31 f := KF.tr kF_f31 hA_f27 rfl
          have hP : va_P (dC, dI) vwCl (XW cy x0 x v30 f31) H := hP
          have hD : va_D A (XW cy x0 x v30 f31) := hD
          rcases hw with ⟨g32⟩ | ⟨g32⟩
          · skip
            subst g32
            refine lv_if_eq (tgt := 166) hx hb dX6_unit_150 rfl (fun c0 => absurd c0 (by decide)) (fun _ => ?_)
            refine lv_aload_n hx hb dX6_unit_153 rfl (lv_at hl 2 rfl) ?_
            refine lv_bipush (v := 41) hx hb dX6_unit_154 rfl ?_
            refine csVi (n := 1) (rest := []) hx hb hml hown hts hE hP hD hS hA hF hT (sX_X6_taken_1 NF l dC dI cy x0 x 41 v30 f31 hIv30 ) k_724 k_726 k_12 k_103 k_727 hd_yX6_taken ⟨Nat.le_of_ble_eq_true rfl, Nat.le_of_ble_eq_true rfl⟩ 3 6 rfl rfl (rfl) hl.1 rfl (Nat.le_of_ble_eq_true rfl) dX6_unit_156 (fun r33 u H locs hw hP hD hS => ?_)
            obtain ⟨hG34, hw⟩ := hw
            obtain ⟨v35, f36⟩ := u
            obtain ⟨kV_v35, kF_f36, hIv35, hk0_v35, hk1_v35, hk9_v35, hk10_v35, hk31_v35, hk32_v35, hw⟩ := hw
            have hM_v35 : KV [2, 3, 4, 5, 7, 8, 16, 17] v35 v := KV.tr kV_v35 hM_v30 rfl
            have hA_f36 : KF [3, 4] f36 f := KF.tr kF_f36 hA_f31 rfl
            have hP : va_P (dC, dI) vwCl (XW cy x0 x v35 f36) H := hP
            have hD : va_D A (XW cy x0 x v35 f36) := hD
            rcases hw with ⟨g37⟩ | ⟨g37⟩
            · skip
              subst g37
              refine lv_if_eq (tgt := 166) hx hb dX6_unit_159 rfl (fun c0 => absurd c0 (by decide)) (fun _ => ?_)
              refine lv_iconst (v := 1) hx hb dX6_unit_162 rfl ?_
              refine lv_goto (tgt := 167) hx hb dX6_unit_163 rfl ?_
              exact ret 1 (v35, f36) _ _ _ _ _ _ rfl ⟨(gsX_X6_unit_4_q5 c1 c15 c16 c22 et23 hG25 hG29 hG34), hM_v35, hA_f36, hIv35, (hk0_v35.trans (hk0_v30.trans hk0_v26)), (hk1_v35.trans (hk1_v30.trans hk1_v26)), (hk9_v35.trans (hk9_v30.trans hk9_v26)), (hk10_v35.trans (hk10_v30.trans hk10_v26)), (hk31_v35.trans (hk31_v30.trans hk31_v26)), (hk32_v35.trans (hk32_v30.trans hk32_v26)), (Or.inl rfl)⟩ hP hD hS dX6_unit_167 (Nat.le_refl _) (Nat.le_refl _)
            · skip
              subst g37
              refine lv_if_eq (tgt := 166) hx hb dX6_unit_159 rfl (fun _ => ?_) (fun c0 => absurd (by decide) c0)
              refine lv_iconst (v := 0) hx hb dX6_unit_166 rfl ?_
              exact ret 0 (v35, f36) _ _ _ _ _ _ rfl ⟨(gsX_X6_unit_4_q6 c1 c15 c16 c22 et23 hG25 hG29 hG34), hM_v35, hA_f36, hIv35, (hk0_v35.trans (hk0_v30.trans hk0_v26)), (hk1_v35.trans (hk1_v30.trans hk1_v26)), (hk9_v35.trans (hk9_v30.trans hk9_v26)), (hk10_v35.trans (hk10_v30.trans hk10_v26)), (hk31_v35.trans (hk31_v30.trans hk31_v26)), (hk32_v35.trans (hk32_v30.trans hk32_v26)), (Or.inr rfl)⟩ hP hD hS dX6_unit_167 (Nat.le_refl _) (Nat.le_refl _)
          · skip
            subst g32
            refine lv_if_eq (tgt := 166) hx hb dX6_unit_150 rfl (fun _ => ?_) (fun c0 => absurd (by decide) c0)
            refine lv_iconst (v := 0) hx hb dX6_unit_166 rfl ?_
            exact ret 0 (v30, f31) _ _ _ _ _ _ rfl ⟨(gsX_X6_unit_4_q7 c1 c15 c16 c22 et23 hG25 hG29), hM_v30, hA_f31, hIv30, (hk0_v30.trans hk0_v26), (hk1_v30.trans hk1_v26), (hk9_v30.trans hk9_v26), (hk10_v30.trans hk10_v26), (hk31_v30.trans hk31_v26), (hk32_v30.trans hk32_v26), (Or.inr rfl)⟩ hP hD hS dX6_unit_167 (Nat.le_refl _) (Nat.le_refl _)
        · skip
          refine lv_aload_n hx hb dX6_unit_56 rfl (lv_at hl 2 rfl) ?_
          refine cbVi (n := 0) (rest := []) hx hb hml hown hts hE hP hD hS hA (sX_X6_refuse_1 NF l dC dI cy x0 x  v f hIv ) k_691 k_693 k_6 k_103 k_694 hd_yX6_refuse ⟨Nat.le_of_ble_eq_true rfl, Nat.le_of_ble_eq_true rfl⟩ 3 6 rfl rfl (rfl) hl.1 rfl (Nat.le_of_ble_eq_true rfl) dX6_unit_57 (fun r38 u H locs hw hP hD hS => ?_)
          obtain ⟨hG39, hw⟩ := hw
          obtain ⟨v40, f41⟩ := u
          obtain ⟨kV_v40, kF_f41, hIv40, hk0_v40, hk1_v40, hk9_v40, hk10_v40, hk31_v40, hk32_v40, hw⟩ := hw
          have hM_v40 : KV [2, 3, 4, 5, 7, 8, 16, 17] v40 v := KV.tr kV_v40 hM_v rfl
          have hA_f41 : KF [3, 4] f41 f := KF.tr kF_f41 hA_f rfl
          have hP : va_P (dC, dI) vwCl (XW cy x0 x v40 f41) H := hP
          have hD : va_D A (XW cy x0 x v40 f41) := hD
          rcases hw with ⟨g42⟩ | ⟨g42⟩
          · skip
            subst g42
            exact ret 1 (v40, f41) _ _ _ _ _ _ rfl ⟨(gsX_X6_unit_4_q8 c1 c15 c16 c22 hG39), hM_v40, hA_f41, hIv40, hk0_v40, hk1_v40, hk9_v40, hk10_v40, hk31_v40, hk32_v40, (Or.inl rfl)⟩ hP hD hS dX6_unit_60 (Nat.le_refl _) (Nat.le_refl _)
          · skip
            subst g42
            exact ret 0 (v40, f41) _ _ _ _ _ _ rfl ⟨(gsX_X6_unit_4_q9 c1 c15 c16 c22 hG39), hM_v40, hA_f41, hIv40, hk0_v40, hk1_v40, hk9_v40, hk10_v40, hk31_v40, hk32_v40, (Or.inr rfl)⟩ hP hD hS dX6_unit_60 (Nat.le_refl _) (Nat.le_refl _)
    · skip
      refine lv_iload_n hx hb dX6_unit_19 rfl (lv_at hl 0 rfl) ?_
      refine lv_bipush (v := 121) hx hb dX6_unit_20 rfl ?_
      refine lv_icmp_gt (tgt := 29) hx hb dX6_unit_22 rfl (fun c43 => ?_) (fun c43 => ?_)
      · skip
        refine lv_iconst (v := 0) hx hb dX6_unit_29 rfl ?_
        refine lv_istore_n (lv' := [(3, .int 0), (2, .int (v 2)), (0, .ref (x 2)), (1, .int 3)]) hx hb dX6_unit_30 rfl hl (Nat.le_of_ble_eq_true rfl) rfl (fun ls hl => ?_)
        refine lv_iload_n hx hb dX6_unit_31 rfl (lv_at hl 0 rfl) ?_
        refine lv_if_ne (tgt := 41) hx hb dX6_unit_32 rfl (fun c0 => absurd (by decide) c0) (fun _ => ?_)
        refine lv_iload_n hx hb dX6_unit_35 rfl (lv_at hl 1 rfl) ?_
        refine lv_bipush (v := 40) hx hb dX6_unit_36 rfl ?_
        refine lv_icmp_ne (tgt := 56) hx hb dX6_unit_38 rfl (fun c44 => ?_) (fun c44 => ?_)
        · skip
          refine lv_aload_n hx hb dX6_unit_56 rfl (lv_at hl 2 rfl) ?_
          refine cbVi (n := 0) (rest := []) hx hb hml hown hts hE hP hD hS hA (sX_X6_refuse_1 NF l dC dI cy x0 x  v f hIv ) k_691 k_693 k_6 k_103 k_694 hd_yX6_refuse ⟨Nat.le_of_ble_eq_true rfl, Nat.le_of_ble_eq_true rfl⟩ 3 6 rfl rfl (rfl) hl.1 rfl (Nat.le_of_ble_eq_true rfl) dX6_unit_57 (fun r45 u H locs hw hP hD hS => ?_)
          obtain ⟨hG46, hw⟩ := hw
          obtain ⟨v47, f48⟩ := u
          obtain ⟨kV_v47, kF_f48, hIv47, hk0_v47, hk1_v47, hk9_v47, hk10_v47, hk31_v47, hk32_v47, hw⟩ := hw
          have hM_v47 : KV [2, 3, 4, 5, 7, 8, 16, 17] v47 v := KV.tr kV_v47 hM_v rfl
          have hA_f48 : KF [3, 4] f48 f := KF.tr kF_f48 hA_f rfl
          have hP : va_P (dC, dI) vwCl (XW cy x0 x v47 f48) H := hP
          have hD : va_D A (XW cy x0 x v47 f48) := hD
          rcases hw with ⟨g49⟩ | ⟨g49⟩
          · skip
            subst g49
            exact ret 1 (v47, f48) _ _ _ _ _ _ rfl ⟨(gsX_X6_unit_4_q10 c1 c15 c43 c44 hG46), hM_v47, hA_f48, hIv47, hk0_v47, hk1_v47, hk9_v47, hk10_v47, hk31_v47, hk32_v47, (Or.inl rfl)⟩ hP hD hS dX6_unit_60 (Nat.le_refl _) (Nat.le_refl _)
          · skip
            subst g49
            exact ret 0 (v47, f48) _ _ _ _ _ _ rfl ⟨(gsX_X6_unit_4_q11 c1 c15 c43 c44 hG46), hM_v47, hA_f48, hIv47, hk0_v47, hk1_v47, hk9_v47, hk10_v47, hk31_v47, hk32_v47, (Or.inr rfl)⟩ hP hD hS dX6_unit_60 (Nat.le_refl _) (Nat.le_refl _)
        · skip
          refine lv_aload_n hx hb dX6_unit_41 rfl (lv_at hl 2 rfl) ?_
          refine va_get (D := (dC, dI)) (ci := 6) (v := .ref (x 3)) (C := RX6) (T := TX6) (N := 7) hx hb hts inB_6 hown hE.1 hP 3 rfl rfl 1 (Nat.le_of_ble_eq_true rfl) (hts _ k_266) (fun _ h9 => h9) rfl dX6_unit_42 ?_
          refine va_getN (D := (dC, dI)) (ci := 7) (v := .ref (x 6)) (C := RX7) (T := TX7) (N := 10) hx hb hts inB_7 hown hE.1 hP 4 rfl rfl 2 (Nat.le_of_ble_eq_true rfl) (va_Nw.use rfl (hE.2 _ k_210)) (fun _ h9 => h9) rfl dX6_unit_45 ?_
          refine va_getN (D := (dC, dI)) (ci := 4) (v := .int (v 17)) (C := RX4) (T := TX4) (N := 6) hx hb hts inB_4 hown hE.1 hP 7 rfl rfl 5 (Nat.le_of_ble_eq_true rfl) (va_Nw.use rfl (hE.2 _ k_184)) (fun _ h9 => h9) rfl dX6_unit_48 ?_
          refine lv_bipush (v := 30) hx hb dX6_unit_51 rfl ?_
          refine lv_icmp_lt (tgt := 61) hx hb dX6_unit_53 rfl (fun c50 => ?_) (fun c50 => ?_)
          · skip
            refine lv_iload_n hx hb dX6_unit_61 rfl (lv_at hl 0 rfl) ?_
            refine lv_if_eq (tgt := 108) hx hb dX6_unit_62 rfl (fun _ => ?_) (fun c0 => absurd (by decide) c0)
            refine lv_iload_n hx hb dX6_unit_108 rfl (lv_at hl 3 rfl) ?_
            refine lv_bipush (v := 7) hx hb dX6_unit_109 rfl ?_
            refine lv_icmp_lt (tgt := 119) hx hb dX6_unit_111 rfl (fun _ => ?_) (fun c0 => absurd (by decide) c0)
            refine lv_aload_n hx hb dX6_unit_119 rfl (lv_at hl 2 rfl) ?_
            refine va_get (D := (dC, dI)) (ci := 6) (v := .ref (x 3)) (C := RX6) (T := TX6) (N := 7) hx hb hts inB_6 hown hE.1 hP 3 rfl rfl 1 (Nat.le_of_ble_eq_true rfl) (hts _ k_266) (fun _ h9 => h9) rfl dX6_unit_120 ?_
            refine va_getN (D := (dC, dI)) (ci := 7) (v := .ref (x 6)) (C := RX7) (T := TX7) (N := 10) hx hb hts inB_7 hown hE.1 hP 4 rfl rfl 2 (Nat.le_of_ble_eq_true rfl) (va_Nw.use rfl (hE.2 _ k_210)) (fun _ h9 => h9) rfl dX6_unit_123 ?_
            refine lv_dup hx hb dX6_unit_126 rfl ?_
            refine va_getN (D := (dC, dI)) (ci := 4) (v := .int (v 17)) (C := RX4) (T := TX4) (N := 6) hx hb hts inB_4 hown hE.1 hP 7 rfl rfl 5 (Nat.le_of_ble_eq_true rfl) (va_Nw.use rfl (hE.2 _ k_184)) (fun _ h9 => h9) rfl dX6_unit_127 ?_
            refine lv_iconst (v := 1) hx hb dX6_unit_130 rfl ?_
            refine lv_iadd hx hb dX6_unit_131 ?_
            refine lv_topi (fun t51 et51 => ?_)
            refine va_putN (D := (dC, dI)) (ci := 4) (v := .int t51) (ty := tyX4 5) (C := RX4) (T := TX4) (N := 6) hx hb hts inB_4 tyX4 tyX4_ok nmX4 hown hE.1 hP hD hS 7 rfl rfl 5 (by decide) (va_Nw.use rfl (hE.2 _ k_184)) (fun _ h9 => h9) rfl (tyX4_ok 5 (Nat.le_of_ble_eq_true rfl)) rfl rfl (Nat.le_of_ble_eq_true rfl) dX6_unit_132 (fun H locs hP hD hS => ?_)
            have hP : va_P (dC, dI) vwCl (XW cy x0 x (upd v 17 t51) f) H := hP
            have hD : va_D A (XW cy x0 x (upd v 17 t51) f) := hD
            refine lv_aload_n hx hb dX6_unit_135 rfl (lv_at hl 2 rfl) ?_
            refine va_get (D := (dC, dI)) (ci := 6) (v := .ref (x 0)) (C := RX6) (T := TX6) (N := 7) hx hb hts inB_6 hown hE.1 hP 3 rfl rfl 0 (Nat.le_of_ble_eq_true rfl) (hts _ k_265) (fun _ h9 => h9) rfl dX6_unit_136 ?_
            refine csVv (n := 0) (rest := []) hx hb hml hown hts hE hP hD hS hA hF hT (sX_X9_advance_1 NF l dC dI cy x0 x  (upd v 17 t51) f (Xu_17 (x := t51) hIv (rlo _) (rhi _)) ) k_699 k_559 k_560 k_102 k_561 hd_yX9_advance ⟨Nat.le_of_ble_eq_true rfl, Nat.le_of_ble_eq_true rfl⟩ 1 9 rfl rfl (rfl) hl.1 rfl (Nat.le_of_ble_eq_true rfl) dX6_unit_139 (fun u H locs hw hP hD hS => ?_)
            obtain ⟨hG53, hw⟩ := hw
            obtain ⟨v54, f55⟩ := u
            obtain ⟨kV_v54, kF_f55, hIv54, hk0_v54, hk1_v54, hk7_v54, hk8_v54, hk9_v54, hk10_v54, hk31_v54, hk32_v54⟩ := hw
            have hM_v54 : KV [2, 3, 4, 5, 7, 8, 16, 17] v54 v := KV.tr kV_v54 (KV.up (j := 17) (x := t51) hM_v rfl) rfl
            have hA_f55 : KF [3, 4] f55 f := KF.tr kF_f55 hA_f rfl
            have hP : va_P (dC, dI) vwCl (XW cy x0 x v54 f55) H := hP
            have hD : va_D A (XW cy x0 x v54 f55) := hD
            refine lv_aload_n hx hb dX6_unit_142 rfl (lv_at hl 2 rfl) ?_
            refine lv_iconst (v := 0) hx hb dX6_unit_143 rfl ?_
            refine lv_iload_n hx hb dX6_unit_144 rfl (lv_at hl 3 rfl) ?_
            refine lv_iconst (v := 1) hx hb dX6_unit_145 rfl ?_
            refine lv_iadd hx hb dX6_unit_146 ?_
            refine tI (y := 4) (by decide) ?_
            refine csVi (n := 2) (rest := []) hx hb hml hown hts hE hP hD hS hA hF hT (sX_X6_expression_25 NF l dC dI cy x0 x  v54 f55 hIv54 ) k_740 k_742 k_15 k_103 k_743 hd_yX6_expression ⟨Nat.le_of_ble_eq_true rfl, Nat.le_of_ble_eq_true rfl⟩ 3 6 rfl rfl (rfl) hl.1 rfl (Nat.le_of_ble_eq_true rfl) dX6_unit_147 (fun r56 u H locs hw hP hD hS => ?_)
            obtain ⟨hG57, hw⟩ := hw
            obtain ⟨v58, f59⟩ := u
            obtain ⟨kV_v58, kF_f59, hIv58, hk0_v58, hk1_v58, hk9_v58, hk10_v58, hk31_v58, hk32_v58, hw⟩ := hw
            have hM_v58 : KV [2, 3, 4, 5, 7, 8, 16, 17] v58 v := KV.tr kV_v58 hM_v54 rfl
            have hA_f59 : KF [3, 4] f59 f := KF.tr kF_f59 hA_f55 rfl
            have hP : va_P (dC, dI) vwCl (XW cy x0 x v58 f59) H := hP
            have hD : va_D A (XW cy x0 x v58 f59) := hD
            rcases hw with ⟨g60⟩ | ⟨g60⟩
            · skip
              subst g60
              refine lv_if_eq (tgt := 166) hx hb dX6_unit_150 rfl (fun c0 => absurd c0 (by decide)) (fun _ => ?_)
              refine lv_aload_n hx hb dX6_unit_153 rfl (lv_at hl 2 rfl) ?_
              refine lv_bipush (v := 41) hx hb dX6_unit_154 rfl ?_
              refine csVi (n := 1) (rest := []) hx hb hml hown hts hE hP hD hS hA hF hT (sX_X6_taken_1 NF l dC dI cy x0 x 41 v58 f59 hIv58 ) k_724 k_726 k_12 k_103 k_727 hd_yX6_taken ⟨Nat.le_of_ble_eq_true rfl, Nat.le_of_ble_eq_true rfl⟩ 3 6 rfl rfl (rfl) hl.1 rfl (Nat.le_of_ble_eq_true rfl) dX6_unit_156 (fun r61 u H locs hw hP hD hS => ?_)
              obtain ⟨hG62, hw⟩ := hw
              obtain ⟨v63, f64⟩ := u
              obtain ⟨kV_v63, kF_f64, hIv63, hk0_v63, hk1_v63, hk9_v63, hk10_v63, hk31_v63, hk32_v63, hw⟩ := hw
              have hM_v63 : KV [2, 3, 4, 5, 7, 8, 16, 17] v63 v := KV.tr kV_v63 hM_v58 rfl
              have hA_f64 : KF [3, 4] f64 f := KF.tr kF_f64 hA_f59 rfl
              have hP : va_P (dC, dI) vwCl (XW cy x0 x v63 f64) H := hP
              have hD : va_D A (XW cy x0 x v63 f64) := hD
              rcases hw with ⟨g65⟩ | ⟨g65⟩
              · skip
                subst g65
                refine lv_if_eq (tgt := 166) hx hb dX6_unit_159 rfl (fun c0 => absurd c0 (by decide)) (fun _ => ?_)
                refine lv_iconst (v := 1) hx hb dX6_unit_162 rfl ?_
                refine lv_goto (tgt := 167) hx hb dX6_unit_163 rfl ?_
                exact ret 1 (v63, f64) _ _ _ _ _ _ rfl ⟨(gsX_X6_unit_4_q12 c1 c15 c43 c44 c50 et51 hG53 hG57 hG62), hM_v63, hA_f64, hIv63, (hk0_v63.trans (hk0_v58.trans hk0_v54)), (hk1_v63.trans (hk1_v58.trans hk1_v54)), (hk9_v63.trans (hk9_v58.trans hk9_v54)), (hk10_v63.trans (hk10_v58.trans hk10_v54)), (hk31_v63.trans (hk31_v58.trans hk31_v54)), (hk32_v63.trans (hk32_v58.trans hk32_v54)), (Or.inl rfl)⟩ hP hD hS dX6_unit_167 (Nat.le_refl _) (Nat.le_refl _)
              · skip
                subst g65
                refine lv_if_eq (tgt := 166) hx hb dX6_unit_159 rfl (fun _ => ?_) (fun c0 => absurd (by decide) c0)
                refine lv_iconst (v := 0) hx hb dX6_unit_166 rfl ?_
                exact ret 0 (v63, f64) _ _ _ _ _ _ rfl ⟨(gsX_X6_unit_4_q13 c1 c15 c43 c44 c50 et51 hG53 hG57 hG62), hM_v63, hA_f64, hIv63, (hk0_v63.trans (hk0_v58.trans hk0_v54)), (hk1_v63.trans (hk1_v58.trans hk1_v54)), (hk9_v63.trans (hk9_v58.trans hk9_v54)), (hk10_v63.trans (hk10_v58.trans hk10_v54)), (hk31_v63.trans (hk31_v58.trans hk31_v54)), (hk32_v63.trans (hk32_v58.trans hk32_v54)), (Or.inr rfl)⟩ hP hD hS dX6_unit_167 (Nat.le_refl _) (Nat.le_refl _)
            · skip
              subst g60
              refine lv_if_eq (tgt := 166) hx hb dX6_unit_150 rfl (fun _ => ?_) (fun c0 => absurd (by decide) c0)
              refine lv_iconst (v := 0) hx hb dX6_unit_166 rfl ?_
              exact ret 0 (v58, f59) _ _ _ _ _ _ rfl ⟨(gsX_X6_unit_4_q14 c1 c15 c43 c44 c50 et51 hG53 hG57), hM_v58, hA_f59, hIv58, (hk0_v58.trans hk0_v54), (hk1_v58.trans hk1_v54), (hk9_v58.trans hk9_v54), (hk10_v58.trans hk10_v54), (hk31_v58.trans hk31_v54), (hk32_v58.trans hk32_v54), (Or.inr rfl)⟩ hP hD hS dX6_unit_167 (Nat.le_refl _) (Nat.le_refl _)
          · skip
            refine lv_aload_n hx hb dX6_unit_56 rfl (lv_at hl 2 rfl) ?_
            refine cbVi (n := 0) (rest := []) hx hb hml hown hts hE hP hD hS hA (sX_X6_refuse_1 NF l dC dI cy x0 x  v f hIv ) k_691 k_693 k_6 k_103 k_694 hd_yX6_refuse ⟨Nat.le_of_ble_eq_true rfl, Nat.le_of_ble_eq_true rfl⟩ 3 6 rfl rfl (rfl) hl.1 rfl (Nat.le_of_ble_eq_true rfl) dX6_unit_57 (fun r66 u H locs hw hP hD hS => ?_)
            obtain ⟨hG67, hw⟩ := hw
            obtain ⟨v68, f69⟩ := u
            obtain ⟨kV_v68, kF_f69, hIv68, hk0_v68, hk1_v68, hk9_v68, hk10_v68, hk31_v68, hk32_v68, hw⟩ := hw
            have hM_v68 : KV [2, 3, 4, 5, 7, 8, 16, 17] v68 v := KV.tr kV_v68 hM_v rfl
            have hA_f69 : KF [3, 4] f69 f := KF.tr kF_f69 hA_f rfl
            have hP : va_P (dC, dI) vwCl (XW cy x0 x v68 f69) H := hP
            have hD : va_D A (XW cy x0 x v68 f69) := hD
            rcases hw with ⟨g70⟩ | ⟨g70⟩
            · skip
              subst g70
              exact ret 1 (v68, f69) _ _ _ _ _ _ rfl ⟨(gsX_X6_unit_4_q15 c1 c15 c43 c44 c50 hG67), hM_v68, hA_f69, hIv68, hk0_v68, hk1_v68, hk9_v68, hk10_v68, hk31_v68, hk32_v68, (Or.inl rfl)⟩ hP hD hS dX6_unit_60 (Nat.le_refl _) (Nat.le_refl _)
            · skip
              subst g70
              exact ret 0 (v68, f69) _ _ _ _ _ _ rfl ⟨(gsX_X6_unit_4_q16 c1 c15 c43 c44 c50 hG67), hM_v68, hA_f69, hIv68, hk0_v68, hk1_v68, hk9_v68, hk10_v68, hk31_v68, hk32_v68, (Or.inr rfl)⟩ hP hD hS dX6_unit_60 (Nat.le_refl _) (Nat.le_refl _)
      · skip
        refine lv_iconst (v := 1) hx hb dX6_unit_25 rfl ?_
        refine lv_goto (tgt := 30) hx hb dX6_unit_26 rfl ?_
        refine lv_istore_n (lv' := [(3, .int 1), (2, .int (v 2)), (0, .ref (x 2)), (1, .int 3)]) hx hb dX6_unit_30 rfl hl (Nat.le_of_ble_eq_true rfl) rfl (fun ls hl => ?_)
        refine lv_iload_n hx hb dX6_unit_31 rfl (lv_at hl 0 rfl) ?_
        refine lv_if_ne (tgt := 41) hx hb dX6_unit_32 rfl (fun _ => ?_) (fun c0 => absurd c0 (by decide))
        refine lv_aload_n hx hb dX6_unit_41 rfl (lv_at hl 2 rfl) ?_
        refine va_get (D := (dC, dI)) (ci := 6) (v := .ref (x 3)) (C := RX6) (T := TX6) (N := 7) hx hb hts inB_6 hown hE.1 hP 3 rfl rfl 1 (Nat.le_of_ble_eq_true rfl) (hts _ k_266) (fun _ h9 => h9) rfl dX6_unit_42 ?_
        refine va_getN (D := (dC, dI)) (ci := 7) (v := .ref (x 6)) (C := RX7) (T := TX7) (N := 10) hx hb hts inB_7 hown hE.1 hP 4 rfl rfl 2 (Nat.le_of_ble_eq_true rfl) (va_Nw.use rfl (hE.2 _ k_210)) (fun _ h9 => h9) rfl dX6_unit_45 ?_
        refine va_getN (D := (dC, dI)) (ci := 4) (v := .int (v 17)) (C := RX4) (T := TX4) (N := 6) hx hb hts inB_4 hown hE.1 hP 7 rfl rfl 5 (Nat.le_of_ble_eq_true rfl) (va_Nw.use rfl (hE.2 _ k_184)) (fun _ h9 => h9) rfl dX6_unit_48 ?_
        refine lv_bipush (v := 30) hx hb dX6_unit_51 rfl ?_
        refine lv_icmp_lt (tgt := 61) hx hb dX6_unit_53 rfl (fun c71 => ?_) (fun c71 => ?_)
        · skip
          refine lv_iload_n hx hb dX6_unit_61 rfl (lv_at hl 0 rfl) ?_
          refine lv_if_eq (tgt := 108) hx hb dX6_unit_62 rfl (fun c0 => absurd c0 (by decide)) (fun _ => ?_)
          refine lv_aload_n hx hb dX6_unit_65 rfl (lv_at hl 2 rfl) ?_
          refine va_get (D := (dC, dI)) (ci := 6) (v := .ref (x 3)) (C := RX6) (T := TX6) (N := 7) hx hb hts inB_6 hown hE.1 hP 3 rfl rfl 1 (Nat.le_of_ble_eq_true rfl) (hts _ k_266) (fun _ h9 => h9) rfl dX6_unit_66 ?_
          refine va_getN (D := (dC, dI)) (ci := 7) (v := .ref (x 6)) (C := RX7) (T := TX7) (N := 10) hx hb hts inB_7 hown hE.1 hP 4 rfl rfl 2 (Nat.le_of_ble_eq_true rfl) (va_Nw.use rfl (hE.2 _ k_210)) (fun _ h9 => h9) rfl dX6_unit_69 ?_
          refine lv_iload_n hx hb dX6_unit_72 rfl (lv_at hl 1 rfl) ?_
          refine lv_aload_n hx hb dX6_unit_73 rfl (lv_at hl 2 rfl) ?_
          refine va_get (D := (dC, dI)) (ci := 6) (v := .ref (x 0)) (C := RX6) (T := TX6) (N := 7) hx hb hts inB_6 hown hE.1 hP 3 rfl rfl 0 (Nat.le_of_ble_eq_true rfl) (hts _ k_265) (fun _ h9 => h9) rfl dX6_unit_74 ?_
          refine va_getN (D := (dC, dI)) (ci := 9) (v := .int (v 5)) (C := RX9) (T := TX9) (N := 6) hx hb hts inB_9 hown hE.1 hP 1 rfl rfl 5 (Nat.le_of_ble_eq_true rfl) (va_Nw.use rfl (hE.2 _ k_145)) (fun _ h9 => h9) rfl dX6_unit_77 ?_
          refine cbVv (n := 2) (rest := []) hx hb hml hown hts hE hP hD hS hA (sX_X4_add_1 NF l dC dI cy x0 x (v 2) (v 5) v f hIv ) k_748 k_749 k_750 k_105 k_751 hd_yX4_add ⟨Nat.le_of_ble_eq_true rfl, Nat.le_of_ble_eq_true rfl⟩ 7 4 rfl rfl (rfl) hl.1 rfl (Nat.le_of_ble_eq_true rfl) dX6_unit_80 (fun u H locs hw hP hD hS => ?_)
          obtain ⟨hG72, hw⟩ := hw
          obtain ⟨v73, f74⟩ := u
          obtain ⟨kV_v73, kF_f74, hIv73, hk0_v73, hk1_v73, hk7_v73, hk8_v73, hk9_v73, hk10_v73, hk31_v73, hk32_v73⟩ := hw
          have hM_v73 : KV [2, 3, 4, 5, 7, 8, 16, 17] v73 v := KV.tr kV_v73 hM_v rfl
          have hA_f74 : KF [3, 4] f74 f := KF.tr kF_f74 hA_f rfl
          have hP : va_P (dC, dI) vwCl (XW cy x0 x v73 f74) H := hP
          have hD : va_D A (XW cy x0 x v73 f74) := hD
          refine lv_aload_n hx hb dX6_unit_83 rfl (lv_at hl 2 rfl) ?_
          refine va_get (D := (dC, dI)) (ci := 6) (v := .ref (x 3)) (C := RX6) (T := TX6) (N := 7) hx hb hts inB_6 hown hE.1 hP 3 rfl rfl 1 (Nat.le_of_ble_eq_true rfl) (hts _ k_266) (fun _ h9 => h9) rfl dX6_unit_84 ?_
          refine va_getN (D := (dC, dI)) (ci := 7) (v := .ref (x 6)) (C := RX7) (T := TX7) (N := 10) hx hb hts inB_7 hown hE.1 hP 4 rfl rfl 2 (Nat.le_of_ble_eq_true rfl) (va_Nw.use rfl (hE.2 _ k_210)) (fun _ h9 => h9) rfl dX6_unit_87 ?_
          refine lv_dup hx hb dX6_unit_90 rfl ?_
          refine va_getN (D := (dC, dI)) (ci := 4) (v := .int (v73 17)) (C := RX4) (T := TX4) (N := 6) hx hb hts inB_4 hown hE.1 hP 7 rfl rfl 5 (Nat.le_of_ble_eq_true rfl) (va_Nw.use rfl (hE.2 _ k_184)) (fun _ h9 => h9) rfl dX6_unit_91 ?_
          refine lv_iconst (v := 1) hx hb dX6_unit_94 rfl ?_
          refine lv_iadd hx hb dX6_unit_95 ?_
          refine lv_topi (fun t75 et75 => ?_)
          refine va_putN (D := (dC, dI)) (ci := 4) (v := .int t75) (ty := tyX4 5) (C := RX4) (T := TX4) (N := 6) hx hb hts inB_4 tyX4 tyX4_ok nmX4 hown hE.1 hP hD hS 7 rfl rfl 5 (by decide) (va_Nw.use rfl (hE.2 _ k_184)) (fun _ h9 => h9) rfl (tyX4_ok 5 (Nat.le_of_ble_eq_true rfl)) rfl rfl (Nat.le_of_ble_eq_true rfl) dX6_unit_96 (fun H locs hP hD hS => ?_)
          have hP : va_P (dC, dI) vwCl (XW cy x0 x (upd v73 17 t75) f74) H := hP
          have hD : va_D A (XW cy x0 x (upd v73 17 t75) f74) := hD
          refine lv_aload_n hx hb dX6_unit_99 rfl (lv_at hl 2 rfl) ?_
          refine va_get (D := (dC, dI)) (ci := 6) (v := .ref (x 0)) (C := RX6) (T := TX6) (N := 7) hx hb hts inB_6 hown hE.1 hP 3 rfl rfl 0 (Nat.le_of_ble_eq_true rfl) (hts _ k_265) (fun _ h9 => h9) rfl dX6_unit_100 ?_
          refine csVv (n := 0) (rest := []) hx hb hml hown hts hE hP hD hS hA hF hT (sX_X9_advance_1 NF l dC dI cy x0 x  (upd v73 17 t75) f74 (Xu_17 (x := t75) hIv73 (rlo _) (rhi _)) ) k_699 k_559 k_560 k_102 k_561 hd_yX9_advance ⟨Nat.le_of_ble_eq_true rfl, Nat.le_of_ble_eq_true rfl⟩ 1 9 rfl rfl (rfl) hl.1 rfl (Nat.le_of_ble_eq_true rfl) dX6_unit_103 (fun u H locs hw hP hD hS => ?_)
          obtain ⟨hG76, hw⟩ := hw
          obtain ⟨v77, f78⟩ := u
          obtain ⟨kV_v77, kF_f78, hIv77, hk0_v77, hk1_v77, hk7_v77, hk8_v77, hk9_v77, hk10_v77, hk31_v77, hk32_v77⟩ := hw
          have hM_v77 : KV [2, 3, 4, 5, 7, 8, 16, 17] v77 v := KV.tr kV_v77 (KV.up (j := 17) (x := t75) hM_v73 rfl) rfl
          have hA_f78 : KF [3, 4] f78 f := KF.tr kF_f78 hA_f74 rfl
          have hP : va_P (dC, dI) vwCl (XW cy x0 x v77 f78) H := hP
          have hD : va_D A (XW cy x0 x v77 f78) := hD
          refine lv_iconst (v := 1) hx hb dX6_unit_106 rfl ?_
          exact ret 1 (v77, f78) _ _ _ _ _ _ rfl ⟨(gsX_X6_unit_4_q17 c1 c15 c43 c71 hG72 et75 hG76), hM_v77, hA_f78, hIv77, (hk0_v77.trans hk0_v73), (hk1_v77.trans hk1_v73), (hk9_v77.trans hk9_v73), (hk10_v77.trans hk10_v73), (hk31_v77.trans hk31_v73), (hk32_v77.trans hk32_v73), (Or.inl rfl)⟩ hP hD hS dX6_unit_107 (Nat.le_refl _) (Nat.le_refl _)
        · skip
          refine lv_aload_n hx hb dX6_unit_56 rfl (lv_at hl 2 rfl) ?_
          refine cbVi (n := 0) (rest := []) hx hb hml hown hts hE hP hD hS hA (sX_X6_refuse_1 NF l dC dI cy x0 x  v f hIv ) k_691 k_693 k_6 k_103 k_694 hd_yX6_refuse ⟨Nat.le_of_ble_eq_true rfl, Nat.le_of_ble_eq_true rfl⟩ 3 6 rfl rfl (rfl) hl.1 rfl (Nat.le_of_ble_eq_true rfl) dX6_unit_57 (fun r79 u H locs hw hP hD hS => ?_)
          obtain ⟨hG80, hw⟩ := hw
          obtain ⟨v81, f82⟩ := u
          obtain ⟨kV_v81, kF_f82, hIv81, hk0_v81, hk1_v81, hk9_v81, hk10_v81, hk31_v81, hk32_v81, hw⟩ := hw
          have hM_v81 : KV [2, 3, 4, 5, 7, 8, 16, 17] v81 v := KV.tr kV_v81 hM_v rfl
          have hA_f82 : KF [3, 4] f82 f := KF.tr kF_f82 hA_f rfl
          have hP : va_P (dC, dI) vwCl (XW cy x0 x v81 f82) H := hP
          have hD : va_D A (XW cy x0 x v81 f82) := hD
          rcases hw with ⟨g83⟩ | ⟨g83⟩
          · skip
            subst g83
            exact ret 1 (v81, f82) _ _ _ _ _ _ rfl ⟨(gsX_X6_unit_4_q18 c1 c15 c43 c71 hG80), hM_v81, hA_f82, hIv81, hk0_v81, hk1_v81, hk9_v81, hk10_v81, hk31_v81, hk32_v81, (Or.inl rfl)⟩ hP hD hS dX6_unit_60 (Nat.le_refl _) (Nat.le_refl _)
          · skip
            subst g83
            exact ret 0 (v81, f82) _ _ _ _ _ _ rfl ⟨(gsX_X6_unit_4_q19 c1 c15 c43 c71 hG80), hM_v81, hA_f82, hIv81, hk0_v81, hk1_v81, hk9_v81, hk10_v81, hk31_v81, hk32_v81, (Or.inr rfl)⟩ hP hD hS dX6_unit_60 (Nat.le_refl _) (Nat.le_refl _)
set_option maxHeartbeats 4000000 in
set_option maxRecDepth 100000 in
theorem sX_X6_expression_24 (NF : Nat) (l : Launch) (dC : Nat → ClassId) (dI : Nat → Nat → Nat) (cy : Nat → ClassId) (x0 : Nat) (x : Nat → Nat)  (v : Nat → Int32) (f : Nat → Nat → Int32) (hIv : XI v)  : ctIS l (dC, dI) cy yX6_expression cX6_expression 6 .boolean 36 906 0 0 ((Nat → Int32) × (Nat → Nat → Int32)) [.ref (x 2), .int 5, .int 3] (XW cy x0 x v f) (fun r u => gsX_X6_expression_24 NF v f = (r, u) ∧ KV [2, 3, 4, 5, 7, 8, 16, 17] u.1 v ∧ KF [3, 4] u.2 f ∧ XI u.1 ∧ u.1 0 = v 0 ∧ u.1 1 = v 1 ∧ u.1 9 = v 9 ∧ u.1 10 = v 10 ∧ u.1 31 = v 31 ∧ u.1 32 = v 32 ∧ ((r = 1) ∨ (r = 0))) (fun u => XW cy x0 x u.1 u.2) := by
  refine ctIS_of (by decide) (Nat.le_of_ble_eq_true rfl) (fun p e s m below meth c A ls Q hx hb hml hts hown hE hF hT hP hD hA hl ret => ?_)
  have hM_v : KV [2, 3, 4, 5, 7, 8, 16, 17] v v := fun _ _ => rfl
  have hA_f : KF [3, 4] f f := fun _ _ => rfl
  have hown : s.vm.findClass RX6 = some m.cls := hown
  have hS : va_S A s.heap s.heap [] := va_S.rf
  have hl : lv_has ls 6 [(0, .ref (x 2)), (1, .int 5), (2, .int 3)] := hl
  refine lv_iload_n hx hb dX6_expression_0 rfl (lv_at hl 1 rfl) ?_
  refine lv_iconst (v := 5) hx hb dX6_expression_1 rfl ?_
  refine lv_icmp_lt (tgt := 11) hx hb dX6_expression_2 rfl (fun c0 => absurd c0 (by decide)) (fun _ => ?_)
  refine lv_aload_n hx hb dX6_expression_5 rfl (lv_at hl 0 rfl) ?_
  refine lv_iload_n hx hb dX6_expression_6 rfl (lv_at hl 2 rfl) ?_
  refine csVi (n := 1) (rest := []) hx hb hml hown hts hE hP hD hS hA hF hT (sX_X6_unit_4 NF l dC dI cy x0 x  v f hIv ) k_744 k_746 k_16 k_103 k_747 hd_yX6_unit ⟨Nat.le_of_ble_eq_true rfl, Nat.le_of_ble_eq_true rfl⟩ 3 6 rfl rfl (rfl) hl.1 rfl (Nat.le_of_ble_eq_true rfl) dX6_expression_7 (fun r1 u H locs hw hP hD hS => ?_)
  obtain ⟨hG2, hw⟩ := hw
  obtain ⟨v3, f4⟩ := u
  obtain ⟨kV_v3, kF_f4, hIv3, hk0_v3, hk1_v3, hk9_v3, hk10_v3, hk31_v3, hk32_v3, hw⟩ := hw
  have hM_v3 : KV [2, 3, 4, 5, 7, 8, 16, 17] v3 v := KV.tr kV_v3 hM_v rfl
  have hA_f4 : KF [3, 4] f4 f := KF.tr kF_f4 hA_f rfl
  have hP : va_P (dC, dI) vwCl (XW cy x0 x v3 f4) H := hP
  have hD : va_D A (XW cy x0 x v3 f4) := hD
  have hq0_v3 : v3 0 = (v 0) := hk0_v3
  have hq1_v3 : v3 1 = (v 1) := hk1_v3
  have hq9_v3 : v3 9 = (v 9) := hk9_v3
  have hq10_v3 : v3 10 = (v 10) := hk10_v3
  have hq31_v3 : v3 31 = (v 31) := hk31_v3
  have hq32_v3 : v3 32 = (v 32) := hk32_v3
  rcases hw with ⟨g5⟩ | ⟨g5⟩
  · skip
    subst g5
    exact ret 1 (v3, f4) _ _ _ _ _ _ rfl ⟨(gsX_X6_expression_24_q0 hG2), hM_v3, hA_f4, hIv3, hk0_v3, hk1_v3, hk9_v3, hk10_v3, hk31_v3, hk32_v3, (Or.inl rfl)⟩ hP hD hS dX6_expression_10 (Nat.le_refl _) (Nat.le_refl _)
  · skip
    subst g5
    exact ret 0 (v3, f4) _ _ _ _ _ _ rfl ⟨(gsX_X6_expression_24_q1 hG2), hM_v3, hA_f4, hIv3, hk0_v3, hk1_v3, hk9_v3, hk10_v3, hk31_v3, hk32_v3, (Or.inr rfl)⟩ hP hD hS dX6_expression_10 (Nat.le_refl _) (Nat.le_refl _)
set_option maxHeartbeats 4000000 in
set_option maxRecDepth 100000 in
theorem sX_X6_expression_23 (NF : Nat) (l : Launch) (dC : Nat → ClassId) (dI : Nat → Nat → Nat) (cy : Nat → ClassId) (x0 : Nat) (x : Nat → Nat)  (v : Nat → Int32) (f : Nat → Nat → Int32) (hIv : XI v)  : ctIS l (dC, dI) cy yX6_expression cX6_expression 6 .boolean 37 931 0 0 ((Nat → Int32) × (Nat → Nat → Int32)) [.ref (x 2), .int 4, .int 3] (XW cy x0 x v f) (fun r u => gsX_X6_expression_23 NF v f = (r, u) ∧ KV [2, 3, 4, 5, 7, 8, 16, 17] u.1 v ∧ KF [3, 4] u.2 f ∧ XI u.1 ∧ u.1 0 = v 0 ∧ u.1 1 = v 1 ∧ u.1 9 = v 9 ∧ u.1 10 = v 10 ∧ u.1 31 = v 31 ∧ u.1 32 = v 32 ∧ ((r = 1) ∨ (r = 0))) (fun u => XW cy x0 x u.1 u.2) := by
  refine ctIS_of (by decide) (Nat.le_of_ble_eq_true rfl) (fun p e s m below meth c A ls Q hx hb hml hts hown hE hF hT hP hD hA hl ret => ?_)
  have hM_v : KV [2, 3, 4, 5, 7, 8, 16, 17] v v := fun _ _ => rfl
  have hA_f : KF [3, 4] f f := fun _ _ => rfl
  have hown : s.vm.findClass RX6 = some m.cls := hown
  have hS : va_S A s.heap s.heap [] := va_S.rf
  have hl : lv_has ls 6 [(0, .ref (x 2)), (1, .int 4), (2, .int 3)] := hl
  refine lv_iload_n hx hb dX6_expression_0 rfl (lv_at hl 1 rfl) ?_
  refine lv_iconst (v := 5) hx hb dX6_expression_1 rfl ?_
  refine lv_icmp_lt (tgt := 11) hx hb dX6_expression_2 rfl (fun _ => ?_) (fun c0 => absurd (by decide) c0)
  refine lv_iload_n hx hb dX6_expression_11 rfl (lv_at hl 1 rfl) ?_
  refine lv_iconst (v := 2) hx hb dX6_expression_12 rfl ?_
  refine lv_icmp_ne (tgt := 34) hx hb dX6_expression_13 rfl (fun _ => ?_) (fun c0 => absurd c0 (by decide))
  refine lv_aload_n hx hb dX6_expression_34 rfl (lv_at hl 0 rfl) ?_
  refine lv_iload_n hx hb dX6_expression_35 rfl (lv_at hl 1 rfl) ?_
  refine lv_iconst (v := 1) hx hb dX6_expression_36 rfl ?_
  refine lv_iadd hx hb dX6_expression_37 ?_
  refine tI (y := 5) (by decide) ?_
  refine lv_iload_n hx hb dX6_expression_38 rfl (lv_at hl 2 rfl) ?_
  refine csVi (n := 2) (rest := []) hx hb hml hown hts hE hP hD hS hA hF hT (sX_X6_expression_24 NF l dC dI cy x0 x  v f hIv ) k_740 k_742 k_15 k_103 k_743 hd_yX6_expression ⟨Nat.le_of_ble_eq_true rfl, Nat.le_of_ble_eq_true rfl⟩ 3 6 rfl rfl (rfl) hl.1 rfl (Nat.le_of_ble_eq_true rfl) dX6_expression_39 (fun r1 u H locs hw hP hD hS => ?_)
  obtain ⟨hG2, hw⟩ := hw
  obtain ⟨v3, f4⟩ := u
  obtain ⟨kV_v3, kF_f4, hIv3, hk0_v3, hk1_v3, hk9_v3, hk10_v3, hk31_v3, hk32_v3, hw⟩ := hw
  have hM_v3 : KV [2, 3, 4, 5, 7, 8, 16, 17] v3 v := KV.tr kV_v3 hM_v rfl
  have hA_f4 : KF [3, 4] f4 f := KF.tr kF_f4 hA_f rfl
  have hP : va_P (dC, dI) vwCl (XW cy x0 x v3 f4) H := hP
  have hD : va_D A (XW cy x0 x v3 f4) := hD
  have hq0_v3 : v3 0 = (v 0) := hk0_v3
  have hq1_v3 : v3 1 = (v 1) := hk1_v3
  have hq9_v3 : v3 9 = (v 9) := hk9_v3
  have hq10_v3 : v3 10 = (v 10) := hk10_v3
  have hq31_v3 : v3 31 = (v 31) := hk31_v3
  have hq32_v3 : v3 32 = (v 32) := hk32_v3
  rcases hw with ⟨g5⟩ | ⟨g5⟩
  · skip
    subst g5
    refine lv_if_ne (tgt := 47) hx hb dX6_expression_42 rfl (fun _ => ?_) (fun c0 => absurd c0 (by decide))
    refine lv_iload_n hx hb dX6_expression_47 rfl (lv_at hl 1 rfl) ?_
    refine lv_iconst (v := 2) hx hb dX6_expression_48 rfl ?_
    refine lv_icmp_ne (tgt := 56) hx hb dX6_expression_49 rfl (fun _ => ?_) (fun c0 => absurd c0 (by decide))
    refine lv_sipush (v := 1600) hx hb dX6_expression_56 rfl ?_
    refine lv_istore_n (lv' := [(3, .int 1600), (0, .ref (x 2)), (1, .int 4), (2, .int 3)]) hx hb dX6_expression_59 rfl hl (Nat.le_of_ble_eq_true rfl) rfl (fun ls hl => ?_)
    refine lv_iconst (v := 0) hx hb dX6_expression_60 rfl ?_
    refine lv_istore (lv' := [(4, .int 0), (3, .int 1600), (0, .ref (x 2)), (1, .int 4), (2, .int 3)]) hx hb dX6_expression_61 hl (Nat.le_of_ble_eq_true rfl) rfl (fun ls hl => ?_)
    have lp6 : ∀ (n6 : Nat) (l4_6 : Int32) (v6 : Nat → Int32) (f6 : Nat → Nat → Int32), XI v6 → v6 0 = (v 0) → v6 1 = (v 1) → v6 9 = (v 9) → v6 10 = (v 10) → v6 31 = (v 31) → v6 32 = (v 32) → gsX_X6_expression_23_L6 NF n6 l4_6 v6 f6 = (gsX_X6_expression_23 NF v f) → ((0 : Int) ≤ l4_6.toInt ∧ l4_6.toInt ≤ 2147483647) → KV [2, 3, 4, 5, 7, 8, 16, 17] v6 v → KF [3, 4] f6 f → (2147483647 - l4_6.toInt).toNat < n6 → ∀ (H : Heap) (locs : List Loc) (ls : Array Slot), va_P (dC, dI) vwCl (XW cy x0 x v6 f6) H → va_D A (XW cy x0 x v6 f6) → va_S A s.heap H locs → lv_has ls 6 [(4, .int l4_6), (3, .int 1600), (0, .ref (x 2)), (1, .int 4), (2, .int 3)] → W p l e { frames := 37, cells := 0, slots := 0, locals := 931 } s m ([.ref (x 2), .int 4, .int 3] : List Value).toArray below meth c H locs 0 0 Q (F0 m 63 ls []) := by
      intro n6
      induction n6 with
      | zero => intro l4_6 v6 f6 hIv6 hq0_v6 hq1_v6 hq9_v6 hq10_v6 hq31_v6 hq32_v6 hT6 hr4_6 hM_v6 hA_f6 hm; exact absurd hm (Nat.not_lt_zero _)
      | succ n6 ih6 =>
        intro l4_6 v6 f6 hIv6 hq0_v6 hq1_v6 hq9_v6 hq10_v6 hq31_v6 hq32_v6 hT6 hr4_6 hM_v6 hA_f6 hm6 H locs ls hP hD hS hl
        refine lv_iload hx hb dX6_expression_63 (lv_at hl 0 rfl) ?_
        refine lv_iload_n hx hb dX6_expression_65 rfl (lv_at hl 1 rfl) ?_
        refine lv_icmp_ge (tgt := 131) hx hb dX6_expression_66 rfl (fun c7 => ?_) (fun c7 => ?_)
        · skip
          refine lv_iconst (v := 1) hx hb dX6_expression_131 rfl ?_
          exact ret 1 (v6, f6) _ _ _ _ _ _ rfl ⟨(hT6.symm.trans (gsX_X6_expression_23_q0 c7)), hM_v6, hA_f6, hIv6, hq0_v6, hq1_v6, hq9_v6, hq10_v6, hq31_v6, hq32_v6, (Or.inl rfl)⟩ hP hD hS dX6_expression_132 (Nat.le_refl _) (Nat.le_refl _)
        · skip
          have zc7 : ¬ (1600 ≤ l4_6.toInt) := zMn tc_1600 rfl c7
          refine lv_iload_n hx hb dX6_expression_69 rfl (lv_at hl 3 rfl) ?_
          refine lv_aload_n hx hb dX6_expression_70 rfl (lv_at hl 2 rfl) ?_
          refine va_get (D := (dC, dI)) (ci := 6) (v := .ref (x 0)) (C := RX6) (T := TX6) (N := 7) hx hb hts inB_6 hown hE.1 hP 3 rfl rfl 0 (Nat.le_of_ble_eq_true rfl) (hts _ k_265) (fun _ h9 => h9) rfl dX6_expression_71 ?_
          refine va_getN (D := (dC, dI)) (ci := 9) (v := .int (v6 2)) (C := RX9) (T := TX9) (N := 6) hx hb hts inB_9 hown hE.1 hP 1 rfl rfl 2 (Nat.le_of_ble_eq_true rfl) (va_Nw.use rfl (hE.2 _ k_139)) (fun _ h9 => h9) rfl dX6_expression_74 ?_
          refine cbSi (n := 2) (rest := []) hx hb hml hown hts hE hP hD hS hA (sX_X6_joins_1 NF l dC dI cy x0 x 4 (v6 2) v6 f6 hIv6 ) k_756 k_757 k_103 k_758 he_yX6_joins ⟨Nat.le_of_ble_eq_true rfl, Nat.le_of_ble_eq_true rfl⟩ (rfl) hl.1 rfl (Nat.le_of_ble_eq_true rfl) dX6_expression_77 (fun r8 u H locs hw hP hD hS => ?_)
          obtain ⟨hG9, hw⟩ := hw
          rcases hw with ⟨g10⟩ | ⟨g10⟩
          · skip
            subst g10
            refine lv_if_eq (tgt := 131) hx hb dX6_expression_80 rfl (fun c0 => absurd c0 (by decide)) (fun _ => ?_)
            refine lv_aload_n hx hb dX6_expression_83 rfl (lv_at hl 2 rfl) ?_
            refine va_get (D := (dC, dI)) (ci := 6) (v := .ref (x 0)) (C := RX6) (T := TX6) (N := 7) hx hb hts inB_6 hown hE.1 hP 3 rfl rfl 0 (Nat.le_of_ble_eq_true rfl) (hts _ k_265) (fun _ h9 => h9) rfl dX6_expression_84 ?_
            refine va_getN (D := (dC, dI)) (ci := 9) (v := .int (v6 2)) (C := RX9) (T := TX9) (N := 6) hx hb hts inB_9 hown hE.1 hP 1 rfl rfl 2 (Nat.le_of_ble_eq_true rfl) (va_Nw.use rfl (hE.2 _ k_139)) (fun _ h9 => h9) rfl dX6_expression_87 ?_
            refine lv_istore (lv' := [(5, .int (v6 2)), (4, .int l4_6), (3, .int 1600), (0, .ref (x 2)), (1, .int 4), (2, .int 3)]) hx hb dX6_expression_90 hl (Nat.le_of_ble_eq_true rfl) rfl (fun ls hl => ?_)
            refine lv_aload_n hx hb dX6_expression_92 rfl (lv_at hl 3 rfl) ?_
            refine va_get (D := (dC, dI)) (ci := 6) (v := .ref (x 0)) (C := RX6) (T := TX6) (N := 7) hx hb hts inB_6 hown hE.1 hP 3 rfl rfl 0 (Nat.le_of_ble_eq_true rfl) (hts _ k_265) (fun _ h9 => h9) rfl dX6_expression_93 ?_
            refine csVv (n := 0) (rest := []) hx hb hml hown hts hE hP hD hS hA hF hT (sX_X9_advance_1 NF l dC dI cy x0 x  v6 f6 hIv6 ) k_699 k_559 k_560 k_102 k_561 hd_yX9_advance ⟨Nat.le_of_ble_eq_true rfl, Nat.le_of_ble_eq_true rfl⟩ 1 9 rfl rfl (rfl) hl.1 rfl (Nat.le_of_ble_eq_true rfl) dX6_expression_96 (fun u H locs hw hP hD hS => ?_)
            obtain ⟨hG11, hw⟩ := hw
            obtain ⟨v12, f13⟩ := u
            obtain ⟨kV_v12, kF_f13, hIv12, hk0_v12, hk1_v12, hk7_v12, hk8_v12, hk9_v12, hk10_v12, hk31_v12, hk32_v12⟩ := hw
            have hM_v12 : KV [2, 3, 4, 5, 7, 8, 16, 17] v12 v := KV.tr kV_v12 hM_v6 rfl
            have hA_f13 : KF [3, 4] f13 f := KF.tr kF_f13 hA_f6 rfl
            have hP : va_P (dC, dI) vwCl (XW cy x0 x v12 f13) H := hP
            have hD : va_D A (XW cy x0 x v12 f13) := hD
            have hq0_v12 : v12 0 = (v 0) := hk0_v12.trans hq0_v6
            have hq1_v12 : v12 1 = (v 1) := hk1_v12.trans hq1_v6
            have hq9_v12 : v12 9 = (v 9) := hk9_v12.trans hq9_v6
            have hq10_v12 : v12 10 = (v 10) := hk10_v12.trans hq10_v6
            have hq31_v12 : v12 31 = (v 31) := hk31_v12.trans hq31_v6
            have hq32_v12 : v12 32 = (v 32) := hk32_v12.trans hq32_v6
            refine lv_aload_n hx hb dX6_expression_99 rfl (lv_at hl 3 rfl) ?_
            refine lv_iload_n hx hb dX6_expression_100 rfl (lv_at hl 4 rfl) ?_
            refine lv_iconst (v := 1) hx hb dX6_expression_101 rfl ?_
            refine lv_iadd hx hb dX6_expression_102 ?_
            refine tI (y := 5) (by decide) ?_
            refine lv_iload_n hx hb dX6_expression_103 rfl (lv_at hl 5 rfl) ?_
            refine csVi (n := 2) (rest := []) hx hb hml hown hts hE hP hD hS hA hF hT (sX_X6_expression_24 NF l dC dI cy x0 x  v12 f13 hIv12 ) k_740 k_742 k_15 k_103 k_743 hd_yX6_expression ⟨Nat.le_of_ble_eq_true rfl, Nat.le_of_ble_eq_true rfl⟩ 3 6 rfl rfl (rfl) hl.1 rfl (Nat.le_of_ble_eq_true rfl) dX6_expression_104 (fun r14 u H locs hw hP hD hS => ?_)
            obtain ⟨hG15, hw⟩ := hw
            obtain ⟨v16, f17⟩ := u
            obtain ⟨kV_v16, kF_f17, hIv16, hk0_v16, hk1_v16, hk9_v16, hk10_v16, hk31_v16, hk32_v16, hw⟩ := hw
            have hM_v16 : KV [2, 3, 4, 5, 7, 8, 16, 17] v16 v := KV.tr kV_v16 hM_v12 rfl
            have hA_f17 : KF [3, 4] f17 f := KF.tr kF_f17 hA_f13 rfl
            have hP : va_P (dC, dI) vwCl (XW cy x0 x v16 f17) H := hP
            have hD : va_D A (XW cy x0 x v16 f17) := hD
            have hq0_v16 : v16 0 = (v 0) := hk0_v16.trans hq0_v12
            have hq1_v16 : v16 1 = (v 1) := hk1_v16.trans hq1_v12
            have hq9_v16 : v16 9 = (v 9) := hk9_v16.trans hq9_v12
            have hq10_v16 : v16 10 = (v 10) := hk10_v16.trans hq10_v12
            have hq31_v16 : v16 31 = (v 31) := hk31_v16.trans hq31_v12
            have hq32_v16 : v16 32 = (v 32) := hk32_v16.trans hq32_v12
            rcases hw with ⟨g18⟩ | ⟨g18⟩
            · skip
              subst g18
              refine lv_if_ne (tgt := 112) hx hb dX6_expression_107 rfl (fun _ => ?_) (fun c0 => absurd c0 (by decide))
              refine lv_aload_n hx hb dX6_expression_112 rfl (lv_at hl 3 rfl) ?_
              refine va_get (D := (dC, dI)) (ci := 6) (v := .ref (x 3)) (C := RX6) (T := TX6) (N := 7) hx hb hts inB_6 hown hE.1 hP 3 rfl rfl 1 (Nat.le_of_ble_eq_true rfl) (hts _ k_266) (fun _ h9 => h9) rfl dX6_expression_113 ?_
              refine va_getN (D := (dC, dI)) (ci := 7) (v := .ref (x 6)) (C := RX7) (T := TX7) (N := 10) hx hb hts inB_7 hown hE.1 hP 4 rfl rfl 2 (Nat.le_of_ble_eq_true rfl) (va_Nw.use rfl (hE.2 _ k_210)) (fun _ h9 => h9) rfl dX6_expression_116 ?_
              refine lv_iload hx hb dX6_expression_119 (lv_at hl 0 rfl) ?_
              refine lv_iconst (v := 0) hx hb dX6_expression_121 rfl ?_
              refine cbVv (n := 2) (rest := []) hx hb hml hown hts hE hP hD hS hA (sX_X4_add_1 NF l dC dI cy x0 x (v6 2) 0 v16 f17 hIv16 ) k_748 k_749 k_750 k_105 k_751 hd_yX4_add ⟨Nat.le_of_ble_eq_true rfl, Nat.le_of_ble_eq_true rfl⟩ 7 4 rfl rfl (rfl) hl.1 rfl (Nat.le_of_ble_eq_true rfl) dX6_expression_122 (fun u H locs hw hP hD hS => ?_)
              obtain ⟨hG19, hw⟩ := hw
              obtain ⟨v20, f21⟩ := u
              obtain ⟨kV_v20, kF_f21, hIv20, hk0_v20, hk1_v20, hk7_v20, hk8_v20, hk9_v20, hk10_v20, hk31_v20, hk32_v20⟩ := hw
              have hM_v20 : KV [2, 3, 4, 5, 7, 8, 16, 17] v20 v := KV.tr kV_v20 hM_v16 rfl
              have hA_f21 : KF [3, 4] f21 f := KF.tr kF_f21 hA_f17 rfl
              have hP : va_P (dC, dI) vwCl (XW cy x0 x v20 f21) H := hP
              have hD : va_D A (XW cy x0 x v20 f21) := hD
              have hq0_v20 : v20 0 = (v 0) := hk0_v20.trans hq0_v16
              have hq1_v20 : v20 1 = (v 1) := hk1_v20.trans hq1_v16
              have hq9_v20 : v20 9 = (v 9) := hk9_v20.trans hq9_v16
              have hq10_v20 : v20 10 = (v 10) := hk10_v20.trans hq10_v16
              have hq31_v20 : v20 31 = (v 31) := hk31_v20.trans hq31_v16
              have hq32_v20 : v20 32 = (v 32) := hk32_v20.trans hq32_v16
              obtain ⟨t22, et22⟩ : ∃ y : Int32, y = l4_6 + 1 := ⟨_, rfl⟩
              have zt22 : t22.toInt = l4_6.toInt + 1 := (congrArg Int32.toInt et22).trans (add_i rfl tc_1 (om_41 hr4_6) (om_5 zc7))
              refine lv_iinc (v := t22) (lv' := [(4, .int t22), (5, .int (v6 2)), (3, .int 1600), (0, .ref (x 2)), (1, .int 4), (2, .int 3)]) hx hb dX6_expression_125 hl (k := 1) rfl et22.symm (Nat.le_of_ble_eq_true rfl) rfl (fun ls hl => ?_)
              refine lv_goto (tgt := 63) hx hb dX6_expression_128 rfl ?_
              have rg24 := fb_rng t22
              exact ih6 t22 v20 f21 hIv20 hq0_v20 hq1_v20 hq9_v20 hq10_v20 hq31_v20 hq32_v20 ((gsX_X6_expression_23_q1 c7 hG9 hG11 hG15 hG19 et22).symm.trans hT6) ⟨show (0 : Int) ≤ t22.toInt from om_43 hr4_6 zt22, show t22.toInt ≤ (2147483647 : Int) from om_44 rg24⟩ hM_v20 hA_f21 (show (2147483647 - t22.toInt).toNat < n6 from om_33 hm6 zt22 rg24) _ _ _ hP hD hS (lv_sub hl [0, 2, 3, 4, 5] rfl)
            · skip
              subst g18
              refine lv_if_ne (tgt := 112) hx hb dX6_expression_107 rfl (fun c0 => absurd (by decide) c0) (fun _ => ?_)
              refine lv_iconst (v := 0) hx hb dX6_expression_110 rfl ?_
              exact ret 0 (v16, f17) _ _ _ _ _ _ rfl ⟨(hT6.symm.trans (gsX_X6_expression_23_q2 c7 hG9 hG11 hG15)), hM_v16, hA_f17, hIv16, (hk0_v16.trans (hk0_v12.trans hq0_v6)), (hk1_v16.trans (hk1_v12.trans hq1_v6)), (hk9_v16.trans (hk9_v12.trans hq9_v6)), (hk10_v16.trans (hk10_v12.trans hq10_v6)), (hk31_v16.trans (hk31_v12.trans hq31_v6)), (hk32_v16.trans (hk32_v12.trans hq32_v6)), (Or.inr rfl)⟩ hP hD hS dX6_expression_111 (Nat.le_refl _) (Nat.le_refl _)
          · skip
            subst g10
            refine lv_if_eq (tgt := 131) hx hb dX6_expression_80 rfl (fun _ => ?_) (fun c0 => absurd (by decide) c0)
            refine lv_iconst (v := 1) hx hb dX6_expression_131 rfl ?_
            exact ret 1 (v6, f6) _ _ _ _ _ _ rfl ⟨(hT6.symm.trans (gsX_X6_expression_23_q3 c7 hG9)), hM_v6, hA_f6, hIv6, hq0_v6, hq1_v6, hq9_v6, hq10_v6, hq31_v6, hq32_v6, (Or.inl rfl)⟩ hP hD hS dX6_expression_132 (Nat.le_refl _) (Nat.le_refl _)
    exact lp6 (4294967296 + NF) 0 v3 f4 hIv3 hq0_v3 hq1_v3 hq9_v3 hq10_v3 hq31_v3 hq32_v3 (gsX_X6_expression_23_q4 hG2).symm ⟨by decide, by decide⟩ hM_v3 hA_f4 (show (2147483647 - (0 : Int32).toInt).toNat < 4294967296 + NF from om_38 tc_0) _ _ _ hP hD hS (lv_sub hl [0, 1, 2, 3, 4] rfl)
  · skip
    subst g5
    refine lv_if_ne (tgt := 47) hx hb dX6_expression_42 rfl (fun c0 => absurd (by decide) c0) (fun _ => ?_)
    refine lv_iconst (v := 0) hx hb dX6_expression_45 rfl ?_
    exact ret 0 (v3, f4) _ _ _ _ _ _ rfl ⟨(gsX_X6_expression_23_q5 hG2), hM_v3, hA_f4, hIv3, hk0_v3, hk1_v3, hk9_v3, hk10_v3, hk31_v3, hk32_v3, (Or.inr rfl)⟩ hP hD hS dX6_expression_46 (Nat.le_refl _) (Nat.le_refl _)
set_option maxHeartbeats 4000000 in
set_option maxRecDepth 100000 in
theorem sX_X6_expression_22 (NF : Nat) (l : Launch) (dC : Nat → ClassId) (dI : Nat → Nat → Nat) (cy : Nat → ClassId) (x0 : Nat) (x : Nat → Nat)  (v : Nat → Int32) (f : Nat → Nat → Int32) (hIv : XI v)  : ctIS l (dC, dI) cy yX6_expression cX6_expression 6 .boolean 38 956 0 0 ((Nat → Int32) × (Nat → Nat → Int32)) [.ref (x 2), .int 3, .int 3] (XW cy x0 x v f) (fun r u => gsX_X6_expression_22 NF v f = (r, u) ∧ KV [2, 3, 4, 5, 7, 8, 16, 17] u.1 v ∧ KF [3, 4] u.2 f ∧ XI u.1 ∧ u.1 0 = v 0 ∧ u.1 1 = v 1 ∧ u.1 9 = v 9 ∧ u.1 10 = v 10 ∧ u.1 31 = v 31 ∧ u.1 32 = v 32 ∧ ((r = 1) ∨ (r = 0))) (fun u => XW cy x0 x u.1 u.2) := by
  refine ctIS_of (by decide) (Nat.le_of_ble_eq_true rfl) (fun p e s m below meth c A ls Q hx hb hml hts hown hE hF hT hP hD hA hl ret => ?_)
  have hM_v : KV [2, 3, 4, 5, 7, 8, 16, 17] v v := fun _ _ => rfl
  have hA_f : KF [3, 4] f f := fun _ _ => rfl
  have hown : s.vm.findClass RX6 = some m.cls := hown
  have hS : va_S A s.heap s.heap [] := va_S.rf
  have hl : lv_has ls 6 [(0, .ref (x 2)), (1, .int 3), (2, .int 3)] := hl
  refine lv_iload_n hx hb dX6_expression_0 rfl (lv_at hl 1 rfl) ?_
  refine lv_iconst (v := 5) hx hb dX6_expression_1 rfl ?_
  refine lv_icmp_lt (tgt := 11) hx hb dX6_expression_2 rfl (fun _ => ?_) (fun c0 => absurd (by decide) c0)
  refine lv_iload_n hx hb dX6_expression_11 rfl (lv_at hl 1 rfl) ?_
  refine lv_iconst (v := 2) hx hb dX6_expression_12 rfl ?_
  refine lv_icmp_ne (tgt := 34) hx hb dX6_expression_13 rfl (fun _ => ?_) (fun c0 => absurd c0 (by decide))
  refine lv_aload_n hx hb dX6_expression_34 rfl (lv_at hl 0 rfl) ?_
  refine lv_iload_n hx hb dX6_expression_35 rfl (lv_at hl 1 rfl) ?_
  refine lv_iconst (v := 1) hx hb dX6_expression_36 rfl ?_
  refine lv_iadd hx hb dX6_expression_37 ?_
  refine tI (y := 4) (by decide) ?_
  refine lv_iload_n hx hb dX6_expression_38 rfl (lv_at hl 2 rfl) ?_
  refine csVi (n := 2) (rest := []) hx hb hml hown hts hE hP hD hS hA hF hT (sX_X6_expression_23 NF l dC dI cy x0 x  v f hIv ) k_740 k_742 k_15 k_103 k_743 hd_yX6_expression ⟨Nat.le_of_ble_eq_true rfl, Nat.le_of_ble_eq_true rfl⟩ 3 6 rfl rfl (rfl) hl.1 rfl (Nat.le_of_ble_eq_true rfl) dX6_expression_39 (fun r1 u H locs hw hP hD hS => ?_)
  obtain ⟨hG2, hw⟩ := hw
  obtain ⟨v3, f4⟩ := u
  obtain ⟨kV_v3, kF_f4, hIv3, hk0_v3, hk1_v3, hk9_v3, hk10_v3, hk31_v3, hk32_v3, hw⟩ := hw
  have hM_v3 : KV [2, 3, 4, 5, 7, 8, 16, 17] v3 v := KV.tr kV_v3 hM_v rfl
  have hA_f4 : KF [3, 4] f4 f := KF.tr kF_f4 hA_f rfl
  have hP : va_P (dC, dI) vwCl (XW cy x0 x v3 f4) H := hP
  have hD : va_D A (XW cy x0 x v3 f4) := hD
  have hq0_v3 : v3 0 = (v 0) := hk0_v3
  have hq1_v3 : v3 1 = (v 1) := hk1_v3
  have hq9_v3 : v3 9 = (v 9) := hk9_v3
  have hq10_v3 : v3 10 = (v 10) := hk10_v3
  have hq31_v3 : v3 31 = (v 31) := hk31_v3
  have hq32_v3 : v3 32 = (v 32) := hk32_v3
  rcases hw with ⟨g5⟩ | ⟨g5⟩
  · skip
    subst g5
    refine lv_if_ne (tgt := 47) hx hb dX6_expression_42 rfl (fun _ => ?_) (fun c0 => absurd c0 (by decide))
    refine lv_iload_n hx hb dX6_expression_47 rfl (lv_at hl 1 rfl) ?_
    refine lv_iconst (v := 2) hx hb dX6_expression_48 rfl ?_
    refine lv_icmp_ne (tgt := 56) hx hb dX6_expression_49 rfl (fun _ => ?_) (fun c0 => absurd c0 (by decide))
    refine lv_sipush (v := 1600) hx hb dX6_expression_56 rfl ?_
    refine lv_istore_n (lv' := [(3, .int 1600), (0, .ref (x 2)), (1, .int 3), (2, .int 3)]) hx hb dX6_expression_59 rfl hl (Nat.le_of_ble_eq_true rfl) rfl (fun ls hl => ?_)
    refine lv_iconst (v := 0) hx hb dX6_expression_60 rfl ?_
    refine lv_istore (lv' := [(4, .int 0), (3, .int 1600), (0, .ref (x 2)), (1, .int 3), (2, .int 3)]) hx hb dX6_expression_61 hl (Nat.le_of_ble_eq_true rfl) rfl (fun ls hl => ?_)
    have lp6 : ∀ (n6 : Nat) (l4_6 : Int32) (v6 : Nat → Int32) (f6 : Nat → Nat → Int32), XI v6 → v6 0 = (v 0) → v6 1 = (v 1) → v6 9 = (v 9) → v6 10 = (v 10) → v6 31 = (v 31) → v6 32 = (v 32) → gsX_X6_expression_22_L6 NF n6 l4_6 v6 f6 = (gsX_X6_expression_22 NF v f) → ((0 : Int) ≤ l4_6.toInt ∧ l4_6.toInt ≤ 2147483647) → KV [2, 3, 4, 5, 7, 8, 16, 17] v6 v → KF [3, 4] f6 f → (2147483647 - l4_6.toInt).toNat < n6 → ∀ (H : Heap) (locs : List Loc) (ls : Array Slot), va_P (dC, dI) vwCl (XW cy x0 x v6 f6) H → va_D A (XW cy x0 x v6 f6) → va_S A s.heap H locs → lv_has ls 6 [(4, .int l4_6), (3, .int 1600), (0, .ref (x 2)), (1, .int 3), (2, .int 3)] → W p l e { frames := 38, cells := 0, slots := 0, locals := 956 } s m ([.ref (x 2), .int 3, .int 3] : List Value).toArray below meth c H locs 0 0 Q (F0 m 63 ls []) := by
      intro n6
      induction n6 with
      | zero => intro l4_6 v6 f6 hIv6 hq0_v6 hq1_v6 hq9_v6 hq10_v6 hq31_v6 hq32_v6 hT6 hr4_6 hM_v6 hA_f6 hm; exact absurd hm (Nat.not_lt_zero _)
      | succ n6 ih6 =>
        intro l4_6 v6 f6 hIv6 hq0_v6 hq1_v6 hq9_v6 hq10_v6 hq31_v6 hq32_v6 hT6 hr4_6 hM_v6 hA_f6 hm6 H locs ls hP hD hS hl
        refine lv_iload hx hb dX6_expression_63 (lv_at hl 0 rfl) ?_
        refine lv_iload_n hx hb dX6_expression_65 rfl (lv_at hl 1 rfl) ?_
        refine lv_icmp_ge (tgt := 131) hx hb dX6_expression_66 rfl (fun c7 => ?_) (fun c7 => ?_)
        · skip
          refine lv_iconst (v := 1) hx hb dX6_expression_131 rfl ?_
          exact ret 1 (v6, f6) _ _ _ _ _ _ rfl ⟨(hT6.symm.trans (gsX_X6_expression_22_q0 c7)), hM_v6, hA_f6, hIv6, hq0_v6, hq1_v6, hq9_v6, hq10_v6, hq31_v6, hq32_v6, (Or.inl rfl)⟩ hP hD hS dX6_expression_132 (Nat.le_refl _) (Nat.le_refl _)
        · skip
          have zc7 : ¬ (1600 ≤ l4_6.toInt) := zMn tc_1600 rfl c7
          refine lv_iload_n hx hb dX6_expression_69 rfl (lv_at hl 3 rfl) ?_
          refine lv_aload_n hx hb dX6_expression_70 rfl (lv_at hl 2 rfl) ?_
          refine va_get (D := (dC, dI)) (ci := 6) (v := .ref (x 0)) (C := RX6) (T := TX6) (N := 7) hx hb hts inB_6 hown hE.1 hP 3 rfl rfl 0 (Nat.le_of_ble_eq_true rfl) (hts _ k_265) (fun _ h9 => h9) rfl dX6_expression_71 ?_
          refine va_getN (D := (dC, dI)) (ci := 9) (v := .int (v6 2)) (C := RX9) (T := TX9) (N := 6) hx hb hts inB_9 hown hE.1 hP 1 rfl rfl 2 (Nat.le_of_ble_eq_true rfl) (va_Nw.use rfl (hE.2 _ k_139)) (fun _ h9 => h9) rfl dX6_expression_74 ?_
          refine cbSi (n := 2) (rest := []) hx hb hml hown hts hE hP hD hS hA (sX_X6_joins_1 NF l dC dI cy x0 x 3 (v6 2) v6 f6 hIv6 ) k_756 k_757 k_103 k_758 he_yX6_joins ⟨Nat.le_of_ble_eq_true rfl, Nat.le_of_ble_eq_true rfl⟩ (rfl) hl.1 rfl (Nat.le_of_ble_eq_true rfl) dX6_expression_77 (fun r8 u H locs hw hP hD hS => ?_)
          obtain ⟨hG9, hw⟩ := hw
          rcases hw with ⟨g10⟩ | ⟨g10⟩
          · skip
            subst g10
            refine lv_if_eq (tgt := 131) hx hb dX6_expression_80 rfl (fun c0 => absurd c0 (by decide)) (fun _ => ?_)
            refine lv_aload_n hx hb dX6_expression_83 rfl (lv_at hl 2 rfl) ?_
            refine va_get (D := (dC, dI)) (ci := 6) (v := .ref (x 0)) (C := RX6) (T := TX6) (N := 7) hx hb hts inB_6 hown hE.1 hP 3 rfl rfl 0 (Nat.le_of_ble_eq_true rfl) (hts _ k_265) (fun _ h9 => h9) rfl dX6_expression_84 ?_
            refine va_getN (D := (dC, dI)) (ci := 9) (v := .int (v6 2)) (C := RX9) (T := TX9) (N := 6) hx hb hts inB_9 hown hE.1 hP 1 rfl rfl 2 (Nat.le_of_ble_eq_true rfl) (va_Nw.use rfl (hE.2 _ k_139)) (fun _ h9 => h9) rfl dX6_expression_87 ?_
            refine lv_istore (lv' := [(5, .int (v6 2)), (4, .int l4_6), (3, .int 1600), (0, .ref (x 2)), (1, .int 3), (2, .int 3)]) hx hb dX6_expression_90 hl (Nat.le_of_ble_eq_true rfl) rfl (fun ls hl => ?_)
            refine lv_aload_n hx hb dX6_expression_92 rfl (lv_at hl 3 rfl) ?_
            refine va_get (D := (dC, dI)) (ci := 6) (v := .ref (x 0)) (C := RX6) (T := TX6) (N := 7) hx hb hts inB_6 hown hE.1 hP 3 rfl rfl 0 (Nat.le_of_ble_eq_true rfl) (hts _ k_265) (fun _ h9 => h9) rfl dX6_expression_93 ?_
            refine csVv (n := 0) (rest := []) hx hb hml hown hts hE hP hD hS hA hF hT (sX_X9_advance_1 NF l dC dI cy x0 x  v6 f6 hIv6 ) k_699 k_559 k_560 k_102 k_561 hd_yX9_advance ⟨Nat.le_of_ble_eq_true rfl, Nat.le_of_ble_eq_true rfl⟩ 1 9 rfl rfl (rfl) hl.1 rfl (Nat.le_of_ble_eq_true rfl) dX6_expression_96 (fun u H locs hw hP hD hS => ?_)
            obtain ⟨hG11, hw⟩ := hw
            obtain ⟨v12, f13⟩ := u
            obtain ⟨kV_v12, kF_f13, hIv12, hk0_v12, hk1_v12, hk7_v12, hk8_v12, hk9_v12, hk10_v12, hk31_v12, hk32_v12⟩ := hw
            have hM_v12 : KV [2, 3, 4, 5, 7, 8, 16, 17] v12 v := KV.tr kV_v12 hM_v6 rfl
            have hA_f13 : KF [3, 4] f13 f := KF.tr kF_f13 hA_f6 rfl
            have hP : va_P (dC, dI) vwCl (XW cy x0 x v12 f13) H := hP
            have hD : va_D A (XW cy x0 x v12 f13) := hD
            have hq0_v12 : v12 0 = (v 0) := hk0_v12.trans hq0_v6
            have hq1_v12 : v12 1 = (v 1) := hk1_v12.trans hq1_v6
            have hq9_v12 : v12 9 = (v 9) := hk9_v12.trans hq9_v6
            have hq10_v12 : v12 10 = (v 10) := hk10_v12.trans hq10_v6
            have hq31_v12 : v12 31 = (v 31) := hk31_v12.trans hq31_v6
            have hq32_v12 : v12 32 = (v 32) := hk32_v12.trans hq32_v6
            refine lv_aload_n hx hb dX6_expression_99 rfl (lv_at hl 3 rfl) ?_
            refine lv_iload_n hx hb dX6_expression_100 rfl (lv_at hl 4 rfl) ?_
            refine lv_iconst (v := 1) hx hb dX6_expression_101 rfl ?_
            refine lv_iadd hx hb dX6_expression_102 ?_
            refine tI (y := 4) (by decide) ?_
            refine lv_iload_n hx hb dX6_expression_103 rfl (lv_at hl 5 rfl) ?_
            refine csVi (n := 2) (rest := []) hx hb hml hown hts hE hP hD hS hA hF hT (sX_X6_expression_23 NF l dC dI cy x0 x  v12 f13 hIv12 ) k_740 k_742 k_15 k_103 k_743 hd_yX6_expression ⟨Nat.le_of_ble_eq_true rfl, Nat.le_of_ble_eq_true rfl⟩ 3 6 rfl rfl (rfl) hl.1 rfl (Nat.le_of_ble_eq_true rfl) dX6_expression_104 (fun r14 u H locs hw hP hD hS => ?_)
            obtain ⟨hG15, hw⟩ := hw
            obtain ⟨v16, f17⟩ := u
            obtain ⟨kV_v16, kF_f17, hIv16, hk0_v16, hk1_v16, hk9_v16, hk10_v16, hk31_v16, hk32_v16, hw⟩ := hw
            have hM_v16 : KV [2, 3, 4, 5, 7, 8, 16, 17] v16 v := KV.tr kV_v16 hM_v12 rfl
            have hA_f17 : KF [3, 4] f17 f := KF.tr kF_f17 hA_f13 rfl
            have hP : va_P (dC, dI) vwCl (XW cy x0 x v16 f17) H := hP
            have hD : va_D A (XW cy x0 x v16 f17) := hD
            have hq0_v16 : v16 0 = (v 0) := hk0_v16.trans hq0_v12
            have hq1_v16 : v16 1 = (v 1) := hk1_v16.trans hq1_v12
            have hq9_v16 : v16 9 = (v 9) := hk9_v16.trans hq9_v12
            have hq10_v16 : v16 10 = (v 10) := hk10_v16.trans hq10_v12
            have hq31_v16 : v16 31 = (v 31) := hk31_v16.trans hq31_v12
            have hq32_v16 : v16 32 = (v 32) := hk32_v16.trans hq32_v12
            rcases hw with ⟨g18⟩ | ⟨g18⟩
            · skip
              subst g18
              refine lv_if_ne (tgt := 112) hx hb dX6_expression_107 rfl (fun _ => ?_) (fun c0 => absurd c0 (by decide))
              refine lv_aload_n hx hb dX6_expression_112 rfl (lv_at hl 3 rfl) ?_
              refine va_get (D := (dC, dI)) (ci := 6) (v := .ref (x 3)) (C := RX6) (T := TX6) (N := 7) hx hb hts inB_6 hown hE.1 hP 3 rfl rfl 1 (Nat.le_of_ble_eq_true rfl) (hts _ k_266) (fun _ h9 => h9) rfl dX6_expression_113 ?_
              refine va_getN (D := (dC, dI)) (ci := 7) (v := .ref (x 6)) (C := RX7) (T := TX7) (N := 10) hx hb hts inB_7 hown hE.1 hP 4 rfl rfl 2 (Nat.le_of_ble_eq_true rfl) (va_Nw.use rfl (hE.2 _ k_210)) (fun _ h9 => h9) rfl dX6_expression_116 ?_
              refine lv_iload hx hb dX6_expression_119 (lv_at hl 0 rfl) ?_
              refine lv_iconst (v := 0) hx hb dX6_expression_121 rfl ?_
              refine cbVv (n := 2) (rest := []) hx hb hml hown hts hE hP hD hS hA (sX_X4_add_1 NF l dC dI cy x0 x (v6 2) 0 v16 f17 hIv16 ) k_748 k_749 k_750 k_105 k_751 hd_yX4_add ⟨Nat.le_of_ble_eq_true rfl, Nat.le_of_ble_eq_true rfl⟩ 7 4 rfl rfl (rfl) hl.1 rfl (Nat.le_of_ble_eq_true rfl) dX6_expression_122 (fun u H locs hw hP hD hS => ?_)
              obtain ⟨hG19, hw⟩ := hw
              obtain ⟨v20, f21⟩ := u
              obtain ⟨kV_v20, kF_f21, hIv20, hk0_v20, hk1_v20, hk7_v20, hk8_v20, hk9_v20, hk10_v20, hk31_v20, hk32_v20⟩ := hw
              have hM_v20 : KV [2, 3, 4, 5, 7, 8, 16, 17] v20 v := KV.tr kV_v20 hM_v16 rfl
              have hA_f21 : KF [3, 4] f21 f := KF.tr kF_f21 hA_f17 rfl
              have hP : va_P (dC, dI) vwCl (XW cy x0 x v20 f21) H := hP
              have hD : va_D A (XW cy x0 x v20 f21) := hD
              have hq0_v20 : v20 0 = (v 0) := hk0_v20.trans hq0_v16
              have hq1_v20 : v20 1 = (v 1) := hk1_v20.trans hq1_v16
              have hq9_v20 : v20 9 = (v 9) := hk9_v20.trans hq9_v16
              have hq10_v20 : v20 10 = (v 10) := hk10_v20.trans hq10_v16
              have hq31_v20 : v20 31 = (v 31) := hk31_v20.trans hq31_v16
              have hq32_v20 : v20 32 = (v 32) := hk32_v20.trans hq32_v16
              obtain ⟨t22, et22⟩ : ∃ y : Int32, y = l4_6 + 1 := ⟨_, rfl⟩
              have zt22 : t22.toInt = l4_6.toInt + 1 := (congrArg Int32.toInt et22).trans (add_i rfl tc_1 (om_41 hr4_6) (om_5 zc7))
              refine lv_iinc (v := t22) (lv' := [(4, .int t22), (5, .int (v6 2)), (3, .int 1600), (0, .ref (x 2)), (1, .int 3), (2, .int 3)]) hx hb dX6_expression_125 hl (k := 1) rfl et22.symm (Nat.le_of_ble_eq_true rfl) rfl (fun ls hl => ?_)
              refine lv_goto (tgt := 63) hx hb dX6_expression_128 rfl ?_
              have rg24 := fb_rng t22
              exact ih6 t22 v20 f21 hIv20 hq0_v20 hq1_v20 hq9_v20 hq10_v20 hq31_v20 hq32_v20 ((gsX_X6_expression_22_q1 c7 hG9 hG11 hG15 hG19 et22).symm.trans hT6) ⟨show (0 : Int) ≤ t22.toInt from om_43 hr4_6 zt22, show t22.toInt ≤ (2147483647 : Int) from om_44 rg24⟩ hM_v20 hA_f21 (show (2147483647 - t22.toInt).toNat < n6 from om_33 hm6 zt22 rg24) _ _ _ hP hD hS (lv_sub hl [0, 2, 3, 4, 5] rfl)
            · skip
              subst g18
              refine lv_if_ne (tgt := 112) hx hb dX6_expression_107 rfl (fun c0 => absurd (by decide) c0) (fun _ => ?_)
              refine lv_iconst (v := 0) hx hb dX6_expression_110 rfl ?_
              exact ret 0 (v16, f17) _ _ _ _ _ _ rfl ⟨(hT6.symm.trans (gsX_X6_expression_22_q2 c7 hG9 hG11 hG15)), hM_v16, hA_f17, hIv16, (hk0_v16.trans (hk0_v12.trans hq0_v6)), (hk1_v16.trans (hk1_v12.trans hq1_v6)), (hk9_v16.trans (hk9_v12.trans hq9_v6)), (hk10_v16.trans (hk10_v12.trans hq10_v6)), (hk31_v16.trans (hk31_v12.trans hq31_v6)), (hk32_v16.trans (hk32_v12.trans hq32_v6)), (Or.inr rfl)⟩ hP hD hS dX6_expression_111 (Nat.le_refl _) (Nat.le_refl _)
          · skip
            subst g10
            refine lv_if_eq (tgt := 131) hx hb dX6_expression_80 rfl (fun _ => ?_) (fun c0 => absurd (by decide) c0)
            refine lv_iconst (v := 1) hx hb dX6_expression_131 rfl ?_
            exact ret 1 (v6, f6) _ _ _ _ _ _ rfl ⟨(hT6.symm.trans (gsX_X6_expression_22_q3 c7 hG9)), hM_v6, hA_f6, hIv6, hq0_v6, hq1_v6, hq9_v6, hq10_v6, hq31_v6, hq32_v6, (Or.inl rfl)⟩ hP hD hS dX6_expression_132 (Nat.le_refl _) (Nat.le_refl _)
    exact lp6 (4294967296 + NF) 0 v3 f4 hIv3 hq0_v3 hq1_v3 hq9_v3 hq10_v3 hq31_v3 hq32_v3 (gsX_X6_expression_22_q4 hG2).symm ⟨by decide, by decide⟩ hM_v3 hA_f4 (show (2147483647 - (0 : Int32).toInt).toNat < 4294967296 + NF from om_38 tc_0) _ _ _ hP hD hS (lv_sub hl [0, 1, 2, 3, 4] rfl)
  · skip
    subst g5
    refine lv_if_ne (tgt := 47) hx hb dX6_expression_42 rfl (fun c0 => absurd (by decide) c0) (fun _ => ?_)
    refine lv_iconst (v := 0) hx hb dX6_expression_45 rfl ?_
    exact ret 0 (v3, f4) _ _ _ _ _ _ rfl ⟨(gsX_X6_expression_22_q5 hG2), hM_v3, hA_f4, hIv3, hk0_v3, hk1_v3, hk9_v3, hk10_v3, hk31_v3, hk32_v3, (Or.inr rfl)⟩ hP hD hS dX6_expression_46 (Nat.le_refl _) (Nat.le_refl _)
set_option maxHeartbeats 4000000 in
set_option maxRecDepth 100000 in
theorem sX_X6_negation_5 (NF : Nat) (l : Launch) (dC : Nat → ClassId) (dI : Nat → Nat → Nat) (cy : Nat → ClassId) (x0 : Nat) (x : Nat → Nat)  (v : Nat → Int32) (f : Nat → Nat → Int32) (hIv : XI v)  : ctIS l (dC, dI) cy yX6_negation cX6_negation 2 .boolean 33 833 0 0 ((Nat → Int32) × (Nat → Nat → Int32)) [.ref (x 2), .int 3] (XW cy x0 x v f) (fun r u => gsX_X6_negation_5 NF v f = (r, u) ∧ KV [2, 3, 4, 5, 7, 8, 16, 17] u.1 v ∧ KF [3, 4] u.2 f ∧ XI u.1 ∧ u.1 0 = v 0 ∧ u.1 1 = v 1 ∧ u.1 9 = v 9 ∧ u.1 10 = v 10 ∧ u.1 31 = v 31 ∧ u.1 32 = v 32 ∧ ((r = 1) ∨ (r = 0))) (fun u => XW cy x0 x u.1 u.2) := by
  refine ctIS_of (by decide) (Nat.le_of_ble_eq_true rfl) (fun p e s m below meth c A ls Q hx hb hml hts hown hE hF hT hP hD hA hl ret => ?_)
  have hM_v : KV [2, 3, 4, 5, 7, 8, 16, 17] v v := fun _ _ => rfl
  have hA_f : KF [3, 4] f f := fun _ _ => rfl
  have hown : s.vm.findClass RX6 = some m.cls := hown
  have hS : va_S A s.heap s.heap [] := va_S.rf
  have hl : lv_has ls 2 [(0, .ref (x 2)), (1, .int 3)] := hl
  refine lv_iload_n hx hb dX6_negation_0 rfl (lv_at hl 1 rfl) ?_
  refine lv_bipush (v := 7) hx hb dX6_negation_1 rfl ?_
  refine lv_icmp_lt (tgt := 11) hx hb dX6_negation_3 rfl (fun _ => ?_) (fun c0 => absurd (by decide) c0)
  refine lv_aload_n hx hb dX6_negation_11 rfl (lv_at hl 0 rfl) ?_
  refine va_get (D := (dC, dI)) (ci := 6) (v := .ref (x 0)) (C := RX6) (T := TX6) (N := 7) hx hb hts inB_6 hown hE.1 hP 3 rfl rfl 0 (Nat.le_of_ble_eq_true rfl) (hts _ k_265) (fun _ h9 => h9) rfl dX6_negation_12 ?_
  refine csVv (n := 0) (rest := []) hx hb hml hown hts hE hP hD hS hA hF hT (sX_X9_advance_1 NF l dC dI cy x0 x  v f hIv ) k_699 k_559 k_560 k_102 k_561 hd_yX9_advance ⟨Nat.le_of_ble_eq_true rfl, Nat.le_of_ble_eq_true rfl⟩ 1 9 rfl rfl (rfl) hl.1 rfl (Nat.le_of_ble_eq_true rfl) dX6_negation_15 (fun u H locs hw hP hD hS => ?_)
  obtain ⟨hG1, hw⟩ := hw
  obtain ⟨v2, f3⟩ := u
  obtain ⟨kV_v2, kF_f3, hIv2, hk0_v2, hk1_v2, hk7_v2, hk8_v2, hk9_v2, hk10_v2, hk31_v2, hk32_v2⟩ := hw
  have hM_v2 : KV [2, 3, 4, 5, 7, 8, 16, 17] v2 v := KV.tr kV_v2 hM_v rfl
  have hA_f3 : KF [3, 4] f3 f := KF.tr kF_f3 hA_f rfl
  have hP : va_P (dC, dI) vwCl (XW cy x0 x v2 f3) H := hP
  have hD : va_D A (XW cy x0 x v2 f3) := hD
  have hq0_v2 : v2 0 = (v 0) := hk0_v2
  have hq1_v2 : v2 1 = (v 1) := hk1_v2
  have hq7_v2 : v2 7 = (v 7) := hk7_v2
  have hq8_v2 : v2 8 = (v 8) := hk8_v2
  have hq9_v2 : v2 9 = (v 9) := hk9_v2
  have hq10_v2 : v2 10 = (v 10) := hk10_v2
  have hq31_v2 : v2 31 = (v 31) := hk31_v2
  have hq32_v2 : v2 32 = (v 32) := hk32_v2
  refine lv_aload_n hx hb dX6_negation_18 rfl (lv_at hl 0 rfl) ?_
  refine lv_iconst (v := 2) hx hb dX6_negation_19 rfl ?_
  refine lv_iload_n hx hb dX6_negation_20 rfl (lv_at hl 1 rfl) ?_
  refine lv_iconst (v := 1) hx hb dX6_negation_21 rfl ?_
  refine lv_iadd hx hb dX6_negation_22 ?_
  refine tI (y := 4) (by decide) ?_
  refine csVi (n := 2) (rest := []) hx hb hml hown hts hE hP hD hS hA hF hT (sX_X6_expression_27 NF l dC dI cy x0 x  v2 f3 hIv2 ) k_740 k_742 k_15 k_103 k_743 hd_yX6_expression ⟨Nat.le_of_ble_eq_true rfl, Nat.le_of_ble_eq_true rfl⟩ 3 6 rfl rfl (rfl) hl.1 rfl (Nat.le_of_ble_eq_true rfl) dX6_negation_23 (fun r4 u H locs hw hP hD hS => ?_)
  obtain ⟨hG5, hw⟩ := hw
  obtain ⟨v6, f7⟩ := u
  obtain ⟨kV_v6, kF_f7, hIv6, hk0_v6, hk1_v6, hk9_v6, hk10_v6, hk31_v6, hk32_v6, hw⟩ := hw
  have hM_v6 : KV [2, 3, 4, 5, 7, 8, 16, 17] v6 v := KV.tr kV_v6 hM_v2 rfl
  have hA_f7 : KF [3, 4] f7 f := KF.tr kF_f7 hA_f3 rfl
  have hP : va_P (dC, dI) vwCl (XW cy x0 x v6 f7) H := hP
  have hD : va_D A (XW cy x0 x v6 f7) := hD
  have hq0_v6 : v6 0 = (v 0) := hk0_v6.trans hq0_v2
  have hq1_v6 : v6 1 = (v 1) := hk1_v6.trans hq1_v2
  have hq9_v6 : v6 9 = (v 9) := hk9_v6.trans hq9_v2
  have hq10_v6 : v6 10 = (v 10) := hk10_v6.trans hq10_v2
  have hq31_v6 : v6 31 = (v 31) := hk31_v6.trans hq31_v2
  have hq32_v6 : v6 32 = (v 32) := hk32_v6.trans hq32_v2
  rcases hw with ⟨g8⟩ | ⟨g8⟩
  · skip
    subst g8
    refine lv_if_ne (tgt := 31) hx hb dX6_negation_26 rfl (fun _ => ?_) (fun c0 => absurd c0 (by decide))
    refine lv_aload_n hx hb dX6_negation_31 rfl (lv_at hl 0 rfl) ?_
    refine va_get (D := (dC, dI)) (ci := 6) (v := .ref (x 3)) (C := RX6) (T := TX6) (N := 7) hx hb hts inB_6 hown hE.1 hP 3 rfl rfl 1 (Nat.le_of_ble_eq_true rfl) (hts _ k_266) (fun _ h9 => h9) rfl dX6_negation_32 ?_
    refine va_getN (D := (dC, dI)) (ci := 7) (v := .ref (x 6)) (C := RX7) (T := TX7) (N := 10) hx hb hts inB_7 hown hE.1 hP 4 rfl rfl 2 (Nat.le_of_ble_eq_true rfl) (va_Nw.use rfl (hE.2 _ k_210)) (fun _ h9 => h9) rfl dX6_negation_35 ?_
    refine lv_bipush (v := 115) hx hb dX6_negation_38 rfl ?_
    refine lv_iconst (v := 0) hx hb dX6_negation_40 rfl ?_
    refine cbVv (n := 2) (rest := []) hx hb hml hown hts hE hP hD hS hA (sX_X4_add_1 NF l dC dI cy x0 x 115 0 v6 f7 hIv6 ) k_748 k_749 k_750 k_105 k_751 hd_yX4_add ⟨Nat.le_of_ble_eq_true rfl, Nat.le_of_ble_eq_true rfl⟩ 7 4 rfl rfl (rfl) hl.1 rfl (Nat.le_of_ble_eq_true rfl) dX6_negation_41 (fun u H locs hw hP hD hS => ?_)
    obtain ⟨hG9, hw⟩ := hw
    obtain ⟨v10, f11⟩ := u
    obtain ⟨kV_v10, kF_f11, hIv10, hk0_v10, hk1_v10, hk7_v10, hk8_v10, hk9_v10, hk10_v10, hk31_v10, hk32_v10⟩ := hw
    have hM_v10 : KV [2, 3, 4, 5, 7, 8, 16, 17] v10 v := KV.tr kV_v10 hM_v6 rfl
    have hA_f11 : KF [3, 4] f11 f := KF.tr kF_f11 hA_f7 rfl
    have hP : va_P (dC, dI) vwCl (XW cy x0 x v10 f11) H := hP
    have hD : va_D A (XW cy x0 x v10 f11) := hD
    have hq0_v10 : v10 0 = (v 0) := hk0_v10.trans hq0_v6
    have hq1_v10 : v10 1 = (v 1) := hk1_v10.trans hq1_v6
    have hq7_v10 : v10 7 = (v6 7) := hk7_v10
    have hq8_v10 : v10 8 = (v6 8) := hk8_v10
    have hq9_v10 : v10 9 = (v 9) := hk9_v10.trans hq9_v6
    have hq10_v10 : v10 10 = (v 10) := hk10_v10.trans hq10_v6
    have hq31_v10 : v10 31 = (v 31) := hk31_v10.trans hq31_v6
    have hq32_v10 : v10 32 = (v 32) := hk32_v10.trans hq32_v6
    refine lv_iconst (v := 1) hx hb dX6_negation_44 rfl ?_
    exact ret 1 (v10, f11) _ _ _ _ _ _ rfl ⟨(gsX_X6_negation_5_q0 hG1 hG5 hG9), hM_v10, hA_f11, hIv10, (hk0_v10.trans (hk0_v6.trans hk0_v2)), (hk1_v10.trans (hk1_v6.trans hk1_v2)), (hk9_v10.trans (hk9_v6.trans hk9_v2)), (hk10_v10.trans (hk10_v6.trans hk10_v2)), (hk31_v10.trans (hk31_v6.trans hk31_v2)), (hk32_v10.trans (hk32_v6.trans hk32_v2)), (Or.inl rfl)⟩ hP hD hS dX6_negation_45 (Nat.le_refl _) (Nat.le_refl _)
  · skip
    subst g8
    refine lv_if_ne (tgt := 31) hx hb dX6_negation_26 rfl (fun c0 => absurd (by decide) c0) (fun _ => ?_)
    refine lv_iconst (v := 0) hx hb dX6_negation_29 rfl ?_
    exact ret 0 (v6, f7) _ _ _ _ _ _ rfl ⟨(gsX_X6_negation_5_q1 hG1 hG5), hM_v6, hA_f7, hIv6, (hk0_v6.trans hk0_v2), (hk1_v6.trans hk1_v2), (hk9_v6.trans hk9_v2), (hk10_v6.trans hk10_v2), (hk31_v6.trans hk31_v2), (hk32_v6.trans hk32_v2), (Or.inr rfl)⟩ hP hD hS dX6_negation_30 (Nat.le_refl _) (Nat.le_refl _)
set_option maxHeartbeats 4000000 in
set_option maxRecDepth 100000 in
theorem sX_X6_expression_21 (NF : Nat) (l : Launch) (dC : Nat → ClassId) (dI : Nat → Nat → Nat) (cy : Nat → ClassId) (x0 : Nat) (x : Nat → Nat)  (v : Nat → Int32) (f : Nat → Nat → Int32) (hIv : XI v)  : ctIS l (dC, dI) cy yX6_expression cX6_expression 6 .boolean 39 981 0 0 ((Nat → Int32) × (Nat → Nat → Int32)) [.ref (x 2), .int 2, .int 3] (XW cy x0 x v f) (fun r u => gsX_X6_expression_21 NF v f = (r, u) ∧ KV [2, 3, 4, 5, 7, 8, 16, 17] u.1 v ∧ KF [3, 4] u.2 f ∧ XI u.1 ∧ u.1 0 = v 0 ∧ u.1 1 = v 1 ∧ u.1 9 = v 9 ∧ u.1 10 = v 10 ∧ u.1 31 = v 31 ∧ u.1 32 = v 32 ∧ ((r = 1) ∨ (r = 0))) (fun u => XW cy x0 x u.1 u.2) := by
  refine ctIS_of (by decide) (Nat.le_of_ble_eq_true rfl) (fun p e s m below meth c A ls Q hx hb hml hts hown hE hF hT hP hD hA hl ret => ?_)
  have hM_v : KV [2, 3, 4, 5, 7, 8, 16, 17] v v := fun _ _ => rfl
  have hA_f : KF [3, 4] f f := fun _ _ => rfl
  have hown : s.vm.findClass RX6 = some m.cls := hown
  have hS : va_S A s.heap s.heap [] := va_S.rf
  have hl : lv_has ls 6 [(0, .ref (x 2)), (1, .int 2), (2, .int 3)] := hl
  refine lv_iload_n hx hb dX6_expression_0 rfl (lv_at hl 1 rfl) ?_
  refine lv_iconst (v := 5) hx hb dX6_expression_1 rfl ?_
  refine lv_icmp_lt (tgt := 11) hx hb dX6_expression_2 rfl (fun _ => ?_) (fun c0 => absurd (by decide) c0)
  refine lv_iload_n hx hb dX6_expression_11 rfl (lv_at hl 1 rfl) ?_
  refine lv_iconst (v := 2) hx hb dX6_expression_12 rfl ?_
  refine lv_icmp_ne (tgt := 34) hx hb dX6_expression_13 rfl (fun c0 => absurd (by decide) c0) (fun _ => ?_)
  refine lv_aload_n hx hb dX6_expression_16 rfl (lv_at hl 0 rfl) ?_
  refine va_get (D := (dC, dI)) (ci := 6) (v := .ref (x 0)) (C := RX6) (T := TX6) (N := 7) hx hb hts inB_6 hown hE.1 hP 3 rfl rfl 0 (Nat.le_of_ble_eq_true rfl) (hts _ k_265) (fun _ h9 => h9) rfl dX6_expression_17 ?_
  refine va_getN (D := (dC, dI)) (ci := 9) (v := .int (v 2)) (C := RX9) (T := TX9) (N := 6) hx hb hts inB_9 hown hE.1 hP 1 rfl rfl 2 (Nat.le_of_ble_eq_true rfl) (va_Nw.use rfl (hE.2 _ k_139)) (fun _ h9 => h9) rfl dX6_expression_20 ?_
  refine lv_bipush (v := 115) hx hb dX6_expression_23 rfl ?_
  refine lv_icmp_ne (tgt := 34) hx hb dX6_expression_25 rfl (fun c1 => ?_) (fun c1 => ?_)
  · skip
    refine lv_aload_n hx hb dX6_expression_34 rfl (lv_at hl 0 rfl) ?_
    refine lv_iload_n hx hb dX6_expression_35 rfl (lv_at hl 1 rfl) ?_
    refine lv_iconst (v := 1) hx hb dX6_expression_36 rfl ?_
    refine lv_iadd hx hb dX6_expression_37 ?_
    refine tI (y := 3) (by decide) ?_
    refine lv_iload_n hx hb dX6_expression_38 rfl (lv_at hl 2 rfl) ?_
    refine csVi (n := 2) (rest := []) hx hb hml hown hts hE hP hD hS hA hF hT (sX_X6_expression_22 NF l dC dI cy x0 x  v f hIv ) k_740 k_742 k_15 k_103 k_743 hd_yX6_expression ⟨Nat.le_of_ble_eq_true rfl, Nat.le_of_ble_eq_true rfl⟩ 3 6 rfl rfl (rfl) hl.1 rfl (Nat.le_of_ble_eq_true rfl) dX6_expression_39 (fun r2 u H locs hw hP hD hS => ?_)
    obtain ⟨hG3, hw⟩ := hw
    obtain ⟨v4, f5⟩ := u
    obtain ⟨kV_v4, kF_f5, hIv4, hk0_v4, hk1_v4, hk9_v4, hk10_v4, hk31_v4, hk32_v4, hw⟩ := hw
    have hM_v4 : KV [2, 3, 4, 5, 7, 8, 16, 17] v4 v := KV.tr kV_v4 hM_v rfl
    have hA_f5 : KF [3, 4] f5 f := KF.tr kF_f5 hA_f rfl
    have hP : va_P (dC, dI) vwCl (XW cy x0 x v4 f5) H := hP
    have hD : va_D A (XW cy x0 x v4 f5) := hD
    have hq0_v4 : v4 0 = (v 0) := hk0_v4
    have hq1_v4 : v4 1 = (v 1) := hk1_v4
    have hq9_v4 : v4 9 = (v 9) := hk9_v4
    have hq10_v4 : v4 10 = (v 10) := hk10_v4
    have hq31_v4 : v4 31 = (v 31) := hk31_v4
    have hq32_v4 : v4 32 = (v 32) := hk32_v4
    rcases hw with ⟨g6⟩ | ⟨g6⟩
    · skip
      subst g6
      refine lv_if_ne (tgt := 47) hx hb dX6_expression_42 rfl (fun _ => ?_) (fun c0 => absurd c0 (by decide))
      refine lv_iload_n hx hb dX6_expression_47 rfl (lv_at hl 1 rfl) ?_
      refine lv_iconst (v := 2) hx hb dX6_expression_48 rfl ?_
      refine lv_icmp_ne (tgt := 56) hx hb dX6_expression_49 rfl (fun c0 => absurd (by decide) c0) (fun _ => ?_)
      refine lv_iconst (v := 1) hx hb dX6_expression_52 rfl ?_
      refine lv_goto (tgt := 59) hx hb dX6_expression_53 rfl ?_
      refine lv_istore_n (lv' := [(3, .int 1), (0, .ref (x 2)), (1, .int 2), (2, .int 3)]) hx hb dX6_expression_59 rfl hl (Nat.le_of_ble_eq_true rfl) rfl (fun ls hl => ?_)
      refine lv_iconst (v := 0) hx hb dX6_expression_60 rfl ?_
      refine lv_istore (lv' := [(4, .int 0), (3, .int 1), (0, .ref (x 2)), (1, .int 2), (2, .int 3)]) hx hb dX6_expression_61 hl (Nat.le_of_ble_eq_true rfl) rfl (fun ls hl => ?_)
      have lp7 : ∀ (n7 : Nat) (l4_7 : Int32) (v7 : Nat → Int32) (f7 : Nat → Nat → Int32), XI v7 → v7 0 = (v 0) → v7 1 = (v 1) → v7 9 = (v 9) → v7 10 = (v 10) → v7 31 = (v 31) → v7 32 = (v 32) → gsX_X6_expression_21_L7 NF n7 l4_7 v7 f7 = (gsX_X6_expression_21 NF v f) → ((0 : Int) ≤ l4_7.toInt ∧ l4_7.toInt ≤ 2147483647) → KV [2, 3, 4, 5, 7, 8, 16, 17] v7 v → KF [3, 4] f7 f → (2147483647 - l4_7.toInt).toNat < n7 → ∀ (H : Heap) (locs : List Loc) (ls : Array Slot), va_P (dC, dI) vwCl (XW cy x0 x v7 f7) H → va_D A (XW cy x0 x v7 f7) → va_S A s.heap H locs → lv_has ls 6 [(4, .int l4_7), (3, .int 1), (0, .ref (x 2)), (1, .int 2), (2, .int 3)] → W p l e { frames := 39, cells := 0, slots := 0, locals := 981 } s m ([.ref (x 2), .int 2, .int 3] : List Value).toArray below meth c H locs 0 0 Q (F0 m 63 ls []) := by
        intro n7
        induction n7 with
        | zero => intro l4_7 v7 f7 hIv7 hq0_v7 hq1_v7 hq9_v7 hq10_v7 hq31_v7 hq32_v7 hT7 hr4_7 hM_v7 hA_f7 hm; exact absurd hm (Nat.not_lt_zero _)
        | succ n7 ih7 =>
          intro l4_7 v7 f7 hIv7 hq0_v7 hq1_v7 hq9_v7 hq10_v7 hq31_v7 hq32_v7 hT7 hr4_7 hM_v7 hA_f7 hm7 H locs ls hP hD hS hl
          refine lv_iload hx hb dX6_expression_63 (lv_at hl 0 rfl) ?_
          refine lv_iload_n hx hb dX6_expression_65 rfl (lv_at hl 1 rfl) ?_
          refine lv_icmp_ge (tgt := 131) hx hb dX6_expression_66 rfl (fun c8 => ?_) (fun c8 => ?_)
          · skip
            refine lv_iconst (v := 1) hx hb dX6_expression_131 rfl ?_
            exact ret 1 (v7, f7) _ _ _ _ _ _ rfl ⟨(hT7.symm.trans (gsX_X6_expression_21_q0 c8)), hM_v7, hA_f7, hIv7, hq0_v7, hq1_v7, hq9_v7, hq10_v7, hq31_v7, hq32_v7, (Or.inl rfl)⟩ hP hD hS dX6_expression_132 (Nat.le_refl _) (Nat.le_refl _)
          · skip
            have zc8 : ¬ (1 ≤ l4_7.toInt) := zMn tc_1 rfl c8
            refine lv_iload_n hx hb dX6_expression_69 rfl (lv_at hl 3 rfl) ?_
            refine lv_aload_n hx hb dX6_expression_70 rfl (lv_at hl 2 rfl) ?_
            refine va_get (D := (dC, dI)) (ci := 6) (v := .ref (x 0)) (C := RX6) (T := TX6) (N := 7) hx hb hts inB_6 hown hE.1 hP 3 rfl rfl 0 (Nat.le_of_ble_eq_true rfl) (hts _ k_265) (fun _ h9 => h9) rfl dX6_expression_71 ?_
            refine va_getN (D := (dC, dI)) (ci := 9) (v := .int (v7 2)) (C := RX9) (T := TX9) (N := 6) hx hb hts inB_9 hown hE.1 hP 1 rfl rfl 2 (Nat.le_of_ble_eq_true rfl) (va_Nw.use rfl (hE.2 _ k_139)) (fun _ h9 => h9) rfl dX6_expression_74 ?_
            refine cbSi (n := 2) (rest := []) hx hb hml hown hts hE hP hD hS hA (sX_X6_joins_1 NF l dC dI cy x0 x 2 (v7 2) v7 f7 hIv7 ) k_756 k_757 k_103 k_758 he_yX6_joins ⟨Nat.le_of_ble_eq_true rfl, Nat.le_of_ble_eq_true rfl⟩ (rfl) hl.1 rfl (Nat.le_of_ble_eq_true rfl) dX6_expression_77 (fun r9 u H locs hw hP hD hS => ?_)
            obtain ⟨hG10, hw⟩ := hw
            rcases hw with ⟨g11⟩ | ⟨g11⟩
            · skip
              subst g11
              refine lv_if_eq (tgt := 131) hx hb dX6_expression_80 rfl (fun c0 => absurd c0 (by decide)) (fun _ => ?_)
              refine lv_aload_n hx hb dX6_expression_83 rfl (lv_at hl 2 rfl) ?_
              refine va_get (D := (dC, dI)) (ci := 6) (v := .ref (x 0)) (C := RX6) (T := TX6) (N := 7) hx hb hts inB_6 hown hE.1 hP 3 rfl rfl 0 (Nat.le_of_ble_eq_true rfl) (hts _ k_265) (fun _ h9 => h9) rfl dX6_expression_84 ?_
              refine va_getN (D := (dC, dI)) (ci := 9) (v := .int (v7 2)) (C := RX9) (T := TX9) (N := 6) hx hb hts inB_9 hown hE.1 hP 1 rfl rfl 2 (Nat.le_of_ble_eq_true rfl) (va_Nw.use rfl (hE.2 _ k_139)) (fun _ h9 => h9) rfl dX6_expression_87 ?_
              refine lv_istore (lv' := [(5, .int (v7 2)), (4, .int l4_7), (3, .int 1), (0, .ref (x 2)), (1, .int 2), (2, .int 3)]) hx hb dX6_expression_90 hl (Nat.le_of_ble_eq_true rfl) rfl (fun ls hl => ?_)
              refine lv_aload_n hx hb dX6_expression_92 rfl (lv_at hl 3 rfl) ?_
              refine va_get (D := (dC, dI)) (ci := 6) (v := .ref (x 0)) (C := RX6) (T := TX6) (N := 7) hx hb hts inB_6 hown hE.1 hP 3 rfl rfl 0 (Nat.le_of_ble_eq_true rfl) (hts _ k_265) (fun _ h9 => h9) rfl dX6_expression_93 ?_
              refine csVv (n := 0) (rest := []) hx hb hml hown hts hE hP hD hS hA hF hT (sX_X9_advance_1 NF l dC dI cy x0 x  v7 f7 hIv7 ) k_699 k_559 k_560 k_102 k_561 hd_yX9_advance ⟨Nat.le_of_ble_eq_true rfl, Nat.le_of_ble_eq_true rfl⟩ 1 9 rfl rfl (rfl) hl.1 rfl (Nat.le_of_ble_eq_true rfl) dX6_expression_96 (fun u H locs hw hP hD hS => ?_)
              obtain ⟨hG12, hw⟩ := hw
              obtain ⟨v13, f14⟩ := u
              obtain ⟨kV_v13, kF_f14, hIv13, hk0_v13, hk1_v13, hk7_v13, hk8_v13, hk9_v13, hk10_v13, hk31_v13, hk32_v13⟩ := hw
              have hM_v13 : KV [2, 3, 4, 5, 7, 8, 16, 17] v13 v := KV.tr kV_v13 hM_v7 rfl
              have hA_f14 : KF [3, 4] f14 f := KF.tr kF_f14 hA_f7 rfl
              have hP : va_P (dC, dI) vwCl (XW cy x0 x v13 f14) H := hP
              have hD : va_D A (XW cy x0 x v13 f14) := hD
              have hq0_v13 : v13 0 = (v 0) := hk0_v13.trans hq0_v7
              have hq1_v13 : v13 1 = (v 1) := hk1_v13.trans hq1_v7
              have hq9_v13 : v13 9 = (v 9) := hk9_v13.trans hq9_v7
              have hq10_v13 : v13 10 = (v 10) := hk10_v13.trans hq10_v7
              have hq31_v13 : v13 31 = (v 31) := hk31_v13.trans hq31_v7
              have hq32_v13 : v13 32 = (v 32) := hk32_v13.trans hq32_v7
              refine lv_aload_n hx hb dX6_expression_99 rfl (lv_at hl 3 rfl) ?_
              refine lv_iload_n hx hb dX6_expression_100 rfl (lv_at hl 4 rfl) ?_
              refine lv_iconst (v := 1) hx hb dX6_expression_101 rfl ?_
              refine lv_iadd hx hb dX6_expression_102 ?_
              refine tI (y := 3) (by decide) ?_
              refine lv_iload_n hx hb dX6_expression_103 rfl (lv_at hl 5 rfl) ?_
              refine csVi (n := 2) (rest := []) hx hb hml hown hts hE hP hD hS hA hF hT (sX_X6_expression_22 NF l dC dI cy x0 x  v13 f14 hIv13 ) k_740 k_742 k_15 k_103 k_743 hd_yX6_expression ⟨Nat.le_of_ble_eq_true rfl, Nat.le_of_ble_eq_true rfl⟩ 3 6 rfl rfl (rfl) hl.1 rfl (Nat.le_of_ble_eq_true rfl) dX6_expression_104 (fun r15 u H locs hw hP hD hS => ?_)
              obtain ⟨hG16, hw⟩ := hw
              obtain ⟨v17, f18⟩ := u
              obtain ⟨kV_v17, kF_f18, hIv17, hk0_v17, hk1_v17, hk9_v17, hk10_v17, hk31_v17, hk32_v17, hw⟩ := hw
              have hM_v17 : KV [2, 3, 4, 5, 7, 8, 16, 17] v17 v := KV.tr kV_v17 hM_v13 rfl
              have hA_f18 : KF [3, 4] f18 f := KF.tr kF_f18 hA_f14 rfl
              have hP : va_P (dC, dI) vwCl (XW cy x0 x v17 f18) H := hP
              have hD : va_D A (XW cy x0 x v17 f18) := hD
              have hq0_v17 : v17 0 = (v 0) := hk0_v17.trans hq0_v13
              have hq1_v17 : v17 1 = (v 1) := hk1_v17.trans hq1_v13
              have hq9_v17 : v17 9 = (v 9) := hk9_v17.trans hq9_v13
              have hq10_v17 : v17 10 = (v 10) := hk10_v17.trans hq10_v13
              have hq31_v17 : v17 31 = (v 31) := hk31_v17.trans hq31_v13
              have hq32_v17 : v17 32 = (v 32) := hk32_v17.trans hq32_v13
              rcases hw with ⟨g19⟩ | ⟨g19⟩
              · skip
                subst g19
                refine lv_if_ne (tgt := 112) hx hb dX6_expression_107 rfl (fun _ => ?_) (fun c0 => absurd c0 (by decide))
                refine lv_aload_n hx hb dX6_expression_112 rfl (lv_at hl 3 rfl) ?_
                refine va_get (D := (dC, dI)) (ci := 6) (v := .ref (x 3)) (C := RX6) (T := TX6) (N := 7) hx hb hts inB_6 hown hE.1 hP 3 rfl rfl 1 (Nat.le_of_ble_eq_true rfl) (hts _ k_266) (fun _ h9 => h9) rfl dX6_expression_113 ?_
                refine va_getN (D := (dC, dI)) (ci := 7) (v := .ref (x 6)) (C := RX7) (T := TX7) (N := 10) hx hb hts inB_7 hown hE.1 hP 4 rfl rfl 2 (Nat.le_of_ble_eq_true rfl) (va_Nw.use rfl (hE.2 _ k_210)) (fun _ h9 => h9) rfl dX6_expression_116 ?_
                refine lv_iload hx hb dX6_expression_119 (lv_at hl 0 rfl) ?_
                refine lv_iconst (v := 0) hx hb dX6_expression_121 rfl ?_
                refine cbVv (n := 2) (rest := []) hx hb hml hown hts hE hP hD hS hA (sX_X4_add_1 NF l dC dI cy x0 x (v7 2) 0 v17 f18 hIv17 ) k_748 k_749 k_750 k_105 k_751 hd_yX4_add ⟨Nat.le_of_ble_eq_true rfl, Nat.le_of_ble_eq_true rfl⟩ 7 4 rfl rfl (rfl) hl.1 rfl (Nat.le_of_ble_eq_true rfl) dX6_expression_122 (fun u H locs hw hP hD hS => ?_)
                obtain ⟨hG20, hw⟩ := hw
                obtain ⟨v21, f22⟩ := u
                obtain ⟨kV_v21, kF_f22, hIv21, hk0_v21, hk1_v21, hk7_v21, hk8_v21, hk9_v21, hk10_v21, hk31_v21, hk32_v21⟩ := hw
                have hM_v21 : KV [2, 3, 4, 5, 7, 8, 16, 17] v21 v := KV.tr kV_v21 hM_v17 rfl
                have hA_f22 : KF [3, 4] f22 f := KF.tr kF_f22 hA_f18 rfl
                have hP : va_P (dC, dI) vwCl (XW cy x0 x v21 f22) H := hP
                have hD : va_D A (XW cy x0 x v21 f22) := hD
                have hq0_v21 : v21 0 = (v 0) := hk0_v21.trans hq0_v17
                have hq1_v21 : v21 1 = (v 1) := hk1_v21.trans hq1_v17
                have hq9_v21 : v21 9 = (v 9) := hk9_v21.trans hq9_v17
                have hq10_v21 : v21 10 = (v 10) := hk10_v21.trans hq10_v17
                have hq31_v21 : v21 31 = (v 31) := hk31_v21.trans hq31_v17
                have hq32_v21 : v21 32 = (v 32) := hk32_v21.trans hq32_v17
                obtain ⟨t23, et23⟩ : ∃ y : Int32, y = l4_7 + 1 := ⟨_, rfl⟩
                have zt23 : t23.toInt = l4_7.toInt + 1 := (congrArg Int32.toInt et23).trans (add_i rfl tc_1 (om_41 hr4_7) (om_94 zc8))
                refine lv_iinc (v := t23) (lv' := [(4, .int t23), (5, .int (v7 2)), (3, .int 1), (0, .ref (x 2)), (1, .int 2), (2, .int 3)]) hx hb dX6_expression_125 hl (k := 1) rfl et23.symm (Nat.le_of_ble_eq_true rfl) rfl (fun ls hl => ?_)
                refine lv_goto (tgt := 63) hx hb dX6_expression_128 rfl ?_
                have rg25 := fb_rng t23
                exact ih7 t23 v21 f22 hIv21 hq0_v21 hq1_v21 hq9_v21 hq10_v21 hq31_v21 hq32_v21 ((gsX_X6_expression_21_q1 c8 hG10 hG12 hG16 hG20 et23).symm.trans hT7) ⟨show (0 : Int) ≤ t23.toInt from om_43 hr4_7 zt23, show t23.toInt ≤ (2147483647 : Int) from om_44 rg25⟩ hM_v21 hA_f22 (show (2147483647 - t23.toInt).toNat < n7 from om_33 hm7 zt23 rg25) _ _ _ hP hD hS (lv_sub hl [0, 2, 3, 4, 5] rfl)
              · skip
                subst g19
                refine lv_if_ne (tgt := 112) hx hb dX6_expression_107 rfl (fun c0 => absurd (by decide) c0) (fun _ => ?_)
                refine lv_iconst (v := 0) hx hb dX6_expression_110 rfl ?_
                exact ret 0 (v17, f18) _ _ _ _ _ _ rfl ⟨(hT7.symm.trans (gsX_X6_expression_21_q2 c8 hG10 hG12 hG16)), hM_v17, hA_f18, hIv17, (hk0_v17.trans (hk0_v13.trans hq0_v7)), (hk1_v17.trans (hk1_v13.trans hq1_v7)), (hk9_v17.trans (hk9_v13.trans hq9_v7)), (hk10_v17.trans (hk10_v13.trans hq10_v7)), (hk31_v17.trans (hk31_v13.trans hq31_v7)), (hk32_v17.trans (hk32_v13.trans hq32_v7)), (Or.inr rfl)⟩ hP hD hS dX6_expression_111 (Nat.le_refl _) (Nat.le_refl _)
            · skip
              subst g11
              refine lv_if_eq (tgt := 131) hx hb dX6_expression_80 rfl (fun _ => ?_) (fun c0 => absurd (by decide) c0)
              refine lv_iconst (v := 1) hx hb dX6_expression_131 rfl ?_
              exact ret 1 (v7, f7) _ _ _ _ _ _ rfl ⟨(hT7.symm.trans (gsX_X6_expression_21_q3 c8 hG10)), hM_v7, hA_f7, hIv7, hq0_v7, hq1_v7, hq9_v7, hq10_v7, hq31_v7, hq32_v7, (Or.inl rfl)⟩ hP hD hS dX6_expression_132 (Nat.le_refl _) (Nat.le_refl _)
      exact lp7 (4294967296 + NF) 0 v4 f5 hIv4 hq0_v4 hq1_v4 hq9_v4 hq10_v4 hq31_v4 hq32_v4 (gsX_X6_expression_21_q4 c1 hG3).symm ⟨by decide, by decide⟩ hM_v4 hA_f5 (show (2147483647 - (0 : Int32).toInt).toNat < 4294967296 + NF from om_38 tc_0) _ _ _ hP hD hS (lv_sub hl [0, 1, 2, 3, 4] rfl)
    · skip
      subst g6
      refine lv_if_ne (tgt := 47) hx hb dX6_expression_42 rfl (fun c0 => absurd (by decide) c0) (fun _ => ?_)
      refine lv_iconst (v := 0) hx hb dX6_expression_45 rfl ?_
      exact ret 0 (v4, f5) _ _ _ _ _ _ rfl ⟨(gsX_X6_expression_21_q5 c1 hG3), hM_v4, hA_f5, hIv4, hk0_v4, hk1_v4, hk9_v4, hk10_v4, hk31_v4, hk32_v4, (Or.inr rfl)⟩ hP hD hS dX6_expression_46 (Nat.le_refl _) (Nat.le_refl _)
  · skip
    refine lv_aload_n hx hb dX6_expression_28 rfl (lv_at hl 0 rfl) ?_
    refine lv_iload_n hx hb dX6_expression_29 rfl (lv_at hl 2 rfl) ?_
    refine csVi (n := 1) (rest := []) hx hb hml hown hts hE hP hD hS hA hF hT (sX_X6_negation_5 NF l dC dI cy x0 x  v f hIv ) k_752 k_754 k_17 k_103 k_755 hd_yX6_negation ⟨Nat.le_of_ble_eq_true rfl, Nat.le_of_ble_eq_true rfl⟩ 3 6 rfl rfl (rfl) hl.1 rfl (Nat.le_of_ble_eq_true rfl) dX6_expression_30 (fun r26 u H locs hw hP hD hS => ?_)
    obtain ⟨hG27, hw⟩ := hw
    obtain ⟨v28, f29⟩ := u
    obtain ⟨kV_v28, kF_f29, hIv28, hk0_v28, hk1_v28, hk9_v28, hk10_v28, hk31_v28, hk32_v28, hw⟩ := hw
    have hM_v28 : KV [2, 3, 4, 5, 7, 8, 16, 17] v28 v := KV.tr kV_v28 hM_v rfl
    have hA_f29 : KF [3, 4] f29 f := KF.tr kF_f29 hA_f rfl
    have hP : va_P (dC, dI) vwCl (XW cy x0 x v28 f29) H := hP
    have hD : va_D A (XW cy x0 x v28 f29) := hD
    rcases hw with ⟨g30⟩ | ⟨g30⟩
    · skip
      subst g30
      exact ret 1 (v28, f29) _ _ _ _ _ _ rfl ⟨(gsX_X6_expression_21_q6 c1 hG27), hM_v28, hA_f29, hIv28, hk0_v28, hk1_v28, hk9_v28, hk10_v28, hk31_v28, hk32_v28, (Or.inl rfl)⟩ hP hD hS dX6_expression_33 (Nat.le_refl _) (Nat.le_refl _)
    · skip
      subst g30
      exact ret 0 (v28, f29) _ _ _ _ _ _ rfl ⟨(gsX_X6_expression_21_q7 c1 hG27), hM_v28, hA_f29, hIv28, hk0_v28, hk1_v28, hk9_v28, hk10_v28, hk31_v28, hk32_v28, (Or.inr rfl)⟩ hP hD hS dX6_expression_33 (Nat.le_refl _) (Nat.le_refl _)
set_option maxHeartbeats 4000000 in
set_option maxRecDepth 100000 in
theorem sX_X6_expression_20 (NF : Nat) (l : Launch) (dC : Nat → ClassId) (dI : Nat → Nat → Nat) (cy : Nat → ClassId) (x0 : Nat) (x : Nat → Nat)  (v : Nat → Int32) (f : Nat → Nat → Int32) (hIv : XI v)  : ctIS l (dC, dI) cy yX6_expression cX6_expression 6 .boolean 40 1006 0 0 ((Nat → Int32) × (Nat → Nat → Int32)) [.ref (x 2), .int 1, .int 3] (XW cy x0 x v f) (fun r u => gsX_X6_expression_20 NF v f = (r, u) ∧ KV [2, 3, 4, 5, 7, 8, 16, 17] u.1 v ∧ KF [3, 4] u.2 f ∧ XI u.1 ∧ u.1 0 = v 0 ∧ u.1 1 = v 1 ∧ u.1 9 = v 9 ∧ u.1 10 = v 10 ∧ u.1 31 = v 31 ∧ u.1 32 = v 32 ∧ ((r = 1) ∨ (r = 0))) (fun u => XW cy x0 x u.1 u.2) := by
  refine ctIS_of (by decide) (Nat.le_of_ble_eq_true rfl) (fun p e s m below meth c A ls Q hx hb hml hts hown hE hF hT hP hD hA hl ret => ?_)
  have hM_v : KV [2, 3, 4, 5, 7, 8, 16, 17] v v := fun _ _ => rfl
  have hA_f : KF [3, 4] f f := fun _ _ => rfl
  have hown : s.vm.findClass RX6 = some m.cls := hown
  have hS : va_S A s.heap s.heap [] := va_S.rf
  have hl : lv_has ls 6 [(0, .ref (x 2)), (1, .int 1), (2, .int 3)] := hl
  refine lv_iload_n hx hb dX6_expression_0 rfl (lv_at hl 1 rfl) ?_
  refine lv_iconst (v := 5) hx hb dX6_expression_1 rfl ?_
  refine lv_icmp_lt (tgt := 11) hx hb dX6_expression_2 rfl (fun _ => ?_) (fun c0 => absurd (by decide) c0)
  refine lv_iload_n hx hb dX6_expression_11 rfl (lv_at hl 1 rfl) ?_
  refine lv_iconst (v := 2) hx hb dX6_expression_12 rfl ?_
  refine lv_icmp_ne (tgt := 34) hx hb dX6_expression_13 rfl (fun _ => ?_) (fun c0 => absurd c0 (by decide))
  refine lv_aload_n hx hb dX6_expression_34 rfl (lv_at hl 0 rfl) ?_
  refine lv_iload_n hx hb dX6_expression_35 rfl (lv_at hl 1 rfl) ?_
  refine lv_iconst (v := 1) hx hb dX6_expression_36 rfl ?_
  refine lv_iadd hx hb dX6_expression_37 ?_
  refine tI (y := 2) (by decide) ?_
  refine lv_iload_n hx hb dX6_expression_38 rfl (lv_at hl 2 rfl) ?_
  refine csVi (n := 2) (rest := []) hx hb hml hown hts hE hP hD hS hA hF hT (sX_X6_expression_21 NF l dC dI cy x0 x  v f hIv ) k_740 k_742 k_15 k_103 k_743 hd_yX6_expression ⟨Nat.le_of_ble_eq_true rfl, Nat.le_of_ble_eq_true rfl⟩ 3 6 rfl rfl (rfl) hl.1 rfl (Nat.le_of_ble_eq_true rfl) dX6_expression_39 (fun r1 u H locs hw hP hD hS => ?_)
  obtain ⟨hG2, hw⟩ := hw
  obtain ⟨v3, f4⟩ := u
  obtain ⟨kV_v3, kF_f4, hIv3, hk0_v3, hk1_v3, hk9_v3, hk10_v3, hk31_v3, hk32_v3, hw⟩ := hw
  have hM_v3 : KV [2, 3, 4, 5, 7, 8, 16, 17] v3 v := KV.tr kV_v3 hM_v rfl
  have hA_f4 : KF [3, 4] f4 f := KF.tr kF_f4 hA_f rfl
  have hP : va_P (dC, dI) vwCl (XW cy x0 x v3 f4) H := hP
  have hD : va_D A (XW cy x0 x v3 f4) := hD
  have hq0_v3 : v3 0 = (v 0) := hk0_v3
  have hq1_v3 : v3 1 = (v 1) := hk1_v3
  have hq9_v3 : v3 9 = (v 9) := hk9_v3
  have hq10_v3 : v3 10 = (v 10) := hk10_v3
  have hq31_v3 : v3 31 = (v 31) := hk31_v3
  have hq32_v3 : v3 32 = (v 32) := hk32_v3
  rcases hw with ⟨g5⟩ | ⟨g5⟩
  · skip
    subst g5
    refine lv_if_ne (tgt := 47) hx hb dX6_expression_42 rfl (fun _ => ?_) (fun c0 => absurd c0 (by decide))
    refine lv_iload_n hx hb dX6_expression_47 rfl (lv_at hl 1 rfl) ?_
    refine lv_iconst (v := 2) hx hb dX6_expression_48 rfl ?_
    refine lv_icmp_ne (tgt := 56) hx hb dX6_expression_49 rfl (fun _ => ?_) (fun c0 => absurd c0 (by decide))
    refine lv_sipush (v := 1600) hx hb dX6_expression_56 rfl ?_
    refine lv_istore_n (lv' := [(3, .int 1600), (0, .ref (x 2)), (1, .int 1), (2, .int 3)]) hx hb dX6_expression_59 rfl hl (Nat.le_of_ble_eq_true rfl) rfl (fun ls hl => ?_)
    refine lv_iconst (v := 0) hx hb dX6_expression_60 rfl ?_
    refine lv_istore (lv' := [(4, .int 0), (3, .int 1600), (0, .ref (x 2)), (1, .int 1), (2, .int 3)]) hx hb dX6_expression_61 hl (Nat.le_of_ble_eq_true rfl) rfl (fun ls hl => ?_)
    have lp6 : ∀ (n6 : Nat) (l4_6 : Int32) (v6 : Nat → Int32) (f6 : Nat → Nat → Int32), XI v6 → v6 0 = (v 0) → v6 1 = (v 1) → v6 9 = (v 9) → v6 10 = (v 10) → v6 31 = (v 31) → v6 32 = (v 32) → gsX_X6_expression_20_L6 NF n6 l4_6 v6 f6 = (gsX_X6_expression_20 NF v f) → ((0 : Int) ≤ l4_6.toInt ∧ l4_6.toInt ≤ 2147483647) → KV [2, 3, 4, 5, 7, 8, 16, 17] v6 v → KF [3, 4] f6 f → (2147483647 - l4_6.toInt).toNat < n6 → ∀ (H : Heap) (locs : List Loc) (ls : Array Slot), va_P (dC, dI) vwCl (XW cy x0 x v6 f6) H → va_D A (XW cy x0 x v6 f6) → va_S A s.heap H locs → lv_has ls 6 [(4, .int l4_6), (3, .int 1600), (0, .ref (x 2)), (1, .int 1), (2, .int 3)] → W p l e { frames := 40, cells := 0, slots := 0, locals := 1006 } s m ([.ref (x 2), .int 1, .int 3] : List Value).toArray below meth c H locs 0 0 Q (F0 m 63 ls []) := by
      intro n6
      induction n6 with
      | zero => intro l4_6 v6 f6 hIv6 hq0_v6 hq1_v6 hq9_v6 hq10_v6 hq31_v6 hq32_v6 hT6 hr4_6 hM_v6 hA_f6 hm; exact absurd hm (Nat.not_lt_zero _)
      | succ n6 ih6 =>
        intro l4_6 v6 f6 hIv6 hq0_v6 hq1_v6 hq9_v6 hq10_v6 hq31_v6 hq32_v6 hT6 hr4_6 hM_v6 hA_f6 hm6 H locs ls hP hD hS hl
        refine lv_iload hx hb dX6_expression_63 (lv_at hl 0 rfl) ?_
        refine lv_iload_n hx hb dX6_expression_65 rfl (lv_at hl 1 rfl) ?_
        refine lv_icmp_ge (tgt := 131) hx hb dX6_expression_66 rfl (fun c7 => ?_) (fun c7 => ?_)
        · skip
          refine lv_iconst (v := 1) hx hb dX6_expression_131 rfl ?_
          exact ret 1 (v6, f6) _ _ _ _ _ _ rfl ⟨(hT6.symm.trans (gsX_X6_expression_20_q0 c7)), hM_v6, hA_f6, hIv6, hq0_v6, hq1_v6, hq9_v6, hq10_v6, hq31_v6, hq32_v6, (Or.inl rfl)⟩ hP hD hS dX6_expression_132 (Nat.le_refl _) (Nat.le_refl _)
        · skip
          have zc7 : ¬ (1600 ≤ l4_6.toInt) := zMn tc_1600 rfl c7
          refine lv_iload_n hx hb dX6_expression_69 rfl (lv_at hl 3 rfl) ?_
          refine lv_aload_n hx hb dX6_expression_70 rfl (lv_at hl 2 rfl) ?_
          refine va_get (D := (dC, dI)) (ci := 6) (v := .ref (x 0)) (C := RX6) (T := TX6) (N := 7) hx hb hts inB_6 hown hE.1 hP 3 rfl rfl 0 (Nat.le_of_ble_eq_true rfl) (hts _ k_265) (fun _ h9 => h9) rfl dX6_expression_71 ?_
          refine va_getN (D := (dC, dI)) (ci := 9) (v := .int (v6 2)) (C := RX9) (T := TX9) (N := 6) hx hb hts inB_9 hown hE.1 hP 1 rfl rfl 2 (Nat.le_of_ble_eq_true rfl) (va_Nw.use rfl (hE.2 _ k_139)) (fun _ h9 => h9) rfl dX6_expression_74 ?_
          refine cbSi (n := 2) (rest := []) hx hb hml hown hts hE hP hD hS hA (sX_X6_joins_1 NF l dC dI cy x0 x 1 (v6 2) v6 f6 hIv6 ) k_756 k_757 k_103 k_758 he_yX6_joins ⟨Nat.le_of_ble_eq_true rfl, Nat.le_of_ble_eq_true rfl⟩ (rfl) hl.1 rfl (Nat.le_of_ble_eq_true rfl) dX6_expression_77 (fun r8 u H locs hw hP hD hS => ?_)
          obtain ⟨hG9, hw⟩ := hw
          rcases hw with ⟨g10⟩ | ⟨g10⟩
          · skip
            subst g10
            refine lv_if_eq (tgt := 131) hx hb dX6_expression_80 rfl (fun c0 => absurd c0 (by decide)) (fun _ => ?_)
            refine lv_aload_n hx hb dX6_expression_83 rfl (lv_at hl 2 rfl) ?_
            refine va_get (D := (dC, dI)) (ci := 6) (v := .ref (x 0)) (C := RX6) (T := TX6) (N := 7) hx hb hts inB_6 hown hE.1 hP 3 rfl rfl 0 (Nat.le_of_ble_eq_true rfl) (hts _ k_265) (fun _ h9 => h9) rfl dX6_expression_84 ?_
            refine va_getN (D := (dC, dI)) (ci := 9) (v := .int (v6 2)) (C := RX9) (T := TX9) (N := 6) hx hb hts inB_9 hown hE.1 hP 1 rfl rfl 2 (Nat.le_of_ble_eq_true rfl) (va_Nw.use rfl (hE.2 _ k_139)) (fun _ h9 => h9) rfl dX6_expression_87 ?_
            refine lv_istore (lv' := [(5, .int (v6 2)), (4, .int l4_6), (3, .int 1600), (0, .ref (x 2)), (1, .int 1), (2, .int 3)]) hx hb dX6_expression_90 hl (Nat.le_of_ble_eq_true rfl) rfl (fun ls hl => ?_)
            refine lv_aload_n hx hb dX6_expression_92 rfl (lv_at hl 3 rfl) ?_
            refine va_get (D := (dC, dI)) (ci := 6) (v := .ref (x 0)) (C := RX6) (T := TX6) (N := 7) hx hb hts inB_6 hown hE.1 hP 3 rfl rfl 0 (Nat.le_of_ble_eq_true rfl) (hts _ k_265) (fun _ h9 => h9) rfl dX6_expression_93 ?_
            refine csVv (n := 0) (rest := []) hx hb hml hown hts hE hP hD hS hA hF hT (sX_X9_advance_1 NF l dC dI cy x0 x  v6 f6 hIv6 ) k_699 k_559 k_560 k_102 k_561 hd_yX9_advance ⟨Nat.le_of_ble_eq_true rfl, Nat.le_of_ble_eq_true rfl⟩ 1 9 rfl rfl (rfl) hl.1 rfl (Nat.le_of_ble_eq_true rfl) dX6_expression_96 (fun u H locs hw hP hD hS => ?_)
            obtain ⟨hG11, hw⟩ := hw
            obtain ⟨v12, f13⟩ := u
            obtain ⟨kV_v12, kF_f13, hIv12, hk0_v12, hk1_v12, hk7_v12, hk8_v12, hk9_v12, hk10_v12, hk31_v12, hk32_v12⟩ := hw
            have hM_v12 : KV [2, 3, 4, 5, 7, 8, 16, 17] v12 v := KV.tr kV_v12 hM_v6 rfl
            have hA_f13 : KF [3, 4] f13 f := KF.tr kF_f13 hA_f6 rfl
            have hP : va_P (dC, dI) vwCl (XW cy x0 x v12 f13) H := hP
            have hD : va_D A (XW cy x0 x v12 f13) := hD
            have hq0_v12 : v12 0 = (v 0) := hk0_v12.trans hq0_v6
            have hq1_v12 : v12 1 = (v 1) := hk1_v12.trans hq1_v6
            have hq9_v12 : v12 9 = (v 9) := hk9_v12.trans hq9_v6
            have hq10_v12 : v12 10 = (v 10) := hk10_v12.trans hq10_v6
            have hq31_v12 : v12 31 = (v 31) := hk31_v12.trans hq31_v6
            have hq32_v12 : v12 32 = (v 32) := hk32_v12.trans hq32_v6
            refine lv_aload_n hx hb dX6_expression_99 rfl (lv_at hl 3 rfl) ?_
            refine lv_iload_n hx hb dX6_expression_100 rfl (lv_at hl 4 rfl) ?_
            refine lv_iconst (v := 1) hx hb dX6_expression_101 rfl ?_
            refine lv_iadd hx hb dX6_expression_102 ?_
            refine tI (y := 2) (by decide) ?_
            refine lv_iload_n hx hb dX6_expression_103 rfl (lv_at hl 5 rfl) ?_
            refine csVi (n := 2) (rest := []) hx hb hml hown hts hE hP hD hS hA hF hT (sX_X6_expression_21 NF l dC dI cy x0 x  v12 f13 hIv12 ) k_740 k_742 k_15 k_103 k_743 hd_yX6_expression ⟨Nat.le_of_ble_eq_true rfl, Nat.le_of_ble_eq_true rfl⟩ 3 6 rfl rfl (rfl) hl.1 rfl (Nat.le_of_ble_eq_true rfl) dX6_expression_104 (fun r14 u H locs hw hP hD hS => ?_)
            obtain ⟨hG15, hw⟩ := hw
            obtain ⟨v16, f17⟩ := u
            obtain ⟨kV_v16, kF_f17, hIv16, hk0_v16, hk1_v16, hk9_v16, hk10_v16, hk31_v16, hk32_v16, hw⟩ := hw
            have hM_v16 : KV [2, 3, 4, 5, 7, 8, 16, 17] v16 v := KV.tr kV_v16 hM_v12 rfl
            have hA_f17 : KF [3, 4] f17 f := KF.tr kF_f17 hA_f13 rfl
            have hP : va_P (dC, dI) vwCl (XW cy x0 x v16 f17) H := hP
            have hD : va_D A (XW cy x0 x v16 f17) := hD
            have hq0_v16 : v16 0 = (v 0) := hk0_v16.trans hq0_v12
            have hq1_v16 : v16 1 = (v 1) := hk1_v16.trans hq1_v12
            have hq9_v16 : v16 9 = (v 9) := hk9_v16.trans hq9_v12
            have hq10_v16 : v16 10 = (v 10) := hk10_v16.trans hq10_v12
            have hq31_v16 : v16 31 = (v 31) := hk31_v16.trans hq31_v12
            have hq32_v16 : v16 32 = (v 32) := hk32_v16.trans hq32_v12
            rcases hw with ⟨g18⟩ | ⟨g18⟩
            · skip
              subst g18
              refine lv_if_ne (tgt := 112) hx hb dX6_expression_107 rfl (fun _ => ?_) (fun c0 => absurd c0 (by decide))
              refine lv_aload_n hx hb dX6_expression_112 rfl (lv_at hl 3 rfl) ?_
              refine va_get (D := (dC, dI)) (ci := 6) (v := .ref (x 3)) (C := RX6) (T := TX6) (N := 7) hx hb hts inB_6 hown hE.1 hP 3 rfl rfl 1 (Nat.le_of_ble_eq_true rfl) (hts _ k_266) (fun _ h9 => h9) rfl dX6_expression_113 ?_
              refine va_getN (D := (dC, dI)) (ci := 7) (v := .ref (x 6)) (C := RX7) (T := TX7) (N := 10) hx hb hts inB_7 hown hE.1 hP 4 rfl rfl 2 (Nat.le_of_ble_eq_true rfl) (va_Nw.use rfl (hE.2 _ k_210)) (fun _ h9 => h9) rfl dX6_expression_116 ?_
              refine lv_iload hx hb dX6_expression_119 (lv_at hl 0 rfl) ?_
              refine lv_iconst (v := 0) hx hb dX6_expression_121 rfl ?_
              refine cbVv (n := 2) (rest := []) hx hb hml hown hts hE hP hD hS hA (sX_X4_add_1 NF l dC dI cy x0 x (v6 2) 0 v16 f17 hIv16 ) k_748 k_749 k_750 k_105 k_751 hd_yX4_add ⟨Nat.le_of_ble_eq_true rfl, Nat.le_of_ble_eq_true rfl⟩ 7 4 rfl rfl (rfl) hl.1 rfl (Nat.le_of_ble_eq_true rfl) dX6_expression_122 (fun u H locs hw hP hD hS => ?_)
              obtain ⟨hG19, hw⟩ := hw
              obtain ⟨v20, f21⟩ := u
              obtain ⟨kV_v20, kF_f21, hIv20, hk0_v20, hk1_v20, hk7_v20, hk8_v20, hk9_v20, hk10_v20, hk31_v20, hk32_v20⟩ := hw
              have hM_v20 : KV [2, 3, 4, 5, 7, 8, 16, 17] v20 v := KV.tr kV_v20 hM_v16 rfl
              have hA_f21 : KF [3, 4] f21 f := KF.tr kF_f21 hA_f17 rfl
              have hP : va_P (dC, dI) vwCl (XW cy x0 x v20 f21) H := hP
              have hD : va_D A (XW cy x0 x v20 f21) := hD
              have hq0_v20 : v20 0 = (v 0) := hk0_v20.trans hq0_v16
              have hq1_v20 : v20 1 = (v 1) := hk1_v20.trans hq1_v16
              have hq9_v20 : v20 9 = (v 9) := hk9_v20.trans hq9_v16
              have hq10_v20 : v20 10 = (v 10) := hk10_v20.trans hq10_v16
              have hq31_v20 : v20 31 = (v 31) := hk31_v20.trans hq31_v16
              have hq32_v20 : v20 32 = (v 32) := hk32_v20.trans hq32_v16
              obtain ⟨t22, et22⟩ : ∃ y : Int32, y = l4_6 + 1 := ⟨_, rfl⟩
              have zt22 : t22.toInt = l4_6.toInt + 1 := (congrArg Int32.toInt et22).trans (add_i rfl tc_1 (om_41 hr4_6) (om_5 zc7))
              refine lv_iinc (v := t22) (lv' := [(4, .int t22), (5, .int (v6 2)), (3, .int 1600), (0, .ref (x 2)), (1, .int 1), (2, .int 3)]) hx hb dX6_expression_125 hl (k := 1) rfl et22.symm (Nat.le_of_ble_eq_true rfl) rfl (fun ls hl => ?_)
              refine lv_goto (tgt := 63) hx hb dX6_expression_128 rfl ?_
              have rg24 := fb_rng t22
              exact ih6 t22 v20 f21 hIv20 hq0_v20 hq1_v20 hq9_v20 hq10_v20 hq31_v20 hq32_v20 ((gsX_X6_expression_20_q1 c7 hG9 hG11 hG15 hG19 et22).symm.trans hT6) ⟨show (0 : Int) ≤ t22.toInt from om_43 hr4_6 zt22, show t22.toInt ≤ (2147483647 : Int) from om_44 rg24⟩ hM_v20 hA_f21 (show (2147483647 - t22.toInt).toNat < n6 from om_33 hm6 zt22 rg24) _ _ _ hP hD hS (lv_sub hl [0, 2, 3, 4, 5] rfl)
            · skip
              subst g18
              refine lv_if_ne (tgt := 112) hx hb dX6_expression_107 rfl (fun c0 => absurd (by decide) c0) (fun _ => ?_)
              refine lv_iconst (v := 0) hx hb dX6_expression_110 rfl ?_
              exact ret 0 (v16, f17) _ _ _ _ _ _ rfl ⟨(hT6.symm.trans (gsX_X6_expression_20_q2 c7 hG9 hG11 hG15)), hM_v16, hA_f17, hIv16, (hk0_v16.trans (hk0_v12.trans hq0_v6)), (hk1_v16.trans (hk1_v12.trans hq1_v6)), (hk9_v16.trans (hk9_v12.trans hq9_v6)), (hk10_v16.trans (hk10_v12.trans hq10_v6)), (hk31_v16.trans (hk31_v12.trans hq31_v6)), (hk32_v16.trans (hk32_v12.trans hq32_v6)), (Or.inr rfl)⟩ hP hD hS dX6_expression_111 (Nat.le_refl _) (Nat.le_refl _)
          · skip
            subst g10
            refine lv_if_eq (tgt := 131) hx hb dX6_expression_80 rfl (fun _ => ?_) (fun c0 => absurd (by decide) c0)
            refine lv_iconst (v := 1) hx hb dX6_expression_131 rfl ?_
            exact ret 1 (v6, f6) _ _ _ _ _ _ rfl ⟨(hT6.symm.trans (gsX_X6_expression_20_q3 c7 hG9)), hM_v6, hA_f6, hIv6, hq0_v6, hq1_v6, hq9_v6, hq10_v6, hq31_v6, hq32_v6, (Or.inl rfl)⟩ hP hD hS dX6_expression_132 (Nat.le_refl _) (Nat.le_refl _)
    exact lp6 (4294967296 + NF) 0 v3 f4 hIv3 hq0_v3 hq1_v3 hq9_v3 hq10_v3 hq31_v3 hq32_v3 (gsX_X6_expression_20_q4 hG2).symm ⟨by decide, by decide⟩ hM_v3 hA_f4 (show (2147483647 - (0 : Int32).toInt).toNat < 4294967296 + NF from om_38 tc_0) _ _ _ hP hD hS (lv_sub hl [0, 1, 2, 3, 4] rfl)
  · skip
    subst g5
    refine lv_if_ne (tgt := 47) hx hb dX6_expression_42 rfl (fun c0 => absurd (by decide) c0) (fun _ => ?_)
    refine lv_iconst (v := 0) hx hb dX6_expression_45 rfl ?_
    exact ret 0 (v3, f4) _ _ _ _ _ _ rfl ⟨(gsX_X6_expression_20_q5 hG2), hM_v3, hA_f4, hIv3, hk0_v3, hk1_v3, hk9_v3, hk10_v3, hk31_v3, hk32_v3, (Or.inr rfl)⟩ hP hD hS dX6_expression_46 (Nat.le_refl _) (Nat.le_refl _)
set_option maxHeartbeats 4000000 in
set_option maxRecDepth 100000 in
theorem sX_X6_expression_19 (NF : Nat) (l : Launch) (dC : Nat → ClassId) (dI : Nat → Nat → Nat) (cy : Nat → ClassId) (x0 : Nat) (x : Nat → Nat)  (v : Nat → Int32) (f : Nat → Nat → Int32) (hIv : XI v)  : ctIS l (dC, dI) cy yX6_expression cX6_expression 6 .boolean 41 1031 0 0 ((Nat → Int32) × (Nat → Nat → Int32)) [.ref (x 2), .int 0, .int 3] (XW cy x0 x v f) (fun r u => gsX_X6_expression_19 NF v f = (r, u) ∧ KV [2, 3, 4, 5, 7, 8, 16, 17] u.1 v ∧ KF [3, 4] u.2 f ∧ XI u.1 ∧ u.1 0 = v 0 ∧ u.1 1 = v 1 ∧ u.1 9 = v 9 ∧ u.1 10 = v 10 ∧ u.1 31 = v 31 ∧ u.1 32 = v 32 ∧ ((r = 1) ∨ (r = 0))) (fun u => XW cy x0 x u.1 u.2) := by
  refine ctIS_of (by decide) (Nat.le_of_ble_eq_true rfl) (fun p e s m below meth c A ls Q hx hb hml hts hown hE hF hT hP hD hA hl ret => ?_)
  have hM_v : KV [2, 3, 4, 5, 7, 8, 16, 17] v v := fun _ _ => rfl
  have hA_f : KF [3, 4] f f := fun _ _ => rfl
  have hown : s.vm.findClass RX6 = some m.cls := hown
  have hS : va_S A s.heap s.heap [] := va_S.rf
  have hl : lv_has ls 6 [(0, .ref (x 2)), (1, .int 0), (2, .int 3)] := hl
  refine lv_iload_n hx hb dX6_expression_0 rfl (lv_at hl 1 rfl) ?_
  refine lv_iconst (v := 5) hx hb dX6_expression_1 rfl ?_
  refine lv_icmp_lt (tgt := 11) hx hb dX6_expression_2 rfl (fun _ => ?_) (fun c0 => absurd (by decide) c0)
  refine lv_iload_n hx hb dX6_expression_11 rfl (lv_at hl 1 rfl) ?_
  refine lv_iconst (v := 2) hx hb dX6_expression_12 rfl ?_
  refine lv_icmp_ne (tgt := 34) hx hb dX6_expression_13 rfl (fun _ => ?_) (fun c0 => absurd c0 (by decide))
  refine lv_aload_n hx hb dX6_expression_34 rfl (lv_at hl 0 rfl) ?_
  refine lv_iload_n hx hb dX6_expression_35 rfl (lv_at hl 1 rfl) ?_
  refine lv_iconst (v := 1) hx hb dX6_expression_36 rfl ?_
  refine lv_iadd hx hb dX6_expression_37 ?_
  refine tI (y := 1) (by decide) ?_
  refine lv_iload_n hx hb dX6_expression_38 rfl (lv_at hl 2 rfl) ?_
  refine csVi (n := 2) (rest := []) hx hb hml hown hts hE hP hD hS hA hF hT (sX_X6_expression_20 NF l dC dI cy x0 x  v f hIv ) k_740 k_742 k_15 k_103 k_743 hd_yX6_expression ⟨Nat.le_of_ble_eq_true rfl, Nat.le_of_ble_eq_true rfl⟩ 3 6 rfl rfl (rfl) hl.1 rfl (Nat.le_of_ble_eq_true rfl) dX6_expression_39 (fun r1 u H locs hw hP hD hS => ?_)
  obtain ⟨hG2, hw⟩ := hw
  obtain ⟨v3, f4⟩ := u
  obtain ⟨kV_v3, kF_f4, hIv3, hk0_v3, hk1_v3, hk9_v3, hk10_v3, hk31_v3, hk32_v3, hw⟩ := hw
  have hM_v3 : KV [2, 3, 4, 5, 7, 8, 16, 17] v3 v := KV.tr kV_v3 hM_v rfl
  have hA_f4 : KF [3, 4] f4 f := KF.tr kF_f4 hA_f rfl
  have hP : va_P (dC, dI) vwCl (XW cy x0 x v3 f4) H := hP
  have hD : va_D A (XW cy x0 x v3 f4) := hD
  have hq0_v3 : v3 0 = (v 0) := hk0_v3
  have hq1_v3 : v3 1 = (v 1) := hk1_v3
  have hq9_v3 : v3 9 = (v 9) := hk9_v3
  have hq10_v3 : v3 10 = (v 10) := hk10_v3
  have hq31_v3 : v3 31 = (v 31) := hk31_v3
  have hq32_v3 : v3 32 = (v 32) := hk32_v3
  rcases hw with ⟨g5⟩ | ⟨g5⟩
  · skip
    subst g5
    refine lv_if_ne (tgt := 47) hx hb dX6_expression_42 rfl (fun _ => ?_) (fun c0 => absurd c0 (by decide))
    refine lv_iload_n hx hb dX6_expression_47 rfl (lv_at hl 1 rfl) ?_
    refine lv_iconst (v := 2) hx hb dX6_expression_48 rfl ?_
    refine lv_icmp_ne (tgt := 56) hx hb dX6_expression_49 rfl (fun _ => ?_) (fun c0 => absurd c0 (by decide))
    refine lv_sipush (v := 1600) hx hb dX6_expression_56 rfl ?_
    refine lv_istore_n (lv' := [(3, .int 1600), (0, .ref (x 2)), (1, .int 0), (2, .int 3)]) hx hb dX6_expression_59 rfl hl (Nat.le_of_ble_eq_true rfl) rfl (fun ls hl => ?_)
    refine lv_iconst (v := 0) hx hb dX6_expression_60 rfl ?_
    refine lv_istore (lv' := [(4, .int 0), (3, .int 1600), (0, .ref (x 2)), (1, .int 0), (2, .int 3)]) hx hb dX6_expression_61 hl (Nat.le_of_ble_eq_true rfl) rfl (fun ls hl => ?_)
    have lp6 : ∀ (n6 : Nat) (l4_6 : Int32) (v6 : Nat → Int32) (f6 : Nat → Nat → Int32), XI v6 → v6 0 = (v 0) → v6 1 = (v 1) → v6 9 = (v 9) → v6 10 = (v 10) → v6 31 = (v 31) → v6 32 = (v 32) → gsX_X6_expression_19_L6 NF n6 l4_6 v6 f6 = (gsX_X6_expression_19 NF v f) → ((0 : Int) ≤ l4_6.toInt ∧ l4_6.toInt ≤ 2147483647) → KV [2, 3, 4, 5, 7, 8, 16, 17] v6 v → KF [3, 4] f6 f → (2147483647 - l4_6.toInt).toNat < n6 → ∀ (H : Heap) (locs : List Loc) (ls : Array Slot), va_P (dC, dI) vwCl (XW cy x0 x v6 f6) H → va_D A (XW cy x0 x v6 f6) → va_S A s.heap H locs → lv_has ls 6 [(4, .int l4_6), (3, .int 1600), (0, .ref (x 2)), (1, .int 0), (2, .int 3)] → W p l e { frames := 41, cells := 0, slots := 0, locals := 1031 } s m ([.ref (x 2), .int 0, .int 3] : List Value).toArray below meth c H locs 0 0 Q (F0 m 63 ls []) := by
      intro n6
      induction n6 with
      | zero => intro l4_6 v6 f6 hIv6 hq0_v6 hq1_v6 hq9_v6 hq10_v6 hq31_v6 hq32_v6 hT6 hr4_6 hM_v6 hA_f6 hm; exact absurd hm (Nat.not_lt_zero _)
      | succ n6 ih6 =>
        intro l4_6 v6 f6 hIv6 hq0_v6 hq1_v6 hq9_v6 hq10_v6 hq31_v6 hq32_v6 hT6 hr4_6 hM_v6 hA_f6 hm6 H locs ls hP hD hS hl
        refine lv_iload hx hb dX6_expression_63 (lv_at hl 0 rfl) ?_
        refine lv_iload_n hx hb dX6_expression_65 rfl (lv_at hl 1 rfl) ?_
        refine lv_icmp_ge (tgt := 131) hx hb dX6_expression_66 rfl (fun c7 => ?_) (fun c7 => ?_)
        · skip
          refine lv_iconst (v := 1) hx hb dX6_expression_131 rfl ?_
          exact ret 1 (v6, f6) _ _ _ _ _ _ rfl ⟨(hT6.symm.trans (gsX_X6_expression_19_q0 c7)), hM_v6, hA_f6, hIv6, hq0_v6, hq1_v6, hq9_v6, hq10_v6, hq31_v6, hq32_v6, (Or.inl rfl)⟩ hP hD hS dX6_expression_132 (Nat.le_refl _) (Nat.le_refl _)
        · skip
          have zc7 : ¬ (1600 ≤ l4_6.toInt) := zMn tc_1600 rfl c7
          refine lv_iload_n hx hb dX6_expression_69 rfl (lv_at hl 3 rfl) ?_
          refine lv_aload_n hx hb dX6_expression_70 rfl (lv_at hl 2 rfl) ?_
          refine va_get (D := (dC, dI)) (ci := 6) (v := .ref (x 0)) (C := RX6) (T := TX6) (N := 7) hx hb hts inB_6 hown hE.1 hP 3 rfl rfl 0 (Nat.le_of_ble_eq_true rfl) (hts _ k_265) (fun _ h9 => h9) rfl dX6_expression_71 ?_
          refine va_getN (D := (dC, dI)) (ci := 9) (v := .int (v6 2)) (C := RX9) (T := TX9) (N := 6) hx hb hts inB_9 hown hE.1 hP 1 rfl rfl 2 (Nat.le_of_ble_eq_true rfl) (va_Nw.use rfl (hE.2 _ k_139)) (fun _ h9 => h9) rfl dX6_expression_74 ?_
          refine cbSi (n := 2) (rest := []) hx hb hml hown hts hE hP hD hS hA (sX_X6_joins_1 NF l dC dI cy x0 x 0 (v6 2) v6 f6 hIv6 ) k_756 k_757 k_103 k_758 he_yX6_joins ⟨Nat.le_of_ble_eq_true rfl, Nat.le_of_ble_eq_true rfl⟩ (rfl) hl.1 rfl (Nat.le_of_ble_eq_true rfl) dX6_expression_77 (fun r8 u H locs hw hP hD hS => ?_)
          obtain ⟨hG9, hw⟩ := hw
          rcases hw with ⟨g10⟩ | ⟨g10⟩
          · skip
            subst g10
            refine lv_if_eq (tgt := 131) hx hb dX6_expression_80 rfl (fun c0 => absurd c0 (by decide)) (fun _ => ?_)
            refine lv_aload_n hx hb dX6_expression_83 rfl (lv_at hl 2 rfl) ?_
            refine va_get (D := (dC, dI)) (ci := 6) (v := .ref (x 0)) (C := RX6) (T := TX6) (N := 7) hx hb hts inB_6 hown hE.1 hP 3 rfl rfl 0 (Nat.le_of_ble_eq_true rfl) (hts _ k_265) (fun _ h9 => h9) rfl dX6_expression_84 ?_
            refine va_getN (D := (dC, dI)) (ci := 9) (v := .int (v6 2)) (C := RX9) (T := TX9) (N := 6) hx hb hts inB_9 hown hE.1 hP 1 rfl rfl 2 (Nat.le_of_ble_eq_true rfl) (va_Nw.use rfl (hE.2 _ k_139)) (fun _ h9 => h9) rfl dX6_expression_87 ?_
            refine lv_istore (lv' := [(5, .int (v6 2)), (4, .int l4_6), (3, .int 1600), (0, .ref (x 2)), (1, .int 0), (2, .int 3)]) hx hb dX6_expression_90 hl (Nat.le_of_ble_eq_true rfl) rfl (fun ls hl => ?_)
            refine lv_aload_n hx hb dX6_expression_92 rfl (lv_at hl 3 rfl) ?_
            refine va_get (D := (dC, dI)) (ci := 6) (v := .ref (x 0)) (C := RX6) (T := TX6) (N := 7) hx hb hts inB_6 hown hE.1 hP 3 rfl rfl 0 (Nat.le_of_ble_eq_true rfl) (hts _ k_265) (fun _ h9 => h9) rfl dX6_expression_93 ?_
            refine csVv (n := 0) (rest := []) hx hb hml hown hts hE hP hD hS hA hF hT (sX_X9_advance_1 NF l dC dI cy x0 x  v6 f6 hIv6 ) k_699 k_559 k_560 k_102 k_561 hd_yX9_advance ⟨Nat.le_of_ble_eq_true rfl, Nat.le_of_ble_eq_true rfl⟩ 1 9 rfl rfl (rfl) hl.1 rfl (Nat.le_of_ble_eq_true rfl) dX6_expression_96 (fun u H locs hw hP hD hS => ?_)
            obtain ⟨hG11, hw⟩ := hw
            obtain ⟨v12, f13⟩ := u
            obtain ⟨kV_v12, kF_f13, hIv12, hk0_v12, hk1_v12, hk7_v12, hk8_v12, hk9_v12, hk10_v12, hk31_v12, hk32_v12⟩ := hw
            have hM_v12 : KV [2, 3, 4, 5, 7, 8, 16, 17] v12 v := KV.tr kV_v12 hM_v6 rfl
            have hA_f13 : KF [3, 4] f13 f := KF.tr kF_f13 hA_f6 rfl
            have hP : va_P (dC, dI) vwCl (XW cy x0 x v12 f13) H := hP
            have hD : va_D A (XW cy x0 x v12 f13) := hD
            have hq0_v12 : v12 0 = (v 0) := hk0_v12.trans hq0_v6
            have hq1_v12 : v12 1 = (v 1) := hk1_v12.trans hq1_v6
            have hq9_v12 : v12 9 = (v 9) := hk9_v12.trans hq9_v6
            have hq10_v12 : v12 10 = (v 10) := hk10_v12.trans hq10_v6
            have hq31_v12 : v12 31 = (v 31) := hk31_v12.trans hq31_v6
            have hq32_v12 : v12 32 = (v 32) := hk32_v12.trans hq32_v6
            refine lv_aload_n hx hb dX6_expression_99 rfl (lv_at hl 3 rfl) ?_
            refine lv_iload_n hx hb dX6_expression_100 rfl (lv_at hl 4 rfl) ?_
            refine lv_iconst (v := 1) hx hb dX6_expression_101 rfl ?_
            refine lv_iadd hx hb dX6_expression_102 ?_
            refine tI (y := 1) (by decide) ?_
            refine lv_iload_n hx hb dX6_expression_103 rfl (lv_at hl 5 rfl) ?_
            refine csVi (n := 2) (rest := []) hx hb hml hown hts hE hP hD hS hA hF hT (sX_X6_expression_20 NF l dC dI cy x0 x  v12 f13 hIv12 ) k_740 k_742 k_15 k_103 k_743 hd_yX6_expression ⟨Nat.le_of_ble_eq_true rfl, Nat.le_of_ble_eq_true rfl⟩ 3 6 rfl rfl (rfl) hl.1 rfl (Nat.le_of_ble_eq_true rfl) dX6_expression_104 (fun r14 u H locs hw hP hD hS => ?_)
            obtain ⟨hG15, hw⟩ := hw
            obtain ⟨v16, f17⟩ := u
            obtain ⟨kV_v16, kF_f17, hIv16, hk0_v16, hk1_v16, hk9_v16, hk10_v16, hk31_v16, hk32_v16, hw⟩ := hw
            have hM_v16 : KV [2, 3, 4, 5, 7, 8, 16, 17] v16 v := KV.tr kV_v16 hM_v12 rfl
            have hA_f17 : KF [3, 4] f17 f := KF.tr kF_f17 hA_f13 rfl
            have hP : va_P (dC, dI) vwCl (XW cy x0 x v16 f17) H := hP
            have hD : va_D A (XW cy x0 x v16 f17) := hD
            have hq0_v16 : v16 0 = (v 0) := hk0_v16.trans hq0_v12
            have hq1_v16 : v16 1 = (v 1) := hk1_v16.trans hq1_v12
            have hq9_v16 : v16 9 = (v 9) := hk9_v16.trans hq9_v12
            have hq10_v16 : v16 10 = (v 10) := hk10_v16.trans hq10_v12
            have hq31_v16 : v16 31 = (v 31) := hk31_v16.trans hq31_v12
            have hq32_v16 : v16 32 = (v 32) := hk32_v16.trans hq32_v12
            rcases hw with ⟨g18⟩ | ⟨g18⟩
            · skip
              subst g18
              refine lv_if_ne (tgt := 112) hx hb dX6_expression_107 rfl (fun _ => ?_) (fun c0 => absurd c0 (by decide))
              refine lv_aload_n hx hb dX6_expression_112 rfl (lv_at hl 3 rfl) ?_
              refine va_get (D := (dC, dI)) (ci := 6) (v := .ref (x 3)) (C := RX6) (T := TX6) (N := 7) hx hb hts inB_6 hown hE.1 hP 3 rfl rfl 1 (Nat.le_of_ble_eq_true rfl) (hts _ k_266) (fun _ h9 => h9) rfl dX6_expression_113 ?_
              refine va_getN (D := (dC, dI)) (ci := 7) (v := .ref (x 6)) (C := RX7) (T := TX7) (N := 10) hx hb hts inB_7 hown hE.1 hP 4 rfl rfl 2 (Nat.le_of_ble_eq_true rfl) (va_Nw.use rfl (hE.2 _ k_210)) (fun _ h9 => h9) rfl dX6_expression_116 ?_
              refine lv_iload hx hb dX6_expression_119 (lv_at hl 0 rfl) ?_
              refine lv_iconst (v := 0) hx hb dX6_expression_121 rfl ?_
              refine cbVv (n := 2) (rest := []) hx hb hml hown hts hE hP hD hS hA (sX_X4_add_1 NF l dC dI cy x0 x (v6 2) 0 v16 f17 hIv16 ) k_748 k_749 k_750 k_105 k_751 hd_yX4_add ⟨Nat.le_of_ble_eq_true rfl, Nat.le_of_ble_eq_true rfl⟩ 7 4 rfl rfl (rfl) hl.1 rfl (Nat.le_of_ble_eq_true rfl) dX6_expression_122 (fun u H locs hw hP hD hS => ?_)
              obtain ⟨hG19, hw⟩ := hw
              obtain ⟨v20, f21⟩ := u
              obtain ⟨kV_v20, kF_f21, hIv20, hk0_v20, hk1_v20, hk7_v20, hk8_v20, hk9_v20, hk10_v20, hk31_v20, hk32_v20⟩ := hw
              have hM_v20 : KV [2, 3, 4, 5, 7, 8, 16, 17] v20 v := KV.tr kV_v20 hM_v16 rfl
              have hA_f21 : KF [3, 4] f21 f := KF.tr kF_f21 hA_f17 rfl
              have hP : va_P (dC, dI) vwCl (XW cy x0 x v20 f21) H := hP
              have hD : va_D A (XW cy x0 x v20 f21) := hD
              have hq0_v20 : v20 0 = (v 0) := hk0_v20.trans hq0_v16
              have hq1_v20 : v20 1 = (v 1) := hk1_v20.trans hq1_v16
              have hq9_v20 : v20 9 = (v 9) := hk9_v20.trans hq9_v16
              have hq10_v20 : v20 10 = (v 10) := hk10_v20.trans hq10_v16
              have hq31_v20 : v20 31 = (v 31) := hk31_v20.trans hq31_v16
              have hq32_v20 : v20 32 = (v 32) := hk32_v20.trans hq32_v16
              obtain ⟨t22, et22⟩ : ∃ y : Int32, y = l4_6 + 1 := ⟨_, rfl⟩
              have zt22 : t22.toInt = l4_6.toInt + 1 := (congrArg Int32.toInt et22).trans (add_i rfl tc_1 (om_41 hr4_6) (om_5 zc7))
              refine lv_iinc (v := t22) (lv' := [(4, .int t22), (5, .int (v6 2)), (3, .int 1600), (0, .ref (x 2)), (1, .int 0), (2, .int 3)]) hx hb dX6_expression_125 hl (k := 1) rfl et22.symm (Nat.le_of_ble_eq_true rfl) rfl (fun ls hl => ?_)
              refine lv_goto (tgt := 63) hx hb dX6_expression_128 rfl ?_
              have rg24 := fb_rng t22
              exact ih6 t22 v20 f21 hIv20 hq0_v20 hq1_v20 hq9_v20 hq10_v20 hq31_v20 hq32_v20 ((gsX_X6_expression_19_q1 c7 hG9 hG11 hG15 hG19 et22).symm.trans hT6) ⟨show (0 : Int) ≤ t22.toInt from om_43 hr4_6 zt22, show t22.toInt ≤ (2147483647 : Int) from om_44 rg24⟩ hM_v20 hA_f21 (show (2147483647 - t22.toInt).toNat < n6 from om_33 hm6 zt22 rg24) _ _ _ hP hD hS (lv_sub hl [0, 2, 3, 4, 5] rfl)
            · skip
              subst g18
              refine lv_if_ne (tgt := 112) hx hb dX6_expression_107 rfl (fun c0 => absurd (by decide) c0) (fun _ => ?_)
              refine lv_iconst (v := 0) hx hb dX6_expression_110 rfl ?_
              exact ret 0 (v16, f17) _ _ _ _ _ _ rfl ⟨(hT6.symm.trans (gsX_X6_expression_19_q2 c7 hG9 hG11 hG15)), hM_v16, hA_f17, hIv16, (hk0_v16.trans (hk0_v12.trans hq0_v6)), (hk1_v16.trans (hk1_v12.trans hq1_v6)), (hk9_v16.trans (hk9_v12.trans hq9_v6)), (hk10_v16.trans (hk10_v12.trans hq10_v6)), (hk31_v16.trans (hk31_v12.trans hq31_v6)), (hk32_v16.trans (hk32_v12.trans hq32_v6)), (Or.inr rfl)⟩ hP hD hS dX6_expression_111 (Nat.le_refl _) (Nat.le_refl _)
          · skip
            subst g10
            refine lv_if_eq (tgt := 131) hx hb dX6_expression_80 rfl (fun _ => ?_) (fun c0 => absurd (by decide) c0)
            refine lv_iconst (v := 1) hx hb dX6_expression_131 rfl ?_
            exact ret 1 (v6, f6) _ _ _ _ _ _ rfl ⟨(hT6.symm.trans (gsX_X6_expression_19_q3 c7 hG9)), hM_v6, hA_f6, hIv6, hq0_v6, hq1_v6, hq9_v6, hq10_v6, hq31_v6, hq32_v6, (Or.inl rfl)⟩ hP hD hS dX6_expression_132 (Nat.le_refl _) (Nat.le_refl _)
    exact lp6 (4294967296 + NF) 0 v3 f4 hIv3 hq0_v3 hq1_v3 hq9_v3 hq10_v3 hq31_v3 hq32_v3 (gsX_X6_expression_19_q4 hG2).symm ⟨by decide, by decide⟩ hM_v3 hA_f4 (show (2147483647 - (0 : Int32).toInt).toNat < 4294967296 + NF from om_38 tc_0) _ _ _ hP hD hS (lv_sub hl [0, 1, 2, 3, 4] rfl)
  · skip
    subst g5
    refine lv_if_ne (tgt := 47) hx hb dX6_expression_42 rfl (fun c0 => absurd (by decide) c0) (fun _ => ?_)
    refine lv_iconst (v := 0) hx hb dX6_expression_45 rfl ?_
    exact ret 0 (v3, f4) _ _ _ _ _ _ rfl ⟨(gsX_X6_expression_19_q5 hG2), hM_v3, hA_f4, hIv3, hk0_v3, hk1_v3, hk9_v3, hk10_v3, hk31_v3, hk32_v3, (Or.inr rfl)⟩ hP hD hS dX6_expression_46 (Nat.le_refl _) (Nat.le_refl _)
set_option maxHeartbeats 4000000 in
set_option maxRecDepth 100000 in
theorem sX_X6_unit_3 (NF : Nat) (l : Launch) (dC : Nat → ClassId) (dI : Nat → Nat → Nat) (cy : Nat → ClassId) (x0 : Nat) (x : Nat → Nat)  (v : Nat → Int32) (f : Nat → Nat → Int32) (hIv : XI v)  : ctIS l (dC, dI) cy yX6_unit cX6_unit 4 .boolean 42 1056 0 0 ((Nat → Int32) × (Nat → Nat → Int32)) [.ref (x 2), .int 2] (XW cy x0 x v f) (fun r u => gsX_X6_unit_3 NF v f = (r, u) ∧ KV [2, 3, 4, 5, 7, 8, 16, 17] u.1 v ∧ KF [3, 4] u.2 f ∧ XI u.1 ∧ u.1 0 = v 0 ∧ u.1 1 = v 1 ∧ u.1 9 = v 9 ∧ u.1 10 = v 10 ∧ u.1 31 = v 31 ∧ u.1 32 = v 32 ∧ ((r = 1) ∨ (r = 0))) (fun u => XW cy x0 x u.1 u.2) := by
  refine ctIS_of (by decide) (Nat.le_of_ble_eq_true rfl) (fun p e s m below meth c A ls Q hx hb hml hts hown hE hF hT hP hD hA hl ret => ?_)
  have hM_v : KV [2, 3, 4, 5, 7, 8, 16, 17] v v := fun _ _ => rfl
  have hA_f : KF [3, 4] f f := fun _ _ => rfl
  have hown : s.vm.findClass RX6 = some m.cls := hown
  have hS : va_S A s.heap s.heap [] := va_S.rf
  have hl : lv_has ls 4 [(0, .ref (x 2)), (1, .int 2)] := hl
  refine lv_aload_n hx hb dX6_unit_0 rfl (lv_at hl 0 rfl) ?_
  refine va_get (D := (dC, dI)) (ci := 6) (v := .ref (x 0)) (C := RX6) (T := TX6) (N := 7) hx hb hts inB_6 hown hE.1 hP 3 rfl rfl 0 (Nat.le_of_ble_eq_true rfl) (hts _ k_265) (fun _ h9 => h9) rfl dX6_unit_1 ?_
  refine va_getN (D := (dC, dI)) (ci := 9) (v := .int (v 2)) (C := RX9) (T := TX9) (N := 6) hx hb hts inB_9 hown hE.1 hP 1 rfl rfl 2 (Nat.le_of_ble_eq_true rfl) (va_Nw.use rfl (hE.2 _ k_139)) (fun _ h9 => h9) rfl dX6_unit_4 ?_
  refine lv_istore_n (lv' := [(2, .int (v 2)), (0, .ref (x 2)), (1, .int 2)]) hx hb dX6_unit_7 rfl hl (Nat.le_of_ble_eq_true rfl) rfl (fun ls hl => ?_)
  refine lv_iload_n hx hb dX6_unit_8 rfl (lv_at hl 0 rfl) ?_
  refine lv_iconst (v := 2) hx hb dX6_unit_9 rfl ?_
  refine lv_icmp_eq (tgt := 25) hx hb dX6_unit_10 rfl (fun c1 => ?_) (fun c1 => ?_)
  · skip
    refine lv_iconst (v := 1) hx hb dX6_unit_25 rfl ?_
    refine lv_goto (tgt := 30) hx hb dX6_unit_26 rfl ?_
    refine lv_istore_n (lv' := [(3, .int 1), (2, .int (v 2)), (0, .ref (x 2)), (1, .int 2)]) hx hb dX6_unit_30 rfl hl (Nat.le_of_ble_eq_true rfl) rfl (fun ls hl => ?_)
    refine lv_iload_n hx hb dX6_unit_31 rfl (lv_at hl 0 rfl) ?_
    refine lv_if_ne (tgt := 41) hx hb dX6_unit_32 rfl (fun _ => ?_) (fun c0 => absurd c0 (by decide))
    refine lv_aload_n hx hb dX6_unit_41 rfl (lv_at hl 2 rfl) ?_
    refine va_get (D := (dC, dI)) (ci := 6) (v := .ref (x 3)) (C := RX6) (T := TX6) (N := 7) hx hb hts inB_6 hown hE.1 hP 3 rfl rfl 1 (Nat.le_of_ble_eq_true rfl) (hts _ k_266) (fun _ h9 => h9) rfl dX6_unit_42 ?_
    refine va_getN (D := (dC, dI)) (ci := 7) (v := .ref (x 6)) (C := RX7) (T := TX7) (N := 10) hx hb hts inB_7 hown hE.1 hP 4 rfl rfl 2 (Nat.le_of_ble_eq_true rfl) (va_Nw.use rfl (hE.2 _ k_210)) (fun _ h9 => h9) rfl dX6_unit_45 ?_
    refine va_getN (D := (dC, dI)) (ci := 4) (v := .int (v 17)) (C := RX4) (T := TX4) (N := 6) hx hb hts inB_4 hown hE.1 hP 7 rfl rfl 5 (Nat.le_of_ble_eq_true rfl) (va_Nw.use rfl (hE.2 _ k_184)) (fun _ h9 => h9) rfl dX6_unit_48 ?_
    refine lv_bipush (v := 30) hx hb dX6_unit_51 rfl ?_
    refine lv_icmp_lt (tgt := 61) hx hb dX6_unit_53 rfl (fun c2 => ?_) (fun c2 => ?_)
    · skip
      refine lv_iload_n hx hb dX6_unit_61 rfl (lv_at hl 0 rfl) ?_
      refine lv_if_eq (tgt := 108) hx hb dX6_unit_62 rfl (fun c0 => absurd c0 (by decide)) (fun _ => ?_)
      refine lv_aload_n hx hb dX6_unit_65 rfl (lv_at hl 2 rfl) ?_
      refine va_get (D := (dC, dI)) (ci := 6) (v := .ref (x 3)) (C := RX6) (T := TX6) (N := 7) hx hb hts inB_6 hown hE.1 hP 3 rfl rfl 1 (Nat.le_of_ble_eq_true rfl) (hts _ k_266) (fun _ h9 => h9) rfl dX6_unit_66 ?_
      refine va_getN (D := (dC, dI)) (ci := 7) (v := .ref (x 6)) (C := RX7) (T := TX7) (N := 10) hx hb hts inB_7 hown hE.1 hP 4 rfl rfl 2 (Nat.le_of_ble_eq_true rfl) (va_Nw.use rfl (hE.2 _ k_210)) (fun _ h9 => h9) rfl dX6_unit_69 ?_
      refine lv_iload_n hx hb dX6_unit_72 rfl (lv_at hl 1 rfl) ?_
      refine lv_aload_n hx hb dX6_unit_73 rfl (lv_at hl 2 rfl) ?_
      refine va_get (D := (dC, dI)) (ci := 6) (v := .ref (x 0)) (C := RX6) (T := TX6) (N := 7) hx hb hts inB_6 hown hE.1 hP 3 rfl rfl 0 (Nat.le_of_ble_eq_true rfl) (hts _ k_265) (fun _ h9 => h9) rfl dX6_unit_74 ?_
      refine va_getN (D := (dC, dI)) (ci := 9) (v := .int (v 5)) (C := RX9) (T := TX9) (N := 6) hx hb hts inB_9 hown hE.1 hP 1 rfl rfl 5 (Nat.le_of_ble_eq_true rfl) (va_Nw.use rfl (hE.2 _ k_145)) (fun _ h9 => h9) rfl dX6_unit_77 ?_
      refine cbVv (n := 2) (rest := []) hx hb hml hown hts hE hP hD hS hA (sX_X4_add_1 NF l dC dI cy x0 x (v 2) (v 5) v f hIv ) k_748 k_749 k_750 k_105 k_751 hd_yX4_add ⟨Nat.le_of_ble_eq_true rfl, Nat.le_of_ble_eq_true rfl⟩ 7 4 rfl rfl (rfl) hl.1 rfl (Nat.le_of_ble_eq_true rfl) dX6_unit_80 (fun u H locs hw hP hD hS => ?_)
      obtain ⟨hG3, hw⟩ := hw
      obtain ⟨v4, f5⟩ := u
      obtain ⟨kV_v4, kF_f5, hIv4, hk0_v4, hk1_v4, hk7_v4, hk8_v4, hk9_v4, hk10_v4, hk31_v4, hk32_v4⟩ := hw
      have hM_v4 : KV [2, 3, 4, 5, 7, 8, 16, 17] v4 v := KV.tr kV_v4 hM_v rfl
      have hA_f5 : KF [3, 4] f5 f := KF.tr kF_f5 hA_f rfl
      have hP : va_P (dC, dI) vwCl (XW cy x0 x v4 f5) H := hP
      have hD : va_D A (XW cy x0 x v4 f5) := hD
      refine lv_aload_n hx hb dX6_unit_83 rfl (lv_at hl 2 rfl) ?_
      refine va_get (D := (dC, dI)) (ci := 6) (v := .ref (x 3)) (C := RX6) (T := TX6) (N := 7) hx hb hts inB_6 hown hE.1 hP 3 rfl rfl 1 (Nat.le_of_ble_eq_true rfl) (hts _ k_266) (fun _ h9 => h9) rfl dX6_unit_84 ?_
      refine va_getN (D := (dC, dI)) (ci := 7) (v := .ref (x 6)) (C := RX7) (T := TX7) (N := 10) hx hb hts inB_7 hown hE.1 hP 4 rfl rfl 2 (Nat.le_of_ble_eq_true rfl) (va_Nw.use rfl (hE.2 _ k_210)) (fun _ h9 => h9) rfl dX6_unit_87 ?_
      refine lv_dup hx hb dX6_unit_90 rfl ?_
      refine va_getN (D := (dC, dI)) (ci := 4) (v := .int (v4 17)) (C := RX4) (T := TX4) (N := 6) hx hb hts inB_4 hown hE.1 hP 7 rfl rfl 5 (Nat.le_of_ble_eq_true rfl) (va_Nw.use rfl (hE.2 _ k_184)) (fun _ h9 => h9) rfl dX6_unit_91 ?_
      refine lv_iconst (v := 1) hx hb dX6_unit_94 rfl ?_
      refine lv_iadd hx hb dX6_unit_95 ?_
      refine lv_topi (fun t6 et6 => ?_)
      refine va_putN (D := (dC, dI)) (ci := 4) (v := .int t6) (ty := tyX4 5) (C := RX4) (T := TX4) (N := 6) hx hb hts inB_4 tyX4 tyX4_ok nmX4 hown hE.1 hP hD hS 7 rfl rfl 5 (by decide) (va_Nw.use rfl (hE.2 _ k_184)) (fun _ h9 => h9) rfl (tyX4_ok 5 (Nat.le_of_ble_eq_true rfl)) rfl rfl (Nat.le_of_ble_eq_true rfl) dX6_unit_96 (fun H locs hP hD hS => ?_)
      have hP : va_P (dC, dI) vwCl (XW cy x0 x (upd v4 17 t6) f5) H := hP
      have hD : va_D A (XW cy x0 x (upd v4 17 t6) f5) := hD
      refine lv_aload_n hx hb dX6_unit_99 rfl (lv_at hl 2 rfl) ?_
      refine va_get (D := (dC, dI)) (ci := 6) (v := .ref (x 0)) (C := RX6) (T := TX6) (N := 7) hx hb hts inB_6 hown hE.1 hP 3 rfl rfl 0 (Nat.le_of_ble_eq_true rfl) (hts _ k_265) (fun _ h9 => h9) rfl dX6_unit_100 ?_
      refine csVv (n := 0) (rest := []) hx hb hml hown hts hE hP hD hS hA hF hT (sX_X9_advance_1 NF l dC dI cy x0 x  (upd v4 17 t6) f5 (Xu_17 (x := t6) hIv4 (rlo _) (rhi _)) ) k_699 k_559 k_560 k_102 k_561 hd_yX9_advance ⟨Nat.le_of_ble_eq_true rfl, Nat.le_of_ble_eq_true rfl⟩ 1 9 rfl rfl (rfl) hl.1 rfl (Nat.le_of_ble_eq_true rfl) dX6_unit_103 (fun u H locs hw hP hD hS => ?_)
      obtain ⟨hG7, hw⟩ := hw
      obtain ⟨v8, f9⟩ := u
      obtain ⟨kV_v8, kF_f9, hIv8, hk0_v8, hk1_v8, hk7_v8, hk8_v8, hk9_v8, hk10_v8, hk31_v8, hk32_v8⟩ := hw
      have hM_v8 : KV [2, 3, 4, 5, 7, 8, 16, 17] v8 v := KV.tr kV_v8 (KV.up (j := 17) (x := t6) hM_v4 rfl) rfl
      have hA_f9 : KF [3, 4] f9 f := KF.tr kF_f9 hA_f5 rfl
      have hP : va_P (dC, dI) vwCl (XW cy x0 x v8 f9) H := hP
      have hD : va_D A (XW cy x0 x v8 f9) := hD
      refine lv_iconst (v := 1) hx hb dX6_unit_106 rfl ?_
      exact ret 1 (v8, f9) _ _ _ _ _ _ rfl ⟨(gsX_X6_unit_3_q0 c1 c2 hG3 et6 hG7), hM_v8, hA_f9, hIv8, (hk0_v8.trans hk0_v4), (hk1_v8.trans hk1_v4), (hk9_v8.trans hk9_v4), (hk10_v8.trans hk10_v4), (hk31_v8.trans hk31_v4), (hk32_v8.trans hk32_v4), (Or.inl rfl)⟩ hP hD hS dX6_unit_107 (Nat.le_refl _) (Nat.le_refl _)
    · skip
      refine lv_aload_n hx hb dX6_unit_56 rfl (lv_at hl 2 rfl) ?_
      refine cbVi (n := 0) (rest := []) hx hb hml hown hts hE hP hD hS hA (sX_X6_refuse_1 NF l dC dI cy x0 x  v f hIv ) k_691 k_693 k_6 k_103 k_694 hd_yX6_refuse ⟨Nat.le_of_ble_eq_true rfl, Nat.le_of_ble_eq_true rfl⟩ 3 6 rfl rfl (rfl) hl.1 rfl (Nat.le_of_ble_eq_true rfl) dX6_unit_57 (fun r10 u H locs hw hP hD hS => ?_)
      obtain ⟨hG11, hw⟩ := hw
      obtain ⟨v12, f13⟩ := u
      obtain ⟨kV_v12, kF_f13, hIv12, hk0_v12, hk1_v12, hk9_v12, hk10_v12, hk31_v12, hk32_v12, hw⟩ := hw
      have hM_v12 : KV [2, 3, 4, 5, 7, 8, 16, 17] v12 v := KV.tr kV_v12 hM_v rfl
      have hA_f13 : KF [3, 4] f13 f := KF.tr kF_f13 hA_f rfl
      have hP : va_P (dC, dI) vwCl (XW cy x0 x v12 f13) H := hP
      have hD : va_D A (XW cy x0 x v12 f13) := hD
      rcases hw with ⟨g14⟩ | ⟨g14⟩
      · skip
        subst g14
        exact ret 1 (v12, f13) _ _ _ _ _ _ rfl ⟨(gsX_X6_unit_3_q1 c1 c2 hG11), hM_v12, hA_f13, hIv12, hk0_v12, hk1_v12, hk9_v12, hk10_v12, hk31_v12, hk32_v12, (Or.inl rfl)⟩ hP hD hS dX6_unit_60 (Nat.le_refl _) (Nat.le_refl _)
      · skip
        subst g14
        exact ret 0 (v12, f13) _ _ _ _ _ _ rfl ⟨(gsX_X6_unit_3_q2 c1 c2 hG11), hM_v12, hA_f13, hIv12, hk0_v12, hk1_v12, hk9_v12, hk10_v12, hk31_v12, hk32_v12, (Or.inr rfl)⟩ hP hD hS dX6_unit_60 (Nat.le_refl _) (Nat.le_refl _)
  · skip
    refine lv_iload_n hx hb dX6_unit_13 rfl (lv_at hl 0 rfl) ?_
    refine lv_bipush (v := 116) hx hb dX6_unit_14 rfl ?_
    refine lv_icmp_lt (tgt := 29) hx hb dX6_unit_16 rfl (fun c15 => ?_) (fun c15 => ?_)
    · skip
      refine lv_iconst (v := 0) hx hb dX6_unit_29 rfl ?_
      refine lv_istore_n (lv' := [(3, .int 0), (2, .int (v 2)), (0, .ref (x 2)), (1, .int 2)]) hx hb dX6_unit_30 rfl hl (Nat.le_of_ble_eq_true rfl) rfl (fun ls hl => ?_)
      refine lv_iload_n hx hb dX6_unit_31 rfl (lv_at hl 0 rfl) ?_
      refine lv_if_ne (tgt := 41) hx hb dX6_unit_32 rfl (fun c0 => absurd (by decide) c0) (fun _ => ?_)
      refine lv_iload_n hx hb dX6_unit_35 rfl (lv_at hl 1 rfl) ?_
      refine lv_bipush (v := 40) hx hb dX6_unit_36 rfl ?_
      refine lv_icmp_ne (tgt := 56) hx hb dX6_unit_38 rfl (fun c16 => ?_) (fun c16 => ?_)
      · skip
        refine lv_aload_n hx hb dX6_unit_56 rfl (lv_at hl 2 rfl) ?_
        refine cbVi (n := 0) (rest := []) hx hb hml hown hts hE hP hD hS hA (sX_X6_refuse_1 NF l dC dI cy x0 x  v f hIv ) k_691 k_693 k_6 k_103 k_694 hd_yX6_refuse ⟨Nat.le_of_ble_eq_true rfl, Nat.le_of_ble_eq_true rfl⟩ 3 6 rfl rfl (rfl) hl.1 rfl (Nat.le_of_ble_eq_true rfl) dX6_unit_57 (fun r17 u H locs hw hP hD hS => ?_)
        obtain ⟨hG18, hw⟩ := hw
        obtain ⟨v19, f20⟩ := u
        obtain ⟨kV_v19, kF_f20, hIv19, hk0_v19, hk1_v19, hk9_v19, hk10_v19, hk31_v19, hk32_v19, hw⟩ := hw
        have hM_v19 : KV [2, 3, 4, 5, 7, 8, 16, 17] v19 v := KV.tr kV_v19 hM_v rfl
        have hA_f20 : KF [3, 4] f20 f := KF.tr kF_f20 hA_f rfl
        have hP : va_P (dC, dI) vwCl (XW cy x0 x v19 f20) H := hP
        have hD : va_D A (XW cy x0 x v19 f20) := hD
        rcases hw with ⟨g21⟩ | ⟨g21⟩
        · skip
          subst g21
          exact ret 1 (v19, f20) _ _ _ _ _ _ rfl ⟨(gsX_X6_unit_3_q3 c1 c15 c16 hG18), hM_v19, hA_f20, hIv19, hk0_v19, hk1_v19, hk9_v19, hk10_v19, hk31_v19, hk32_v19, (Or.inl rfl)⟩ hP hD hS dX6_unit_60 (Nat.le_refl _) (Nat.le_refl _)
        · skip
          subst g21
          exact ret 0 (v19, f20) _ _ _ _ _ _ rfl ⟨(gsX_X6_unit_3_q4 c1 c15 c16 hG18), hM_v19, hA_f20, hIv19, hk0_v19, hk1_v19, hk9_v19, hk10_v19, hk31_v19, hk32_v19, (Or.inr rfl)⟩ hP hD hS dX6_unit_60 (Nat.le_refl _) (Nat.le_refl _)
      · skip
        refine lv_aload_n hx hb dX6_unit_41 rfl (lv_at hl 2 rfl) ?_
        refine va_get (D := (dC, dI)) (ci := 6) (v := .ref (x 3)) (C := RX6) (T := TX6) (N := 7) hx hb hts inB_6 hown hE.1 hP 3 rfl rfl 1 (Nat.le_of_ble_eq_true rfl) (hts _ k_266) (fun _ h9 => h9) rfl dX6_unit_42 ?_
        refine va_getN (D := (dC, dI)) (ci := 7) (v := .ref (x 6)) (C := RX7) (T := TX7) (N := 10) hx hb hts inB_7 hown hE.1 hP 4 rfl rfl 2 (Nat.le_of_ble_eq_true rfl) (va_Nw.use rfl (hE.2 _ k_210)) (fun _ h9 => h9) rfl dX6_unit_45 ?_
        refine va_getN (D := (dC, dI)) (ci := 4) (v := .int (v 17)) (C := RX4) (T := TX4) (N := 6) hx hb hts inB_4 hown hE.1 hP 7 rfl rfl 5 (Nat.le_of_ble_eq_true rfl) (va_Nw.use rfl (hE.2 _ k_184)) (fun _ h9 => h9) rfl dX6_unit_48 ?_
        refine lv_bipush (v := 30) hx hb dX6_unit_51 rfl ?_
        refine lv_icmp_lt (tgt := 61) hx hb dX6_unit_53 rfl (fun c22 => ?_) (fun c22 => ?_)
        · skip
          refine lv_iload_n hx hb dX6_unit_61 rfl (lv_at hl 0 rfl) ?_
          refine lv_if_eq (tgt := 108) hx hb dX6_unit_62 rfl (fun _ => ?_) (fun c0 => absurd (by decide) c0)
          refine lv_iload_n hx hb dX6_unit_108 rfl (lv_at hl 3 rfl) ?_
          refine lv_bipush (v := 7) hx hb dX6_unit_109 rfl ?_
          refine lv_icmp_lt (tgt := 119) hx hb dX6_unit_111 rfl (fun _ => ?_) (fun c0 => absurd (by decide) c0)
          refine lv_aload_n hx hb dX6_unit_119 rfl (lv_at hl 2 rfl) ?_
          refine va_get (D := (dC, dI)) (ci := 6) (v := .ref (x 3)) (C := RX6) (T := TX6) (N := 7) hx hb hts inB_6 hown hE.1 hP 3 rfl rfl 1 (Nat.le_of_ble_eq_true rfl) (hts _ k_266) (fun _ h9 => h9) rfl dX6_unit_120 ?_
          refine va_getN (D := (dC, dI)) (ci := 7) (v := .ref (x 6)) (C := RX7) (T := TX7) (N := 10) hx hb hts inB_7 hown hE.1 hP 4 rfl rfl 2 (Nat.le_of_ble_eq_true rfl) (va_Nw.use rfl (hE.2 _ k_210)) (fun _ h9 => h9) rfl dX6_unit_123 ?_
          refine lv_dup hx hb dX6_unit_126 rfl ?_
          refine va_getN (D := (dC, dI)) (ci := 4) (v := .int (v 17)) (C := RX4) (T := TX4) (N := 6) hx hb hts inB_4 hown hE.1 hP 7 rfl rfl 5 (Nat.le_of_ble_eq_true rfl) (va_Nw.use rfl (hE.2 _ k_184)) (fun _ h9 => h9) rfl dX6_unit_127 ?_
          refine lv_iconst (v := 1) hx hb dX6_unit_130 rfl ?_
          refine lv_iadd hx hb dX6_unit_131 ?_
          refine lv_topi (fun t23 et23 => ?_)
          refine va_putN (D := (dC, dI)) (ci := 4) (v := .int t23) (ty := tyX4 5) (C := RX4) (T := TX4) (N := 6) hx hb hts inB_4 tyX4 tyX4_ok nmX4 hown hE.1 hP hD hS 7 rfl rfl 5 (by decide) (va_Nw.use rfl (hE.2 _ k_184)) (fun _ h9 => h9) rfl (tyX4_ok 5 (Nat.le_of_ble_eq_true rfl)) rfl rfl (Nat.le_of_ble_eq_true rfl) dX6_unit_132 (fun H locs hP hD hS => ?_)
          have hP : va_P (dC, dI) vwCl (XW cy x0 x (upd v 17 t23) f) H := hP
          have hD : va_D A (XW cy x0 x (upd v 17 t23) f) := hD
          refine lv_aload_n hx hb dX6_unit_135 rfl (lv_at hl 2 rfl) ?_
          refine va_get (D := (dC, dI)) (ci := 6) (v := .ref (x 0)) (C := RX6) (T := TX6) (N := 7) hx hb hts inB_6 hown hE.1 hP 3 rfl rfl 0 (Nat.le_of_ble_eq_true rfl) (hts _ k_265) (fun _ h9 => h9) rfl dX6_unit_136 ?_
          refine csVv (n := 0) (rest := []) hx hb hml hown hts hE hP hD hS hA hF hT (sX_X9_advance_1 NF l dC dI cy x0 x  (upd v 17 t23) f (Xu_17 (x := t23) hIv (rlo _) (rhi _)) ) k_699 k_559 k_560 k_102 k_561 hd_yX9_advance ⟨Nat.le_of_ble_eq_true rfl, Nat.le_of_ble_eq_true rfl⟩ 1 9 rfl rfl (rfl) hl.1 rfl (Nat.le_of_ble_eq_true rfl) dX6_unit_139 (fun u H locs hw hP hD hS => ?_)
          obtain ⟨hG25, hw⟩ := hw
          obtain ⟨v26, f27⟩ := u
          obtain ⟨kV_v26, kF_f27, hIv26, hk0_v26, hk1_v26, hk7_v26, hk8_v26, hk9_v26, hk10_v26, hk31_v26, hk32_v26⟩ := hw
          have hM_v26 : KV [2, 3, 4, 5, 7, 8, 16, 17] v26 v := KV.tr kV_v26 (KV.up (j := 17) (x := t23) hM_v rfl) rfl
          have hA_f27 : KF [3, 4] f27 f := KF.tr kF_f27 hA_f rfl
          have hP : va_P (dC, dI) vwCl (XW cy x0 x v26 f27) H := hP
          have hD : va_D A (XW cy x0 x v26 f27) := hD
          refine lv_aload_n hx hb dX6_unit_142 rfl (lv_at hl 2 rfl) ?_
          refine lv_iconst (v := 0) hx hb dX6_unit_143 rfl ?_
          refine lv_iload_n hx hb dX6_unit_144 rfl (lv_at hl 3 rfl) ?_
          refine lv_iconst (v := 1) hx hb dX6_unit_145 rfl ?_
          refine lv_iadd hx hb dX6_unit_146 ?_
          refine tI (y := 3) (by decide) ?_
          refine csVi (n := 2) (rest := []) hx hb hml hown hts hE hP hD hS hA hF hT (sX_X6_expression_19 NF l dC dI cy x0 x  v26 f27 hIv26 ) k_740 k_742 k_15 k_103 k_743 hd_yX6_expression ⟨Nat.le_of_ble_eq_true rfl, Nat.le_of_ble_eq_true rfl⟩ 3 6 rfl rfl (rfl) hl.1 rfl (Nat.le_of_ble_eq_true rfl) dX6_unit_147 (fun r28 u H locs hw hP hD hS => ?_)
          obtain ⟨hG29, hw⟩ := hw
          obtain ⟨v30, f31⟩ := u
          obtain ⟨kV_v30, kF_f31, hIv30, hk0_v30, hk1_v30, hk9_v30, hk10_v30, hk31_v30, hk32_v30, hw⟩ := hw
          have hM_v30 : KV [2, 3, 4, 5, 7, 8, 16, 17] v30 v := KV.tr kV_v30 hM_v26 rfl
          have hA_f31 : KF [3, 4] f31 f := KF.tr kF_f31 hA_f27 rfl
          have hP : va_P (dC, dI) vwCl (XW cy x0 x v30 f31) H := hP
          have hD : va_D A (XW cy x0 x v30 f31) := hD
          rcases hw with ⟨g32⟩ | ⟨g32⟩
          · skip
            subst g32
            refine lv_if_eq (tgt := 166) hx hb dX6_unit_150 rfl (fun c0 => absurd c0 (by decide)) (fun _ => ?_)
            refine lv_aload_n hx hb dX6_unit_153 rfl (lv_at hl 2 rfl) ?_
            refine lv_bipush (v := 41) hx hb dX6_unit_154 rfl ?_
            refine csVi (n := 1) (rest := []) hx hb hml hown hts hE hP hD hS hA hF hT (sX_X6_taken_1 NF l dC dI cy x0 x 41 v30 f31 hIv30 ) k_724 k_726 k_12 k_103 k_727 hd_yX6_taken ⟨Nat.le_of_ble_eq_true rfl, Nat.le_of_ble_eq_true rfl⟩ 3 6 rfl rfl (rfl) hl.1 rfl (Nat.le_of_ble_eq_true rfl) dX6_unit_156 (fun r33 u H locs hw hP hD hS => ?_)
            obtain ⟨hG34, hw⟩ := hw
            obtain ⟨v35, f36⟩ := u
            obtain ⟨kV_v35, kF_f36, hIv35, hk0_v35, hk1_v35, hk9_v35, hk10_v35, hk31_v35, hk32_v35, hw⟩ := hw
            have hM_v35 : KV [2, 3, 4, 5, 7, 8, 16, 17] v35 v := KV.tr kV_v35 hM_v30 rfl
            have hA_f36 : KF [3, 4] f36 f := KF.tr kF_f36 hA_f31 rfl
            have hP : va_P (dC, dI) vwCl (XW cy x0 x v35 f36) H := hP
            have hD : va_D A (XW cy x0 x v35 f36) := hD
            rcases hw with ⟨g37⟩ | ⟨g37⟩
            · skip
              subst g37
              refine lv_if_eq (tgt := 166) hx hb dX6_unit_159 rfl (fun c0 => absurd c0 (by decide)) (fun _ => ?_)
              refine lv_iconst (v := 1) hx hb dX6_unit_162 rfl ?_
              refine lv_goto (tgt := 167) hx hb dX6_unit_163 rfl ?_
              exact ret 1 (v35, f36) _ _ _ _ _ _ rfl ⟨(gsX_X6_unit_3_q5 c1 c15 c16 c22 et23 hG25 hG29 hG34), hM_v35, hA_f36, hIv35, (hk0_v35.trans (hk0_v30.trans hk0_v26)), (hk1_v35.trans (hk1_v30.trans hk1_v26)), (hk9_v35.trans (hk9_v30.trans hk9_v26)), (hk10_v35.trans (hk10_v30.trans hk10_v26)), (hk31_v35.trans (hk31_v30.trans hk31_v26)), (hk32_v35.trans (hk32_v30.trans hk32_v26)), (Or.inl rfl)⟩ hP hD hS dX6_unit_167 (Nat.le_refl _) (Nat.le_refl _)
            · skip
              subst g37
              refine lv_if_eq (tgt := 166) hx hb dX6_unit_159 rfl (fun _ => ?_) (fun c0 => absurd (by decide) c0)
              refine lv_iconst (v := 0) hx hb dX6_unit_166 rfl ?_
              exact ret 0 (v35, f36) _ _ _ _ _ _ rfl ⟨(gsX_X6_unit_3_q6 c1 c15 c16 c22 et23 hG25 hG29 hG34), hM_v35, hA_f36, hIv35, (hk0_v35.trans (hk0_v30.trans hk0_v26)), (hk1_v35.trans (hk1_v30.trans hk1_v26)), (hk9_v35.trans (hk9_v30.trans hk9_v26)), (hk10_v35.trans (hk10_v30.trans hk10_v26)), (hk31_v35.trans (hk31_v30.trans hk31_v26)), (hk32_v35.trans (hk32_v30.trans hk32_v26)), (Or.inr rfl)⟩ hP hD hS dX6_unit_167 (Nat.le_refl _) (Nat.le_refl _)
          · skip
            subst g32
            refine lv_if_eq (tgt := 166) hx hb dX6_unit_150 rfl (fun _ => ?_) (fun c0 => absurd (by decide) c0)
            refine lv_iconst (v := 0) hx hb dX6_unit_166 rfl ?_
            exact ret 0 (v30, f31) _ _ _ _ _ _ rfl ⟨(gsX_X6_unit_3_q7 c1 c15 c16 c22 et23 hG25 hG29), hM_v30, hA_f31, hIv30, (hk0_v30.trans hk0_v26), (hk1_v30.trans hk1_v26), (hk9_v30.trans hk9_v26), (hk10_v30.trans hk10_v26), (hk31_v30.trans hk31_v26), (hk32_v30.trans hk32_v26), (Or.inr rfl)⟩ hP hD hS dX6_unit_167 (Nat.le_refl _) (Nat.le_refl _)
        · skip
          refine lv_aload_n hx hb dX6_unit_56 rfl (lv_at hl 2 rfl) ?_
          refine cbVi (n := 0) (rest := []) hx hb hml hown hts hE hP hD hS hA (sX_X6_refuse_1 NF l dC dI cy x0 x  v f hIv ) k_691 k_693 k_6 k_103 k_694 hd_yX6_refuse ⟨Nat.le_of_ble_eq_true rfl, Nat.le_of_ble_eq_true rfl⟩ 3 6 rfl rfl (rfl) hl.1 rfl (Nat.le_of_ble_eq_true rfl) dX6_unit_57 (fun r38 u H locs hw hP hD hS => ?_)
          obtain ⟨hG39, hw⟩ := hw
          obtain ⟨v40, f41⟩ := u
          obtain ⟨kV_v40, kF_f41, hIv40, hk0_v40, hk1_v40, hk9_v40, hk10_v40, hk31_v40, hk32_v40, hw⟩ := hw
          have hM_v40 : KV [2, 3, 4, 5, 7, 8, 16, 17] v40 v := KV.tr kV_v40 hM_v rfl
          have hA_f41 : KF [3, 4] f41 f := KF.tr kF_f41 hA_f rfl
          have hP : va_P (dC, dI) vwCl (XW cy x0 x v40 f41) H := hP
          have hD : va_D A (XW cy x0 x v40 f41) := hD
          rcases hw with ⟨g42⟩ | ⟨g42⟩
          · skip
            subst g42
            exact ret 1 (v40, f41) _ _ _ _ _ _ rfl ⟨(gsX_X6_unit_3_q8 c1 c15 c16 c22 hG39), hM_v40, hA_f41, hIv40, hk0_v40, hk1_v40, hk9_v40, hk10_v40, hk31_v40, hk32_v40, (Or.inl rfl)⟩ hP hD hS dX6_unit_60 (Nat.le_refl _) (Nat.le_refl _)
          · skip
            subst g42
            exact ret 0 (v40, f41) _ _ _ _ _ _ rfl ⟨(gsX_X6_unit_3_q9 c1 c15 c16 c22 hG39), hM_v40, hA_f41, hIv40, hk0_v40, hk1_v40, hk9_v40, hk10_v40, hk31_v40, hk32_v40, (Or.inr rfl)⟩ hP hD hS dX6_unit_60 (Nat.le_refl _) (Nat.le_refl _)
    · skip
      refine lv_iload_n hx hb dX6_unit_19 rfl (lv_at hl 0 rfl) ?_
      refine lv_bipush (v := 121) hx hb dX6_unit_20 rfl ?_
      refine lv_icmp_gt (tgt := 29) hx hb dX6_unit_22 rfl (fun c43 => ?_) (fun c43 => ?_)
      · skip
        refine lv_iconst (v := 0) hx hb dX6_unit_29 rfl ?_
        refine lv_istore_n (lv' := [(3, .int 0), (2, .int (v 2)), (0, .ref (x 2)), (1, .int 2)]) hx hb dX6_unit_30 rfl hl (Nat.le_of_ble_eq_true rfl) rfl (fun ls hl => ?_)
        refine lv_iload_n hx hb dX6_unit_31 rfl (lv_at hl 0 rfl) ?_
        refine lv_if_ne (tgt := 41) hx hb dX6_unit_32 rfl (fun c0 => absurd (by decide) c0) (fun _ => ?_)
        refine lv_iload_n hx hb dX6_unit_35 rfl (lv_at hl 1 rfl) ?_
        refine lv_bipush (v := 40) hx hb dX6_unit_36 rfl ?_
        refine lv_icmp_ne (tgt := 56) hx hb dX6_unit_38 rfl (fun c44 => ?_) (fun c44 => ?_)
        · skip
          refine lv_aload_n hx hb dX6_unit_56 rfl (lv_at hl 2 rfl) ?_
          refine cbVi (n := 0) (rest := []) hx hb hml hown hts hE hP hD hS hA (sX_X6_refuse_1 NF l dC dI cy x0 x  v f hIv ) k_691 k_693 k_6 k_103 k_694 hd_yX6_refuse ⟨Nat.le_of_ble_eq_true rfl, Nat.le_of_ble_eq_true rfl⟩ 3 6 rfl rfl (rfl) hl.1 rfl (Nat.le_of_ble_eq_true rfl) dX6_unit_57 (fun r45 u H locs hw hP hD hS => ?_)
          obtain ⟨hG46, hw⟩ := hw
          obtain ⟨v47, f48⟩ := u
          obtain ⟨kV_v47, kF_f48, hIv47, hk0_v47, hk1_v47, hk9_v47, hk10_v47, hk31_v47, hk32_v47, hw⟩ := hw
          have hM_v47 : KV [2, 3, 4, 5, 7, 8, 16, 17] v47 v := KV.tr kV_v47 hM_v rfl
          have hA_f48 : KF [3, 4] f48 f := KF.tr kF_f48 hA_f rfl
          have hP : va_P (dC, dI) vwCl (XW cy x0 x v47 f48) H := hP
          have hD : va_D A (XW cy x0 x v47 f48) := hD
          rcases hw with ⟨g49⟩ | ⟨g49⟩
          · skip
            subst g49
            exact ret 1 (v47, f48) _ _ _ _ _ _ rfl ⟨(gsX_X6_unit_3_q10 c1 c15 c43 c44 hG46), hM_v47, hA_f48, hIv47, hk0_v47, hk1_v47, hk9_v47, hk10_v47, hk31_v47, hk32_v47, (Or.inl rfl)⟩ hP hD hS dX6_unit_60 (Nat.le_refl _) (Nat.le_refl _)
          · skip
            subst g49
            exact ret 0 (v47, f48) _ _ _ _ _ _ rfl ⟨(gsX_X6_unit_3_q11 c1 c15 c43 c44 hG46), hM_v47, hA_f48, hIv47, hk0_v47, hk1_v47, hk9_v47, hk10_v47, hk31_v47, hk32_v47, (Or.inr rfl)⟩ hP hD hS dX6_unit_60 (Nat.le_refl _) (Nat.le_refl _)
        · skip
          refine lv_aload_n hx hb dX6_unit_41 rfl (lv_at hl 2 rfl) ?_
          refine va_get (D := (dC, dI)) (ci := 6) (v := .ref (x 3)) (C := RX6) (T := TX6) (N := 7) hx hb hts inB_6 hown hE.1 hP 3 rfl rfl 1 (Nat.le_of_ble_eq_true rfl) (hts _ k_266) (fun _ h9 => h9) rfl dX6_unit_42 ?_
          refine va_getN (D := (dC, dI)) (ci := 7) (v := .ref (x 6)) (C := RX7) (T := TX7) (N := 10) hx hb hts inB_7 hown hE.1 hP 4 rfl rfl 2 (Nat.le_of_ble_eq_true rfl) (va_Nw.use rfl (hE.2 _ k_210)) (fun _ h9 => h9) rfl dX6_unit_45 ?_
          refine va_getN (D := (dC, dI)) (ci := 4) (v := .int (v 17)) (C := RX4) (T := TX4) (N := 6) hx hb hts inB_4 hown hE.1 hP 7 rfl rfl 5 (Nat.le_of_ble_eq_true rfl) (va_Nw.use rfl (hE.2 _ k_184)) (fun _ h9 => h9) rfl dX6_unit_48 ?_
          refine lv_bipush (v := 30) hx hb dX6_unit_51 rfl ?_
          refine lv_icmp_lt (tgt := 61) hx hb dX6_unit_53 rfl (fun c50 => ?_) (fun c50 => ?_)
          · skip
            refine lv_iload_n hx hb dX6_unit_61 rfl (lv_at hl 0 rfl) ?_
            refine lv_if_eq (tgt := 108) hx hb dX6_unit_62 rfl (fun _ => ?_) (fun c0 => absurd (by decide) c0)
            refine lv_iload_n hx hb dX6_unit_108 rfl (lv_at hl 3 rfl) ?_
            refine lv_bipush (v := 7) hx hb dX6_unit_109 rfl ?_
            refine lv_icmp_lt (tgt := 119) hx hb dX6_unit_111 rfl (fun _ => ?_) (fun c0 => absurd (by decide) c0)
            refine lv_aload_n hx hb dX6_unit_119 rfl (lv_at hl 2 rfl) ?_
            refine va_get (D := (dC, dI)) (ci := 6) (v := .ref (x 3)) (C := RX6) (T := TX6) (N := 7) hx hb hts inB_6 hown hE.1 hP 3 rfl rfl 1 (Nat.le_of_ble_eq_true rfl) (hts _ k_266) (fun _ h9 => h9) rfl dX6_unit_120 ?_
            refine va_getN (D := (dC, dI)) (ci := 7) (v := .ref (x 6)) (C := RX7) (T := TX7) (N := 10) hx hb hts inB_7 hown hE.1 hP 4 rfl rfl 2 (Nat.le_of_ble_eq_true rfl) (va_Nw.use rfl (hE.2 _ k_210)) (fun _ h9 => h9) rfl dX6_unit_123 ?_
            refine lv_dup hx hb dX6_unit_126 rfl ?_
            refine va_getN (D := (dC, dI)) (ci := 4) (v := .int (v 17)) (C := RX4) (T := TX4) (N := 6) hx hb hts inB_4 hown hE.1 hP 7 rfl rfl 5 (Nat.le_of_ble_eq_true rfl) (va_Nw.use rfl (hE.2 _ k_184)) (fun _ h9 => h9) rfl dX6_unit_127 ?_
            refine lv_iconst (v := 1) hx hb dX6_unit_130 rfl ?_
            refine lv_iadd hx hb dX6_unit_131 ?_
            refine lv_topi (fun t51 et51 => ?_)
            refine va_putN (D := (dC, dI)) (ci := 4) (v := .int t51) (ty := tyX4 5) (C := RX4) (T := TX4) (N := 6) hx hb hts inB_4 tyX4 tyX4_ok nmX4 hown hE.1 hP hD hS 7 rfl rfl 5 (by decide) (va_Nw.use rfl (hE.2 _ k_184)) (fun _ h9 => h9) rfl (tyX4_ok 5 (Nat.le_of_ble_eq_true rfl)) rfl rfl (Nat.le_of_ble_eq_true rfl) dX6_unit_132 (fun H locs hP hD hS => ?_)
            have hP : va_P (dC, dI) vwCl (XW cy x0 x (upd v 17 t51) f) H := hP
            have hD : va_D A (XW cy x0 x (upd v 17 t51) f) := hD
            refine lv_aload_n hx hb dX6_unit_135 rfl (lv_at hl 2 rfl) ?_
            refine va_get (D := (dC, dI)) (ci := 6) (v := .ref (x 0)) (C := RX6) (T := TX6) (N := 7) hx hb hts inB_6 hown hE.1 hP 3 rfl rfl 0 (Nat.le_of_ble_eq_true rfl) (hts _ k_265) (fun _ h9 => h9) rfl dX6_unit_136 ?_
            refine csVv (n := 0) (rest := []) hx hb hml hown hts hE hP hD hS hA hF hT (sX_X9_advance_1 NF l dC dI cy x0 x  (upd v 17 t51) f (Xu_17 (x := t51) hIv (rlo _) (rhi _)) ) k_699 k_559 k_560 k_102 k_561 hd_yX9_advance ⟨Nat.le_of_ble_eq_true rfl, Nat.le_of_ble_eq_true rfl⟩ 1 9 rfl rfl (rfl) hl.1 rfl (Nat.le_of_ble_eq_true rfl) dX6_unit_139 (fun u H locs hw hP hD hS => ?_)
            obtain ⟨hG53, hw⟩ := hw
            obtain ⟨v54, f55⟩ := u
            obtain ⟨kV_v54, kF_f55, hIv54, hk0_v54, hk1_v54, hk7_v54, hk8_v54, hk9_v54, hk10_v54, hk31_v54, hk32_v54⟩ := hw
            have hM_v54 : KV [2, 3, 4, 5, 7, 8, 16, 17] v54 v := KV.tr kV_v54 (KV.up (j := 17) (x := t51) hM_v rfl) rfl
            have hA_f55 : KF [3, 4] f55 f := KF.tr kF_f55 hA_f rfl
            have hP : va_P (dC, dI) vwCl (XW cy x0 x v54 f55) H := hP
            have hD : va_D A (XW cy x0 x v54 f55) := hD
            refine lv_aload_n hx hb dX6_unit_142 rfl (lv_at hl 2 rfl) ?_
            refine lv_iconst (v := 0) hx hb dX6_unit_143 rfl ?_
            refine lv_iload_n hx hb dX6_unit_144 rfl (lv_at hl 3 rfl) ?_
            refine lv_iconst (v := 1) hx hb dX6_unit_145 rfl ?_
            refine lv_iadd hx hb dX6_unit_146 ?_
            refine tI (y := 3) (by decide) ?_
            refine csVi (n := 2) (rest := []) hx hb hml hown hts hE hP hD hS hA hF hT (sX_X6_expression_19 NF l dC dI cy x0 x  v54 f55 hIv54 ) k_740 k_742 k_15 k_103 k_743 hd_yX6_expression ⟨Nat.le_of_ble_eq_true rfl, Nat.le_of_ble_eq_true rfl⟩ 3 6 rfl rfl (rfl) hl.1 rfl (Nat.le_of_ble_eq_true rfl) dX6_unit_147 (fun r56 u H locs hw hP hD hS => ?_)
            obtain ⟨hG57, hw⟩ := hw
            obtain ⟨v58, f59⟩ := u
            obtain ⟨kV_v58, kF_f59, hIv58, hk0_v58, hk1_v58, hk9_v58, hk10_v58, hk31_v58, hk32_v58, hw⟩ := hw
            have hM_v58 : KV [2, 3, 4, 5, 7, 8, 16, 17] v58 v := KV.tr kV_v58 hM_v54 rfl
            have hA_f59 : KF [3, 4] f59 f := KF.tr kF_f59 hA_f55 rfl
            have hP : va_P (dC, dI) vwCl (XW cy x0 x v58 f59) H := hP
            have hD : va_D A (XW cy x0 x v58 f59) := hD
            rcases hw with ⟨g60⟩ | ⟨g60⟩
            · skip
              subst g60
              refine lv_if_eq (tgt := 166) hx hb dX6_unit_150 rfl (fun c0 => absurd c0 (by decide)) (fun _ => ?_)
              refine lv_aload_n hx hb dX6_unit_153 rfl (lv_at hl 2 rfl) ?_
              refine lv_bipush (v := 41) hx hb dX6_unit_154 rfl ?_
              refine csVi (n := 1) (rest := []) hx hb hml hown hts hE hP hD hS hA hF hT (sX_X6_taken_1 NF l dC dI cy x0 x 41 v58 f59 hIv58 ) k_724 k_726 k_12 k_103 k_727 hd_yX6_taken ⟨Nat.le_of_ble_eq_true rfl, Nat.le_of_ble_eq_true rfl⟩ 3 6 rfl rfl (rfl) hl.1 rfl (Nat.le_of_ble_eq_true rfl) dX6_unit_156 (fun r61 u H locs hw hP hD hS => ?_)
              obtain ⟨hG62, hw⟩ := hw
              obtain ⟨v63, f64⟩ := u
              obtain ⟨kV_v63, kF_f64, hIv63, hk0_v63, hk1_v63, hk9_v63, hk10_v63, hk31_v63, hk32_v63, hw⟩ := hw
              have hM_v63 : KV [2, 3, 4, 5, 7, 8, 16, 17] v63 v := KV.tr kV_v63 hM_v58 rfl
              have hA_f64 : KF [3, 4] f64 f := KF.tr kF_f64 hA_f59 rfl
              have hP : va_P (dC, dI) vwCl (XW cy x0 x v63 f64) H := hP
              have hD : va_D A (XW cy x0 x v63 f64) := hD
              rcases hw with ⟨g65⟩ | ⟨g65⟩
              · skip
                subst g65
                refine lv_if_eq (tgt := 166) hx hb dX6_unit_159 rfl (fun c0 => absurd c0 (by decide)) (fun _ => ?_)
                refine lv_iconst (v := 1) hx hb dX6_unit_162 rfl ?_
                refine lv_goto (tgt := 167) hx hb dX6_unit_163 rfl ?_
                exact ret 1 (v63, f64) _ _ _ _ _ _ rfl ⟨(gsX_X6_unit_3_q12 c1 c15 c43 c44 c50 et51 hG53 hG57 hG62), hM_v63, hA_f64, hIv63, (hk0_v63.trans (hk0_v58.trans hk0_v54)), (hk1_v63.trans (hk1_v58.trans hk1_v54)), (hk9_v63.trans (hk9_v58.trans hk9_v54)), (hk10_v63.trans (hk10_v58.trans hk10_v54)), (hk31_v63.trans (hk31_v58.trans hk31_v54)), (hk32_v63.trans (hk32_v58.trans hk32_v54)), (Or.inl rfl)⟩ hP hD hS dX6_unit_167 (Nat.le_refl _) (Nat.le_refl _)
              · skip
                subst g65
                refine lv_if_eq (tgt := 166) hx hb dX6_unit_159 rfl (fun _ => ?_) (fun c0 => absurd (by decide) c0)
                refine lv_iconst (v := 0) hx hb dX6_unit_166 rfl ?_
                exact ret 0 (v63, f64) _ _ _ _ _ _ rfl ⟨(gsX_X6_unit_3_q13 c1 c15 c43 c44 c50 et51 hG53 hG57 hG62), hM_v63, hA_f64, hIv63, (hk0_v63.trans (hk0_v58.trans hk0_v54)), (hk1_v63.trans (hk1_v58.trans hk1_v54)), (hk9_v63.trans (hk9_v58.trans hk9_v54)), (hk10_v63.trans (hk10_v58.trans hk10_v54)), (hk31_v63.trans (hk31_v58.trans hk31_v54)), (hk32_v63.trans (hk32_v58.trans hk32_v54)), (Or.inr rfl)⟩ hP hD hS dX6_unit_167 (Nat.le_refl _) (Nat.le_refl _)
            · skip
              subst g60
              refine lv_if_eq (tgt := 166) hx hb dX6_unit_150 rfl (fun _ => ?_) (fun c0 => absurd (by decide) c0)
              refine lv_iconst (v := 0) hx hb dX6_unit_166 rfl ?_
              exact ret 0 (v58, f59) _ _ _ _ _ _ rfl ⟨(gsX_X6_unit_3_q14 c1 c15 c43 c44 c50 et51 hG53 hG57), hM_v58, hA_f59, hIv58, (hk0_v58.trans hk0_v54), (hk1_v58.trans hk1_v54), (hk9_v58.trans hk9_v54), (hk10_v58.trans hk10_v54), (hk31_v58.trans hk31_v54), (hk32_v58.trans hk32_v54), (Or.inr rfl)⟩ hP hD hS dX6_unit_167 (Nat.le_refl _) (Nat.le_refl _)
          · skip
            refine lv_aload_n hx hb dX6_unit_56 rfl (lv_at hl 2 rfl) ?_
            refine cbVi (n := 0) (rest := []) hx hb hml hown hts hE hP hD hS hA (sX_X6_refuse_1 NF l dC dI cy x0 x  v f hIv ) k_691 k_693 k_6 k_103 k_694 hd_yX6_refuse ⟨Nat.le_of_ble_eq_true rfl, Nat.le_of_ble_eq_true rfl⟩ 3 6 rfl rfl (rfl) hl.1 rfl (Nat.le_of_ble_eq_true rfl) dX6_unit_57 (fun r66 u H locs hw hP hD hS => ?_)
            obtain ⟨hG67, hw⟩ := hw
            obtain ⟨v68, f69⟩ := u
            obtain ⟨kV_v68, kF_f69, hIv68, hk0_v68, hk1_v68, hk9_v68, hk10_v68, hk31_v68, hk32_v68, hw⟩ := hw
            have hM_v68 : KV [2, 3, 4, 5, 7, 8, 16, 17] v68 v := KV.tr kV_v68 hM_v rfl
            have hA_f69 : KF [3, 4] f69 f := KF.tr kF_f69 hA_f rfl
            have hP : va_P (dC, dI) vwCl (XW cy x0 x v68 f69) H := hP
            have hD : va_D A (XW cy x0 x v68 f69) := hD
            rcases hw with ⟨g70⟩ | ⟨g70⟩
            · skip
              subst g70
              exact ret 1 (v68, f69) _ _ _ _ _ _ rfl ⟨(gsX_X6_unit_3_q15 c1 c15 c43 c44 c50 hG67), hM_v68, hA_f69, hIv68, hk0_v68, hk1_v68, hk9_v68, hk10_v68, hk31_v68, hk32_v68, (Or.inl rfl)⟩ hP hD hS dX6_unit_60 (Nat.le_refl _) (Nat.le_refl _)
            · skip
              subst g70
              exact ret 0 (v68, f69) _ _ _ _ _ _ rfl ⟨(gsX_X6_unit_3_q16 c1 c15 c43 c44 c50 hG67), hM_v68, hA_f69, hIv68, hk0_v68, hk1_v68, hk9_v68, hk10_v68, hk31_v68, hk32_v68, (Or.inr rfl)⟩ hP hD hS dX6_unit_60 (Nat.le_refl _) (Nat.le_refl _)
      · skip
        refine lv_iconst (v := 1) hx hb dX6_unit_25 rfl ?_
        refine lv_goto (tgt := 30) hx hb dX6_unit_26 rfl ?_
        refine lv_istore_n (lv' := [(3, .int 1), (2, .int (v 2)), (0, .ref (x 2)), (1, .int 2)]) hx hb dX6_unit_30 rfl hl (Nat.le_of_ble_eq_true rfl) rfl (fun ls hl => ?_)
        refine lv_iload_n hx hb dX6_unit_31 rfl (lv_at hl 0 rfl) ?_
        refine lv_if_ne (tgt := 41) hx hb dX6_unit_32 rfl (fun _ => ?_) (fun c0 => absurd c0 (by decide))
        refine lv_aload_n hx hb dX6_unit_41 rfl (lv_at hl 2 rfl) ?_
        refine va_get (D := (dC, dI)) (ci := 6) (v := .ref (x 3)) (C := RX6) (T := TX6) (N := 7) hx hb hts inB_6 hown hE.1 hP 3 rfl rfl 1 (Nat.le_of_ble_eq_true rfl) (hts _ k_266) (fun _ h9 => h9) rfl dX6_unit_42 ?_
        refine va_getN (D := (dC, dI)) (ci := 7) (v := .ref (x 6)) (C := RX7) (T := TX7) (N := 10) hx hb hts inB_7 hown hE.1 hP 4 rfl rfl 2 (Nat.le_of_ble_eq_true rfl) (va_Nw.use rfl (hE.2 _ k_210)) (fun _ h9 => h9) rfl dX6_unit_45 ?_
        refine va_getN (D := (dC, dI)) (ci := 4) (v := .int (v 17)) (C := RX4) (T := TX4) (N := 6) hx hb hts inB_4 hown hE.1 hP 7 rfl rfl 5 (Nat.le_of_ble_eq_true rfl) (va_Nw.use rfl (hE.2 _ k_184)) (fun _ h9 => h9) rfl dX6_unit_48 ?_
        refine lv_bipush (v := 30) hx hb dX6_unit_51 rfl ?_
        refine lv_icmp_lt (tgt := 61) hx hb dX6_unit_53 rfl (fun c71 => ?_) (fun c71 => ?_)
        · skip
          refine lv_iload_n hx hb dX6_unit_61 rfl (lv_at hl 0 rfl) ?_
          refine lv_if_eq (tgt := 108) hx hb dX6_unit_62 rfl (fun c0 => absurd c0 (by decide)) (fun _ => ?_)
          refine lv_aload_n hx hb dX6_unit_65 rfl (lv_at hl 2 rfl) ?_
          refine va_get (D := (dC, dI)) (ci := 6) (v := .ref (x 3)) (C := RX6) (T := TX6) (N := 7) hx hb hts inB_6 hown hE.1 hP 3 rfl rfl 1 (Nat.le_of_ble_eq_true rfl) (hts _ k_266) (fun _ h9 => h9) rfl dX6_unit_66 ?_
          refine va_getN (D := (dC, dI)) (ci := 7) (v := .ref (x 6)) (C := RX7) (T := TX7) (N := 10) hx hb hts inB_7 hown hE.1 hP 4 rfl rfl 2 (Nat.le_of_ble_eq_true rfl) (va_Nw.use rfl (hE.2 _ k_210)) (fun _ h9 => h9) rfl dX6_unit_69 ?_
          refine lv_iload_n hx hb dX6_unit_72 rfl (lv_at hl 1 rfl) ?_
          refine lv_aload_n hx hb dX6_unit_73 rfl (lv_at hl 2 rfl) ?_
          refine va_get (D := (dC, dI)) (ci := 6) (v := .ref (x 0)) (C := RX6) (T := TX6) (N := 7) hx hb hts inB_6 hown hE.1 hP 3 rfl rfl 0 (Nat.le_of_ble_eq_true rfl) (hts _ k_265) (fun _ h9 => h9) rfl dX6_unit_74 ?_
          refine va_getN (D := (dC, dI)) (ci := 9) (v := .int (v 5)) (C := RX9) (T := TX9) (N := 6) hx hb hts inB_9 hown hE.1 hP 1 rfl rfl 5 (Nat.le_of_ble_eq_true rfl) (va_Nw.use rfl (hE.2 _ k_145)) (fun _ h9 => h9) rfl dX6_unit_77 ?_
          refine cbVv (n := 2) (rest := []) hx hb hml hown hts hE hP hD hS hA (sX_X4_add_1 NF l dC dI cy x0 x (v 2) (v 5) v f hIv ) k_748 k_749 k_750 k_105 k_751 hd_yX4_add ⟨Nat.le_of_ble_eq_true rfl, Nat.le_of_ble_eq_true rfl⟩ 7 4 rfl rfl (rfl) hl.1 rfl (Nat.le_of_ble_eq_true rfl) dX6_unit_80 (fun u H locs hw hP hD hS => ?_)
          obtain ⟨hG72, hw⟩ := hw
          obtain ⟨v73, f74⟩ := u
          obtain ⟨kV_v73, kF_f74, hIv73, hk0_v73, hk1_v73, hk7_v73, hk8_v73, hk9_v73, hk10_v73, hk31_v73, hk32_v73⟩ := hw
          have hM_v73 : KV [2, 3, 4, 5, 7, 8, 16, 17] v73 v := KV.tr kV_v73 hM_v rfl
          have hA_f74 : KF [3, 4] f74 f := KF.tr kF_f74 hA_f rfl
          have hP : va_P (dC, dI) vwCl (XW cy x0 x v73 f74) H := hP
          have hD : va_D A (XW cy x0 x v73 f74) := hD
          refine lv_aload_n hx hb dX6_unit_83 rfl (lv_at hl 2 rfl) ?_
          refine va_get (D := (dC, dI)) (ci := 6) (v := .ref (x 3)) (C := RX6) (T := TX6) (N := 7) hx hb hts inB_6 hown hE.1 hP 3 rfl rfl 1 (Nat.le_of_ble_eq_true rfl) (hts _ k_266) (fun _ h9 => h9) rfl dX6_unit_84 ?_
          refine va_getN (D := (dC, dI)) (ci := 7) (v := .ref (x 6)) (C := RX7) (T := TX7) (N := 10) hx hb hts inB_7 hown hE.1 hP 4 rfl rfl 2 (Nat.le_of_ble_eq_true rfl) (va_Nw.use rfl (hE.2 _ k_210)) (fun _ h9 => h9) rfl dX6_unit_87 ?_
          refine lv_dup hx hb dX6_unit_90 rfl ?_
          refine va_getN (D := (dC, dI)) (ci := 4) (v := .int (v73 17)) (C := RX4) (T := TX4) (N := 6) hx hb hts inB_4 hown hE.1 hP 7 rfl rfl 5 (Nat.le_of_ble_eq_true rfl) (va_Nw.use rfl (hE.2 _ k_184)) (fun _ h9 => h9) rfl dX6_unit_91 ?_
          refine lv_iconst (v := 1) hx hb dX6_unit_94 rfl ?_
          refine lv_iadd hx hb dX6_unit_95 ?_
          refine lv_topi (fun t75 et75 => ?_)
          refine va_putN (D := (dC, dI)) (ci := 4) (v := .int t75) (ty := tyX4 5) (C := RX4) (T := TX4) (N := 6) hx hb hts inB_4 tyX4 tyX4_ok nmX4 hown hE.1 hP hD hS 7 rfl rfl 5 (by decide) (va_Nw.use rfl (hE.2 _ k_184)) (fun _ h9 => h9) rfl (tyX4_ok 5 (Nat.le_of_ble_eq_true rfl)) rfl rfl (Nat.le_of_ble_eq_true rfl) dX6_unit_96 (fun H locs hP hD hS => ?_)
          have hP : va_P (dC, dI) vwCl (XW cy x0 x (upd v73 17 t75) f74) H := hP
          have hD : va_D A (XW cy x0 x (upd v73 17 t75) f74) := hD
          refine lv_aload_n hx hb dX6_unit_99 rfl (lv_at hl 2 rfl) ?_
          refine va_get (D := (dC, dI)) (ci := 6) (v := .ref (x 0)) (C := RX6) (T := TX6) (N := 7) hx hb hts inB_6 hown hE.1 hP 3 rfl rfl 0 (Nat.le_of_ble_eq_true rfl) (hts _ k_265) (fun _ h9 => h9) rfl dX6_unit_100 ?_
          refine csVv (n := 0) (rest := []) hx hb hml hown hts hE hP hD hS hA hF hT (sX_X9_advance_1 NF l dC dI cy x0 x  (upd v73 17 t75) f74 (Xu_17 (x := t75) hIv73 (rlo _) (rhi _)) ) k_699 k_559 k_560 k_102 k_561 hd_yX9_advance ⟨Nat.le_of_ble_eq_true rfl, Nat.le_of_ble_eq_true rfl⟩ 1 9 rfl rfl (rfl) hl.1 rfl (Nat.le_of_ble_eq_true rfl) dX6_unit_103 (fun u H locs hw hP hD hS => ?_)
          obtain ⟨hG76, hw⟩ := hw
          obtain ⟨v77, f78⟩ := u
          obtain ⟨kV_v77, kF_f78, hIv77, hk0_v77, hk1_v77, hk7_v77, hk8_v77, hk9_v77, hk10_v77, hk31_v77, hk32_v77⟩ := hw
          have hM_v77 : KV [2, 3, 4, 5, 7, 8, 16, 17] v77 v := KV.tr kV_v77 (KV.up (j := 17) (x := t75) hM_v73 rfl) rfl
          have hA_f78 : KF [3, 4] f78 f := KF.tr kF_f78 hA_f74 rfl
          have hP : va_P (dC, dI) vwCl (XW cy x0 x v77 f78) H := hP
          have hD : va_D A (XW cy x0 x v77 f78) := hD
          refine lv_iconst (v := 1) hx hb dX6_unit_106 rfl ?_
          exact ret 1 (v77, f78) _ _ _ _ _ _ rfl ⟨(gsX_X6_unit_3_q17 c1 c15 c43 c71 hG72 et75 hG76), hM_v77, hA_f78, hIv77, (hk0_v77.trans hk0_v73), (hk1_v77.trans hk1_v73), (hk9_v77.trans hk9_v73), (hk10_v77.trans hk10_v73), (hk31_v77.trans hk31_v73), (hk32_v77.trans hk32_v73), (Or.inl rfl)⟩ hP hD hS dX6_unit_107 (Nat.le_refl _) (Nat.le_refl _)
        · skip
          refine lv_aload_n hx hb dX6_unit_56 rfl (lv_at hl 2 rfl) ?_
          refine cbVi (n := 0) (rest := []) hx hb hml hown hts hE hP hD hS hA (sX_X6_refuse_1 NF l dC dI cy x0 x  v f hIv ) k_691 k_693 k_6 k_103 k_694 hd_yX6_refuse ⟨Nat.le_of_ble_eq_true rfl, Nat.le_of_ble_eq_true rfl⟩ 3 6 rfl rfl (rfl) hl.1 rfl (Nat.le_of_ble_eq_true rfl) dX6_unit_57 (fun r79 u H locs hw hP hD hS => ?_)
          obtain ⟨hG80, hw⟩ := hw
          obtain ⟨v81, f82⟩ := u
          obtain ⟨kV_v81, kF_f82, hIv81, hk0_v81, hk1_v81, hk9_v81, hk10_v81, hk31_v81, hk32_v81, hw⟩ := hw
          have hM_v81 : KV [2, 3, 4, 5, 7, 8, 16, 17] v81 v := KV.tr kV_v81 hM_v rfl
          have hA_f82 : KF [3, 4] f82 f := KF.tr kF_f82 hA_f rfl
          have hP : va_P (dC, dI) vwCl (XW cy x0 x v81 f82) H := hP
          have hD : va_D A (XW cy x0 x v81 f82) := hD
          rcases hw with ⟨g83⟩ | ⟨g83⟩
          · skip
            subst g83
            exact ret 1 (v81, f82) _ _ _ _ _ _ rfl ⟨(gsX_X6_unit_3_q18 c1 c15 c43 c71 hG80), hM_v81, hA_f82, hIv81, hk0_v81, hk1_v81, hk9_v81, hk10_v81, hk31_v81, hk32_v81, (Or.inl rfl)⟩ hP hD hS dX6_unit_60 (Nat.le_refl _) (Nat.le_refl _)
          · skip
            subst g83
            exact ret 0 (v81, f82) _ _ _ _ _ _ rfl ⟨(gsX_X6_unit_3_q19 c1 c15 c43 c71 hG80), hM_v81, hA_f82, hIv81, hk0_v81, hk1_v81, hk9_v81, hk10_v81, hk31_v81, hk32_v81, (Or.inr rfl)⟩ hP hD hS dX6_unit_60 (Nat.le_refl _) (Nat.le_refl _)
set_option maxHeartbeats 4000000 in
set_option maxRecDepth 100000 in
theorem sX_X6_expression_18 (NF : Nat) (l : Launch) (dC : Nat → ClassId) (dI : Nat → Nat → Nat) (cy : Nat → ClassId) (x0 : Nat) (x : Nat → Nat)  (v : Nat → Int32) (f : Nat → Nat → Int32) (hIv : XI v)  : ctIS l (dC, dI) cy yX6_expression cX6_expression 6 .boolean 43 1079 0 0 ((Nat → Int32) × (Nat → Nat → Int32)) [.ref (x 2), .int 5, .int 2] (XW cy x0 x v f) (fun r u => gsX_X6_expression_18 NF v f = (r, u) ∧ KV [2, 3, 4, 5, 7, 8, 16, 17] u.1 v ∧ KF [3, 4] u.2 f ∧ XI u.1 ∧ u.1 0 = v 0 ∧ u.1 1 = v 1 ∧ u.1 9 = v 9 ∧ u.1 10 = v 10 ∧ u.1 31 = v 31 ∧ u.1 32 = v 32 ∧ ((r = 1) ∨ (r = 0))) (fun u => XW cy x0 x u.1 u.2) := by
  refine ctIS_of (by decide) (Nat.le_of_ble_eq_true rfl) (fun p e s m below meth c A ls Q hx hb hml hts hown hE hF hT hP hD hA hl ret => ?_)
  have hM_v : KV [2, 3, 4, 5, 7, 8, 16, 17] v v := fun _ _ => rfl
  have hA_f : KF [3, 4] f f := fun _ _ => rfl
  have hown : s.vm.findClass RX6 = some m.cls := hown
  have hS : va_S A s.heap s.heap [] := va_S.rf
  have hl : lv_has ls 6 [(0, .ref (x 2)), (1, .int 5), (2, .int 2)] := hl
  refine lv_iload_n hx hb dX6_expression_0 rfl (lv_at hl 1 rfl) ?_
  refine lv_iconst (v := 5) hx hb dX6_expression_1 rfl ?_
  refine lv_icmp_lt (tgt := 11) hx hb dX6_expression_2 rfl (fun c0 => absurd c0 (by decide)) (fun _ => ?_)
  refine lv_aload_n hx hb dX6_expression_5 rfl (lv_at hl 0 rfl) ?_
  refine lv_iload_n hx hb dX6_expression_6 rfl (lv_at hl 2 rfl) ?_
  refine csVi (n := 1) (rest := []) hx hb hml hown hts hE hP hD hS hA hF hT (sX_X6_unit_3 NF l dC dI cy x0 x  v f hIv ) k_744 k_746 k_16 k_103 k_747 hd_yX6_unit ⟨Nat.le_of_ble_eq_true rfl, Nat.le_of_ble_eq_true rfl⟩ 3 6 rfl rfl (rfl) hl.1 rfl (Nat.le_of_ble_eq_true rfl) dX6_expression_7 (fun r1 u H locs hw hP hD hS => ?_)
  obtain ⟨hG2, hw⟩ := hw
  obtain ⟨v3, f4⟩ := u
  obtain ⟨kV_v3, kF_f4, hIv3, hk0_v3, hk1_v3, hk9_v3, hk10_v3, hk31_v3, hk32_v3, hw⟩ := hw
  have hM_v3 : KV [2, 3, 4, 5, 7, 8, 16, 17] v3 v := KV.tr kV_v3 hM_v rfl
  have hA_f4 : KF [3, 4] f4 f := KF.tr kF_f4 hA_f rfl
  have hP : va_P (dC, dI) vwCl (XW cy x0 x v3 f4) H := hP
  have hD : va_D A (XW cy x0 x v3 f4) := hD
  have hq0_v3 : v3 0 = (v 0) := hk0_v3
  have hq1_v3 : v3 1 = (v 1) := hk1_v3
  have hq9_v3 : v3 9 = (v 9) := hk9_v3
  have hq10_v3 : v3 10 = (v 10) := hk10_v3
  have hq31_v3 : v3 31 = (v 31) := hk31_v3
  have hq32_v3 : v3 32 = (v 32) := hk32_v3
  rcases hw with ⟨g5⟩ | ⟨g5⟩
  · skip
    subst g5
    exact ret 1 (v3, f4) _ _ _ _ _ _ rfl ⟨(gsX_X6_expression_18_q0 hG2), hM_v3, hA_f4, hIv3, hk0_v3, hk1_v3, hk9_v3, hk10_v3, hk31_v3, hk32_v3, (Or.inl rfl)⟩ hP hD hS dX6_expression_10 (Nat.le_refl _) (Nat.le_refl _)
  · skip
    subst g5
    exact ret 0 (v3, f4) _ _ _ _ _ _ rfl ⟨(gsX_X6_expression_18_q1 hG2), hM_v3, hA_f4, hIv3, hk0_v3, hk1_v3, hk9_v3, hk10_v3, hk31_v3, hk32_v3, (Or.inr rfl)⟩ hP hD hS dX6_expression_10 (Nat.le_refl _) (Nat.le_refl _)
set_option maxHeartbeats 4000000 in
set_option maxRecDepth 100000 in
theorem sX_X6_expression_17 (NF : Nat) (l : Launch) (dC : Nat → ClassId) (dI : Nat → Nat → Nat) (cy : Nat → ClassId) (x0 : Nat) (x : Nat → Nat)  (v : Nat → Int32) (f : Nat → Nat → Int32) (hIv : XI v)  : ctIS l (dC, dI) cy yX6_expression cX6_expression 6 .boolean 44 1104 0 0 ((Nat → Int32) × (Nat → Nat → Int32)) [.ref (x 2), .int 4, .int 2] (XW cy x0 x v f) (fun r u => gsX_X6_expression_17 NF v f = (r, u) ∧ KV [2, 3, 4, 5, 7, 8, 16, 17] u.1 v ∧ KF [3, 4] u.2 f ∧ XI u.1 ∧ u.1 0 = v 0 ∧ u.1 1 = v 1 ∧ u.1 9 = v 9 ∧ u.1 10 = v 10 ∧ u.1 31 = v 31 ∧ u.1 32 = v 32 ∧ ((r = 1) ∨ (r = 0))) (fun u => XW cy x0 x u.1 u.2) := by
  refine ctIS_of (by decide) (Nat.le_of_ble_eq_true rfl) (fun p e s m below meth c A ls Q hx hb hml hts hown hE hF hT hP hD hA hl ret => ?_)
  have hM_v : KV [2, 3, 4, 5, 7, 8, 16, 17] v v := fun _ _ => rfl
  have hA_f : KF [3, 4] f f := fun _ _ => rfl
  have hown : s.vm.findClass RX6 = some m.cls := hown
  have hS : va_S A s.heap s.heap [] := va_S.rf
  have hl : lv_has ls 6 [(0, .ref (x 2)), (1, .int 4), (2, .int 2)] := hl
  refine lv_iload_n hx hb dX6_expression_0 rfl (lv_at hl 1 rfl) ?_
  refine lv_iconst (v := 5) hx hb dX6_expression_1 rfl ?_
  refine lv_icmp_lt (tgt := 11) hx hb dX6_expression_2 rfl (fun _ => ?_) (fun c0 => absurd (by decide) c0)
  refine lv_iload_n hx hb dX6_expression_11 rfl (lv_at hl 1 rfl) ?_
  refine lv_iconst (v := 2) hx hb dX6_expression_12 rfl ?_
  refine lv_icmp_ne (tgt := 34) hx hb dX6_expression_13 rfl (fun _ => ?_) (fun c0 => absurd c0 (by decide))
  refine lv_aload_n hx hb dX6_expression_34 rfl (lv_at hl 0 rfl) ?_
  refine lv_iload_n hx hb dX6_expression_35 rfl (lv_at hl 1 rfl) ?_
  refine lv_iconst (v := 1) hx hb dX6_expression_36 rfl ?_
  refine lv_iadd hx hb dX6_expression_37 ?_
  refine tI (y := 5) (by decide) ?_
  refine lv_iload_n hx hb dX6_expression_38 rfl (lv_at hl 2 rfl) ?_
  refine csVi (n := 2) (rest := []) hx hb hml hown hts hE hP hD hS hA hF hT (sX_X6_expression_18 NF l dC dI cy x0 x  v f hIv ) k_740 k_742 k_15 k_103 k_743 hd_yX6_expression ⟨Nat.le_of_ble_eq_true rfl, Nat.le_of_ble_eq_true rfl⟩ 3 6 rfl rfl (rfl) hl.1 rfl (Nat.le_of_ble_eq_true rfl) dX6_expression_39 (fun r1 u H locs hw hP hD hS => ?_)
  obtain ⟨hG2, hw⟩ := hw
  obtain ⟨v3, f4⟩ := u
  obtain ⟨kV_v3, kF_f4, hIv3, hk0_v3, hk1_v3, hk9_v3, hk10_v3, hk31_v3, hk32_v3, hw⟩ := hw
  have hM_v3 : KV [2, 3, 4, 5, 7, 8, 16, 17] v3 v := KV.tr kV_v3 hM_v rfl
  have hA_f4 : KF [3, 4] f4 f := KF.tr kF_f4 hA_f rfl
  have hP : va_P (dC, dI) vwCl (XW cy x0 x v3 f4) H := hP
  have hD : va_D A (XW cy x0 x v3 f4) := hD
  have hq0_v3 : v3 0 = (v 0) := hk0_v3
  have hq1_v3 : v3 1 = (v 1) := hk1_v3
  have hq9_v3 : v3 9 = (v 9) := hk9_v3
  have hq10_v3 : v3 10 = (v 10) := hk10_v3
  have hq31_v3 : v3 31 = (v 31) := hk31_v3
  have hq32_v3 : v3 32 = (v 32) := hk32_v3
  rcases hw with ⟨g5⟩ | ⟨g5⟩
  · skip
    subst g5
    refine lv_if_ne (tgt := 47) hx hb dX6_expression_42 rfl (fun _ => ?_) (fun c0 => absurd c0 (by decide))
    refine lv_iload_n hx hb dX6_expression_47 rfl (lv_at hl 1 rfl) ?_
    refine lv_iconst (v := 2) hx hb dX6_expression_48 rfl ?_
    refine lv_icmp_ne (tgt := 56) hx hb dX6_expression_49 rfl (fun _ => ?_) (fun c0 => absurd c0 (by decide))
    refine lv_sipush (v := 1600) hx hb dX6_expression_56 rfl ?_
    refine lv_istore_n (lv' := [(3, .int 1600), (0, .ref (x 2)), (1, .int 4), (2, .int 2)]) hx hb dX6_expression_59 rfl hl (Nat.le_of_ble_eq_true rfl) rfl (fun ls hl => ?_)
    refine lv_iconst (v := 0) hx hb dX6_expression_60 rfl ?_
    refine lv_istore (lv' := [(4, .int 0), (3, .int 1600), (0, .ref (x 2)), (1, .int 4), (2, .int 2)]) hx hb dX6_expression_61 hl (Nat.le_of_ble_eq_true rfl) rfl (fun ls hl => ?_)
    have lp6 : ∀ (n6 : Nat) (l4_6 : Int32) (v6 : Nat → Int32) (f6 : Nat → Nat → Int32), XI v6 → v6 0 = (v 0) → v6 1 = (v 1) → v6 9 = (v 9) → v6 10 = (v 10) → v6 31 = (v 31) → v6 32 = (v 32) → gsX_X6_expression_17_L6 NF n6 l4_6 v6 f6 = (gsX_X6_expression_17 NF v f) → ((0 : Int) ≤ l4_6.toInt ∧ l4_6.toInt ≤ 2147483647) → KV [2, 3, 4, 5, 7, 8, 16, 17] v6 v → KF [3, 4] f6 f → (2147483647 - l4_6.toInt).toNat < n6 → ∀ (H : Heap) (locs : List Loc) (ls : Array Slot), va_P (dC, dI) vwCl (XW cy x0 x v6 f6) H → va_D A (XW cy x0 x v6 f6) → va_S A s.heap H locs → lv_has ls 6 [(4, .int l4_6), (3, .int 1600), (0, .ref (x 2)), (1, .int 4), (2, .int 2)] → W p l e { frames := 44, cells := 0, slots := 0, locals := 1104 } s m ([.ref (x 2), .int 4, .int 2] : List Value).toArray below meth c H locs 0 0 Q (F0 m 63 ls []) := by
      intro n6
      induction n6 with
      | zero => intro l4_6 v6 f6 hIv6 hq0_v6 hq1_v6 hq9_v6 hq10_v6 hq31_v6 hq32_v6 hT6 hr4_6 hM_v6 hA_f6 hm; exact absurd hm (Nat.not_lt_zero _)
      | succ n6 ih6 =>
        intro l4_6 v6 f6 hIv6 hq0_v6 hq1_v6 hq9_v6 hq10_v6 hq31_v6 hq32_v6 hT6 hr4_6 hM_v6 hA_f6 hm6 H locs ls hP hD hS hl
        refine lv_iload hx hb dX6_expression_63 (lv_at hl 0 rfl) ?_
        refine lv_iload_n hx hb dX6_expression_65 rfl (lv_at hl 1 rfl) ?_
        refine lv_icmp_ge (tgt := 131) hx hb dX6_expression_66 rfl (fun c7 => ?_) (fun c7 => ?_)
        · skip
          refine lv_iconst (v := 1) hx hb dX6_expression_131 rfl ?_
          exact ret 1 (v6, f6) _ _ _ _ _ _ rfl ⟨(hT6.symm.trans (gsX_X6_expression_17_q0 c7)), hM_v6, hA_f6, hIv6, hq0_v6, hq1_v6, hq9_v6, hq10_v6, hq31_v6, hq32_v6, (Or.inl rfl)⟩ hP hD hS dX6_expression_132 (Nat.le_refl _) (Nat.le_refl _)
        · skip
          have zc7 : ¬ (1600 ≤ l4_6.toInt) := zMn tc_1600 rfl c7
          refine lv_iload_n hx hb dX6_expression_69 rfl (lv_at hl 3 rfl) ?_
          refine lv_aload_n hx hb dX6_expression_70 rfl (lv_at hl 2 rfl) ?_
          refine va_get (D := (dC, dI)) (ci := 6) (v := .ref (x 0)) (C := RX6) (T := TX6) (N := 7) hx hb hts inB_6 hown hE.1 hP 3 rfl rfl 0 (Nat.le_of_ble_eq_true rfl) (hts _ k_265) (fun _ h9 => h9) rfl dX6_expression_71 ?_
          refine va_getN (D := (dC, dI)) (ci := 9) (v := .int (v6 2)) (C := RX9) (T := TX9) (N := 6) hx hb hts inB_9 hown hE.1 hP 1 rfl rfl 2 (Nat.le_of_ble_eq_true rfl) (va_Nw.use rfl (hE.2 _ k_139)) (fun _ h9 => h9) rfl dX6_expression_74 ?_
          refine cbSi (n := 2) (rest := []) hx hb hml hown hts hE hP hD hS hA (sX_X6_joins_1 NF l dC dI cy x0 x 4 (v6 2) v6 f6 hIv6 ) k_756 k_757 k_103 k_758 he_yX6_joins ⟨Nat.le_of_ble_eq_true rfl, Nat.le_of_ble_eq_true rfl⟩ (rfl) hl.1 rfl (Nat.le_of_ble_eq_true rfl) dX6_expression_77 (fun r8 u H locs hw hP hD hS => ?_)
          obtain ⟨hG9, hw⟩ := hw
          rcases hw with ⟨g10⟩ | ⟨g10⟩
          · skip
            subst g10
            refine lv_if_eq (tgt := 131) hx hb dX6_expression_80 rfl (fun c0 => absurd c0 (by decide)) (fun _ => ?_)
            refine lv_aload_n hx hb dX6_expression_83 rfl (lv_at hl 2 rfl) ?_
            refine va_get (D := (dC, dI)) (ci := 6) (v := .ref (x 0)) (C := RX6) (T := TX6) (N := 7) hx hb hts inB_6 hown hE.1 hP 3 rfl rfl 0 (Nat.le_of_ble_eq_true rfl) (hts _ k_265) (fun _ h9 => h9) rfl dX6_expression_84 ?_
            refine va_getN (D := (dC, dI)) (ci := 9) (v := .int (v6 2)) (C := RX9) (T := TX9) (N := 6) hx hb hts inB_9 hown hE.1 hP 1 rfl rfl 2 (Nat.le_of_ble_eq_true rfl) (va_Nw.use rfl (hE.2 _ k_139)) (fun _ h9 => h9) rfl dX6_expression_87 ?_
            refine lv_istore (lv' := [(5, .int (v6 2)), (4, .int l4_6), (3, .int 1600), (0, .ref (x 2)), (1, .int 4), (2, .int 2)]) hx hb dX6_expression_90 hl (Nat.le_of_ble_eq_true rfl) rfl (fun ls hl => ?_)
            refine lv_aload_n hx hb dX6_expression_92 rfl (lv_at hl 3 rfl) ?_
            refine va_get (D := (dC, dI)) (ci := 6) (v := .ref (x 0)) (C := RX6) (T := TX6) (N := 7) hx hb hts inB_6 hown hE.1 hP 3 rfl rfl 0 (Nat.le_of_ble_eq_true rfl) (hts _ k_265) (fun _ h9 => h9) rfl dX6_expression_93 ?_
            refine csVv (n := 0) (rest := []) hx hb hml hown hts hE hP hD hS hA hF hT (sX_X9_advance_1 NF l dC dI cy x0 x  v6 f6 hIv6 ) k_699 k_559 k_560 k_102 k_561 hd_yX9_advance ⟨Nat.le_of_ble_eq_true rfl, Nat.le_of_ble_eq_true rfl⟩ 1 9 rfl rfl (rfl) hl.1 rfl (Nat.le_of_ble_eq_true rfl) dX6_expression_96 (fun u H locs hw hP hD hS => ?_)
            obtain ⟨hG11, hw⟩ := hw
            obtain ⟨v12, f13⟩ := u
            obtain ⟨kV_v12, kF_f13, hIv12, hk0_v12, hk1_v12, hk7_v12, hk8_v12, hk9_v12, hk10_v12, hk31_v12, hk32_v12⟩ := hw
            have hM_v12 : KV [2, 3, 4, 5, 7, 8, 16, 17] v12 v := KV.tr kV_v12 hM_v6 rfl
            have hA_f13 : KF [3, 4] f13 f := KF.tr kF_f13 hA_f6 rfl
            have hP : va_P (dC, dI) vwCl (XW cy x0 x v12 f13) H := hP
            have hD : va_D A (XW cy x0 x v12 f13) := hD
            have hq0_v12 : v12 0 = (v 0) := hk0_v12.trans hq0_v6
            have hq1_v12 : v12 1 = (v 1) := hk1_v12.trans hq1_v6
            have hq9_v12 : v12 9 = (v 9) := hk9_v12.trans hq9_v6
            have hq10_v12 : v12 10 = (v 10) := hk10_v12.trans hq10_v6
            have hq31_v12 : v12 31 = (v 31) := hk31_v12.trans hq31_v6
            have hq32_v12 : v12 32 = (v 32) := hk32_v12.trans hq32_v6
            refine lv_aload_n hx hb dX6_expression_99 rfl (lv_at hl 3 rfl) ?_
            refine lv_iload_n hx hb dX6_expression_100 rfl (lv_at hl 4 rfl) ?_
            refine lv_iconst (v := 1) hx hb dX6_expression_101 rfl ?_
            refine lv_iadd hx hb dX6_expression_102 ?_
            refine tI (y := 5) (by decide) ?_
            refine lv_iload_n hx hb dX6_expression_103 rfl (lv_at hl 5 rfl) ?_
            refine csVi (n := 2) (rest := []) hx hb hml hown hts hE hP hD hS hA hF hT (sX_X6_expression_18 NF l dC dI cy x0 x  v12 f13 hIv12 ) k_740 k_742 k_15 k_103 k_743 hd_yX6_expression ⟨Nat.le_of_ble_eq_true rfl, Nat.le_of_ble_eq_true rfl⟩ 3 6 rfl rfl (rfl) hl.1 rfl (Nat.le_of_ble_eq_true rfl) dX6_expression_104 (fun r14 u H locs hw hP hD hS => ?_)
            obtain ⟨hG15, hw⟩ := hw
            obtain ⟨v16, f17⟩ := u
            obtain ⟨kV_v16, kF_f17, hIv16, hk0_v16, hk1_v16, hk9_v16, hk10_v16, hk31_v16, hk32_v16, hw⟩ := hw
            have hM_v16 : KV [2, 3, 4, 5, 7, 8, 16, 17] v16 v := KV.tr kV_v16 hM_v12 rfl
            have hA_f17 : KF [3, 4] f17 f := KF.tr kF_f17 hA_f13 rfl
            have hP : va_P (dC, dI) vwCl (XW cy x0 x v16 f17) H := hP
            have hD : va_D A (XW cy x0 x v16 f17) := hD
            have hq0_v16 : v16 0 = (v 0) := hk0_v16.trans hq0_v12
            have hq1_v16 : v16 1 = (v 1) := hk1_v16.trans hq1_v12
            have hq9_v16 : v16 9 = (v 9) := hk9_v16.trans hq9_v12
            have hq10_v16 : v16 10 = (v 10) := hk10_v16.trans hq10_v12
            have hq31_v16 : v16 31 = (v 31) := hk31_v16.trans hq31_v12
            have hq32_v16 : v16 32 = (v 32) := hk32_v16.trans hq32_v12
            rcases hw with ⟨g18⟩ | ⟨g18⟩
            · skip
              subst g18
              refine lv_if_ne (tgt := 112) hx hb dX6_expression_107 rfl (fun _ => ?_) (fun c0 => absurd c0 (by decide))
              refine lv_aload_n hx hb dX6_expression_112 rfl (lv_at hl 3 rfl) ?_
              refine va_get (D := (dC, dI)) (ci := 6) (v := .ref (x 3)) (C := RX6) (T := TX6) (N := 7) hx hb hts inB_6 hown hE.1 hP 3 rfl rfl 1 (Nat.le_of_ble_eq_true rfl) (hts _ k_266) (fun _ h9 => h9) rfl dX6_expression_113 ?_
              refine va_getN (D := (dC, dI)) (ci := 7) (v := .ref (x 6)) (C := RX7) (T := TX7) (N := 10) hx hb hts inB_7 hown hE.1 hP 4 rfl rfl 2 (Nat.le_of_ble_eq_true rfl) (va_Nw.use rfl (hE.2 _ k_210)) (fun _ h9 => h9) rfl dX6_expression_116 ?_
              refine lv_iload hx hb dX6_expression_119 (lv_at hl 0 rfl) ?_
              refine lv_iconst (v := 0) hx hb dX6_expression_121 rfl ?_
              refine cbVv (n := 2) (rest := []) hx hb hml hown hts hE hP hD hS hA (sX_X4_add_1 NF l dC dI cy x0 x (v6 2) 0 v16 f17 hIv16 ) k_748 k_749 k_750 k_105 k_751 hd_yX4_add ⟨Nat.le_of_ble_eq_true rfl, Nat.le_of_ble_eq_true rfl⟩ 7 4 rfl rfl (rfl) hl.1 rfl (Nat.le_of_ble_eq_true rfl) dX6_expression_122 (fun u H locs hw hP hD hS => ?_)
              obtain ⟨hG19, hw⟩ := hw
              obtain ⟨v20, f21⟩ := u
              obtain ⟨kV_v20, kF_f21, hIv20, hk0_v20, hk1_v20, hk7_v20, hk8_v20, hk9_v20, hk10_v20, hk31_v20, hk32_v20⟩ := hw
              have hM_v20 : KV [2, 3, 4, 5, 7, 8, 16, 17] v20 v := KV.tr kV_v20 hM_v16 rfl
              have hA_f21 : KF [3, 4] f21 f := KF.tr kF_f21 hA_f17 rfl
              have hP : va_P (dC, dI) vwCl (XW cy x0 x v20 f21) H := hP
              have hD : va_D A (XW cy x0 x v20 f21) := hD
              have hq0_v20 : v20 0 = (v 0) := hk0_v20.trans hq0_v16
              have hq1_v20 : v20 1 = (v 1) := hk1_v20.trans hq1_v16
              have hq9_v20 : v20 9 = (v 9) := hk9_v20.trans hq9_v16
              have hq10_v20 : v20 10 = (v 10) := hk10_v20.trans hq10_v16
              have hq31_v20 : v20 31 = (v 31) := hk31_v20.trans hq31_v16
              have hq32_v20 : v20 32 = (v 32) := hk32_v20.trans hq32_v16
              obtain ⟨t22, et22⟩ : ∃ y : Int32, y = l4_6 + 1 := ⟨_, rfl⟩
              have zt22 : t22.toInt = l4_6.toInt + 1 := (congrArg Int32.toInt et22).trans (add_i rfl tc_1 (om_41 hr4_6) (om_5 zc7))
              refine lv_iinc (v := t22) (lv' := [(4, .int t22), (5, .int (v6 2)), (3, .int 1600), (0, .ref (x 2)), (1, .int 4), (2, .int 2)]) hx hb dX6_expression_125 hl (k := 1) rfl et22.symm (Nat.le_of_ble_eq_true rfl) rfl (fun ls hl => ?_)
              refine lv_goto (tgt := 63) hx hb dX6_expression_128 rfl ?_
              have rg24 := fb_rng t22
              exact ih6 t22 v20 f21 hIv20 hq0_v20 hq1_v20 hq9_v20 hq10_v20 hq31_v20 hq32_v20 ((gsX_X6_expression_17_q1 c7 hG9 hG11 hG15 hG19 et22).symm.trans hT6) ⟨show (0 : Int) ≤ t22.toInt from om_43 hr4_6 zt22, show t22.toInt ≤ (2147483647 : Int) from om_44 rg24⟩ hM_v20 hA_f21 (show (2147483647 - t22.toInt).toNat < n6 from om_33 hm6 zt22 rg24) _ _ _ hP hD hS (lv_sub hl [0, 2, 3, 4, 5] rfl)
            · skip
              subst g18
              refine lv_if_ne (tgt := 112) hx hb dX6_expression_107 rfl (fun c0 => absurd (by decide) c0) (fun _ => ?_)
              refine lv_iconst (v := 0) hx hb dX6_expression_110 rfl ?_
              exact ret 0 (v16, f17) _ _ _ _ _ _ rfl ⟨(hT6.symm.trans (gsX_X6_expression_17_q2 c7 hG9 hG11 hG15)), hM_v16, hA_f17, hIv16, (hk0_v16.trans (hk0_v12.trans hq0_v6)), (hk1_v16.trans (hk1_v12.trans hq1_v6)), (hk9_v16.trans (hk9_v12.trans hq9_v6)), (hk10_v16.trans (hk10_v12.trans hq10_v6)), (hk31_v16.trans (hk31_v12.trans hq31_v6)), (hk32_v16.trans (hk32_v12.trans hq32_v6)), (Or.inr rfl)⟩ hP hD hS dX6_expression_111 (Nat.le_refl _) (Nat.le_refl _)
          · skip
            subst g10
            refine lv_if_eq (tgt := 131) hx hb dX6_expression_80 rfl (fun _ => ?_) (fun c0 => absurd (by decide) c0)
            refine lv_iconst (v := 1) hx hb dX6_expression_131 rfl ?_
            exact ret 1 (v6, f6) _ _ _ _ _ _ rfl ⟨(hT6.symm.trans (gsX_X6_expression_17_q3 c7 hG9)), hM_v6, hA_f6, hIv6, hq0_v6, hq1_v6, hq9_v6, hq10_v6, hq31_v6, hq32_v6, (Or.inl rfl)⟩ hP hD hS dX6_expression_132 (Nat.le_refl _) (Nat.le_refl _)
    exact lp6 (4294967296 + NF) 0 v3 f4 hIv3 hq0_v3 hq1_v3 hq9_v3 hq10_v3 hq31_v3 hq32_v3 (gsX_X6_expression_17_q4 hG2).symm ⟨by decide, by decide⟩ hM_v3 hA_f4 (show (2147483647 - (0 : Int32).toInt).toNat < 4294967296 + NF from om_38 tc_0) _ _ _ hP hD hS (lv_sub hl [0, 1, 2, 3, 4] rfl)
  · skip
    subst g5
    refine lv_if_ne (tgt := 47) hx hb dX6_expression_42 rfl (fun c0 => absurd (by decide) c0) (fun _ => ?_)
    refine lv_iconst (v := 0) hx hb dX6_expression_45 rfl ?_
    exact ret 0 (v3, f4) _ _ _ _ _ _ rfl ⟨(gsX_X6_expression_17_q5 hG2), hM_v3, hA_f4, hIv3, hk0_v3, hk1_v3, hk9_v3, hk10_v3, hk31_v3, hk32_v3, (Or.inr rfl)⟩ hP hD hS dX6_expression_46 (Nat.le_refl _) (Nat.le_refl _)
set_option maxHeartbeats 4000000 in
set_option maxRecDepth 100000 in
theorem sX_X6_expression_16 (NF : Nat) (l : Launch) (dC : Nat → ClassId) (dI : Nat → Nat → Nat) (cy : Nat → ClassId) (x0 : Nat) (x : Nat → Nat)  (v : Nat → Int32) (f : Nat → Nat → Int32) (hIv : XI v)  : ctIS l (dC, dI) cy yX6_expression cX6_expression 6 .boolean 45 1129 0 0 ((Nat → Int32) × (Nat → Nat → Int32)) [.ref (x 2), .int 3, .int 2] (XW cy x0 x v f) (fun r u => gsX_X6_expression_16 NF v f = (r, u) ∧ KV [2, 3, 4, 5, 7, 8, 16, 17] u.1 v ∧ KF [3, 4] u.2 f ∧ XI u.1 ∧ u.1 0 = v 0 ∧ u.1 1 = v 1 ∧ u.1 9 = v 9 ∧ u.1 10 = v 10 ∧ u.1 31 = v 31 ∧ u.1 32 = v 32 ∧ ((r = 1) ∨ (r = 0))) (fun u => XW cy x0 x u.1 u.2) := by
  refine ctIS_of (by decide) (Nat.le_of_ble_eq_true rfl) (fun p e s m below meth c A ls Q hx hb hml hts hown hE hF hT hP hD hA hl ret => ?_)
  have hM_v : KV [2, 3, 4, 5, 7, 8, 16, 17] v v := fun _ _ => rfl
  have hA_f : KF [3, 4] f f := fun _ _ => rfl
  have hown : s.vm.findClass RX6 = some m.cls := hown
  have hS : va_S A s.heap s.heap [] := va_S.rf
  have hl : lv_has ls 6 [(0, .ref (x 2)), (1, .int 3), (2, .int 2)] := hl
  refine lv_iload_n hx hb dX6_expression_0 rfl (lv_at hl 1 rfl) ?_
  refine lv_iconst (v := 5) hx hb dX6_expression_1 rfl ?_
  refine lv_icmp_lt (tgt := 11) hx hb dX6_expression_2 rfl (fun _ => ?_) (fun c0 => absurd (by decide) c0)
  refine lv_iload_n hx hb dX6_expression_11 rfl (lv_at hl 1 rfl) ?_
  refine lv_iconst (v := 2) hx hb dX6_expression_12 rfl ?_
  refine lv_icmp_ne (tgt := 34) hx hb dX6_expression_13 rfl (fun _ => ?_) (fun c0 => absurd c0 (by decide))
  refine lv_aload_n hx hb dX6_expression_34 rfl (lv_at hl 0 rfl) ?_
  refine lv_iload_n hx hb dX6_expression_35 rfl (lv_at hl 1 rfl) ?_
  refine lv_iconst (v := 1) hx hb dX6_expression_36 rfl ?_
  refine lv_iadd hx hb dX6_expression_37 ?_
  refine tI (y := 4) (by decide) ?_
  refine lv_iload_n hx hb dX6_expression_38 rfl (lv_at hl 2 rfl) ?_
  refine csVi (n := 2) (rest := []) hx hb hml hown hts hE hP hD hS hA hF hT (sX_X6_expression_17 NF l dC dI cy x0 x  v f hIv ) k_740 k_742 k_15 k_103 k_743 hd_yX6_expression ⟨Nat.le_of_ble_eq_true rfl, Nat.le_of_ble_eq_true rfl⟩ 3 6 rfl rfl (rfl) hl.1 rfl (Nat.le_of_ble_eq_true rfl) dX6_expression_39 (fun r1 u H locs hw hP hD hS => ?_)
  obtain ⟨hG2, hw⟩ := hw
  obtain ⟨v3, f4⟩ := u
  obtain ⟨kV_v3, kF_f4, hIv3, hk0_v3, hk1_v3, hk9_v3, hk10_v3, hk31_v3, hk32_v3, hw⟩ := hw
  have hM_v3 : KV [2, 3, 4, 5, 7, 8, 16, 17] v3 v := KV.tr kV_v3 hM_v rfl
  have hA_f4 : KF [3, 4] f4 f := KF.tr kF_f4 hA_f rfl
  have hP : va_P (dC, dI) vwCl (XW cy x0 x v3 f4) H := hP
  have hD : va_D A (XW cy x0 x v3 f4) := hD
  have hq0_v3 : v3 0 = (v 0) := hk0_v3
  have hq1_v3 : v3 1 = (v 1) := hk1_v3
  have hq9_v3 : v3 9 = (v 9) := hk9_v3
  have hq10_v3 : v3 10 = (v 10) := hk10_v3
  have hq31_v3 : v3 31 = (v 31) := hk31_v3
  have hq32_v3 : v3 32 = (v 32) := hk32_v3
  rcases hw with ⟨g5⟩ | ⟨g5⟩
  · skip
    subst g5
    refine lv_if_ne (tgt := 47) hx hb dX6_expression_42 rfl (fun _ => ?_) (fun c0 => absurd c0 (by decide))
    refine lv_iload_n hx hb dX6_expression_47 rfl (lv_at hl 1 rfl) ?_
    refine lv_iconst (v := 2) hx hb dX6_expression_48 rfl ?_
    refine lv_icmp_ne (tgt := 56) hx hb dX6_expression_49 rfl (fun _ => ?_) (fun c0 => absurd c0 (by decide))
    refine lv_sipush (v := 1600) hx hb dX6_expression_56 rfl ?_
    refine lv_istore_n (lv' := [(3, .int 1600), (0, .ref (x 2)), (1, .int 3), (2, .int 2)]) hx hb dX6_expression_59 rfl hl (Nat.le_of_ble_eq_true rfl) rfl (fun ls hl => ?_)
    refine lv_iconst (v := 0) hx hb dX6_expression_60 rfl ?_
    refine lv_istore (lv' := [(4, .int 0), (3, .int 1600), (0, .ref (x 2)), (1, .int 3), (2, .int 2)]) hx hb dX6_expression_61 hl (Nat.le_of_ble_eq_true rfl) rfl (fun ls hl => ?_)
    have lp6 : ∀ (n6 : Nat) (l4_6 : Int32) (v6 : Nat → Int32) (f6 : Nat → Nat → Int32), XI v6 → v6 0 = (v 0) → v6 1 = (v 1) → v6 9 = (v 9) → v6 10 = (v 10) → v6 31 = (v 31) → v6 32 = (v 32) → gsX_X6_expression_16_L6 NF n6 l4_6 v6 f6 = (gsX_X6_expression_16 NF v f) → ((0 : Int) ≤ l4_6.toInt ∧ l4_6.toInt ≤ 2147483647) → KV [2, 3, 4, 5, 7, 8, 16, 17] v6 v → KF [3, 4] f6 f → (2147483647 - l4_6.toInt).toNat < n6 → ∀ (H : Heap) (locs : List Loc) (ls : Array Slot), va_P (dC, dI) vwCl (XW cy x0 x v6 f6) H → va_D A (XW cy x0 x v6 f6) → va_S A s.heap H locs → lv_has ls 6 [(4, .int l4_6), (3, .int 1600), (0, .ref (x 2)), (1, .int 3), (2, .int 2)] → W p l e { frames := 45, cells := 0, slots := 0, locals := 1129 } s m ([.ref (x 2), .int 3, .int 2] : List Value).toArray below meth c H locs 0 0 Q (F0 m 63 ls []) := by
      intro n6
      induction n6 with
      | zero => intro l4_6 v6 f6 hIv6 hq0_v6 hq1_v6 hq9_v6 hq10_v6 hq31_v6 hq32_v6 hT6 hr4_6 hM_v6 hA_f6 hm; exact absurd hm (Nat.not_lt_zero _)
      | succ n6 ih6 =>
        intro l4_6 v6 f6 hIv6 hq0_v6 hq1_v6 hq9_v6 hq10_v6 hq31_v6 hq32_v6 hT6 hr4_6 hM_v6 hA_f6 hm6 H locs ls hP hD hS hl
        refine lv_iload hx hb dX6_expression_63 (lv_at hl 0 rfl) ?_
        refine lv_iload_n hx hb dX6_expression_65 rfl (lv_at hl 1 rfl) ?_
        refine lv_icmp_ge (tgt := 131) hx hb dX6_expression_66 rfl (fun c7 => ?_) (fun c7 => ?_)
        · skip
          refine lv_iconst (v := 1) hx hb dX6_expression_131 rfl ?_
          exact ret 1 (v6, f6) _ _ _ _ _ _ rfl ⟨(hT6.symm.trans (gsX_X6_expression_16_q0 c7)), hM_v6, hA_f6, hIv6, hq0_v6, hq1_v6, hq9_v6, hq10_v6, hq31_v6, hq32_v6, (Or.inl rfl)⟩ hP hD hS dX6_expression_132 (Nat.le_refl _) (Nat.le_refl _)
        · skip
          have zc7 : ¬ (1600 ≤ l4_6.toInt) := zMn tc_1600 rfl c7
          refine lv_iload_n hx hb dX6_expression_69 rfl (lv_at hl 3 rfl) ?_
          refine lv_aload_n hx hb dX6_expression_70 rfl (lv_at hl 2 rfl) ?_
          refine va_get (D := (dC, dI)) (ci := 6) (v := .ref (x 0)) (C := RX6) (T := TX6) (N := 7) hx hb hts inB_6 hown hE.1 hP 3 rfl rfl 0 (Nat.le_of_ble_eq_true rfl) (hts _ k_265) (fun _ h9 => h9) rfl dX6_expression_71 ?_
          refine va_getN (D := (dC, dI)) (ci := 9) (v := .int (v6 2)) (C := RX9) (T := TX9) (N := 6) hx hb hts inB_9 hown hE.1 hP 1 rfl rfl 2 (Nat.le_of_ble_eq_true rfl) (va_Nw.use rfl (hE.2 _ k_139)) (fun _ h9 => h9) rfl dX6_expression_74 ?_
          refine cbSi (n := 2) (rest := []) hx hb hml hown hts hE hP hD hS hA (sX_X6_joins_1 NF l dC dI cy x0 x 3 (v6 2) v6 f6 hIv6 ) k_756 k_757 k_103 k_758 he_yX6_joins ⟨Nat.le_of_ble_eq_true rfl, Nat.le_of_ble_eq_true rfl⟩ (rfl) hl.1 rfl (Nat.le_of_ble_eq_true rfl) dX6_expression_77 (fun r8 u H locs hw hP hD hS => ?_)
          obtain ⟨hG9, hw⟩ := hw
          rcases hw with ⟨g10⟩ | ⟨g10⟩
          · skip
            subst g10
            refine lv_if_eq (tgt := 131) hx hb dX6_expression_80 rfl (fun c0 => absurd c0 (by decide)) (fun _ => ?_)
            refine lv_aload_n hx hb dX6_expression_83 rfl (lv_at hl 2 rfl) ?_
            refine va_get (D := (dC, dI)) (ci := 6) (v := .ref (x 0)) (C := RX6) (T := TX6) (N := 7) hx hb hts inB_6 hown hE.1 hP 3 rfl rfl 0 (Nat.le_of_ble_eq_true rfl) (hts _ k_265) (fun _ h9 => h9) rfl dX6_expression_84 ?_
            refine va_getN (D := (dC, dI)) (ci := 9) (v := .int (v6 2)) (C := RX9) (T := TX9) (N := 6) hx hb hts inB_9 hown hE.1 hP 1 rfl rfl 2 (Nat.le_of_ble_eq_true rfl) (va_Nw.use rfl (hE.2 _ k_139)) (fun _ h9 => h9) rfl dX6_expression_87 ?_
            refine lv_istore (lv' := [(5, .int (v6 2)), (4, .int l4_6), (3, .int 1600), (0, .ref (x 2)), (1, .int 3), (2, .int 2)]) hx hb dX6_expression_90 hl (Nat.le_of_ble_eq_true rfl) rfl (fun ls hl => ?_)
            refine lv_aload_n hx hb dX6_expression_92 rfl (lv_at hl 3 rfl) ?_
            refine va_get (D := (dC, dI)) (ci := 6) (v := .ref (x 0)) (C := RX6) (T := TX6) (N := 7) hx hb hts inB_6 hown hE.1 hP 3 rfl rfl 0 (Nat.le_of_ble_eq_true rfl) (hts _ k_265) (fun _ h9 => h9) rfl dX6_expression_93 ?_
            refine csVv (n := 0) (rest := []) hx hb hml hown hts hE hP hD hS hA hF hT (sX_X9_advance_1 NF l dC dI cy x0 x  v6 f6 hIv6 ) k_699 k_559 k_560 k_102 k_561 hd_yX9_advance ⟨Nat.le_of_ble_eq_true rfl, Nat.le_of_ble_eq_true rfl⟩ 1 9 rfl rfl (rfl) hl.1 rfl (Nat.le_of_ble_eq_true rfl) dX6_expression_96 (fun u H locs hw hP hD hS => ?_)
            obtain ⟨hG11, hw⟩ := hw
            obtain ⟨v12, f13⟩ := u
            obtain ⟨kV_v12, kF_f13, hIv12, hk0_v12, hk1_v12, hk7_v12, hk8_v12, hk9_v12, hk10_v12, hk31_v12, hk32_v12⟩ := hw
            have hM_v12 : KV [2, 3, 4, 5, 7, 8, 16, 17] v12 v := KV.tr kV_v12 hM_v6 rfl
            have hA_f13 : KF [3, 4] f13 f := KF.tr kF_f13 hA_f6 rfl
            have hP : va_P (dC, dI) vwCl (XW cy x0 x v12 f13) H := hP
            have hD : va_D A (XW cy x0 x v12 f13) := hD
            have hq0_v12 : v12 0 = (v 0) := hk0_v12.trans hq0_v6
            have hq1_v12 : v12 1 = (v 1) := hk1_v12.trans hq1_v6
            have hq9_v12 : v12 9 = (v 9) := hk9_v12.trans hq9_v6
            have hq10_v12 : v12 10 = (v 10) := hk10_v12.trans hq10_v6
            have hq31_v12 : v12 31 = (v 31) := hk31_v12.trans hq31_v6
            have hq32_v12 : v12 32 = (v 32) := hk32_v12.trans hq32_v6
            refine lv_aload_n hx hb dX6_expression_99 rfl (lv_at hl 3 rfl) ?_
            refine lv_iload_n hx hb dX6_expression_100 rfl (lv_at hl 4 rfl) ?_
            refine lv_iconst (v := 1) hx hb dX6_expression_101 rfl ?_
            refine lv_iadd hx hb dX6_expression_102 ?_
            refine tI (y := 4) (by decide) ?_
            refine lv_iload_n hx hb dX6_expression_103 rfl (lv_at hl 5 rfl) ?_
            refine csVi (n := 2) (rest := []) hx hb hml hown hts hE hP hD hS hA hF hT (sX_X6_expression_17 NF l dC dI cy x0 x  v12 f13 hIv12 ) k_740 k_742 k_15 k_103 k_743 hd_yX6_expression ⟨Nat.le_of_ble_eq_true rfl, Nat.le_of_ble_eq_true rfl⟩ 3 6 rfl rfl (rfl) hl.1 rfl (Nat.le_of_ble_eq_true rfl) dX6_expression_104 (fun r14 u H locs hw hP hD hS => ?_)
            obtain ⟨hG15, hw⟩ := hw
            obtain ⟨v16, f17⟩ := u
            obtain ⟨kV_v16, kF_f17, hIv16, hk0_v16, hk1_v16, hk9_v16, hk10_v16, hk31_v16, hk32_v16, hw⟩ := hw
            have hM_v16 : KV [2, 3, 4, 5, 7, 8, 16, 17] v16 v := KV.tr kV_v16 hM_v12 rfl
            have hA_f17 : KF [3, 4] f17 f := KF.tr kF_f17 hA_f13 rfl
            have hP : va_P (dC, dI) vwCl (XW cy x0 x v16 f17) H := hP
            have hD : va_D A (XW cy x0 x v16 f17) := hD
            have hq0_v16 : v16 0 = (v 0) := hk0_v16.trans hq0_v12
            have hq1_v16 : v16 1 = (v 1) := hk1_v16.trans hq1_v12
            have hq9_v16 : v16 9 = (v 9) := hk9_v16.trans hq9_v12
            have hq10_v16 : v16 10 = (v 10) := hk10_v16.trans hq10_v12
            have hq31_v16 : v16 31 = (v 31) := hk31_v16.trans hq31_v12
            have hq32_v16 : v16 32 = (v 32) := hk32_v16.trans hq32_v12
            rcases hw with ⟨g18⟩ | ⟨g18⟩
            · skip
              subst g18
              refine lv_if_ne (tgt := 112) hx hb dX6_expression_107 rfl (fun _ => ?_) (fun c0 => absurd c0 (by decide))
              refine lv_aload_n hx hb dX6_expression_112 rfl (lv_at hl 3 rfl) ?_
              refine va_get (D := (dC, dI)) (ci := 6) (v := .ref (x 3)) (C := RX6) (T := TX6) (N := 7) hx hb hts inB_6 hown hE.1 hP 3 rfl rfl 1 (Nat.le_of_ble_eq_true rfl) (hts _ k_266) (fun _ h9 => h9) rfl dX6_expression_113 ?_
              refine va_getN (D := (dC, dI)) (ci := 7) (v := .ref (x 6)) (C := RX7) (T := TX7) (N := 10) hx hb hts inB_7 hown hE.1 hP 4 rfl rfl 2 (Nat.le_of_ble_eq_true rfl) (va_Nw.use rfl (hE.2 _ k_210)) (fun _ h9 => h9) rfl dX6_expression_116 ?_
              refine lv_iload hx hb dX6_expression_119 (lv_at hl 0 rfl) ?_
              refine lv_iconst (v := 0) hx hb dX6_expression_121 rfl ?_
              refine cbVv (n := 2) (rest := []) hx hb hml hown hts hE hP hD hS hA (sX_X4_add_1 NF l dC dI cy x0 x (v6 2) 0 v16 f17 hIv16 ) k_748 k_749 k_750 k_105 k_751 hd_yX4_add ⟨Nat.le_of_ble_eq_true rfl, Nat.le_of_ble_eq_true rfl⟩ 7 4 rfl rfl (rfl) hl.1 rfl (Nat.le_of_ble_eq_true rfl) dX6_expression_122 (fun u H locs hw hP hD hS => ?_)
              obtain ⟨hG19, hw⟩ := hw
              obtain ⟨v20, f21⟩ := u
              obtain ⟨kV_v20, kF_f21, hIv20, hk0_v20, hk1_v20, hk7_v20, hk8_v20, hk9_v20, hk10_v20, hk31_v20, hk32_v20⟩ := hw
              have hM_v20 : KV [2, 3, 4, 5, 7, 8, 16, 17] v20 v := KV.tr kV_v20 hM_v16 rfl
              have hA_f21 : KF [3, 4] f21 f := KF.tr kF_f21 hA_f17 rfl
              have hP : va_P (dC, dI) vwCl (XW cy x0 x v20 f21) H := hP
              have hD : va_D A (XW cy x0 x v20 f21) := hD
              have hq0_v20 : v20 0 = (v 0) := hk0_v20.trans hq0_v16
              have hq1_v20 : v20 1 = (v 1) := hk1_v20.trans hq1_v16
              have hq9_v20 : v20 9 = (v 9) := hk9_v20.trans hq9_v16
              have hq10_v20 : v20 10 = (v 10) := hk10_v20.trans hq10_v16
              have hq31_v20 : v20 31 = (v 31) := hk31_v20.trans hq31_v16
              have hq32_v20 : v20 32 = (v 32) := hk32_v20.trans hq32_v16
              obtain ⟨t22, et22⟩ : ∃ y : Int32, y = l4_6 + 1 := ⟨_, rfl⟩
              have zt22 : t22.toInt = l4_6.toInt + 1 := (congrArg Int32.toInt et22).trans (add_i rfl tc_1 (om_41 hr4_6) (om_5 zc7))
              refine lv_iinc (v := t22) (lv' := [(4, .int t22), (5, .int (v6 2)), (3, .int 1600), (0, .ref (x 2)), (1, .int 3), (2, .int 2)]) hx hb dX6_expression_125 hl (k := 1) rfl et22.symm (Nat.le_of_ble_eq_true rfl) rfl (fun ls hl => ?_)
              refine lv_goto (tgt := 63) hx hb dX6_expression_128 rfl ?_
              have rg24 := fb_rng t22
              exact ih6 t22 v20 f21 hIv20 hq0_v20 hq1_v20 hq9_v20 hq10_v20 hq31_v20 hq32_v20 ((gsX_X6_expression_16_q1 c7 hG9 hG11 hG15 hG19 et22).symm.trans hT6) ⟨show (0 : Int) ≤ t22.toInt from om_43 hr4_6 zt22, show t22.toInt ≤ (2147483647 : Int) from om_44 rg24⟩ hM_v20 hA_f21 (show (2147483647 - t22.toInt).toNat < n6 from om_33 hm6 zt22 rg24) _ _ _ hP hD hS (lv_sub hl [0, 2, 3, 4, 5] rfl)
            · skip
              subst g18
              refine lv_if_ne (tgt := 112) hx hb dX6_expression_107 rfl (fun c0 => absurd (by decide) c0) (fun _ => ?_)
              refine lv_iconst (v := 0) hx hb dX6_expression_110 rfl ?_
              exact ret 0 (v16, f17) _ _ _ _ _ _ rfl ⟨(hT6.symm.trans (gsX_X6_expression_16_q2 c7 hG9 hG11 hG15)), hM_v16, hA_f17, hIv16, (hk0_v16.trans (hk0_v12.trans hq0_v6)), (hk1_v16.trans (hk1_v12.trans hq1_v6)), (hk9_v16.trans (hk9_v12.trans hq9_v6)), (hk10_v16.trans (hk10_v12.trans hq10_v6)), (hk31_v16.trans (hk31_v12.trans hq31_v6)), (hk32_v16.trans (hk32_v12.trans hq32_v6)), (Or.inr rfl)⟩ hP hD hS dX6_expression_111 (Nat.le_refl _) (Nat.le_refl _)
          · skip
            subst g10
            refine lv_if_eq (tgt := 131) hx hb dX6_expression_80 rfl (fun _ => ?_) (fun c0 => absurd (by decide) c0)
            refine lv_iconst (v := 1) hx hb dX6_expression_131 rfl ?_
            exact ret 1 (v6, f6) _ _ _ _ _ _ rfl ⟨(hT6.symm.trans (gsX_X6_expression_16_q3 c7 hG9)), hM_v6, hA_f6, hIv6, hq0_v6, hq1_v6, hq9_v6, hq10_v6, hq31_v6, hq32_v6, (Or.inl rfl)⟩ hP hD hS dX6_expression_132 (Nat.le_refl _) (Nat.le_refl _)
    exact lp6 (4294967296 + NF) 0 v3 f4 hIv3 hq0_v3 hq1_v3 hq9_v3 hq10_v3 hq31_v3 hq32_v3 (gsX_X6_expression_16_q4 hG2).symm ⟨by decide, by decide⟩ hM_v3 hA_f4 (show (2147483647 - (0 : Int32).toInt).toNat < 4294967296 + NF from om_38 tc_0) _ _ _ hP hD hS (lv_sub hl [0, 1, 2, 3, 4] rfl)
  · skip
    subst g5
    refine lv_if_ne (tgt := 47) hx hb dX6_expression_42 rfl (fun c0 => absurd (by decide) c0) (fun _ => ?_)
    refine lv_iconst (v := 0) hx hb dX6_expression_45 rfl ?_
    exact ret 0 (v3, f4) _ _ _ _ _ _ rfl ⟨(gsX_X6_expression_16_q5 hG2), hM_v3, hA_f4, hIv3, hk0_v3, hk1_v3, hk9_v3, hk10_v3, hk31_v3, hk32_v3, (Or.inr rfl)⟩ hP hD hS dX6_expression_46 (Nat.le_refl _) (Nat.le_refl _)
set_option maxHeartbeats 4000000 in
set_option maxRecDepth 100000 in
theorem sX_X6_negation_6 (NF : Nat) (l : Launch) (dC : Nat → ClassId) (dI : Nat → Nat → Nat) (cy : Nat → ClassId) (x0 : Nat) (x : Nat → Nat)  (v : Nat → Int32) (f : Nat → Nat → Int32) (hIv : XI v)  : ctIS l (dC, dI) cy yX6_negation cX6_negation 2 .boolean 40 1006 0 0 ((Nat → Int32) × (Nat → Nat → Int32)) [.ref (x 2), .int 2] (XW cy x0 x v f) (fun r u => gsX_X6_negation_6 NF v f = (r, u) ∧ KV [2, 3, 4, 5, 7, 8, 16, 17] u.1 v ∧ KF [3, 4] u.2 f ∧ XI u.1 ∧ u.1 0 = v 0 ∧ u.1 1 = v 1 ∧ u.1 9 = v 9 ∧ u.1 10 = v 10 ∧ u.1 31 = v 31 ∧ u.1 32 = v 32 ∧ ((r = 1) ∨ (r = 0))) (fun u => XW cy x0 x u.1 u.2) := by
  refine ctIS_of (by decide) (Nat.le_of_ble_eq_true rfl) (fun p e s m below meth c A ls Q hx hb hml hts hown hE hF hT hP hD hA hl ret => ?_)
  have hM_v : KV [2, 3, 4, 5, 7, 8, 16, 17] v v := fun _ _ => rfl
  have hA_f : KF [3, 4] f f := fun _ _ => rfl
  have hown : s.vm.findClass RX6 = some m.cls := hown
  have hS : va_S A s.heap s.heap [] := va_S.rf
  have hl : lv_has ls 2 [(0, .ref (x 2)), (1, .int 2)] := hl
  refine lv_iload_n hx hb dX6_negation_0 rfl (lv_at hl 1 rfl) ?_
  refine lv_bipush (v := 7) hx hb dX6_negation_1 rfl ?_
  refine lv_icmp_lt (tgt := 11) hx hb dX6_negation_3 rfl (fun _ => ?_) (fun c0 => absurd (by decide) c0)
  refine lv_aload_n hx hb dX6_negation_11 rfl (lv_at hl 0 rfl) ?_
  refine va_get (D := (dC, dI)) (ci := 6) (v := .ref (x 0)) (C := RX6) (T := TX6) (N := 7) hx hb hts inB_6 hown hE.1 hP 3 rfl rfl 0 (Nat.le_of_ble_eq_true rfl) (hts _ k_265) (fun _ h9 => h9) rfl dX6_negation_12 ?_
  refine csVv (n := 0) (rest := []) hx hb hml hown hts hE hP hD hS hA hF hT (sX_X9_advance_1 NF l dC dI cy x0 x  v f hIv ) k_699 k_559 k_560 k_102 k_561 hd_yX9_advance ⟨Nat.le_of_ble_eq_true rfl, Nat.le_of_ble_eq_true rfl⟩ 1 9 rfl rfl (rfl) hl.1 rfl (Nat.le_of_ble_eq_true rfl) dX6_negation_15 (fun u H locs hw hP hD hS => ?_)
  obtain ⟨hG1, hw⟩ := hw
  obtain ⟨v2, f3⟩ := u
  obtain ⟨kV_v2, kF_f3, hIv2, hk0_v2, hk1_v2, hk7_v2, hk8_v2, hk9_v2, hk10_v2, hk31_v2, hk32_v2⟩ := hw
  have hM_v2 : KV [2, 3, 4, 5, 7, 8, 16, 17] v2 v := KV.tr kV_v2 hM_v rfl
  have hA_f3 : KF [3, 4] f3 f := KF.tr kF_f3 hA_f rfl
  have hP : va_P (dC, dI) vwCl (XW cy x0 x v2 f3) H := hP
  have hD : va_D A (XW cy x0 x v2 f3) := hD
  have hq0_v2 : v2 0 = (v 0) := hk0_v2
  have hq1_v2 : v2 1 = (v 1) := hk1_v2
  have hq7_v2 : v2 7 = (v 7) := hk7_v2
  have hq8_v2 : v2 8 = (v 8) := hk8_v2
  have hq9_v2 : v2 9 = (v 9) := hk9_v2
  have hq10_v2 : v2 10 = (v 10) := hk10_v2
  have hq31_v2 : v2 31 = (v 31) := hk31_v2
  have hq32_v2 : v2 32 = (v 32) := hk32_v2
  refine lv_aload_n hx hb dX6_negation_18 rfl (lv_at hl 0 rfl) ?_
  refine lv_iconst (v := 2) hx hb dX6_negation_19 rfl ?_
  refine lv_iload_n hx hb dX6_negation_20 rfl (lv_at hl 1 rfl) ?_
  refine lv_iconst (v := 1) hx hb dX6_negation_21 rfl ?_
  refine lv_iadd hx hb dX6_negation_22 ?_
  refine tI (y := 3) (by decide) ?_
  refine csVi (n := 2) (rest := []) hx hb hml hown hts hE hP hD hS hA hF hT (sX_X6_expression_21 NF l dC dI cy x0 x  v2 f3 hIv2 ) k_740 k_742 k_15 k_103 k_743 hd_yX6_expression ⟨Nat.le_of_ble_eq_true rfl, Nat.le_of_ble_eq_true rfl⟩ 3 6 rfl rfl (rfl) hl.1 rfl (Nat.le_of_ble_eq_true rfl) dX6_negation_23 (fun r4 u H locs hw hP hD hS => ?_)
  obtain ⟨hG5, hw⟩ := hw
  obtain ⟨v6, f7⟩ := u
  obtain ⟨kV_v6, kF_f7, hIv6, hk0_v6, hk1_v6, hk9_v6, hk10_v6, hk31_v6, hk32_v6, hw⟩ := hw
  have hM_v6 : KV [2, 3, 4, 5, 7, 8, 16, 17] v6 v := KV.tr kV_v6 hM_v2 rfl
  have hA_f7 : KF [3, 4] f7 f := KF.tr kF_f7 hA_f3 rfl
  have hP : va_P (dC, dI) vwCl (XW cy x0 x v6 f7) H := hP
  have hD : va_D A (XW cy x0 x v6 f7) := hD
  have hq0_v6 : v6 0 = (v 0) := hk0_v6.trans hq0_v2
  have hq1_v6 : v6 1 = (v 1) := hk1_v6.trans hq1_v2
  have hq9_v6 : v6 9 = (v 9) := hk9_v6.trans hq9_v2
  have hq10_v6 : v6 10 = (v 10) := hk10_v6.trans hq10_v2
  have hq31_v6 : v6 31 = (v 31) := hk31_v6.trans hq31_v2
  have hq32_v6 : v6 32 = (v 32) := hk32_v6.trans hq32_v2
  rcases hw with ⟨g8⟩ | ⟨g8⟩
  · skip
    subst g8
    refine lv_if_ne (tgt := 31) hx hb dX6_negation_26 rfl (fun _ => ?_) (fun c0 => absurd c0 (by decide))
    refine lv_aload_n hx hb dX6_negation_31 rfl (lv_at hl 0 rfl) ?_
    refine va_get (D := (dC, dI)) (ci := 6) (v := .ref (x 3)) (C := RX6) (T := TX6) (N := 7) hx hb hts inB_6 hown hE.1 hP 3 rfl rfl 1 (Nat.le_of_ble_eq_true rfl) (hts _ k_266) (fun _ h9 => h9) rfl dX6_negation_32 ?_
    refine va_getN (D := (dC, dI)) (ci := 7) (v := .ref (x 6)) (C := RX7) (T := TX7) (N := 10) hx hb hts inB_7 hown hE.1 hP 4 rfl rfl 2 (Nat.le_of_ble_eq_true rfl) (va_Nw.use rfl (hE.2 _ k_210)) (fun _ h9 => h9) rfl dX6_negation_35 ?_
    refine lv_bipush (v := 115) hx hb dX6_negation_38 rfl ?_
    refine lv_iconst (v := 0) hx hb dX6_negation_40 rfl ?_
    refine cbVv (n := 2) (rest := []) hx hb hml hown hts hE hP hD hS hA (sX_X4_add_1 NF l dC dI cy x0 x 115 0 v6 f7 hIv6 ) k_748 k_749 k_750 k_105 k_751 hd_yX4_add ⟨Nat.le_of_ble_eq_true rfl, Nat.le_of_ble_eq_true rfl⟩ 7 4 rfl rfl (rfl) hl.1 rfl (Nat.le_of_ble_eq_true rfl) dX6_negation_41 (fun u H locs hw hP hD hS => ?_)
    obtain ⟨hG9, hw⟩ := hw
    obtain ⟨v10, f11⟩ := u
    obtain ⟨kV_v10, kF_f11, hIv10, hk0_v10, hk1_v10, hk7_v10, hk8_v10, hk9_v10, hk10_v10, hk31_v10, hk32_v10⟩ := hw
    have hM_v10 : KV [2, 3, 4, 5, 7, 8, 16, 17] v10 v := KV.tr kV_v10 hM_v6 rfl
    have hA_f11 : KF [3, 4] f11 f := KF.tr kF_f11 hA_f7 rfl
    have hP : va_P (dC, dI) vwCl (XW cy x0 x v10 f11) H := hP
    have hD : va_D A (XW cy x0 x v10 f11) := hD
    have hq0_v10 : v10 0 = (v 0) := hk0_v10.trans hq0_v6
    have hq1_v10 : v10 1 = (v 1) := hk1_v10.trans hq1_v6
    have hq7_v10 : v10 7 = (v6 7) := hk7_v10
    have hq8_v10 : v10 8 = (v6 8) := hk8_v10
    have hq9_v10 : v10 9 = (v 9) := hk9_v10.trans hq9_v6
    have hq10_v10 : v10 10 = (v 10) := hk10_v10.trans hq10_v6
    have hq31_v10 : v10 31 = (v 31) := hk31_v10.trans hq31_v6
    have hq32_v10 : v10 32 = (v 32) := hk32_v10.trans hq32_v6
    refine lv_iconst (v := 1) hx hb dX6_negation_44 rfl ?_
    exact ret 1 (v10, f11) _ _ _ _ _ _ rfl ⟨(gsX_X6_negation_6_q0 hG1 hG5 hG9), hM_v10, hA_f11, hIv10, (hk0_v10.trans (hk0_v6.trans hk0_v2)), (hk1_v10.trans (hk1_v6.trans hk1_v2)), (hk9_v10.trans (hk9_v6.trans hk9_v2)), (hk10_v10.trans (hk10_v6.trans hk10_v2)), (hk31_v10.trans (hk31_v6.trans hk31_v2)), (hk32_v10.trans (hk32_v6.trans hk32_v2)), (Or.inl rfl)⟩ hP hD hS dX6_negation_45 (Nat.le_refl _) (Nat.le_refl _)
  · skip
    subst g8
    refine lv_if_ne (tgt := 31) hx hb dX6_negation_26 rfl (fun c0 => absurd (by decide) c0) (fun _ => ?_)
    refine lv_iconst (v := 0) hx hb dX6_negation_29 rfl ?_
    exact ret 0 (v6, f7) _ _ _ _ _ _ rfl ⟨(gsX_X6_negation_6_q1 hG1 hG5), hM_v6, hA_f7, hIv6, (hk0_v6.trans hk0_v2), (hk1_v6.trans hk1_v2), (hk9_v6.trans hk9_v2), (hk10_v6.trans hk10_v2), (hk31_v6.trans hk31_v2), (hk32_v6.trans hk32_v2), (Or.inr rfl)⟩ hP hD hS dX6_negation_30 (Nat.le_refl _) (Nat.le_refl _)
set_option maxHeartbeats 4000000 in
set_option maxRecDepth 100000 in
theorem sX_X6_expression_15 (NF : Nat) (l : Launch) (dC : Nat → ClassId) (dI : Nat → Nat → Nat) (cy : Nat → ClassId) (x0 : Nat) (x : Nat → Nat)  (v : Nat → Int32) (f : Nat → Nat → Int32) (hIv : XI v)  : ctIS l (dC, dI) cy yX6_expression cX6_expression 6 .boolean 46 1154 0 0 ((Nat → Int32) × (Nat → Nat → Int32)) [.ref (x 2), .int 2, .int 2] (XW cy x0 x v f) (fun r u => gsX_X6_expression_15 NF v f = (r, u) ∧ KV [2, 3, 4, 5, 7, 8, 16, 17] u.1 v ∧ KF [3, 4] u.2 f ∧ XI u.1 ∧ u.1 0 = v 0 ∧ u.1 1 = v 1 ∧ u.1 9 = v 9 ∧ u.1 10 = v 10 ∧ u.1 31 = v 31 ∧ u.1 32 = v 32 ∧ ((r = 1) ∨ (r = 0))) (fun u => XW cy x0 x u.1 u.2) := by
  refine ctIS_of (by decide) (Nat.le_of_ble_eq_true rfl) (fun p e s m below meth c A ls Q hx hb hml hts hown hE hF hT hP hD hA hl ret => ?_)
  have hM_v : KV [2, 3, 4, 5, 7, 8, 16, 17] v v := fun _ _ => rfl
  have hA_f : KF [3, 4] f f := fun _ _ => rfl
  have hown : s.vm.findClass RX6 = some m.cls := hown
  have hS : va_S A s.heap s.heap [] := va_S.rf
  have hl : lv_has ls 6 [(0, .ref (x 2)), (1, .int 2), (2, .int 2)] := hl
  refine lv_iload_n hx hb dX6_expression_0 rfl (lv_at hl 1 rfl) ?_
  refine lv_iconst (v := 5) hx hb dX6_expression_1 rfl ?_
  refine lv_icmp_lt (tgt := 11) hx hb dX6_expression_2 rfl (fun _ => ?_) (fun c0 => absurd (by decide) c0)
  refine lv_iload_n hx hb dX6_expression_11 rfl (lv_at hl 1 rfl) ?_
  refine lv_iconst (v := 2) hx hb dX6_expression_12 rfl ?_
  refine lv_icmp_ne (tgt := 34) hx hb dX6_expression_13 rfl (fun c0 => absurd (by decide) c0) (fun _ => ?_)
  refine lv_aload_n hx hb dX6_expression_16 rfl (lv_at hl 0 rfl) ?_
  refine va_get (D := (dC, dI)) (ci := 6) (v := .ref (x 0)) (C := RX6) (T := TX6) (N := 7) hx hb hts inB_6 hown hE.1 hP 3 rfl rfl 0 (Nat.le_of_ble_eq_true rfl) (hts _ k_265) (fun _ h9 => h9) rfl dX6_expression_17 ?_
  refine va_getN (D := (dC, dI)) (ci := 9) (v := .int (v 2)) (C := RX9) (T := TX9) (N := 6) hx hb hts inB_9 hown hE.1 hP 1 rfl rfl 2 (Nat.le_of_ble_eq_true rfl) (va_Nw.use rfl (hE.2 _ k_139)) (fun _ h9 => h9) rfl dX6_expression_20 ?_
  refine lv_bipush (v := 115) hx hb dX6_expression_23 rfl ?_
  refine lv_icmp_ne (tgt := 34) hx hb dX6_expression_25 rfl (fun c1 => ?_) (fun c1 => ?_)
  · skip
    refine lv_aload_n hx hb dX6_expression_34 rfl (lv_at hl 0 rfl) ?_
    refine lv_iload_n hx hb dX6_expression_35 rfl (lv_at hl 1 rfl) ?_
    refine lv_iconst (v := 1) hx hb dX6_expression_36 rfl ?_
    refine lv_iadd hx hb dX6_expression_37 ?_
    refine tI (y := 3) (by decide) ?_
    refine lv_iload_n hx hb dX6_expression_38 rfl (lv_at hl 2 rfl) ?_
    refine csVi (n := 2) (rest := []) hx hb hml hown hts hE hP hD hS hA hF hT (sX_X6_expression_16 NF l dC dI cy x0 x  v f hIv ) k_740 k_742 k_15 k_103 k_743 hd_yX6_expression ⟨Nat.le_of_ble_eq_true rfl, Nat.le_of_ble_eq_true rfl⟩ 3 6 rfl rfl (rfl) hl.1 rfl (Nat.le_of_ble_eq_true rfl) dX6_expression_39 (fun r2 u H locs hw hP hD hS => ?_)
    obtain ⟨hG3, hw⟩ := hw
    obtain ⟨v4, f5⟩ := u
    obtain ⟨kV_v4, kF_f5, hIv4, hk0_v4, hk1_v4, hk9_v4, hk10_v4, hk31_v4, hk32_v4, hw⟩ := hw
    have hM_v4 : KV [2, 3, 4, 5, 7, 8, 16, 17] v4 v := KV.tr kV_v4 hM_v rfl
    have hA_f5 : KF [3, 4] f5 f := KF.tr kF_f5 hA_f rfl
    have hP : va_P (dC, dI) vwCl (XW cy x0 x v4 f5) H := hP
    have hD : va_D A (XW cy x0 x v4 f5) := hD
    have hq0_v4 : v4 0 = (v 0) := hk0_v4
    have hq1_v4 : v4 1 = (v 1) := hk1_v4
    have hq9_v4 : v4 9 = (v 9) := hk9_v4
    have hq10_v4 : v4 10 = (v 10) := hk10_v4
    have hq31_v4 : v4 31 = (v 31) := hk31_v4
    have hq32_v4 : v4 32 = (v 32) := hk32_v4
    rcases hw with ⟨g6⟩ | ⟨g6⟩
    · skip
      subst g6
      refine lv_if_ne (tgt := 47) hx hb dX6_expression_42 rfl (fun _ => ?_) (fun c0 => absurd c0 (by decide))
      refine lv_iload_n hx hb dX6_expression_47 rfl (lv_at hl 1 rfl) ?_
      refine lv_iconst (v := 2) hx hb dX6_expression_48 rfl ?_
      refine lv_icmp_ne (tgt := 56) hx hb dX6_expression_49 rfl (fun c0 => absurd (by decide) c0) (fun _ => ?_)
      refine lv_iconst (v := 1) hx hb dX6_expression_52 rfl ?_
      refine lv_goto (tgt := 59) hx hb dX6_expression_53 rfl ?_
      refine lv_istore_n (lv' := [(3, .int 1), (0, .ref (x 2)), (1, .int 2), (2, .int 2)]) hx hb dX6_expression_59 rfl hl (Nat.le_of_ble_eq_true rfl) rfl (fun ls hl => ?_)
      refine lv_iconst (v := 0) hx hb dX6_expression_60 rfl ?_
      refine lv_istore (lv' := [(4, .int 0), (3, .int 1), (0, .ref (x 2)), (1, .int 2), (2, .int 2)]) hx hb dX6_expression_61 hl (Nat.le_of_ble_eq_true rfl) rfl (fun ls hl => ?_)
      have lp7 : ∀ (n7 : Nat) (l4_7 : Int32) (v7 : Nat → Int32) (f7 : Nat → Nat → Int32), XI v7 → v7 0 = (v 0) → v7 1 = (v 1) → v7 9 = (v 9) → v7 10 = (v 10) → v7 31 = (v 31) → v7 32 = (v 32) → gsX_X6_expression_15_L7 NF n7 l4_7 v7 f7 = (gsX_X6_expression_15 NF v f) → ((0 : Int) ≤ l4_7.toInt ∧ l4_7.toInt ≤ 2147483647) → KV [2, 3, 4, 5, 7, 8, 16, 17] v7 v → KF [3, 4] f7 f → (2147483647 - l4_7.toInt).toNat < n7 → ∀ (H : Heap) (locs : List Loc) (ls : Array Slot), va_P (dC, dI) vwCl (XW cy x0 x v7 f7) H → va_D A (XW cy x0 x v7 f7) → va_S A s.heap H locs → lv_has ls 6 [(4, .int l4_7), (3, .int 1), (0, .ref (x 2)), (1, .int 2), (2, .int 2)] → W p l e { frames := 46, cells := 0, slots := 0, locals := 1154 } s m ([.ref (x 2), .int 2, .int 2] : List Value).toArray below meth c H locs 0 0 Q (F0 m 63 ls []) := by
        intro n7
        induction n7 with
        | zero => intro l4_7 v7 f7 hIv7 hq0_v7 hq1_v7 hq9_v7 hq10_v7 hq31_v7 hq32_v7 hT7 hr4_7 hM_v7 hA_f7 hm; exact absurd hm (Nat.not_lt_zero _)
        | succ n7 ih7 =>
          intro l4_7 v7 f7 hIv7 hq0_v7 hq1_v7 hq9_v7 hq10_v7 hq31_v7 hq32_v7 hT7 hr4_7 hM_v7 hA_f7 hm7 H locs ls hP hD hS hl
          refine lv_iload hx hb dX6_expression_63 (lv_at hl 0 rfl) ?_
          refine lv_iload_n hx hb dX6_expression_65 rfl (lv_at hl 1 rfl) ?_
          refine lv_icmp_ge (tgt := 131) hx hb dX6_expression_66 rfl (fun c8 => ?_) (fun c8 => ?_)
          · skip
            refine lv_iconst (v := 1) hx hb dX6_expression_131 rfl ?_
            exact ret 1 (v7, f7) _ _ _ _ _ _ rfl ⟨(hT7.symm.trans (gsX_X6_expression_15_q0 c8)), hM_v7, hA_f7, hIv7, hq0_v7, hq1_v7, hq9_v7, hq10_v7, hq31_v7, hq32_v7, (Or.inl rfl)⟩ hP hD hS dX6_expression_132 (Nat.le_refl _) (Nat.le_refl _)
          · skip
            have zc8 : ¬ (1 ≤ l4_7.toInt) := zMn tc_1 rfl c8
            refine lv_iload_n hx hb dX6_expression_69 rfl (lv_at hl 3 rfl) ?_
            refine lv_aload_n hx hb dX6_expression_70 rfl (lv_at hl 2 rfl) ?_
            refine va_get (D := (dC, dI)) (ci := 6) (v := .ref (x 0)) (C := RX6) (T := TX6) (N := 7) hx hb hts inB_6 hown hE.1 hP 3 rfl rfl 0 (Nat.le_of_ble_eq_true rfl) (hts _ k_265) (fun _ h9 => h9) rfl dX6_expression_71 ?_
            refine va_getN (D := (dC, dI)) (ci := 9) (v := .int (v7 2)) (C := RX9) (T := TX9) (N := 6) hx hb hts inB_9 hown hE.1 hP 1 rfl rfl 2 (Nat.le_of_ble_eq_true rfl) (va_Nw.use rfl (hE.2 _ k_139)) (fun _ h9 => h9) rfl dX6_expression_74 ?_
            refine cbSi (n := 2) (rest := []) hx hb hml hown hts hE hP hD hS hA (sX_X6_joins_1 NF l dC dI cy x0 x 2 (v7 2) v7 f7 hIv7 ) k_756 k_757 k_103 k_758 he_yX6_joins ⟨Nat.le_of_ble_eq_true rfl, Nat.le_of_ble_eq_true rfl⟩ (rfl) hl.1 rfl (Nat.le_of_ble_eq_true rfl) dX6_expression_77 (fun r9 u H locs hw hP hD hS => ?_)
            obtain ⟨hG10, hw⟩ := hw
            rcases hw with ⟨g11⟩ | ⟨g11⟩
            · skip
              subst g11
              refine lv_if_eq (tgt := 131) hx hb dX6_expression_80 rfl (fun c0 => absurd c0 (by decide)) (fun _ => ?_)
              refine lv_aload_n hx hb dX6_expression_83 rfl (lv_at hl 2 rfl) ?_
              refine va_get (D := (dC, dI)) (ci := 6) (v := .ref (x 0)) (C := RX6) (T := TX6) (N := 7) hx hb hts inB_6 hown hE.1 hP 3 rfl rfl 0 (Nat.le_of_ble_eq_true rfl) (hts _ k_265) (fun _ h9 => h9) rfl dX6_expression_84 ?_
              refine va_getN (D := (dC, dI)) (ci := 9) (v := .int (v7 2)) (C := RX9) (T := TX9) (N := 6) hx hb hts inB_9 hown hE.1 hP 1 rfl rfl 2 (Nat.le_of_ble_eq_true rfl) (va_Nw.use rfl (hE.2 _ k_139)) (fun _ h9 => h9) rfl dX6_expression_87 ?_
              refine lv_istore (lv' := [(5, .int (v7 2)), (4, .int l4_7), (3, .int 1), (0, .ref (x 2)), (1, .int 2), (2, .int 2)]) hx hb dX6_expression_90 hl (Nat.le_of_ble_eq_true rfl) rfl (fun ls hl => ?_)
              refine lv_aload_n hx hb dX6_expression_92 rfl (lv_at hl 3 rfl) ?_
              refine va_get (D := (dC, dI)) (ci := 6) (v := .ref (x 0)) (C := RX6) (T := TX6) (N := 7) hx hb hts inB_6 hown hE.1 hP 3 rfl rfl 0 (Nat.le_of_ble_eq_true rfl) (hts _ k_265) (fun _ h9 => h9) rfl dX6_expression_93 ?_
              refine csVv (n := 0) (rest := []) hx hb hml hown hts hE hP hD hS hA hF hT (sX_X9_advance_1 NF l dC dI cy x0 x  v7 f7 hIv7 ) k_699 k_559 k_560 k_102 k_561 hd_yX9_advance ⟨Nat.le_of_ble_eq_true rfl, Nat.le_of_ble_eq_true rfl⟩ 1 9 rfl rfl (rfl) hl.1 rfl (Nat.le_of_ble_eq_true rfl) dX6_expression_96 (fun u H locs hw hP hD hS => ?_)
              obtain ⟨hG12, hw⟩ := hw
              obtain ⟨v13, f14⟩ := u
              obtain ⟨kV_v13, kF_f14, hIv13, hk0_v13, hk1_v13, hk7_v13, hk8_v13, hk9_v13, hk10_v13, hk31_v13, hk32_v13⟩ := hw
              have hM_v13 : KV [2, 3, 4, 5, 7, 8, 16, 17] v13 v := KV.tr kV_v13 hM_v7 rfl
              have hA_f14 : KF [3, 4] f14 f := KF.tr kF_f14 hA_f7 rfl
              have hP : va_P (dC, dI) vwCl (XW cy x0 x v13 f14) H := hP
              have hD : va_D A (XW cy x0 x v13 f14) := hD
              have hq0_v13 : v13 0 = (v 0) := hk0_v13.trans hq0_v7
              have hq1_v13 : v13 1 = (v 1) := hk1_v13.trans hq1_v7
              have hq9_v13 : v13 9 = (v 9) := hk9_v13.trans hq9_v7
              have hq10_v13 : v13 10 = (v 10) := hk10_v13.trans hq10_v7
              have hq31_v13 : v13 31 = (v 31) := hk31_v13.trans hq31_v7
              have hq32_v13 : v13 32 = (v 32) := hk32_v13.trans hq32_v7
              refine lv_aload_n hx hb dX6_expression_99 rfl (lv_at hl 3 rfl) ?_
              refine lv_iload_n hx hb dX6_expression_100 rfl (lv_at hl 4 rfl) ?_
              refine lv_iconst (v := 1) hx hb dX6_expression_101 rfl ?_
              refine lv_iadd hx hb dX6_expression_102 ?_
              refine tI (y := 3) (by decide) ?_
              refine lv_iload_n hx hb dX6_expression_103 rfl (lv_at hl 5 rfl) ?_
              refine csVi (n := 2) (rest := []) hx hb hml hown hts hE hP hD hS hA hF hT (sX_X6_expression_16 NF l dC dI cy x0 x  v13 f14 hIv13 ) k_740 k_742 k_15 k_103 k_743 hd_yX6_expression ⟨Nat.le_of_ble_eq_true rfl, Nat.le_of_ble_eq_true rfl⟩ 3 6 rfl rfl (rfl) hl.1 rfl (Nat.le_of_ble_eq_true rfl) dX6_expression_104 (fun r15 u H locs hw hP hD hS => ?_)
              obtain ⟨hG16, hw⟩ := hw
              obtain ⟨v17, f18⟩ := u
              obtain ⟨kV_v17, kF_f18, hIv17, hk0_v17, hk1_v17, hk9_v17, hk10_v17, hk31_v17, hk32_v17, hw⟩ := hw
              have hM_v17 : KV [2, 3, 4, 5, 7, 8, 16, 17] v17 v := KV.tr kV_v17 hM_v13 rfl
              have hA_f18 : KF [3, 4] f18 f := KF.tr kF_f18 hA_f14 rfl
              have hP : va_P (dC, dI) vwCl (XW cy x0 x v17 f18) H := hP
              have hD : va_D A (XW cy x0 x v17 f18) := hD
              have hq0_v17 : v17 0 = (v 0) := hk0_v17.trans hq0_v13
              have hq1_v17 : v17 1 = (v 1) := hk1_v17.trans hq1_v13
              have hq9_v17 : v17 9 = (v 9) := hk9_v17.trans hq9_v13
              have hq10_v17 : v17 10 = (v 10) := hk10_v17.trans hq10_v13
              have hq31_v17 : v17 31 = (v 31) := hk31_v17.trans hq31_v13
              have hq32_v17 : v17 32 = (v 32) := hk32_v17.trans hq32_v13
              rcases hw with ⟨g19⟩ | ⟨g19⟩
              · skip
                subst g19
                refine lv_if_ne (tgt := 112) hx hb dX6_expression_107 rfl (fun _ => ?_) (fun c0 => absurd c0 (by decide))
                refine lv_aload_n hx hb dX6_expression_112 rfl (lv_at hl 3 rfl) ?_
                refine va_get (D := (dC, dI)) (ci := 6) (v := .ref (x 3)) (C := RX6) (T := TX6) (N := 7) hx hb hts inB_6 hown hE.1 hP 3 rfl rfl 1 (Nat.le_of_ble_eq_true rfl) (hts _ k_266) (fun _ h9 => h9) rfl dX6_expression_113 ?_
                refine va_getN (D := (dC, dI)) (ci := 7) (v := .ref (x 6)) (C := RX7) (T := TX7) (N := 10) hx hb hts inB_7 hown hE.1 hP 4 rfl rfl 2 (Nat.le_of_ble_eq_true rfl) (va_Nw.use rfl (hE.2 _ k_210)) (fun _ h9 => h9) rfl dX6_expression_116 ?_
                refine lv_iload hx hb dX6_expression_119 (lv_at hl 0 rfl) ?_
                refine lv_iconst (v := 0) hx hb dX6_expression_121 rfl ?_
                refine cbVv (n := 2) (rest := []) hx hb hml hown hts hE hP hD hS hA (sX_X4_add_1 NF l dC dI cy x0 x (v7 2) 0 v17 f18 hIv17 ) k_748 k_749 k_750 k_105 k_751 hd_yX4_add ⟨Nat.le_of_ble_eq_true rfl, Nat.le_of_ble_eq_true rfl⟩ 7 4 rfl rfl (rfl) hl.1 rfl (Nat.le_of_ble_eq_true rfl) dX6_expression_122 (fun u H locs hw hP hD hS => ?_)
                obtain ⟨hG20, hw⟩ := hw
                obtain ⟨v21, f22⟩ := u
                obtain ⟨kV_v21, kF_f22, hIv21, hk0_v21, hk1_v21, hk7_v21, hk8_v21, hk9_v21, hk10_v21, hk31_v21, hk32_v21⟩ := hw
                have hM_v21 : KV [2, 3, 4, 5, 7, 8, 16, 17] v21 v := KV.tr kV_v21 hM_v17 rfl
                have hA_f22 : KF [3, 4] f22 f := KF.tr kF_f22 hA_f18 rfl
                have hP : va_P (dC, dI) vwCl (XW cy x0 x v21 f22) H := hP
                have hD : va_D A (XW cy x0 x v21 f22) := hD
                have hq0_v21 : v21 0 = (v 0) := hk0_v21.trans hq0_v17
                have hq1_v21 : v21 1 = (v 1) := hk1_v21.trans hq1_v17
                have hq9_v21 : v21 9 = (v 9) := hk9_v21.trans hq9_v17
                have hq10_v21 : v21 10 = (v 10) := hk10_v21.trans hq10_v17
                have hq31_v21 : v21 31 = (v 31) := hk31_v21.trans hq31_v17
                have hq32_v21 : v21 32 = (v 32) := hk32_v21.trans hq32_v17
                obtain ⟨t23, et23⟩ : ∃ y : Int32, y = l4_7 + 1 := ⟨_, rfl⟩
                have zt23 : t23.toInt = l4_7.toInt + 1 := (congrArg Int32.toInt et23).trans (add_i rfl tc_1 (om_41 hr4_7) (om_94 zc8))
                refine lv_iinc (v := t23) (lv' := [(4, .int t23), (5, .int (v7 2)), (3, .int 1), (0, .ref (x 2)), (1, .int 2), (2, .int 2)]) hx hb dX6_expression_125 hl (k := 1) rfl et23.symm (Nat.le_of_ble_eq_true rfl) rfl (fun ls hl => ?_)
                refine lv_goto (tgt := 63) hx hb dX6_expression_128 rfl ?_
                have rg25 := fb_rng t23
                exact ih7 t23 v21 f22 hIv21 hq0_v21 hq1_v21 hq9_v21 hq10_v21 hq31_v21 hq32_v21 ((gsX_X6_expression_15_q1 c8 hG10 hG12 hG16 hG20 et23).symm.trans hT7) ⟨show (0 : Int) ≤ t23.toInt from om_43 hr4_7 zt23, show t23.toInt ≤ (2147483647 : Int) from om_44 rg25⟩ hM_v21 hA_f22 (show (2147483647 - t23.toInt).toNat < n7 from om_33 hm7 zt23 rg25) _ _ _ hP hD hS (lv_sub hl [0, 2, 3, 4, 5] rfl)
              · skip
                subst g19
                refine lv_if_ne (tgt := 112) hx hb dX6_expression_107 rfl (fun c0 => absurd (by decide) c0) (fun _ => ?_)
                refine lv_iconst (v := 0) hx hb dX6_expression_110 rfl ?_
                exact ret 0 (v17, f18) _ _ _ _ _ _ rfl ⟨(hT7.symm.trans (gsX_X6_expression_15_q2 c8 hG10 hG12 hG16)), hM_v17, hA_f18, hIv17, (hk0_v17.trans (hk0_v13.trans hq0_v7)), (hk1_v17.trans (hk1_v13.trans hq1_v7)), (hk9_v17.trans (hk9_v13.trans hq9_v7)), (hk10_v17.trans (hk10_v13.trans hq10_v7)), (hk31_v17.trans (hk31_v13.trans hq31_v7)), (hk32_v17.trans (hk32_v13.trans hq32_v7)), (Or.inr rfl)⟩ hP hD hS dX6_expression_111 (Nat.le_refl _) (Nat.le_refl _)
            · skip
              subst g11
              refine lv_if_eq (tgt := 131) hx hb dX6_expression_80 rfl (fun _ => ?_) (fun c0 => absurd (by decide) c0)
              refine lv_iconst (v := 1) hx hb dX6_expression_131 rfl ?_
              exact ret 1 (v7, f7) _ _ _ _ _ _ rfl ⟨(hT7.symm.trans (gsX_X6_expression_15_q3 c8 hG10)), hM_v7, hA_f7, hIv7, hq0_v7, hq1_v7, hq9_v7, hq10_v7, hq31_v7, hq32_v7, (Or.inl rfl)⟩ hP hD hS dX6_expression_132 (Nat.le_refl _) (Nat.le_refl _)
      exact lp7 (4294967296 + NF) 0 v4 f5 hIv4 hq0_v4 hq1_v4 hq9_v4 hq10_v4 hq31_v4 hq32_v4 (gsX_X6_expression_15_q4 c1 hG3).symm ⟨by decide, by decide⟩ hM_v4 hA_f5 (show (2147483647 - (0 : Int32).toInt).toNat < 4294967296 + NF from om_38 tc_0) _ _ _ hP hD hS (lv_sub hl [0, 1, 2, 3, 4] rfl)
    · skip
      subst g6
      refine lv_if_ne (tgt := 47) hx hb dX6_expression_42 rfl (fun c0 => absurd (by decide) c0) (fun _ => ?_)
      refine lv_iconst (v := 0) hx hb dX6_expression_45 rfl ?_
      exact ret 0 (v4, f5) _ _ _ _ _ _ rfl ⟨(gsX_X6_expression_15_q5 c1 hG3), hM_v4, hA_f5, hIv4, hk0_v4, hk1_v4, hk9_v4, hk10_v4, hk31_v4, hk32_v4, (Or.inr rfl)⟩ hP hD hS dX6_expression_46 (Nat.le_refl _) (Nat.le_refl _)
  · skip
    refine lv_aload_n hx hb dX6_expression_28 rfl (lv_at hl 0 rfl) ?_
    refine lv_iload_n hx hb dX6_expression_29 rfl (lv_at hl 2 rfl) ?_
    refine csVi (n := 1) (rest := []) hx hb hml hown hts hE hP hD hS hA hF hT (sX_X6_negation_6 NF l dC dI cy x0 x  v f hIv ) k_752 k_754 k_17 k_103 k_755 hd_yX6_negation ⟨Nat.le_of_ble_eq_true rfl, Nat.le_of_ble_eq_true rfl⟩ 3 6 rfl rfl (rfl) hl.1 rfl (Nat.le_of_ble_eq_true rfl) dX6_expression_30 (fun r26 u H locs hw hP hD hS => ?_)
    obtain ⟨hG27, hw⟩ := hw
    obtain ⟨v28, f29⟩ := u
    obtain ⟨kV_v28, kF_f29, hIv28, hk0_v28, hk1_v28, hk9_v28, hk10_v28, hk31_v28, hk32_v28, hw⟩ := hw
    have hM_v28 : KV [2, 3, 4, 5, 7, 8, 16, 17] v28 v := KV.tr kV_v28 hM_v rfl
    have hA_f29 : KF [3, 4] f29 f := KF.tr kF_f29 hA_f rfl
    have hP : va_P (dC, dI) vwCl (XW cy x0 x v28 f29) H := hP
    have hD : va_D A (XW cy x0 x v28 f29) := hD
    rcases hw with ⟨g30⟩ | ⟨g30⟩
    · skip
      subst g30
      exact ret 1 (v28, f29) _ _ _ _ _ _ rfl ⟨(gsX_X6_expression_15_q6 c1 hG27), hM_v28, hA_f29, hIv28, hk0_v28, hk1_v28, hk9_v28, hk10_v28, hk31_v28, hk32_v28, (Or.inl rfl)⟩ hP hD hS dX6_expression_33 (Nat.le_refl _) (Nat.le_refl _)
    · skip
      subst g30
      exact ret 0 (v28, f29) _ _ _ _ _ _ rfl ⟨(gsX_X6_expression_15_q7 c1 hG27), hM_v28, hA_f29, hIv28, hk0_v28, hk1_v28, hk9_v28, hk10_v28, hk31_v28, hk32_v28, (Or.inr rfl)⟩ hP hD hS dX6_expression_33 (Nat.le_refl _) (Nat.le_refl _)
set_option maxHeartbeats 4000000 in
set_option maxRecDepth 100000 in
theorem sX_X6_expression_14 (NF : Nat) (l : Launch) (dC : Nat → ClassId) (dI : Nat → Nat → Nat) (cy : Nat → ClassId) (x0 : Nat) (x : Nat → Nat)  (v : Nat → Int32) (f : Nat → Nat → Int32) (hIv : XI v)  : ctIS l (dC, dI) cy yX6_expression cX6_expression 6 .boolean 47 1179 0 0 ((Nat → Int32) × (Nat → Nat → Int32)) [.ref (x 2), .int 1, .int 2] (XW cy x0 x v f) (fun r u => gsX_X6_expression_14 NF v f = (r, u) ∧ KV [2, 3, 4, 5, 7, 8, 16, 17] u.1 v ∧ KF [3, 4] u.2 f ∧ XI u.1 ∧ u.1 0 = v 0 ∧ u.1 1 = v 1 ∧ u.1 9 = v 9 ∧ u.1 10 = v 10 ∧ u.1 31 = v 31 ∧ u.1 32 = v 32 ∧ ((r = 1) ∨ (r = 0))) (fun u => XW cy x0 x u.1 u.2) := by
  refine ctIS_of (by decide) (Nat.le_of_ble_eq_true rfl) (fun p e s m below meth c A ls Q hx hb hml hts hown hE hF hT hP hD hA hl ret => ?_)
  have hM_v : KV [2, 3, 4, 5, 7, 8, 16, 17] v v := fun _ _ => rfl
  have hA_f : KF [3, 4] f f := fun _ _ => rfl
  have hown : s.vm.findClass RX6 = some m.cls := hown
  have hS : va_S A s.heap s.heap [] := va_S.rf
  have hl : lv_has ls 6 [(0, .ref (x 2)), (1, .int 1), (2, .int 2)] := hl
  refine lv_iload_n hx hb dX6_expression_0 rfl (lv_at hl 1 rfl) ?_
  refine lv_iconst (v := 5) hx hb dX6_expression_1 rfl ?_
  refine lv_icmp_lt (tgt := 11) hx hb dX6_expression_2 rfl (fun _ => ?_) (fun c0 => absurd (by decide) c0)
  refine lv_iload_n hx hb dX6_expression_11 rfl (lv_at hl 1 rfl) ?_
  refine lv_iconst (v := 2) hx hb dX6_expression_12 rfl ?_
  refine lv_icmp_ne (tgt := 34) hx hb dX6_expression_13 rfl (fun _ => ?_) (fun c0 => absurd c0 (by decide))
  refine lv_aload_n hx hb dX6_expression_34 rfl (lv_at hl 0 rfl) ?_
  refine lv_iload_n hx hb dX6_expression_35 rfl (lv_at hl 1 rfl) ?_
  refine lv_iconst (v := 1) hx hb dX6_expression_36 rfl ?_
  refine lv_iadd hx hb dX6_expression_37 ?_
  refine tI (y := 2) (by decide) ?_
  refine lv_iload_n hx hb dX6_expression_38 rfl (lv_at hl 2 rfl) ?_
  refine csVi (n := 2) (rest := []) hx hb hml hown hts hE hP hD hS hA hF hT (sX_X6_expression_15 NF l dC dI cy x0 x  v f hIv ) k_740 k_742 k_15 k_103 k_743 hd_yX6_expression ⟨Nat.le_of_ble_eq_true rfl, Nat.le_of_ble_eq_true rfl⟩ 3 6 rfl rfl (rfl) hl.1 rfl (Nat.le_of_ble_eq_true rfl) dX6_expression_39 (fun r1 u H locs hw hP hD hS => ?_)
  obtain ⟨hG2, hw⟩ := hw
  obtain ⟨v3, f4⟩ := u
  obtain ⟨kV_v3, kF_f4, hIv3, hk0_v3, hk1_v3, hk9_v3, hk10_v3, hk31_v3, hk32_v3, hw⟩ := hw
  have hM_v3 : KV [2, 3, 4, 5, 7, 8, 16, 17] v3 v := KV.tr kV_v3 hM_v rfl
  have hA_f4 : KF [3, 4] f4 f := KF.tr kF_f4 hA_f rfl
  have hP : va_P (dC, dI) vwCl (XW cy x0 x v3 f4) H := hP
  have hD : va_D A (XW cy x0 x v3 f4) := hD
  have hq0_v3 : v3 0 = (v 0) := hk0_v3
  have hq1_v3 : v3 1 = (v 1) := hk1_v3
  have hq9_v3 : v3 9 = (v 9) := hk9_v3
  have hq10_v3 : v3 10 = (v 10) := hk10_v3
  have hq31_v3 : v3 31 = (v 31) := hk31_v3
  have hq32_v3 : v3 32 = (v 32) := hk32_v3
  rcases hw with ⟨g5⟩ | ⟨g5⟩
  · skip
    subst g5
    refine lv_if_ne (tgt := 47) hx hb dX6_expression_42 rfl (fun _ => ?_) (fun c0 => absurd c0 (by decide))
    refine lv_iload_n hx hb dX6_expression_47 rfl (lv_at hl 1 rfl) ?_
    refine lv_iconst (v := 2) hx hb dX6_expression_48 rfl ?_
    refine lv_icmp_ne (tgt := 56) hx hb dX6_expression_49 rfl (fun _ => ?_) (fun c0 => absurd c0 (by decide))
    refine lv_sipush (v := 1600) hx hb dX6_expression_56 rfl ?_
    refine lv_istore_n (lv' := [(3, .int 1600), (0, .ref (x 2)), (1, .int 1), (2, .int 2)]) hx hb dX6_expression_59 rfl hl (Nat.le_of_ble_eq_true rfl) rfl (fun ls hl => ?_)
    refine lv_iconst (v := 0) hx hb dX6_expression_60 rfl ?_
    refine lv_istore (lv' := [(4, .int 0), (3, .int 1600), (0, .ref (x 2)), (1, .int 1), (2, .int 2)]) hx hb dX6_expression_61 hl (Nat.le_of_ble_eq_true rfl) rfl (fun ls hl => ?_)
    have lp6 : ∀ (n6 : Nat) (l4_6 : Int32) (v6 : Nat → Int32) (f6 : Nat → Nat → Int32), XI v6 → v6 0 = (v 0) → v6 1 = (v 1) → v6 9 = (v 9) → v6 10 = (v 10) → v6 31 = (v 31) → v6 32 = (v 32) → gsX_X6_expression_14_L6 NF n6 l4_6 v6 f6 = (gsX_X6_expression_14 NF v f) → ((0 : Int) ≤ l4_6.toInt ∧ l4_6.toInt ≤ 2147483647) → KV [2, 3, 4, 5, 7, 8, 16, 17] v6 v → KF [3, 4] f6 f → (2147483647 - l4_6.toInt).toNat < n6 → ∀ (H : Heap) (locs : List Loc) (ls : Array Slot), va_P (dC, dI) vwCl (XW cy x0 x v6 f6) H → va_D A (XW cy x0 x v6 f6) → va_S A s.heap H locs → lv_has ls 6 [(4, .int l4_6), (3, .int 1600), (0, .ref (x 2)), (1, .int 1), (2, .int 2)] → W p l e { frames := 47, cells := 0, slots := 0, locals := 1179 } s m ([.ref (x 2), .int 1, .int 2] : List Value).toArray below meth c H locs 0 0 Q (F0 m 63 ls []) := by
      intro n6
      induction n6 with
      | zero => intro l4_6 v6 f6 hIv6 hq0_v6 hq1_v6 hq9_v6 hq10_v6 hq31_v6 hq32_v6 hT6 hr4_6 hM_v6 hA_f6 hm; exact absurd hm (Nat.not_lt_zero _)
      | succ n6 ih6 =>
        intro l4_6 v6 f6 hIv6 hq0_v6 hq1_v6 hq9_v6 hq10_v6 hq31_v6 hq32_v6 hT6 hr4_6 hM_v6 hA_f6 hm6 H locs ls hP hD hS hl
        refine lv_iload hx hb dX6_expression_63 (lv_at hl 0 rfl) ?_
        refine lv_iload_n hx hb dX6_expression_65 rfl (lv_at hl 1 rfl) ?_
        refine lv_icmp_ge (tgt := 131) hx hb dX6_expression_66 rfl (fun c7 => ?_) (fun c7 => ?_)
        · skip
          refine lv_iconst (v := 1) hx hb dX6_expression_131 rfl ?_
          exact ret 1 (v6, f6) _ _ _ _ _ _ rfl ⟨(hT6.symm.trans (gsX_X6_expression_14_q0 c7)), hM_v6, hA_f6, hIv6, hq0_v6, hq1_v6, hq9_v6, hq10_v6, hq31_v6, hq32_v6, (Or.inl rfl)⟩ hP hD hS dX6_expression_132 (Nat.le_refl _) (Nat.le_refl _)
        · skip
          have zc7 : ¬ (1600 ≤ l4_6.toInt) := zMn tc_1600 rfl c7
          refine lv_iload_n hx hb dX6_expression_69 rfl (lv_at hl 3 rfl) ?_
          refine lv_aload_n hx hb dX6_expression_70 rfl (lv_at hl 2 rfl) ?_
          refine va_get (D := (dC, dI)) (ci := 6) (v := .ref (x 0)) (C := RX6) (T := TX6) (N := 7) hx hb hts inB_6 hown hE.1 hP 3 rfl rfl 0 (Nat.le_of_ble_eq_true rfl) (hts _ k_265) (fun _ h9 => h9) rfl dX6_expression_71 ?_
          refine va_getN (D := (dC, dI)) (ci := 9) (v := .int (v6 2)) (C := RX9) (T := TX9) (N := 6) hx hb hts inB_9 hown hE.1 hP 1 rfl rfl 2 (Nat.le_of_ble_eq_true rfl) (va_Nw.use rfl (hE.2 _ k_139)) (fun _ h9 => h9) rfl dX6_expression_74 ?_
          refine cbSi (n := 2) (rest := []) hx hb hml hown hts hE hP hD hS hA (sX_X6_joins_1 NF l dC dI cy x0 x 1 (v6 2) v6 f6 hIv6 ) k_756 k_757 k_103 k_758 he_yX6_joins ⟨Nat.le_of_ble_eq_true rfl, Nat.le_of_ble_eq_true rfl⟩ (rfl) hl.1 rfl (Nat.le_of_ble_eq_true rfl) dX6_expression_77 (fun r8 u H locs hw hP hD hS => ?_)
          obtain ⟨hG9, hw⟩ := hw
          rcases hw with ⟨g10⟩ | ⟨g10⟩
          · skip
            subst g10
            refine lv_if_eq (tgt := 131) hx hb dX6_expression_80 rfl (fun c0 => absurd c0 (by decide)) (fun _ => ?_)
            refine lv_aload_n hx hb dX6_expression_83 rfl (lv_at hl 2 rfl) ?_
            refine va_get (D := (dC, dI)) (ci := 6) (v := .ref (x 0)) (C := RX6) (T := TX6) (N := 7) hx hb hts inB_6 hown hE.1 hP 3 rfl rfl 0 (Nat.le_of_ble_eq_true rfl) (hts _ k_265) (fun _ h9 => h9) rfl dX6_expression_84 ?_
            refine va_getN (D := (dC, dI)) (ci := 9) (v := .int (v6 2)) (C := RX9) (T := TX9) (N := 6) hx hb hts inB_9 hown hE.1 hP 1 rfl rfl 2 (Nat.le_of_ble_eq_true rfl) (va_Nw.use rfl (hE.2 _ k_139)) (fun _ h9 => h9) rfl dX6_expression_87 ?_
            refine lv_istore (lv' := [(5, .int (v6 2)), (4, .int l4_6), (3, .int 1600), (0, .ref (x 2)), (1, .int 1), (2, .int 2)]) hx hb dX6_expression_90 hl (Nat.le_of_ble_eq_true rfl) rfl (fun ls hl => ?_)
            refine lv_aload_n hx hb dX6_expression_92 rfl (lv_at hl 3 rfl) ?_
            refine va_get (D := (dC, dI)) (ci := 6) (v := .ref (x 0)) (C := RX6) (T := TX6) (N := 7) hx hb hts inB_6 hown hE.1 hP 3 rfl rfl 0 (Nat.le_of_ble_eq_true rfl) (hts _ k_265) (fun _ h9 => h9) rfl dX6_expression_93 ?_
            refine csVv (n := 0) (rest := []) hx hb hml hown hts hE hP hD hS hA hF hT (sX_X9_advance_1 NF l dC dI cy x0 x  v6 f6 hIv6 ) k_699 k_559 k_560 k_102 k_561 hd_yX9_advance ⟨Nat.le_of_ble_eq_true rfl, Nat.le_of_ble_eq_true rfl⟩ 1 9 rfl rfl (rfl) hl.1 rfl (Nat.le_of_ble_eq_true rfl) dX6_expression_96 (fun u H locs hw hP hD hS => ?_)
            obtain ⟨hG11, hw⟩ := hw
            obtain ⟨v12, f13⟩ := u
            obtain ⟨kV_v12, kF_f13, hIv12, hk0_v12, hk1_v12, hk7_v12, hk8_v12, hk9_v12, hk10_v12, hk31_v12, hk32_v12⟩ := hw
            have hM_v12 : KV [2, 3, 4, 5, 7, 8, 16, 17] v12 v := KV.tr kV_v12 hM_v6 rfl
            have hA_f13 : KF [3, 4] f13 f := KF.tr kF_f13 hA_f6 rfl
            have hP : va_P (dC, dI) vwCl (XW cy x0 x v12 f13) H := hP
            have hD : va_D A (XW cy x0 x v12 f13) := hD
            have hq0_v12 : v12 0 = (v 0) := hk0_v12.trans hq0_v6
            have hq1_v12 : v12 1 = (v 1) := hk1_v12.trans hq1_v6
            have hq9_v12 : v12 9 = (v 9) := hk9_v12.trans hq9_v6
            have hq10_v12 : v12 10 = (v 10) := hk10_v12.trans hq10_v6
            have hq31_v12 : v12 31 = (v 31) := hk31_v12.trans hq31_v6
            have hq32_v12 : v12 32 = (v 32) := hk32_v12.trans hq32_v6
            refine lv_aload_n hx hb dX6_expression_99 rfl (lv_at hl 3 rfl) ?_
            refine lv_iload_n hx hb dX6_expression_100 rfl (lv_at hl 4 rfl) ?_
            refine lv_iconst (v := 1) hx hb dX6_expression_101 rfl ?_
            refine lv_iadd hx hb dX6_expression_102 ?_
            refine tI (y := 2) (by decide) ?_
            refine lv_iload_n hx hb dX6_expression_103 rfl (lv_at hl 5 rfl) ?_
            refine csVi (n := 2) (rest := []) hx hb hml hown hts hE hP hD hS hA hF hT (sX_X6_expression_15 NF l dC dI cy x0 x  v12 f13 hIv12 ) k_740 k_742 k_15 k_103 k_743 hd_yX6_expression ⟨Nat.le_of_ble_eq_true rfl, Nat.le_of_ble_eq_true rfl⟩ 3 6 rfl rfl (rfl) hl.1 rfl (Nat.le_of_ble_eq_true rfl) dX6_expression_104 (fun r14 u H locs hw hP hD hS => ?_)
            obtain ⟨hG15, hw⟩ := hw
            obtain ⟨v16, f17⟩ := u
            obtain ⟨kV_v16, kF_f17, hIv16, hk0_v16, hk1_v16, hk9_v16, hk10_v16, hk31_v16, hk32_v16, hw⟩ := hw
            have hM_v16 : KV [2, 3, 4, 5, 7, 8, 16, 17] v16 v := KV.tr kV_v16 hM_v12 rfl
            have hA_f17 : KF [3, 4] f17 f := KF.tr kF_f17 hA_f13 rfl
            have hP : va_P (dC, dI) vwCl (XW cy x0 x v16 f17) H := hP
            have hD : va_D A (XW cy x0 x v16 f17) := hD
            have hq0_v16 : v16 0 = (v 0) := hk0_v16.trans hq0_v12
            have hq1_v16 : v16 1 = (v 1) := hk1_v16.trans hq1_v12
            have hq9_v16 : v16 9 = (v 9) := hk9_v16.trans hq9_v12
            have hq10_v16 : v16 10 = (v 10) := hk10_v16.trans hq10_v12
            have hq31_v16 : v16 31 = (v 31) := hk31_v16.trans hq31_v12
            have hq32_v16 : v16 32 = (v 32) := hk32_v16.trans hq32_v12
            rcases hw with ⟨g18⟩ | ⟨g18⟩
            · skip
              subst g18
              refine lv_if_ne (tgt := 112) hx hb dX6_expression_107 rfl (fun _ => ?_) (fun c0 => absurd c0 (by decide))
              refine lv_aload_n hx hb dX6_expression_112 rfl (lv_at hl 3 rfl) ?_
              refine va_get (D := (dC, dI)) (ci := 6) (v := .ref (x 3)) (C := RX6) (T := TX6) (N := 7) hx hb hts inB_6 hown hE.1 hP 3 rfl rfl 1 (Nat.le_of_ble_eq_true rfl) (hts _ k_266) (fun _ h9 => h9) rfl dX6_expression_113 ?_
              refine va_getN (D := (dC, dI)) (ci := 7) (v := .ref (x 6)) (C := RX7) (T := TX7) (N := 10) hx hb hts inB_7 hown hE.1 hP 4 rfl rfl 2 (Nat.le_of_ble_eq_true rfl) (va_Nw.use rfl (hE.2 _ k_210)) (fun _ h9 => h9) rfl dX6_expression_116 ?_
              refine lv_iload hx hb dX6_expression_119 (lv_at hl 0 rfl) ?_
              refine lv_iconst (v := 0) hx hb dX6_expression_121 rfl ?_
              refine cbVv (n := 2) (rest := []) hx hb hml hown hts hE hP hD hS hA (sX_X4_add_1 NF l dC dI cy x0 x (v6 2) 0 v16 f17 hIv16 ) k_748 k_749 k_750 k_105 k_751 hd_yX4_add ⟨Nat.le_of_ble_eq_true rfl, Nat.le_of_ble_eq_true rfl⟩ 7 4 rfl rfl (rfl) hl.1 rfl (Nat.le_of_ble_eq_true rfl) dX6_expression_122 (fun u H locs hw hP hD hS => ?_)
              obtain ⟨hG19, hw⟩ := hw
              obtain ⟨v20, f21⟩ := u
              obtain ⟨kV_v20, kF_f21, hIv20, hk0_v20, hk1_v20, hk7_v20, hk8_v20, hk9_v20, hk10_v20, hk31_v20, hk32_v20⟩ := hw
              have hM_v20 : KV [2, 3, 4, 5, 7, 8, 16, 17] v20 v := KV.tr kV_v20 hM_v16 rfl
              have hA_f21 : KF [3, 4] f21 f := KF.tr kF_f21 hA_f17 rfl
              have hP : va_P (dC, dI) vwCl (XW cy x0 x v20 f21) H := hP
              have hD : va_D A (XW cy x0 x v20 f21) := hD
              have hq0_v20 : v20 0 = (v 0) := hk0_v20.trans hq0_v16
              have hq1_v20 : v20 1 = (v 1) := hk1_v20.trans hq1_v16
              have hq9_v20 : v20 9 = (v 9) := hk9_v20.trans hq9_v16
              have hq10_v20 : v20 10 = (v 10) := hk10_v20.trans hq10_v16
              have hq31_v20 : v20 31 = (v 31) := hk31_v20.trans hq31_v16
              have hq32_v20 : v20 32 = (v 32) := hk32_v20.trans hq32_v16
              obtain ⟨t22, et22⟩ : ∃ y : Int32, y = l4_6 + 1 := ⟨_, rfl⟩
              have zt22 : t22.toInt = l4_6.toInt + 1 := (congrArg Int32.toInt et22).trans (add_i rfl tc_1 (om_41 hr4_6) (om_5 zc7))
              refine lv_iinc (v := t22) (lv' := [(4, .int t22), (5, .int (v6 2)), (3, .int 1600), (0, .ref (x 2)), (1, .int 1), (2, .int 2)]) hx hb dX6_expression_125 hl (k := 1) rfl et22.symm (Nat.le_of_ble_eq_true rfl) rfl (fun ls hl => ?_)
              refine lv_goto (tgt := 63) hx hb dX6_expression_128 rfl ?_
              have rg24 := fb_rng t22
              exact ih6 t22 v20 f21 hIv20 hq0_v20 hq1_v20 hq9_v20 hq10_v20 hq31_v20 hq32_v20 ((gsX_X6_expression_14_q1 c7 hG9 hG11 hG15 hG19 et22).symm.trans hT6) ⟨show (0 : Int) ≤ t22.toInt from om_43 hr4_6 zt22, show t22.toInt ≤ (2147483647 : Int) from om_44 rg24⟩ hM_v20 hA_f21 (show (2147483647 - t22.toInt).toNat < n6 from om_33 hm6 zt22 rg24) _ _ _ hP hD hS (lv_sub hl [0, 2, 3, 4, 5] rfl)
            · skip
              subst g18
              refine lv_if_ne (tgt := 112) hx hb dX6_expression_107 rfl (fun c0 => absurd (by decide) c0) (fun _ => ?_)
              refine lv_iconst (v := 0) hx hb dX6_expression_110 rfl ?_
              exact ret 0 (v16, f17) _ _ _ _ _ _ rfl ⟨(hT6.symm.trans (gsX_X6_expression_14_q2 c7 hG9 hG11 hG15)), hM_v16, hA_f17, hIv16, (hk0_v16.trans (hk0_v12.trans hq0_v6)), (hk1_v16.trans (hk1_v12.trans hq1_v6)), (hk9_v16.trans (hk9_v12.trans hq9_v6)), (hk10_v16.trans (hk10_v12.trans hq10_v6)), (hk31_v16.trans (hk31_v12.trans hq31_v6)), (hk32_v16.trans (hk32_v12.trans hq32_v6)), (Or.inr rfl)⟩ hP hD hS dX6_expression_111 (Nat.le_refl _) (Nat.le_refl _)
          · skip
            subst g10
            refine lv_if_eq (tgt := 131) hx hb dX6_expression_80 rfl (fun _ => ?_) (fun c0 => absurd (by decide) c0)
            refine lv_iconst (v := 1) hx hb dX6_expression_131 rfl ?_
            exact ret 1 (v6, f6) _ _ _ _ _ _ rfl ⟨(hT6.symm.trans (gsX_X6_expression_14_q3 c7 hG9)), hM_v6, hA_f6, hIv6, hq0_v6, hq1_v6, hq9_v6, hq10_v6, hq31_v6, hq32_v6, (Or.inl rfl)⟩ hP hD hS dX6_expression_132 (Nat.le_refl _) (Nat.le_refl _)
    exact lp6 (4294967296 + NF) 0 v3 f4 hIv3 hq0_v3 hq1_v3 hq9_v3 hq10_v3 hq31_v3 hq32_v3 (gsX_X6_expression_14_q4 hG2).symm ⟨by decide, by decide⟩ hM_v3 hA_f4 (show (2147483647 - (0 : Int32).toInt).toNat < 4294967296 + NF from om_38 tc_0) _ _ _ hP hD hS (lv_sub hl [0, 1, 2, 3, 4] rfl)
  · skip
    subst g5
    refine lv_if_ne (tgt := 47) hx hb dX6_expression_42 rfl (fun c0 => absurd (by decide) c0) (fun _ => ?_)
    refine lv_iconst (v := 0) hx hb dX6_expression_45 rfl ?_
    exact ret 0 (v3, f4) _ _ _ _ _ _ rfl ⟨(gsX_X6_expression_14_q5 hG2), hM_v3, hA_f4, hIv3, hk0_v3, hk1_v3, hk9_v3, hk10_v3, hk31_v3, hk32_v3, (Or.inr rfl)⟩ hP hD hS dX6_expression_46 (Nat.le_refl _) (Nat.le_refl _)
set_option maxHeartbeats 4000000 in
set_option maxRecDepth 100000 in
theorem sX_X6_expression_13 (NF : Nat) (l : Launch) (dC : Nat → ClassId) (dI : Nat → Nat → Nat) (cy : Nat → ClassId) (x0 : Nat) (x : Nat → Nat)  (v : Nat → Int32) (f : Nat → Nat → Int32) (hIv : XI v)  : ctIS l (dC, dI) cy yX6_expression cX6_expression 6 .boolean 48 1204 0 0 ((Nat → Int32) × (Nat → Nat → Int32)) [.ref (x 2), .int 0, .int 2] (XW cy x0 x v f) (fun r u => gsX_X6_expression_13 NF v f = (r, u) ∧ KV [2, 3, 4, 5, 7, 8, 16, 17] u.1 v ∧ KF [3, 4] u.2 f ∧ XI u.1 ∧ u.1 0 = v 0 ∧ u.1 1 = v 1 ∧ u.1 9 = v 9 ∧ u.1 10 = v 10 ∧ u.1 31 = v 31 ∧ u.1 32 = v 32 ∧ ((r = 1) ∨ (r = 0))) (fun u => XW cy x0 x u.1 u.2) := by
  refine ctIS_of (by decide) (Nat.le_of_ble_eq_true rfl) (fun p e s m below meth c A ls Q hx hb hml hts hown hE hF hT hP hD hA hl ret => ?_)
  have hM_v : KV [2, 3, 4, 5, 7, 8, 16, 17] v v := fun _ _ => rfl
  have hA_f : KF [3, 4] f f := fun _ _ => rfl
  have hown : s.vm.findClass RX6 = some m.cls := hown
  have hS : va_S A s.heap s.heap [] := va_S.rf
  have hl : lv_has ls 6 [(0, .ref (x 2)), (1, .int 0), (2, .int 2)] := hl
  refine lv_iload_n hx hb dX6_expression_0 rfl (lv_at hl 1 rfl) ?_
  refine lv_iconst (v := 5) hx hb dX6_expression_1 rfl ?_
  refine lv_icmp_lt (tgt := 11) hx hb dX6_expression_2 rfl (fun _ => ?_) (fun c0 => absurd (by decide) c0)
  refine lv_iload_n hx hb dX6_expression_11 rfl (lv_at hl 1 rfl) ?_
  refine lv_iconst (v := 2) hx hb dX6_expression_12 rfl ?_
  refine lv_icmp_ne (tgt := 34) hx hb dX6_expression_13 rfl (fun _ => ?_) (fun c0 => absurd c0 (by decide))
  refine lv_aload_n hx hb dX6_expression_34 rfl (lv_at hl 0 rfl) ?_
  refine lv_iload_n hx hb dX6_expression_35 rfl (lv_at hl 1 rfl) ?_
  refine lv_iconst (v := 1) hx hb dX6_expression_36 rfl ?_
  refine lv_iadd hx hb dX6_expression_37 ?_
  refine tI (y := 1) (by decide) ?_
  refine lv_iload_n hx hb dX6_expression_38 rfl (lv_at hl 2 rfl) ?_
  refine csVi (n := 2) (rest := []) hx hb hml hown hts hE hP hD hS hA hF hT (sX_X6_expression_14 NF l dC dI cy x0 x  v f hIv ) k_740 k_742 k_15 k_103 k_743 hd_yX6_expression ⟨Nat.le_of_ble_eq_true rfl, Nat.le_of_ble_eq_true rfl⟩ 3 6 rfl rfl (rfl) hl.1 rfl (Nat.le_of_ble_eq_true rfl) dX6_expression_39 (fun r1 u H locs hw hP hD hS => ?_)
  obtain ⟨hG2, hw⟩ := hw
  obtain ⟨v3, f4⟩ := u
  obtain ⟨kV_v3, kF_f4, hIv3, hk0_v3, hk1_v3, hk9_v3, hk10_v3, hk31_v3, hk32_v3, hw⟩ := hw
  have hM_v3 : KV [2, 3, 4, 5, 7, 8, 16, 17] v3 v := KV.tr kV_v3 hM_v rfl
  have hA_f4 : KF [3, 4] f4 f := KF.tr kF_f4 hA_f rfl
  have hP : va_P (dC, dI) vwCl (XW cy x0 x v3 f4) H := hP
  have hD : va_D A (XW cy x0 x v3 f4) := hD
  have hq0_v3 : v3 0 = (v 0) := hk0_v3
  have hq1_v3 : v3 1 = (v 1) := hk1_v3
  have hq9_v3 : v3 9 = (v 9) := hk9_v3
  have hq10_v3 : v3 10 = (v 10) := hk10_v3
  have hq31_v3 : v3 31 = (v 31) := hk31_v3
  have hq32_v3 : v3 32 = (v 32) := hk32_v3
  rcases hw with ⟨g5⟩ | ⟨g5⟩
  · skip
    subst g5
    refine lv_if_ne (tgt := 47) hx hb dX6_expression_42 rfl (fun _ => ?_) (fun c0 => absurd c0 (by decide))
    refine lv_iload_n hx hb dX6_expression_47 rfl (lv_at hl 1 rfl) ?_
    refine lv_iconst (v := 2) hx hb dX6_expression_48 rfl ?_
    refine lv_icmp_ne (tgt := 56) hx hb dX6_expression_49 rfl (fun _ => ?_) (fun c0 => absurd c0 (by decide))
    refine lv_sipush (v := 1600) hx hb dX6_expression_56 rfl ?_
    refine lv_istore_n (lv' := [(3, .int 1600), (0, .ref (x 2)), (1, .int 0), (2, .int 2)]) hx hb dX6_expression_59 rfl hl (Nat.le_of_ble_eq_true rfl) rfl (fun ls hl => ?_)
    refine lv_iconst (v := 0) hx hb dX6_expression_60 rfl ?_
    refine lv_istore (lv' := [(4, .int 0), (3, .int 1600), (0, .ref (x 2)), (1, .int 0), (2, .int 2)]) hx hb dX6_expression_61 hl (Nat.le_of_ble_eq_true rfl) rfl (fun ls hl => ?_)
    have lp6 : ∀ (n6 : Nat) (l4_6 : Int32) (v6 : Nat → Int32) (f6 : Nat → Nat → Int32), XI v6 → v6 0 = (v 0) → v6 1 = (v 1) → v6 9 = (v 9) → v6 10 = (v 10) → v6 31 = (v 31) → v6 32 = (v 32) → gsX_X6_expression_13_L6 NF n6 l4_6 v6 f6 = (gsX_X6_expression_13 NF v f) → ((0 : Int) ≤ l4_6.toInt ∧ l4_6.toInt ≤ 2147483647) → KV [2, 3, 4, 5, 7, 8, 16, 17] v6 v → KF [3, 4] f6 f → (2147483647 - l4_6.toInt).toNat < n6 → ∀ (H : Heap) (locs : List Loc) (ls : Array Slot), va_P (dC, dI) vwCl (XW cy x0 x v6 f6) H → va_D A (XW cy x0 x v6 f6) → va_S A s.heap H locs → lv_has ls 6 [(4, .int l4_6), (3, .int 1600), (0, .ref (x 2)), (1, .int 0), (2, .int 2)] → W p l e { frames := 48, cells := 0, slots := 0, locals := 1204 } s m ([.ref (x 2), .int 0, .int 2] : List Value).toArray below meth c H locs 0 0 Q (F0 m 63 ls []) := by
      intro n6
      induction n6 with
      | zero => intro l4_6 v6 f6 hIv6 hq0_v6 hq1_v6 hq9_v6 hq10_v6 hq31_v6 hq32_v6 hT6 hr4_6 hM_v6 hA_f6 hm; exact absurd hm (Nat.not_lt_zero _)
      | succ n6 ih6 =>
        intro l4_6 v6 f6 hIv6 hq0_v6 hq1_v6 hq9_v6 hq10_v6 hq31_v6 hq32_v6 hT6 hr4_6 hM_v6 hA_f6 hm6 H locs ls hP hD hS hl
        refine lv_iload hx hb dX6_expression_63 (lv_at hl 0 rfl) ?_
        refine lv_iload_n hx hb dX6_expression_65 rfl (lv_at hl 1 rfl) ?_
        refine lv_icmp_ge (tgt := 131) hx hb dX6_expression_66 rfl (fun c7 => ?_) (fun c7 => ?_)
        · skip
          refine lv_iconst (v := 1) hx hb dX6_expression_131 rfl ?_
          exact ret 1 (v6, f6) _ _ _ _ _ _ rfl ⟨(hT6.symm.trans (gsX_X6_expression_13_q0 c7)), hM_v6, hA_f6, hIv6, hq0_v6, hq1_v6, hq9_v6, hq10_v6, hq31_v6, hq32_v6, (Or.inl rfl)⟩ hP hD hS dX6_expression_132 (Nat.le_refl _) (Nat.le_refl _)
        · skip
          have zc7 : ¬ (1600 ≤ l4_6.toInt) := zMn tc_1600 rfl c7
          refine lv_iload_n hx hb dX6_expression_69 rfl (lv_at hl 3 rfl) ?_
          refine lv_aload_n hx hb dX6_expression_70 rfl (lv_at hl 2 rfl) ?_
          refine va_get (D := (dC, dI)) (ci := 6) (v := .ref (x 0)) (C := RX6) (T := TX6) (N := 7) hx hb hts inB_6 hown hE.1 hP 3 rfl rfl 0 (Nat.le_of_ble_eq_true rfl) (hts _ k_265) (fun _ h9 => h9) rfl dX6_expression_71 ?_
          refine va_getN (D := (dC, dI)) (ci := 9) (v := .int (v6 2)) (C := RX9) (T := TX9) (N := 6) hx hb hts inB_9 hown hE.1 hP 1 rfl rfl 2 (Nat.le_of_ble_eq_true rfl) (va_Nw.use rfl (hE.2 _ k_139)) (fun _ h9 => h9) rfl dX6_expression_74 ?_
          refine cbSi (n := 2) (rest := []) hx hb hml hown hts hE hP hD hS hA (sX_X6_joins_1 NF l dC dI cy x0 x 0 (v6 2) v6 f6 hIv6 ) k_756 k_757 k_103 k_758 he_yX6_joins ⟨Nat.le_of_ble_eq_true rfl, Nat.le_of_ble_eq_true rfl⟩ (rfl) hl.1 rfl (Nat.le_of_ble_eq_true rfl) dX6_expression_77 (fun r8 u H locs hw hP hD hS => ?_)
          obtain ⟨hG9, hw⟩ := hw
          rcases hw with ⟨g10⟩ | ⟨g10⟩
          · skip
            subst g10
            refine lv_if_eq (tgt := 131) hx hb dX6_expression_80 rfl (fun c0 => absurd c0 (by decide)) (fun _ => ?_)
            refine lv_aload_n hx hb dX6_expression_83 rfl (lv_at hl 2 rfl) ?_
            refine va_get (D := (dC, dI)) (ci := 6) (v := .ref (x 0)) (C := RX6) (T := TX6) (N := 7) hx hb hts inB_6 hown hE.1 hP 3 rfl rfl 0 (Nat.le_of_ble_eq_true rfl) (hts _ k_265) (fun _ h9 => h9) rfl dX6_expression_84 ?_
            refine va_getN (D := (dC, dI)) (ci := 9) (v := .int (v6 2)) (C := RX9) (T := TX9) (N := 6) hx hb hts inB_9 hown hE.1 hP 1 rfl rfl 2 (Nat.le_of_ble_eq_true rfl) (va_Nw.use rfl (hE.2 _ k_139)) (fun _ h9 => h9) rfl dX6_expression_87 ?_
            refine lv_istore (lv' := [(5, .int (v6 2)), (4, .int l4_6), (3, .int 1600), (0, .ref (x 2)), (1, .int 0), (2, .int 2)]) hx hb dX6_expression_90 hl (Nat.le_of_ble_eq_true rfl) rfl (fun ls hl => ?_)
            refine lv_aload_n hx hb dX6_expression_92 rfl (lv_at hl 3 rfl) ?_
            refine va_get (D := (dC, dI)) (ci := 6) (v := .ref (x 0)) (C := RX6) (T := TX6) (N := 7) hx hb hts inB_6 hown hE.1 hP 3 rfl rfl 0 (Nat.le_of_ble_eq_true rfl) (hts _ k_265) (fun _ h9 => h9) rfl dX6_expression_93 ?_
            refine csVv (n := 0) (rest := []) hx hb hml hown hts hE hP hD hS hA hF hT (sX_X9_advance_1 NF l dC dI cy x0 x  v6 f6 hIv6 ) k_699 k_559 k_560 k_102 k_561 hd_yX9_advance ⟨Nat.le_of_ble_eq_true rfl, Nat.le_of_ble_eq_true rfl⟩ 1 9 rfl rfl (rfl) hl.1 rfl (Nat.le_of_ble_eq_true rfl) dX6_expression_96 (fun u H locs hw hP hD hS => ?_)
            obtain ⟨hG11, hw⟩ := hw
            obtain ⟨v12, f13⟩ := u
            obtain ⟨kV_v12, kF_f13, hIv12, hk0_v12, hk1_v12, hk7_v12, hk8_v12, hk9_v12, hk10_v12, hk31_v12, hk32_v12⟩ := hw
            have hM_v12 : KV [2, 3, 4, 5, 7, 8, 16, 17] v12 v := KV.tr kV_v12 hM_v6 rfl
            have hA_f13 : KF [3, 4] f13 f := KF.tr kF_f13 hA_f6 rfl
            have hP : va_P (dC, dI) vwCl (XW cy x0 x v12 f13) H := hP
            have hD : va_D A (XW cy x0 x v12 f13) := hD
            have hq0_v12 : v12 0 = (v 0) := hk0_v12.trans hq0_v6
            have hq1_v12 : v12 1 = (v 1) := hk1_v12.trans hq1_v6
            have hq9_v12 : v12 9 = (v 9) := hk9_v12.trans hq9_v6
            have hq10_v12 : v12 10 = (v 10) := hk10_v12.trans hq10_v6
            have hq31_v12 : v12 31 = (v 31) := hk31_v12.trans hq31_v6
            have hq32_v12 : v12 32 = (v 32) := hk32_v12.trans hq32_v6
            refine lv_aload_n hx hb dX6_expression_99 rfl (lv_at hl 3 rfl) ?_
            refine lv_iload_n hx hb dX6_expression_100 rfl (lv_at hl 4 rfl) ?_
            refine lv_iconst (v := 1) hx hb dX6_expression_101 rfl ?_
            refine lv_iadd hx hb dX6_expression_102 ?_
            refine tI (y := 1) (by decide) ?_
            refine lv_iload_n hx hb dX6_expression_103 rfl (lv_at hl 5 rfl) ?_
            refine csVi (n := 2) (rest := []) hx hb hml hown hts hE hP hD hS hA hF hT (sX_X6_expression_14 NF l dC dI cy x0 x  v12 f13 hIv12 ) k_740 k_742 k_15 k_103 k_743 hd_yX6_expression ⟨Nat.le_of_ble_eq_true rfl, Nat.le_of_ble_eq_true rfl⟩ 3 6 rfl rfl (rfl) hl.1 rfl (Nat.le_of_ble_eq_true rfl) dX6_expression_104 (fun r14 u H locs hw hP hD hS => ?_)
            obtain ⟨hG15, hw⟩ := hw
            obtain ⟨v16, f17⟩ := u
            obtain ⟨kV_v16, kF_f17, hIv16, hk0_v16, hk1_v16, hk9_v16, hk10_v16, hk31_v16, hk32_v16, hw⟩ := hw
            have hM_v16 : KV [2, 3, 4, 5, 7, 8, 16, 17] v16 v := KV.tr kV_v16 hM_v12 rfl
            have hA_f17 : KF [3, 4] f17 f := KF.tr kF_f17 hA_f13 rfl
            have hP : va_P (dC, dI) vwCl (XW cy x0 x v16 f17) H := hP
            have hD : va_D A (XW cy x0 x v16 f17) := hD
            have hq0_v16 : v16 0 = (v 0) := hk0_v16.trans hq0_v12
            have hq1_v16 : v16 1 = (v 1) := hk1_v16.trans hq1_v12
            have hq9_v16 : v16 9 = (v 9) := hk9_v16.trans hq9_v12
            have hq10_v16 : v16 10 = (v 10) := hk10_v16.trans hq10_v12
            have hq31_v16 : v16 31 = (v 31) := hk31_v16.trans hq31_v12
            have hq32_v16 : v16 32 = (v 32) := hk32_v16.trans hq32_v12
            rcases hw with ⟨g18⟩ | ⟨g18⟩
            · skip
              subst g18
              refine lv_if_ne (tgt := 112) hx hb dX6_expression_107 rfl (fun _ => ?_) (fun c0 => absurd c0 (by decide))
              refine lv_aload_n hx hb dX6_expression_112 rfl (lv_at hl 3 rfl) ?_
              refine va_get (D := (dC, dI)) (ci := 6) (v := .ref (x 3)) (C := RX6) (T := TX6) (N := 7) hx hb hts inB_6 hown hE.1 hP 3 rfl rfl 1 (Nat.le_of_ble_eq_true rfl) (hts _ k_266) (fun _ h9 => h9) rfl dX6_expression_113 ?_
              refine va_getN (D := (dC, dI)) (ci := 7) (v := .ref (x 6)) (C := RX7) (T := TX7) (N := 10) hx hb hts inB_7 hown hE.1 hP 4 rfl rfl 2 (Nat.le_of_ble_eq_true rfl) (va_Nw.use rfl (hE.2 _ k_210)) (fun _ h9 => h9) rfl dX6_expression_116 ?_
              refine lv_iload hx hb dX6_expression_119 (lv_at hl 0 rfl) ?_
              refine lv_iconst (v := 0) hx hb dX6_expression_121 rfl ?_
              refine cbVv (n := 2) (rest := []) hx hb hml hown hts hE hP hD hS hA (sX_X4_add_1 NF l dC dI cy x0 x (v6 2) 0 v16 f17 hIv16 ) k_748 k_749 k_750 k_105 k_751 hd_yX4_add ⟨Nat.le_of_ble_eq_true rfl, Nat.le_of_ble_eq_true rfl⟩ 7 4 rfl rfl (rfl) hl.1 rfl (Nat.le_of_ble_eq_true rfl) dX6_expression_122 (fun u H locs hw hP hD hS => ?_)
              obtain ⟨hG19, hw⟩ := hw
              obtain ⟨v20, f21⟩ := u
              obtain ⟨kV_v20, kF_f21, hIv20, hk0_v20, hk1_v20, hk7_v20, hk8_v20, hk9_v20, hk10_v20, hk31_v20, hk32_v20⟩ := hw
              have hM_v20 : KV [2, 3, 4, 5, 7, 8, 16, 17] v20 v := KV.tr kV_v20 hM_v16 rfl
              have hA_f21 : KF [3, 4] f21 f := KF.tr kF_f21 hA_f17 rfl
              have hP : va_P (dC, dI) vwCl (XW cy x0 x v20 f21) H := hP
              have hD : va_D A (XW cy x0 x v20 f21) := hD
              have hq0_v20 : v20 0 = (v 0) := hk0_v20.trans hq0_v16
              have hq1_v20 : v20 1 = (v 1) := hk1_v20.trans hq1_v16
              have hq9_v20 : v20 9 = (v 9) := hk9_v20.trans hq9_v16
              have hq10_v20 : v20 10 = (v 10) := hk10_v20.trans hq10_v16
              have hq31_v20 : v20 31 = (v 31) := hk31_v20.trans hq31_v16
              have hq32_v20 : v20 32 = (v 32) := hk32_v20.trans hq32_v16
              obtain ⟨t22, et22⟩ : ∃ y : Int32, y = l4_6 + 1 := ⟨_, rfl⟩
              have zt22 : t22.toInt = l4_6.toInt + 1 := (congrArg Int32.toInt et22).trans (add_i rfl tc_1 (om_41 hr4_6) (om_5 zc7))
              refine lv_iinc (v := t22) (lv' := [(4, .int t22), (5, .int (v6 2)), (3, .int 1600), (0, .ref (x 2)), (1, .int 0), (2, .int 2)]) hx hb dX6_expression_125 hl (k := 1) rfl et22.symm (Nat.le_of_ble_eq_true rfl) rfl (fun ls hl => ?_)
              refine lv_goto (tgt := 63) hx hb dX6_expression_128 rfl ?_
              have rg24 := fb_rng t22
              exact ih6 t22 v20 f21 hIv20 hq0_v20 hq1_v20 hq9_v20 hq10_v20 hq31_v20 hq32_v20 ((gsX_X6_expression_13_q1 c7 hG9 hG11 hG15 hG19 et22).symm.trans hT6) ⟨show (0 : Int) ≤ t22.toInt from om_43 hr4_6 zt22, show t22.toInt ≤ (2147483647 : Int) from om_44 rg24⟩ hM_v20 hA_f21 (show (2147483647 - t22.toInt).toNat < n6 from om_33 hm6 zt22 rg24) _ _ _ hP hD hS (lv_sub hl [0, 2, 3, 4, 5] rfl)
            · skip
              subst g18
              refine lv_if_ne (tgt := 112) hx hb dX6_expression_107 rfl (fun c0 => absurd (by decide) c0) (fun _ => ?_)
              refine lv_iconst (v := 0) hx hb dX6_expression_110 rfl ?_
              exact ret 0 (v16, f17) _ _ _ _ _ _ rfl ⟨(hT6.symm.trans (gsX_X6_expression_13_q2 c7 hG9 hG11 hG15)), hM_v16, hA_f17, hIv16, (hk0_v16.trans (hk0_v12.trans hq0_v6)), (hk1_v16.trans (hk1_v12.trans hq1_v6)), (hk9_v16.trans (hk9_v12.trans hq9_v6)), (hk10_v16.trans (hk10_v12.trans hq10_v6)), (hk31_v16.trans (hk31_v12.trans hq31_v6)), (hk32_v16.trans (hk32_v12.trans hq32_v6)), (Or.inr rfl)⟩ hP hD hS dX6_expression_111 (Nat.le_refl _) (Nat.le_refl _)
          · skip
            subst g10
            refine lv_if_eq (tgt := 131) hx hb dX6_expression_80 rfl (fun _ => ?_) (fun c0 => absurd (by decide) c0)
            refine lv_iconst (v := 1) hx hb dX6_expression_131 rfl ?_
            exact ret 1 (v6, f6) _ _ _ _ _ _ rfl ⟨(hT6.symm.trans (gsX_X6_expression_13_q3 c7 hG9)), hM_v6, hA_f6, hIv6, hq0_v6, hq1_v6, hq9_v6, hq10_v6, hq31_v6, hq32_v6, (Or.inl rfl)⟩ hP hD hS dX6_expression_132 (Nat.le_refl _) (Nat.le_refl _)
    exact lp6 (4294967296 + NF) 0 v3 f4 hIv3 hq0_v3 hq1_v3 hq9_v3 hq10_v3 hq31_v3 hq32_v3 (gsX_X6_expression_13_q4 hG2).symm ⟨by decide, by decide⟩ hM_v3 hA_f4 (show (2147483647 - (0 : Int32).toInt).toNat < 4294967296 + NF from om_38 tc_0) _ _ _ hP hD hS (lv_sub hl [0, 1, 2, 3, 4] rfl)
  · skip
    subst g5
    refine lv_if_ne (tgt := 47) hx hb dX6_expression_42 rfl (fun c0 => absurd (by decide) c0) (fun _ => ?_)
    refine lv_iconst (v := 0) hx hb dX6_expression_45 rfl ?_
    exact ret 0 (v3, f4) _ _ _ _ _ _ rfl ⟨(gsX_X6_expression_13_q5 hG2), hM_v3, hA_f4, hIv3, hk0_v3, hk1_v3, hk9_v3, hk10_v3, hk31_v3, hk32_v3, (Or.inr rfl)⟩ hP hD hS dX6_expression_46 (Nat.le_refl _) (Nat.le_refl _)
set_option maxHeartbeats 4000000 in
set_option maxRecDepth 100000 in
theorem sX_X6_unit_2 (NF : Nat) (l : Launch) (dC : Nat → ClassId) (dI : Nat → Nat → Nat) (cy : Nat → ClassId) (x0 : Nat) (x : Nat → Nat)  (v : Nat → Int32) (f : Nat → Nat → Int32) (hIv : XI v)  : ctIS l (dC, dI) cy yX6_unit cX6_unit 4 .boolean 49 1229 0 0 ((Nat → Int32) × (Nat → Nat → Int32)) [.ref (x 2), .int 1] (XW cy x0 x v f) (fun r u => gsX_X6_unit_2 NF v f = (r, u) ∧ KV [2, 3, 4, 5, 7, 8, 16, 17] u.1 v ∧ KF [3, 4] u.2 f ∧ XI u.1 ∧ u.1 0 = v 0 ∧ u.1 1 = v 1 ∧ u.1 9 = v 9 ∧ u.1 10 = v 10 ∧ u.1 31 = v 31 ∧ u.1 32 = v 32 ∧ ((r = 1) ∨ (r = 0))) (fun u => XW cy x0 x u.1 u.2) := by
  refine ctIS_of (by decide) (Nat.le_of_ble_eq_true rfl) (fun p e s m below meth c A ls Q hx hb hml hts hown hE hF hT hP hD hA hl ret => ?_)
  have hM_v : KV [2, 3, 4, 5, 7, 8, 16, 17] v v := fun _ _ => rfl
  have hA_f : KF [3, 4] f f := fun _ _ => rfl
  have hown : s.vm.findClass RX6 = some m.cls := hown
  have hS : va_S A s.heap s.heap [] := va_S.rf
  have hl : lv_has ls 4 [(0, .ref (x 2)), (1, .int 1)] := hl
  refine lv_aload_n hx hb dX6_unit_0 rfl (lv_at hl 0 rfl) ?_
  refine va_get (D := (dC, dI)) (ci := 6) (v := .ref (x 0)) (C := RX6) (T := TX6) (N := 7) hx hb hts inB_6 hown hE.1 hP 3 rfl rfl 0 (Nat.le_of_ble_eq_true rfl) (hts _ k_265) (fun _ h9 => h9) rfl dX6_unit_1 ?_
  refine va_getN (D := (dC, dI)) (ci := 9) (v := .int (v 2)) (C := RX9) (T := TX9) (N := 6) hx hb hts inB_9 hown hE.1 hP 1 rfl rfl 2 (Nat.le_of_ble_eq_true rfl) (va_Nw.use rfl (hE.2 _ k_139)) (fun _ h9 => h9) rfl dX6_unit_4 ?_
  refine lv_istore_n (lv' := [(2, .int (v 2)), (0, .ref (x 2)), (1, .int 1)]) hx hb dX6_unit_7 rfl hl (Nat.le_of_ble_eq_true rfl) rfl (fun ls hl => ?_)
  refine lv_iload_n hx hb dX6_unit_8 rfl (lv_at hl 0 rfl) ?_
  refine lv_iconst (v := 2) hx hb dX6_unit_9 rfl ?_
  refine lv_icmp_eq (tgt := 25) hx hb dX6_unit_10 rfl (fun c1 => ?_) (fun c1 => ?_)
  · skip
    refine lv_iconst (v := 1) hx hb dX6_unit_25 rfl ?_
    refine lv_goto (tgt := 30) hx hb dX6_unit_26 rfl ?_
    refine lv_istore_n (lv' := [(3, .int 1), (2, .int (v 2)), (0, .ref (x 2)), (1, .int 1)]) hx hb dX6_unit_30 rfl hl (Nat.le_of_ble_eq_true rfl) rfl (fun ls hl => ?_)
    refine lv_iload_n hx hb dX6_unit_31 rfl (lv_at hl 0 rfl) ?_
    refine lv_if_ne (tgt := 41) hx hb dX6_unit_32 rfl (fun _ => ?_) (fun c0 => absurd c0 (by decide))
    refine lv_aload_n hx hb dX6_unit_41 rfl (lv_at hl 2 rfl) ?_
    refine va_get (D := (dC, dI)) (ci := 6) (v := .ref (x 3)) (C := RX6) (T := TX6) (N := 7) hx hb hts inB_6 hown hE.1 hP 3 rfl rfl 1 (Nat.le_of_ble_eq_true rfl) (hts _ k_266) (fun _ h9 => h9) rfl dX6_unit_42 ?_
    refine va_getN (D := (dC, dI)) (ci := 7) (v := .ref (x 6)) (C := RX7) (T := TX7) (N := 10) hx hb hts inB_7 hown hE.1 hP 4 rfl rfl 2 (Nat.le_of_ble_eq_true rfl) (va_Nw.use rfl (hE.2 _ k_210)) (fun _ h9 => h9) rfl dX6_unit_45 ?_
    refine va_getN (D := (dC, dI)) (ci := 4) (v := .int (v 17)) (C := RX4) (T := TX4) (N := 6) hx hb hts inB_4 hown hE.1 hP 7 rfl rfl 5 (Nat.le_of_ble_eq_true rfl) (va_Nw.use rfl (hE.2 _ k_184)) (fun _ h9 => h9) rfl dX6_unit_48 ?_
    refine lv_bipush (v := 30) hx hb dX6_unit_51 rfl ?_
    refine lv_icmp_lt (tgt := 61) hx hb dX6_unit_53 rfl (fun c2 => ?_) (fun c2 => ?_)
    · skip
      refine lv_iload_n hx hb dX6_unit_61 rfl (lv_at hl 0 rfl) ?_
      refine lv_if_eq (tgt := 108) hx hb dX6_unit_62 rfl (fun c0 => absurd c0 (by decide)) (fun _ => ?_)
      refine lv_aload_n hx hb dX6_unit_65 rfl (lv_at hl 2 rfl) ?_
      refine va_get (D := (dC, dI)) (ci := 6) (v := .ref (x 3)) (C := RX6) (T := TX6) (N := 7) hx hb hts inB_6 hown hE.1 hP 3 rfl rfl 1 (Nat.le_of_ble_eq_true rfl) (hts _ k_266) (fun _ h9 => h9) rfl dX6_unit_66 ?_
      refine va_getN (D := (dC, dI)) (ci := 7) (v := .ref (x 6)) (C := RX7) (T := TX7) (N := 10) hx hb hts inB_7 hown hE.1 hP 4 rfl rfl 2 (Nat.le_of_ble_eq_true rfl) (va_Nw.use rfl (hE.2 _ k_210)) (fun _ h9 => h9) rfl dX6_unit_69 ?_
      refine lv_iload_n hx hb dX6_unit_72 rfl (lv_at hl 1 rfl) ?_
      refine lv_aload_n hx hb dX6_unit_73 rfl (lv_at hl 2 rfl) ?_
      refine va_get (D := (dC, dI)) (ci := 6) (v := .ref (x 0)) (C := RX6) (T := TX6) (N := 7) hx hb hts inB_6 hown hE.1 hP 3 rfl rfl 0 (Nat.le_of_ble_eq_true rfl) (hts _ k_265) (fun _ h9 => h9) rfl dX6_unit_74 ?_
      refine va_getN (D := (dC, dI)) (ci := 9) (v := .int (v 5)) (C := RX9) (T := TX9) (N := 6) hx hb hts inB_9 hown hE.1 hP 1 rfl rfl 5 (Nat.le_of_ble_eq_true rfl) (va_Nw.use rfl (hE.2 _ k_145)) (fun _ h9 => h9) rfl dX6_unit_77 ?_
      refine cbVv (n := 2) (rest := []) hx hb hml hown hts hE hP hD hS hA (sX_X4_add_1 NF l dC dI cy x0 x (v 2) (v 5) v f hIv ) k_748 k_749 k_750 k_105 k_751 hd_yX4_add ⟨Nat.le_of_ble_eq_true rfl, Nat.le_of_ble_eq_true rfl⟩ 7 4 rfl rfl (rfl) hl.1 rfl (Nat.le_of_ble_eq_true rfl) dX6_unit_80 (fun u H locs hw hP hD hS => ?_)
      obtain ⟨hG3, hw⟩ := hw
      obtain ⟨v4, f5⟩ := u
      obtain ⟨kV_v4, kF_f5, hIv4, hk0_v4, hk1_v4, hk7_v4, hk8_v4, hk9_v4, hk10_v4, hk31_v4, hk32_v4⟩ := hw
      have hM_v4 : KV [2, 3, 4, 5, 7, 8, 16, 17] v4 v := KV.tr kV_v4 hM_v rfl
      have hA_f5 : KF [3, 4] f5 f := KF.tr kF_f5 hA_f rfl
      have hP : va_P (dC, dI) vwCl (XW cy x0 x v4 f5) H := hP
      have hD : va_D A (XW cy x0 x v4 f5) := hD
      refine lv_aload_n hx hb dX6_unit_83 rfl (lv_at hl 2 rfl) ?_
      refine va_get (D := (dC, dI)) (ci := 6) (v := .ref (x 3)) (C := RX6) (T := TX6) (N := 7) hx hb hts inB_6 hown hE.1 hP 3 rfl rfl 1 (Nat.le_of_ble_eq_true rfl) (hts _ k_266) (fun _ h9 => h9) rfl dX6_unit_84 ?_
      refine va_getN (D := (dC, dI)) (ci := 7) (v := .ref (x 6)) (C := RX7) (T := TX7) (N := 10) hx hb hts inB_7 hown hE.1 hP 4 rfl rfl 2 (Nat.le_of_ble_eq_true rfl) (va_Nw.use rfl (hE.2 _ k_210)) (fun _ h9 => h9) rfl dX6_unit_87 ?_
      refine lv_dup hx hb dX6_unit_90 rfl ?_
      refine va_getN (D := (dC, dI)) (ci := 4) (v := .int (v4 17)) (C := RX4) (T := TX4) (N := 6) hx hb hts inB_4 hown hE.1 hP 7 rfl rfl 5 (Nat.le_of_ble_eq_true rfl) (va_Nw.use rfl (hE.2 _ k_184)) (fun _ h9 => h9) rfl dX6_unit_91 ?_
      refine lv_iconst (v := 1) hx hb dX6_unit_94 rfl ?_
      refine lv_iadd hx hb dX6_unit_95 ?_
      refine lv_topi (fun t6 et6 => ?_)
      refine va_putN (D := (dC, dI)) (ci := 4) (v := .int t6) (ty := tyX4 5) (C := RX4) (T := TX4) (N := 6) hx hb hts inB_4 tyX4 tyX4_ok nmX4 hown hE.1 hP hD hS 7 rfl rfl 5 (by decide) (va_Nw.use rfl (hE.2 _ k_184)) (fun _ h9 => h9) rfl (tyX4_ok 5 (Nat.le_of_ble_eq_true rfl)) rfl rfl (Nat.le_of_ble_eq_true rfl) dX6_unit_96 (fun H locs hP hD hS => ?_)
      have hP : va_P (dC, dI) vwCl (XW cy x0 x (upd v4 17 t6) f5) H := hP
      have hD : va_D A (XW cy x0 x (upd v4 17 t6) f5) := hD
      refine lv_aload_n hx hb dX6_unit_99 rfl (lv_at hl 2 rfl) ?_
      refine va_get (D := (dC, dI)) (ci := 6) (v := .ref (x 0)) (C := RX6) (T := TX6) (N := 7) hx hb hts inB_6 hown hE.1 hP 3 rfl rfl 0 (Nat.le_of_ble_eq_true rfl) (hts _ k_265) (fun _ h9 => h9) rfl dX6_unit_100 ?_
      refine csVv (n := 0) (rest := []) hx hb hml hown hts hE hP hD hS hA hF hT (sX_X9_advance_1 NF l dC dI cy x0 x  (upd v4 17 t6) f5 (Xu_17 (x := t6) hIv4 (rlo _) (rhi _)) ) k_699 k_559 k_560 k_102 k_561 hd_yX9_advance ⟨Nat.le_of_ble_eq_true rfl, Nat.le_of_ble_eq_true rfl⟩ 1 9 rfl rfl (rfl) hl.1 rfl (Nat.le_of_ble_eq_true rfl) dX6_unit_103 (fun u H locs hw hP hD hS => ?_)
      obtain ⟨hG7, hw⟩ := hw
      obtain ⟨v8, f9⟩ := u
      obtain ⟨kV_v8, kF_f9, hIv8, hk0_v8, hk1_v8, hk7_v8, hk8_v8, hk9_v8, hk10_v8, hk31_v8, hk32_v8⟩ := hw
      have hM_v8 : KV [2, 3, 4, 5, 7, 8, 16, 17] v8 v := KV.tr kV_v8 (KV.up (j := 17) (x := t6) hM_v4 rfl) rfl
      have hA_f9 : KF [3, 4] f9 f := KF.tr kF_f9 hA_f5 rfl
      have hP : va_P (dC, dI) vwCl (XW cy x0 x v8 f9) H := hP
      have hD : va_D A (XW cy x0 x v8 f9) := hD
      refine lv_iconst (v := 1) hx hb dX6_unit_106 rfl ?_
      exact ret 1 (v8, f9) _ _ _ _ _ _ rfl ⟨(gsX_X6_unit_2_q0 c1 c2 hG3 et6 hG7), hM_v8, hA_f9, hIv8, (hk0_v8.trans hk0_v4), (hk1_v8.trans hk1_v4), (hk9_v8.trans hk9_v4), (hk10_v8.trans hk10_v4), (hk31_v8.trans hk31_v4), (hk32_v8.trans hk32_v4), (Or.inl rfl)⟩ hP hD hS dX6_unit_107 (Nat.le_refl _) (Nat.le_refl _)
    · skip
      refine lv_aload_n hx hb dX6_unit_56 rfl (lv_at hl 2 rfl) ?_
      refine cbVi (n := 0) (rest := []) hx hb hml hown hts hE hP hD hS hA (sX_X6_refuse_1 NF l dC dI cy x0 x  v f hIv ) k_691 k_693 k_6 k_103 k_694 hd_yX6_refuse ⟨Nat.le_of_ble_eq_true rfl, Nat.le_of_ble_eq_true rfl⟩ 3 6 rfl rfl (rfl) hl.1 rfl (Nat.le_of_ble_eq_true rfl) dX6_unit_57 (fun r10 u H locs hw hP hD hS => ?_)
      obtain ⟨hG11, hw⟩ := hw
      obtain ⟨v12, f13⟩ := u
      obtain ⟨kV_v12, kF_f13, hIv12, hk0_v12, hk1_v12, hk9_v12, hk10_v12, hk31_v12, hk32_v12, hw⟩ := hw
      have hM_v12 : KV [2, 3, 4, 5, 7, 8, 16, 17] v12 v := KV.tr kV_v12 hM_v rfl
      have hA_f13 : KF [3, 4] f13 f := KF.tr kF_f13 hA_f rfl
      have hP : va_P (dC, dI) vwCl (XW cy x0 x v12 f13) H := hP
      have hD : va_D A (XW cy x0 x v12 f13) := hD
      rcases hw with ⟨g14⟩ | ⟨g14⟩
      · skip
        subst g14
        exact ret 1 (v12, f13) _ _ _ _ _ _ rfl ⟨(gsX_X6_unit_2_q1 c1 c2 hG11), hM_v12, hA_f13, hIv12, hk0_v12, hk1_v12, hk9_v12, hk10_v12, hk31_v12, hk32_v12, (Or.inl rfl)⟩ hP hD hS dX6_unit_60 (Nat.le_refl _) (Nat.le_refl _)
      · skip
        subst g14
        exact ret 0 (v12, f13) _ _ _ _ _ _ rfl ⟨(gsX_X6_unit_2_q2 c1 c2 hG11), hM_v12, hA_f13, hIv12, hk0_v12, hk1_v12, hk9_v12, hk10_v12, hk31_v12, hk32_v12, (Or.inr rfl)⟩ hP hD hS dX6_unit_60 (Nat.le_refl _) (Nat.le_refl _)
  · skip
    refine lv_iload_n hx hb dX6_unit_13 rfl (lv_at hl 0 rfl) ?_
    refine lv_bipush (v := 116) hx hb dX6_unit_14 rfl ?_
    refine lv_icmp_lt (tgt := 29) hx hb dX6_unit_16 rfl (fun c15 => ?_) (fun c15 => ?_)
    · skip
      refine lv_iconst (v := 0) hx hb dX6_unit_29 rfl ?_
      refine lv_istore_n (lv' := [(3, .int 0), (2, .int (v 2)), (0, .ref (x 2)), (1, .int 1)]) hx hb dX6_unit_30 rfl hl (Nat.le_of_ble_eq_true rfl) rfl (fun ls hl => ?_)
      refine lv_iload_n hx hb dX6_unit_31 rfl (lv_at hl 0 rfl) ?_
      refine lv_if_ne (tgt := 41) hx hb dX6_unit_32 rfl (fun c0 => absurd (by decide) c0) (fun _ => ?_)
      refine lv_iload_n hx hb dX6_unit_35 rfl (lv_at hl 1 rfl) ?_
      refine lv_bipush (v := 40) hx hb dX6_unit_36 rfl ?_
      refine lv_icmp_ne (tgt := 56) hx hb dX6_unit_38 rfl (fun c16 => ?_) (fun c16 => ?_)
      · skip
        refine lv_aload_n hx hb dX6_unit_56 rfl (lv_at hl 2 rfl) ?_
        refine cbVi (n := 0) (rest := []) hx hb hml hown hts hE hP hD hS hA (sX_X6_refuse_1 NF l dC dI cy x0 x  v f hIv ) k_691 k_693 k_6 k_103 k_694 hd_yX6_refuse ⟨Nat.le_of_ble_eq_true rfl, Nat.le_of_ble_eq_true rfl⟩ 3 6 rfl rfl (rfl) hl.1 rfl (Nat.le_of_ble_eq_true rfl) dX6_unit_57 (fun r17 u H locs hw hP hD hS => ?_)
        obtain ⟨hG18, hw⟩ := hw
        obtain ⟨v19, f20⟩ := u
        obtain ⟨kV_v19, kF_f20, hIv19, hk0_v19, hk1_v19, hk9_v19, hk10_v19, hk31_v19, hk32_v19, hw⟩ := hw
        have hM_v19 : KV [2, 3, 4, 5, 7, 8, 16, 17] v19 v := KV.tr kV_v19 hM_v rfl
        have hA_f20 : KF [3, 4] f20 f := KF.tr kF_f20 hA_f rfl
        have hP : va_P (dC, dI) vwCl (XW cy x0 x v19 f20) H := hP
        have hD : va_D A (XW cy x0 x v19 f20) := hD
        rcases hw with ⟨g21⟩ | ⟨g21⟩
        · skip
          subst g21
          exact ret 1 (v19, f20) _ _ _ _ _ _ rfl ⟨(gsX_X6_unit_2_q3 c1 c15 c16 hG18), hM_v19, hA_f20, hIv19, hk0_v19, hk1_v19, hk9_v19, hk10_v19, hk31_v19, hk32_v19, (Or.inl rfl)⟩ hP hD hS dX6_unit_60 (Nat.le_refl _) (Nat.le_refl _)
        · skip
          subst g21
          exact ret 0 (v19, f20) _ _ _ _ _ _ rfl ⟨(gsX_X6_unit_2_q4 c1 c15 c16 hG18), hM_v19, hA_f20, hIv19, hk0_v19, hk1_v19, hk9_v19, hk10_v19, hk31_v19, hk32_v19, (Or.inr rfl)⟩ hP hD hS dX6_unit_60 (Nat.le_refl _) (Nat.le_refl _)
      · skip
        refine lv_aload_n hx hb dX6_unit_41 rfl (lv_at hl 2 rfl) ?_
        refine va_get (D := (dC, dI)) (ci := 6) (v := .ref (x 3)) (C := RX6) (T := TX6) (N := 7) hx hb hts inB_6 hown hE.1 hP 3 rfl rfl 1 (Nat.le_of_ble_eq_true rfl) (hts _ k_266) (fun _ h9 => h9) rfl dX6_unit_42 ?_
        refine va_getN (D := (dC, dI)) (ci := 7) (v := .ref (x 6)) (C := RX7) (T := TX7) (N := 10) hx hb hts inB_7 hown hE.1 hP 4 rfl rfl 2 (Nat.le_of_ble_eq_true rfl) (va_Nw.use rfl (hE.2 _ k_210)) (fun _ h9 => h9) rfl dX6_unit_45 ?_
        refine va_getN (D := (dC, dI)) (ci := 4) (v := .int (v 17)) (C := RX4) (T := TX4) (N := 6) hx hb hts inB_4 hown hE.1 hP 7 rfl rfl 5 (Nat.le_of_ble_eq_true rfl) (va_Nw.use rfl (hE.2 _ k_184)) (fun _ h9 => h9) rfl dX6_unit_48 ?_
        refine lv_bipush (v := 30) hx hb dX6_unit_51 rfl ?_
        refine lv_icmp_lt (tgt := 61) hx hb dX6_unit_53 rfl (fun c22 => ?_) (fun c22 => ?_)
        · skip
          refine lv_iload_n hx hb dX6_unit_61 rfl (lv_at hl 0 rfl) ?_
          refine lv_if_eq (tgt := 108) hx hb dX6_unit_62 rfl (fun _ => ?_) (fun c0 => absurd (by decide) c0)
          refine lv_iload_n hx hb dX6_unit_108 rfl (lv_at hl 3 rfl) ?_
          refine lv_bipush (v := 7) hx hb dX6_unit_109 rfl ?_
          refine lv_icmp_lt (tgt := 119) hx hb dX6_unit_111 rfl (fun _ => ?_) (fun c0 => absurd (by decide) c0)
          refine lv_aload_n hx hb dX6_unit_119 rfl (lv_at hl 2 rfl) ?_
          refine va_get (D := (dC, dI)) (ci := 6) (v := .ref (x 3)) (C := RX6) (T := TX6) (N := 7) hx hb hts inB_6 hown hE.1 hP 3 rfl rfl 1 (Nat.le_of_ble_eq_true rfl) (hts _ k_266) (fun _ h9 => h9) rfl dX6_unit_120 ?_
          refine va_getN (D := (dC, dI)) (ci := 7) (v := .ref (x 6)) (C := RX7) (T := TX7) (N := 10) hx hb hts inB_7 hown hE.1 hP 4 rfl rfl 2 (Nat.le_of_ble_eq_true rfl) (va_Nw.use rfl (hE.2 _ k_210)) (fun _ h9 => h9) rfl dX6_unit_123 ?_
          refine lv_dup hx hb dX6_unit_126 rfl ?_
          refine va_getN (D := (dC, dI)) (ci := 4) (v := .int (v 17)) (C := RX4) (T := TX4) (N := 6) hx hb hts inB_4 hown hE.1 hP 7 rfl rfl 5 (Nat.le_of_ble_eq_true rfl) (va_Nw.use rfl (hE.2 _ k_184)) (fun _ h9 => h9) rfl dX6_unit_127 ?_
          refine lv_iconst (v := 1) hx hb dX6_unit_130 rfl ?_
          refine lv_iadd hx hb dX6_unit_131 ?_
          refine lv_topi (fun t23 et23 => ?_)
          refine va_putN (D := (dC, dI)) (ci := 4) (v := .int t23) (ty := tyX4 5) (C := RX4) (T := TX4) (N := 6) hx hb hts inB_4 tyX4 tyX4_ok nmX4 hown hE.1 hP hD hS 7 rfl rfl 5 (by decide) (va_Nw.use rfl (hE.2 _ k_184)) (fun _ h9 => h9) rfl (tyX4_ok 5 (Nat.le_of_ble_eq_true rfl)) rfl rfl (Nat.le_of_ble_eq_true rfl) dX6_unit_132 (fun H locs hP hD hS => ?_)
          have hP : va_P (dC, dI) vwCl (XW cy x0 x (upd v 17 t23) f) H := hP
          have hD : va_D A (XW cy x0 x (upd v 17 t23) f) := hD
          refine lv_aload_n hx hb dX6_unit_135 rfl (lv_at hl 2 rfl) ?_
          refine va_get (D := (dC, dI)) (ci := 6) (v := .ref (x 0)) (C := RX6) (T := TX6) (N := 7) hx hb hts inB_6 hown hE.1 hP 3 rfl rfl 0 (Nat.le_of_ble_eq_true rfl) (hts _ k_265) (fun _ h9 => h9) rfl dX6_unit_136 ?_
          refine csVv (n := 0) (rest := []) hx hb hml hown hts hE hP hD hS hA hF hT (sX_X9_advance_1 NF l dC dI cy x0 x  (upd v 17 t23) f (Xu_17 (x := t23) hIv (rlo _) (rhi _)) ) k_699 k_559 k_560 k_102 k_561 hd_yX9_advance ⟨Nat.le_of_ble_eq_true rfl, Nat.le_of_ble_eq_true rfl⟩ 1 9 rfl rfl (rfl) hl.1 rfl (Nat.le_of_ble_eq_true rfl) dX6_unit_139 (fun u H locs hw hP hD hS => ?_)
          obtain ⟨hG25, hw⟩ := hw
          obtain ⟨v26, f27⟩ := u
          obtain ⟨kV_v26, kF_f27, hIv26, hk0_v26, hk1_v26, hk7_v26, hk8_v26, hk9_v26, hk10_v26, hk31_v26, hk32_v26⟩ := hw
          have hM_v26 : KV [2, 3, 4, 5, 7, 8, 16, 17] v26 v := KV.tr kV_v26 (KV.up (j := 17) (x := t23) hM_v rfl) rfl
          have hA_f27 : KF [3, 4] f27 f := KF.tr kF_f27 hA_f rfl
          have hP : va_P (dC, dI) vwCl (XW cy x0 x v26 f27) H := hP
          have hD : va_D A (XW cy x0 x v26 f27) := hD
          refine lv_aload_n hx hb dX6_unit_142 rfl (lv_at hl 2 rfl) ?_
          refine lv_iconst (v := 0) hx hb dX6_unit_143 rfl ?_
          refine lv_iload_n hx hb dX6_unit_144 rfl (lv_at hl 3 rfl) ?_
          refine lv_iconst (v := 1) hx hb dX6_unit_145 rfl ?_
          refine lv_iadd hx hb dX6_unit_146 ?_
          refine tI (y := 2) (by decide) ?_
          refine csVi (n := 2) (rest := []) hx hb hml hown hts hE hP hD hS hA hF hT (sX_X6_expression_13 NF l dC dI cy x0 x  v26 f27 hIv26 ) k_740 k_742 k_15 k_103 k_743 hd_yX6_expression ⟨Nat.le_of_ble_eq_true rfl, Nat.le_of_ble_eq_true rfl⟩ 3 6 rfl rfl (rfl) hl.1 rfl (Nat.le_of_ble_eq_true rfl) dX6_unit_147 (fun r28 u H locs hw hP hD hS => ?_)
          obtain ⟨hG29, hw⟩ := hw
          obtain ⟨v30, f31⟩ := u
          obtain ⟨kV_v30, kF_f31, hIv30, hk0_v30, hk1_v30, hk9_v30, hk10_v30, hk31_v30, hk32_v30, hw⟩ := hw
          have hM_v30 : KV [2, 3, 4, 5, 7, 8, 16, 17] v30 v := KV.tr kV_v30 hM_v26 rfl
          have hA_f31 : KF [3, 4] f31 f := KF.tr kF_f31 hA_f27 rfl
          have hP : va_P (dC, dI) vwCl (XW cy x0 x v30 f31) H := hP
          have hD : va_D A (XW cy x0 x v30 f31) := hD
          rcases hw with ⟨g32⟩ | ⟨g32⟩
          · skip
            subst g32
            refine lv_if_eq (tgt := 166) hx hb dX6_unit_150 rfl (fun c0 => absurd c0 (by decide)) (fun _ => ?_)
            refine lv_aload_n hx hb dX6_unit_153 rfl (lv_at hl 2 rfl) ?_
            refine lv_bipush (v := 41) hx hb dX6_unit_154 rfl ?_
            refine csVi (n := 1) (rest := []) hx hb hml hown hts hE hP hD hS hA hF hT (sX_X6_taken_1 NF l dC dI cy x0 x 41 v30 f31 hIv30 ) k_724 k_726 k_12 k_103 k_727 hd_yX6_taken ⟨Nat.le_of_ble_eq_true rfl, Nat.le_of_ble_eq_true rfl⟩ 3 6 rfl rfl (rfl) hl.1 rfl (Nat.le_of_ble_eq_true rfl) dX6_unit_156 (fun r33 u H locs hw hP hD hS => ?_)
            obtain ⟨hG34, hw⟩ := hw
            obtain ⟨v35, f36⟩ := u
            obtain ⟨kV_v35, kF_f36, hIv35, hk0_v35, hk1_v35, hk9_v35, hk10_v35, hk31_v35, hk32_v35, hw⟩ := hw
            have hM_v35 : KV [2, 3, 4, 5, 7, 8, 16, 17] v35 v := KV.tr kV_v35 hM_v30 rfl
            have hA_f36 : KF [3, 4] f36 f := KF.tr kF_f36 hA_f31 rfl
            have hP : va_P (dC, dI) vwCl (XW cy x0 x v35 f36) H := hP
            have hD : va_D A (XW cy x0 x v35 f36) := hD
            rcases hw with ⟨g37⟩ | ⟨g37⟩
            · skip
              subst g37
              refine lv_if_eq (tgt := 166) hx hb dX6_unit_159 rfl (fun c0 => absurd c0 (by decide)) (fun _ => ?_)
              refine lv_iconst (v := 1) hx hb dX6_unit_162 rfl ?_
              refine lv_goto (tgt := 167) hx hb dX6_unit_163 rfl ?_
              exact ret 1 (v35, f36) _ _ _ _ _ _ rfl ⟨(gsX_X6_unit_2_q5 c1 c15 c16 c22 et23 hG25 hG29 hG34), hM_v35, hA_f36, hIv35, (hk0_v35.trans (hk0_v30.trans hk0_v26)), (hk1_v35.trans (hk1_v30.trans hk1_v26)), (hk9_v35.trans (hk9_v30.trans hk9_v26)), (hk10_v35.trans (hk10_v30.trans hk10_v26)), (hk31_v35.trans (hk31_v30.trans hk31_v26)), (hk32_v35.trans (hk32_v30.trans hk32_v26)), (Or.inl rfl)⟩ hP hD hS dX6_unit_167 (Nat.le_refl _) (Nat.le_refl _)
            · skip
              subst g37
              refine lv_if_eq (tgt := 166) hx hb dX6_unit_159 rfl (fun _ => ?_) (fun c0 => absurd (by decide) c0)
              refine lv_iconst (v := 0) hx hb dX6_unit_166 rfl ?_
              exact ret 0 (v35, f36) _ _ _ _ _ _ rfl ⟨(gsX_X6_unit_2_q6 c1 c15 c16 c22 et23 hG25 hG29 hG34), hM_v35, hA_f36, hIv35, (hk0_v35.trans (hk0_v30.trans hk0_v26)), (hk1_v35.trans (hk1_v30.trans hk1_v26)), (hk9_v35.trans (hk9_v30.trans hk9_v26)), (hk10_v35.trans (hk10_v30.trans hk10_v26)), (hk31_v35.trans (hk31_v30.trans hk31_v26)), (hk32_v35.trans (hk32_v30.trans hk32_v26)), (Or.inr rfl)⟩ hP hD hS dX6_unit_167 (Nat.le_refl _) (Nat.le_refl _)
          · skip
            subst g32
            refine lv_if_eq (tgt := 166) hx hb dX6_unit_150 rfl (fun _ => ?_) (fun c0 => absurd (by decide) c0)
            refine lv_iconst (v := 0) hx hb dX6_unit_166 rfl ?_
            exact ret 0 (v30, f31) _ _ _ _ _ _ rfl ⟨(gsX_X6_unit_2_q7 c1 c15 c16 c22 et23 hG25 hG29), hM_v30, hA_f31, hIv30, (hk0_v30.trans hk0_v26), (hk1_v30.trans hk1_v26), (hk9_v30.trans hk9_v26), (hk10_v30.trans hk10_v26), (hk31_v30.trans hk31_v26), (hk32_v30.trans hk32_v26), (Or.inr rfl)⟩ hP hD hS dX6_unit_167 (Nat.le_refl _) (Nat.le_refl _)
        · skip
          refine lv_aload_n hx hb dX6_unit_56 rfl (lv_at hl 2 rfl) ?_
          refine cbVi (n := 0) (rest := []) hx hb hml hown hts hE hP hD hS hA (sX_X6_refuse_1 NF l dC dI cy x0 x  v f hIv ) k_691 k_693 k_6 k_103 k_694 hd_yX6_refuse ⟨Nat.le_of_ble_eq_true rfl, Nat.le_of_ble_eq_true rfl⟩ 3 6 rfl rfl (rfl) hl.1 rfl (Nat.le_of_ble_eq_true rfl) dX6_unit_57 (fun r38 u H locs hw hP hD hS => ?_)
          obtain ⟨hG39, hw⟩ := hw
          obtain ⟨v40, f41⟩ := u
          obtain ⟨kV_v40, kF_f41, hIv40, hk0_v40, hk1_v40, hk9_v40, hk10_v40, hk31_v40, hk32_v40, hw⟩ := hw
          have hM_v40 : KV [2, 3, 4, 5, 7, 8, 16, 17] v40 v := KV.tr kV_v40 hM_v rfl
          have hA_f41 : KF [3, 4] f41 f := KF.tr kF_f41 hA_f rfl
          have hP : va_P (dC, dI) vwCl (XW cy x0 x v40 f41) H := hP
          have hD : va_D A (XW cy x0 x v40 f41) := hD
          rcases hw with ⟨g42⟩ | ⟨g42⟩
          · skip
            subst g42
            exact ret 1 (v40, f41) _ _ _ _ _ _ rfl ⟨(gsX_X6_unit_2_q8 c1 c15 c16 c22 hG39), hM_v40, hA_f41, hIv40, hk0_v40, hk1_v40, hk9_v40, hk10_v40, hk31_v40, hk32_v40, (Or.inl rfl)⟩ hP hD hS dX6_unit_60 (Nat.le_refl _) (Nat.le_refl _)
          · skip
            subst g42
            exact ret 0 (v40, f41) _ _ _ _ _ _ rfl ⟨(gsX_X6_unit_2_q9 c1 c15 c16 c22 hG39), hM_v40, hA_f41, hIv40, hk0_v40, hk1_v40, hk9_v40, hk10_v40, hk31_v40, hk32_v40, (Or.inr rfl)⟩ hP hD hS dX6_unit_60 (Nat.le_refl _) (Nat.le_refl _)
    · skip
      refine lv_iload_n hx hb dX6_unit_19 rfl (lv_at hl 0 rfl) ?_
      refine lv_bipush (v := 121) hx hb dX6_unit_20 rfl ?_
      refine lv_icmp_gt (tgt := 29) hx hb dX6_unit_22 rfl (fun c43 => ?_) (fun c43 => ?_)
      · skip
        refine lv_iconst (v := 0) hx hb dX6_unit_29 rfl ?_
        refine lv_istore_n (lv' := [(3, .int 0), (2, .int (v 2)), (0, .ref (x 2)), (1, .int 1)]) hx hb dX6_unit_30 rfl hl (Nat.le_of_ble_eq_true rfl) rfl (fun ls hl => ?_)
        refine lv_iload_n hx hb dX6_unit_31 rfl (lv_at hl 0 rfl) ?_
        refine lv_if_ne (tgt := 41) hx hb dX6_unit_32 rfl (fun c0 => absurd (by decide) c0) (fun _ => ?_)
        refine lv_iload_n hx hb dX6_unit_35 rfl (lv_at hl 1 rfl) ?_
        refine lv_bipush (v := 40) hx hb dX6_unit_36 rfl ?_
        refine lv_icmp_ne (tgt := 56) hx hb dX6_unit_38 rfl (fun c44 => ?_) (fun c44 => ?_)
        · skip
          refine lv_aload_n hx hb dX6_unit_56 rfl (lv_at hl 2 rfl) ?_
          refine cbVi (n := 0) (rest := []) hx hb hml hown hts hE hP hD hS hA (sX_X6_refuse_1 NF l dC dI cy x0 x  v f hIv ) k_691 k_693 k_6 k_103 k_694 hd_yX6_refuse ⟨Nat.le_of_ble_eq_true rfl, Nat.le_of_ble_eq_true rfl⟩ 3 6 rfl rfl (rfl) hl.1 rfl (Nat.le_of_ble_eq_true rfl) dX6_unit_57 (fun r45 u H locs hw hP hD hS => ?_)
          obtain ⟨hG46, hw⟩ := hw
          obtain ⟨v47, f48⟩ := u
          obtain ⟨kV_v47, kF_f48, hIv47, hk0_v47, hk1_v47, hk9_v47, hk10_v47, hk31_v47, hk32_v47, hw⟩ := hw
          have hM_v47 : KV [2, 3, 4, 5, 7, 8, 16, 17] v47 v := KV.tr kV_v47 hM_v rfl
          have hA_f48 : KF [3, 4] f48 f := KF.tr kF_f48 hA_f rfl
          have hP : va_P (dC, dI) vwCl (XW cy x0 x v47 f48) H := hP
          have hD : va_D A (XW cy x0 x v47 f48) := hD
          rcases hw with ⟨g49⟩ | ⟨g49⟩
          · skip
            subst g49
            exact ret 1 (v47, f48) _ _ _ _ _ _ rfl ⟨(gsX_X6_unit_2_q10 c1 c15 c43 c44 hG46), hM_v47, hA_f48, hIv47, hk0_v47, hk1_v47, hk9_v47, hk10_v47, hk31_v47, hk32_v47, (Or.inl rfl)⟩ hP hD hS dX6_unit_60 (Nat.le_refl _) (Nat.le_refl _)
          · skip
            subst g49
            exact ret 0 (v47, f48) _ _ _ _ _ _ rfl ⟨(gsX_X6_unit_2_q11 c1 c15 c43 c44 hG46), hM_v47, hA_f48, hIv47, hk0_v47, hk1_v47, hk9_v47, hk10_v47, hk31_v47, hk32_v47, (Or.inr rfl)⟩ hP hD hS dX6_unit_60 (Nat.le_refl _) (Nat.le_refl _)
        · skip
          refine lv_aload_n hx hb dX6_unit_41 rfl (lv_at hl 2 rfl) ?_
          refine va_get (D := (dC, dI)) (ci := 6) (v := .ref (x 3)) (C := RX6) (T := TX6) (N := 7) hx hb hts inB_6 hown hE.1 hP 3 rfl rfl 1 (Nat.le_of_ble_eq_true rfl) (hts _ k_266) (fun _ h9 => h9) rfl dX6_unit_42 ?_
          refine va_getN (D := (dC, dI)) (ci := 7) (v := .ref (x 6)) (C := RX7) (T := TX7) (N := 10) hx hb hts inB_7 hown hE.1 hP 4 rfl rfl 2 (Nat.le_of_ble_eq_true rfl) (va_Nw.use rfl (hE.2 _ k_210)) (fun _ h9 => h9) rfl dX6_unit_45 ?_
          refine va_getN (D := (dC, dI)) (ci := 4) (v := .int (v 17)) (C := RX4) (T := TX4) (N := 6) hx hb hts inB_4 hown hE.1 hP 7 rfl rfl 5 (Nat.le_of_ble_eq_true rfl) (va_Nw.use rfl (hE.2 _ k_184)) (fun _ h9 => h9) rfl dX6_unit_48 ?_
          refine lv_bipush (v := 30) hx hb dX6_unit_51 rfl ?_
          refine lv_icmp_lt (tgt := 61) hx hb dX6_unit_53 rfl (fun c50 => ?_) (fun c50 => ?_)
          · skip
            refine lv_iload_n hx hb dX6_unit_61 rfl (lv_at hl 0 rfl) ?_
            refine lv_if_eq (tgt := 108) hx hb dX6_unit_62 rfl (fun _ => ?_) (fun c0 => absurd (by decide) c0)
            refine lv_iload_n hx hb dX6_unit_108 rfl (lv_at hl 3 rfl) ?_
            refine lv_bipush (v := 7) hx hb dX6_unit_109 rfl ?_
            refine lv_icmp_lt (tgt := 119) hx hb dX6_unit_111 rfl (fun _ => ?_) (fun c0 => absurd (by decide) c0)
            refine lv_aload_n hx hb dX6_unit_119 rfl (lv_at hl 2 rfl) ?_
            refine va_get (D := (dC, dI)) (ci := 6) (v := .ref (x 3)) (C := RX6) (T := TX6) (N := 7) hx hb hts inB_6 hown hE.1 hP 3 rfl rfl 1 (Nat.le_of_ble_eq_true rfl) (hts _ k_266) (fun _ h9 => h9) rfl dX6_unit_120 ?_
            refine va_getN (D := (dC, dI)) (ci := 7) (v := .ref (x 6)) (C := RX7) (T := TX7) (N := 10) hx hb hts inB_7 hown hE.1 hP 4 rfl rfl 2 (Nat.le_of_ble_eq_true rfl) (va_Nw.use rfl (hE.2 _ k_210)) (fun _ h9 => h9) rfl dX6_unit_123 ?_
            refine lv_dup hx hb dX6_unit_126 rfl ?_
            refine va_getN (D := (dC, dI)) (ci := 4) (v := .int (v 17)) (C := RX4) (T := TX4) (N := 6) hx hb hts inB_4 hown hE.1 hP 7 rfl rfl 5 (Nat.le_of_ble_eq_true rfl) (va_Nw.use rfl (hE.2 _ k_184)) (fun _ h9 => h9) rfl dX6_unit_127 ?_
            refine lv_iconst (v := 1) hx hb dX6_unit_130 rfl ?_
            refine lv_iadd hx hb dX6_unit_131 ?_
            refine lv_topi (fun t51 et51 => ?_)
            refine va_putN (D := (dC, dI)) (ci := 4) (v := .int t51) (ty := tyX4 5) (C := RX4) (T := TX4) (N := 6) hx hb hts inB_4 tyX4 tyX4_ok nmX4 hown hE.1 hP hD hS 7 rfl rfl 5 (by decide) (va_Nw.use rfl (hE.2 _ k_184)) (fun _ h9 => h9) rfl (tyX4_ok 5 (Nat.le_of_ble_eq_true rfl)) rfl rfl (Nat.le_of_ble_eq_true rfl) dX6_unit_132 (fun H locs hP hD hS => ?_)
            have hP : va_P (dC, dI) vwCl (XW cy x0 x (upd v 17 t51) f) H := hP
            have hD : va_D A (XW cy x0 x (upd v 17 t51) f) := hD
            refine lv_aload_n hx hb dX6_unit_135 rfl (lv_at hl 2 rfl) ?_
            refine va_get (D := (dC, dI)) (ci := 6) (v := .ref (x 0)) (C := RX6) (T := TX6) (N := 7) hx hb hts inB_6 hown hE.1 hP 3 rfl rfl 0 (Nat.le_of_ble_eq_true rfl) (hts _ k_265) (fun _ h9 => h9) rfl dX6_unit_136 ?_
            refine csVv (n := 0) (rest := []) hx hb hml hown hts hE hP hD hS hA hF hT (sX_X9_advance_1 NF l dC dI cy x0 x  (upd v 17 t51) f (Xu_17 (x := t51) hIv (rlo _) (rhi _)) ) k_699 k_559 k_560 k_102 k_561 hd_yX9_advance ⟨Nat.le_of_ble_eq_true rfl, Nat.le_of_ble_eq_true rfl⟩ 1 9 rfl rfl (rfl) hl.1 rfl (Nat.le_of_ble_eq_true rfl) dX6_unit_139 (fun u H locs hw hP hD hS => ?_)
            obtain ⟨hG53, hw⟩ := hw
            obtain ⟨v54, f55⟩ := u
            obtain ⟨kV_v54, kF_f55, hIv54, hk0_v54, hk1_v54, hk7_v54, hk8_v54, hk9_v54, hk10_v54, hk31_v54, hk32_v54⟩ := hw
            have hM_v54 : KV [2, 3, 4, 5, 7, 8, 16, 17] v54 v := KV.tr kV_v54 (KV.up (j := 17) (x := t51) hM_v rfl) rfl
            have hA_f55 : KF [3, 4] f55 f := KF.tr kF_f55 hA_f rfl
            have hP : va_P (dC, dI) vwCl (XW cy x0 x v54 f55) H := hP
            have hD : va_D A (XW cy x0 x v54 f55) := hD
            refine lv_aload_n hx hb dX6_unit_142 rfl (lv_at hl 2 rfl) ?_
            refine lv_iconst (v := 0) hx hb dX6_unit_143 rfl ?_
            refine lv_iload_n hx hb dX6_unit_144 rfl (lv_at hl 3 rfl) ?_
            refine lv_iconst (v := 1) hx hb dX6_unit_145 rfl ?_
            refine lv_iadd hx hb dX6_unit_146 ?_
            refine tI (y := 2) (by decide) ?_
            refine csVi (n := 2) (rest := []) hx hb hml hown hts hE hP hD hS hA hF hT (sX_X6_expression_13 NF l dC dI cy x0 x  v54 f55 hIv54 ) k_740 k_742 k_15 k_103 k_743 hd_yX6_expression ⟨Nat.le_of_ble_eq_true rfl, Nat.le_of_ble_eq_true rfl⟩ 3 6 rfl rfl (rfl) hl.1 rfl (Nat.le_of_ble_eq_true rfl) dX6_unit_147 (fun r56 u H locs hw hP hD hS => ?_)
            obtain ⟨hG57, hw⟩ := hw
            obtain ⟨v58, f59⟩ := u
            obtain ⟨kV_v58, kF_f59, hIv58, hk0_v58, hk1_v58, hk9_v58, hk10_v58, hk31_v58, hk32_v58, hw⟩ := hw
            have hM_v58 : KV [2, 3, 4, 5, 7, 8, 16, 17] v58 v := KV.tr kV_v58 hM_v54 rfl
            have hA_f59 : KF [3, 4] f59 f := KF.tr kF_f59 hA_f55 rfl
            have hP : va_P (dC, dI) vwCl (XW cy x0 x v58 f59) H := hP
            have hD : va_D A (XW cy x0 x v58 f59) := hD
            rcases hw with ⟨g60⟩ | ⟨g60⟩
            · skip
              subst g60
              refine lv_if_eq (tgt := 166) hx hb dX6_unit_150 rfl (fun c0 => absurd c0 (by decide)) (fun _ => ?_)
              refine lv_aload_n hx hb dX6_unit_153 rfl (lv_at hl 2 rfl) ?_
              refine lv_bipush (v := 41) hx hb dX6_unit_154 rfl ?_
              refine csVi (n := 1) (rest := []) hx hb hml hown hts hE hP hD hS hA hF hT (sX_X6_taken_1 NF l dC dI cy x0 x 41 v58 f59 hIv58 ) k_724 k_726 k_12 k_103 k_727 hd_yX6_taken ⟨Nat.le_of_ble_eq_true rfl, Nat.le_of_ble_eq_true rfl⟩ 3 6 rfl rfl (rfl) hl.1 rfl (Nat.le_of_ble_eq_true rfl) dX6_unit_156 (fun r61 u H locs hw hP hD hS => ?_)
              obtain ⟨hG62, hw⟩ := hw
              obtain ⟨v63, f64⟩ := u
              obtain ⟨kV_v63, kF_f64, hIv63, hk0_v63, hk1_v63, hk9_v63, hk10_v63, hk31_v63, hk32_v63, hw⟩ := hw
              have hM_v63 : KV [2, 3, 4, 5, 7, 8, 16, 17] v63 v := KV.tr kV_v63 hM_v58 rfl
              have hA_f64 : KF [3, 4] f64 f := KF.tr kF_f64 hA_f59 rfl
              have hP : va_P (dC, dI) vwCl (XW cy x0 x v63 f64) H := hP
              have hD : va_D A (XW cy x0 x v63 f64) := hD
              rcases hw with ⟨g65⟩ | ⟨g65⟩
              · skip
                subst g65
                refine lv_if_eq (tgt := 166) hx hb dX6_unit_159 rfl (fun c0 => absurd c0 (by decide)) (fun _ => ?_)
                refine lv_iconst (v := 1) hx hb dX6_unit_162 rfl ?_
                refine lv_goto (tgt := 167) hx hb dX6_unit_163 rfl ?_
                exact ret 1 (v63, f64) _ _ _ _ _ _ rfl ⟨(gsX_X6_unit_2_q12 c1 c15 c43 c44 c50 et51 hG53 hG57 hG62), hM_v63, hA_f64, hIv63, (hk0_v63.trans (hk0_v58.trans hk0_v54)), (hk1_v63.trans (hk1_v58.trans hk1_v54)), (hk9_v63.trans (hk9_v58.trans hk9_v54)), (hk10_v63.trans (hk10_v58.trans hk10_v54)), (hk31_v63.trans (hk31_v58.trans hk31_v54)), (hk32_v63.trans (hk32_v58.trans hk32_v54)), (Or.inl rfl)⟩ hP hD hS dX6_unit_167 (Nat.le_refl _) (Nat.le_refl _)
              · skip
                subst g65
                refine lv_if_eq (tgt := 166) hx hb dX6_unit_159 rfl (fun _ => ?_) (fun c0 => absurd (by decide) c0)
                refine lv_iconst (v := 0) hx hb dX6_unit_166 rfl ?_
                exact ret 0 (v63, f64) _ _ _ _ _ _ rfl ⟨(gsX_X6_unit_2_q13 c1 c15 c43 c44 c50 et51 hG53 hG57 hG62), hM_v63, hA_f64, hIv63, (hk0_v63.trans (hk0_v58.trans hk0_v54)), (hk1_v63.trans (hk1_v58.trans hk1_v54)), (hk9_v63.trans (hk9_v58.trans hk9_v54)), (hk10_v63.trans (hk10_v58.trans hk10_v54)), (hk31_v63.trans (hk31_v58.trans hk31_v54)), (hk32_v63.trans (hk32_v58.trans hk32_v54)), (Or.inr rfl)⟩ hP hD hS dX6_unit_167 (Nat.le_refl _) (Nat.le_refl _)
            · skip
              subst g60
              refine lv_if_eq (tgt := 166) hx hb dX6_unit_150 rfl (fun _ => ?_) (fun c0 => absurd (by decide) c0)
              refine lv_iconst (v := 0) hx hb dX6_unit_166 rfl ?_
              exact ret 0 (v58, f59) _ _ _ _ _ _ rfl ⟨(gsX_X6_unit_2_q14 c1 c15 c43 c44 c50 et51 hG53 hG57), hM_v58, hA_f59, hIv58, (hk0_v58.trans hk0_v54), (hk1_v58.trans hk1_v54), (hk9_v58.trans hk9_v54), (hk10_v58.trans hk10_v54), (hk31_v58.trans hk31_v54), (hk32_v58.trans hk32_v54), (Or.inr rfl)⟩ hP hD hS dX6_unit_167 (Nat.le_refl _) (Nat.le_refl _)
          · skip
            refine lv_aload_n hx hb dX6_unit_56 rfl (lv_at hl 2 rfl) ?_
            refine cbVi (n := 0) (rest := []) hx hb hml hown hts hE hP hD hS hA (sX_X6_refuse_1 NF l dC dI cy x0 x  v f hIv ) k_691 k_693 k_6 k_103 k_694 hd_yX6_refuse ⟨Nat.le_of_ble_eq_true rfl, Nat.le_of_ble_eq_true rfl⟩ 3 6 rfl rfl (rfl) hl.1 rfl (Nat.le_of_ble_eq_true rfl) dX6_unit_57 (fun r66 u H locs hw hP hD hS => ?_)
            obtain ⟨hG67, hw⟩ := hw
            obtain ⟨v68, f69⟩ := u
            obtain ⟨kV_v68, kF_f69, hIv68, hk0_v68, hk1_v68, hk9_v68, hk10_v68, hk31_v68, hk32_v68, hw⟩ := hw
            have hM_v68 : KV [2, 3, 4, 5, 7, 8, 16, 17] v68 v := KV.tr kV_v68 hM_v rfl
            have hA_f69 : KF [3, 4] f69 f := KF.tr kF_f69 hA_f rfl
            have hP : va_P (dC, dI) vwCl (XW cy x0 x v68 f69) H := hP
            have hD : va_D A (XW cy x0 x v68 f69) := hD
            rcases hw with ⟨g70⟩ | ⟨g70⟩
            · skip
              subst g70
              exact ret 1 (v68, f69) _ _ _ _ _ _ rfl ⟨(gsX_X6_unit_2_q15 c1 c15 c43 c44 c50 hG67), hM_v68, hA_f69, hIv68, hk0_v68, hk1_v68, hk9_v68, hk10_v68, hk31_v68, hk32_v68, (Or.inl rfl)⟩ hP hD hS dX6_unit_60 (Nat.le_refl _) (Nat.le_refl _)
            · skip
              subst g70
              exact ret 0 (v68, f69) _ _ _ _ _ _ rfl ⟨(gsX_X6_unit_2_q16 c1 c15 c43 c44 c50 hG67), hM_v68, hA_f69, hIv68, hk0_v68, hk1_v68, hk9_v68, hk10_v68, hk31_v68, hk32_v68, (Or.inr rfl)⟩ hP hD hS dX6_unit_60 (Nat.le_refl _) (Nat.le_refl _)
      · skip
        refine lv_iconst (v := 1) hx hb dX6_unit_25 rfl ?_
        refine lv_goto (tgt := 30) hx hb dX6_unit_26 rfl ?_
        refine lv_istore_n (lv' := [(3, .int 1), (2, .int (v 2)), (0, .ref (x 2)), (1, .int 1)]) hx hb dX6_unit_30 rfl hl (Nat.le_of_ble_eq_true rfl) rfl (fun ls hl => ?_)
        refine lv_iload_n hx hb dX6_unit_31 rfl (lv_at hl 0 rfl) ?_
        refine lv_if_ne (tgt := 41) hx hb dX6_unit_32 rfl (fun _ => ?_) (fun c0 => absurd c0 (by decide))
        refine lv_aload_n hx hb dX6_unit_41 rfl (lv_at hl 2 rfl) ?_
        refine va_get (D := (dC, dI)) (ci := 6) (v := .ref (x 3)) (C := RX6) (T := TX6) (N := 7) hx hb hts inB_6 hown hE.1 hP 3 rfl rfl 1 (Nat.le_of_ble_eq_true rfl) (hts _ k_266) (fun _ h9 => h9) rfl dX6_unit_42 ?_
        refine va_getN (D := (dC, dI)) (ci := 7) (v := .ref (x 6)) (C := RX7) (T := TX7) (N := 10) hx hb hts inB_7 hown hE.1 hP 4 rfl rfl 2 (Nat.le_of_ble_eq_true rfl) (va_Nw.use rfl (hE.2 _ k_210)) (fun _ h9 => h9) rfl dX6_unit_45 ?_
        refine va_getN (D := (dC, dI)) (ci := 4) (v := .int (v 17)) (C := RX4) (T := TX4) (N := 6) hx hb hts inB_4 hown hE.1 hP 7 rfl rfl 5 (Nat.le_of_ble_eq_true rfl) (va_Nw.use rfl (hE.2 _ k_184)) (fun _ h9 => h9) rfl dX6_unit_48 ?_
        refine lv_bipush (v := 30) hx hb dX6_unit_51 rfl ?_
        refine lv_icmp_lt (tgt := 61) hx hb dX6_unit_53 rfl (fun c71 => ?_) (fun c71 => ?_)
        · skip
          refine lv_iload_n hx hb dX6_unit_61 rfl (lv_at hl 0 rfl) ?_
          refine lv_if_eq (tgt := 108) hx hb dX6_unit_62 rfl (fun c0 => absurd c0 (by decide)) (fun _ => ?_)
          refine lv_aload_n hx hb dX6_unit_65 rfl (lv_at hl 2 rfl) ?_
          refine va_get (D := (dC, dI)) (ci := 6) (v := .ref (x 3)) (C := RX6) (T := TX6) (N := 7) hx hb hts inB_6 hown hE.1 hP 3 rfl rfl 1 (Nat.le_of_ble_eq_true rfl) (hts _ k_266) (fun _ h9 => h9) rfl dX6_unit_66 ?_
          refine va_getN (D := (dC, dI)) (ci := 7) (v := .ref (x 6)) (C := RX7) (T := TX7) (N := 10) hx hb hts inB_7 hown hE.1 hP 4 rfl rfl 2 (Nat.le_of_ble_eq_true rfl) (va_Nw.use rfl (hE.2 _ k_210)) (fun _ h9 => h9) rfl dX6_unit_69 ?_
          refine lv_iload_n hx hb dX6_unit_72 rfl (lv_at hl 1 rfl) ?_
          refine lv_aload_n hx hb dX6_unit_73 rfl (lv_at hl 2 rfl) ?_
          refine va_get (D := (dC, dI)) (ci := 6) (v := .ref (x 0)) (C := RX6) (T := TX6) (N := 7) hx hb hts inB_6 hown hE.1 hP 3 rfl rfl 0 (Nat.le_of_ble_eq_true rfl) (hts _ k_265) (fun _ h9 => h9) rfl dX6_unit_74 ?_
          refine va_getN (D := (dC, dI)) (ci := 9) (v := .int (v 5)) (C := RX9) (T := TX9) (N := 6) hx hb hts inB_9 hown hE.1 hP 1 rfl rfl 5 (Nat.le_of_ble_eq_true rfl) (va_Nw.use rfl (hE.2 _ k_145)) (fun _ h9 => h9) rfl dX6_unit_77 ?_
          refine cbVv (n := 2) (rest := []) hx hb hml hown hts hE hP hD hS hA (sX_X4_add_1 NF l dC dI cy x0 x (v 2) (v 5) v f hIv ) k_748 k_749 k_750 k_105 k_751 hd_yX4_add ⟨Nat.le_of_ble_eq_true rfl, Nat.le_of_ble_eq_true rfl⟩ 7 4 rfl rfl (rfl) hl.1 rfl (Nat.le_of_ble_eq_true rfl) dX6_unit_80 (fun u H locs hw hP hD hS => ?_)
          obtain ⟨hG72, hw⟩ := hw
          obtain ⟨v73, f74⟩ := u
          obtain ⟨kV_v73, kF_f74, hIv73, hk0_v73, hk1_v73, hk7_v73, hk8_v73, hk9_v73, hk10_v73, hk31_v73, hk32_v73⟩ := hw
          have hM_v73 : KV [2, 3, 4, 5, 7, 8, 16, 17] v73 v := KV.tr kV_v73 hM_v rfl
          have hA_f74 : KF [3, 4] f74 f := KF.tr kF_f74 hA_f rfl
          have hP : va_P (dC, dI) vwCl (XW cy x0 x v73 f74) H := hP
          have hD : va_D A (XW cy x0 x v73 f74) := hD
          refine lv_aload_n hx hb dX6_unit_83 rfl (lv_at hl 2 rfl) ?_
          refine va_get (D := (dC, dI)) (ci := 6) (v := .ref (x 3)) (C := RX6) (T := TX6) (N := 7) hx hb hts inB_6 hown hE.1 hP 3 rfl rfl 1 (Nat.le_of_ble_eq_true rfl) (hts _ k_266) (fun _ h9 => h9) rfl dX6_unit_84 ?_
          refine va_getN (D := (dC, dI)) (ci := 7) (v := .ref (x 6)) (C := RX7) (T := TX7) (N := 10) hx hb hts inB_7 hown hE.1 hP 4 rfl rfl 2 (Nat.le_of_ble_eq_true rfl) (va_Nw.use rfl (hE.2 _ k_210)) (fun _ h9 => h9) rfl dX6_unit_87 ?_
          refine lv_dup hx hb dX6_unit_90 rfl ?_
          refine va_getN (D := (dC, dI)) (ci := 4) (v := .int (v73 17)) (C := RX4) (T := TX4) (N := 6) hx hb hts inB_4 hown hE.1 hP 7 rfl rfl 5 (Nat.le_of_ble_eq_true rfl) (va_Nw.use rfl (hE.2 _ k_184)) (fun _ h9 => h9) rfl dX6_unit_91 ?_
          refine lv_iconst (v := 1) hx hb dX6_unit_94 rfl ?_
          refine lv_iadd hx hb dX6_unit_95 ?_
          refine lv_topi (fun t75 et75 => ?_)
          refine va_putN (D := (dC, dI)) (ci := 4) (v := .int t75) (ty := tyX4 5) (C := RX4) (T := TX4) (N := 6) hx hb hts inB_4 tyX4 tyX4_ok nmX4 hown hE.1 hP hD hS 7 rfl rfl 5 (by decide) (va_Nw.use rfl (hE.2 _ k_184)) (fun _ h9 => h9) rfl (tyX4_ok 5 (Nat.le_of_ble_eq_true rfl)) rfl rfl (Nat.le_of_ble_eq_true rfl) dX6_unit_96 (fun H locs hP hD hS => ?_)
          have hP : va_P (dC, dI) vwCl (XW cy x0 x (upd v73 17 t75) f74) H := hP
          have hD : va_D A (XW cy x0 x (upd v73 17 t75) f74) := hD
          refine lv_aload_n hx hb dX6_unit_99 rfl (lv_at hl 2 rfl) ?_
          refine va_get (D := (dC, dI)) (ci := 6) (v := .ref (x 0)) (C := RX6) (T := TX6) (N := 7) hx hb hts inB_6 hown hE.1 hP 3 rfl rfl 0 (Nat.le_of_ble_eq_true rfl) (hts _ k_265) (fun _ h9 => h9) rfl dX6_unit_100 ?_
          refine csVv (n := 0) (rest := []) hx hb hml hown hts hE hP hD hS hA hF hT (sX_X9_advance_1 NF l dC dI cy x0 x  (upd v73 17 t75) f74 (Xu_17 (x := t75) hIv73 (rlo _) (rhi _)) ) k_699 k_559 k_560 k_102 k_561 hd_yX9_advance ⟨Nat.le_of_ble_eq_true rfl, Nat.le_of_ble_eq_true rfl⟩ 1 9 rfl rfl (rfl) hl.1 rfl (Nat.le_of_ble_eq_true rfl) dX6_unit_103 (fun u H locs hw hP hD hS => ?_)
          obtain ⟨hG76, hw⟩ := hw
          obtain ⟨v77, f78⟩ := u
          obtain ⟨kV_v77, kF_f78, hIv77, hk0_v77, hk1_v77, hk7_v77, hk8_v77, hk9_v77, hk10_v77, hk31_v77, hk32_v77⟩ := hw
          have hM_v77 : KV [2, 3, 4, 5, 7, 8, 16, 17] v77 v := KV.tr kV_v77 (KV.up (j := 17) (x := t75) hM_v73 rfl) rfl
          have hA_f78 : KF [3, 4] f78 f := KF.tr kF_f78 hA_f74 rfl
          have hP : va_P (dC, dI) vwCl (XW cy x0 x v77 f78) H := hP
          have hD : va_D A (XW cy x0 x v77 f78) := hD
          refine lv_iconst (v := 1) hx hb dX6_unit_106 rfl ?_
          exact ret 1 (v77, f78) _ _ _ _ _ _ rfl ⟨(gsX_X6_unit_2_q17 c1 c15 c43 c71 hG72 et75 hG76), hM_v77, hA_f78, hIv77, (hk0_v77.trans hk0_v73), (hk1_v77.trans hk1_v73), (hk9_v77.trans hk9_v73), (hk10_v77.trans hk10_v73), (hk31_v77.trans hk31_v73), (hk32_v77.trans hk32_v73), (Or.inl rfl)⟩ hP hD hS dX6_unit_107 (Nat.le_refl _) (Nat.le_refl _)
        · skip
          refine lv_aload_n hx hb dX6_unit_56 rfl (lv_at hl 2 rfl) ?_
          refine cbVi (n := 0) (rest := []) hx hb hml hown hts hE hP hD hS hA (sX_X6_refuse_1 NF l dC dI cy x0 x  v f hIv ) k_691 k_693 k_6 k_103 k_694 hd_yX6_refuse ⟨Nat.le_of_ble_eq_true rfl, Nat.le_of_ble_eq_true rfl⟩ 3 6 rfl rfl (rfl) hl.1 rfl (Nat.le_of_ble_eq_true rfl) dX6_unit_57 (fun r79 u H locs hw hP hD hS => ?_)
          obtain ⟨hG80, hw⟩ := hw
          obtain ⟨v81, f82⟩ := u
          obtain ⟨kV_v81, kF_f82, hIv81, hk0_v81, hk1_v81, hk9_v81, hk10_v81, hk31_v81, hk32_v81, hw⟩ := hw
          have hM_v81 : KV [2, 3, 4, 5, 7, 8, 16, 17] v81 v := KV.tr kV_v81 hM_v rfl
          have hA_f82 : KF [3, 4] f82 f := KF.tr kF_f82 hA_f rfl
          have hP : va_P (dC, dI) vwCl (XW cy x0 x v81 f82) H := hP
          have hD : va_D A (XW cy x0 x v81 f82) := hD
          rcases hw with ⟨g83⟩ | ⟨g83⟩
          · skip
            subst g83
            exact ret 1 (v81, f82) _ _ _ _ _ _ rfl ⟨(gsX_X6_unit_2_q18 c1 c15 c43 c71 hG80), hM_v81, hA_f82, hIv81, hk0_v81, hk1_v81, hk9_v81, hk10_v81, hk31_v81, hk32_v81, (Or.inl rfl)⟩ hP hD hS dX6_unit_60 (Nat.le_refl _) (Nat.le_refl _)
          · skip
            subst g83
            exact ret 0 (v81, f82) _ _ _ _ _ _ rfl ⟨(gsX_X6_unit_2_q19 c1 c15 c43 c71 hG80), hM_v81, hA_f82, hIv81, hk0_v81, hk1_v81, hk9_v81, hk10_v81, hk31_v81, hk32_v81, (Or.inr rfl)⟩ hP hD hS dX6_unit_60 (Nat.le_refl _) (Nat.le_refl _)
