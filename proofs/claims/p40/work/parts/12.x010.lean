set_option maxHeartbeats 4000000 in
set_option maxRecDepth 100000 in
theorem sX_X6_expression_6 (NF : Nat) (l : Launch) (dC : Nat → ClassId) (dI : Nat → Nat → Nat) (cy : Nat → ClassId) (x0 : Nat) (x : Nat → Nat)  (v : Nat → Int32) (f : Nat → Nat → Int32) (hIv : XI v)  : ctIS l (dC, dI) cy yX6_expression cX6_expression 6 .boolean 57 1425 0 0 ((Nat → Int32) × (Nat → Nat → Int32)) [.ref (x 2), .int 5, .int 0] (XW cy x0 x v f) (fun r u => gsX_X6_expression_6 NF v f = (r, u) ∧ KV [2, 3, 4, 5, 7, 8, 16, 17] u.1 v ∧ KF [3, 4] u.2 f ∧ XI u.1 ∧ u.1 0 = v 0 ∧ u.1 1 = v 1 ∧ u.1 9 = v 9 ∧ u.1 10 = v 10 ∧ u.1 31 = v 31 ∧ u.1 32 = v 32 ∧ ((r = 1) ∨ (r = 0))) (fun u => XW cy x0 x u.1 u.2) := by
  refine ctIS_of (by decide) (Nat.le_of_ble_eq_true rfl) (fun p e s m below meth c A ls Q hx hb hml hts hown hE hF hT hP hD hA hl ret => ?_)
  have hM_v : KV [2, 3, 4, 5, 7, 8, 16, 17] v v := fun _ _ => rfl
  have hA_f : KF [3, 4] f f := fun _ _ => rfl
  have hown : s.vm.findClass RX6 = some m.cls := hown
  have hS : va_S A s.heap s.heap [] := va_S.rf
  have hl : lv_has ls 6 [(0, .ref (x 2)), (1, .int 5), (2, .int 0)] := hl
  refine lv_iload_n hx hb dX6_expression_0 rfl (lv_at hl 1 rfl) ?_
  refine lv_iconst (v := 5) hx hb dX6_expression_1 (by decide) ?_
  refine lv_icmp_lt (tgt := 11) hx hb dX6_expression_2 (by decide) (fun c0 => absurd c0 (by decide)) (fun _ => ?_)
  refine lv_aload_n hx hb dX6_expression_5 rfl (lv_at hl 0 rfl) ?_
  refine lv_iload_n hx hb dX6_expression_6 rfl (lv_at hl 2 rfl) ?_
  refine csVi (n := 1) (rest := []) hx hb hml hown hts hE hP hD hS hA hF hT (sX_X6_unit_1 NF l dC dI cy x0 x  v f hIv ) k_744 k_746 k_16 k_103 k_747 (by decide +kernel) ⟨Nat.le_of_ble_eq_true rfl, Nat.le_of_ble_eq_true rfl⟩ 3 6 rfl rfl (rfl) hl.1 rfl (Nat.le_of_ble_eq_true rfl) dX6_expression_7 (fun r1 u H locs hw hP hD hS => ?_)
  obtain ⟨hG2, hw⟩ := hw
  obtain ⟨v3, f4⟩ := u
  obtain ⟨kV_v3, kF_f4, hIv3, hk0_v3, hk1_v3, hk9_v3, hk10_v3, hk31_v3, hk32_v3, hw⟩ := hw
  have hM_v3 : KV [2, 3, 4, 5, 7, 8, 16, 17] v3 v := KV.tr kV_v3 hM_v rfl
  have hA_f4 : KF [3, 4] f4 f := KF.tr kF_f4 hA_f rfl
  have hP : va_P (dC, dI) vwCl (XW cy x0 x v3 f4) H := hP
  have hD : va_D A (XW cy x0 x v3 f4) := hD
  have hq0_v3 : v3 0 = (v 0) := hk0_v3
  have hq1_v3 : v3 1 = (v 1) := hk1_v3
  have hq9_v3 : v3 9 = (v 9) := hk9_v3
  have hq10_v3 : v3 10 = (v 10) := hk10_v3
  have hq31_v3 : v3 31 = (v 31) := hk31_v3
  have hq32_v3 : v3 32 = (v 32) := hk32_v3
  rcases hw with ⟨g5⟩ | ⟨g5⟩
  · skip
    subst g5
    exact ret 1 (v3, f4) _ _ _ _ _ _ rfl ⟨(gsX_X6_expression_6_q0 hG2), hM_v3, hA_f4, hIv3, hk0_v3, hk1_v3, hk9_v3, hk10_v3, hk31_v3, hk32_v3, (Or.inl rfl)⟩ hP hD hS dX6_expression_10 (Nat.le_refl _) (Nat.le_refl _)
  · skip
    subst g5
    exact ret 0 (v3, f4) _ _ _ _ _ _ rfl ⟨(gsX_X6_expression_6_q1 hG2), hM_v3, hA_f4, hIv3, hk0_v3, hk1_v3, hk9_v3, hk10_v3, hk31_v3, hk32_v3, (Or.inr rfl)⟩ hP hD hS dX6_expression_10 (Nat.le_refl _) (Nat.le_refl _)
set_option maxHeartbeats 4000000 in
set_option maxRecDepth 100000 in
theorem sX_X6_expression_5 (NF : Nat) (l : Launch) (dC : Nat → ClassId) (dI : Nat → Nat → Nat) (cy : Nat → ClassId) (x0 : Nat) (x : Nat → Nat)  (v : Nat → Int32) (f : Nat → Nat → Int32) (hIv : XI v)  : ctIS l (dC, dI) cy yX6_expression cX6_expression 6 .boolean 58 1450 0 0 ((Nat → Int32) × (Nat → Nat → Int32)) [.ref (x 2), .int 4, .int 0] (XW cy x0 x v f) (fun r u => gsX_X6_expression_5 NF v f = (r, u) ∧ KV [2, 3, 4, 5, 7, 8, 16, 17] u.1 v ∧ KF [3, 4] u.2 f ∧ XI u.1 ∧ u.1 0 = v 0 ∧ u.1 1 = v 1 ∧ u.1 9 = v 9 ∧ u.1 10 = v 10 ∧ u.1 31 = v 31 ∧ u.1 32 = v 32 ∧ ((r = 1) ∨ (r = 0))) (fun u => XW cy x0 x u.1 u.2) := by
  refine ctIS_of (by decide) (Nat.le_of_ble_eq_true rfl) (fun p e s m below meth c A ls Q hx hb hml hts hown hE hF hT hP hD hA hl ret => ?_)
  have hM_v : KV [2, 3, 4, 5, 7, 8, 16, 17] v v := fun _ _ => rfl
  have hA_f : KF [3, 4] f f := fun _ _ => rfl
  have hown : s.vm.findClass RX6 = some m.cls := hown
  have hS : va_S A s.heap s.heap [] := va_S.rf
  have hl : lv_has ls 6 [(0, .ref (x 2)), (1, .int 4), (2, .int 0)] := hl
  refine lv_iload_n hx hb dX6_expression_0 rfl (lv_at hl 1 rfl) ?_
  refine lv_iconst (v := 5) hx hb dX6_expression_1 (by decide) ?_
  refine lv_icmp_lt (tgt := 11) hx hb dX6_expression_2 (by decide) (fun _ => ?_) (fun c0 => absurd (by decide) c0)
  refine lv_iload_n hx hb dX6_expression_11 rfl (lv_at hl 1 rfl) ?_
  refine lv_iconst (v := 2) hx hb dX6_expression_12 (by decide) ?_
  refine lv_icmp_ne (tgt := 34) hx hb dX6_expression_13 (by decide) (fun _ => ?_) (fun c0 => absurd c0 (by decide))
  refine lv_aload_n hx hb dX6_expression_34 rfl (lv_at hl 0 rfl) ?_
  refine lv_iload_n hx hb dX6_expression_35 rfl (lv_at hl 1 rfl) ?_
  refine lv_iconst (v := 1) hx hb dX6_expression_36 (by decide) ?_
  refine lv_iadd hx hb dX6_expression_37 ?_
  refine tI (y := 5) (by decide) ?_
  refine lv_iload_n hx hb dX6_expression_38 rfl (lv_at hl 2 rfl) ?_
  refine csVi (n := 2) (rest := []) hx hb hml hown hts hE hP hD hS hA hF hT (sX_X6_expression_6 NF l dC dI cy x0 x  v f hIv ) k_740 k_742 k_15 k_103 k_743 (by decide +kernel) ⟨Nat.le_of_ble_eq_true rfl, Nat.le_of_ble_eq_true rfl⟩ 3 6 rfl rfl (rfl) hl.1 rfl (Nat.le_of_ble_eq_true rfl) dX6_expression_39 (fun r1 u H locs hw hP hD hS => ?_)
  obtain ⟨hG2, hw⟩ := hw
  obtain ⟨v3, f4⟩ := u
  obtain ⟨kV_v3, kF_f4, hIv3, hk0_v3, hk1_v3, hk9_v3, hk10_v3, hk31_v3, hk32_v3, hw⟩ := hw
  have hM_v3 : KV [2, 3, 4, 5, 7, 8, 16, 17] v3 v := KV.tr kV_v3 hM_v rfl
  have hA_f4 : KF [3, 4] f4 f := KF.tr kF_f4 hA_f rfl
  have hP : va_P (dC, dI) vwCl (XW cy x0 x v3 f4) H := hP
  have hD : va_D A (XW cy x0 x v3 f4) := hD
  have hq0_v3 : v3 0 = (v 0) := hk0_v3
  have hq1_v3 : v3 1 = (v 1) := hk1_v3
  have hq9_v3 : v3 9 = (v 9) := hk9_v3
  have hq10_v3 : v3 10 = (v 10) := hk10_v3
  have hq31_v3 : v3 31 = (v 31) := hk31_v3
  have hq32_v3 : v3 32 = (v 32) := hk32_v3
  rcases hw with ⟨g5⟩ | ⟨g5⟩
  · skip
    subst g5
    refine lv_if_ne (tgt := 47) hx hb dX6_expression_42 (by decide) (fun _ => ?_) (fun c0 => absurd c0 (by decide))
    refine lv_iload_n hx hb dX6_expression_47 rfl (lv_at hl 1 rfl) ?_
    refine lv_iconst (v := 2) hx hb dX6_expression_48 (by decide) ?_
    refine lv_icmp_ne (tgt := 56) hx hb dX6_expression_49 (by decide) (fun _ => ?_) (fun c0 => absurd c0 (by decide))
    refine lv_sipush (v := 1600) hx hb dX6_expression_56 (by decide) ?_
    refine lv_istore_n (lv' := [(3, .int 1600), (0, .ref (x 2)), (1, .int 4), (2, .int 0)]) hx hb dX6_expression_59 rfl hl (by decide) rfl (fun ls hl => ?_)
    refine lv_iconst (v := 0) hx hb dX6_expression_60 (by decide) ?_
    refine lv_istore (lv' := [(4, .int 0), (3, .int 1600), (0, .ref (x 2)), (1, .int 4), (2, .int 0)]) hx hb dX6_expression_61 hl (by decide) rfl (fun ls hl => ?_)
    have lp6 : ∀ (n6 : Nat) (l4_6 : Int32) (v6 : Nat → Int32) (f6 : Nat → Nat → Int32), XI v6 → v6 0 = (v 0) → v6 1 = (v 1) → v6 9 = (v 9) → v6 10 = (v 10) → v6 31 = (v 31) → v6 32 = (v 32) → gsX_X6_expression_5_L6 NF n6 l4_6 v6 f6 = (gsX_X6_expression_5 NF v f) → ((0 : Int) ≤ l4_6.toInt ∧ l4_6.toInt ≤ 2147483647) → KV [2, 3, 4, 5, 7, 8, 16, 17] v6 v → KF [3, 4] f6 f → (2147483647 - l4_6.toInt).toNat < n6 → ∀ (H : Heap) (locs : List Loc) (ls : Array Slot), va_P (dC, dI) vwCl (XW cy x0 x v6 f6) H → va_D A (XW cy x0 x v6 f6) → va_S A s.heap H locs → lv_has ls 6 [(4, .int l4_6), (3, .int 1600), (0, .ref (x 2)), (1, .int 4), (2, .int 0)] → W p l e { frames := 58, cells := 0, slots := 0, locals := 1450 } s m ([.ref (x 2), .int 4, .int 0] : List Value).toArray below meth c H locs 0 0 Q (F0 m 63 ls []) := by
      intro n6
      induction n6 with
      | zero => intro l4_6 v6 f6 hIv6 hq0_v6 hq1_v6 hq9_v6 hq10_v6 hq31_v6 hq32_v6 hT6 hr4_6 hM_v6 hA_f6 hm; exact absurd hm (Nat.not_lt_zero _)
      | succ n6 ih6 =>
        intro l4_6 v6 f6 hIv6 hq0_v6 hq1_v6 hq9_v6 hq10_v6 hq31_v6 hq32_v6 hT6 hr4_6 hM_v6 hA_f6 hm6 H locs ls hP hD hS hl
        refine lv_iload hx hb dX6_expression_63 (lv_at hl 0 rfl) ?_
        refine lv_iload_n hx hb dX6_expression_65 rfl (lv_at hl 1 rfl) ?_
        refine lv_icmp_ge (tgt := 131) hx hb dX6_expression_66 (by decide) (fun c7 => ?_) (fun c7 => ?_)
        · skip
          have zc7 : 1600 ≤ l4_6.toInt := by rw [fa_le, show (1600 : Int32).toInt = 1600 from by decide] at c7; exact c7
          refine lv_iconst (v := 1) hx hb dX6_expression_131 (by decide) ?_
          exact ret 1 (v6, f6) _ _ _ _ _ _ rfl ⟨(hT6.symm.trans (gsX_X6_expression_5_q0 c7)), hM_v6, hA_f6, hIv6, hq0_v6, hq1_v6, hq9_v6, hq10_v6, hq31_v6, hq32_v6, (Or.inl rfl)⟩ hP hD hS dX6_expression_132 (Nat.le_refl _) (Nat.le_refl _)
        · skip
          have zc7 : ¬ (1600 ≤ l4_6.toInt) := by rw [fa_le, show (1600 : Int32).toInt = 1600 from by decide] at c7; exact c7
          refine lv_iload_n hx hb dX6_expression_69 rfl (lv_at hl 3 rfl) ?_
          refine lv_aload_n hx hb dX6_expression_70 rfl (lv_at hl 2 rfl) ?_
          refine va_get (D := (dC, dI)) (ci := 6) (v := .ref (x 0)) (C := RX6) (T := TX6) (N := 7) hx hb hts inB_6 hown hE.1 hP 3 rfl rfl 0 (by decide) (hts _ k_265) (fun _ h9 => h9) rfl dX6_expression_71 ?_
          refine va_getN (D := (dC, dI)) (ci := 9) (v := .int (v6 2)) (C := RX9) (T := TX9) (N := 6) hx hb hts inB_9 hown hE.1 hP 1 rfl rfl 2 (by decide) (va_Nw.use rfl (hE.2 _ k_139)) (fun _ h9 => h9) rfl dX6_expression_74 ?_
          refine cbSi (n := 2) (rest := []) hx hb hml hown hts hE hP hD hS hA (sX_X6_joins_1 NF l dC dI cy x0 x 4 (v6 2) v6 f6 hIv6 ) k_756 k_757 k_103 k_758 (by decide +kernel) ⟨Nat.le_of_ble_eq_true rfl, Nat.le_of_ble_eq_true rfl⟩ (rfl) hl.1 rfl (Nat.le_of_ble_eq_true rfl) dX6_expression_77 (fun r8 u H locs hw hP hD hS => ?_)
          obtain ⟨hG9, hw⟩ := hw
          rcases hw with ⟨g10⟩ | ⟨g10⟩
          · skip
            subst g10
            refine lv_if_eq (tgt := 131) hx hb dX6_expression_80 (by decide) (fun c0 => absurd c0 (by decide)) (fun _ => ?_)
            refine lv_aload_n hx hb dX6_expression_83 rfl (lv_at hl 2 rfl) ?_
            refine va_get (D := (dC, dI)) (ci := 6) (v := .ref (x 0)) (C := RX6) (T := TX6) (N := 7) hx hb hts inB_6 hown hE.1 hP 3 rfl rfl 0 (by decide) (hts _ k_265) (fun _ h9 => h9) rfl dX6_expression_84 ?_
            refine va_getN (D := (dC, dI)) (ci := 9) (v := .int (v6 2)) (C := RX9) (T := TX9) (N := 6) hx hb hts inB_9 hown hE.1 hP 1 rfl rfl 2 (by decide) (va_Nw.use rfl (hE.2 _ k_139)) (fun _ h9 => h9) rfl dX6_expression_87 ?_
            refine lv_istore (lv' := [(5, .int (v6 2)), (4, .int l4_6), (3, .int 1600), (0, .ref (x 2)), (1, .int 4), (2, .int 0)]) hx hb dX6_expression_90 hl (by decide) rfl (fun ls hl => ?_)
            refine lv_aload_n hx hb dX6_expression_92 rfl (lv_at hl 3 rfl) ?_
            refine va_get (D := (dC, dI)) (ci := 6) (v := .ref (x 0)) (C := RX6) (T := TX6) (N := 7) hx hb hts inB_6 hown hE.1 hP 3 rfl rfl 0 (by decide) (hts _ k_265) (fun _ h9 => h9) rfl dX6_expression_93 ?_
            refine csVv (n := 0) (rest := []) hx hb hml hown hts hE hP hD hS hA hF hT (sX_X9_advance_1 NF l dC dI cy x0 x  v6 f6 hIv6 ) k_699 k_559 k_560 k_102 k_561 (by decide +kernel) ⟨Nat.le_of_ble_eq_true rfl, Nat.le_of_ble_eq_true rfl⟩ 1 9 rfl rfl (rfl) hl.1 rfl (Nat.le_of_ble_eq_true rfl) dX6_expression_96 (fun u H locs hw hP hD hS => ?_)
            obtain ⟨hG11, hw⟩ := hw
            obtain ⟨v12, f13⟩ := u
            obtain ⟨kV_v12, kF_f13, hIv12, hk0_v12, hk1_v12, hk7_v12, hk8_v12, hk9_v12, hk10_v12, hk31_v12, hk32_v12⟩ := hw
            have hM_v12 : KV [2, 3, 4, 5, 7, 8, 16, 17] v12 v := KV.tr kV_v12 hM_v6 rfl
            have hA_f13 : KF [3, 4] f13 f := KF.tr kF_f13 hA_f6 rfl
            have hP : va_P (dC, dI) vwCl (XW cy x0 x v12 f13) H := hP
            have hD : va_D A (XW cy x0 x v12 f13) := hD
            have hq0_v12 : v12 0 = (v 0) := hk0_v12.trans hq0_v6
            have hq1_v12 : v12 1 = (v 1) := hk1_v12.trans hq1_v6
            have hq7_v12 : v12 7 = (v6 7) := hk7_v12
            have hq8_v12 : v12 8 = (v6 8) := hk8_v12
            have hq9_v12 : v12 9 = (v 9) := hk9_v12.trans hq9_v6
            have hq10_v12 : v12 10 = (v 10) := hk10_v12.trans hq10_v6
            have hq31_v12 : v12 31 = (v 31) := hk31_v12.trans hq31_v6
            have hq32_v12 : v12 32 = (v 32) := hk32_v12.trans hq32_v6
            refine lv_aload_n hx hb dX6_expression_99 rfl (lv_at hl 3 rfl) ?_
            refine lv_iload_n hx hb dX6_expression_100 rfl (lv_at hl 4 rfl) ?_
            refine lv_iconst (v := 1) hx hb dX6_expression_101 (by decide) ?_
            refine lv_iadd hx hb dX6_expression_102 ?_
            refine tI (y := 5) (by decide) ?_
            refine lv_iload_n hx hb dX6_expression_103 rfl (lv_at hl 5 rfl) ?_
            refine csVi (n := 2) (rest := []) hx hb hml hown hts hE hP hD hS hA hF hT (sX_X6_expression_6 NF l dC dI cy x0 x  v12 f13 hIv12 ) k_740 k_742 k_15 k_103 k_743 (by decide +kernel) ⟨Nat.le_of_ble_eq_true rfl, Nat.le_of_ble_eq_true rfl⟩ 3 6 rfl rfl (rfl) hl.1 rfl (Nat.le_of_ble_eq_true rfl) dX6_expression_104 (fun r14 u H locs hw hP hD hS => ?_)
            obtain ⟨hG15, hw⟩ := hw
            obtain ⟨v16, f17⟩ := u
            obtain ⟨kV_v16, kF_f17, hIv16, hk0_v16, hk1_v16, hk9_v16, hk10_v16, hk31_v16, hk32_v16, hw⟩ := hw
            have hM_v16 : KV [2, 3, 4, 5, 7, 8, 16, 17] v16 v := KV.tr kV_v16 hM_v12 rfl
            have hA_f17 : KF [3, 4] f17 f := KF.tr kF_f17 hA_f13 rfl
            have hP : va_P (dC, dI) vwCl (XW cy x0 x v16 f17) H := hP
            have hD : va_D A (XW cy x0 x v16 f17) := hD
            have hq0_v16 : v16 0 = (v 0) := hk0_v16.trans hq0_v12
            have hq1_v16 : v16 1 = (v 1) := hk1_v16.trans hq1_v12
            have hq9_v16 : v16 9 = (v 9) := hk9_v16.trans hq9_v12
            have hq10_v16 : v16 10 = (v 10) := hk10_v16.trans hq10_v12
            have hq31_v16 : v16 31 = (v 31) := hk31_v16.trans hq31_v12
            have hq32_v16 : v16 32 = (v 32) := hk32_v16.trans hq32_v12
            rcases hw with ⟨g18⟩ | ⟨g18⟩
            · skip
              subst g18
              refine lv_if_ne (tgt := 112) hx hb dX6_expression_107 (by decide) (fun _ => ?_) (fun c0 => absurd c0 (by decide))
              refine lv_aload_n hx hb dX6_expression_112 rfl (lv_at hl 3 rfl) ?_
              refine va_get (D := (dC, dI)) (ci := 6) (v := .ref (x 3)) (C := RX6) (T := TX6) (N := 7) hx hb hts inB_6 hown hE.1 hP 3 rfl rfl 1 (by decide) (hts _ k_266) (fun _ h9 => h9) rfl dX6_expression_113 ?_
              refine va_getN (D := (dC, dI)) (ci := 7) (v := .ref (x 6)) (C := RX7) (T := TX7) (N := 10) hx hb hts inB_7 hown hE.1 hP 4 rfl rfl 2 (by decide) (va_Nw.use rfl (hE.2 _ k_210)) (fun _ h9 => h9) rfl dX6_expression_116 ?_
              refine lv_iload hx hb dX6_expression_119 (lv_at hl 0 rfl) ?_
              refine lv_iconst (v := 0) hx hb dX6_expression_121 (by decide) ?_
              refine cbVv (n := 2) (rest := []) hx hb hml hown hts hE hP hD hS hA (sX_X4_add_1 NF l dC dI cy x0 x (v6 2) 0 v16 f17 hIv16 ) k_748 k_749 k_750 k_105 k_751 (by decide +kernel) ⟨Nat.le_of_ble_eq_true rfl, Nat.le_of_ble_eq_true rfl⟩ 7 4 rfl rfl (rfl) hl.1 rfl (Nat.le_of_ble_eq_true rfl) dX6_expression_122 (fun u H locs hw hP hD hS => ?_)
              obtain ⟨hG19, hw⟩ := hw
              obtain ⟨v20, f21⟩ := u
              obtain ⟨kV_v20, kF_f21, hIv20, hk0_v20, hk1_v20, hk7_v20, hk8_v20, hk9_v20, hk10_v20, hk31_v20, hk32_v20⟩ := hw
              have hM_v20 : KV [2, 3, 4, 5, 7, 8, 16, 17] v20 v := KV.tr kV_v20 hM_v16 rfl
              have hA_f21 : KF [3, 4] f21 f := KF.tr kF_f21 hA_f17 rfl
              have hP : va_P (dC, dI) vwCl (XW cy x0 x v20 f21) H := hP
              have hD : va_D A (XW cy x0 x v20 f21) := hD
              have hq0_v20 : v20 0 = (v 0) := hk0_v20.trans hq0_v16
              have hq1_v20 : v20 1 = (v 1) := hk1_v20.trans hq1_v16
              have hq7_v20 : v20 7 = (v16 7) := hk7_v20
              have hq8_v20 : v20 8 = (v16 8) := hk8_v20
              have hq9_v20 : v20 9 = (v 9) := hk9_v20.trans hq9_v16
              have hq10_v20 : v20 10 = (v 10) := hk10_v20.trans hq10_v16
              have hq31_v20 : v20 31 = (v 31) := hk31_v20.trans hq31_v16
              have hq32_v20 : v20 32 = (v 32) := hk32_v20.trans hq32_v16
              obtain ⟨t22, et22⟩ : ∃ y : Int32, y = l4_6 + 1 := ⟨_, rfl⟩
              have rg23 := fb_rng l4_6
              have zt22 : t22.toInt = l4_6.toInt + 1 := by rw [et22]; exact add_i rfl (by decide) (by omega) (by omega)
              refine lv_iinc (v := t22) (lv' := [(4, .int t22), (5, .int (v6 2)), (3, .int 1600), (0, .ref (x 2)), (1, .int 4), (2, .int 0)]) hx hb dX6_expression_125 hl (k := 1) rfl (by rw [et22]; rfl) (by decide) rfl (fun ls hl => ?_)
              refine lv_goto (tgt := 63) hx hb dX6_expression_128 (by decide) ?_
              have rg24 := fb_rng t22
              exact ih6 t22 v20 f21 hIv20 hq0_v20 hq1_v20 hq9_v20 hq10_v20 hq31_v20 hq32_v20 ((gsX_X6_expression_5_q1 c7 hG9 hG11 hG15 hG19 et22).symm.trans hT6) ⟨show (0 : Int) ≤ t22.toInt by omega, show t22.toInt ≤ (2147483647 : Int) by omega⟩ hM_v20 hA_f21 (by show (2147483647 - t22.toInt).toNat < n6; omega) _ _ _ hP hD hS (lv_sub hl [0, 2, 3, 4, 5] rfl)
            · skip
              subst g18
              refine lv_if_ne (tgt := 112) hx hb dX6_expression_107 (by decide) (fun c0 => absurd (by decide) c0) (fun _ => ?_)
              refine lv_iconst (v := 0) hx hb dX6_expression_110 (by decide) ?_
              exact ret 0 (v16, f17) _ _ _ _ _ _ rfl ⟨(hT6.symm.trans (gsX_X6_expression_5_q2 c7 hG9 hG11 hG15)), hM_v16, hA_f17, hIv16, (hk0_v16.trans (hk0_v12.trans hq0_v6)), (hk1_v16.trans (hk1_v12.trans hq1_v6)), (hk9_v16.trans (hk9_v12.trans hq9_v6)), (hk10_v16.trans (hk10_v12.trans hq10_v6)), (hk31_v16.trans (hk31_v12.trans hq31_v6)), (hk32_v16.trans (hk32_v12.trans hq32_v6)), (Or.inr rfl)⟩ hP hD hS dX6_expression_111 (Nat.le_refl _) (Nat.le_refl _)
          · skip
            subst g10
            refine lv_if_eq (tgt := 131) hx hb dX6_expression_80 (by decide) (fun _ => ?_) (fun c0 => absurd (by decide) c0)
            refine lv_iconst (v := 1) hx hb dX6_expression_131 (by decide) ?_
            exact ret 1 (v6, f6) _ _ _ _ _ _ rfl ⟨(hT6.symm.trans (gsX_X6_expression_5_q3 c7 hG9)), hM_v6, hA_f6, hIv6, hq0_v6, hq1_v6, hq9_v6, hq10_v6, hq31_v6, hq32_v6, (Or.inl rfl)⟩ hP hD hS dX6_expression_132 (Nat.le_refl _) (Nat.le_refl _)
    exact lp6 (4294967296 + NF) 0 v3 f4 hIv3 hq0_v3 hq1_v3 hq9_v3 hq10_v3 hq31_v3 hq32_v3 (gsX_X6_expression_5_q4 hG2).symm ⟨by decide, by decide⟩ hM_v3 hA_f4 (by have q4 : (0 : Int32).toInt = 0 := (by decide); have q3 : (1600 : Int32).toInt = 1600 := (by decide); have q1 : (4 : Int32).toInt = 4 := (by decide); have q2 : (0 : Int32).toInt = 0 := (by decide); show (2147483647 - (0 : Int32).toInt).toNat < 4294967296 + NF; omega) _ _ _ hP hD hS (lv_sub hl [0, 1, 2, 3, 4] rfl)
  · skip
    subst g5
    refine lv_if_ne (tgt := 47) hx hb dX6_expression_42 (by decide) (fun c0 => absurd (by decide) c0) (fun _ => ?_)
    refine lv_iconst (v := 0) hx hb dX6_expression_45 (by decide) ?_
    exact ret 0 (v3, f4) _ _ _ _ _ _ rfl ⟨(gsX_X6_expression_5_q5 hG2), hM_v3, hA_f4, hIv3, hk0_v3, hk1_v3, hk9_v3, hk10_v3, hk31_v3, hk32_v3, (Or.inr rfl)⟩ hP hD hS dX6_expression_46 (Nat.le_refl _) (Nat.le_refl _)
set_option maxHeartbeats 4000000 in
set_option maxRecDepth 100000 in
theorem sX_X6_expression_4 (NF : Nat) (l : Launch) (dC : Nat → ClassId) (dI : Nat → Nat → Nat) (cy : Nat → ClassId) (x0 : Nat) (x : Nat → Nat)  (v : Nat → Int32) (f : Nat → Nat → Int32) (hIv : XI v)  : ctIS l (dC, dI) cy yX6_expression cX6_expression 6 .boolean 59 1475 0 0 ((Nat → Int32) × (Nat → Nat → Int32)) [.ref (x 2), .int 3, .int 0] (XW cy x0 x v f) (fun r u => gsX_X6_expression_4 NF v f = (r, u) ∧ KV [2, 3, 4, 5, 7, 8, 16, 17] u.1 v ∧ KF [3, 4] u.2 f ∧ XI u.1 ∧ u.1 0 = v 0 ∧ u.1 1 = v 1 ∧ u.1 9 = v 9 ∧ u.1 10 = v 10 ∧ u.1 31 = v 31 ∧ u.1 32 = v 32 ∧ ((r = 1) ∨ (r = 0))) (fun u => XW cy x0 x u.1 u.2) := by
  refine ctIS_of (by decide) (Nat.le_of_ble_eq_true rfl) (fun p e s m below meth c A ls Q hx hb hml hts hown hE hF hT hP hD hA hl ret => ?_)
  have hM_v : KV [2, 3, 4, 5, 7, 8, 16, 17] v v := fun _ _ => rfl
  have hA_f : KF [3, 4] f f := fun _ _ => rfl
  have hown : s.vm.findClass RX6 = some m.cls := hown
  have hS : va_S A s.heap s.heap [] := va_S.rf
  have hl : lv_has ls 6 [(0, .ref (x 2)), (1, .int 3), (2, .int 0)] := hl
  refine lv_iload_n hx hb dX6_expression_0 rfl (lv_at hl 1 rfl) ?_
  refine lv_iconst (v := 5) hx hb dX6_expression_1 (by decide) ?_
  refine lv_icmp_lt (tgt := 11) hx hb dX6_expression_2 (by decide) (fun _ => ?_) (fun c0 => absurd (by decide) c0)
  refine lv_iload_n hx hb dX6_expression_11 rfl (lv_at hl 1 rfl) ?_
  refine lv_iconst (v := 2) hx hb dX6_expression_12 (by decide) ?_
  refine lv_icmp_ne (tgt := 34) hx hb dX6_expression_13 (by decide) (fun _ => ?_) (fun c0 => absurd c0 (by decide))
  refine lv_aload_n hx hb dX6_expression_34 rfl (lv_at hl 0 rfl) ?_
  refine lv_iload_n hx hb dX6_expression_35 rfl (lv_at hl 1 rfl) ?_
  refine lv_iconst (v := 1) hx hb dX6_expression_36 (by decide) ?_
  refine lv_iadd hx hb dX6_expression_37 ?_
  refine tI (y := 4) (by decide) ?_
  refine lv_iload_n hx hb dX6_expression_38 rfl (lv_at hl 2 rfl) ?_
  refine csVi (n := 2) (rest := []) hx hb hml hown hts hE hP hD hS hA hF hT (sX_X6_expression_5 NF l dC dI cy x0 x  v f hIv ) k_740 k_742 k_15 k_103 k_743 (by decide +kernel) ⟨Nat.le_of_ble_eq_true rfl, Nat.le_of_ble_eq_true rfl⟩ 3 6 rfl rfl (rfl) hl.1 rfl (Nat.le_of_ble_eq_true rfl) dX6_expression_39 (fun r1 u H locs hw hP hD hS => ?_)
  obtain ⟨hG2, hw⟩ := hw
  obtain ⟨v3, f4⟩ := u
  obtain ⟨kV_v3, kF_f4, hIv3, hk0_v3, hk1_v3, hk9_v3, hk10_v3, hk31_v3, hk32_v3, hw⟩ := hw
  have hM_v3 : KV [2, 3, 4, 5, 7, 8, 16, 17] v3 v := KV.tr kV_v3 hM_v rfl
  have hA_f4 : KF [3, 4] f4 f := KF.tr kF_f4 hA_f rfl
  have hP : va_P (dC, dI) vwCl (XW cy x0 x v3 f4) H := hP
  have hD : va_D A (XW cy x0 x v3 f4) := hD
  have hq0_v3 : v3 0 = (v 0) := hk0_v3
  have hq1_v3 : v3 1 = (v 1) := hk1_v3
  have hq9_v3 : v3 9 = (v 9) := hk9_v3
  have hq10_v3 : v3 10 = (v 10) := hk10_v3
  have hq31_v3 : v3 31 = (v 31) := hk31_v3
  have hq32_v3 : v3 32 = (v 32) := hk32_v3
  rcases hw with ⟨g5⟩ | ⟨g5⟩
  · skip
    subst g5
    refine lv_if_ne (tgt := 47) hx hb dX6_expression_42 (by decide) (fun _ => ?_) (fun c0 => absurd c0 (by decide))
    refine lv_iload_n hx hb dX6_expression_47 rfl (lv_at hl 1 rfl) ?_
    refine lv_iconst (v := 2) hx hb dX6_expression_48 (by decide) ?_
    refine lv_icmp_ne (tgt := 56) hx hb dX6_expression_49 (by decide) (fun _ => ?_) (fun c0 => absurd c0 (by decide))
    refine lv_sipush (v := 1600) hx hb dX6_expression_56 (by decide) ?_
    refine lv_istore_n (lv' := [(3, .int 1600), (0, .ref (x 2)), (1, .int 3), (2, .int 0)]) hx hb dX6_expression_59 rfl hl (by decide) rfl (fun ls hl => ?_)
    refine lv_iconst (v := 0) hx hb dX6_expression_60 (by decide) ?_
    refine lv_istore (lv' := [(4, .int 0), (3, .int 1600), (0, .ref (x 2)), (1, .int 3), (2, .int 0)]) hx hb dX6_expression_61 hl (by decide) rfl (fun ls hl => ?_)
    have lp6 : ∀ (n6 : Nat) (l4_6 : Int32) (v6 : Nat → Int32) (f6 : Nat → Nat → Int32), XI v6 → v6 0 = (v 0) → v6 1 = (v 1) → v6 9 = (v 9) → v6 10 = (v 10) → v6 31 = (v 31) → v6 32 = (v 32) → gsX_X6_expression_4_L6 NF n6 l4_6 v6 f6 = (gsX_X6_expression_4 NF v f) → ((0 : Int) ≤ l4_6.toInt ∧ l4_6.toInt ≤ 2147483647) → KV [2, 3, 4, 5, 7, 8, 16, 17] v6 v → KF [3, 4] f6 f → (2147483647 - l4_6.toInt).toNat < n6 → ∀ (H : Heap) (locs : List Loc) (ls : Array Slot), va_P (dC, dI) vwCl (XW cy x0 x v6 f6) H → va_D A (XW cy x0 x v6 f6) → va_S A s.heap H locs → lv_has ls 6 [(4, .int l4_6), (3, .int 1600), (0, .ref (x 2)), (1, .int 3), (2, .int 0)] → W p l e { frames := 59, cells := 0, slots := 0, locals := 1475 } s m ([.ref (x 2), .int 3, .int 0] : List Value).toArray below meth c H locs 0 0 Q (F0 m 63 ls []) := by
      intro n6
      induction n6 with
      | zero => intro l4_6 v6 f6 hIv6 hq0_v6 hq1_v6 hq9_v6 hq10_v6 hq31_v6 hq32_v6 hT6 hr4_6 hM_v6 hA_f6 hm; exact absurd hm (Nat.not_lt_zero _)
      | succ n6 ih6 =>
        intro l4_6 v6 f6 hIv6 hq0_v6 hq1_v6 hq9_v6 hq10_v6 hq31_v6 hq32_v6 hT6 hr4_6 hM_v6 hA_f6 hm6 H locs ls hP hD hS hl
        refine lv_iload hx hb dX6_expression_63 (lv_at hl 0 rfl) ?_
        refine lv_iload_n hx hb dX6_expression_65 rfl (lv_at hl 1 rfl) ?_
        refine lv_icmp_ge (tgt := 131) hx hb dX6_expression_66 (by decide) (fun c7 => ?_) (fun c7 => ?_)
        · skip
          have zc7 : 1600 ≤ l4_6.toInt := by rw [fa_le, show (1600 : Int32).toInt = 1600 from by decide] at c7; exact c7
          refine lv_iconst (v := 1) hx hb dX6_expression_131 (by decide) ?_
          exact ret 1 (v6, f6) _ _ _ _ _ _ rfl ⟨(hT6.symm.trans (gsX_X6_expression_4_q0 c7)), hM_v6, hA_f6, hIv6, hq0_v6, hq1_v6, hq9_v6, hq10_v6, hq31_v6, hq32_v6, (Or.inl rfl)⟩ hP hD hS dX6_expression_132 (Nat.le_refl _) (Nat.le_refl _)
        · skip
          have zc7 : ¬ (1600 ≤ l4_6.toInt) := by rw [fa_le, show (1600 : Int32).toInt = 1600 from by decide] at c7; exact c7
          refine lv_iload_n hx hb dX6_expression_69 rfl (lv_at hl 3 rfl) ?_
          refine lv_aload_n hx hb dX6_expression_70 rfl (lv_at hl 2 rfl) ?_
          refine va_get (D := (dC, dI)) (ci := 6) (v := .ref (x 0)) (C := RX6) (T := TX6) (N := 7) hx hb hts inB_6 hown hE.1 hP 3 rfl rfl 0 (by decide) (hts _ k_265) (fun _ h9 => h9) rfl dX6_expression_71 ?_
          refine va_getN (D := (dC, dI)) (ci := 9) (v := .int (v6 2)) (C := RX9) (T := TX9) (N := 6) hx hb hts inB_9 hown hE.1 hP 1 rfl rfl 2 (by decide) (va_Nw.use rfl (hE.2 _ k_139)) (fun _ h9 => h9) rfl dX6_expression_74 ?_
          refine cbSi (n := 2) (rest := []) hx hb hml hown hts hE hP hD hS hA (sX_X6_joins_1 NF l dC dI cy x0 x 3 (v6 2) v6 f6 hIv6 ) k_756 k_757 k_103 k_758 (by decide +kernel) ⟨Nat.le_of_ble_eq_true rfl, Nat.le_of_ble_eq_true rfl⟩ (rfl) hl.1 rfl (Nat.le_of_ble_eq_true rfl) dX6_expression_77 (fun r8 u H locs hw hP hD hS => ?_)
          obtain ⟨hG9, hw⟩ := hw
          rcases hw with ⟨g10⟩ | ⟨g10⟩
          · skip
            subst g10
            refine lv_if_eq (tgt := 131) hx hb dX6_expression_80 (by decide) (fun c0 => absurd c0 (by decide)) (fun _ => ?_)
            refine lv_aload_n hx hb dX6_expression_83 rfl (lv_at hl 2 rfl) ?_
            refine va_get (D := (dC, dI)) (ci := 6) (v := .ref (x 0)) (C := RX6) (T := TX6) (N := 7) hx hb hts inB_6 hown hE.1 hP 3 rfl rfl 0 (by decide) (hts _ k_265) (fun _ h9 => h9) rfl dX6_expression_84 ?_
            refine va_getN (D := (dC, dI)) (ci := 9) (v := .int (v6 2)) (C := RX9) (T := TX9) (N := 6) hx hb hts inB_9 hown hE.1 hP 1 rfl rfl 2 (by decide) (va_Nw.use rfl (hE.2 _ k_139)) (fun _ h9 => h9) rfl dX6_expression_87 ?_
            refine lv_istore (lv' := [(5, .int (v6 2)), (4, .int l4_6), (3, .int 1600), (0, .ref (x 2)), (1, .int 3), (2, .int 0)]) hx hb dX6_expression_90 hl (by decide) rfl (fun ls hl => ?_)
            refine lv_aload_n hx hb dX6_expression_92 rfl (lv_at hl 3 rfl) ?_
            refine va_get (D := (dC, dI)) (ci := 6) (v := .ref (x 0)) (C := RX6) (T := TX6) (N := 7) hx hb hts inB_6 hown hE.1 hP 3 rfl rfl 0 (by decide) (hts _ k_265) (fun _ h9 => h9) rfl dX6_expression_93 ?_
            refine csVv (n := 0) (rest := []) hx hb hml hown hts hE hP hD hS hA hF hT (sX_X9_advance_1 NF l dC dI cy x0 x  v6 f6 hIv6 ) k_699 k_559 k_560 k_102 k_561 (by decide +kernel) ⟨Nat.le_of_ble_eq_true rfl, Nat.le_of_ble_eq_true rfl⟩ 1 9 rfl rfl (rfl) hl.1 rfl (Nat.le_of_ble_eq_true rfl) dX6_expression_96 (fun u H locs hw hP hD hS => ?_)
            obtain ⟨hG11, hw⟩ := hw
            obtain ⟨v12, f13⟩ := u
            obtain ⟨kV_v12, kF_f13, hIv12, hk0_v12, hk1_v12, hk7_v12, hk8_v12, hk9_v12, hk10_v12, hk31_v12, hk32_v12⟩ := hw
            have hM_v12 : KV [2, 3, 4, 5, 7, 8, 16, 17] v12 v := KV.tr kV_v12 hM_v6 rfl
            have hA_f13 : KF [3, 4] f13 f := KF.tr kF_f13 hA_f6 rfl
            have hP : va_P (dC, dI) vwCl (XW cy x0 x v12 f13) H := hP
            have hD : va_D A (XW cy x0 x v12 f13) := hD
            have hq0_v12 : v12 0 = (v 0) := hk0_v12.trans hq0_v6
            have hq1_v12 : v12 1 = (v 1) := hk1_v12.trans hq1_v6
            have hq7_v12 : v12 7 = (v6 7) := hk7_v12
            have hq8_v12 : v12 8 = (v6 8) := hk8_v12
            have hq9_v12 : v12 9 = (v 9) := hk9_v12.trans hq9_v6
            have hq10_v12 : v12 10 = (v 10) := hk10_v12.trans hq10_v6
            have hq31_v12 : v12 31 = (v 31) := hk31_v12.trans hq31_v6
            have hq32_v12 : v12 32 = (v 32) := hk32_v12.trans hq32_v6
            refine lv_aload_n hx hb dX6_expression_99 rfl (lv_at hl 3 rfl) ?_
            refine lv_iload_n hx hb dX6_expression_100 rfl (lv_at hl 4 rfl) ?_
            refine lv_iconst (v := 1) hx hb dX6_expression_101 (by decide) ?_
            refine lv_iadd hx hb dX6_expression_102 ?_
            refine tI (y := 4) (by decide) ?_
            refine lv_iload_n hx hb dX6_expression_103 rfl (lv_at hl 5 rfl) ?_
            refine csVi (n := 2) (rest := []) hx hb hml hown hts hE hP hD hS hA hF hT (sX_X6_expression_5 NF l dC dI cy x0 x  v12 f13 hIv12 ) k_740 k_742 k_15 k_103 k_743 (by decide +kernel) ⟨Nat.le_of_ble_eq_true rfl, Nat.le_of_ble_eq_true rfl⟩ 3 6 rfl rfl (rfl) hl.1 rfl (Nat.le_of_ble_eq_true rfl) dX6_expression_104 (fun r14 u H locs hw hP hD hS => ?_)
            obtain ⟨hG15, hw⟩ := hw
            obtain ⟨v16, f17⟩ := u
            obtain ⟨kV_v16, kF_f17, hIv16, hk0_v16, hk1_v16, hk9_v16, hk10_v16, hk31_v16, hk32_v16, hw⟩ := hw
            have hM_v16 : KV [2, 3, 4, 5, 7, 8, 16, 17] v16 v := KV.tr kV_v16 hM_v12 rfl
            have hA_f17 : KF [3, 4] f17 f := KF.tr kF_f17 hA_f13 rfl
            have hP : va_P (dC, dI) vwCl (XW cy x0 x v16 f17) H := hP
            have hD : va_D A (XW cy x0 x v16 f17) := hD
            have hq0_v16 : v16 0 = (v 0) := hk0_v16.trans hq0_v12
            have hq1_v16 : v16 1 = (v 1) := hk1_v16.trans hq1_v12
            have hq9_v16 : v16 9 = (v 9) := hk9_v16.trans hq9_v12
            have hq10_v16 : v16 10 = (v 10) := hk10_v16.trans hq10_v12
            have hq31_v16 : v16 31 = (v 31) := hk31_v16.trans hq31_v12
            have hq32_v16 : v16 32 = (v 32) := hk32_v16.trans hq32_v12
            rcases hw with ⟨g18⟩ | ⟨g18⟩
            · skip
              subst g18
              refine lv_if_ne (tgt := 112) hx hb dX6_expression_107 (by decide) (fun _ => ?_) (fun c0 => absurd c0 (by decide))
              refine lv_aload_n hx hb dX6_expression_112 rfl (lv_at hl 3 rfl) ?_
              refine va_get (D := (dC, dI)) (ci := 6) (v := .ref (x 3)) (C := RX6) (T := TX6) (N := 7) hx hb hts inB_6 hown hE.1 hP 3 rfl rfl 1 (by decide) (hts _ k_266) (fun _ h9 => h9) rfl dX6_expression_113 ?_
              refine va_getN (D := (dC, dI)) (ci := 7) (v := .ref (x 6)) (C := RX7) (T := TX7) (N := 10) hx hb hts inB_7 hown hE.1 hP 4 rfl rfl 2 (by decide) (va_Nw.use rfl (hE.2 _ k_210)) (fun _ h9 => h9) rfl dX6_expression_116 ?_
              refine lv_iload hx hb dX6_expression_119 (lv_at hl 0 rfl) ?_
              refine lv_iconst (v := 0) hx hb dX6_expression_121 (by decide) ?_
              refine cbVv (n := 2) (rest := []) hx hb hml hown hts hE hP hD hS hA (sX_X4_add_1 NF l dC dI cy x0 x (v6 2) 0 v16 f17 hIv16 ) k_748 k_749 k_750 k_105 k_751 (by decide +kernel) ⟨Nat.le_of_ble_eq_true rfl, Nat.le_of_ble_eq_true rfl⟩ 7 4 rfl rfl (rfl) hl.1 rfl (Nat.le_of_ble_eq_true rfl) dX6_expression_122 (fun u H locs hw hP hD hS => ?_)
              obtain ⟨hG19, hw⟩ := hw
              obtain ⟨v20, f21⟩ := u
              obtain ⟨kV_v20, kF_f21, hIv20, hk0_v20, hk1_v20, hk7_v20, hk8_v20, hk9_v20, hk10_v20, hk31_v20, hk32_v20⟩ := hw
              have hM_v20 : KV [2, 3, 4, 5, 7, 8, 16, 17] v20 v := KV.tr kV_v20 hM_v16 rfl
              have hA_f21 : KF [3, 4] f21 f := KF.tr kF_f21 hA_f17 rfl
              have hP : va_P (dC, dI) vwCl (XW cy x0 x v20 f21) H := hP
              have hD : va_D A (XW cy x0 x v20 f21) := hD
              have hq0_v20 : v20 0 = (v 0) := hk0_v20.trans hq0_v16
              have hq1_v20 : v20 1 = (v 1) := hk1_v20.trans hq1_v16
              have hq7_v20 : v20 7 = (v16 7) := hk7_v20
              have hq8_v20 : v20 8 = (v16 8) := hk8_v20
              have hq9_v20 : v20 9 = (v 9) := hk9_v20.trans hq9_v16
              have hq10_v20 : v20 10 = (v 10) := hk10_v20.trans hq10_v16
              have hq31_v20 : v20 31 = (v 31) := hk31_v20.trans hq31_v16
              have hq32_v20 : v20 32 = (v 32) := hk32_v20.trans hq32_v16
              obtain ⟨t22, et22⟩ : ∃ y : Int32, y = l4_6 + 1 := ⟨_, rfl⟩
              have rg23 := fb_rng l4_6
              have zt22 : t22.toInt = l4_6.toInt + 1 := by rw [et22]; exact add_i rfl (by decide) (by omega) (by omega)
              refine lv_iinc (v := t22) (lv' := [(4, .int t22), (5, .int (v6 2)), (3, .int 1600), (0, .ref (x 2)), (1, .int 3), (2, .int 0)]) hx hb dX6_expression_125 hl (k := 1) rfl (by rw [et22]; rfl) (by decide) rfl (fun ls hl => ?_)
              refine lv_goto (tgt := 63) hx hb dX6_expression_128 (by decide) ?_
              have rg24 := fb_rng t22
              exact ih6 t22 v20 f21 hIv20 hq0_v20 hq1_v20 hq9_v20 hq10_v20 hq31_v20 hq32_v20 ((gsX_X6_expression_4_q1 c7 hG9 hG11 hG15 hG19 et22).symm.trans hT6) ⟨show (0 : Int) ≤ t22.toInt by omega, show t22.toInt ≤ (2147483647 : Int) by omega⟩ hM_v20 hA_f21 (by show (2147483647 - t22.toInt).toNat < n6; omega) _ _ _ hP hD hS (lv_sub hl [0, 2, 3, 4, 5] rfl)
            · skip
              subst g18
              refine lv_if_ne (tgt := 112) hx hb dX6_expression_107 (by decide) (fun c0 => absurd (by decide) c0) (fun _ => ?_)
              refine lv_iconst (v := 0) hx hb dX6_expression_110 (by decide) ?_
              exact ret 0 (v16, f17) _ _ _ _ _ _ rfl ⟨(hT6.symm.trans (gsX_X6_expression_4_q2 c7 hG9 hG11 hG15)), hM_v16, hA_f17, hIv16, (hk0_v16.trans (hk0_v12.trans hq0_v6)), (hk1_v16.trans (hk1_v12.trans hq1_v6)), (hk9_v16.trans (hk9_v12.trans hq9_v6)), (hk10_v16.trans (hk10_v12.trans hq10_v6)), (hk31_v16.trans (hk31_v12.trans hq31_v6)), (hk32_v16.trans (hk32_v12.trans hq32_v6)), (Or.inr rfl)⟩ hP hD hS dX6_expression_111 (Nat.le_refl _) (Nat.le_refl _)
          · skip
            subst g10
            refine lv_if_eq (tgt := 131) hx hb dX6_expression_80 (by decide) (fun _ => ?_) (fun c0 => absurd (by decide) c0)
            refine lv_iconst (v := 1) hx hb dX6_expression_131 (by decide) ?_
            exact ret 1 (v6, f6) _ _ _ _ _ _ rfl ⟨(hT6.symm.trans (gsX_X6_expression_4_q3 c7 hG9)), hM_v6, hA_f6, hIv6, hq0_v6, hq1_v6, hq9_v6, hq10_v6, hq31_v6, hq32_v6, (Or.inl rfl)⟩ hP hD hS dX6_expression_132 (Nat.le_refl _) (Nat.le_refl _)
    exact lp6 (4294967296 + NF) 0 v3 f4 hIv3 hq0_v3 hq1_v3 hq9_v3 hq10_v3 hq31_v3 hq32_v3 (gsX_X6_expression_4_q4 hG2).symm ⟨by decide, by decide⟩ hM_v3 hA_f4 (by have q4 : (0 : Int32).toInt = 0 := (by decide); have q3 : (1600 : Int32).toInt = 1600 := (by decide); have q1 : (3 : Int32).toInt = 3 := (by decide); have q2 : (0 : Int32).toInt = 0 := (by decide); show (2147483647 - (0 : Int32).toInt).toNat < 4294967296 + NF; omega) _ _ _ hP hD hS (lv_sub hl [0, 1, 2, 3, 4] rfl)
  · skip
    subst g5
    refine lv_if_ne (tgt := 47) hx hb dX6_expression_42 (by decide) (fun c0 => absurd (by decide) c0) (fun _ => ?_)
    refine lv_iconst (v := 0) hx hb dX6_expression_45 (by decide) ?_
    exact ret 0 (v3, f4) _ _ _ _ _ _ rfl ⟨(gsX_X6_expression_4_q5 hG2), hM_v3, hA_f4, hIv3, hk0_v3, hk1_v3, hk9_v3, hk10_v3, hk31_v3, hk32_v3, (Or.inr rfl)⟩ hP hD hS dX6_expression_46 (Nat.le_refl _) (Nat.le_refl _)
set_option maxHeartbeats 4000000 in
set_option maxRecDepth 100000 in
theorem sX_X6_negation_8 (NF : Nat) (l : Launch) (dC : Nat → ClassId) (dI : Nat → Nat → Nat) (cy : Nat → ClassId) (x0 : Nat) (x : Nat → Nat)  (v : Nat → Int32) (f : Nat → Nat → Int32) (hIv : XI v)  : ctIS l (dC, dI) cy yX6_negation cX6_negation 2 .boolean 54 1352 0 0 ((Nat → Int32) × (Nat → Nat → Int32)) [.ref (x 2), .int 0] (XW cy x0 x v f) (fun r u => gsX_X6_negation_8 NF v f = (r, u) ∧ KV [2, 3, 4, 5, 7, 8, 16, 17] u.1 v ∧ KF [3, 4] u.2 f ∧ XI u.1 ∧ u.1 0 = v 0 ∧ u.1 1 = v 1 ∧ u.1 9 = v 9 ∧ u.1 10 = v 10 ∧ u.1 31 = v 31 ∧ u.1 32 = v 32 ∧ ((r = 1) ∨ (r = 0))) (fun u => XW cy x0 x u.1 u.2) := by
  refine ctIS_of (by decide) (Nat.le_of_ble_eq_true rfl) (fun p e s m below meth c A ls Q hx hb hml hts hown hE hF hT hP hD hA hl ret => ?_)
  have hM_v : KV [2, 3, 4, 5, 7, 8, 16, 17] v v := fun _ _ => rfl
  have hA_f : KF [3, 4] f f := fun _ _ => rfl
  have hown : s.vm.findClass RX6 = some m.cls := hown
  have hS : va_S A s.heap s.heap [] := va_S.rf
  have hl : lv_has ls 2 [(0, .ref (x 2)), (1, .int 0)] := hl
  refine lv_iload_n hx hb dX6_negation_0 rfl (lv_at hl 1 rfl) ?_
  refine lv_bipush (v := 7) hx hb dX6_negation_1 (by decide) ?_
  refine lv_icmp_lt (tgt := 11) hx hb dX6_negation_3 (by decide) (fun _ => ?_) (fun c0 => absurd (by decide) c0)
  refine lv_aload_n hx hb dX6_negation_11 rfl (lv_at hl 0 rfl) ?_
  refine va_get (D := (dC, dI)) (ci := 6) (v := .ref (x 0)) (C := RX6) (T := TX6) (N := 7) hx hb hts inB_6 hown hE.1 hP 3 rfl rfl 0 (by decide) (hts _ k_265) (fun _ h9 => h9) rfl dX6_negation_12 ?_
  refine csVv (n := 0) (rest := []) hx hb hml hown hts hE hP hD hS hA hF hT (sX_X9_advance_1 NF l dC dI cy x0 x  v f hIv ) k_699 k_559 k_560 k_102 k_561 (by decide +kernel) ⟨Nat.le_of_ble_eq_true rfl, Nat.le_of_ble_eq_true rfl⟩ 1 9 rfl rfl (rfl) hl.1 rfl (Nat.le_of_ble_eq_true rfl) dX6_negation_15 (fun u H locs hw hP hD hS => ?_)
  obtain ⟨hG1, hw⟩ := hw
  obtain ⟨v2, f3⟩ := u
  obtain ⟨kV_v2, kF_f3, hIv2, hk0_v2, hk1_v2, hk7_v2, hk8_v2, hk9_v2, hk10_v2, hk31_v2, hk32_v2⟩ := hw
  have hM_v2 : KV [2, 3, 4, 5, 7, 8, 16, 17] v2 v := KV.tr kV_v2 hM_v rfl
  have hA_f3 : KF [3, 4] f3 f := KF.tr kF_f3 hA_f rfl
  have hP : va_P (dC, dI) vwCl (XW cy x0 x v2 f3) H := hP
  have hD : va_D A (XW cy x0 x v2 f3) := hD
  have hq0_v2 : v2 0 = (v 0) := hk0_v2
  have hq1_v2 : v2 1 = (v 1) := hk1_v2
  have hq7_v2 : v2 7 = (v 7) := hk7_v2
  have hq8_v2 : v2 8 = (v 8) := hk8_v2
  have hq9_v2 : v2 9 = (v 9) := hk9_v2
  have hq10_v2 : v2 10 = (v 10) := hk10_v2
  have hq31_v2 : v2 31 = (v 31) := hk31_v2
  have hq32_v2 : v2 32 = (v 32) := hk32_v2
  refine lv_aload_n hx hb dX6_negation_18 rfl (lv_at hl 0 rfl) ?_
  refine lv_iconst (v := 2) hx hb dX6_negation_19 (by decide) ?_
  refine lv_iload_n hx hb dX6_negation_20 rfl (lv_at hl 1 rfl) ?_
  refine lv_iconst (v := 1) hx hb dX6_negation_21 (by decide) ?_
  refine lv_iadd hx hb dX6_negation_22 ?_
  refine tI (y := 1) (by decide) ?_
  refine csVi (n := 2) (rest := []) hx hb hml hown hts hE hP hD hS hA hF hT (sX_X6_expression_9 NF l dC dI cy x0 x  v2 f3 hIv2 ) k_740 k_742 k_15 k_103 k_743 (by decide +kernel) ⟨Nat.le_of_ble_eq_true rfl, Nat.le_of_ble_eq_true rfl⟩ 3 6 rfl rfl (rfl) hl.1 rfl (Nat.le_of_ble_eq_true rfl) dX6_negation_23 (fun r4 u H locs hw hP hD hS => ?_)
  obtain ⟨hG5, hw⟩ := hw
  obtain ⟨v6, f7⟩ := u
  obtain ⟨kV_v6, kF_f7, hIv6, hk0_v6, hk1_v6, hk9_v6, hk10_v6, hk31_v6, hk32_v6, hw⟩ := hw
  have hM_v6 : KV [2, 3, 4, 5, 7, 8, 16, 17] v6 v := KV.tr kV_v6 hM_v2 rfl
  have hA_f7 : KF [3, 4] f7 f := KF.tr kF_f7 hA_f3 rfl
  have hP : va_P (dC, dI) vwCl (XW cy x0 x v6 f7) H := hP
  have hD : va_D A (XW cy x0 x v6 f7) := hD
  have hq0_v6 : v6 0 = (v 0) := hk0_v6.trans hq0_v2
  have hq1_v6 : v6 1 = (v 1) := hk1_v6.trans hq1_v2
  have hq9_v6 : v6 9 = (v 9) := hk9_v6.trans hq9_v2
  have hq10_v6 : v6 10 = (v 10) := hk10_v6.trans hq10_v2
  have hq31_v6 : v6 31 = (v 31) := hk31_v6.trans hq31_v2
  have hq32_v6 : v6 32 = (v 32) := hk32_v6.trans hq32_v2
  rcases hw with ⟨g8⟩ | ⟨g8⟩
  · skip
    subst g8
    refine lv_if_ne (tgt := 31) hx hb dX6_negation_26 (by decide) (fun _ => ?_) (fun c0 => absurd c0 (by decide))
    refine lv_aload_n hx hb dX6_negation_31 rfl (lv_at hl 0 rfl) ?_
    refine va_get (D := (dC, dI)) (ci := 6) (v := .ref (x 3)) (C := RX6) (T := TX6) (N := 7) hx hb hts inB_6 hown hE.1 hP 3 rfl rfl 1 (by decide) (hts _ k_266) (fun _ h9 => h9) rfl dX6_negation_32 ?_
    refine va_getN (D := (dC, dI)) (ci := 7) (v := .ref (x 6)) (C := RX7) (T := TX7) (N := 10) hx hb hts inB_7 hown hE.1 hP 4 rfl rfl 2 (by decide) (va_Nw.use rfl (hE.2 _ k_210)) (fun _ h9 => h9) rfl dX6_negation_35 ?_
    refine lv_bipush (v := 115) hx hb dX6_negation_38 (by decide) ?_
    refine lv_iconst (v := 0) hx hb dX6_negation_40 (by decide) ?_
    refine cbVv (n := 2) (rest := []) hx hb hml hown hts hE hP hD hS hA (sX_X4_add_1 NF l dC dI cy x0 x 115 0 v6 f7 hIv6 ) k_748 k_749 k_750 k_105 k_751 (by decide +kernel) ⟨Nat.le_of_ble_eq_true rfl, Nat.le_of_ble_eq_true rfl⟩ 7 4 rfl rfl (rfl) hl.1 rfl (Nat.le_of_ble_eq_true rfl) dX6_negation_41 (fun u H locs hw hP hD hS => ?_)
    obtain ⟨hG9, hw⟩ := hw
    obtain ⟨v10, f11⟩ := u
    obtain ⟨kV_v10, kF_f11, hIv10, hk0_v10, hk1_v10, hk7_v10, hk8_v10, hk9_v10, hk10_v10, hk31_v10, hk32_v10⟩ := hw
    have hM_v10 : KV [2, 3, 4, 5, 7, 8, 16, 17] v10 v := KV.tr kV_v10 hM_v6 rfl
    have hA_f11 : KF [3, 4] f11 f := KF.tr kF_f11 hA_f7 rfl
    have hP : va_P (dC, dI) vwCl (XW cy x0 x v10 f11) H := hP
    have hD : va_D A (XW cy x0 x v10 f11) := hD
    have hq0_v10 : v10 0 = (v 0) := hk0_v10.trans hq0_v6
    have hq1_v10 : v10 1 = (v 1) := hk1_v10.trans hq1_v6
    have hq7_v10 : v10 7 = (v6 7) := hk7_v10
    have hq8_v10 : v10 8 = (v6 8) := hk8_v10
    have hq9_v10 : v10 9 = (v 9) := hk9_v10.trans hq9_v6
    have hq10_v10 : v10 10 = (v 10) := hk10_v10.trans hq10_v6
    have hq31_v10 : v10 31 = (v 31) := hk31_v10.trans hq31_v6
    have hq32_v10 : v10 32 = (v 32) := hk32_v10.trans hq32_v6
    refine lv_iconst (v := 1) hx hb dX6_negation_44 (by decide) ?_
    exact ret 1 (v10, f11) _ _ _ _ _ _ rfl ⟨(gsX_X6_negation_8_q0 hG1 hG5 hG9), hM_v10, hA_f11, hIv10, (hk0_v10.trans (hk0_v6.trans hk0_v2)), (hk1_v10.trans (hk1_v6.trans hk1_v2)), (hk9_v10.trans (hk9_v6.trans hk9_v2)), (hk10_v10.trans (hk10_v6.trans hk10_v2)), (hk31_v10.trans (hk31_v6.trans hk31_v2)), (hk32_v10.trans (hk32_v6.trans hk32_v2)), (Or.inl rfl)⟩ hP hD hS dX6_negation_45 (Nat.le_refl _) (Nat.le_refl _)
  · skip
    subst g8
    refine lv_if_ne (tgt := 31) hx hb dX6_negation_26 (by decide) (fun c0 => absurd (by decide) c0) (fun _ => ?_)
    refine lv_iconst (v := 0) hx hb dX6_negation_29 (by decide) ?_
    exact ret 0 (v6, f7) _ _ _ _ _ _ rfl ⟨(gsX_X6_negation_8_q1 hG1 hG5), hM_v6, hA_f7, hIv6, (hk0_v6.trans hk0_v2), (hk1_v6.trans hk1_v2), (hk9_v6.trans hk9_v2), (hk10_v6.trans hk10_v2), (hk31_v6.trans hk31_v2), (hk32_v6.trans hk32_v2), (Or.inr rfl)⟩ hP hD hS dX6_negation_30 (Nat.le_refl _) (Nat.le_refl _)
set_option maxHeartbeats 4000000 in
set_option maxRecDepth 100000 in
theorem sX_X6_expression_3 (NF : Nat) (l : Launch) (dC : Nat → ClassId) (dI : Nat → Nat → Nat) (cy : Nat → ClassId) (x0 : Nat) (x : Nat → Nat)  (v : Nat → Int32) (f : Nat → Nat → Int32) (hIv : XI v)  : ctIS l (dC, dI) cy yX6_expression cX6_expression 6 .boolean 60 1500 0 0 ((Nat → Int32) × (Nat → Nat → Int32)) [.ref (x 2), .int 2, .int 0] (XW cy x0 x v f) (fun r u => gsX_X6_expression_3 NF v f = (r, u) ∧ KV [2, 3, 4, 5, 7, 8, 16, 17] u.1 v ∧ KF [3, 4] u.2 f ∧ XI u.1 ∧ u.1 0 = v 0 ∧ u.1 1 = v 1 ∧ u.1 9 = v 9 ∧ u.1 10 = v 10 ∧ u.1 31 = v 31 ∧ u.1 32 = v 32 ∧ ((r = 1) ∨ (r = 0))) (fun u => XW cy x0 x u.1 u.2) := by
  refine ctIS_of (by decide) (Nat.le_of_ble_eq_true rfl) (fun p e s m below meth c A ls Q hx hb hml hts hown hE hF hT hP hD hA hl ret => ?_)
  have hM_v : KV [2, 3, 4, 5, 7, 8, 16, 17] v v := fun _ _ => rfl
  have hA_f : KF [3, 4] f f := fun _ _ => rfl
  have hown : s.vm.findClass RX6 = some m.cls := hown
  have hS : va_S A s.heap s.heap [] := va_S.rf
  have hl : lv_has ls 6 [(0, .ref (x 2)), (1, .int 2), (2, .int 0)] := hl
  refine lv_iload_n hx hb dX6_expression_0 rfl (lv_at hl 1 rfl) ?_
  refine lv_iconst (v := 5) hx hb dX6_expression_1 (by decide) ?_
  refine lv_icmp_lt (tgt := 11) hx hb dX6_expression_2 (by decide) (fun _ => ?_) (fun c0 => absurd (by decide) c0)
  refine lv_iload_n hx hb dX6_expression_11 rfl (lv_at hl 1 rfl) ?_
  refine lv_iconst (v := 2) hx hb dX6_expression_12 (by decide) ?_
  refine lv_icmp_ne (tgt := 34) hx hb dX6_expression_13 (by decide) (fun c0 => absurd (by decide) c0) (fun _ => ?_)
  refine lv_aload_n hx hb dX6_expression_16 rfl (lv_at hl 0 rfl) ?_
  refine va_get (D := (dC, dI)) (ci := 6) (v := .ref (x 0)) (C := RX6) (T := TX6) (N := 7) hx hb hts inB_6 hown hE.1 hP 3 rfl rfl 0 (by decide) (hts _ k_265) (fun _ h9 => h9) rfl dX6_expression_17 ?_
  refine va_getN (D := (dC, dI)) (ci := 9) (v := .int (v 2)) (C := RX9) (T := TX9) (N := 6) hx hb hts inB_9 hown hE.1 hP 1 rfl rfl 2 (by decide) (va_Nw.use rfl (hE.2 _ k_139)) (fun _ h9 => h9) rfl dX6_expression_20 ?_
  refine lv_bipush (v := 115) hx hb dX6_expression_23 (by decide) ?_
  refine lv_icmp_ne (tgt := 34) hx hb dX6_expression_25 (by decide) (fun c1 => ?_) (fun c1 => ?_)
  · skip
    have zc1 : ¬ ((v 2).toInt = 115) := by rw [fa_eq, show (115 : Int32).toInt = 115 from by decide] at c1; exact c1
    refine lv_aload_n hx hb dX6_expression_34 rfl (lv_at hl 0 rfl) ?_
    refine lv_iload_n hx hb dX6_expression_35 rfl (lv_at hl 1 rfl) ?_
    refine lv_iconst (v := 1) hx hb dX6_expression_36 (by decide) ?_
    refine lv_iadd hx hb dX6_expression_37 ?_
    refine tI (y := 3) (by decide) ?_
    refine lv_iload_n hx hb dX6_expression_38 rfl (lv_at hl 2 rfl) ?_
    refine csVi (n := 2) (rest := []) hx hb hml hown hts hE hP hD hS hA hF hT (sX_X6_expression_4 NF l dC dI cy x0 x  v f hIv ) k_740 k_742 k_15 k_103 k_743 (by decide +kernel) ⟨Nat.le_of_ble_eq_true rfl, Nat.le_of_ble_eq_true rfl⟩ 3 6 rfl rfl (rfl) hl.1 rfl (Nat.le_of_ble_eq_true rfl) dX6_expression_39 (fun r2 u H locs hw hP hD hS => ?_)
    obtain ⟨hG3, hw⟩ := hw
    obtain ⟨v4, f5⟩ := u
    obtain ⟨kV_v4, kF_f5, hIv4, hk0_v4, hk1_v4, hk9_v4, hk10_v4, hk31_v4, hk32_v4, hw⟩ := hw
    have hM_v4 : KV [2, 3, 4, 5, 7, 8, 16, 17] v4 v := KV.tr kV_v4 hM_v rfl
    have hA_f5 : KF [3, 4] f5 f := KF.tr kF_f5 hA_f rfl
    have hP : va_P (dC, dI) vwCl (XW cy x0 x v4 f5) H := hP
    have hD : va_D A (XW cy x0 x v4 f5) := hD
    have hq0_v4 : v4 0 = (v 0) := hk0_v4
    have hq1_v4 : v4 1 = (v 1) := hk1_v4
    have hq9_v4 : v4 9 = (v 9) := hk9_v4
    have hq10_v4 : v4 10 = (v 10) := hk10_v4
    have hq31_v4 : v4 31 = (v 31) := hk31_v4
    have hq32_v4 : v4 32 = (v 32) := hk32_v4
    rcases hw with ⟨g6⟩ | ⟨g6⟩
    · skip
      subst g6
      refine lv_if_ne (tgt := 47) hx hb dX6_expression_42 (by decide) (fun _ => ?_) (fun c0 => absurd c0 (by decide))
      refine lv_iload_n hx hb dX6_expression_47 rfl (lv_at hl 1 rfl) ?_
      refine lv_iconst (v := 2) hx hb dX6_expression_48 (by decide) ?_
      refine lv_icmp_ne (tgt := 56) hx hb dX6_expression_49 (by decide) (fun c0 => absurd (by decide) c0) (fun _ => ?_)
      refine lv_iconst (v := 1) hx hb dX6_expression_52 (by decide) ?_
      refine lv_goto (tgt := 59) hx hb dX6_expression_53 (by decide) ?_
      refine lv_istore_n (lv' := [(3, .int 1), (0, .ref (x 2)), (1, .int 2), (2, .int 0)]) hx hb dX6_expression_59 rfl hl (by decide) rfl (fun ls hl => ?_)
      refine lv_iconst (v := 0) hx hb dX6_expression_60 (by decide) ?_
      refine lv_istore (lv' := [(4, .int 0), (3, .int 1), (0, .ref (x 2)), (1, .int 2), (2, .int 0)]) hx hb dX6_expression_61 hl (by decide) rfl (fun ls hl => ?_)
      have lp7 : ∀ (n7 : Nat) (l4_7 : Int32) (v7 : Nat → Int32) (f7 : Nat → Nat → Int32), XI v7 → v7 0 = (v 0) → v7 1 = (v 1) → v7 9 = (v 9) → v7 10 = (v 10) → v7 31 = (v 31) → v7 32 = (v 32) → gsX_X6_expression_3_L7 NF n7 l4_7 v7 f7 = (gsX_X6_expression_3 NF v f) → ((0 : Int) ≤ l4_7.toInt ∧ l4_7.toInt ≤ 2147483647) → KV [2, 3, 4, 5, 7, 8, 16, 17] v7 v → KF [3, 4] f7 f → (2147483647 - l4_7.toInt).toNat < n7 → ∀ (H : Heap) (locs : List Loc) (ls : Array Slot), va_P (dC, dI) vwCl (XW cy x0 x v7 f7) H → va_D A (XW cy x0 x v7 f7) → va_S A s.heap H locs → lv_has ls 6 [(4, .int l4_7), (3, .int 1), (0, .ref (x 2)), (1, .int 2), (2, .int 0)] → W p l e { frames := 60, cells := 0, slots := 0, locals := 1500 } s m ([.ref (x 2), .int 2, .int 0] : List Value).toArray below meth c H locs 0 0 Q (F0 m 63 ls []) := by
        intro n7
        induction n7 with
        | zero => intro l4_7 v7 f7 hIv7 hq0_v7 hq1_v7 hq9_v7 hq10_v7 hq31_v7 hq32_v7 hT7 hr4_7 hM_v7 hA_f7 hm; exact absurd hm (Nat.not_lt_zero _)
        | succ n7 ih7 =>
          intro l4_7 v7 f7 hIv7 hq0_v7 hq1_v7 hq9_v7 hq10_v7 hq31_v7 hq32_v7 hT7 hr4_7 hM_v7 hA_f7 hm7 H locs ls hP hD hS hl
          refine lv_iload hx hb dX6_expression_63 (lv_at hl 0 rfl) ?_
          refine lv_iload_n hx hb dX6_expression_65 rfl (lv_at hl 1 rfl) ?_
          refine lv_icmp_ge (tgt := 131) hx hb dX6_expression_66 (by decide) (fun c8 => ?_) (fun c8 => ?_)
          · skip
            have zc8 : 1 ≤ l4_7.toInt := by rw [fa_le, show (1 : Int32).toInt = 1 from by decide] at c8; exact c8
            refine lv_iconst (v := 1) hx hb dX6_expression_131 (by decide) ?_
            exact ret 1 (v7, f7) _ _ _ _ _ _ rfl ⟨(hT7.symm.trans (gsX_X6_expression_3_q0 c8)), hM_v7, hA_f7, hIv7, hq0_v7, hq1_v7, hq9_v7, hq10_v7, hq31_v7, hq32_v7, (Or.inl rfl)⟩ hP hD hS dX6_expression_132 (Nat.le_refl _) (Nat.le_refl _)
          · skip
            have zc8 : ¬ (1 ≤ l4_7.toInt) := by rw [fa_le, show (1 : Int32).toInt = 1 from by decide] at c8; exact c8
            refine lv_iload_n hx hb dX6_expression_69 rfl (lv_at hl 3 rfl) ?_
            refine lv_aload_n hx hb dX6_expression_70 rfl (lv_at hl 2 rfl) ?_
            refine va_get (D := (dC, dI)) (ci := 6) (v := .ref (x 0)) (C := RX6) (T := TX6) (N := 7) hx hb hts inB_6 hown hE.1 hP 3 rfl rfl 0 (by decide) (hts _ k_265) (fun _ h9 => h9) rfl dX6_expression_71 ?_
            refine va_getN (D := (dC, dI)) (ci := 9) (v := .int (v7 2)) (C := RX9) (T := TX9) (N := 6) hx hb hts inB_9 hown hE.1 hP 1 rfl rfl 2 (by decide) (va_Nw.use rfl (hE.2 _ k_139)) (fun _ h9 => h9) rfl dX6_expression_74 ?_
            refine cbSi (n := 2) (rest := []) hx hb hml hown hts hE hP hD hS hA (sX_X6_joins_1 NF l dC dI cy x0 x 2 (v7 2) v7 f7 hIv7 ) k_756 k_757 k_103 k_758 (by decide +kernel) ⟨Nat.le_of_ble_eq_true rfl, Nat.le_of_ble_eq_true rfl⟩ (rfl) hl.1 rfl (Nat.le_of_ble_eq_true rfl) dX6_expression_77 (fun r9 u H locs hw hP hD hS => ?_)
            obtain ⟨hG10, hw⟩ := hw
            rcases hw with ⟨g11⟩ | ⟨g11⟩
            · skip
              subst g11
              refine lv_if_eq (tgt := 131) hx hb dX6_expression_80 (by decide) (fun c0 => absurd c0 (by decide)) (fun _ => ?_)
              refine lv_aload_n hx hb dX6_expression_83 rfl (lv_at hl 2 rfl) ?_
              refine va_get (D := (dC, dI)) (ci := 6) (v := .ref (x 0)) (C := RX6) (T := TX6) (N := 7) hx hb hts inB_6 hown hE.1 hP 3 rfl rfl 0 (by decide) (hts _ k_265) (fun _ h9 => h9) rfl dX6_expression_84 ?_
              refine va_getN (D := (dC, dI)) (ci := 9) (v := .int (v7 2)) (C := RX9) (T := TX9) (N := 6) hx hb hts inB_9 hown hE.1 hP 1 rfl rfl 2 (by decide) (va_Nw.use rfl (hE.2 _ k_139)) (fun _ h9 => h9) rfl dX6_expression_87 ?_
              refine lv_istore (lv' := [(5, .int (v7 2)), (4, .int l4_7), (3, .int 1), (0, .ref (x 2)), (1, .int 2), (2, .int 0)]) hx hb dX6_expression_90 hl (by decide) rfl (fun ls hl => ?_)
              refine lv_aload_n hx hb dX6_expression_92 rfl (lv_at hl 3 rfl) ?_
              refine va_get (D := (dC, dI)) (ci := 6) (v := .ref (x 0)) (C := RX6) (T := TX6) (N := 7) hx hb hts inB_6 hown hE.1 hP 3 rfl rfl 0 (by decide) (hts _ k_265) (fun _ h9 => h9) rfl dX6_expression_93 ?_
              refine csVv (n := 0) (rest := []) hx hb hml hown hts hE hP hD hS hA hF hT (sX_X9_advance_1 NF l dC dI cy x0 x  v7 f7 hIv7 ) k_699 k_559 k_560 k_102 k_561 (by decide +kernel) ⟨Nat.le_of_ble_eq_true rfl, Nat.le_of_ble_eq_true rfl⟩ 1 9 rfl rfl (rfl) hl.1 rfl (Nat.le_of_ble_eq_true rfl) dX6_expression_96 (fun u H locs hw hP hD hS => ?_)
              obtain ⟨hG12, hw⟩ := hw
              obtain ⟨v13, f14⟩ := u
              obtain ⟨kV_v13, kF_f14, hIv13, hk0_v13, hk1_v13, hk7_v13, hk8_v13, hk9_v13, hk10_v13, hk31_v13, hk32_v13⟩ := hw
              have hM_v13 : KV [2, 3, 4, 5, 7, 8, 16, 17] v13 v := KV.tr kV_v13 hM_v7 rfl
              have hA_f14 : KF [3, 4] f14 f := KF.tr kF_f14 hA_f7 rfl
              have hP : va_P (dC, dI) vwCl (XW cy x0 x v13 f14) H := hP
              have hD : va_D A (XW cy x0 x v13 f14) := hD
              have hq0_v13 : v13 0 = (v 0) := hk0_v13.trans hq0_v7
              have hq1_v13 : v13 1 = (v 1) := hk1_v13.trans hq1_v7
              have hq7_v13 : v13 7 = (v7 7) := hk7_v13
              have hq8_v13 : v13 8 = (v7 8) := hk8_v13
              have hq9_v13 : v13 9 = (v 9) := hk9_v13.trans hq9_v7
              have hq10_v13 : v13 10 = (v 10) := hk10_v13.trans hq10_v7
              have hq31_v13 : v13 31 = (v 31) := hk31_v13.trans hq31_v7
              have hq32_v13 : v13 32 = (v 32) := hk32_v13.trans hq32_v7
              refine lv_aload_n hx hb dX6_expression_99 rfl (lv_at hl 3 rfl) ?_
              refine lv_iload_n hx hb dX6_expression_100 rfl (lv_at hl 4 rfl) ?_
              refine lv_iconst (v := 1) hx hb dX6_expression_101 (by decide) ?_
              refine lv_iadd hx hb dX6_expression_102 ?_
              refine tI (y := 3) (by decide) ?_
              refine lv_iload_n hx hb dX6_expression_103 rfl (lv_at hl 5 rfl) ?_
              refine csVi (n := 2) (rest := []) hx hb hml hown hts hE hP hD hS hA hF hT (sX_X6_expression_4 NF l dC dI cy x0 x  v13 f14 hIv13 ) k_740 k_742 k_15 k_103 k_743 (by decide +kernel) ⟨Nat.le_of_ble_eq_true rfl, Nat.le_of_ble_eq_true rfl⟩ 3 6 rfl rfl (rfl) hl.1 rfl (Nat.le_of_ble_eq_true rfl) dX6_expression_104 (fun r15 u H locs hw hP hD hS => ?_)
              obtain ⟨hG16, hw⟩ := hw
              obtain ⟨v17, f18⟩ := u
              obtain ⟨kV_v17, kF_f18, hIv17, hk0_v17, hk1_v17, hk9_v17, hk10_v17, hk31_v17, hk32_v17, hw⟩ := hw
              have hM_v17 : KV [2, 3, 4, 5, 7, 8, 16, 17] v17 v := KV.tr kV_v17 hM_v13 rfl
              have hA_f18 : KF [3, 4] f18 f := KF.tr kF_f18 hA_f14 rfl
              have hP : va_P (dC, dI) vwCl (XW cy x0 x v17 f18) H := hP
              have hD : va_D A (XW cy x0 x v17 f18) := hD
              have hq0_v17 : v17 0 = (v 0) := hk0_v17.trans hq0_v13
              have hq1_v17 : v17 1 = (v 1) := hk1_v17.trans hq1_v13
              have hq9_v17 : v17 9 = (v 9) := hk9_v17.trans hq9_v13
              have hq10_v17 : v17 10 = (v 10) := hk10_v17.trans hq10_v13
              have hq31_v17 : v17 31 = (v 31) := hk31_v17.trans hq31_v13
              have hq32_v17 : v17 32 = (v 32) := hk32_v17.trans hq32_v13
              rcases hw with ⟨g19⟩ | ⟨g19⟩
              · skip
                subst g19
                refine lv_if_ne (tgt := 112) hx hb dX6_expression_107 (by decide) (fun _ => ?_) (fun c0 => absurd c0 (by decide))
                refine lv_aload_n hx hb dX6_expression_112 rfl (lv_at hl 3 rfl) ?_
                refine va_get (D := (dC, dI)) (ci := 6) (v := .ref (x 3)) (C := RX6) (T := TX6) (N := 7) hx hb hts inB_6 hown hE.1 hP 3 rfl rfl 1 (by decide) (hts _ k_266) (fun _ h9 => h9) rfl dX6_expression_113 ?_
                refine va_getN (D := (dC, dI)) (ci := 7) (v := .ref (x 6)) (C := RX7) (T := TX7) (N := 10) hx hb hts inB_7 hown hE.1 hP 4 rfl rfl 2 (by decide) (va_Nw.use rfl (hE.2 _ k_210)) (fun _ h9 => h9) rfl dX6_expression_116 ?_
                refine lv_iload hx hb dX6_expression_119 (lv_at hl 0 rfl) ?_
                refine lv_iconst (v := 0) hx hb dX6_expression_121 (by decide) ?_
                refine cbVv (n := 2) (rest := []) hx hb hml hown hts hE hP hD hS hA (sX_X4_add_1 NF l dC dI cy x0 x (v7 2) 0 v17 f18 hIv17 ) k_748 k_749 k_750 k_105 k_751 (by decide +kernel) ⟨Nat.le_of_ble_eq_true rfl, Nat.le_of_ble_eq_true rfl⟩ 7 4 rfl rfl (rfl) hl.1 rfl (Nat.le_of_ble_eq_true rfl) dX6_expression_122 (fun u H locs hw hP hD hS => ?_)
                obtain ⟨hG20, hw⟩ := hw
                obtain ⟨v21, f22⟩ := u
                obtain ⟨kV_v21, kF_f22, hIv21, hk0_v21, hk1_v21, hk7_v21, hk8_v21, hk9_v21, hk10_v21, hk31_v21, hk32_v21⟩ := hw
                have hM_v21 : KV [2, 3, 4, 5, 7, 8, 16, 17] v21 v := KV.tr kV_v21 hM_v17 rfl
                have hA_f22 : KF [3, 4] f22 f := KF.tr kF_f22 hA_f18 rfl
                have hP : va_P (dC, dI) vwCl (XW cy x0 x v21 f22) H := hP
                have hD : va_D A (XW cy x0 x v21 f22) := hD
                have hq0_v21 : v21 0 = (v 0) := hk0_v21.trans hq0_v17
                have hq1_v21 : v21 1 = (v 1) := hk1_v21.trans hq1_v17
                have hq7_v21 : v21 7 = (v17 7) := hk7_v21
                have hq8_v21 : v21 8 = (v17 8) := hk8_v21
                have hq9_v21 : v21 9 = (v 9) := hk9_v21.trans hq9_v17
                have hq10_v21 : v21 10 = (v 10) := hk10_v21.trans hq10_v17
                have hq31_v21 : v21 31 = (v 31) := hk31_v21.trans hq31_v17
                have hq32_v21 : v21 32 = (v 32) := hk32_v21.trans hq32_v17
                obtain ⟨t23, et23⟩ : ∃ y : Int32, y = l4_7 + 1 := ⟨_, rfl⟩
                have rg24 := fb_rng l4_7
                have zt23 : t23.toInt = l4_7.toInt + 1 := by rw [et23]; exact add_i rfl (by decide) (by omega) (by omega)
                refine lv_iinc (v := t23) (lv' := [(4, .int t23), (5, .int (v7 2)), (3, .int 1), (0, .ref (x 2)), (1, .int 2), (2, .int 0)]) hx hb dX6_expression_125 hl (k := 1) rfl (by rw [et23]; rfl) (by decide) rfl (fun ls hl => ?_)
                refine lv_goto (tgt := 63) hx hb dX6_expression_128 (by decide) ?_
                have rg25 := fb_rng t23
                exact ih7 t23 v21 f22 hIv21 hq0_v21 hq1_v21 hq9_v21 hq10_v21 hq31_v21 hq32_v21 ((gsX_X6_expression_3_q1 c8 hG10 hG12 hG16 hG20 et23).symm.trans hT7) ⟨show (0 : Int) ≤ t23.toInt by omega, show t23.toInt ≤ (2147483647 : Int) by omega⟩ hM_v21 hA_f22 (by show (2147483647 - t23.toInt).toNat < n7; omega) _ _ _ hP hD hS (lv_sub hl [0, 2, 3, 4, 5] rfl)
              · skip
                subst g19
                refine lv_if_ne (tgt := 112) hx hb dX6_expression_107 (by decide) (fun c0 => absurd (by decide) c0) (fun _ => ?_)
                refine lv_iconst (v := 0) hx hb dX6_expression_110 (by decide) ?_
                exact ret 0 (v17, f18) _ _ _ _ _ _ rfl ⟨(hT7.symm.trans (gsX_X6_expression_3_q2 c8 hG10 hG12 hG16)), hM_v17, hA_f18, hIv17, (hk0_v17.trans (hk0_v13.trans hq0_v7)), (hk1_v17.trans (hk1_v13.trans hq1_v7)), (hk9_v17.trans (hk9_v13.trans hq9_v7)), (hk10_v17.trans (hk10_v13.trans hq10_v7)), (hk31_v17.trans (hk31_v13.trans hq31_v7)), (hk32_v17.trans (hk32_v13.trans hq32_v7)), (Or.inr rfl)⟩ hP hD hS dX6_expression_111 (Nat.le_refl _) (Nat.le_refl _)
            · skip
              subst g11
              refine lv_if_eq (tgt := 131) hx hb dX6_expression_80 (by decide) (fun _ => ?_) (fun c0 => absurd (by decide) c0)
              refine lv_iconst (v := 1) hx hb dX6_expression_131 (by decide) ?_
              exact ret 1 (v7, f7) _ _ _ _ _ _ rfl ⟨(hT7.symm.trans (gsX_X6_expression_3_q3 c8 hG10)), hM_v7, hA_f7, hIv7, hq0_v7, hq1_v7, hq9_v7, hq10_v7, hq31_v7, hq32_v7, (Or.inl rfl)⟩ hP hD hS dX6_expression_132 (Nat.le_refl _) (Nat.le_refl _)
      exact lp7 (4294967296 + NF) 0 v4 f5 hIv4 hq0_v4 hq1_v4 hq9_v4 hq10_v4 hq31_v4 hq32_v4 (gsX_X6_expression_3_q4 c1 hG3).symm ⟨by decide, by decide⟩ hM_v4 hA_f5 (by have q4 : (0 : Int32).toInt = 0 := (by decide); have q3 : (1 : Int32).toInt = 1 := (by decide); have q1 : (2 : Int32).toInt = 2 := (by decide); have q2 : (0 : Int32).toInt = 0 := (by decide); show (2147483647 - (0 : Int32).toInt).toNat < 4294967296 + NF; omega) _ _ _ hP hD hS (lv_sub hl [0, 1, 2, 3, 4] rfl)
    · skip
      subst g6
      refine lv_if_ne (tgt := 47) hx hb dX6_expression_42 (by decide) (fun c0 => absurd (by decide) c0) (fun _ => ?_)
      refine lv_iconst (v := 0) hx hb dX6_expression_45 (by decide) ?_
      exact ret 0 (v4, f5) _ _ _ _ _ _ rfl ⟨(gsX_X6_expression_3_q5 c1 hG3), hM_v4, hA_f5, hIv4, hk0_v4, hk1_v4, hk9_v4, hk10_v4, hk31_v4, hk32_v4, (Or.inr rfl)⟩ hP hD hS dX6_expression_46 (Nat.le_refl _) (Nat.le_refl _)
  · skip
    have zc1 : (v 2).toInt = 115 := by rw [fa_eq, show (115 : Int32).toInt = 115 from by decide] at c1; exact c1
    refine lv_aload_n hx hb dX6_expression_28 rfl (lv_at hl 0 rfl) ?_
    refine lv_iload_n hx hb dX6_expression_29 rfl (lv_at hl 2 rfl) ?_
    refine csVi (n := 1) (rest := []) hx hb hml hown hts hE hP hD hS hA hF hT (sX_X6_negation_8 NF l dC dI cy x0 x  v f hIv ) k_752 k_754 k_17 k_103 k_755 (by decide +kernel) ⟨Nat.le_of_ble_eq_true rfl, Nat.le_of_ble_eq_true rfl⟩ 3 6 rfl rfl (rfl) hl.1 rfl (Nat.le_of_ble_eq_true rfl) dX6_expression_30 (fun r26 u H locs hw hP hD hS => ?_)
    obtain ⟨hG27, hw⟩ := hw
    obtain ⟨v28, f29⟩ := u
    obtain ⟨kV_v28, kF_f29, hIv28, hk0_v28, hk1_v28, hk9_v28, hk10_v28, hk31_v28, hk32_v28, hw⟩ := hw
    have hM_v28 : KV [2, 3, 4, 5, 7, 8, 16, 17] v28 v := KV.tr kV_v28 hM_v rfl
    have hA_f29 : KF [3, 4] f29 f := KF.tr kF_f29 hA_f rfl
    have hP : va_P (dC, dI) vwCl (XW cy x0 x v28 f29) H := hP
    have hD : va_D A (XW cy x0 x v28 f29) := hD
    have hq0_v28 : v28 0 = (v 0) := hk0_v28
    have hq1_v28 : v28 1 = (v 1) := hk1_v28
    have hq9_v28 : v28 9 = (v 9) := hk9_v28
    have hq10_v28 : v28 10 = (v 10) := hk10_v28
    have hq31_v28 : v28 31 = (v 31) := hk31_v28
    have hq32_v28 : v28 32 = (v 32) := hk32_v28
    rcases hw with ⟨g30⟩ | ⟨g30⟩
    · skip
      subst g30
      exact ret 1 (v28, f29) _ _ _ _ _ _ rfl ⟨(gsX_X6_expression_3_q6 c1 hG27), hM_v28, hA_f29, hIv28, hk0_v28, hk1_v28, hk9_v28, hk10_v28, hk31_v28, hk32_v28, (Or.inl rfl)⟩ hP hD hS dX6_expression_33 (Nat.le_refl _) (Nat.le_refl _)
    · skip
      subst g30
      exact ret 0 (v28, f29) _ _ _ _ _ _ rfl ⟨(gsX_X6_expression_3_q7 c1 hG27), hM_v28, hA_f29, hIv28, hk0_v28, hk1_v28, hk9_v28, hk10_v28, hk31_v28, hk32_v28, (Or.inr rfl)⟩ hP hD hS dX6_expression_33 (Nat.le_refl _) (Nat.le_refl _)
set_option maxHeartbeats 4000000 in
set_option maxRecDepth 100000 in
theorem sX_X6_expression_2 (NF : Nat) (l : Launch) (dC : Nat → ClassId) (dI : Nat → Nat → Nat) (cy : Nat → ClassId) (x0 : Nat) (x : Nat → Nat)  (v : Nat → Int32) (f : Nat → Nat → Int32) (hIv : XI v)  : ctIS l (dC, dI) cy yX6_expression cX6_expression 6 .boolean 61 1525 0 0 ((Nat → Int32) × (Nat → Nat → Int32)) [.ref (x 2), .int 1, .int 0] (XW cy x0 x v f) (fun r u => gsX_X6_expression_2 NF v f = (r, u) ∧ KV [2, 3, 4, 5, 7, 8, 16, 17] u.1 v ∧ KF [3, 4] u.2 f ∧ XI u.1 ∧ u.1 0 = v 0 ∧ u.1 1 = v 1 ∧ u.1 9 = v 9 ∧ u.1 10 = v 10 ∧ u.1 31 = v 31 ∧ u.1 32 = v 32 ∧ ((r = 1) ∨ (r = 0))) (fun u => XW cy x0 x u.1 u.2) := by
  refine ctIS_of (by decide) (Nat.le_of_ble_eq_true rfl) (fun p e s m below meth c A ls Q hx hb hml hts hown hE hF hT hP hD hA hl ret => ?_)
  have hM_v : KV [2, 3, 4, 5, 7, 8, 16, 17] v v := fun _ _ => rfl
  have hA_f : KF [3, 4] f f := fun _ _ => rfl
  have hown : s.vm.findClass RX6 = some m.cls := hown
  have hS : va_S A s.heap s.heap [] := va_S.rf
  have hl : lv_has ls 6 [(0, .ref (x 2)), (1, .int 1), (2, .int 0)] := hl
  refine lv_iload_n hx hb dX6_expression_0 rfl (lv_at hl 1 rfl) ?_
  refine lv_iconst (v := 5) hx hb dX6_expression_1 (by decide) ?_
  refine lv_icmp_lt (tgt := 11) hx hb dX6_expression_2 (by decide) (fun _ => ?_) (fun c0 => absurd (by decide) c0)
  refine lv_iload_n hx hb dX6_expression_11 rfl (lv_at hl 1 rfl) ?_
  refine lv_iconst (v := 2) hx hb dX6_expression_12 (by decide) ?_
  refine lv_icmp_ne (tgt := 34) hx hb dX6_expression_13 (by decide) (fun _ => ?_) (fun c0 => absurd c0 (by decide))
  refine lv_aload_n hx hb dX6_expression_34 rfl (lv_at hl 0 rfl) ?_
  refine lv_iload_n hx hb dX6_expression_35 rfl (lv_at hl 1 rfl) ?_
  refine lv_iconst (v := 1) hx hb dX6_expression_36 (by decide) ?_
  refine lv_iadd hx hb dX6_expression_37 ?_
  refine tI (y := 2) (by decide) ?_
  refine lv_iload_n hx hb dX6_expression_38 rfl (lv_at hl 2 rfl) ?_
  refine csVi (n := 2) (rest := []) hx hb hml hown hts hE hP hD hS hA hF hT (sX_X6_expression_3 NF l dC dI cy x0 x  v f hIv ) k_740 k_742 k_15 k_103 k_743 (by decide +kernel) ⟨Nat.le_of_ble_eq_true rfl, Nat.le_of_ble_eq_true rfl⟩ 3 6 rfl rfl (rfl) hl.1 rfl (Nat.le_of_ble_eq_true rfl) dX6_expression_39 (fun r1 u H locs hw hP hD hS => ?_)
  obtain ⟨hG2, hw⟩ := hw
  obtain ⟨v3, f4⟩ := u
  obtain ⟨kV_v3, kF_f4, hIv3, hk0_v3, hk1_v3, hk9_v3, hk10_v3, hk31_v3, hk32_v3, hw⟩ := hw
  have hM_v3 : KV [2, 3, 4, 5, 7, 8, 16, 17] v3 v := KV.tr kV_v3 hM_v rfl
  have hA_f4 : KF [3, 4] f4 f := KF.tr kF_f4 hA_f rfl
  have hP : va_P (dC, dI) vwCl (XW cy x0 x v3 f4) H := hP
  have hD : va_D A (XW cy x0 x v3 f4) := hD
  have hq0_v3 : v3 0 = (v 0) := hk0_v3
  have hq1_v3 : v3 1 = (v 1) := hk1_v3
  have hq9_v3 : v3 9 = (v 9) := hk9_v3
  have hq10_v3 : v3 10 = (v 10) := hk10_v3
  have hq31_v3 : v3 31 = (v 31) := hk31_v3
  have hq32_v3 : v3 32 = (v 32) := hk32_v3
  rcases hw with ⟨g5⟩ | ⟨g5⟩
  · skip
    subst g5
    refine lv_if_ne (tgt := 47) hx hb dX6_expression_42 (by decide) (fun _ => ?_) (fun c0 => absurd c0 (by decide))
    refine lv_iload_n hx hb dX6_expression_47 rfl (lv_at hl 1 rfl) ?_
    refine lv_iconst (v := 2) hx hb dX6_expression_48 (by decide) ?_
    refine lv_icmp_ne (tgt := 56) hx hb dX6_expression_49 (by decide) (fun _ => ?_) (fun c0 => absurd c0 (by decide))
    refine lv_sipush (v := 1600) hx hb dX6_expression_56 (by decide) ?_
    refine lv_istore_n (lv' := [(3, .int 1600), (0, .ref (x 2)), (1, .int 1), (2, .int 0)]) hx hb dX6_expression_59 rfl hl (by decide) rfl (fun ls hl => ?_)
    refine lv_iconst (v := 0) hx hb dX6_expression_60 (by decide) ?_
    refine lv_istore (lv' := [(4, .int 0), (3, .int 1600), (0, .ref (x 2)), (1, .int 1), (2, .int 0)]) hx hb dX6_expression_61 hl (by decide) rfl (fun ls hl => ?_)
    have lp6 : ∀ (n6 : Nat) (l4_6 : Int32) (v6 : Nat → Int32) (f6 : Nat → Nat → Int32), XI v6 → v6 0 = (v 0) → v6 1 = (v 1) → v6 9 = (v 9) → v6 10 = (v 10) → v6 31 = (v 31) → v6 32 = (v 32) → gsX_X6_expression_2_L6 NF n6 l4_6 v6 f6 = (gsX_X6_expression_2 NF v f) → ((0 : Int) ≤ l4_6.toInt ∧ l4_6.toInt ≤ 2147483647) → KV [2, 3, 4, 5, 7, 8, 16, 17] v6 v → KF [3, 4] f6 f → (2147483647 - l4_6.toInt).toNat < n6 → ∀ (H : Heap) (locs : List Loc) (ls : Array Slot), va_P (dC, dI) vwCl (XW cy x0 x v6 f6) H → va_D A (XW cy x0 x v6 f6) → va_S A s.heap H locs → lv_has ls 6 [(4, .int l4_6), (3, .int 1600), (0, .ref (x 2)), (1, .int 1), (2, .int 0)] → W p l e { frames := 61, cells := 0, slots := 0, locals := 1525 } s m ([.ref (x 2), .int 1, .int 0] : List Value).toArray below meth c H locs 0 0 Q (F0 m 63 ls []) := by
      intro n6
      induction n6 with
      | zero => intro l4_6 v6 f6 hIv6 hq0_v6 hq1_v6 hq9_v6 hq10_v6 hq31_v6 hq32_v6 hT6 hr4_6 hM_v6 hA_f6 hm; exact absurd hm (Nat.not_lt_zero _)
      | succ n6 ih6 =>
        intro l4_6 v6 f6 hIv6 hq0_v6 hq1_v6 hq9_v6 hq10_v6 hq31_v6 hq32_v6 hT6 hr4_6 hM_v6 hA_f6 hm6 H locs ls hP hD hS hl
        refine lv_iload hx hb dX6_expression_63 (lv_at hl 0 rfl) ?_
        refine lv_iload_n hx hb dX6_expression_65 rfl (lv_at hl 1 rfl) ?_
        refine lv_icmp_ge (tgt := 131) hx hb dX6_expression_66 (by decide) (fun c7 => ?_) (fun c7 => ?_)
        · skip
          have zc7 : 1600 ≤ l4_6.toInt := by rw [fa_le, show (1600 : Int32).toInt = 1600 from by decide] at c7; exact c7
          refine lv_iconst (v := 1) hx hb dX6_expression_131 (by decide) ?_
          exact ret 1 (v6, f6) _ _ _ _ _ _ rfl ⟨(hT6.symm.trans (gsX_X6_expression_2_q0 c7)), hM_v6, hA_f6, hIv6, hq0_v6, hq1_v6, hq9_v6, hq10_v6, hq31_v6, hq32_v6, (Or.inl rfl)⟩ hP hD hS dX6_expression_132 (Nat.le_refl _) (Nat.le_refl _)
        · skip
          have zc7 : ¬ (1600 ≤ l4_6.toInt) := by rw [fa_le, show (1600 : Int32).toInt = 1600 from by decide] at c7; exact c7
          refine lv_iload_n hx hb dX6_expression_69 rfl (lv_at hl 3 rfl) ?_
          refine lv_aload_n hx hb dX6_expression_70 rfl (lv_at hl 2 rfl) ?_
          refine va_get (D := (dC, dI)) (ci := 6) (v := .ref (x 0)) (C := RX6) (T := TX6) (N := 7) hx hb hts inB_6 hown hE.1 hP 3 rfl rfl 0 (by decide) (hts _ k_265) (fun _ h9 => h9) rfl dX6_expression_71 ?_
          refine va_getN (D := (dC, dI)) (ci := 9) (v := .int (v6 2)) (C := RX9) (T := TX9) (N := 6) hx hb hts inB_9 hown hE.1 hP 1 rfl rfl 2 (by decide) (va_Nw.use rfl (hE.2 _ k_139)) (fun _ h9 => h9) rfl dX6_expression_74 ?_
          refine cbSi (n := 2) (rest := []) hx hb hml hown hts hE hP hD hS hA (sX_X6_joins_1 NF l dC dI cy x0 x 1 (v6 2) v6 f6 hIv6 ) k_756 k_757 k_103 k_758 (by decide +kernel) ⟨Nat.le_of_ble_eq_true rfl, Nat.le_of_ble_eq_true rfl⟩ (rfl) hl.1 rfl (Nat.le_of_ble_eq_true rfl) dX6_expression_77 (fun r8 u H locs hw hP hD hS => ?_)
          obtain ⟨hG9, hw⟩ := hw
          rcases hw with ⟨g10⟩ | ⟨g10⟩
          · skip
            subst g10
            refine lv_if_eq (tgt := 131) hx hb dX6_expression_80 (by decide) (fun c0 => absurd c0 (by decide)) (fun _ => ?_)
            refine lv_aload_n hx hb dX6_expression_83 rfl (lv_at hl 2 rfl) ?_
            refine va_get (D := (dC, dI)) (ci := 6) (v := .ref (x 0)) (C := RX6) (T := TX6) (N := 7) hx hb hts inB_6 hown hE.1 hP 3 rfl rfl 0 (by decide) (hts _ k_265) (fun _ h9 => h9) rfl dX6_expression_84 ?_
            refine va_getN (D := (dC, dI)) (ci := 9) (v := .int (v6 2)) (C := RX9) (T := TX9) (N := 6) hx hb hts inB_9 hown hE.1 hP 1 rfl rfl 2 (by decide) (va_Nw.use rfl (hE.2 _ k_139)) (fun _ h9 => h9) rfl dX6_expression_87 ?_
            refine lv_istore (lv' := [(5, .int (v6 2)), (4, .int l4_6), (3, .int 1600), (0, .ref (x 2)), (1, .int 1), (2, .int 0)]) hx hb dX6_expression_90 hl (by decide) rfl (fun ls hl => ?_)
            refine lv_aload_n hx hb dX6_expression_92 rfl (lv_at hl 3 rfl) ?_
            refine va_get (D := (dC, dI)) (ci := 6) (v := .ref (x 0)) (C := RX6) (T := TX6) (N := 7) hx hb hts inB_6 hown hE.1 hP 3 rfl rfl 0 (by decide) (hts _ k_265) (fun _ h9 => h9) rfl dX6_expression_93 ?_
            refine csVv (n := 0) (rest := []) hx hb hml hown hts hE hP hD hS hA hF hT (sX_X9_advance_1 NF l dC dI cy x0 x  v6 f6 hIv6 ) k_699 k_559 k_560 k_102 k_561 (by decide +kernel) ⟨Nat.le_of_ble_eq_true rfl, Nat.le_of_ble_eq_true rfl⟩ 1 9 rfl rfl (rfl) hl.1 rfl (Nat.le_of_ble_eq_true rfl) dX6_expression_96 (fun u H locs hw hP hD hS => ?_)
            obtain ⟨hG11, hw⟩ := hw
            obtain ⟨v12, f13⟩ := u
            obtain ⟨kV_v12, kF_f13, hIv12, hk0_v12, hk1_v12, hk7_v12, hk8_v12, hk9_v12, hk10_v12, hk31_v12, hk32_v12⟩ := hw
            have hM_v12 : KV [2, 3, 4, 5, 7, 8, 16, 17] v12 v := KV.tr kV_v12 hM_v6 rfl
            have hA_f13 : KF [3, 4] f13 f := KF.tr kF_f13 hA_f6 rfl
            have hP : va_P (dC, dI) vwCl (XW cy x0 x v12 f13) H := hP
            have hD : va_D A (XW cy x0 x v12 f13) := hD
            have hq0_v12 : v12 0 = (v 0) := hk0_v12.trans hq0_v6
            have hq1_v12 : v12 1 = (v 1) := hk1_v12.trans hq1_v6
            have hq7_v12 : v12 7 = (v6 7) := hk7_v12
            have hq8_v12 : v12 8 = (v6 8) := hk8_v12
            have hq9_v12 : v12 9 = (v 9) := hk9_v12.trans hq9_v6
            have hq10_v12 : v12 10 = (v 10) := hk10_v12.trans hq10_v6
            have hq31_v12 : v12 31 = (v 31) := hk31_v12.trans hq31_v6
            have hq32_v12 : v12 32 = (v 32) := hk32_v12.trans hq32_v6
            refine lv_aload_n hx hb dX6_expression_99 rfl (lv_at hl 3 rfl) ?_
            refine lv_iload_n hx hb dX6_expression_100 rfl (lv_at hl 4 rfl) ?_
            refine lv_iconst (v := 1) hx hb dX6_expression_101 (by decide) ?_
            refine lv_iadd hx hb dX6_expression_102 ?_
            refine tI (y := 2) (by decide) ?_
            refine lv_iload_n hx hb dX6_expression_103 rfl (lv_at hl 5 rfl) ?_
            refine csVi (n := 2) (rest := []) hx hb hml hown hts hE hP hD hS hA hF hT (sX_X6_expression_3 NF l dC dI cy x0 x  v12 f13 hIv12 ) k_740 k_742 k_15 k_103 k_743 (by decide +kernel) ⟨Nat.le_of_ble_eq_true rfl, Nat.le_of_ble_eq_true rfl⟩ 3 6 rfl rfl (rfl) hl.1 rfl (Nat.le_of_ble_eq_true rfl) dX6_expression_104 (fun r14 u H locs hw hP hD hS => ?_)
            obtain ⟨hG15, hw⟩ := hw
            obtain ⟨v16, f17⟩ := u
            obtain ⟨kV_v16, kF_f17, hIv16, hk0_v16, hk1_v16, hk9_v16, hk10_v16, hk31_v16, hk32_v16, hw⟩ := hw
            have hM_v16 : KV [2, 3, 4, 5, 7, 8, 16, 17] v16 v := KV.tr kV_v16 hM_v12 rfl
            have hA_f17 : KF [3, 4] f17 f := KF.tr kF_f17 hA_f13 rfl
            have hP : va_P (dC, dI) vwCl (XW cy x0 x v16 f17) H := hP
            have hD : va_D A (XW cy x0 x v16 f17) := hD
            have hq0_v16 : v16 0 = (v 0) := hk0_v16.trans hq0_v12
            have hq1_v16 : v16 1 = (v 1) := hk1_v16.trans hq1_v12
            have hq9_v16 : v16 9 = (v 9) := hk9_v16.trans hq9_v12
            have hq10_v16 : v16 10 = (v 10) := hk10_v16.trans hq10_v12
            have hq31_v16 : v16 31 = (v 31) := hk31_v16.trans hq31_v12
            have hq32_v16 : v16 32 = (v 32) := hk32_v16.trans hq32_v12
            rcases hw with ⟨g18⟩ | ⟨g18⟩
            · skip
              subst g18
              refine lv_if_ne (tgt := 112) hx hb dX6_expression_107 (by decide) (fun _ => ?_) (fun c0 => absurd c0 (by decide))
              refine lv_aload_n hx hb dX6_expression_112 rfl (lv_at hl 3 rfl) ?_
              refine va_get (D := (dC, dI)) (ci := 6) (v := .ref (x 3)) (C := RX6) (T := TX6) (N := 7) hx hb hts inB_6 hown hE.1 hP 3 rfl rfl 1 (by decide) (hts _ k_266) (fun _ h9 => h9) rfl dX6_expression_113 ?_
              refine va_getN (D := (dC, dI)) (ci := 7) (v := .ref (x 6)) (C := RX7) (T := TX7) (N := 10) hx hb hts inB_7 hown hE.1 hP 4 rfl rfl 2 (by decide) (va_Nw.use rfl (hE.2 _ k_210)) (fun _ h9 => h9) rfl dX6_expression_116 ?_
              refine lv_iload hx hb dX6_expression_119 (lv_at hl 0 rfl) ?_
              refine lv_iconst (v := 0) hx hb dX6_expression_121 (by decide) ?_
              refine cbVv (n := 2) (rest := []) hx hb hml hown hts hE hP hD hS hA (sX_X4_add_1 NF l dC dI cy x0 x (v6 2) 0 v16 f17 hIv16 ) k_748 k_749 k_750 k_105 k_751 (by decide +kernel) ⟨Nat.le_of_ble_eq_true rfl, Nat.le_of_ble_eq_true rfl⟩ 7 4 rfl rfl (rfl) hl.1 rfl (Nat.le_of_ble_eq_true rfl) dX6_expression_122 (fun u H locs hw hP hD hS => ?_)
              obtain ⟨hG19, hw⟩ := hw
              obtain ⟨v20, f21⟩ := u
              obtain ⟨kV_v20, kF_f21, hIv20, hk0_v20, hk1_v20, hk7_v20, hk8_v20, hk9_v20, hk10_v20, hk31_v20, hk32_v20⟩ := hw
              have hM_v20 : KV [2, 3, 4, 5, 7, 8, 16, 17] v20 v := KV.tr kV_v20 hM_v16 rfl
              have hA_f21 : KF [3, 4] f21 f := KF.tr kF_f21 hA_f17 rfl
              have hP : va_P (dC, dI) vwCl (XW cy x0 x v20 f21) H := hP
              have hD : va_D A (XW cy x0 x v20 f21) := hD
              have hq0_v20 : v20 0 = (v 0) := hk0_v20.trans hq0_v16
              have hq1_v20 : v20 1 = (v 1) := hk1_v20.trans hq1_v16
              have hq7_v20 : v20 7 = (v16 7) := hk7_v20
              have hq8_v20 : v20 8 = (v16 8) := hk8_v20
              have hq9_v20 : v20 9 = (v 9) := hk9_v20.trans hq9_v16
              have hq10_v20 : v20 10 = (v 10) := hk10_v20.trans hq10_v16
              have hq31_v20 : v20 31 = (v 31) := hk31_v20.trans hq31_v16
              have hq32_v20 : v20 32 = (v 32) := hk32_v20.trans hq32_v16
              obtain ⟨t22, et22⟩ : ∃ y : Int32, y = l4_6 + 1 := ⟨_, rfl⟩
              have rg23 := fb_rng l4_6
              have zt22 : t22.toInt = l4_6.toInt + 1 := by rw [et22]; exact add_i rfl (by decide) (by omega) (by omega)
              refine lv_iinc (v := t22) (lv' := [(4, .int t22), (5, .int (v6 2)), (3, .int 1600), (0, .ref (x 2)), (1, .int 1), (2, .int 0)]) hx hb dX6_expression_125 hl (k := 1) rfl (by rw [et22]; rfl) (by decide) rfl (fun ls hl => ?_)
              refine lv_goto (tgt := 63) hx hb dX6_expression_128 (by decide) ?_
              have rg24 := fb_rng t22
              exact ih6 t22 v20 f21 hIv20 hq0_v20 hq1_v20 hq9_v20 hq10_v20 hq31_v20 hq32_v20 ((gsX_X6_expression_2_q1 c7 hG9 hG11 hG15 hG19 et22).symm.trans hT6) ⟨show (0 : Int) ≤ t22.toInt by omega, show t22.toInt ≤ (2147483647 : Int) by omega⟩ hM_v20 hA_f21 (by show (2147483647 - t22.toInt).toNat < n6; omega) _ _ _ hP hD hS (lv_sub hl [0, 2, 3, 4, 5] rfl)
            · skip
              subst g18
              refine lv_if_ne (tgt := 112) hx hb dX6_expression_107 (by decide) (fun c0 => absurd (by decide) c0) (fun _ => ?_)
              refine lv_iconst (v := 0) hx hb dX6_expression_110 (by decide) ?_
              exact ret 0 (v16, f17) _ _ _ _ _ _ rfl ⟨(hT6.symm.trans (gsX_X6_expression_2_q2 c7 hG9 hG11 hG15)), hM_v16, hA_f17, hIv16, (hk0_v16.trans (hk0_v12.trans hq0_v6)), (hk1_v16.trans (hk1_v12.trans hq1_v6)), (hk9_v16.trans (hk9_v12.trans hq9_v6)), (hk10_v16.trans (hk10_v12.trans hq10_v6)), (hk31_v16.trans (hk31_v12.trans hq31_v6)), (hk32_v16.trans (hk32_v12.trans hq32_v6)), (Or.inr rfl)⟩ hP hD hS dX6_expression_111 (Nat.le_refl _) (Nat.le_refl _)
          · skip
            subst g10
            refine lv_if_eq (tgt := 131) hx hb dX6_expression_80 (by decide) (fun _ => ?_) (fun c0 => absurd (by decide) c0)
            refine lv_iconst (v := 1) hx hb dX6_expression_131 (by decide) ?_
            exact ret 1 (v6, f6) _ _ _ _ _ _ rfl ⟨(hT6.symm.trans (gsX_X6_expression_2_q3 c7 hG9)), hM_v6, hA_f6, hIv6, hq0_v6, hq1_v6, hq9_v6, hq10_v6, hq31_v6, hq32_v6, (Or.inl rfl)⟩ hP hD hS dX6_expression_132 (Nat.le_refl _) (Nat.le_refl _)
    exact lp6 (4294967296 + NF) 0 v3 f4 hIv3 hq0_v3 hq1_v3 hq9_v3 hq10_v3 hq31_v3 hq32_v3 (gsX_X6_expression_2_q4 hG2).symm ⟨by decide, by decide⟩ hM_v3 hA_f4 (by have q4 : (0 : Int32).toInt = 0 := (by decide); have q3 : (1600 : Int32).toInt = 1600 := (by decide); have q1 : (1 : Int32).toInt = 1 := (by decide); have q2 : (0 : Int32).toInt = 0 := (by decide); show (2147483647 - (0 : Int32).toInt).toNat < 4294967296 + NF; omega) _ _ _ hP hD hS (lv_sub hl [0, 1, 2, 3, 4] rfl)
  · skip
    subst g5
    refine lv_if_ne (tgt := 47) hx hb dX6_expression_42 (by decide) (fun c0 => absurd (by decide) c0) (fun _ => ?_)
    refine lv_iconst (v := 0) hx hb dX6_expression_45 (by decide) ?_
    exact ret 0 (v3, f4) _ _ _ _ _ _ rfl ⟨(gsX_X6_expression_2_q5 hG2), hM_v3, hA_f4, hIv3, hk0_v3, hk1_v3, hk9_v3, hk10_v3, hk31_v3, hk32_v3, (Or.inr rfl)⟩ hP hD hS dX6_expression_46 (Nat.le_refl _) (Nat.le_refl _)
set_option maxHeartbeats 4000000 in
set_option maxRecDepth 100000 in
theorem sX_X6_expression_1 (NF : Nat) (l : Launch) (dC : Nat → ClassId) (dI : Nat → Nat → Nat) (cy : Nat → ClassId) (x0 : Nat) (x : Nat → Nat)  (v : Nat → Int32) (f : Nat → Nat → Int32) (hIv : XI v)  : ctIS l (dC, dI) cy yX6_expression cX6_expression 6 .boolean 62 1550 0 0 ((Nat → Int32) × (Nat → Nat → Int32)) [.ref (x 2), .int 0, .int 0] (XW cy x0 x v f) (fun r u => gsX_X6_expression_1 NF v f = (r, u) ∧ KV [2, 3, 4, 5, 7, 8, 16, 17] u.1 v ∧ KF [3, 4] u.2 f ∧ XI u.1 ∧ u.1 0 = v 0 ∧ u.1 1 = v 1 ∧ u.1 9 = v 9 ∧ u.1 10 = v 10 ∧ u.1 31 = v 31 ∧ u.1 32 = v 32 ∧ ((r = 1) ∨ (r = 0))) (fun u => XW cy x0 x u.1 u.2) := by
  refine ctIS_of (by decide) (Nat.le_of_ble_eq_true rfl) (fun p e s m below meth c A ls Q hx hb hml hts hown hE hF hT hP hD hA hl ret => ?_)
  have hM_v : KV [2, 3, 4, 5, 7, 8, 16, 17] v v := fun _ _ => rfl
  have hA_f : KF [3, 4] f f := fun _ _ => rfl
  have hown : s.vm.findClass RX6 = some m.cls := hown
  have hS : va_S A s.heap s.heap [] := va_S.rf
  have hl : lv_has ls 6 [(0, .ref (x 2)), (1, .int 0), (2, .int 0)] := hl
  refine lv_iload_n hx hb dX6_expression_0 rfl (lv_at hl 1 rfl) ?_
  refine lv_iconst (v := 5) hx hb dX6_expression_1 (by decide) ?_
  refine lv_icmp_lt (tgt := 11) hx hb dX6_expression_2 (by decide) (fun _ => ?_) (fun c0 => absurd (by decide) c0)
  refine lv_iload_n hx hb dX6_expression_11 rfl (lv_at hl 1 rfl) ?_
  refine lv_iconst (v := 2) hx hb dX6_expression_12 (by decide) ?_
  refine lv_icmp_ne (tgt := 34) hx hb dX6_expression_13 (by decide) (fun _ => ?_) (fun c0 => absurd c0 (by decide))
  refine lv_aload_n hx hb dX6_expression_34 rfl (lv_at hl 0 rfl) ?_
  refine lv_iload_n hx hb dX6_expression_35 rfl (lv_at hl 1 rfl) ?_
  refine lv_iconst (v := 1) hx hb dX6_expression_36 (by decide) ?_
  refine lv_iadd hx hb dX6_expression_37 ?_
  refine tI (y := 1) (by decide) ?_
  refine lv_iload_n hx hb dX6_expression_38 rfl (lv_at hl 2 rfl) ?_
  refine csVi (n := 2) (rest := []) hx hb hml hown hts hE hP hD hS hA hF hT (sX_X6_expression_2 NF l dC dI cy x0 x  v f hIv ) k_740 k_742 k_15 k_103 k_743 (by decide +kernel) ⟨Nat.le_of_ble_eq_true rfl, Nat.le_of_ble_eq_true rfl⟩ 3 6 rfl rfl (rfl) hl.1 rfl (Nat.le_of_ble_eq_true rfl) dX6_expression_39 (fun r1 u H locs hw hP hD hS => ?_)
  obtain ⟨hG2, hw⟩ := hw
  obtain ⟨v3, f4⟩ := u
  obtain ⟨kV_v3, kF_f4, hIv3, hk0_v3, hk1_v3, hk9_v3, hk10_v3, hk31_v3, hk32_v3, hw⟩ := hw
  have hM_v3 : KV [2, 3, 4, 5, 7, 8, 16, 17] v3 v := KV.tr kV_v3 hM_v rfl
  have hA_f4 : KF [3, 4] f4 f := KF.tr kF_f4 hA_f rfl
  have hP : va_P (dC, dI) vwCl (XW cy x0 x v3 f4) H := hP
  have hD : va_D A (XW cy x0 x v3 f4) := hD
  have hq0_v3 : v3 0 = (v 0) := hk0_v3
  have hq1_v3 : v3 1 = (v 1) := hk1_v3
  have hq9_v3 : v3 9 = (v 9) := hk9_v3
  have hq10_v3 : v3 10 = (v 10) := hk10_v3
  have hq31_v3 : v3 31 = (v 31) := hk31_v3
  have hq32_v3 : v3 32 = (v 32) := hk32_v3
  rcases hw with ⟨g5⟩ | ⟨g5⟩
  · skip
    subst g5
    refine lv_if_ne (tgt := 47) hx hb dX6_expression_42 (by decide) (fun _ => ?_) (fun c0 => absurd c0 (by decide))
    refine lv_iload_n hx hb dX6_expression_47 rfl (lv_at hl 1 rfl) ?_
    refine lv_iconst (v := 2) hx hb dX6_expression_48 (by decide) ?_
    refine lv_icmp_ne (tgt := 56) hx hb dX6_expression_49 (by decide) (fun _ => ?_) (fun c0 => absurd c0 (by decide))
    refine lv_sipush (v := 1600) hx hb dX6_expression_56 (by decide) ?_
    refine lv_istore_n (lv' := [(3, .int 1600), (0, .ref (x 2)), (1, .int 0), (2, .int 0)]) hx hb dX6_expression_59 rfl hl (by decide) rfl (fun ls hl => ?_)
    refine lv_iconst (v := 0) hx hb dX6_expression_60 (by decide) ?_
    refine lv_istore (lv' := [(4, .int 0), (3, .int 1600), (0, .ref (x 2)), (1, .int 0), (2, .int 0)]) hx hb dX6_expression_61 hl (by decide) rfl (fun ls hl => ?_)
    have lp6 : ∀ (n6 : Nat) (l4_6 : Int32) (v6 : Nat → Int32) (f6 : Nat → Nat → Int32), XI v6 → v6 0 = (v 0) → v6 1 = (v 1) → v6 9 = (v 9) → v6 10 = (v 10) → v6 31 = (v 31) → v6 32 = (v 32) → gsX_X6_expression_1_L6 NF n6 l4_6 v6 f6 = (gsX_X6_expression_1 NF v f) → ((0 : Int) ≤ l4_6.toInt ∧ l4_6.toInt ≤ 2147483647) → KV [2, 3, 4, 5, 7, 8, 16, 17] v6 v → KF [3, 4] f6 f → (2147483647 - l4_6.toInt).toNat < n6 → ∀ (H : Heap) (locs : List Loc) (ls : Array Slot), va_P (dC, dI) vwCl (XW cy x0 x v6 f6) H → va_D A (XW cy x0 x v6 f6) → va_S A s.heap H locs → lv_has ls 6 [(4, .int l4_6), (3, .int 1600), (0, .ref (x 2)), (1, .int 0), (2, .int 0)] → W p l e { frames := 62, cells := 0, slots := 0, locals := 1550 } s m ([.ref (x 2), .int 0, .int 0] : List Value).toArray below meth c H locs 0 0 Q (F0 m 63 ls []) := by
      intro n6
      induction n6 with
      | zero => intro l4_6 v6 f6 hIv6 hq0_v6 hq1_v6 hq9_v6 hq10_v6 hq31_v6 hq32_v6 hT6 hr4_6 hM_v6 hA_f6 hm; exact absurd hm (Nat.not_lt_zero _)
      | succ n6 ih6 =>
        intro l4_6 v6 f6 hIv6 hq0_v6 hq1_v6 hq9_v6 hq10_v6 hq31_v6 hq32_v6 hT6 hr4_6 hM_v6 hA_f6 hm6 H locs ls hP hD hS hl
        refine lv_iload hx hb dX6_expression_63 (lv_at hl 0 rfl) ?_
        refine lv_iload_n hx hb dX6_expression_65 rfl (lv_at hl 1 rfl) ?_
        refine lv_icmp_ge (tgt := 131) hx hb dX6_expression_66 (by decide) (fun c7 => ?_) (fun c7 => ?_)
        · skip
          have zc7 : 1600 ≤ l4_6.toInt := by rw [fa_le, show (1600 : Int32).toInt = 1600 from by decide] at c7; exact c7
          refine lv_iconst (v := 1) hx hb dX6_expression_131 (by decide) ?_
          exact ret 1 (v6, f6) _ _ _ _ _ _ rfl ⟨(hT6.symm.trans (gsX_X6_expression_1_q0 c7)), hM_v6, hA_f6, hIv6, hq0_v6, hq1_v6, hq9_v6, hq10_v6, hq31_v6, hq32_v6, (Or.inl rfl)⟩ hP hD hS dX6_expression_132 (Nat.le_refl _) (Nat.le_refl _)
        · skip
          have zc7 : ¬ (1600 ≤ l4_6.toInt) := by rw [fa_le, show (1600 : Int32).toInt = 1600 from by decide] at c7; exact c7
          refine lv_iload_n hx hb dX6_expression_69 rfl (lv_at hl 3 rfl) ?_
          refine lv_aload_n hx hb dX6_expression_70 rfl (lv_at hl 2 rfl) ?_
          refine va_get (D := (dC, dI)) (ci := 6) (v := .ref (x 0)) (C := RX6) (T := TX6) (N := 7) hx hb hts inB_6 hown hE.1 hP 3 rfl rfl 0 (by decide) (hts _ k_265) (fun _ h9 => h9) rfl dX6_expression_71 ?_
          refine va_getN (D := (dC, dI)) (ci := 9) (v := .int (v6 2)) (C := RX9) (T := TX9) (N := 6) hx hb hts inB_9 hown hE.1 hP 1 rfl rfl 2 (by decide) (va_Nw.use rfl (hE.2 _ k_139)) (fun _ h9 => h9) rfl dX6_expression_74 ?_
          refine cbSi (n := 2) (rest := []) hx hb hml hown hts hE hP hD hS hA (sX_X6_joins_1 NF l dC dI cy x0 x 0 (v6 2) v6 f6 hIv6 ) k_756 k_757 k_103 k_758 (by decide +kernel) ⟨Nat.le_of_ble_eq_true rfl, Nat.le_of_ble_eq_true rfl⟩ (rfl) hl.1 rfl (Nat.le_of_ble_eq_true rfl) dX6_expression_77 (fun r8 u H locs hw hP hD hS => ?_)
          obtain ⟨hG9, hw⟩ := hw
          rcases hw with ⟨g10⟩ | ⟨g10⟩
          · skip
            subst g10
            refine lv_if_eq (tgt := 131) hx hb dX6_expression_80 (by decide) (fun c0 => absurd c0 (by decide)) (fun _ => ?_)
            refine lv_aload_n hx hb dX6_expression_83 rfl (lv_at hl 2 rfl) ?_
            refine va_get (D := (dC, dI)) (ci := 6) (v := .ref (x 0)) (C := RX6) (T := TX6) (N := 7) hx hb hts inB_6 hown hE.1 hP 3 rfl rfl 0 (by decide) (hts _ k_265) (fun _ h9 => h9) rfl dX6_expression_84 ?_
            refine va_getN (D := (dC, dI)) (ci := 9) (v := .int (v6 2)) (C := RX9) (T := TX9) (N := 6) hx hb hts inB_9 hown hE.1 hP 1 rfl rfl 2 (by decide) (va_Nw.use rfl (hE.2 _ k_139)) (fun _ h9 => h9) rfl dX6_expression_87 ?_
            refine lv_istore (lv' := [(5, .int (v6 2)), (4, .int l4_6), (3, .int 1600), (0, .ref (x 2)), (1, .int 0), (2, .int 0)]) hx hb dX6_expression_90 hl (by decide) rfl (fun ls hl => ?_)
            refine lv_aload_n hx hb dX6_expression_92 rfl (lv_at hl 3 rfl) ?_
            refine va_get (D := (dC, dI)) (ci := 6) (v := .ref (x 0)) (C := RX6) (T := TX6) (N := 7) hx hb hts inB_6 hown hE.1 hP 3 rfl rfl 0 (by decide) (hts _ k_265) (fun _ h9 => h9) rfl dX6_expression_93 ?_
            refine csVv (n := 0) (rest := []) hx hb hml hown hts hE hP hD hS hA hF hT (sX_X9_advance_1 NF l dC dI cy x0 x  v6 f6 hIv6 ) k_699 k_559 k_560 k_102 k_561 (by decide +kernel) ⟨Nat.le_of_ble_eq_true rfl, Nat.le_of_ble_eq_true rfl⟩ 1 9 rfl rfl (rfl) hl.1 rfl (Nat.le_of_ble_eq_true rfl) dX6_expression_96 (fun u H locs hw hP hD hS => ?_)
            obtain ⟨hG11, hw⟩ := hw
            obtain ⟨v12, f13⟩ := u
            obtain ⟨kV_v12, kF_f13, hIv12, hk0_v12, hk1_v12, hk7_v12, hk8_v12, hk9_v12, hk10_v12, hk31_v12, hk32_v12⟩ := hw
            have hM_v12 : KV [2, 3, 4, 5, 7, 8, 16, 17] v12 v := KV.tr kV_v12 hM_v6 rfl
            have hA_f13 : KF [3, 4] f13 f := KF.tr kF_f13 hA_f6 rfl
            have hP : va_P (dC, dI) vwCl (XW cy x0 x v12 f13) H := hP
            have hD : va_D A (XW cy x0 x v12 f13) := hD
            have hq0_v12 : v12 0 = (v 0) := hk0_v12.trans hq0_v6
            have hq1_v12 : v12 1 = (v 1) := hk1_v12.trans hq1_v6
            have hq7_v12 : v12 7 = (v6 7) := hk7_v12
            have hq8_v12 : v12 8 = (v6 8) := hk8_v12
            have hq9_v12 : v12 9 = (v 9) := hk9_v12.trans hq9_v6
            have hq10_v12 : v12 10 = (v 10) := hk10_v12.trans hq10_v6
            have hq31_v12 : v12 31 = (v 31) := hk31_v12.trans hq31_v6
            have hq32_v12 : v12 32 = (v 32) := hk32_v12.trans hq32_v6
            refine lv_aload_n hx hb dX6_expression_99 rfl (lv_at hl 3 rfl) ?_
            refine lv_iload_n hx hb dX6_expression_100 rfl (lv_at hl 4 rfl) ?_
            refine lv_iconst (v := 1) hx hb dX6_expression_101 (by decide) ?_
            refine lv_iadd hx hb dX6_expression_102 ?_
            refine tI (y := 1) (by decide) ?_
            refine lv_iload_n hx hb dX6_expression_103 rfl (lv_at hl 5 rfl) ?_
            refine csVi (n := 2) (rest := []) hx hb hml hown hts hE hP hD hS hA hF hT (sX_X6_expression_2 NF l dC dI cy x0 x  v12 f13 hIv12 ) k_740 k_742 k_15 k_103 k_743 (by decide +kernel) ⟨Nat.le_of_ble_eq_true rfl, Nat.le_of_ble_eq_true rfl⟩ 3 6 rfl rfl (rfl) hl.1 rfl (Nat.le_of_ble_eq_true rfl) dX6_expression_104 (fun r14 u H locs hw hP hD hS => ?_)
            obtain ⟨hG15, hw⟩ := hw
            obtain ⟨v16, f17⟩ := u
            obtain ⟨kV_v16, kF_f17, hIv16, hk0_v16, hk1_v16, hk9_v16, hk10_v16, hk31_v16, hk32_v16, hw⟩ := hw
            have hM_v16 : KV [2, 3, 4, 5, 7, 8, 16, 17] v16 v := KV.tr kV_v16 hM_v12 rfl
            have hA_f17 : KF [3, 4] f17 f := KF.tr kF_f17 hA_f13 rfl
            have hP : va_P (dC, dI) vwCl (XW cy x0 x v16 f17) H := hP
            have hD : va_D A (XW cy x0 x v16 f17) := hD
            have hq0_v16 : v16 0 = (v 0) := hk0_v16.trans hq0_v12
            have hq1_v16 : v16 1 = (v 1) := hk1_v16.trans hq1_v12
            have hq9_v16 : v16 9 = (v 9) := hk9_v16.trans hq9_v12
            have hq10_v16 : v16 10 = (v 10) := hk10_v16.trans hq10_v12
            have hq31_v16 : v16 31 = (v 31) := hk31_v16.trans hq31_v12
            have hq32_v16 : v16 32 = (v 32) := hk32_v16.trans hq32_v12
            rcases hw with ⟨g18⟩ | ⟨g18⟩
            · skip
              subst g18
              refine lv_if_ne (tgt := 112) hx hb dX6_expression_107 (by decide) (fun _ => ?_) (fun c0 => absurd c0 (by decide))
              refine lv_aload_n hx hb dX6_expression_112 rfl (lv_at hl 3 rfl) ?_
              refine va_get (D := (dC, dI)) (ci := 6) (v := .ref (x 3)) (C := RX6) (T := TX6) (N := 7) hx hb hts inB_6 hown hE.1 hP 3 rfl rfl 1 (by decide) (hts _ k_266) (fun _ h9 => h9) rfl dX6_expression_113 ?_
              refine va_getN (D := (dC, dI)) (ci := 7) (v := .ref (x 6)) (C := RX7) (T := TX7) (N := 10) hx hb hts inB_7 hown hE.1 hP 4 rfl rfl 2 (by decide) (va_Nw.use rfl (hE.2 _ k_210)) (fun _ h9 => h9) rfl dX6_expression_116 ?_
              refine lv_iload hx hb dX6_expression_119 (lv_at hl 0 rfl) ?_
              refine lv_iconst (v := 0) hx hb dX6_expression_121 (by decide) ?_
              refine cbVv (n := 2) (rest := []) hx hb hml hown hts hE hP hD hS hA (sX_X4_add_1 NF l dC dI cy x0 x (v6 2) 0 v16 f17 hIv16 ) k_748 k_749 k_750 k_105 k_751 (by decide +kernel) ⟨Nat.le_of_ble_eq_true rfl, Nat.le_of_ble_eq_true rfl⟩ 7 4 rfl rfl (rfl) hl.1 rfl (Nat.le_of_ble_eq_true rfl) dX6_expression_122 (fun u H locs hw hP hD hS => ?_)
              obtain ⟨hG19, hw⟩ := hw
              obtain ⟨v20, f21⟩ := u
              obtain ⟨kV_v20, kF_f21, hIv20, hk0_v20, hk1_v20, hk7_v20, hk8_v20, hk9_v20, hk10_v20, hk31_v20, hk32_v20⟩ := hw
              have hM_v20 : KV [2, 3, 4, 5, 7, 8, 16, 17] v20 v := KV.tr kV_v20 hM_v16 rfl
              have hA_f21 : KF [3, 4] f21 f := KF.tr kF_f21 hA_f17 rfl
              have hP : va_P (dC, dI) vwCl (XW cy x0 x v20 f21) H := hP
              have hD : va_D A (XW cy x0 x v20 f21) := hD
              have hq0_v20 : v20 0 = (v 0) := hk0_v20.trans hq0_v16
              have hq1_v20 : v20 1 = (v 1) := hk1_v20.trans hq1_v16
              have hq7_v20 : v20 7 = (v16 7) := hk7_v20
              have hq8_v20 : v20 8 = (v16 8) := hk8_v20
              have hq9_v20 : v20 9 = (v 9) := hk9_v20.trans hq9_v16
              have hq10_v20 : v20 10 = (v 10) := hk10_v20.trans hq10_v16
              have hq31_v20 : v20 31 = (v 31) := hk31_v20.trans hq31_v16
              have hq32_v20 : v20 32 = (v 32) := hk32_v20.trans hq32_v16
              obtain ⟨t22, et22⟩ : ∃ y : Int32, y = l4_6 + 1 := ⟨_, rfl⟩
              have rg23 := fb_rng l4_6
              have zt22 : t22.toInt = l4_6.toInt + 1 := by rw [et22]; exact add_i rfl (by decide) (by omega) (by omega)
              refine lv_iinc (v := t22) (lv' := [(4, .int t22), (5, .int (v6 2)), (3, .int 1600), (0, .ref (x 2)), (1, .int 0), (2, .int 0)]) hx hb dX6_expression_125 hl (k := 1) rfl (by rw [et22]; rfl) (by decide) rfl (fun ls hl => ?_)
              refine lv_goto (tgt := 63) hx hb dX6_expression_128 (by decide) ?_
              have rg24 := fb_rng t22
              exact ih6 t22 v20 f21 hIv20 hq0_v20 hq1_v20 hq9_v20 hq10_v20 hq31_v20 hq32_v20 ((gsX_X6_expression_1_q1 c7 hG9 hG11 hG15 hG19 et22).symm.trans hT6) ⟨show (0 : Int) ≤ t22.toInt by omega, show t22.toInt ≤ (2147483647 : Int) by omega⟩ hM_v20 hA_f21 (by show (2147483647 - t22.toInt).toNat < n6; omega) _ _ _ hP hD hS (lv_sub hl [0, 2, 3, 4, 5] rfl)
            · skip
              subst g18
              refine lv_if_ne (tgt := 112) hx hb dX6_expression_107 (by decide) (fun c0 => absurd (by decide) c0) (fun _ => ?_)
              refine lv_iconst (v := 0) hx hb dX6_expression_110 (by decide) ?_
              exact ret 0 (v16, f17) _ _ _ _ _ _ rfl ⟨(hT6.symm.trans (gsX_X6_expression_1_q2 c7 hG9 hG11 hG15)), hM_v16, hA_f17, hIv16, (hk0_v16.trans (hk0_v12.trans hq0_v6)), (hk1_v16.trans (hk1_v12.trans hq1_v6)), (hk9_v16.trans (hk9_v12.trans hq9_v6)), (hk10_v16.trans (hk10_v12.trans hq10_v6)), (hk31_v16.trans (hk31_v12.trans hq31_v6)), (hk32_v16.trans (hk32_v12.trans hq32_v6)), (Or.inr rfl)⟩ hP hD hS dX6_expression_111 (Nat.le_refl _) (Nat.le_refl _)
          · skip
            subst g10
            refine lv_if_eq (tgt := 131) hx hb dX6_expression_80 (by decide) (fun _ => ?_) (fun c0 => absurd (by decide) c0)
            refine lv_iconst (v := 1) hx hb dX6_expression_131 (by decide) ?_
            exact ret 1 (v6, f6) _ _ _ _ _ _ rfl ⟨(hT6.symm.trans (gsX_X6_expression_1_q3 c7 hG9)), hM_v6, hA_f6, hIv6, hq0_v6, hq1_v6, hq9_v6, hq10_v6, hq31_v6, hq32_v6, (Or.inl rfl)⟩ hP hD hS dX6_expression_132 (Nat.le_refl _) (Nat.le_refl _)
    exact lp6 (4294967296 + NF) 0 v3 f4 hIv3 hq0_v3 hq1_v3 hq9_v3 hq10_v3 hq31_v3 hq32_v3 (gsX_X6_expression_1_q4 hG2).symm ⟨by decide, by decide⟩ hM_v3 hA_f4 (by have q4 : (0 : Int32).toInt = 0 := (by decide); have q3 : (1600 : Int32).toInt = 1600 := (by decide); have q1 : (0 : Int32).toInt = 0 := (by decide); have q2 : (0 : Int32).toInt = 0 := (by decide); show (2147483647 - (0 : Int32).toInt).toNat < 4294967296 + NF; omega) _ _ _ hP hD hS (lv_sub hl [0, 1, 2, 3, 4] rfl)
  · skip
    subst g5
    refine lv_if_ne (tgt := 47) hx hb dX6_expression_42 (by decide) (fun c0 => absurd (by decide) c0) (fun _ => ?_)
    refine lv_iconst (v := 0) hx hb dX6_expression_45 (by decide) ?_
    exact ret 0 (v3, f4) _ _ _ _ _ _ rfl ⟨(gsX_X6_expression_1_q5 hG2), hM_v3, hA_f4, hIv3, hk0_v3, hk1_v3, hk9_v3, hk10_v3, hk31_v3, hk32_v3, (Or.inr rfl)⟩ hP hD hS dX6_expression_46 (Nat.le_refl _) (Nat.le_refl _)
set_option maxHeartbeats 4000000 in
set_option maxRecDepth 100000 in
theorem sX_X7_set_1 (NF : Nat) (l : Launch) (dC : Nat → ClassId) (dI : Nat → Nat → Nat) (cy : Nat → ClassId) (x0 : Nat) (x : Nat → Nat) (p1 : Int32) (p2 : Int32) (v : Nat → Int32) (f : Nat → Nat → Int32) (hIv : XI v)  : ctV l (dC, dI) cy yX7_set cX7_set 3 1 60 0 0 ((Nat → Int32) × (Nat → Nat → Int32)) [.ref (x 3), .int p1, .int p2] (XW cy x0 x v f) (fun u => gsX_X7_set_1 NF p1 p2 v f = u ∧ KV [11, 12, 13, 14, 15] u.1 v ∧ KF [] u.2 f ∧ XI u.1 ∧ u.1 0 = v 0 ∧ u.1 1 = v 1 ∧ u.1 7 = v 7 ∧ u.1 8 = v 8 ∧ u.1 9 = v 9 ∧ u.1 10 = v 10 ∧ u.1 31 = v 31 ∧ u.1 32 = v 32) (fun u => XW cy x0 x u.1 u.2) := by
  refine ctV_of (by decide) (Nat.le_of_ble_eq_true rfl) (fun p e s m below meth c A ls Q hx hb hml hts hown hnm hE hP hD hA hl ret => ?_)
  have hM_v : KV [11, 12, 13, 14, 15] v v := fun _ _ => rfl
  have hA_f : KF [] f f := fun _ _ => rfl
  have hown : s.vm.findClass RX7 = some m.cls := hown
  have hS : va_S A s.heap s.heap [] := va_S.rf
  have hl : lv_has ls 3 [(0, .ref (x 3)), (1, .int p1), (2, .int p2)] := hl
  refine lv_iload_n hx hb dX7_set_0 rfl (lv_at hl 1 rfl) ?_
  by_cases c1 : p1 = 104
  · skip
    refine lv_tableIn (off := 31) (tgt := 32) hx hb dX7_set_1 (by rw [c1]; decide) (by rw [c1]; decide) (by rw [c1]; decide) (by decide) ?_
    have zc1 : p1.toInt = 104 := by rw [fa_eq, show (104 : Int32).toInt = 104 from by decide] at c1; exact c1
    refine lv_aload_n hx hb dX7_set_32 rfl (lv_at hl 0 rfl) ?_
    refine lv_iload_n hx hb dX7_set_33 rfl (lv_at hl 2 rfl) ?_
    refine va_put (D := (dC, dI)) (ci := 7) (v := .int p2) (ty := tyX7 5) (C := RX7) (T := TX7) (N := 10) hx hb hts inB_7 tyX7 tyX7_ok nmX7 hown hE.1 hP hD hS 4 rfl rfl 5 (by decide) (hts _ k_228) (fun _ h9 => h9) rfl (tyX7_ok 5 (by decide)) rfl rfl (Nat.le_of_ble_eq_true rfl) dX7_set_34 (fun H locs hP hD hS => ?_)
    have hP : va_P (dC, dI) vwCl (XW cy x0 x (upd v 11 p2) f) H := hP
    have hD : va_D A (XW cy x0 x (upd v 11 p2) f) := hD
    refine lv_goto (tgt := 69) hx hb dX7_set_37 (by decide) ?_
    exact ret ((upd v 11 p2), f) _ _ _ _ _ _ ⟨(gsX_X7_set_1_q0 c1), (KV.up (j := 11) (x := p2) hM_v rfl), hA_f, (XI.upd (j := 11) (x := p2) hIv (rlo _) (rhi _)), rfl, rfl, rfl, rfl, rfl, rfl, rfl, rfl⟩ hP hD hS dX7_set_69 (Nat.le_refl _) (Nat.le_refl _)
  · skip
    have zc1 : ¬ (p1.toInt = 104) := by rw [fa_eq, show (104 : Int32).toInt = 104 from by decide] at c1; exact c1
    by_cases c2 : p1 = 105
    · skip
      refine lv_tableIn (off := 39) (tgt := 40) hx hb dX7_set_1 (by rw [c2]; decide) (by rw [c2]; decide) (by rw [c2]; decide) (by decide) ?_
      have zc2 : p1.toInt = 105 := by rw [fa_eq, show (105 : Int32).toInt = 105 from by decide] at c2; exact c2
      refine lv_aload_n hx hb dX7_set_40 rfl (lv_at hl 0 rfl) ?_
      refine lv_iload_n hx hb dX7_set_41 rfl (lv_at hl 2 rfl) ?_
      refine va_put (D := (dC, dI)) (ci := 7) (v := .int p2) (ty := tyX7 6) (C := RX7) (T := TX7) (N := 10) hx hb hts inB_7 tyX7 tyX7_ok nmX7 hown hE.1 hP hD hS 4 rfl rfl 6 (by decide) (hts _ k_234) (fun _ h9 => h9) rfl (tyX7_ok 6 (by decide)) rfl rfl (Nat.le_of_ble_eq_true rfl) dX7_set_42 (fun H locs hP hD hS => ?_)
      have hP : va_P (dC, dI) vwCl (XW cy x0 x (upd v 12 p2) f) H := hP
      have hD : va_D A (XW cy x0 x (upd v 12 p2) f) := hD
      refine lv_goto (tgt := 69) hx hb dX7_set_45 (by decide) ?_
      exact ret ((upd v 12 p2), f) _ _ _ _ _ _ ⟨(gsX_X7_set_1_q1 c1 c2), (KV.up (j := 12) (x := p2) hM_v rfl), hA_f, (XI.upd (j := 12) (x := p2) hIv (rlo _) (rhi _)), rfl, rfl, rfl, rfl, rfl, rfl, rfl, rfl⟩ hP hD hS dX7_set_69 (Nat.le_refl _) (Nat.le_refl _)
    · skip
      have zc2 : ¬ (p1.toInt = 105) := by rw [fa_eq, show (105 : Int32).toInt = 105 from by decide] at c2; exact c2
      by_cases c3 : p1 = 106
      · skip
        refine lv_tableIn (off := 47) (tgt := 48) hx hb dX7_set_1 (by rw [c3]; decide) (by rw [c3]; decide) (by rw [c3]; decide) (by decide) ?_
        have zc3 : p1.toInt = 106 := by rw [fa_eq, show (106 : Int32).toInt = 106 from by decide] at c3; exact c3
        refine lv_aload_n hx hb dX7_set_48 rfl (lv_at hl 0 rfl) ?_
        refine lv_iload_n hx hb dX7_set_49 rfl (lv_at hl 2 rfl) ?_
        refine va_put (D := (dC, dI)) (ci := 7) (v := .int p2) (ty := tyX7 7) (C := RX7) (T := TX7) (N := 10) hx hb hts inB_7 tyX7 tyX7_ok nmX7 hown hE.1 hP hD hS 4 rfl rfl 7 (by decide) (hts _ k_237) (fun _ h9 => h9) rfl (tyX7_ok 7 (by decide)) rfl rfl (Nat.le_of_ble_eq_true rfl) dX7_set_50 (fun H locs hP hD hS => ?_)
        have hP : va_P (dC, dI) vwCl (XW cy x0 x (upd v 13 p2) f) H := hP
        have hD : va_D A (XW cy x0 x (upd v 13 p2) f) := hD
        refine lv_goto (tgt := 69) hx hb dX7_set_53 (by decide) ?_
        exact ret ((upd v 13 p2), f) _ _ _ _ _ _ ⟨(gsX_X7_set_1_q2 c1 c2 c3), (KV.up (j := 13) (x := p2) hM_v rfl), hA_f, (XI.upd (j := 13) (x := p2) hIv (rlo _) (rhi _)), rfl, rfl, rfl, rfl, rfl, rfl, rfl, rfl⟩ hP hD hS dX7_set_69 (Nat.le_refl _) (Nat.le_refl _)
      · skip
        have zc3 : ¬ (p1.toInt = 106) := by rw [fa_eq, show (106 : Int32).toInt = 106 from by decide] at c3; exact c3
        by_cases c4 : p1 = 107
        · skip
          refine lv_tableIn (off := 55) (tgt := 56) hx hb dX7_set_1 (by rw [c4]; decide) (by rw [c4]; decide) (by rw [c4]; decide) (by decide) ?_
          have zc4 : p1.toInt = 107 := by rw [fa_eq, show (107 : Int32).toInt = 107 from by decide] at c4; exact c4
          refine lv_aload_n hx hb dX7_set_56 rfl (lv_at hl 0 rfl) ?_
          refine lv_iload_n hx hb dX7_set_57 rfl (lv_at hl 2 rfl) ?_
          refine va_put (D := (dC, dI)) (ci := 7) (v := .int p2) (ty := tyX7 8) (C := RX7) (T := TX7) (N := 10) hx hb hts inB_7 tyX7 tyX7_ok nmX7 hown hE.1 hP hD hS 4 rfl rfl 8 (by decide) (hts _ k_240) (fun _ h9 => h9) rfl (tyX7_ok 8 (by decide)) rfl rfl (Nat.le_of_ble_eq_true rfl) dX7_set_58 (fun H locs hP hD hS => ?_)
          have hP : va_P (dC, dI) vwCl (XW cy x0 x (upd v 14 p2) f) H := hP
          have hD : va_D A (XW cy x0 x (upd v 14 p2) f) := hD
          refine lv_goto (tgt := 69) hx hb dX7_set_61 (by decide) ?_
          exact ret ((upd v 14 p2), f) _ _ _ _ _ _ ⟨(gsX_X7_set_1_q3 c1 c2 c3 c4), (KV.up (j := 14) (x := p2) hM_v rfl), hA_f, (XI.upd (j := 14) (x := p2) hIv (rlo _) (rhi _)), rfl, rfl, rfl, rfl, rfl, rfl, rfl, rfl⟩ hP hD hS dX7_set_69 (Nat.le_refl _) (Nat.le_refl _)
        · skip
          have zc4 : ¬ (p1.toInt = 107) := by rw [fa_eq, show (107 : Int32).toInt = 107 from by decide] at c4; exact c4
          refine lv_tableOut (tgt := 64) hx hb dX7_set_1 (by omega) (by decide) ?_
          refine lv_aload_n hx hb dX7_set_64 rfl (lv_at hl 0 rfl) ?_
          refine lv_iload_n hx hb dX7_set_65 rfl (lv_at hl 2 rfl) ?_
          refine va_put (D := (dC, dI)) (ci := 7) (v := .int p2) (ty := tyX7 9) (C := RX7) (T := TX7) (N := 10) hx hb hts inB_7 tyX7 tyX7_ok nmX7 hown hE.1 hP hD hS 4 rfl rfl 9 (by decide) (hts _ k_243) (fun _ h9 => h9) rfl (tyX7_ok 9 (by decide)) rfl rfl (Nat.le_of_ble_eq_true rfl) dX7_set_66 (fun H locs hP hD hS => ?_)
          have hP : va_P (dC, dI) vwCl (XW cy x0 x (upd v 15 p2) f) H := hP
          have hD : va_D A (XW cy x0 x (upd v 15 p2) f) := hD
          exact ret ((upd v 15 p2), f) _ _ _ _ _ _ ⟨(gsX_X7_set_1_q4 c1 c2 c3 c4), (KV.up (j := 15) (x := p2) hM_v rfl), hA_f, (XI.upd (j := 15) (x := p2) hIv (rlo _) (rhi _)), rfl, rfl, rfl, rfl, rfl, rfl, rfl, rfl⟩ hP hD hS dX7_set_69 (Nat.le_refl _) (Nat.le_refl _)
set_option maxHeartbeats 4000000 in
set_option maxRecDepth 100000 in
theorem sX_X6_settingLine_1 (NF : Nat) (l : Launch) (dC : Nat → ClassId) (dI : Nat → Nat → Nat) (cy : Nat → ClassId) (x0 : Nat) (x : Nat → Nat) (p1 : Int32) (v : Nat → Int32) (f : Nat → Nat → Int32) (hIv : XI v)  : ctIS l (dC, dI) cy yX6_settingLine cX6_settingLine 4 .boolean 8 213 0 0 ((Nat → Int32) × (Nat → Nat → Int32)) [.ref (x 2), .int p1] (XW cy x0 x v f) (fun r u => gsX_X6_settingLine_1 NF p1 v f = (r, u) ∧ KV [2, 3, 4, 5, 6, 7, 8, 11, 12, 13, 14, 15] u.1 v ∧ KF [] u.2 f ∧ XI u.1 ∧ u.1 0 = v 0 ∧ u.1 1 = v 1 ∧ u.1 9 = v 9 ∧ u.1 10 = v 10 ∧ u.1 31 = v 31 ∧ u.1 32 = v 32 ∧ ((r = 1) ∨ (r = 0))) (fun u => XW cy x0 x u.1 u.2) := by
  refine ctIS_of (by decide) (Nat.le_of_ble_eq_true rfl) (fun p e s m below meth c A ls Q hx hb hml hts hown hE hF hT hP hD hA hl ret => ?_)
  have hM_v : KV [2, 3, 4, 5, 6, 7, 8, 11, 12, 13, 14, 15] v v := fun _ _ => rfl
  have hA_f : KF [] f f := fun _ _ => rfl
  have hown : s.vm.findClass RX6 = some m.cls := hown
  have hS : va_S A s.heap s.heap [] := va_S.rf
  have hl : lv_has ls 4 [(0, .ref (x 2)), (1, .int p1)] := hl
  refine lv_aload_n hx hb dX6_settingLine_0 rfl (lv_at hl 0 rfl) ?_
  refine va_get (D := (dC, dI)) (ci := 6) (v := .ref (x 0)) (C := RX6) (T := TX6) (N := 7) hx hb hts inB_6 hown hE.1 hP 3 rfl rfl 0 (by decide) (hts _ k_265) (fun _ h9 => h9) rfl dX6_settingLine_1 ?_
  refine va_getN (D := (dC, dI)) (ci := 9) (v := .int (v 2)) (C := RX9) (T := TX9) (N := 6) hx hb hts inB_9 hown hE.1 hP 1 rfl rfl 2 (by decide) (va_Nw.use rfl (hE.2 _ k_139)) (fun _ h9 => h9) rfl dX6_settingLine_4 ?_
  refine lv_istore_n (lv' := [(2, .int (v 2)), (0, .ref (x 2)), (1, .int p1)]) hx hb dX6_settingLine_7 rfl hl (by decide) rfl (fun ls hl => ?_)
  refine lv_aload_n hx hb dX6_settingLine_8 rfl (lv_at hl 1 rfl) ?_
  refine lv_iload_n hx hb dX6_settingLine_9 rfl (lv_at hl 0 rfl) ?_
  refine csVi (n := 1) (rest := []) hx hb hml hown hts hE hP hD hS hA hF hT (sX_X6_opened_1 NF l dC dI cy x0 x (v 2) v f hIv ) k_736 k_738 k_14 k_103 k_739 (by decide +kernel) ⟨Nat.le_of_ble_eq_true rfl, Nat.le_of_ble_eq_true rfl⟩ 3 6 rfl rfl (rfl) hl.1 rfl (Nat.le_of_ble_eq_true rfl) dX6_settingLine_10 (fun r1 u H locs hw hP hD hS => ?_)
  obtain ⟨hG2, hw⟩ := hw
  obtain ⟨v3, f4⟩ := u
  obtain ⟨kV_v3, kF_f4, hIv3, hk0_v3, hk1_v3, hk9_v3, hk10_v3, hk31_v3, hk32_v3, hw⟩ := hw
  have hM_v3 : KV [2, 3, 4, 5, 6, 7, 8, 11, 12, 13, 14, 15] v3 v := KV.tr kV_v3 hM_v (by decide +kernel)
  have hA_f4 : KF [] f4 f := KF.tr kF_f4 hA_f rfl
  have hP : va_P (dC, dI) vwCl (XW cy x0 x v3 f4) H := hP
  have hD : va_D A (XW cy x0 x v3 f4) := hD
  have hq0_v3 : v3 0 = (v 0) := hk0_v3
  have hq1_v3 : v3 1 = (v 1) := hk1_v3
  have hq9_v3 : v3 9 = (v 9) := hk9_v3
  have hq10_v3 : v3 10 = (v 10) := hk10_v3
  have hq31_v3 : v3 31 = (v 31) := hk31_v3
  have hq32_v3 : v3 32 = (v 32) := hk32_v3
  rcases hw with ⟨g5⟩ | ⟨g5⟩
  · skip
    subst g5
    refine lv_if_eq (tgt := 24) hx hb dX6_settingLine_13 (by decide) (fun c0 => absurd c0 (by decide)) (fun _ => ?_)
    refine lv_aload_n hx hb dX6_settingLine_16 rfl (lv_at hl 1 rfl) ?_
    refine lv_iload_n hx hb dX6_settingLine_17 rfl (lv_at hl 2 rfl) ?_
    refine csVi (n := 1) (rest := []) hx hb hml hown hts hE hP hD hS hA hF hT (sX_X6_numbered_1 NF l dC dI cy x0 x p1 v3 f4 hIv3 ) k_712 k_714 k_10 k_103 k_715 (by decide +kernel) ⟨Nat.le_of_ble_eq_true rfl, Nat.le_of_ble_eq_true rfl⟩ 3 6 rfl rfl (rfl) hl.1 rfl (Nat.le_of_ble_eq_true rfl) dX6_settingLine_18 (fun r6 u H locs hw hP hD hS => ?_)
    obtain ⟨hG7, hw⟩ := hw
    obtain ⟨v8, f9⟩ := u
    obtain ⟨kV_v8, kF_f9, hIv8, hk0_v8, hk1_v8, hk9_v8, hk10_v8, hk31_v8, hk32_v8⟩ := hw
    have hM_v8 : KV [2, 3, 4, 5, 6, 7, 8, 11, 12, 13, 14, 15] v8 v := KV.tr kV_v8 hM_v3 (by decide +kernel)
    have hA_f9 : KF [] f9 f := KF.tr kF_f9 hA_f4 rfl
    have hP : va_P (dC, dI) vwCl (XW cy x0 x v8 f9) H := hP
    have hD : va_D A (XW cy x0 x v8 f9) := hD
    have hq0_v8 : v8 0 = (v 0) := hk0_v8.trans hq0_v3
    have hq1_v8 : v8 1 = (v 1) := hk1_v8.trans hq1_v3
    have hq9_v8 : v8 9 = (v 9) := hk9_v8.trans hq9_v3
    have hq10_v8 : v8 10 = (v 10) := hk10_v8.trans hq10_v3
    have hq31_v8 : v8 31 = (v 31) := hk31_v8.trans hq31_v3
    have hq32_v8 : v8 32 = (v 32) := hk32_v8.trans hq32_v3
    refine lv_goto (tgt := 25) hx hb dX6_settingLine_21 (by decide) ?_
    refine lv_istore_n (lv' := [(3, .int r6), (2, .int (v 2)), (0, .ref (x 2)), (1, .int p1)]) hx hb dX6_settingLine_25 rfl hl (by decide) rfl (fun ls hl => ?_)
    refine lv_iload_n hx hb dX6_settingLine_26 rfl (lv_at hl 0 rfl) ?_
    refine lv_if_ge (tgt := 32) hx hb dX6_settingLine_27 (by decide) (fun c10 => ?_) (fun c10 => ?_)
    · skip
      have zc10 : 0 ≤ r6.toInt := by rw [fa_le, show (0 : Int32).toInt = 0 from by decide] at c10; exact c10
      refine lv_aload_n hx hb dX6_settingLine_32 rfl (lv_at hl 2 rfl) ?_
      refine va_get (D := (dC, dI)) (ci := 6) (v := .ref (x 3)) (C := RX6) (T := TX6) (N := 7) hx hb hts inB_6 hown hE.1 hP 3 rfl rfl 1 (by decide) (hts _ k_266) (fun _ h9 => h9) rfl dX6_settingLine_33 ?_
      refine lv_iload_n hx hb dX6_settingLine_36 rfl (lv_at hl 1 rfl) ?_
      refine lv_iload_n hx hb dX6_settingLine_37 rfl (lv_at hl 0 rfl) ?_
      refine cbVv (n := 2) (rest := []) hx hb hml hown hts hE hP hD hS hA (sX_X7_set_1 NF l dC dI cy x0 x (v 2) r6 v8 f9 hIv8 ) k_763 k_764 k_765 k_104 k_766 (by decide +kernel) ⟨Nat.le_of_ble_eq_true rfl, Nat.le_of_ble_eq_true rfl⟩ 4 7 rfl rfl (rfl) hl.1 rfl (Nat.le_of_ble_eq_true rfl) dX6_settingLine_38 (fun u H locs hw hP hD hS => ?_)
      obtain ⟨hG11, hw⟩ := hw
      obtain ⟨v12, f13⟩ := u
      obtain ⟨kV_v12, kF_f13, hIv12, hk0_v12, hk1_v12, hk7_v12, hk8_v12, hk9_v12, hk10_v12, hk31_v12, hk32_v12⟩ := hw
      have hM_v12 : KV [2, 3, 4, 5, 6, 7, 8, 11, 12, 13, 14, 15] v12 v := KV.tr kV_v12 hM_v8 (by decide +kernel)
      have hA_f13 : KF [] f13 f := KF.tr kF_f13 hA_f9 rfl
      have hP : va_P (dC, dI) vwCl (XW cy x0 x v12 f13) H := hP
      have hD : va_D A (XW cy x0 x v12 f13) := hD
      have hq0_v12 : v12 0 = (v 0) := hk0_v12.trans hq0_v8
      have hq1_v12 : v12 1 = (v 1) := hk1_v12.trans hq1_v8
      have hq7_v12 : v12 7 = (v8 7) := hk7_v12
      have hq8_v12 : v12 8 = (v8 8) := hk8_v12
      have hq9_v12 : v12 9 = (v 9) := hk9_v12.trans hq9_v8
      have hq10_v12 : v12 10 = (v 10) := hk10_v12.trans hq10_v8
      have hq31_v12 : v12 31 = (v 31) := hk31_v12.trans hq31_v8
      have hq32_v12 : v12 32 = (v 32) := hk32_v12.trans hq32_v8
      refine lv_iconst (v := 1) hx hb dX6_settingLine_41 (by decide) ?_
      exact ret 1 (v12, f13) _ _ _ _ _ _ rfl ⟨(gsX_X6_settingLine_1_q0 hG2 hG7 c10 hG11), hM_v12, hA_f13, hIv12, (hk0_v12.trans (hk0_v8.trans hk0_v3)), (hk1_v12.trans (hk1_v8.trans hk1_v3)), (hk9_v12.trans (hk9_v8.trans hk9_v3)), (hk10_v12.trans (hk10_v8.trans hk10_v3)), (hk31_v12.trans (hk31_v8.trans hk31_v3)), (hk32_v12.trans (hk32_v8.trans hk32_v3)), (Or.inl rfl)⟩ hP hD hS dX6_settingLine_42 (Nat.le_refl _) (Nat.le_refl _)
    · skip
      have zc10 : ¬ (0 ≤ r6.toInt) := by rw [fa_le, show (0 : Int32).toInt = 0 from by decide] at c10; exact c10
      refine lv_iconst (v := 0) hx hb dX6_settingLine_30 (by decide) ?_
      exact ret 0 (v8, f9) _ _ _ _ _ _ rfl ⟨(gsX_X6_settingLine_1_q1 hG2 hG7 c10), hM_v8, hA_f9, hIv8, (hk0_v8.trans hk0_v3), (hk1_v8.trans hk1_v3), (hk9_v8.trans hk9_v3), (hk10_v8.trans hk10_v3), (hk31_v8.trans hk31_v3), (hk32_v8.trans hk32_v3), (Or.inr rfl)⟩ hP hD hS dX6_settingLine_31 (Nat.le_refl _) (Nat.le_refl _)
  · skip
    subst g5
    refine lv_if_eq (tgt := 24) hx hb dX6_settingLine_13 (by decide) (fun _ => ?_) (fun c0 => absurd (by decide) c0)
    refine lv_iconst (v := (-1)) hx hb dX6_settingLine_24 (by decide) ?_
    refine lv_istore_n (lv' := [(3, .int (-1)), (2, .int (v 2)), (0, .ref (x 2)), (1, .int p1)]) hx hb dX6_settingLine_25 rfl hl (by decide) rfl (fun ls hl => ?_)
    refine lv_iload_n hx hb dX6_settingLine_26 rfl (lv_at hl 0 rfl) ?_
    refine lv_if_ge (tgt := 32) hx hb dX6_settingLine_27 (by decide) (fun c0 => absurd c0 (by decide)) (fun _ => ?_)
    refine lv_iconst (v := 0) hx hb dX6_settingLine_30 (by decide) ?_
    exact ret 0 (v3, f4) _ _ _ _ _ _ rfl ⟨(gsX_X6_settingLine_1_q2 hG2), hM_v3, hA_f4, hIv3, hk0_v3, hk1_v3, hk9_v3, hk10_v3, hk31_v3, hk32_v3, (Or.inr rfl)⟩ hP hD hS dX6_settingLine_31 (Nat.le_refl _) (Nat.le_refl _)
set_option maxHeartbeats 4000000 in
set_option maxRecDepth 100000 in
theorem sX_X6_line_1 (NF : Nat) (l : Launch) (dC : Nat → ClassId) (dI : Nat → Nat → Nat) (cy : Nat → ClassId) (x0 : Nat) (x : Nat → Nat)  (v : Nat → Int32) (f : Nat → Nat → Int32) (hIv : XI v)  : ctIS l (dC, dI) cy yX6_line cX6_line 1 .boolean 63 1575 0 0 ((Nat → Int32) × (Nat → Nat → Int32)) [.ref (x 2)] (XW cy x0 x v f) (fun r u => gsX_X6_line_1 NF v f = (r, u) ∧ KV [2, 3, 4, 5, 6, 7, 8, 9, 10, 11, 12, 13, 14, 15, 16, 17] u.1 v ∧ KF [1, 2, 3, 4, 7, 8] u.2 f ∧ XI u.1 ∧ u.1 0 = v 0 ∧ u.1 1 = v 1 ∧ ((r = 1) ∨ (r = 0))) (fun u => XW cy x0 x u.1 u.2) := by
  refine ctIS_of (by decide) (Nat.le_of_ble_eq_true rfl) (fun p e s m below meth c A ls Q hx hb hml hts hown hE hF hT hP hD hA hl ret => ?_)
  have hM_v : KV [2, 3, 4, 5, 6, 7, 8, 9, 10, 11, 12, 13, 14, 15, 16, 17] v v := fun _ _ => rfl
  have hA_f : KF [1, 2, 3, 4, 7, 8] f f := fun _ _ => rfl
  have hown : s.vm.findClass RX6 = some m.cls := hown
  have hS : va_S A s.heap s.heap [] := va_S.rf
  have hl : lv_has ls 1 [(0, .ref (x 2))] := hl
  refine lv_aload_n hx hb dX6_line_0 rfl (lv_at hl 0 rfl) ?_
  refine va_get (D := (dC, dI)) (ci := 6) (v := .ref (x 0)) (C := RX6) (T := TX6) (N := 7) hx hb hts inB_6 hown hE.1 hP 3 rfl rfl 0 (by decide) (hts _ k_265) (fun _ h9 => h9) rfl dX6_line_1 ?_
  refine va_getN (D := (dC, dI)) (ci := 9) (v := .int (v 2)) (C := RX9) (T := TX9) (N := 6) hx hb hts inB_9 hown hE.1 hP 1 rfl rfl 2 (by decide) (va_Nw.use rfl (hE.2 _ k_139)) (fun _ h9 => h9) rfl dX6_line_4 ?_
  by_cases c1 : (v 2) = 101
  · skip
    refine lv_tableIn (off := 45) (tgt := 52) hx hb dX6_line_7 (by rw [c1]; decide) (by rw [c1]; decide) (by rw [c1]; decide) (by decide) ?_
    have zc1 : (v 2).toInt = 101 := by rw [fa_eq, show (101 : Int32).toInt = 101 from by decide] at c1; exact c1
    refine lv_aload_n hx hb dX6_line_52 rfl (lv_at hl 0 rfl) ?_
    refine csVi (n := 0) (rest := []) hx hb hml hown hts hE hP hD hS hA hF hT (sX_X6_manLine_1 NF l dC dI cy x0 x  v f hIv ) k_687 k_689 k_5 k_103 k_690 (by decide +kernel) ⟨Nat.le_of_ble_eq_true rfl, Nat.le_of_ble_eq_true rfl⟩ 3 6 rfl rfl (rfl) hl.1 rfl (Nat.le_of_ble_eq_true rfl) dX6_line_53 (fun r2 u H locs hw hP hD hS => ?_)
    obtain ⟨hG3, hw⟩ := hw
    obtain ⟨v4, f5⟩ := u
    obtain ⟨kV_v4, kF_f5, hIv4, hk0_v4, hk1_v4, hk10_v4, hk32_v4, hw⟩ := hw
    have hM_v4 : KV [2, 3, 4, 5, 6, 7, 8, 9, 10, 11, 12, 13, 14, 15, 16, 17] v4 v := KV.tr kV_v4 hM_v (by decide +kernel)
    have hA_f5 : KF [1, 2, 3, 4, 7, 8] f5 f := KF.tr kF_f5 hA_f rfl
    have hP : va_P (dC, dI) vwCl (XW cy x0 x v4 f5) H := hP
    have hD : va_D A (XW cy x0 x v4 f5) := hD
    have hq0_v4 : v4 0 = (v 0) := hk0_v4
    have hq1_v4 : v4 1 = (v 1) := hk1_v4
    have hq10_v4 : v4 10 = (v 10) := hk10_v4
    have hq32_v4 : v4 32 = (v 32) := hk32_v4
    rcases hw with ⟨g6⟩ | ⟨g6⟩
    · skip
      subst g6
      refine lv_if_eq (tgt := 70) hx hb dX6_line_56 (by decide) (fun c0 => absurd c0 (by decide)) (fun _ => ?_)
      refine lv_aload_n hx hb dX6_line_59 rfl (lv_at hl 0 rfl) ?_
      refine csVi (n := 0) (rest := []) hx hb hml hown hts hE hP hD hS hA hF hT (sX_X6_closing_1 NF l dC dI cy x0 x  v4 f5 hIv4 ) k_720 k_722 k_11 k_103 k_723 (by decide +kernel) ⟨Nat.le_of_ble_eq_true rfl, Nat.le_of_ble_eq_true rfl⟩ 3 6 rfl rfl (rfl) hl.1 rfl (Nat.le_of_ble_eq_true rfl) dX6_line_60 (fun r7 u H locs hw hP hD hS => ?_)
      obtain ⟨hG8, hw⟩ := hw
      obtain ⟨v9, f10⟩ := u
      obtain ⟨kV_v9, kF_f10, hIv9, hk0_v9, hk1_v9, hk9_v9, hk10_v9, hk31_v9, hk32_v9, hw⟩ := hw
      have hM_v9 : KV [2, 3, 4, 5, 6, 7, 8, 9, 10, 11, 12, 13, 14, 15, 16, 17] v9 v := KV.tr kV_v9 hM_v4 (by decide +kernel)
      have hA_f10 : KF [1, 2, 3, 4, 7, 8] f10 f := KF.tr kF_f10 hA_f5 rfl
      have hP : va_P (dC, dI) vwCl (XW cy x0 x v9 f10) H := hP
      have hD : va_D A (XW cy x0 x v9 f10) := hD
      have hq0_v9 : v9 0 = (v 0) := hk0_v9.trans hq0_v4
      have hq1_v9 : v9 1 = (v 1) := hk1_v9.trans hq1_v4
      have hq9_v9 : v9 9 = (v4 9) := hk9_v9
      have hq10_v9 : v9 10 = (v 10) := hk10_v9.trans hq10_v4
      have hq31_v9 : v9 31 = (v4 31) := hk31_v9
      have hq32_v9 : v9 32 = (v 32) := hk32_v9.trans hq32_v4
      rcases hw with ⟨g11⟩ | ⟨g11⟩
      · skip
        subst g11
        refine lv_if_eq (tgt := 70) hx hb dX6_line_63 (by decide) (fun c0 => absurd c0 (by decide)) (fun _ => ?_)
        refine lv_iconst (v := 1) hx hb dX6_line_66 (by decide) ?_
        refine lv_goto (tgt := 71) hx hb dX6_line_67 (by decide) ?_
        exact ret 1 (v9, f10) _ _ _ _ _ _ rfl ⟨(gsX_X6_line_1_q0 c1 hG3 hG8), hM_v9, hA_f10, hIv9, (hk0_v9.trans hk0_v4), (hk1_v9.trans hk1_v4), (Or.inl rfl)⟩ hP hD hS dX6_line_71 (Nat.le_refl _) (Nat.le_refl _)
      · skip
        subst g11
        refine lv_if_eq (tgt := 70) hx hb dX6_line_63 (by decide) (fun _ => ?_) (fun c0 => absurd (by decide) c0)
        refine lv_iconst (v := 0) hx hb dX6_line_70 (by decide) ?_
        exact ret 0 (v9, f10) _ _ _ _ _ _ rfl ⟨(gsX_X6_line_1_q1 c1 hG3 hG8), hM_v9, hA_f10, hIv9, (hk0_v9.trans hk0_v4), (hk1_v9.trans hk1_v4), (Or.inr rfl)⟩ hP hD hS dX6_line_71 (Nat.le_refl _) (Nat.le_refl _)
    · skip
      subst g6
      refine lv_if_eq (tgt := 70) hx hb dX6_line_56 (by decide) (fun _ => ?_) (fun c0 => absurd (by decide) c0)
      refine lv_iconst (v := 0) hx hb dX6_line_70 (by decide) ?_
      exact ret 0 (v4, f5) _ _ _ _ _ _ rfl ⟨(gsX_X6_line_1_q2 c1 hG3), hM_v4, hA_f5, hIv4, hk0_v4, hk1_v4, (Or.inr rfl)⟩ hP hD hS dX6_line_71 (Nat.le_refl _) (Nat.le_refl _)
  · skip
    have zc1 : ¬ ((v 2).toInt = 101) := by rw [fa_eq, show (101 : Int32).toInt = 101 from by decide] at c1; exact c1
    by_cases c12 : (v 2) = 102
    · skip
      refine lv_tableIn (off := 65) (tgt := 72) hx hb dX6_line_7 (by rw [c12]; decide) (by rw [c12]; decide) (by rw [c12]; decide) (by decide) ?_
      have zc12 : (v 2).toInt = 102 := by rw [fa_eq, show (102 : Int32).toInt = 102 from by decide] at c12; exact c12
      refine lv_aload_n hx hb dX6_line_72 rfl (lv_at hl 0 rfl) ?_
      refine csVi (n := 0) (rest := []) hx hb hml hown hts hE hP hD hS hA hF hT (sX_X6_coatLine_1 NF l dC dI cy x0 x  v f hIv ) k_728 k_730 k_13 k_103 k_731 (by decide +kernel) ⟨Nat.le_of_ble_eq_true rfl, Nat.le_of_ble_eq_true rfl⟩ 3 6 rfl rfl (rfl) hl.1 rfl (Nat.le_of_ble_eq_true rfl) dX6_line_73 (fun r13 u H locs hw hP hD hS => ?_)
      obtain ⟨hG14, hw⟩ := hw
      obtain ⟨v15, f16⟩ := u
      obtain ⟨kV_v15, kF_f16, hIv15, hk0_v15, hk1_v15, hk9_v15, hk31_v15, hw⟩ := hw
      have hM_v15 : KV [2, 3, 4, 5, 6, 7, 8, 9, 10, 11, 12, 13, 14, 15, 16, 17] v15 v := KV.tr kV_v15 hM_v (by decide +kernel)
      have hA_f16 : KF [1, 2, 3, 4, 7, 8] f16 f := KF.tr kF_f16 hA_f rfl
      have hP : va_P (dC, dI) vwCl (XW cy x0 x v15 f16) H := hP
      have hD : va_D A (XW cy x0 x v15 f16) := hD
      have hq0_v15 : v15 0 = (v 0) := hk0_v15
      have hq1_v15 : v15 1 = (v 1) := hk1_v15
      have hq9_v15 : v15 9 = (v 9) := hk9_v15
      have hq31_v15 : v15 31 = (v 31) := hk31_v15
      rcases hw with ⟨g17⟩ | ⟨g17⟩
      · skip
        subst g17
        refine lv_if_eq (tgt := 90) hx hb dX6_line_76 (by decide) (fun c0 => absurd c0 (by decide)) (fun _ => ?_)
        refine lv_aload_n hx hb dX6_line_79 rfl (lv_at hl 0 rfl) ?_
        refine csVi (n := 0) (rest := []) hx hb hml hown hts hE hP hD hS hA hF hT (sX_X6_closing_1 NF l dC dI cy x0 x  v15 f16 hIv15 ) k_720 k_722 k_11 k_103 k_723 (by decide +kernel) ⟨Nat.le_of_ble_eq_true rfl, Nat.le_of_ble_eq_true rfl⟩ 3 6 rfl rfl (rfl) hl.1 rfl (Nat.le_of_ble_eq_true rfl) dX6_line_80 (fun r18 u H locs hw hP hD hS => ?_)
        obtain ⟨hG19, hw⟩ := hw
        obtain ⟨v20, f21⟩ := u
        obtain ⟨kV_v20, kF_f21, hIv20, hk0_v20, hk1_v20, hk9_v20, hk10_v20, hk31_v20, hk32_v20, hw⟩ := hw
        have hM_v20 : KV [2, 3, 4, 5, 6, 7, 8, 9, 10, 11, 12, 13, 14, 15, 16, 17] v20 v := KV.tr kV_v20 hM_v15 (by decide +kernel)
        have hA_f21 : KF [1, 2, 3, 4, 7, 8] f21 f := KF.tr kF_f21 hA_f16 rfl
        have hP : va_P (dC, dI) vwCl (XW cy x0 x v20 f21) H := hP
        have hD : va_D A (XW cy x0 x v20 f21) := hD
        have hq0_v20 : v20 0 = (v 0) := hk0_v20.trans hq0_v15
        have hq1_v20 : v20 1 = (v 1) := hk1_v20.trans hq1_v15
        have hq9_v20 : v20 9 = (v 9) := hk9_v20.trans hq9_v15
        have hq10_v20 : v20 10 = (v15 10) := hk10_v20
        have hq31_v20 : v20 31 = (v 31) := hk31_v20.trans hq31_v15
        have hq32_v20 : v20 32 = (v15 32) := hk32_v20
        rcases hw with ⟨g22⟩ | ⟨g22⟩
        · skip
          subst g22
          refine lv_if_eq (tgt := 90) hx hb dX6_line_83 (by decide) (fun c0 => absurd c0 (by decide)) (fun _ => ?_)
          refine lv_iconst (v := 1) hx hb dX6_line_86 (by decide) ?_
          refine lv_goto (tgt := 91) hx hb dX6_line_87 (by decide) ?_
          exact ret 1 (v20, f21) _ _ _ _ _ _ rfl ⟨(gsX_X6_line_1_q3 c1 c12 hG14 hG19), hM_v20, hA_f21, hIv20, (hk0_v20.trans hk0_v15), (hk1_v20.trans hk1_v15), (Or.inl rfl)⟩ hP hD hS dX6_line_91 (Nat.le_refl _) (Nat.le_refl _)
        · skip
          subst g22
          refine lv_if_eq (tgt := 90) hx hb dX6_line_83 (by decide) (fun _ => ?_) (fun c0 => absurd (by decide) c0)
          refine lv_iconst (v := 0) hx hb dX6_line_90 (by decide) ?_
          exact ret 0 (v20, f21) _ _ _ _ _ _ rfl ⟨(gsX_X6_line_1_q4 c1 c12 hG14 hG19), hM_v20, hA_f21, hIv20, (hk0_v20.trans hk0_v15), (hk1_v20.trans hk1_v15), (Or.inr rfl)⟩ hP hD hS dX6_line_91 (Nat.le_refl _) (Nat.le_refl _)
      · skip
        subst g17
        refine lv_if_eq (tgt := 90) hx hb dX6_line_76 (by decide) (fun _ => ?_) (fun c0 => absurd (by decide) c0)
        refine lv_iconst (v := 0) hx hb dX6_line_90 (by decide) ?_
        exact ret 0 (v15, f16) _ _ _ _ _ _ rfl ⟨(gsX_X6_line_1_q5 c1 c12 hG14), hM_v15, hA_f16, hIv15, hk0_v15, hk1_v15, (Or.inr rfl)⟩ hP hD hS dX6_line_91 (Nat.le_refl _) (Nat.le_refl _)
    · skip
      have zc12 : ¬ ((v 2).toInt = 102) := by rw [fa_eq, show (102 : Int32).toInt = 102 from by decide] at c12; exact c12
      by_cases c23 : (v 2) = 103
      · skip
        refine lv_tableIn (off := 85) (tgt := 92) hx hb dX6_line_7 (by rw [c23]; decide) (by rw [c23]; decide) (by rw [c23]; decide) (by decide) ?_
        have zc23 : (v 2).toInt = 103 := by rw [fa_eq, show (103 : Int32).toInt = 103 from by decide] at c23; exact c23
        refine lv_aload_n hx hb dX6_line_92 rfl (lv_at hl 0 rfl) ?_
        refine lv_bipush (v := 103) hx hb dX6_line_93 (by decide) ?_
        refine csVi (n := 1) (rest := []) hx hb hml hown hts hE hP hD hS hA hF hT (sX_X6_opened_1 NF l dC dI cy x0 x 103 v f hIv ) k_736 k_738 k_14 k_103 k_739 (by decide +kernel) ⟨Nat.le_of_ble_eq_true rfl, Nat.le_of_ble_eq_true rfl⟩ 3 6 rfl rfl (rfl) hl.1 rfl (Nat.le_of_ble_eq_true rfl) dX6_line_95 (fun r24 u H locs hw hP hD hS => ?_)
        obtain ⟨hG25, hw⟩ := hw
        obtain ⟨v26, f27⟩ := u
        obtain ⟨kV_v26, kF_f27, hIv26, hk0_v26, hk1_v26, hk9_v26, hk10_v26, hk31_v26, hk32_v26, hw⟩ := hw
        have hM_v26 : KV [2, 3, 4, 5, 6, 7, 8, 9, 10, 11, 12, 13, 14, 15, 16, 17] v26 v := KV.tr kV_v26 hM_v (by decide +kernel)
        have hA_f27 : KF [1, 2, 3, 4, 7, 8] f27 f := KF.tr kF_f27 hA_f rfl
        have hP : va_P (dC, dI) vwCl (XW cy x0 x v26 f27) H := hP
        have hD : va_D A (XW cy x0 x v26 f27) := hD
        have hq0_v26 : v26 0 = (v 0) := hk0_v26
        have hq1_v26 : v26 1 = (v 1) := hk1_v26
        have hq9_v26 : v26 9 = (v 9) := hk9_v26
        have hq10_v26 : v26 10 = (v 10) := hk10_v26
        have hq31_v26 : v26 31 = (v 31) := hk31_v26
        have hq32_v26 : v26 32 = (v 32) := hk32_v26
        rcases hw with ⟨g28⟩ | ⟨g28⟩
        · skip
          subst g28
          refine lv_if_eq (tgt := 121) hx hb dX6_line_98 (by decide) (fun c0 => absurd c0 (by decide)) (fun _ => ?_)
          refine lv_aload_n hx hb dX6_line_101 rfl (lv_at hl 0 rfl) ?_
          refine lv_iconst (v := 0) hx hb dX6_line_102 (by decide) ?_
          refine lv_iconst (v := 0) hx hb dX6_line_103 (by decide) ?_
          refine csVi (n := 2) (rest := []) hx hb hml hown hts hE hP hD hS hA hF hT (sX_X6_expression_1 NF l dC dI cy x0 x  v26 f27 hIv26 ) k_740 k_742 k_15 k_103 k_743 (by decide +kernel) ⟨Nat.le_of_ble_eq_true rfl, Nat.le_of_ble_eq_true rfl⟩ 3 6 rfl rfl (rfl) hl.1 rfl (Nat.le_of_ble_eq_true rfl) dX6_line_104 (fun r29 u H locs hw hP hD hS => ?_)
          obtain ⟨hG30, hw⟩ := hw
          obtain ⟨v31, f32⟩ := u
          obtain ⟨kV_v31, kF_f32, hIv31, hk0_v31, hk1_v31, hk9_v31, hk10_v31, hk31_v31, hk32_v31, hw⟩ := hw
          have hM_v31 : KV [2, 3, 4, 5, 6, 7, 8, 9, 10, 11, 12, 13, 14, 15, 16, 17] v31 v := KV.tr kV_v31 hM_v26 (by decide +kernel)
          have hA_f32 : KF [1, 2, 3, 4, 7, 8] f32 f := KF.tr kF_f32 hA_f27 rfl
          have hP : va_P (dC, dI) vwCl (XW cy x0 x v31 f32) H := hP
          have hD : va_D A (XW cy x0 x v31 f32) := hD
          have hq0_v31 : v31 0 = (v 0) := hk0_v31.trans hq0_v26
          have hq1_v31 : v31 1 = (v 1) := hk1_v31.trans hq1_v26
          have hq9_v31 : v31 9 = (v 9) := hk9_v31.trans hq9_v26
          have hq10_v31 : v31 10 = (v 10) := hk10_v31.trans hq10_v26
          have hq31_v31 : v31 31 = (v 31) := hk31_v31.trans hq31_v26
          have hq32_v31 : v31 32 = (v 32) := hk32_v31.trans hq32_v26
          rcases hw with ⟨g33⟩ | ⟨g33⟩
          · skip
            subst g33
            refine lv_if_eq (tgt := 121) hx hb dX6_line_107 (by decide) (fun c0 => absurd c0 (by decide)) (fun _ => ?_)
            refine lv_aload_n hx hb dX6_line_110 rfl (lv_at hl 0 rfl) ?_
            refine csVi (n := 0) (rest := []) hx hb hml hown hts hE hP hD hS hA hF hT (sX_X6_closing_1 NF l dC dI cy x0 x  v31 f32 hIv31 ) k_720 k_722 k_11 k_103 k_723 (by decide +kernel) ⟨Nat.le_of_ble_eq_true rfl, Nat.le_of_ble_eq_true rfl⟩ 3 6 rfl rfl (rfl) hl.1 rfl (Nat.le_of_ble_eq_true rfl) dX6_line_111 (fun r34 u H locs hw hP hD hS => ?_)
            obtain ⟨hG35, hw⟩ := hw
            obtain ⟨v36, f37⟩ := u
            obtain ⟨kV_v36, kF_f37, hIv36, hk0_v36, hk1_v36, hk9_v36, hk10_v36, hk31_v36, hk32_v36, hw⟩ := hw
            have hM_v36 : KV [2, 3, 4, 5, 6, 7, 8, 9, 10, 11, 12, 13, 14, 15, 16, 17] v36 v := KV.tr kV_v36 hM_v31 (by decide +kernel)
            have hA_f37 : KF [1, 2, 3, 4, 7, 8] f37 f := KF.tr kF_f37 hA_f32 rfl
            have hP : va_P (dC, dI) vwCl (XW cy x0 x v36 f37) H := hP
            have hD : va_D A (XW cy x0 x v36 f37) := hD
            have hq0_v36 : v36 0 = (v 0) := hk0_v36.trans hq0_v31
            have hq1_v36 : v36 1 = (v 1) := hk1_v36.trans hq1_v31
            have hq9_v36 : v36 9 = (v 9) := hk9_v36.trans hq9_v31
            have hq10_v36 : v36 10 = (v 10) := hk10_v36.trans hq10_v31
            have hq31_v36 : v36 31 = (v 31) := hk31_v36.trans hq31_v31
            have hq32_v36 : v36 32 = (v 32) := hk32_v36.trans hq32_v31
            rcases hw with ⟨g38⟩ | ⟨g38⟩
            · skip
              subst g38
              refine lv_if_eq (tgt := 121) hx hb dX6_line_114 (by decide) (fun c0 => absurd c0 (by decide)) (fun _ => ?_)
              refine lv_iconst (v := 1) hx hb dX6_line_117 (by decide) ?_
              refine lv_goto (tgt := 122) hx hb dX6_line_118 (by decide) ?_
              exact ret 1 (v36, f37) _ _ _ _ _ _ rfl ⟨(gsX_X6_line_1_q6 c1 c12 c23 hG25 hG30 hG35), hM_v36, hA_f37, hIv36, (hk0_v36.trans (hk0_v31.trans hk0_v26)), (hk1_v36.trans (hk1_v31.trans hk1_v26)), (Or.inl rfl)⟩ hP hD hS dX6_line_122 (Nat.le_refl _) (Nat.le_refl _)
            · skip
              subst g38
              refine lv_if_eq (tgt := 121) hx hb dX6_line_114 (by decide) (fun _ => ?_) (fun c0 => absurd (by decide) c0)
              refine lv_iconst (v := 0) hx hb dX6_line_121 (by decide) ?_
              exact ret 0 (v36, f37) _ _ _ _ _ _ rfl ⟨(gsX_X6_line_1_q7 c1 c12 c23 hG25 hG30 hG35), hM_v36, hA_f37, hIv36, (hk0_v36.trans (hk0_v31.trans hk0_v26)), (hk1_v36.trans (hk1_v31.trans hk1_v26)), (Or.inr rfl)⟩ hP hD hS dX6_line_122 (Nat.le_refl _) (Nat.le_refl _)
          · skip
            subst g33
            refine lv_if_eq (tgt := 121) hx hb dX6_line_107 (by decide) (fun _ => ?_) (fun c0 => absurd (by decide) c0)
            refine lv_iconst (v := 0) hx hb dX6_line_121 (by decide) ?_
            exact ret 0 (v31, f32) _ _ _ _ _ _ rfl ⟨(gsX_X6_line_1_q8 c1 c12 c23 hG25 hG30), hM_v31, hA_f32, hIv31, (hk0_v31.trans hk0_v26), (hk1_v31.trans hk1_v26), (Or.inr rfl)⟩ hP hD hS dX6_line_122 (Nat.le_refl _) (Nat.le_refl _)
        · skip
          subst g28
          refine lv_if_eq (tgt := 121) hx hb dX6_line_98 (by decide) (fun _ => ?_) (fun c0 => absurd (by decide) c0)
          refine lv_iconst (v := 0) hx hb dX6_line_121 (by decide) ?_
          exact ret 0 (v26, f27) _ _ _ _ _ _ rfl ⟨(gsX_X6_line_1_q9 c1 c12 c23 hG25), hM_v26, hA_f27, hIv26, hk0_v26, hk1_v26, (Or.inr rfl)⟩ hP hD hS dX6_line_122 (Nat.le_refl _) (Nat.le_refl _)
      · skip
        have zc23 : ¬ ((v 2).toInt = 103) := by rw [fa_eq, show (103 : Int32).toInt = 103 from by decide] at c23; exact c23
        by_cases c39 : (v 2) = 104
        · skip
          refine lv_tableIn (off := 116) (tgt := 123) hx hb dX6_line_7 (by rw [c39]; decide) (by rw [c39]; decide) (by rw [c39]; decide) (by decide) ?_
          have zc39 : (v 2).toInt = 104 := by rw [fa_eq, show (104 : Int32).toInt = 104 from by decide] at c39; exact c39
          refine lv_aload_n hx hb dX6_line_123 rfl (lv_at hl 0 rfl) ?_
          refine lv_sipush (v := 999) hx hb dX6_line_124 (by decide) ?_
          refine csVi (n := 1) (rest := []) hx hb hml hown hts hE hP hD hS hA hF hT (sX_X6_settingLine_1 NF l dC dI cy x0 x 999 v f hIv ) k_759 k_761 k_18 k_103 k_762 (by decide +kernel) ⟨Nat.le_of_ble_eq_true rfl, Nat.le_of_ble_eq_true rfl⟩ 3 6 rfl rfl (rfl) hl.1 rfl (Nat.le_of_ble_eq_true rfl) dX6_line_127 (fun r40 u H locs hw hP hD hS => ?_)
          obtain ⟨hG41, hw⟩ := hw
          obtain ⟨v42, f43⟩ := u
          obtain ⟨kV_v42, kF_f43, hIv42, hk0_v42, hk1_v42, hk9_v42, hk10_v42, hk31_v42, hk32_v42, hw⟩ := hw
          have hM_v42 : KV [2, 3, 4, 5, 6, 7, 8, 9, 10, 11, 12, 13, 14, 15, 16, 17] v42 v := KV.tr kV_v42 hM_v (by decide +kernel)
          have hA_f43 : KF [1, 2, 3, 4, 7, 8] f43 f := KF.tr kF_f43 hA_f rfl
          have hP : va_P (dC, dI) vwCl (XW cy x0 x v42 f43) H := hP
          have hD : va_D A (XW cy x0 x v42 f43) := hD
          have hq0_v42 : v42 0 = (v 0) := hk0_v42
          have hq1_v42 : v42 1 = (v 1) := hk1_v42
          have hq9_v42 : v42 9 = (v 9) := hk9_v42
          have hq10_v42 : v42 10 = (v 10) := hk10_v42
          have hq31_v42 : v42 31 = (v 31) := hk31_v42
          have hq32_v42 : v42 32 = (v 32) := hk32_v42
          rcases hw with ⟨g44⟩ | ⟨g44⟩
          · skip
            subst g44
            refine lv_if_eq (tgt := 144) hx hb dX6_line_130 (by decide) (fun c0 => absurd c0 (by decide)) (fun _ => ?_)
            refine lv_aload_n hx hb dX6_line_133 rfl (lv_at hl 0 rfl) ?_
            refine csVi (n := 0) (rest := []) hx hb hml hown hts hE hP hD hS hA hF hT (sX_X6_closing_1 NF l dC dI cy x0 x  v42 f43 hIv42 ) k_720 k_722 k_11 k_103 k_723 (by decide +kernel) ⟨Nat.le_of_ble_eq_true rfl, Nat.le_of_ble_eq_true rfl⟩ 3 6 rfl rfl (rfl) hl.1 rfl (Nat.le_of_ble_eq_true rfl) dX6_line_134 (fun r45 u H locs hw hP hD hS => ?_)
            obtain ⟨hG46, hw⟩ := hw
            obtain ⟨v47, f48⟩ := u
            obtain ⟨kV_v47, kF_f48, hIv47, hk0_v47, hk1_v47, hk9_v47, hk10_v47, hk31_v47, hk32_v47, hw⟩ := hw
            have hM_v47 : KV [2, 3, 4, 5, 6, 7, 8, 9, 10, 11, 12, 13, 14, 15, 16, 17] v47 v := KV.tr kV_v47 hM_v42 (by decide +kernel)
            have hA_f48 : KF [1, 2, 3, 4, 7, 8] f48 f := KF.tr kF_f48 hA_f43 rfl
            have hP : va_P (dC, dI) vwCl (XW cy x0 x v47 f48) H := hP
            have hD : va_D A (XW cy x0 x v47 f48) := hD
            have hq0_v47 : v47 0 = (v 0) := hk0_v47.trans hq0_v42
            have hq1_v47 : v47 1 = (v 1) := hk1_v47.trans hq1_v42
            have hq9_v47 : v47 9 = (v 9) := hk9_v47.trans hq9_v42
            have hq10_v47 : v47 10 = (v 10) := hk10_v47.trans hq10_v42
            have hq31_v47 : v47 31 = (v 31) := hk31_v47.trans hq31_v42
            have hq32_v47 : v47 32 = (v 32) := hk32_v47.trans hq32_v42
            rcases hw with ⟨g49⟩ | ⟨g49⟩
            · skip
              subst g49
              refine lv_if_eq (tgt := 144) hx hb dX6_line_137 (by decide) (fun c0 => absurd c0 (by decide)) (fun _ => ?_)
              refine lv_iconst (v := 1) hx hb dX6_line_140 (by decide) ?_
              refine lv_goto (tgt := 145) hx hb dX6_line_141 (by decide) ?_
              exact ret 1 (v47, f48) _ _ _ _ _ _ rfl ⟨(gsX_X6_line_1_q10 c1 c12 c23 c39 hG41 hG46), hM_v47, hA_f48, hIv47, (hk0_v47.trans hk0_v42), (hk1_v47.trans hk1_v42), (Or.inl rfl)⟩ hP hD hS dX6_line_145 (Nat.le_refl _) (Nat.le_refl _)
            · skip
              subst g49
              refine lv_if_eq (tgt := 144) hx hb dX6_line_137 (by decide) (fun _ => ?_) (fun c0 => absurd (by decide) c0)
              refine lv_iconst (v := 0) hx hb dX6_line_144 (by decide) ?_
              exact ret 0 (v47, f48) _ _ _ _ _ _ rfl ⟨(gsX_X6_line_1_q11 c1 c12 c23 c39 hG41 hG46), hM_v47, hA_f48, hIv47, (hk0_v47.trans hk0_v42), (hk1_v47.trans hk1_v42), (Or.inr rfl)⟩ hP hD hS dX6_line_145 (Nat.le_refl _) (Nat.le_refl _)
          · skip
            subst g44
            refine lv_if_eq (tgt := 144) hx hb dX6_line_130 (by decide) (fun _ => ?_) (fun c0 => absurd (by decide) c0)
            refine lv_iconst (v := 0) hx hb dX6_line_144 (by decide) ?_
            exact ret 0 (v42, f43) _ _ _ _ _ _ rfl ⟨(gsX_X6_line_1_q12 c1 c12 c23 c39 hG41), hM_v42, hA_f43, hIv42, hk0_v42, hk1_v42, (Or.inr rfl)⟩ hP hD hS dX6_line_145 (Nat.le_refl _) (Nat.le_refl _)
        · skip
          have zc39 : ¬ ((v 2).toInt = 104) := by rw [fa_eq, show (104 : Int32).toInt = 104 from by decide] at c39; exact c39
          by_cases c50 : (v 2) = 105
          · skip
            refine lv_tableIn (off := 116) (tgt := 123) hx hb dX6_line_7 (by rw [c50]; decide) (by rw [c50]; decide) (by rw [c50]; decide) (by decide) ?_
            have zc50 : (v 2).toInt = 105 := by rw [fa_eq, show (105 : Int32).toInt = 105 from by decide] at c50; exact c50
            refine lv_aload_n hx hb dX6_line_123 rfl (lv_at hl 0 rfl) ?_
            refine lv_sipush (v := 999) hx hb dX6_line_124 (by decide) ?_
            refine csVi (n := 1) (rest := []) hx hb hml hown hts hE hP hD hS hA hF hT (sX_X6_settingLine_1 NF l dC dI cy x0 x 999 v f hIv ) k_759 k_761 k_18 k_103 k_762 (by decide +kernel) ⟨Nat.le_of_ble_eq_true rfl, Nat.le_of_ble_eq_true rfl⟩ 3 6 rfl rfl (rfl) hl.1 rfl (Nat.le_of_ble_eq_true rfl) dX6_line_127 (fun r51 u H locs hw hP hD hS => ?_)
            obtain ⟨hG52, hw⟩ := hw
            obtain ⟨v53, f54⟩ := u
            obtain ⟨kV_v53, kF_f54, hIv53, hk0_v53, hk1_v53, hk9_v53, hk10_v53, hk31_v53, hk32_v53, hw⟩ := hw
            have hM_v53 : KV [2, 3, 4, 5, 6, 7, 8, 9, 10, 11, 12, 13, 14, 15, 16, 17] v53 v := KV.tr kV_v53 hM_v (by decide +kernel)
            have hA_f54 : KF [1, 2, 3, 4, 7, 8] f54 f := KF.tr kF_f54 hA_f rfl
            have hP : va_P (dC, dI) vwCl (XW cy x0 x v53 f54) H := hP
            have hD : va_D A (XW cy x0 x v53 f54) := hD
            have hq0_v53 : v53 0 = (v 0) := hk0_v53
            have hq1_v53 : v53 1 = (v 1) := hk1_v53
            have hq9_v53 : v53 9 = (v 9) := hk9_v53
            have hq10_v53 : v53 10 = (v 10) := hk10_v53
            have hq31_v53 : v53 31 = (v 31) := hk31_v53
            have hq32_v53 : v53 32 = (v 32) := hk32_v53
            rcases hw with ⟨g55⟩ | ⟨g55⟩
            · skip
              subst g55
              refine lv_if_eq (tgt := 144) hx hb dX6_line_130 (by decide) (fun c0 => absurd c0 (by decide)) (fun _ => ?_)
              refine lv_aload_n hx hb dX6_line_133 rfl (lv_at hl 0 rfl) ?_
              refine csVi (n := 0) (rest := []) hx hb hml hown hts hE hP hD hS hA hF hT (sX_X6_closing_1 NF l dC dI cy x0 x  v53 f54 hIv53 ) k_720 k_722 k_11 k_103 k_723 (by decide +kernel) ⟨Nat.le_of_ble_eq_true rfl, Nat.le_of_ble_eq_true rfl⟩ 3 6 rfl rfl (rfl) hl.1 rfl (Nat.le_of_ble_eq_true rfl) dX6_line_134 (fun r56 u H locs hw hP hD hS => ?_)
              obtain ⟨hG57, hw⟩ := hw
              obtain ⟨v58, f59⟩ := u
              obtain ⟨kV_v58, kF_f59, hIv58, hk0_v58, hk1_v58, hk9_v58, hk10_v58, hk31_v58, hk32_v58, hw⟩ := hw
              have hM_v58 : KV [2, 3, 4, 5, 6, 7, 8, 9, 10, 11, 12, 13, 14, 15, 16, 17] v58 v := KV.tr kV_v58 hM_v53 (by decide +kernel)
              have hA_f59 : KF [1, 2, 3, 4, 7, 8] f59 f := KF.tr kF_f59 hA_f54 rfl
              have hP : va_P (dC, dI) vwCl (XW cy x0 x v58 f59) H := hP
              have hD : va_D A (XW cy x0 x v58 f59) := hD
              have hq0_v58 : v58 0 = (v 0) := hk0_v58.trans hq0_v53
              have hq1_v58 : v58 1 = (v 1) := hk1_v58.trans hq1_v53
              have hq9_v58 : v58 9 = (v 9) := hk9_v58.trans hq9_v53
              have hq10_v58 : v58 10 = (v 10) := hk10_v58.trans hq10_v53
              have hq31_v58 : v58 31 = (v 31) := hk31_v58.trans hq31_v53
              have hq32_v58 : v58 32 = (v 32) := hk32_v58.trans hq32_v53
              rcases hw with ⟨g60⟩ | ⟨g60⟩
              · skip
                subst g60
                refine lv_if_eq (tgt := 144) hx hb dX6_line_137 (by decide) (fun c0 => absurd c0 (by decide)) (fun _ => ?_)
                refine lv_iconst (v := 1) hx hb dX6_line_140 (by decide) ?_
                refine lv_goto (tgt := 145) hx hb dX6_line_141 (by decide) ?_
                exact ret 1 (v58, f59) _ _ _ _ _ _ rfl ⟨(gsX_X6_line_1_q13 c1 c12 c23 c39 c50 hG52 hG57), hM_v58, hA_f59, hIv58, (hk0_v58.trans hk0_v53), (hk1_v58.trans hk1_v53), (Or.inl rfl)⟩ hP hD hS dX6_line_145 (Nat.le_refl _) (Nat.le_refl _)
              · skip
                subst g60
                refine lv_if_eq (tgt := 144) hx hb dX6_line_137 (by decide) (fun _ => ?_) (fun c0 => absurd (by decide) c0)
                refine lv_iconst (v := 0) hx hb dX6_line_144 (by decide) ?_
                exact ret 0 (v58, f59) _ _ _ _ _ _ rfl ⟨(gsX_X6_line_1_q14 c1 c12 c23 c39 c50 hG52 hG57), hM_v58, hA_f59, hIv58, (hk0_v58.trans hk0_v53), (hk1_v58.trans hk1_v53), (Or.inr rfl)⟩ hP hD hS dX6_line_145 (Nat.le_refl _) (Nat.le_refl _)
            · skip
              subst g55
              refine lv_if_eq (tgt := 144) hx hb dX6_line_130 (by decide) (fun _ => ?_) (fun c0 => absurd (by decide) c0)
              refine lv_iconst (v := 0) hx hb dX6_line_144 (by decide) ?_
              exact ret 0 (v53, f54) _ _ _ _ _ _ rfl ⟨(gsX_X6_line_1_q15 c1 c12 c23 c39 c50 hG52), hM_v53, hA_f54, hIv53, hk0_v53, hk1_v53, (Or.inr rfl)⟩ hP hD hS dX6_line_145 (Nat.le_refl _) (Nat.le_refl _)
          · skip
            have zc50 : ¬ ((v 2).toInt = 105) := by rw [fa_eq, show (105 : Int32).toInt = 105 from by decide] at c50; exact c50
            by_cases c61 : (v 2) = 106
            · skip
              refine lv_tableIn (off := 139) (tgt := 146) hx hb dX6_line_7 (by rw [c61]; decide) (by rw [c61]; decide) (by rw [c61]; decide) (by decide) ?_
              have zc61 : (v 2).toInt = 106 := by rw [fa_eq, show (106 : Int32).toInt = 106 from by decide] at c61; exact c61
              refine lv_aload_n hx hb dX6_line_146 rfl (lv_at hl 0 rfl) ?_
              refine lv_bipush (v := 99) hx hb dX6_line_147 (by decide) ?_
              refine csVi (n := 1) (rest := []) hx hb hml hown hts hE hP hD hS hA hF hT (sX_X6_settingLine_1 NF l dC dI cy x0 x 99 v f hIv ) k_759 k_761 k_18 k_103 k_762 (by decide +kernel) ⟨Nat.le_of_ble_eq_true rfl, Nat.le_of_ble_eq_true rfl⟩ 3 6 rfl rfl (rfl) hl.1 rfl (Nat.le_of_ble_eq_true rfl) dX6_line_149 (fun r62 u H locs hw hP hD hS => ?_)
              obtain ⟨hG63, hw⟩ := hw
              obtain ⟨v64, f65⟩ := u
              obtain ⟨kV_v64, kF_f65, hIv64, hk0_v64, hk1_v64, hk9_v64, hk10_v64, hk31_v64, hk32_v64, hw⟩ := hw
              have hM_v64 : KV [2, 3, 4, 5, 6, 7, 8, 9, 10, 11, 12, 13, 14, 15, 16, 17] v64 v := KV.tr kV_v64 hM_v (by decide +kernel)
              have hA_f65 : KF [1, 2, 3, 4, 7, 8] f65 f := KF.tr kF_f65 hA_f rfl
              have hP : va_P (dC, dI) vwCl (XW cy x0 x v64 f65) H := hP
              have hD : va_D A (XW cy x0 x v64 f65) := hD
              have hq0_v64 : v64 0 = (v 0) := hk0_v64
              have hq1_v64 : v64 1 = (v 1) := hk1_v64
              have hq9_v64 : v64 9 = (v 9) := hk9_v64
              have hq10_v64 : v64 10 = (v 10) := hk10_v64
              have hq31_v64 : v64 31 = (v 31) := hk31_v64
              have hq32_v64 : v64 32 = (v 32) := hk32_v64
              rcases hw with ⟨g66⟩ | ⟨g66⟩
              · skip
                subst g66
                refine lv_if_eq (tgt := 166) hx hb dX6_line_152 (by decide) (fun c0 => absurd c0 (by decide)) (fun _ => ?_)
                refine lv_aload_n hx hb dX6_line_155 rfl (lv_at hl 0 rfl) ?_
                refine csVi (n := 0) (rest := []) hx hb hml hown hts hE hP hD hS hA hF hT (sX_X6_closing_1 NF l dC dI cy x0 x  v64 f65 hIv64 ) k_720 k_722 k_11 k_103 k_723 (by decide +kernel) ⟨Nat.le_of_ble_eq_true rfl, Nat.le_of_ble_eq_true rfl⟩ 3 6 rfl rfl (rfl) hl.1 rfl (Nat.le_of_ble_eq_true rfl) dX6_line_156 (fun r67 u H locs hw hP hD hS => ?_)
                obtain ⟨hG68, hw⟩ := hw
                obtain ⟨v69, f70⟩ := u
                obtain ⟨kV_v69, kF_f70, hIv69, hk0_v69, hk1_v69, hk9_v69, hk10_v69, hk31_v69, hk32_v69, hw⟩ := hw
                have hM_v69 : KV [2, 3, 4, 5, 6, 7, 8, 9, 10, 11, 12, 13, 14, 15, 16, 17] v69 v := KV.tr kV_v69 hM_v64 (by decide +kernel)
                have hA_f70 : KF [1, 2, 3, 4, 7, 8] f70 f := KF.tr kF_f70 hA_f65 rfl
                have hP : va_P (dC, dI) vwCl (XW cy x0 x v69 f70) H := hP
                have hD : va_D A (XW cy x0 x v69 f70) := hD
                have hq0_v69 : v69 0 = (v 0) := hk0_v69.trans hq0_v64
                have hq1_v69 : v69 1 = (v 1) := hk1_v69.trans hq1_v64
                have hq9_v69 : v69 9 = (v 9) := hk9_v69.trans hq9_v64
                have hq10_v69 : v69 10 = (v 10) := hk10_v69.trans hq10_v64
                have hq31_v69 : v69 31 = (v 31) := hk31_v69.trans hq31_v64
                have hq32_v69 : v69 32 = (v 32) := hk32_v69.trans hq32_v64
                rcases hw with ⟨g71⟩ | ⟨g71⟩
                · skip
                  subst g71
                  refine lv_if_eq (tgt := 166) hx hb dX6_line_159 (by decide) (fun c0 => absurd c0 (by decide)) (fun _ => ?_)
                  refine lv_iconst (v := 1) hx hb dX6_line_162 (by decide) ?_
                  refine lv_goto (tgt := 167) hx hb dX6_line_163 (by decide) ?_
                  exact ret 1 (v69, f70) _ _ _ _ _ _ rfl ⟨(gsX_X6_line_1_q16 c1 c12 c23 c39 c50 c61 hG63 hG68), hM_v69, hA_f70, hIv69, (hk0_v69.trans hk0_v64), (hk1_v69.trans hk1_v64), (Or.inl rfl)⟩ hP hD hS dX6_line_167 (Nat.le_refl _) (Nat.le_refl _)
                · skip
                  subst g71
                  refine lv_if_eq (tgt := 166) hx hb dX6_line_159 (by decide) (fun _ => ?_) (fun c0 => absurd (by decide) c0)
                  refine lv_iconst (v := 0) hx hb dX6_line_166 (by decide) ?_
                  exact ret 0 (v69, f70) _ _ _ _ _ _ rfl ⟨(gsX_X6_line_1_q17 c1 c12 c23 c39 c50 c61 hG63 hG68), hM_v69, hA_f70, hIv69, (hk0_v69.trans hk0_v64), (hk1_v69.trans hk1_v64), (Or.inr rfl)⟩ hP hD hS dX6_line_167 (Nat.le_refl _) (Nat.le_refl _)
              · skip
                subst g66
                refine lv_if_eq (tgt := 166) hx hb dX6_line_152 (by decide) (fun _ => ?_) (fun c0 => absurd (by decide) c0)
                refine lv_iconst (v := 0) hx hb dX6_line_166 (by decide) ?_
                exact ret 0 (v64, f65) _ _ _ _ _ _ rfl ⟨(gsX_X6_line_1_q18 c1 c12 c23 c39 c50 c61 hG63), hM_v64, hA_f65, hIv64, hk0_v64, hk1_v64, (Or.inr rfl)⟩ hP hD hS dX6_line_167 (Nat.le_refl _) (Nat.le_refl _)
            · skip
              have zc61 : ¬ ((v 2).toInt = 106) := by rw [fa_eq, show (106 : Int32).toInt = 106 from by decide] at c61; exact c61
              by_cases c72 : (v 2) = 107
              · skip
                refine lv_tableIn (off := 161) (tgt := 168) hx hb dX6_line_7 (by rw [c72]; decide) (by rw [c72]; decide) (by rw [c72]; decide) (by decide) ?_
                have zc72 : (v 2).toInt = 107 := by rw [fa_eq, show (107 : Int32).toInt = 107 from by decide] at c72; exact c72
                refine lv_aload_n hx hb dX6_line_168 rfl (lv_at hl 0 rfl) ?_
                refine lv_bipush (v := 100) hx hb dX6_line_169 (by decide) ?_
                refine csVi (n := 1) (rest := []) hx hb hml hown hts hE hP hD hS hA hF hT (sX_X6_settingLine_1 NF l dC dI cy x0 x 100 v f hIv ) k_759 k_761 k_18 k_103 k_762 (by decide +kernel) ⟨Nat.le_of_ble_eq_true rfl, Nat.le_of_ble_eq_true rfl⟩ 3 6 rfl rfl (rfl) hl.1 rfl (Nat.le_of_ble_eq_true rfl) dX6_line_171 (fun r73 u H locs hw hP hD hS => ?_)
                obtain ⟨hG74, hw⟩ := hw
                obtain ⟨v75, f76⟩ := u
                obtain ⟨kV_v75, kF_f76, hIv75, hk0_v75, hk1_v75, hk9_v75, hk10_v75, hk31_v75, hk32_v75, hw⟩ := hw
                have hM_v75 : KV [2, 3, 4, 5, 6, 7, 8, 9, 10, 11, 12, 13, 14, 15, 16, 17] v75 v := KV.tr kV_v75 hM_v (by decide +kernel)
                have hA_f76 : KF [1, 2, 3, 4, 7, 8] f76 f := KF.tr kF_f76 hA_f rfl
                have hP : va_P (dC, dI) vwCl (XW cy x0 x v75 f76) H := hP
                have hD : va_D A (XW cy x0 x v75 f76) := hD
                have hq0_v75 : v75 0 = (v 0) := hk0_v75
                have hq1_v75 : v75 1 = (v 1) := hk1_v75
                have hq9_v75 : v75 9 = (v 9) := hk9_v75
                have hq10_v75 : v75 10 = (v 10) := hk10_v75
                have hq31_v75 : v75 31 = (v 31) := hk31_v75
                have hq32_v75 : v75 32 = (v 32) := hk32_v75
                rcases hw with ⟨g77⟩ | ⟨g77⟩
                · skip
                  subst g77
                  refine lv_if_eq (tgt := 188) hx hb dX6_line_174 (by decide) (fun c0 => absurd c0 (by decide)) (fun _ => ?_)
                  refine lv_aload_n hx hb dX6_line_177 rfl (lv_at hl 0 rfl) ?_
                  refine csVi (n := 0) (rest := []) hx hb hml hown hts hE hP hD hS hA hF hT (sX_X6_closing_1 NF l dC dI cy x0 x  v75 f76 hIv75 ) k_720 k_722 k_11 k_103 k_723 (by decide +kernel) ⟨Nat.le_of_ble_eq_true rfl, Nat.le_of_ble_eq_true rfl⟩ 3 6 rfl rfl (rfl) hl.1 rfl (Nat.le_of_ble_eq_true rfl) dX6_line_178 (fun r78 u H locs hw hP hD hS => ?_)
                  obtain ⟨hG79, hw⟩ := hw
                  obtain ⟨v80, f81⟩ := u
                  obtain ⟨kV_v80, kF_f81, hIv80, hk0_v80, hk1_v80, hk9_v80, hk10_v80, hk31_v80, hk32_v80, hw⟩ := hw
                  have hM_v80 : KV [2, 3, 4, 5, 6, 7, 8, 9, 10, 11, 12, 13, 14, 15, 16, 17] v80 v := KV.tr kV_v80 hM_v75 (by decide +kernel)
                  have hA_f81 : KF [1, 2, 3, 4, 7, 8] f81 f := KF.tr kF_f81 hA_f76 rfl
                  have hP : va_P (dC, dI) vwCl (XW cy x0 x v80 f81) H := hP
                  have hD : va_D A (XW cy x0 x v80 f81) := hD
                  have hq0_v80 : v80 0 = (v 0) := hk0_v80.trans hq0_v75
                  have hq1_v80 : v80 1 = (v 1) := hk1_v80.trans hq1_v75
                  have hq9_v80 : v80 9 = (v 9) := hk9_v80.trans hq9_v75
                  have hq10_v80 : v80 10 = (v 10) := hk10_v80.trans hq10_v75
                  have hq31_v80 : v80 31 = (v 31) := hk31_v80.trans hq31_v75
                  have hq32_v80 : v80 32 = (v 32) := hk32_v80.trans hq32_v75
                  rcases hw with ⟨g82⟩ | ⟨g82⟩
                  · skip
                    subst g82
                    refine lv_if_eq (tgt := 188) hx hb dX6_line_181 (by decide) (fun c0 => absurd c0 (by decide)) (fun _ => ?_)
                    refine lv_iconst (v := 1) hx hb dX6_line_184 (by decide) ?_
                    refine lv_goto (tgt := 189) hx hb dX6_line_185 (by decide) ?_
                    exact ret 1 (v80, f81) _ _ _ _ _ _ rfl ⟨(gsX_X6_line_1_q19 c1 c12 c23 c39 c50 c61 c72 hG74 hG79), hM_v80, hA_f81, hIv80, (hk0_v80.trans hk0_v75), (hk1_v80.trans hk1_v75), (Or.inl rfl)⟩ hP hD hS dX6_line_189 (Nat.le_refl _) (Nat.le_refl _)
                  · skip
                    subst g82
                    refine lv_if_eq (tgt := 188) hx hb dX6_line_181 (by decide) (fun _ => ?_) (fun c0 => absurd (by decide) c0)
                    refine lv_iconst (v := 0) hx hb dX6_line_188 (by decide) ?_
                    exact ret 0 (v80, f81) _ _ _ _ _ _ rfl ⟨(gsX_X6_line_1_q20 c1 c12 c23 c39 c50 c61 c72 hG74 hG79), hM_v80, hA_f81, hIv80, (hk0_v80.trans hk0_v75), (hk1_v80.trans hk1_v75), (Or.inr rfl)⟩ hP hD hS dX6_line_189 (Nat.le_refl _) (Nat.le_refl _)
                · skip
                  subst g77
                  refine lv_if_eq (tgt := 188) hx hb dX6_line_174 (by decide) (fun _ => ?_) (fun c0 => absurd (by decide) c0)
                  refine lv_iconst (v := 0) hx hb dX6_line_188 (by decide) ?_
                  exact ret 0 (v75, f76) _ _ _ _ _ _ rfl ⟨(gsX_X6_line_1_q21 c1 c12 c23 c39 c50 c61 c72 hG74), hM_v75, hA_f76, hIv75, hk0_v75, hk1_v75, (Or.inr rfl)⟩ hP hD hS dX6_line_189 (Nat.le_refl _) (Nat.le_refl _)
              · skip
                have zc72 : ¬ ((v 2).toInt = 107) := by rw [fa_eq, show (107 : Int32).toInt = 107 from by decide] at c72; exact c72
                by_cases c83 : (v 2) = 108
                · skip
                  refine lv_tableIn (off := 116) (tgt := 123) hx hb dX6_line_7 (by rw [c83]; decide) (by rw [c83]; decide) (by rw [c83]; decide) (by decide) ?_
                  have zc83 : (v 2).toInt = 108 := by rw [fa_eq, show (108 : Int32).toInt = 108 from by decide] at c83; exact c83
                  refine lv_aload_n hx hb dX6_line_123 rfl (lv_at hl 0 rfl) ?_
                  refine lv_sipush (v := 999) hx hb dX6_line_124 (by decide) ?_
                  refine csVi (n := 1) (rest := []) hx hb hml hown hts hE hP hD hS hA hF hT (sX_X6_settingLine_1 NF l dC dI cy x0 x 999 v f hIv ) k_759 k_761 k_18 k_103 k_762 (by decide +kernel) ⟨Nat.le_of_ble_eq_true rfl, Nat.le_of_ble_eq_true rfl⟩ 3 6 rfl rfl (rfl) hl.1 rfl (Nat.le_of_ble_eq_true rfl) dX6_line_127 (fun r84 u H locs hw hP hD hS => ?_)
                  obtain ⟨hG85, hw⟩ := hw
                  obtain ⟨v86, f87⟩ := u
                  obtain ⟨kV_v86, kF_f87, hIv86, hk0_v86, hk1_v86, hk9_v86, hk10_v86, hk31_v86, hk32_v86, hw⟩ := hw
                  have hM_v86 : KV [2, 3, 4, 5, 6, 7, 8, 9, 10, 11, 12, 13, 14, 15, 16, 17] v86 v := KV.tr kV_v86 hM_v (by decide +kernel)
                  have hA_f87 : KF [1, 2, 3, 4, 7, 8] f87 f := KF.tr kF_f87 hA_f rfl
                  have hP : va_P (dC, dI) vwCl (XW cy x0 x v86 f87) H := hP
                  have hD : va_D A (XW cy x0 x v86 f87) := hD
                  have hq0_v86 : v86 0 = (v 0) := hk0_v86
                  have hq1_v86 : v86 1 = (v 1) := hk1_v86
                  have hq9_v86 : v86 9 = (v 9) := hk9_v86
                  have hq10_v86 : v86 10 = (v 10) := hk10_v86
                  have hq31_v86 : v86 31 = (v 31) := hk31_v86
                  have hq32_v86 : v86 32 = (v 32) := hk32_v86
                  rcases hw with ⟨g88⟩ | ⟨g88⟩
                  · skip
                    subst g88
                    refine lv_if_eq (tgt := 144) hx hb dX6_line_130 (by decide) (fun c0 => absurd c0 (by decide)) (fun _ => ?_)
                    refine lv_aload_n hx hb dX6_line_133 rfl (lv_at hl 0 rfl) ?_
                    refine csVi (n := 0) (rest := []) hx hb hml hown hts hE hP hD hS hA hF hT (sX_X6_closing_1 NF l dC dI cy x0 x  v86 f87 hIv86 ) k_720 k_722 k_11 k_103 k_723 (by decide +kernel) ⟨Nat.le_of_ble_eq_true rfl, Nat.le_of_ble_eq_true rfl⟩ 3 6 rfl rfl (rfl) hl.1 rfl (Nat.le_of_ble_eq_true rfl) dX6_line_134 (fun r89 u H locs hw hP hD hS => ?_)
                    obtain ⟨hG90, hw⟩ := hw
                    obtain ⟨v91, f92⟩ := u
                    obtain ⟨kV_v91, kF_f92, hIv91, hk0_v91, hk1_v91, hk9_v91, hk10_v91, hk31_v91, hk32_v91, hw⟩ := hw
                    have hM_v91 : KV [2, 3, 4, 5, 6, 7, 8, 9, 10, 11, 12, 13, 14, 15, 16, 17] v91 v := KV.tr kV_v91 hM_v86 (by decide +kernel)
                    have hA_f92 : KF [1, 2, 3, 4, 7, 8] f92 f := KF.tr kF_f92 hA_f87 rfl
                    have hP : va_P (dC, dI) vwCl (XW cy x0 x v91 f92) H := hP
                    have hD : va_D A (XW cy x0 x v91 f92) := hD
                    have hq0_v91 : v91 0 = (v 0) := hk0_v91.trans hq0_v86
                    have hq1_v91 : v91 1 = (v 1) := hk1_v91.trans hq1_v86
                    have hq9_v91 : v91 9 = (v 9) := hk9_v91.trans hq9_v86
                    have hq10_v91 : v91 10 = (v 10) := hk10_v91.trans hq10_v86
                    have hq31_v91 : v91 31 = (v 31) := hk31_v91.trans hq31_v86
                    have hq32_v91 : v91 32 = (v 32) := hk32_v91.trans hq32_v86
                    rcases hw with ⟨g93⟩ | ⟨g93⟩
                    · skip
                      subst g93
                      refine lv_if_eq (tgt := 144) hx hb dX6_line_137 (by decide) (fun c0 => absurd c0 (by decide)) (fun _ => ?_)
                      refine lv_iconst (v := 1) hx hb dX6_line_140 (by decide) ?_
                      refine lv_goto (tgt := 145) hx hb dX6_line_141 (by decide) ?_
                      exact ret 1 (v91, f92) _ _ _ _ _ _ rfl ⟨(gsX_X6_line_1_q22 c1 c12 c23 c39 c50 c61 c72 c83 hG85 hG90), hM_v91, hA_f92, hIv91, (hk0_v91.trans hk0_v86), (hk1_v91.trans hk1_v86), (Or.inl rfl)⟩ hP hD hS dX6_line_145 (Nat.le_refl _) (Nat.le_refl _)
                    · skip
                      subst g93
                      refine lv_if_eq (tgt := 144) hx hb dX6_line_137 (by decide) (fun _ => ?_) (fun c0 => absurd (by decide) c0)
                      refine lv_iconst (v := 0) hx hb dX6_line_144 (by decide) ?_
                      exact ret 0 (v91, f92) _ _ _ _ _ _ rfl ⟨(gsX_X6_line_1_q23 c1 c12 c23 c39 c50 c61 c72 c83 hG85 hG90), hM_v91, hA_f92, hIv91, (hk0_v91.trans hk0_v86), (hk1_v91.trans hk1_v86), (Or.inr rfl)⟩ hP hD hS dX6_line_145 (Nat.le_refl _) (Nat.le_refl _)
                  · skip
                    subst g88
                    refine lv_if_eq (tgt := 144) hx hb dX6_line_130 (by decide) (fun _ => ?_) (fun c0 => absurd (by decide) c0)
                    refine lv_iconst (v := 0) hx hb dX6_line_144 (by decide) ?_
                    exact ret 0 (v86, f87) _ _ _ _ _ _ rfl ⟨(gsX_X6_line_1_q24 c1 c12 c23 c39 c50 c61 c72 c83 hG85), hM_v86, hA_f87, hIv86, hk0_v86, hk1_v86, (Or.inr rfl)⟩ hP hD hS dX6_line_145 (Nat.le_refl _) (Nat.le_refl _)
                · skip
                  have zc83 : ¬ ((v 2).toInt = 108) := by rw [fa_eq, show (108 : Int32).toInt = 108 from by decide] at c83; exact c83
                  refine lv_tableOut (tgt := 190) hx hb dX6_line_7 (by omega) (by decide) ?_
                  refine lv_aload_n hx hb dX6_line_190 rfl (lv_at hl 0 rfl) ?_
                  refine cbVi (n := 0) (rest := []) hx hb hml hown hts hE hP hD hS hA (sX_X6_refuse_1 NF l dC dI cy x0 x  v f hIv ) k_691 k_693 k_6 k_103 k_694 (by decide +kernel) ⟨Nat.le_of_ble_eq_true rfl, Nat.le_of_ble_eq_true rfl⟩ 3 6 rfl rfl (rfl) hl.1 rfl (Nat.le_of_ble_eq_true rfl) dX6_line_191 (fun r94 u H locs hw hP hD hS => ?_)
                  obtain ⟨hG95, hw⟩ := hw
                  obtain ⟨v96, f97⟩ := u
                  obtain ⟨kV_v96, kF_f97, hIv96, hk0_v96, hk1_v96, hk9_v96, hk10_v96, hk31_v96, hk32_v96, hw⟩ := hw
                  have hM_v96 : KV [2, 3, 4, 5, 6, 7, 8, 9, 10, 11, 12, 13, 14, 15, 16, 17] v96 v := KV.tr kV_v96 hM_v (by decide +kernel)
                  have hA_f97 : KF [1, 2, 3, 4, 7, 8] f97 f := KF.tr kF_f97 hA_f rfl
                  have hP : va_P (dC, dI) vwCl (XW cy x0 x v96 f97) H := hP
                  have hD : va_D A (XW cy x0 x v96 f97) := hD
                  have hq0_v96 : v96 0 = (v 0) := hk0_v96
                  have hq1_v96 : v96 1 = (v 1) := hk1_v96
                  have hq9_v96 : v96 9 = (v 9) := hk9_v96
                  have hq10_v96 : v96 10 = (v 10) := hk10_v96
                  have hq31_v96 : v96 31 = (v 31) := hk31_v96
                  have hq32_v96 : v96 32 = (v 32) := hk32_v96
                  rcases hw with ⟨g98⟩ | ⟨g98⟩
                  · skip
                    subst g98
                    exact ret 1 (v96, f97) _ _ _ _ _ _ rfl ⟨(gsX_X6_line_1_q25 c1 c12 c23 c39 c50 c61 c72 c83 hG95), hM_v96, hA_f97, hIv96, hk0_v96, hk1_v96, (Or.inl rfl)⟩ hP hD hS dX6_line_194 (Nat.le_refl _) (Nat.le_refl _)
                  · skip
                    subst g98
                    exact ret 0 (v96, f97) _ _ _ _ _ _ rfl ⟨(gsX_X6_line_1_q26 c1 c12 c23 c39 c50 c61 c72 c83 hG95), hM_v96, hA_f97, hIv96, hk0_v96, hk1_v96, (Or.inr rfl)⟩ hP hD hS dX6_line_194 (Nat.le_refl _) (Nat.le_refl _)
