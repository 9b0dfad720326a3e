set_option maxHeartbeats 4000000 in
set_option maxRecDepth 100000 in
theorem sX_X7_manPart_1 (NF : Nat) (l : Launch) (dC : Nat → ClassId) (dI : Nat → Nat → Nat) (cy : Nat → ClassId) (x0 : Nat) (x : Nat → Nat) (p1 : Int32) (p2 : Int32) (v : Nat → Int32) (f : Nat → Nat → Int32) (hIv : XI v)  : ctI l (dC, dI) cy yX7_manPart cX7_manPart 3 .int 2 81 0 0 Unit [.ref (x 26), .int p1, .int p2] (XW cy x0 x v f) (fun r u => gsX_X7_manPart_1 NF p1 p2 v f = r) (fun u => XW cy x0 x v f) := by
  refine ctI_of (by decide) (Nat.le_of_ble_eq_true rfl) (fun p e s m below meth c A ls Q hx hb hml hts hown hE hP hD hA hl ret => ?_)
  have hown : s.vm.findClass RX7 = some m.cls := hown
  have hS : va_S A s.heap s.heap [] := va_S.rf
  have hl : lv_has ls 3 [(0, .ref (x 26)), (1, .int p1), (2, .int p2)] := hl
  refine lv_aload_n hx hb dX7_manPart_0 rfl (lv_at hl 0 rfl) ?_
  refine lv_iload_n hx hb dX7_manPart_1 rfl (lv_at hl 2 rfl) ?_
  refine cbVi (n := 1) (rest := []) hx hb hml hown hts hE hP hD hS hA (sX_X7_hasMan_1 NF l dC dI cy x0 x p2 v f hIv ) k_306 k_307 k_308 k_104 k_309 (by decide +kernel) ⟨Nat.le_of_ble_eq_true rfl, Nat.le_of_ble_eq_true rfl⟩ 27 7 rfl rfl (rfl) hl.1 rfl (Nat.le_of_ble_eq_true rfl) dX7_manPart_2 (fun r1 u H locs hw hP hD hS => ?_)
  obtain ⟨hG2, hw⟩ := hw
  rcases hw with ⟨g3, g3_0, g3_1, g3_2⟩ | ⟨g3⟩
  · skip
    subst g3
    refine lv_if_eq (tgt := 31) hx hb dX7_manPart_5 (by decide) (fun c0 => absurd c0 (by decide)) (fun _ => ?_)
    refine lv_iload_n hx hb dX7_manPart_8 rfl (lv_at hl 1 rfl) ?_
    refine lv_if_lt (tgt := 31) hx hb dX7_manPart_9 (by decide) (fun c4 => ?_) (fun c4 => ?_)
    · skip
      have zc4 : p1.toInt < 0 := by rw [fa_lt, show (0 : Int32).toInt = 0 from by decide] at c4; exact c4
      refine lv_iconst (v := 0) hx hb dX7_manPart_31 (by decide) ?_
      exact ret 0 () _ _ _ _ _ _ rfl (gsX_X7_manPart_1_q0 hG2 c4) hP hD hS dX7_manPart_32 (Nat.le_refl _) (Nat.le_refl _)
    · skip
      have zc4 : ¬ (p1.toInt < 0) := by rw [fa_lt, show (0 : Int32).toInt = 0 from by decide] at c4; exact c4
      refine lv_iload_n hx hb dX7_manPart_12 rfl (lv_at hl 1 rfl) ?_
      refine lv_iconst (v := 3) hx hb dX7_manPart_13 (by decide) ?_
      refine lv_icmp_ge (tgt := 31) hx hb dX7_manPart_14 (by decide) (fun c5 => ?_) (fun c5 => ?_)
      · skip
        have zc5 : 3 ≤ p1.toInt := by rw [fa_le, show (3 : Int32).toInt = 3 from by decide] at c5; exact c5
        refine lv_iconst (v := 0) hx hb dX7_manPart_31 (by decide) ?_
        exact ret 0 () _ _ _ _ _ _ rfl (gsX_X7_manPart_1_q1 hG2 c4 c5) hP hD hS dX7_manPart_32 (Nat.le_refl _) (Nat.le_refl _)
      · skip
        have zc5 : ¬ (3 ≤ p1.toInt) := by rw [fa_le, show (3 : Int32).toInt = 3 from by decide] at c5; exact c5
        refine lv_aload_n hx hb dX7_manPart_17 rfl (lv_at hl 0 rfl) ?_
        refine va_get (D := (dC, dI)) (ci := 7) (v := .ref (x 13)) (C := RX7) (T := TX7) (N := 10) hx hb hts inB_7 hown hE.1 hP 27 rfl rfl 0 (by decide) (hts _ k_204) (fun _ h9 => h9) rfl dX7_manPart_18 ?_
        refine lv_iload_n hx hb dX7_manPart_21 rfl (lv_at hl 1 rfl) ?_
        refine lv_bipush (v := 6) hx hb dX7_manPart_22 (by decide) ?_
        refine lv_imul hx hb dX7_manPart_24 ?_
        refine lv_topi (fun t6 et6 => ?_)
        have rg7 := fb_rng p1
        have zt6 : t6.toInt = p1.toInt * 6 := by rw [et6]; exact mul_i rfl (by decide) (by omega) (by omega)
        refine lv_iload_n hx hb dX7_manPart_25 rfl (lv_at hl 2 rfl) ?_
        refine lv_iadd hx hb dX7_manPart_26 ?_
        refine lv_topi (fun t8 et8 => ?_)
        have rg9 := fb_rng t6
        have rg10 := fb_rng p2
        have zt8 : t8.toInt = t6.toInt + p2.toInt := by rw [et8]; exact add_i rfl rfl (by omega) (by omega)
        refine ldI hx hb hE hP 14 rfl (vp_in_iff.mpr ⟨by omega, by omega⟩) rfl rfl dX7_manPart_27 ?_
        refine lv_topi (fun t11 et11 => ?_)
        refine lv_goto (tgt := 32) hx hb dX7_manPart_28 (by decide) ?_
        exact ret t11 () _ _ _ _ _ _ rfl (gsX_X7_manPart_1_q2 hG2 c4 c5 et6 et8 et11) hP hD hS dX7_manPart_32 (Nat.le_refl _) (Nat.le_refl _)
  · skip
    subst g3
    refine lv_if_eq (tgt := 31) hx hb dX7_manPart_5 (by decide) (fun _ => ?_) (fun c0 => absurd (by decide) c0)
    refine lv_iconst (v := 0) hx hb dX7_manPart_31 (by decide) ?_
    exact ret 0 () _ _ _ _ _ _ rfl (gsX_X7_manPart_1_q3 hG2) hP hD hS dX7_manPart_32 (Nat.le_refl _) (Nat.le_refl _)
set_option maxHeartbeats 4000000 in
set_option maxRecDepth 100000 in
theorem sX_X1_muster_1 (NF : Nat) (l : Launch) (dC : Nat → ClassId) (dI : Nat → Nat → Nat) (cy : Nat → ClassId) (x0 : Nat) (x : Nat → Nat)  (v : Nat → Int32) (f : Nat → Nat → Int32) (hIv : XI v)  : ctV l (dC, dI) cy yX1_muster cX1_muster 3 3 103 0 0 ((Nat → Int32) × (Nat → Nat → Int32)) [.ref (x 21)] (XW cy x0 x v f) (fun u => gsX_X1_muster_1 NF v f = u ∧ KV [] u.1 v ∧ KF [15] u.2 f ∧ XI u.1 ∧ u.1 0 = v 0 ∧ u.1 1 = v 1 ∧ u.1 7 = v 7 ∧ u.1 8 = v 8 ∧ u.1 9 = v 9 ∧ u.1 10 = v 10 ∧ u.1 31 = v 31 ∧ u.1 32 = v 32) (fun u => XW cy x0 x u.1 u.2) := by
  refine ctV_of (by decide) (Nat.le_of_ble_eq_true rfl) (fun p e s m below meth c A ls Q hx hb hml hts hown hnm hE hP hD hA hl ret => ?_)
  have hM_v : KV [] v v := fun _ _ => rfl
  have hA_f : KF [15] f f := fun _ _ => rfl
  have hown : s.vm.findClass RX1 = some m.cls := hown
  have hS : va_S A s.heap s.heap [] := va_S.rf
  have hl : lv_has ls 3 [(0, .ref (x 21))] := hl
  refine lv_iconst (v := 0) hx hb dX1_muster_0 (by decide) ?_
  refine lv_istore_n (lv' := [(1, .int 0), (0, .ref (x 21))]) hx hb dX1_muster_1 rfl hl (by decide) rfl (fun ls hl => ?_)
  have lp1 : ∀ (n1 : Nat) (l1_1 : Int32) (v1 : Nat → Int32) (f1 : Nat → Nat → Int32), XI v1 → v1 0 = (v 0) → v1 1 = (v 1) → v1 7 = (v 7) → v1 8 = (v 8) → v1 9 = (v 9) → v1 10 = (v 10) → v1 31 = (v 31) → v1 32 = (v 32) → gsX_X1_muster_1_L1 NF n1 l1_1 v1 f1 = (gsX_X1_muster_1 NF v f) → ((0 : Int) ≤ l1_1.toInt ∧ l1_1.toInt ≤ 2147483647) → KV [] v1 v → KF [15] f1 f → (2147483647 - l1_1.toInt).toNat < n1 → ∀ (H : Heap) (locs : List Loc) (ls : Array Slot), va_P (dC, dI) vwCl (XW cy x0 x v1 f1) H → va_D A (XW cy x0 x v1 f1) → va_S A s.heap H locs → lv_has ls 3 [(1, .int l1_1), (0, .ref (x 21))] → W p l e { frames := 3, cells := 0, slots := 0, locals := 103 } s m ([.ref (x 21)] : List Value).toArray below meth c H locs 0 0 Q (F0 m 2 ls []) := by
    intro n1
    induction n1 with
    | zero => intro l1_1 v1 f1 hIv1 hq0_v1 hq1_v1 hq7_v1 hq8_v1 hq9_v1 hq10_v1 hq31_v1 hq32_v1 hT1 hr1_1 hM_v1 hA_f1 hm; exact absurd hm (Nat.not_lt_zero _)
    | succ n1 ih1 =>
      intro l1_1 v1 f1 hIv1 hq0_v1 hq1_v1 hq7_v1 hq8_v1 hq9_v1 hq10_v1 hq31_v1 hq32_v1 hT1 hr1_1 hM_v1 hA_f1 hm1 H locs ls hP hD hS hl
      refine lv_iload_n hx hb dX1_muster_2 rfl (lv_at hl 0 rfl) ?_
      refine lv_bipush (v := 6) hx hb dX1_muster_3 (by decide) ?_
      refine lv_icmp_ge (tgt := 39) hx hb dX1_muster_5 (by decide) (fun c2 => ?_) (fun c2 => ?_)
      · skip
        have zc2 : 6 ≤ l1_1.toInt := by rw [fa_le, show (6 : Int32).toInt = 6 from by decide] at c2; exact c2
        refine lv_iconst (v := 0) hx hb dX1_muster_39 (by decide) ?_
        refine lv_istore_n (lv' := [(1, .int 0), (0, .ref (x 21))]) hx hb dX1_muster_40 rfl hl (by decide) rfl (fun ls hl => ?_)
        have lp3 : ∀ (n3 : Nat) (l1_3 : Int32) (v3 : Nat → Int32) (f3 : Nat → Nat → Int32), XI v3 → v3 0 = (v 0) → v3 1 = (v 1) → v3 7 = (v 7) → v3 8 = (v 8) → v3 9 = (v 9) → v3 10 = (v 10) → v3 31 = (v 31) → v3 32 = (v 32) → gsX_X1_muster_1_L3 NF n3 l1_3 v3 f3 = (gsX_X1_muster_1 NF v f) → ((0 : Int) ≤ l1_3.toInt ∧ l1_3.toInt ≤ 2147483647) → KV [] v3 v → KF [15] f3 f → (2147483647 - l1_3.toInt).toNat < n3 → ∀ (H : Heap) (locs : List Loc) (ls : Array Slot), va_P (dC, dI) vwCl (XW cy x0 x v3 f3) H → va_D A (XW cy x0 x v3 f3) → va_S A s.heap H locs → lv_has ls 3 [(1, .int l1_3), (0, .ref (x 21))] → W p l e { frames := 3, cells := 0, slots := 0, locals := 103 } s m ([.ref (x 21)] : List Value).toArray below meth c H locs 0 0 Q (F0 m 41 ls []) := by
          intro n3
          induction n3 with
          | zero => intro l1_3 v3 f3 hIv3 hq0_v3 hq1_v3 hq7_v3 hq8_v3 hq9_v3 hq10_v3 hq31_v3 hq32_v3 hT3 hr1_3 hM_v3 hA_f3 hm; exact absurd hm (Nat.not_lt_zero _)
          | succ n3 ih3 =>
            intro l1_3 v3 f3 hIv3 hq0_v3 hq1_v3 hq7_v3 hq8_v3 hq9_v3 hq10_v3 hq31_v3 hq32_v3 hT3 hr1_3 hM_v3 hA_f3 hm3 H locs ls hP hD hS hl
            refine lv_iload_n hx hb dX1_muster_41 rfl (lv_at hl 0 rfl) ?_
            refine lv_bipush (v := 6) hx hb dX1_muster_42 (by decide) ?_
            refine lv_icmp_ge (tgt := 89) hx hb dX1_muster_44 (by decide) (fun c4 => ?_) (fun c4 => ?_)
            · skip
              have zc4 : 6 ≤ l1_3.toInt := by rw [fa_le, show (6 : Int32).toInt = 6 from by decide] at c4; exact c4
              refine lv_aload_n hx hb dX1_muster_89 rfl (lv_at hl 1 rfl) ?_
              refine va_get (D := (dC, dI)) (ci := 1) (v := .ref (x 22)) (C := RX1) (T := TX1) (N := 2) hx hb hts inB_1 hown hE.1 hP 22 rfl rfl 1 (by decide) (hts _ k_319) (fun _ h9 => h9) rfl dX1_muster_90 ?_
              refine lv_bipush (v := 42) hx hb dX1_muster_93 (by decide) ?_
              refine lv_iconst (v := 0) hx hb dX1_muster_95 (by decide) ?_
              refine stI hx hb hE hP hD hS 23 rfl (vp_in_nI (n := 42) (by decide) (by decide)) rfl dX1_muster_96 (fun H locs hP hD hS => ?_)
              obtain ⟨f5, ef5, hP, hD⟩ : ∃ fz9, fz9 = upd2 f3 15 (upd (f3 15) (42 : Int32).toNatClampNeg 0) ∧ va_P (dC, dI) vwCl (XW cy x0 x v3 fz9) H ∧ va_D A (XW cy x0 x v3 fz9) := ⟨_, rfl, hP, hD⟩
              have hA_f5 : KF [15] f5 f := by rw [ef5]; exact KF.up hA_f3 rfl
              refine lv_aload_n hx hb dX1_muster_97 rfl (lv_at hl 1 rfl) ?_
              refine va_get (D := (dC, dI)) (ci := 1) (v := .ref (x 22)) (C := RX1) (T := TX1) (N := 2) hx hb hts inB_1 hown hE.1 hP 22 rfl rfl 1 (by decide) (hts _ k_319) (fun _ h9 => h9) rfl dX1_muster_98 ?_
              refine lv_bipush (v := 43) hx hb dX1_muster_101 (by decide) ?_
              refine lv_aload_n hx hb dX1_muster_103 rfl (lv_at hl 1 rfl) ?_
              refine va_get (D := (dC, dI)) (ci := 1) (v := .ref (x 26)) (C := RX1) (T := TX1) (N := 2) hx hb hts inB_1 hown hE.1 hP 22 rfl rfl 0 (by decide) (hts _ k_318) (fun _ h9 => h9) rfl dX1_muster_104 ?_
              refine va_getN (D := (dC, dI)) (ci := 7) (v := .int (v3 37)) (C := RX7) (T := TX7) (N := 10) hx hb hts inB_7 hown hE.1 hP 27 rfl rfl 9 (by decide) (va_Nw.use rfl (hE.2 _ k_242)) (fun _ h9 => h9) rfl dX1_muster_107 ?_
              refine stI hx hb hE hP hD hS 23 rfl (vp_in_nI (n := 43) (by decide) (by decide)) rfl dX1_muster_110 (fun H locs hP hD hS => ?_)
              obtain ⟨f6, ef6, hP, hD⟩ : ∃ fz9, fz9 = upd2 f5 15 (upd (f5 15) (43 : Int32).toNatClampNeg (v3 37)) ∧ va_P (dC, dI) vwCl (XW cy x0 x v3 fz9) H ∧ va_D A (XW cy x0 x v3 fz9) := ⟨_, rfl, hP, hD⟩
              have hA_f6 : KF [15] f6 f := by rw [ef6]; exact KF.up hA_f5 rfl
              exact ret (v3, f6) _ _ _ _ _ _ ⟨(hT3.symm.trans (gsX_X1_muster_1_q0 c4 ef5 ef6)), hM_v3, hA_f6, hIv3, hq0_v3, hq1_v3, hq7_v3, hq8_v3, hq9_v3, hq10_v3, hq31_v3, hq32_v3⟩ hP hD hS dX1_muster_111 (Nat.le_refl _) (Nat.le_refl _)
            · skip
              have zc4 : ¬ (6 ≤ l1_3.toInt) := by rw [fa_le, show (6 : Int32).toInt = 6 from by decide] at c4; exact c4
              refine lv_iconst (v := 0) hx hb dX1_muster_47 (by decide) ?_
              refine lv_istore_n (lv' := [(2, .int 0), (1, .int l1_3), (0, .ref (x 21))]) hx hb dX1_muster_48 rfl hl (by decide) rfl (fun ls hl => ?_)
              have lp7 : ∀ (n7 : Nat) (l2_7 : Int32) (v7 : Nat → Int32) (f7 : Nat → Nat → Int32), XI v7 → v7 0 = (v 0) → v7 1 = (v 1) → v7 7 = (v 7) → v7 8 = (v 8) → v7 9 = (v 9) → v7 10 = (v 10) → v7 31 = (v 31) → v7 32 = (v 32) → gsX_X1_muster_1_L7 NF l1_3 (fun z0 z1 z2 => gsX_X1_muster_1_L3 NF n3 z0 z1 z2) n7 l2_7 v7 f7 = (gsX_X1_muster_1 NF v f) → ((0 : Int) ≤ l2_7.toInt ∧ l2_7.toInt ≤ 2147483647) → KV [] v7 v → KF [15] f7 f → (2147483647 - l2_7.toInt).toNat < n7 → ∀ (H : Heap) (locs : List Loc) (ls : Array Slot), va_P (dC, dI) vwCl (XW cy x0 x v7 f7) H → va_D A (XW cy x0 x v7 f7) → va_S A s.heap H locs → lv_has ls 3 [(2, .int l2_7), (1, .int l1_3), (0, .ref (x 21))] → W p l e { frames := 3, cells := 0, slots := 0, locals := 103 } s m ([.ref (x 21)] : List Value).toArray below meth c H locs 0 0 Q (F0 m 49 ls []) := by
                intro n7
                induction n7 with
                | zero => intro l2_7 v7 f7 hIv7 hq0_v7 hq1_v7 hq7_v7 hq8_v7 hq9_v7 hq10_v7 hq31_v7 hq32_v7 hT7 hr2_7 hM_v7 hA_f7 hm; exact absurd hm (Nat.not_lt_zero _)
                | succ n7 ih7 =>
                  intro l2_7 v7 f7 hIv7 hq0_v7 hq1_v7 hq7_v7 hq8_v7 hq9_v7 hq10_v7 hq31_v7 hq32_v7 hT7 hr2_7 hM_v7 hA_f7 hm7 H locs ls hP hD hS hl
                  refine lv_iload_n hx hb dX1_muster_49 rfl (lv_at hl 0 rfl) ?_
                  refine lv_iconst (v := 5) hx hb dX1_muster_50 (by decide) ?_
                  refine lv_icmp_ge (tgt := 83) hx hb dX1_muster_51 (by decide) (fun c8 => ?_) (fun c8 => ?_)
                  · skip
                    have zc8 : 5 ≤ l2_7.toInt := by rw [fa_le, show (5 : Int32).toInt = 5 from by decide] at c8; exact c8
                    obtain ⟨t9, et9⟩ : ∃ y : Int32, y = l1_3 + 1 := ⟨_, rfl⟩
                    have rg10 := fb_rng l1_3
                    have zt9 : t9.toInt = l1_3.toInt + 1 := by rw [et9]; exact add_i rfl (by decide) (by omega) (by omega)
                    refine lv_iinc (v := t9) (lv' := [(1, .int t9), (2, .int l2_7), (0, .ref (x 21))]) hx hb dX1_muster_83 hl (k := 1) rfl (by rw [et9]; rfl) (by decide) rfl (fun ls hl => ?_)
                    refine lv_goto (tgt := 41) hx hb dX1_muster_86 (by decide) ?_
                    have rg11 := fb_rng t9
                    exact ih3 t9 v7 f7 hIv7 hq0_v7 hq1_v7 hq7_v7 hq8_v7 hq9_v7 hq10_v7 hq31_v7 hq32_v7 ((gsX_X1_muster_1_q1 c8 et9).symm.trans hT7) ⟨show (0 : Int) ≤ t9.toInt by omega, show t9.toInt ≤ (2147483647 : Int) by omega⟩ hM_v7 hA_f7 (by show (2147483647 - t9.toInt).toNat < n3; omega) _ _ _ hP hD hS (lv_sub hl [0, 2] rfl)
                  · skip
                    have zc8 : ¬ (5 ≤ l2_7.toInt) := by rw [fa_le, show (5 : Int32).toInt = 5 from by decide] at c8; exact c8
                    refine lv_aload_n hx hb dX1_muster_54 rfl (lv_at hl 2 rfl) ?_
                    refine va_get (D := (dC, dI)) (ci := 1) (v := .ref (x 22)) (C := RX1) (T := TX1) (N := 2) hx hb hts inB_1 hown hE.1 hP 22 rfl rfl 1 (by decide) (hts _ k_319) (fun _ h9 => h9) rfl dX1_muster_55 ?_
                    refine lv_bipush (v := 12) hx hb dX1_muster_58 (by decide) ?_
                    refine lv_iload_n hx hb dX1_muster_60 rfl (lv_at hl 0 rfl) ?_
                    refine lv_bipush (v := 6) hx hb dX1_muster_61 (by decide) ?_
                    refine lv_imul hx hb dX1_muster_63 ?_
                    refine lv_topi (fun t12 et12 => ?_)
                    have rg13 := fb_rng l2_7
                    have zt12 : t12.toInt = l2_7.toInt * 6 := by rw [et12]; exact mul_i rfl (by decide) (by omega) (by omega)
                    refine lv_iadd hx hb dX1_muster_64 ?_
                    refine lv_topi (fun t14 et14 => ?_)
                    have rg15 := fb_rng t12
                    have zt14 : t14.toInt = 12 + t12.toInt := by rw [et14]; exact add_i (by decide) rfl (by omega) (by omega)
                    refine lv_iload_n hx hb dX1_muster_65 rfl (lv_at hl 1 rfl) ?_
                    refine lv_iadd hx hb dX1_muster_66 ?_
                    refine lv_topi (fun t16 et16 => ?_)
                    have rg17 := fb_rng t14
                    have rg18 := fb_rng l1_3
                    have zt16 : t16.toInt = t14.toInt + l1_3.toInt := by rw [et16]; exact add_i rfl rfl (by omega) (by omega)
                    refine lv_aload_n hx hb dX1_muster_67 rfl (lv_at hl 2 rfl) ?_
                    refine va_get (D := (dC, dI)) (ci := 1) (v := .ref (x 26)) (C := RX1) (T := TX1) (N := 2) hx hb hts inB_1 hown hE.1 hP 22 rfl rfl 0 (by decide) (hts _ k_318) (fun _ h9 => h9) rfl dX1_muster_68 ?_
                    refine lv_iload_n hx hb dX1_muster_71 rfl (lv_at hl 0 rfl) ?_
                    refine lv_iload_n hx hb dX1_muster_72 rfl (lv_at hl 1 rfl) ?_
                    refine cbVi (n := 2) (rest := [.int t16, .ref (x 22)]) hx hb hml hown hts hE hP hD hS hA (sX_X7_coatPart_1 NF l dC dI cy x0 x l2_7 l1_3 v7 f7 hIv7 ) k_310 k_311 k_312 k_104 k_313 (by decide +kernel) ⟨Nat.le_of_ble_eq_true rfl, Nat.le_of_ble_eq_true rfl⟩ 27 7 rfl rfl (rfl) hl.1 rfl (Nat.le_of_ble_eq_true rfl) dX1_muster_73 (fun r19 u H locs hw hP hD hS => ?_)
                    have hG20 := hw
                    refine stI hx hb hE hP hD hS 23 rfl (vp_in_iff.mpr ⟨by omega, by omega⟩) rfl dX1_muster_76 (fun H locs hP hD hS => ?_)
                    obtain ⟨f21, ef21, hP, hD⟩ : ∃ fz9, fz9 = upd2 f7 15 (upd (f7 15) t16.toNatClampNeg r19) ∧ va_P (dC, dI) vwCl (XW cy x0 x v7 fz9) H ∧ va_D A (XW cy x0 x v7 fz9) := ⟨_, rfl, hP, hD⟩
                    have hA_f21 : KF [15] f21 f := by rw [ef21]; exact KF.up hA_f7 rfl
                    obtain ⟨t22, et22⟩ : ∃ y : Int32, y = l2_7 + 1 := ⟨_, rfl⟩
                    have zt22 : t22.toInt = l2_7.toInt + 1 := by rw [et22]; exact add_i rfl (by decide) (by omega) (by omega)
                    refine lv_iinc (v := t22) (lv' := [(2, .int t22), (1, .int l1_3), (0, .ref (x 21))]) hx hb dX1_muster_77 hl (k := 0) rfl (by rw [et22]; rfl) (by decide) rfl (fun ls hl => ?_)
                    refine lv_goto (tgt := 49) hx hb dX1_muster_80 (by decide) ?_
                    have rg23 := fb_rng t22
                    exact ih7 t22 v7 f21 hIv7 hq0_v7 hq1_v7 hq7_v7 hq8_v7 hq9_v7 hq10_v7 hq31_v7 hq32_v7 ((gsX_X1_muster_1_q2 c8 et12 et14 et16 hG20.symm ef21 et22).symm.trans hT7) ⟨show (0 : Int) ≤ t22.toInt by omega, show t22.toInt ≤ (2147483647 : Int) by omega⟩ hM_v7 hA_f21 (by show (2147483647 - t22.toInt).toNat < n7; omega) _ _ _ hP hD hS (lv_sub hl [0, 1, 2] rfl)
              exact lp7 (4294967296 + NF) 0 v3 f3 hIv3 hq0_v3 hq1_v3 hq7_v3 hq8_v3 hq9_v3 hq10_v3 hq31_v3 hq32_v3 ((gsX_X1_muster_1_q3 c4).symm.trans hT3) ⟨by decide, by decide⟩ hM_v3 hA_f3 (by have q2 : (0 : Int32).toInt = 0 := (by decide); show (2147483647 - (0 : Int32).toInt).toNat < 4294967296 + NF; omega) _ _ _ hP hD hS (lv_sub hl [0, 1, 2] rfl)
        exact lp3 (4294967296 + NF) 0 v1 f1 hIv1 hq0_v1 hq1_v1 hq7_v1 hq8_v1 hq9_v1 hq10_v1 hq31_v1 hq32_v1 ((gsX_X1_muster_1_q4 c2).symm.trans hT1) ⟨by decide, by decide⟩ hM_v1 hA_f1 (by have q1 : (0 : Int32).toInt = 0 := (by decide); show (2147483647 - (0 : Int32).toInt).toNat < 4294967296 + NF; omega) _ _ _ hP hD hS (lv_sub hl [0, 1] rfl)
      · skip
        have zc2 : ¬ (6 ≤ l1_1.toInt) := by rw [fa_le, show (6 : Int32).toInt = 6 from by decide] at c2; exact c2
        refine lv_aload_n hx hb dX1_muster_8 rfl (lv_at hl 1 rfl) ?_
        refine va_get (D := (dC, dI)) (ci := 1) (v := .ref (x 22)) (C := RX1) (T := TX1) (N := 2) hx hb hts inB_1 hown hE.1 hP 22 rfl rfl 1 (by decide) (hts _ k_319) (fun _ h9 => h9) rfl dX1_muster_9 ?_
        refine lv_iload_n hx hb dX1_muster_12 rfl (lv_at hl 0 rfl) ?_
        refine lv_aload_n hx hb dX1_muster_13 rfl (lv_at hl 1 rfl) ?_
        refine va_get (D := (dC, dI)) (ci := 1) (v := .ref (x 26)) (C := RX1) (T := TX1) (N := 2) hx hb hts inB_1 hown hE.1 hP 22 rfl rfl 0 (by decide) (hts _ k_318) (fun _ h9 => h9) rfl dX1_muster_14 ?_
        refine lv_iconst (v := 1) hx hb dX1_muster_17 (by decide) ?_
        refine lv_iload_n hx hb dX1_muster_18 rfl (lv_at hl 0 rfl) ?_
        refine cbVi (n := 2) (rest := [.int l1_1, .ref (x 22)]) hx hb hml hown hts hE hP hD hS hA (sX_X7_manPart_1 NF l dC dI cy x0 x 1 l1_1 v1 f1 hIv1 ) k_302 k_303 k_304 k_104 k_305 (by decide +kernel) ⟨Nat.le_of_ble_eq_true rfl, Nat.le_of_ble_eq_true rfl⟩ 27 7 rfl rfl (rfl) hl.1 rfl (Nat.le_of_ble_eq_true rfl) dX1_muster_19 (fun r24 u H locs hw hP hD hS => ?_)
        have hG25 := hw
        refine stI hx hb hE hP hD hS 23 rfl (vp_in_iff.mpr ⟨by omega, by omega⟩) rfl dX1_muster_22 (fun H locs hP hD hS => ?_)
        obtain ⟨f26, ef26, hP, hD⟩ : ∃ fz9, fz9 = upd2 f1 15 (upd (f1 15) l1_1.toNatClampNeg r24) ∧ va_P (dC, dI) vwCl (XW cy x0 x v1 fz9) H ∧ va_D A (XW cy x0 x v1 fz9) := ⟨_, rfl, hP, hD⟩
        have hA_f26 : KF [15] f26 f := by rw [ef26]; exact KF.up hA_f1 rfl
        refine lv_aload_n hx hb dX1_muster_23 rfl (lv_at hl 1 rfl) ?_
        refine va_get (D := (dC, dI)) (ci := 1) (v := .ref (x 22)) (C := RX1) (T := TX1) (N := 2) hx hb hts inB_1 hown hE.1 hP 22 rfl rfl 1 (by decide) (hts _ k_319) (fun _ h9 => h9) rfl dX1_muster_24 ?_
        refine lv_bipush (v := 6) hx hb dX1_muster_27 (by decide) ?_
        refine lv_iload_n hx hb dX1_muster_29 rfl (lv_at hl 0 rfl) ?_
        refine lv_iadd hx hb dX1_muster_30 ?_
        refine lv_topi (fun t27 et27 => ?_)
        have rg28 := fb_rng l1_1
        have zt27 : t27.toInt = 6 + l1_1.toInt := by rw [et27]; exact add_i (by decide) rfl (by omega) (by omega)
        refine lv_iconst (v := (-1)) hx hb dX1_muster_31 (by decide) ?_
        refine stI hx hb hE hP hD hS 23 rfl (vp_in_iff.mpr ⟨by omega, by omega⟩) rfl dX1_muster_32 (fun H locs hP hD hS => ?_)
        obtain ⟨f29, ef29, hP, hD⟩ : ∃ fz9, fz9 = upd2 f26 15 (upd (f26 15) t27.toNatClampNeg (-1)) ∧ va_P (dC, dI) vwCl (XW cy x0 x v1 fz9) H ∧ va_D A (XW cy x0 x v1 fz9) := ⟨_, rfl, hP, hD⟩
        have hA_f29 : KF [15] f29 f := by rw [ef29]; exact KF.up hA_f26 rfl
        obtain ⟨t30, et30⟩ : ∃ y : Int32, y = l1_1 + 1 := ⟨_, rfl⟩
        have zt30 : t30.toInt = l1_1.toInt + 1 := by rw [et30]; exact add_i rfl (by decide) (by omega) (by omega)
        refine lv_iinc (v := t30) (lv' := [(1, .int t30), (0, .ref (x 21))]) hx hb dX1_muster_33 hl (k := 0) rfl (by rw [et30]; rfl) (by decide) rfl (fun ls hl => ?_)
        refine lv_goto (tgt := 2) hx hb dX1_muster_36 (by decide) ?_
        have rg31 := fb_rng t30
        exact ih1 t30 v1 f29 hIv1 hq0_v1 hq1_v1 hq7_v1 hq8_v1 hq9_v1 hq10_v1 hq31_v1 hq32_v1 ((gsX_X1_muster_1_q5 c2 hG25.symm ef26 et27 ef29 et30).symm.trans hT1) ⟨show (0 : Int) ≤ t30.toInt by omega, show t30.toInt ≤ (2147483647 : Int) by omega⟩ hM_v1 hA_f29 (by show (2147483647 - t30.toInt).toNat < n1; omega) _ _ _ hP hD hS (lv_sub hl [0, 1] rfl)
  exact lp1 (4294967296 + NF) 0 v f hIv rfl rfl rfl rfl rfl rfl rfl rfl gsX_X1_muster_1_q6.symm ⟨by decide, by decide⟩ hM_v hA_f (by have q1 : (0 : Int32).toInt = 0 := (by decide); show (2147483647 - (0 : Int32).toInt).toNat < 4294967296 + NF; omega) _ _ _ hP hD hS (lv_sub hl [0, 1] rfl)
set_option maxHeartbeats 4000000 in
set_option maxRecDepth 100000 in
theorem sX_X1_saveTo_1 (NF : Nat) (l : Launch) (dC : Nat → ClassId) (dI : Nat → Nat → Nat) (cy : Nat → ClassId) (x0 : Nat) (x : Nat → Nat) (p2 : Int32) (v : Nat → Int32) (f : Nat → Nat → Int32) (hIv : XI v)  : ctV l (dC, dI) cy yX1_saveTo cX1_saveTo 3 1 100 0 0 ((Nat → Int32) × (Nat → Nat → Int32)) [.ref (x 21), .ref (x 24), .int p2] (XW cy x0 x v f) (fun u => gsX_X1_saveTo_1 NF p2 v f = u ∧ KV [] u.1 v ∧ KF [17] u.2 f ∧ XI u.1 ∧ u.1 0 = v 0 ∧ u.1 1 = v 1 ∧ u.1 7 = v 7 ∧ u.1 8 = v 8 ∧ u.1 9 = v 9 ∧ u.1 10 = v 10 ∧ u.1 31 = v 31 ∧ u.1 32 = v 32) (fun u => XW cy x0 x u.1 u.2) := by
  refine ctV_of (by decide) (Nat.le_of_ble_eq_true rfl) (fun p e s m below meth c A ls Q hx hb hml hts hown hnm hE hP hD hA hl ret => ?_)
  have hM_v : KV [] v v := fun _ _ => rfl
  have hA_f : KF [17] f f := fun _ _ => rfl
  have hown : s.vm.findClass RX1 = some m.cls := hown
  have hS : va_S A s.heap s.heap [] := va_S.rf
  have hl : lv_has ls 3 [(0, .ref (x 21)), (1, .ref (x 24)), (2, .int p2)] := hl
  refine lv_iload_n hx hb dX1_saveTo_0 rfl (lv_at hl 2 rfl) ?_
  refine lv_if_lt (tgt := 28) hx hb dX1_saveTo_1 (by decide) (fun c1 => ?_) (fun c1 => ?_)
  · skip
    have zc1 : p2.toInt < 0 := by rw [fa_lt, show (0 : Int32).toInt = 0 from by decide] at c1; exact c1
    exact ret (v, f) _ _ _ _ _ _ ⟨(gsX_X1_saveTo_1_q0 c1), hM_v, hA_f, hIv, rfl, rfl, rfl, rfl, rfl, rfl, rfl, rfl⟩ hP hD hS dX1_saveTo_28 (Nat.le_refl _) (Nat.le_refl _)
  · skip
    have zc1 : ¬ (p2.toInt < 0) := by rw [fa_lt, show (0 : Int32).toInt = 0 from by decide] at c1; exact c1
    refine lv_iload_n hx hb dX1_saveTo_4 rfl (lv_at hl 2 rfl) ?_
    refine lv_aload_n hx hb dX1_saveTo_5 rfl (lv_at hl 1 rfl) ?_
    refine va_alen (v := 1804) hx hb hE.1 hP 25 1 rfl rfl rfl dX1_saveTo_6 ?_
    refine lv_bipush (v := 44) hx hb dX1_saveTo_7 (by decide) ?_
    refine lv_idiv hx hb dX1_saveTo_9 (by decide) ?_
    refine tI (y := 41) (by decide) ?_
    refine lv_icmp_ge (tgt := 28) hx hb dX1_saveTo_10 (by decide) (fun c2 => ?_) (fun c2 => ?_)
    · skip
      have zc2 : 41 ≤ p2.toInt := by rw [fa_le, show (41 : Int32).toInt = 41 from by decide] at c2; exact c2
      exact ret (v, f) _ _ _ _ _ _ ⟨(gsX_X1_saveTo_1_q1 c1 c2), hM_v, hA_f, hIv, rfl, rfl, rfl, rfl, rfl, rfl, rfl, rfl⟩ hP hD hS dX1_saveTo_28 (Nat.le_refl _) (Nat.le_refl _)
    · skip
      have zc2 : ¬ (41 ≤ p2.toInt) := by rw [fa_le, show (41 : Int32).toInt = 41 from by decide] at c2; exact c2
      refine lv_aload_n hx hb dX1_saveTo_13 rfl (lv_at hl 0 rfl) ?_
      refine va_get (D := (dC, dI)) (ci := 1) (v := .ref (x 22)) (C := RX1) (T := TX1) (N := 2) hx hb hts inB_1 hown hE.1 hP 22 rfl rfl 1 (by decide) (hts _ k_319) (fun _ h9 => h9) rfl dX1_saveTo_14 ?_
      refine lv_iconst (v := 0) hx hb dX1_saveTo_17 (by decide) ?_
      refine lv_aload_n hx hb dX1_saveTo_18 rfl (lv_at hl 1 rfl) ?_
      refine lv_iload_n hx hb dX1_saveTo_19 rfl (lv_at hl 2 rfl) ?_
      refine lv_bipush (v := 44) hx hb dX1_saveTo_20 (by decide) ?_
      refine lv_imul hx hb dX1_saveTo_22 ?_
      refine lv_topi (fun t3 et3 => ?_)
      have rg4 := fb_rng p2
      have zt3 : t3.toInt = p2.toInt * 44 := by rw [et3]; exact mul_i rfl (by decide) (by omega) (by omega)
      refine lv_bipush (v := 44) hx hb dX1_saveTo_23 (by decide) ?_
      refine cpE (zs := 0) (zd := t3.toInt) (zn := 44) hx hb (by rw [hml]; exact hl.1.symm) hown (hts _ k_335) (hts _ k_337) (hts _ k_336) (hts _ k_108) hE hP hD hS 23 25 rfl rfl (by decide) rfl (by decide) (by omega) (by omega) (by omega) (by omega) (by omega) (Nat.le_of_ble_eq_true rfl) (Nat.le_of_ble_eq_true rfl) dX1_saveTo_25 (fun H locs hP hD hS => ?_)
      obtain ⟨f5, ef5, hP, hD⟩ : ∃ fz9, fz9 = upd2 f 17 (va_cpy (f 15) (f 17) (0 : Int32).toNatClampNeg (t3).toNatClampNeg (44 : Int32).toNatClampNeg) ∧ va_P (dC, dI) vwCl (XW cy x0 x v fz9) H ∧ va_D A (XW cy x0 x v fz9) := ⟨_, rfl, hP, hD⟩
      have hA_f5 : KF [17] f5 f := by rw [ef5]; exact KF.up hA_f rfl
      exact ret (v, f5) _ _ _ _ _ _ ⟨(gsX_X1_saveTo_1_q2 c1 c2 et3 ef5), hM_v, hA_f5, hIv, rfl, rfl, rfl, rfl, rfl, rfl, rfl, rfl⟩ hP hD hS dX1_saveTo_28 (Nat.le_refl _) (Nat.le_refl _)
set_option maxHeartbeats 4000000 in
set_option maxRecDepth 100000 in
theorem sX_X5_forgetActs_1 (NF : Nat) (l : Launch) (dC : Nat → ClassId) (dI : Nat → Nat → Nat) (cy : Nat → ClassId) (x0 : Nat) (x : Nat → Nat)  (v : Nat → Int32) (f : Nat → Nat → Int32) (hIv : XI v)  : ctV l (dC, dI) cy yX5_forgetActs cX5_forgetActs 1 2 122 0 0 ((Nat → Int32) × (Nat → Nat → Int32)) [.ref (x 20)] (XW cy x0 x v f) (fun u => gsX_X5_forgetActs_1 NF v f = u ∧ KV [21, 22, 23] u.1 v ∧ KF [17] u.2 f ∧ XI u.1 ∧ u.1 0 = v 0 ∧ u.1 1 = v 1 ∧ u.1 7 = v 7 ∧ u.1 8 = v 8 ∧ u.1 9 = v 9 ∧ u.1 10 = v 10 ∧ u.1 31 = v 31 ∧ u.1 32 = v 32) (fun u => XW cy x0 x u.1 u.2) := by
  refine ctV_of (by decide) (Nat.le_of_ble_eq_true rfl) (fun p e s m below meth c A ls Q hx hb hml hts hown hnm hE hP hD hA hl ret => ?_)
  have hM_v : KV [21, 22, 23] v v := fun _ _ => rfl
  have hA_f : KF [17] f f := fun _ _ => rfl
  have hown : s.vm.findClass RX5 = some m.cls := hown
  have hS : va_S A s.heap s.heap [] := va_S.rf
  have hl : lv_has ls 1 [(0, .ref (x 20))] := hl
  refine lv_aload_n hx hb dX5_forgetActs_0 rfl (lv_at hl 0 rfl) ?_
  refine lv_iconst (v := 0) hx hb dX5_forgetActs_1 (by decide) ?_
  refine va_put (D := (dC, dI)) (ci := 5) (v := .int 0) (ty := tyX5 4) (C := RX5) (T := TX5) (N := 7) hx hb hts inB_5 tyX5 tyX5_ok nmX5 hown hE.1 hP hD hS 21 rfl rfl 4 (by decide) (hts _ k_342) (fun _ h9 => h9) rfl (tyX5_ok 4 (by decide)) rfl rfl (Nat.le_of_ble_eq_true rfl) dX5_forgetActs_2 (fun H locs hP hD hS => ?_)
  have hP : va_P (dC, dI) vwCl (XW cy x0 x (upd v 21 0) f) H := hP
  have hD : va_D A (XW cy x0 x (upd v 21 0) f) := hD
  refine lv_aload_n hx hb dX5_forgetActs_5 rfl (lv_at hl 0 rfl) ?_
  refine lv_iconst (v := 0) hx hb dX5_forgetActs_6 (by decide) ?_
  refine va_put (D := (dC, dI)) (ci := 5) (v := .int 0) (ty := tyX5 5) (C := RX5) (T := TX5) (N := 7) hx hb hts inB_5 tyX5 tyX5_ok nmX5 hown hE.1 hP hD hS 21 rfl rfl 5 (by decide) (hts _ k_343) (fun _ h9 => h9) rfl (tyX5_ok 5 (by decide)) rfl rfl (Nat.le_of_ble_eq_true rfl) dX5_forgetActs_7 (fun H locs hP hD hS => ?_)
  have hP : va_P (dC, dI) vwCl (XW cy x0 x (upd (upd v 21 0) 22 0) f) H := hP
  have hD : va_D A (XW cy x0 x (upd (upd v 21 0) 22 0) f) := hD
  refine lv_aload_n hx hb dX5_forgetActs_10 rfl (lv_at hl 0 rfl) ?_
  refine lv_iconst (v := 0) hx hb dX5_forgetActs_11 (by decide) ?_
  refine va_put (D := (dC, dI)) (ci := 5) (v := .int 0) (ty := tyX5 6) (C := RX5) (T := TX5) (N := 7) hx hb hts inB_5 tyX5 tyX5_ok nmX5 hown hE.1 hP hD hS 21 rfl rfl 6 (by decide) (hts _ k_345) (fun _ h9 => h9) rfl (tyX5_ok 6 (by decide)) rfl rfl (Nat.le_of_ble_eq_true rfl) dX5_forgetActs_12 (fun H locs hP hD hS => ?_)
  have hP : va_P (dC, dI) vwCl (XW cy x0 x (upd (upd (upd v 21 0) 22 0) 23 0) f) H := hP
  have hD : va_D A (XW cy x0 x (upd (upd (upd v 21 0) 22 0) 23 0) f) := hD
  refine lv_aload_n hx hb dX5_forgetActs_15 rfl (lv_at hl 0 rfl) ?_
  refine va_get (D := (dC, dI)) (ci := 5) (v := .ref (x 21)) (C := RX5) (T := TX5) (N := 7) hx hb hts inB_5 hown hE.1 hP 21 rfl rfl 0 (by decide) (hts _ k_338) (fun _ h9 => h9) rfl dX5_forgetActs_16 ?_
  refine lv_aload_n hx hb dX5_forgetActs_19 rfl (lv_at hl 0 rfl) ?_
  refine va_get (D := (dC, dI)) (ci := 5) (v := .ref (x 24)) (C := RX5) (T := TX5) (N := 7) hx hb hts inB_5 hown hE.1 hP 21 rfl rfl 1 (by decide) (hts _ k_339) (fun _ h9 => h9) rfl dX5_forgetActs_20 ?_
  refine lv_iconst (v := 0) hx hb dX5_forgetActs_23 (by decide) ?_
  refine cbVv (n := 2) (rest := []) hx hb hml hown hts hE hP hD hS hA (sX_X1_saveTo_1 NF l dC dI cy x0 x 0 (upd (upd (upd v 21 0) 22 0) 23 0) f (XI.upd (j := 23) (x := 0) (XI.upd (j := 22) (x := 0) (XI.upd (j := 21) (x := 0) hIv (rlo _) (rhi _)) (rlo _) (rhi _)) (rlo _) (rhi _)) ) k_331 k_332 k_333 k_106 k_334 (by decide +kernel) ⟨Nat.le_of_ble_eq_true rfl, Nat.le_of_ble_eq_true rfl⟩ 22 1 rfl rfl (rfl) hl.1 rfl (Nat.le_of_ble_eq_true rfl) dX5_forgetActs_24 (fun u H locs hw hP hD hS => ?_)
  obtain ⟨hG1, hw⟩ := hw
  obtain ⟨v2, f3⟩ := u
  obtain ⟨kV_v2, kF_f3, hIv2, hk0_v2, hk1_v2, hk7_v2, hk8_v2, hk9_v2, hk10_v2, hk31_v2, hk32_v2⟩ := hw
  have hM_v2 : KV [21, 22, 23] v2 v := KV.tr kV_v2 (KV.up (j := 23) (x := 0) (KV.up (j := 22) (x := 0) (KV.up (j := 21) (x := 0) hM_v rfl) rfl) rfl) rfl
  have hA_f3 : KF [17] f3 f := KF.tr kF_f3 hA_f rfl
  have hP : va_P (dC, dI) vwCl (XW cy x0 x v2 f3) H := hP
  have hD : va_D A (XW cy x0 x v2 f3) := hD
  have hq0_v2 : v2 0 = (v 0) := hk0_v2
  have hq1_v2 : v2 1 = (v 1) := hk1_v2
  have hq7_v2 : v2 7 = (v 7) := hk7_v2
  have hq8_v2 : v2 8 = (v 8) := hk8_v2
  have hq9_v2 : v2 9 = (v 9) := hk9_v2
  have hq10_v2 : v2 10 = (v 10) := hk10_v2
  have hq31_v2 : v2 31 = (v 31) := hk31_v2
  have hq32_v2 : v2 32 = (v 32) := hk32_v2
  exact ret (v2, f3) _ _ _ _ _ _ ⟨(gsX_X5_forgetActs_1_q0 hG1), hM_v2, hA_f3, hIv2, hk0_v2, hk1_v2, hk7_v2, hk8_v2, hk9_v2, hk10_v2, hk31_v2, hk32_v2⟩ hP hD hS dX5_forgetActs_27 (Nat.le_refl _) (Nat.le_refl _)
set_option maxHeartbeats 4000000 in
set_option maxRecDepth 100000 in
theorem sX_X5_forgetAll_1 (NF : Nat) (l : Launch) (dC : Nat → ClassId) (dI : Nat → Nat → Nat) (cy : Nat → ClassId) (x0 : Nat) (x : Nat → Nat)  (v : Nat → Int32) (f : Nat → Nat → Int32) (hIv : XI v)  : ctV l (dC, dI) cy yX5_forgetAll cX5_forgetAll 1 3 142 0 0 ((Nat → Int32) × (Nat → Nat → Int32)) [.ref (x 20)] (XW cy x0 x v f) (fun u => gsX_X5_forgetAll_1 NF v f = u ∧ KV [20, 21, 22, 23] u.1 v ∧ KF [17] u.2 f ∧ XI u.1 ∧ u.1 0 = v 0 ∧ u.1 1 = v 1 ∧ u.1 7 = v 7 ∧ u.1 8 = v 8 ∧ u.1 9 = v 9 ∧ u.1 10 = v 10 ∧ u.1 31 = v 31 ∧ u.1 32 = v 32) (fun u => XW cy x0 x u.1 u.2) := by
  refine ctV_of (by decide) (Nat.le_of_ble_eq_true rfl) (fun p e s m below meth c A ls Q hx hb hml hts hown hnm hE hP hD hA hl ret => ?_)
  have hM_v : KV [20, 21, 22, 23] v v := fun _ _ => rfl
  have hA_f : KF [17] f f := fun _ _ => rfl
  have hown : s.vm.findClass RX5 = some m.cls := hown
  have hS : va_S A s.heap s.heap [] := va_S.rf
  have hl : lv_has ls 1 [(0, .ref (x 20))] := hl
  refine lv_aload_n hx hb dX5_forgetAll_0 rfl (lv_at hl 0 rfl) ?_
  refine lv_iconst (v := 0) hx hb dX5_forgetAll_1 (by decide) ?_
  refine va_put (D := (dC, dI)) (ci := 5) (v := .int 0) (ty := tyX5 3) (C := RX5) (T := TX5) (N := 7) hx hb hts inB_5 tyX5 tyX5_ok nmX5 hown hE.1 hP hD hS 21 rfl rfl 3 (by decide) (hts _ k_341) (fun _ h9 => h9) rfl (tyX5_ok 3 (by decide)) rfl rfl (Nat.le_of_ble_eq_true rfl) dX5_forgetAll_2 (fun H locs hP hD hS => ?_)
  have hP : va_P (dC, dI) vwCl (XW cy x0 x (upd v 20 0) f) H := hP
  have hD : va_D A (XW cy x0 x (upd v 20 0) f) := hD
  refine lv_aload_n hx hb dX5_forgetAll_5 rfl (lv_at hl 0 rfl) ?_
  refine cbVv (n := 0) (rest := []) hx hb hml hown hts hE hP hD hS hA (sX_X5_forgetActs_1 NF l dC dI cy x0 x  (upd v 20 0) f (XI.upd (j := 20) (x := 0) hIv (rlo _) (rhi _)) ) k_782 k_784 k_19 k_107 k_785 (by decide +kernel) ⟨Nat.le_of_ble_eq_true rfl, Nat.le_of_ble_eq_true rfl⟩ 21 5 rfl rfl (rfl) hl.1 rfl (Nat.le_of_ble_eq_true rfl) dX5_forgetAll_6 (fun u H locs hw hP hD hS => ?_)
  obtain ⟨hG1, hw⟩ := hw
  obtain ⟨v2, f3⟩ := u
  obtain ⟨kV_v2, kF_f3, hIv2, hk0_v2, hk1_v2, hk7_v2, hk8_v2, hk9_v2, hk10_v2, hk31_v2, hk32_v2⟩ := hw
  have hM_v2 : KV [20, 21, 22, 23] v2 v := KV.tr kV_v2 (KV.up (j := 20) (x := 0) hM_v rfl) rfl
  have hA_f3 : KF [17] f3 f := KF.tr kF_f3 hA_f rfl
  have hP : va_P (dC, dI) vwCl (XW cy x0 x v2 f3) H := hP
  have hD : va_D A (XW cy x0 x v2 f3) := hD
  have hq0_v2 : v2 0 = (v 0) := hk0_v2
  have hq1_v2 : v2 1 = (v 1) := hk1_v2
  have hq7_v2 : v2 7 = (v 7) := hk7_v2
  have hq8_v2 : v2 8 = (v 8) := hk8_v2
  have hq9_v2 : v2 9 = (v 9) := hk9_v2
  have hq10_v2 : v2 10 = (v 10) := hk10_v2
  have hq31_v2 : v2 31 = (v 31) := hk31_v2
  have hq32_v2 : v2 32 = (v 32) := hk32_v2
  exact ret (v2, f3) _ _ _ _ _ _ ⟨(gsX_X5_forgetAll_1_q0 hG1), hM_v2, hA_f3, hIv2, hk0_v2, hk1_v2, hk7_v2, hk8_v2, hk9_v2, hk10_v2, hk31_v2, hk32_v2⟩ hP hD hS dX5_forgetAll_9 (Nat.le_refl _) (Nat.le_refl _)
set_option maxHeartbeats 4000000 in
set_option maxRecDepth 100000 in
theorem sX_X0_clear_1 (NF : Nat) (l : Launch) (dC : Nat → ClassId) (dI : Nat → Nat → Nat) (cy : Nat → ClassId) (x0 : Nat) (x : Nat → Nat)  (v : Nat → Int32) (f : Nat → Nat → Int32) (hIv : XI v)  : ctV l (dC, dI) cy yX0_clear cX0_clear 1 1 60 0 0 ((Nat → Int32) × (Nat → Nat → Int32)) [.ref (x 31)] (XW cy x0 x v f) (fun u => gsX_X0_clear_1 NF v f = u ∧ KV [38] u.1 v ∧ KF [] u.2 f ∧ XI u.1 ∧ u.1 0 = v 0 ∧ u.1 1 = v 1 ∧ u.1 7 = v 7 ∧ u.1 8 = v 8 ∧ u.1 9 = v 9 ∧ u.1 10 = v 10 ∧ u.1 31 = v 31 ∧ u.1 32 = v 32) (fun u => XW cy x0 x u.1 u.2) := by
  refine ctV_of (by decide) (Nat.le_of_ble_eq_true rfl) (fun p e s m below meth c A ls Q hx hb hml hts hown hnm hE hP hD hA hl ret => ?_)
  have hM_v : KV [38] v v := fun _ _ => rfl
  have hA_f : KF [] f f := fun _ _ => rfl
  have hown : s.vm.findClass RX0 = some m.cls := hown
  have hS : va_S A s.heap s.heap [] := va_S.rf
  have hl : lv_has ls 1 [(0, .ref (x 31))] := hl
  refine lv_aload_n hx hb dX0_clear_0 rfl (lv_at hl 0 rfl) ?_
  refine lv_iconst (v := 0) hx hb dX0_clear_1 (by decide) ?_
  refine va_put (D := (dC, dI)) (ci := 0) (v := .int 0) (ty := tyX0 3) (C := RX0) (T := TX0) (N := 8) hx hb hts inB_0 tyX0 tyX0_ok nmX0 hown hE.1 hP hD hS 32 rfl rfl 3 (by decide) (hts _ k_433) (fun _ h9 => h9) rfl (tyX0_ok 3 (by decide)) rfl rfl (Nat.le_of_ble_eq_true rfl) dX0_clear_2 (fun H locs hP hD hS => ?_)
  have hP : va_P (dC, dI) vwCl (XW cy x0 x (upd v 38 0) f) H := hP
  have hD : va_D A (XW cy x0 x (upd v 38 0) f) := hD
  exact ret ((upd v 38 0), f) _ _ _ _ _ _ ⟨gsX_X0_clear_1_q0, (KV.up (j := 38) (x := 0) hM_v rfl), hA_f, (XI.upd (j := 38) (x := 0) hIv (by decide) (by decide)), rfl, rfl, rfl, rfl, rfl, rfl, rfl, rfl⟩ hP hD hS dX0_clear_5 (Nat.le_refl _) (Nat.le_refl _)
set_option maxHeartbeats 4000000 in
set_option maxRecDepth 100000 in
theorem sX_J7_fill_53178_1 (NF : Nat) (l : Launch) (dC : Nat → ClassId) (dI : Nat → Nat → Nat) (cy : Nat → ClassId) (x0 : Nat) (x : Nat → Nat) (p1 : Int32) (v : Nat → Int32) (f : Nat → Nat → Int32) (hIv : XI v)  : ctV l (dC, dI) cy yJ7_fill_53178 cJ7_fill_53178 4 1 60 0 0 ((Nat → Int32) × (Nat → Nat → Int32)) [.ref (x 40), .int p1] (XW cy x0 x v f) (fun u => gsX_J7_fill_53178_1 NF p1 v f = u ∧ KV [] u.1 v ∧ KF [27] u.2 f ∧ XI u.1 ∧ u.1 0 = v 0 ∧ u.1 1 = v 1 ∧ u.1 7 = v 7 ∧ u.1 8 = v 8 ∧ u.1 9 = v 9 ∧ u.1 10 = v 10 ∧ u.1 31 = v 31 ∧ u.1 32 = v 32) (fun u => XW cy x0 x u.1 u.2) := by
  refine ctV_of (by decide) (Nat.le_of_ble_eq_true rfl) (fun p e s m below meth c A ls Q hx hb hml hts hown hnm hE hP hD hA hl ret => ?_)
  have hM_v : KV [] v v := fun _ _ => rfl
  have hA_f : KF [27] f f := fun _ _ => rfl
  have hown : s.vm.findClass RJ7 = some m.cls := hown
  have hS : va_S A s.heap s.heap [] := va_S.rf
  have hl : lv_has ls 4 [(0, .ref (x 40)), (1, .int p1)] := hl
  refine lv_iconst (v := 0) hx hb dJ7_fill_53178_0 (by decide) ?_
  refine lv_istore_n (lv' := [(2, .int 0), (0, .ref (x 40)), (1, .int p1)]) hx hb dJ7_fill_53178_1 rfl hl (by decide) rfl (fun ls hl => ?_)
  refine lv_aload_n hx hb dJ7_fill_53178_2 rfl (lv_at hl 1 rfl) ?_
  refine va_alen (v := 21) hx hb hE.1 hP 41 1 rfl rfl rfl dJ7_fill_53178_3 ?_
  refine lv_istore_n (lv' := [(3, .int 21), (2, .int 0), (0, .ref (x 40)), (1, .int p1)]) hx hb dJ7_fill_53178_4 rfl hl (by decide) rfl (fun ls hl => ?_)
  have lp1 : ∀ (n1 : Nat) (l2_1 : Int32) (v1 : Nat → Int32) (f1 : Nat → Nat → Int32), XI v1 → v1 0 = (v 0) → v1 1 = (v 1) → v1 7 = (v 7) → v1 8 = (v 8) → v1 9 = (v 9) → v1 10 = (v 10) → v1 31 = (v 31) → v1 32 = (v 32) → gsX_J7_fill_53178_1_L1 NF p1 n1 l2_1 v1 f1 = (gsX_J7_fill_53178_1 NF p1 v f) → ((0 : Int) ≤ l2_1.toInt ∧ l2_1.toInt ≤ 2147483647) → KV [] v1 v → KF [27] f1 f → (2147483647 - l2_1.toInt).toNat < n1 → ∀ (H : Heap) (locs : List Loc) (ls : Array Slot), va_P (dC, dI) vwCl (XW cy x0 x v1 f1) H → va_D A (XW cy x0 x v1 f1) → va_S A s.heap H locs → lv_has ls 4 [(3, .int 21), (2, .int l2_1), (0, .ref (x 40)), (1, .int p1)] → W p l e { frames := 1, cells := 0, slots := 0, locals := 60 } s m ([.ref (x 40), .int p1] : List Value).toArray below meth c H locs 0 0 Q (F0 m 5 ls []) := by
    intro n1
    induction n1 with
    | zero => intro l2_1 v1 f1 hIv1 hq0_v1 hq1_v1 hq7_v1 hq8_v1 hq9_v1 hq10_v1 hq31_v1 hq32_v1 hT1 hr2_1 hM_v1 hA_f1 hm; exact absurd hm (Nat.not_lt_zero _)
    | succ n1 ih1 =>
      intro l2_1 v1 f1 hIv1 hq0_v1 hq1_v1 hq7_v1 hq8_v1 hq9_v1 hq10_v1 hq31_v1 hq32_v1 hT1 hr2_1 hM_v1 hA_f1 hm1 H locs ls hP hD hS hl
      refine lv_iload_n hx hb dJ7_fill_53178_5 rfl (lv_at hl 1 rfl) ?_
      refine lv_iload_n hx hb dJ7_fill_53178_6 rfl (lv_at hl 0 rfl) ?_
      refine lv_icmp_ge (tgt := 20) hx hb dJ7_fill_53178_7 (by decide) (fun c2 => ?_) (fun c2 => ?_)
      · skip
        have zc2 : 21 ≤ l2_1.toInt := by rw [fa_le, show (21 : Int32).toInt = 21 from by decide] at c2; exact c2
        exact ret (v1, f1) _ _ _ _ _ _ ⟨(hT1.symm.trans (gsX_J7_fill_53178_1_q0 c2)), hM_v1, hA_f1, hIv1, (show v1 0 = v 0 from hq0_v1), (show v1 1 = v 1 from hq1_v1), (show v1 7 = v 7 from hq7_v1), (show v1 8 = v 8 from hq8_v1), (show v1 9 = v 9 from hq9_v1), (show v1 10 = v 10 from hq10_v1), (show v1 31 = v 31 from hq31_v1), (show v1 32 = v 32 from hq32_v1)⟩ hP hD hS dJ7_fill_53178_20 (Nat.le_refl _) (Nat.le_refl _)
      · skip
        have zc2 : ¬ (21 ≤ l2_1.toInt) := by rw [fa_le, show (21 : Int32).toInt = 21 from by decide] at c2; exact c2
        refine lv_aload_n hx hb dJ7_fill_53178_10 rfl (lv_at hl 2 rfl) ?_
        refine lv_iload_n hx hb dJ7_fill_53178_11 rfl (lv_at hl 1 rfl) ?_
        refine lv_iload_n hx hb dJ7_fill_53178_12 rfl (lv_at hl 3 rfl) ?_
        refine stI hx hb hE hP hD hS 41 rfl (vp_in_iff.mpr ⟨by omega, by omega⟩) rfl dJ7_fill_53178_13 (fun H locs hP hD hS => ?_)
        obtain ⟨f3, ef3, hP, hD⟩ : ∃ fz9, fz9 = upd2 f1 27 (upd (f1 27) l2_1.toNatClampNeg p1) ∧ va_P (dC, dI) vwCl (XW cy x0 x v1 fz9) H ∧ va_D A (XW cy x0 x v1 fz9) := ⟨_, rfl, hP, hD⟩
        have hA_f3 : KF [27] f3 f := by rw [ef3]; exact KF.up hA_f1 rfl
        obtain ⟨t4, et4⟩ : ∃ y : Int32, y = l2_1 + 1 := ⟨_, rfl⟩
        have rg5 := fb_rng l2_1
        have zt4 : t4.toInt = l2_1.toInt + 1 := by rw [et4]; exact add_i rfl (by decide) (by omega) (by omega)
        refine lv_iinc (v := t4) (lv' := [(2, .int t4), (3, .int 21), (0, .ref (x 40)), (1, .int p1)]) hx hb dJ7_fill_53178_14 hl (k := 1) rfl (by rw [et4]; rfl) (by decide) rfl (fun ls hl => ?_)
        refine lv_goto (tgt := 5) hx hb dJ7_fill_53178_17 (by decide) ?_
        have rg6 := fb_rng t4
        exact ih1 t4 v1 f3 hIv1 hq0_v1 hq1_v1 hq7_v1 hq8_v1 hq9_v1 hq10_v1 hq31_v1 hq32_v1 ((gsX_J7_fill_53178_1_q1 c2 ef3 et4).symm.trans hT1) ⟨show (0 : Int) ≤ t4.toInt by omega, show t4.toInt ≤ (2147483647 : Int) by omega⟩ hM_v1 hA_f3 (by show (2147483647 - t4.toInt).toNat < n1; omega) _ _ _ hP hD hS (lv_sub hl [1, 0, 2, 3] rfl)
  exact lp1 (4294967296 + NF) 0 v f hIv rfl rfl rfl rfl rfl rfl rfl rfl gsX_J7_fill_53178_1_q2.symm ⟨by decide, by decide⟩ hM_v hA_f (by have q3 : (21 : Int32).toInt = 21 := (by decide); have q2 : (0 : Int32).toInt = 0 := (by decide); show (2147483647 - (0 : Int32).toInt).toNat < 4294967296 + NF; omega) _ _ _ hP hD hS (lv_sub hl [0, 1, 2, 3] rfl)
