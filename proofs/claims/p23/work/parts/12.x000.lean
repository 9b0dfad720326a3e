set_option maxHeartbeats 4000000 in
set_option maxRecDepth 100000 in
theorem sX_X9_hasRoom_1 (NF : Nat) (l : Launch) (dC : Nat → ClassId) (dI : Nat → Nat → Nat) (cy : Nat → ClassId) (x0 : Nat) (x : Nat → Nat)  (v : Nat → Int32) (f : Nat → Nat → Int32) (hIv : XI v)  : ctI l (dC, dI) cy yX9_hasRoom cX9_hasRoom 1 .boolean 1 60 0 0 Unit [.ref (x 0)] (XW cy x0 x v f) (fun r u => gsX_X9_hasRoom_1 NF v f = r ∧ ((r = 1) ∨ (r = 0))) (fun u => XW cy x0 x v f) := by
  refine ctI_of (by decide) (Nat.le_of_ble_eq_true rfl) (fun p e s m below meth c A ls Q hx hb hml hts hown hE hP hD hA hl ret => ?_)
  have hown : s.vm.findClass RX9 = some m.cls := hown
  have hS : va_S A s.heap s.heap [] := va_S.rf
  have hl : lv_has ls 1 [(0, .ref (x 0))] := hl
  refine lv_aload_n hx hb dX9_hasRoom_0 rfl (lv_at hl 0 rfl) ?_
  refine va_get (D := (dC, dI)) (ci := 9) (v := .int (v 1)) (C := RX9) (T := TX9) (N := 6) hx hb hts inB_9 hown hE.1 hP 1 rfl rfl 1 (Nat.le_of_ble_eq_true rfl) (hts _ k_137) (fun _ h9 => h9) rfl dX9_hasRoom_1 ?_
  refine lv_bipush (v := 20) hx hb dX9_hasRoom_4 rfl ?_
  refine lv_iadd hx hb dX9_hasRoom_6 ?_
  refine lv_topi (fun t1 et1 => ?_)
  refine lv_sipush (v := 1600) hx hb dX9_hasRoom_7 rfl ?_
  refine lv_icmp_gt (tgt := 17) hx hb dX9_hasRoom_10 rfl (fun c3 => ?_) (fun c3 => ?_)
  · skip
    refine lv_iconst (v := 0) hx hb dX9_hasRoom_17 rfl ?_
    exact ret 0 () _ _ _ _ _ _ rfl ⟨(gsX_X9_hasRoom_1_q0 et1 c3), (Or.inr rfl)⟩ hP hD hS dX9_hasRoom_18 (Nat.le_refl _) (Nat.le_refl _)
  · skip
    refine lv_iconst (v := 1) hx hb dX9_hasRoom_13 rfl ?_
    refine lv_goto (tgt := 18) hx hb dX9_hasRoom_14 rfl ?_
    exact ret 1 () _ _ _ _ _ _ rfl ⟨(gsX_X9_hasRoom_1_q1 et1 c3), (Or.inl rfl)⟩ hP hD hS dX9_hasRoom_18 (Nat.le_refl _) (Nat.le_refl _)
set_option maxHeartbeats 4000000 in
set_option maxRecDepth 100000 in
theorem sX_X9_append_1 (NF : Nat) (l : Launch) (dC : Nat → ClassId) (dI : Nat → Nat → Nat) (cy : Nat → ClassId) (x0 : Nat) (x : Nat → Nat) (p1 : Int32) (v : Nat → Int32) (f : Nat → Nat → Int32) (hIv : XI v)  : ctV l (dC, dI) cy yX9_append cX9_append 3 1 60 0 0 ((Nat → Int32) × (Nat → Nat → Int32)) [.ref (x 0), .int p1] (XW cy x0 x v f) (fun u => gsX_X9_append_1 NF p1 v f = u ∧ KV [1] u.1 v ∧ KF [0] u.2 f ∧ XI u.1 ∧ u.1 0 = v 0 ∧ u.1 7 = v 7 ∧ u.1 8 = v 8 ∧ u.1 9 = v 9 ∧ u.1 10 = v 10 ∧ u.1 31 = v 31 ∧ u.1 32 = v 32) (fun u => XW cy x0 x u.1 u.2) := by
  refine ctV_of (by decide) (Nat.le_of_ble_eq_true rfl) (fun p e s m below meth c A ls Q hx hb hml hts hown hnm hE hP hD hA hl ret => ?_)
  have hM_v : KV [1] v v := fun _ _ => rfl
  have hA_f : KF [0] f f := fun _ _ => rfl
  have hown : s.vm.findClass RX9 = some m.cls := hown
  have hS : va_S A s.heap s.heap [] := va_S.rf
  have hl : lv_has ls 3 [(0, .ref (x 0)), (1, .int p1)] := hl
  refine lv_bipush (v := 24) hx hb dX9_append_0 rfl ?_
  refine lv_istore_n (lv' := [(2, .int 24), (0, .ref (x 0)), (1, .int p1)]) hx hb dX9_append_2 rfl hl (Nat.le_of_ble_eq_true rfl) rfl (fun ls hl => ?_)
  have lp1 : ∀ (n1 : Nat) (l2_1 : Int32) (v1 : Nat → Int32) (f1 : Nat → Nat → Int32), XI v1 → v1 0 = (v 0) → v1 7 = (v 7) → v1 8 = (v 8) → v1 9 = (v 9) → v1 10 = (v 10) → v1 31 = (v 31) → v1 32 = (v 32) → gsX_X9_append_1_L1 NF p1 n1 l2_1 v1 f1 = (gsX_X9_append_1 NF p1 v f) → ((-2147483648 : Int) ≤ l2_1.toInt ∧ l2_1.toInt ≤ 24) → KV [1] v1 v → KF [0] f1 f → (l2_1.toInt + 2147483648).toNat < n1 → ∀ (H : Heap) (locs : List Loc) (ls : Array Slot), va_P (dC, dI) vwCl (XW cy x0 x v1 f1) H → va_D A (XW cy x0 x v1 f1) → va_S A s.heap H locs → lv_has ls 3 [(2, .int l2_1), (0, .ref (x 0)), (1, .int p1)] → W p l e { frames := 1, cells := 0, slots := 0, locals := 60 } s m ([.ref (x 0), .int p1] : List Value).toArray below meth c H locs 0 0 Q (F0 m 3 ls []) := by
    intro n1
    induction n1 with
    | zero => intro l2_1 v1 f1 hIv1 hq0_v1 hq7_v1 hq8_v1 hq9_v1 hq10_v1 hq31_v1 hq32_v1 hT1 hr2_1 hM_v1 hA_f1 hm; exact absurd hm (Nat.not_lt_zero _)
    | succ n1 ih1 =>
      intro l2_1 v1 f1 hIv1 hq0_v1 hq7_v1 hq8_v1 hq9_v1 hq10_v1 hq31_v1 hq32_v1 hT1 hr2_1 hM_v1 hA_f1 hm1 H locs ls hP hD hS hl
      refine lv_iload_n hx hb dX9_append_3 rfl (lv_at hl 0 rfl) ?_
      refine lv_if_lt (tgt := 46) hx hb dX9_append_4 rfl (fun c2 => ?_) (fun c2 => ?_)
      · skip
        exact ret (v1, f1) _ _ _ _ _ _ ⟨(hT1.symm.trans (gsX_X9_append_1_q0 c2)), hM_v1, hA_f1, hIv1, (show v1 0 = v 0 from hq0_v1), (show v1 7 = v 7 from hq7_v1), (show v1 8 = v 8 from hq8_v1), (show v1 9 = v 9 from hq9_v1), (show v1 10 = v 10 from hq10_v1), (show v1 31 = v 31 from hq31_v1), (show v1 32 = v 32 from hq32_v1)⟩ hP hD hS dX9_append_46 (Nat.le_refl _) (Nat.le_refl _)
      · skip
        have zc2 : ¬ (l2_1.toInt < 0) := zLn rfl tc_0 c2
        refine lv_aload_n hx hb dX9_append_7 rfl (lv_at hl 1 rfl) ?_
        refine va_get (D := (dC, dI)) (ci := 9) (v := .int (v1 1)) (C := RX9) (T := TX9) (N := 6) hx hb hts inB_9 hown hE.1 hP 1 rfl rfl 1 (Nat.le_of_ble_eq_true rfl) (hts _ k_137) (fun _ h9 => h9) rfl dX9_append_8 ?_
        have b1_v1 : 0 ≤ (v1 1).toInt ∧ (v1 1).toInt ≤ 1600 := Xb_1 hIv1
        refine lv_sipush (v := 1600) hx hb dX9_append_11 rfl ?_
        refine lv_icmp_ge (tgt := 46) hx hb dX9_append_14 rfl (fun c3 => ?_) (fun c3 => ?_)
        · skip
          exact ret (v1, f1) _ _ _ _ _ _ ⟨(hT1.symm.trans (gsX_X9_append_1_q1 c2 c3)), hM_v1, hA_f1, hIv1, (show v1 0 = v 0 from hq0_v1), (show v1 7 = v 7 from hq7_v1), (show v1 8 = v 8 from hq8_v1), (show v1 9 = v 9 from hq9_v1), (show v1 10 = v 10 from hq10_v1), (show v1 31 = v 31 from hq31_v1), (show v1 32 = v 32 from hq32_v1)⟩ hP hD hS dX9_append_46 (Nat.le_refl _) (Nat.le_refl _)
        · skip
          have zc3 : ¬ (1600 ≤ (v1 1).toInt) := zMn tc_1600 rfl c3
          refine lv_aload_n hx hb dX9_append_17 rfl (lv_at hl 1 rfl) ?_
          refine va_get (D := (dC, dI)) (ci := 9) (v := .ref (x 1)) (C := RX9) (T := TX9) (N := 6) hx hb hts inB_9 hown hE.1 hP 1 rfl rfl 0 (Nat.le_of_ble_eq_true rfl) (hts _ k_136) (fun _ h9 => h9) rfl dX9_append_18 ?_
          refine lv_aload_n hx hb dX9_append_21 rfl (lv_at hl 1 rfl) ?_
          refine va_get (D := (dC, dI)) (ci := 9) (v := .int (v1 1)) (C := RX9) (T := TX9) (N := 6) hx hb hts inB_9 hown hE.1 hP 1 rfl rfl 1 (Nat.le_of_ble_eq_true rfl) (hts _ k_137) (fun _ h9 => h9) rfl dX9_append_22 ?_
          refine lv_iload_n hx hb dX9_append_25 rfl (lv_at hl 2 rfl) ?_
          refine lv_iload_n hx hb dX9_append_26 rfl (lv_at hl 0 rfl) ?_
          refine lv_ishr hx hb dX9_append_27 ?_
          refine lv_topi (fun t4 et4 => ?_)
          refine lv_i2b hx hb dX9_append_28 rfl ?_
          refine lv_topi (fun t5 et5 => ?_)
          refine stB hx hb hE hP hD hS 2 rfl (vpI (k := 1600) rfl (show 0 ≤ (v1 1).toInt from om_2 b1_v1) (show (v1 1).toInt < 1600 from om_3 zc3)) rfl dX9_append_29 (fun H locs hP hD hS => ?_)
          obtain ⟨f6, ef6, hP, hD⟩ : ∃ fz9, fz9 = upd2 f1 0 (upd (f1 0) (v1 1).toNatClampNeg (vp_nar .byte t5)) ∧ va_P (dC, dI) vwCl (XW cy x0 x v1 fz9) H ∧ va_D A (XW cy x0 x v1 fz9) := ⟨_, rfl, hP, hD⟩
          have hA_f6 : KF [0] f6 f := by rw [ef6]; exact KF.up hA_f1 rfl
          refine lv_aload_n hx hb dX9_append_30 rfl (lv_at hl 1 rfl) ?_
          refine lv_dup hx hb dX9_append_31 rfl ?_
          refine va_get (D := (dC, dI)) (ci := 9) (v := .int (v1 1)) (C := RX9) (T := TX9) (N := 6) hx hb hts inB_9 hown hE.1 hP 1 rfl rfl 1 (Nat.le_of_ble_eq_true rfl) (hts _ k_137) (fun _ h9 => h9) rfl dX9_append_32 ?_
          refine lv_iconst (v := 1) hx hb dX9_append_35 rfl ?_
          refine lv_iadd hx hb dX9_append_36 ?_
          refine lv_topi (fun t7 et7 => ?_)
          have zt7 : t7.toInt = (v1 1).toInt + 1 := (congrArg Int32.toInt et7).trans (add_i rfl tc_1 (om_4 b1_v1) (om_5 zc3))
          refine va_put (D := (dC, dI)) (ci := 9) (v := .int t7) (ty := tyX9 1) (C := RX9) (T := TX9) (N := 6) hx hb hts inB_9 tyX9 tyX9_ok nmX9 hown hE.1 hP hD hS 1 rfl rfl 1 (Nat.le_of_ble_eq_true rfl) (hts _ k_137) (fun _ h9 => h9) rfl (tyX9_ok 1 (Nat.le_of_ble_eq_true rfl)) rfl rfl (Nat.le_of_ble_eq_true rfl) dX9_append_37 (fun H locs hP hD hS => ?_)
          have hP : va_P (dC, dI) vwCl (XW cy x0 x (upd v1 1 t7) f6) H := hP
          have hD : va_D A (XW cy x0 x (upd v1 1 t7) f6) := hD
          obtain ⟨t9, et9⟩ : ∃ y : Int32, y = l2_1 + (-8) := ⟨_, rfl⟩
          have zt9 : t9.toInt = l2_1.toInt + (-8) := (congrArg Int32.toInt et9).trans (add_i rfl tc_m8 (om_6 zc2) (om_7 hr2_1))
          refine lv_iinc (v := t9) (lv' := [(2, .int t9), (0, .ref (x 0)), (1, .int p1)]) hx hb dX9_append_40 hl (k := 0) rfl et9.symm (Nat.le_of_ble_eq_true rfl) rfl (fun ls hl => ?_)
          refine lv_goto (tgt := 3) hx hb dX9_append_43 rfl ?_
          have rg11 := fb_rng t9
          exact ih1 t9 (upd v1 1 t7) f6 (Xu_1 (x := t7) hIv1 (show (0 : Int) ≤ t7.toInt from om_8 b1_v1 zt7) (show t7.toInt ≤ (1600 : Int) from om_9 zc3 zt7)) hq0_v1 hq7_v1 hq8_v1 hq9_v1 hq10_v1 hq31_v1 hq32_v1 ((gsX_X9_append_1_q2 c2 c3 et4 et5 ef6 et7 et9).symm.trans hT1) ⟨show (-2147483648 : Int) ≤ t9.toInt from om_10 rg11, show t9.toInt ≤ (24 : Int) from om_11 hr2_1 zt9⟩ (KV.up (j := 1) (x := t7) hM_v1 rfl) hA_f6 (show (t9.toInt + 2147483648).toNat < n1 from om_12 hm1 zt9 rg11) _ _ _ hP hD hS (lv_sub hl [0, 1, 2] rfl)
  exact lp1 (4294967296 + NF) 24 v f hIv rfl rfl rfl rfl rfl rfl rfl gsX_X9_append_1_q3.symm ⟨by decide, by decide⟩ hM_v hA_f (show ((24 : Int32).toInt + 2147483648).toNat < 4294967296 + NF from om_13 tc_24) _ _ _ hP hD hS (lv_sub hl [0, 1, 2] rfl)
set_option maxHeartbeats 4000000 in
set_option maxRecDepth 100000 in
theorem sX_X10_feed_1 (NF : Nat) (l : Launch) (dC : Nat → ClassId) (dI : Nat → Nat → Nat) (cy : Nat → ClassId) (x0 : Nat) (x : Nat → Nat) (p1 : Int32) (p2 : Int32) (p3 : Int32) (p4 : Int32) (p5 : Int32) (v : Nat → Int32) (f : Nat → Nat → Int32) (hIv : XI v)  : ctI l (dC, dI) cy yX10_feed cX10_feed 6 .int 2 82 0 0 ((Nat → Int32) × (Nat → Nat → Int32)) [.ref x0, .int p1, .int p2, .int p3, .int p4, .int p5] (XW cy x0 x v f) (fun r u => gsX_X10_feed_1 NF p1 p2 p3 p4 p5 v f = (r, u) ∧ KV [1] u.1 v ∧ KF [0] u.2 f ∧ XI u.1 ∧ u.1 0 = v 0 ∧ u.1 7 = v 7 ∧ u.1 8 = v 8 ∧ u.1 9 = v 9 ∧ u.1 10 = v 10 ∧ u.1 31 = v 31 ∧ u.1 32 = v 32) (fun u => XW cy x0 x u.1 u.2) := by
  refine ctI_of (by decide) (Nat.le_of_ble_eq_true rfl) (fun p e s m below meth c A ls Q hx hb hml hts hown hE hP hD hA hl ret => ?_)
  have hM_v : KV [1] v v := fun _ _ => rfl
  have hA_f : KF [0] f f := fun _ _ => rfl
  have hown : s.vm.findClass RX10 = some m.cls := hown
  have hS : va_S A s.heap s.heap [] := va_S.rf
  have hl : lv_has ls 6 [(0, .ref x0), (1, .int p1), (2, .int p2), (3, .int p3), (4, .int p4), (5, .int p5)] := hl
  refine lv_aload_n hx hb dX10_feed_0 rfl (lv_at hl 0 rfl) ?_
  refine va_get (D := (dC, dI)) (ci := 10) (v := .ref (x 0)) (C := RX10) (T := TX10) (N := 10) hx hb hts inB_10 hown hE.1 hP 0 rfl rfl 0 (Nat.le_of_ble_eq_true rfl) (hts _ k_491) (fun _ h9 => h9) rfl dX10_feed_1 ?_
  refine cbVi (n := 0) (rest := []) hx hb hml hown hts hE hP hD hS hA (sX_X9_hasRoom_1 NF l dC dI cy x0 x  v f hIv ) k_526 k_527 k_528 k_102 k_529 hd_yX9_hasRoom ⟨Nat.le_of_ble_eq_true rfl, Nat.le_of_ble_eq_true rfl⟩ 1 9 rfl rfl (rfl) hl.1 rfl (Nat.le_of_ble_eq_true rfl) dX10_feed_4 (fun r1 u H locs hw hP hD hS => ?_)
  obtain ⟨hG2, hw⟩ := hw
  rcases hw with ⟨g3⟩ | ⟨g3⟩
  · skip
    subst g3
    refine lv_if_ne (tgt := 12) hx hb dX10_feed_7 rfl (fun _ => ?_) (fun c0 => absurd c0 (by decide))
    refine lv_aload_n hx hb dX10_feed_12 rfl (lv_at hl 0 rfl) ?_
    refine va_get (D := (dC, dI)) (ci := 10) (v := .ref (x 0)) (C := RX10) (T := TX10) (N := 10) hx hb hts inB_10 hown hE.1 hP 0 rfl rfl 0 (Nat.le_of_ble_eq_true rfl) (hts _ k_491) (fun _ h9 => h9) rfl dX10_feed_13 ?_
    refine lv_iload_n hx hb dX10_feed_16 rfl (lv_at hl 1 rfl) ?_
    refine cbVv (n := 1) (rest := []) hx hb hml hown hts hE hP hD hS hA (sX_X9_append_1 NF l dC dI cy x0 x p1 v f hIv ) k_530 k_531 k_532 k_102 k_533 hd_yX9_append ⟨Nat.le_of_ble_eq_true rfl, Nat.le_of_ble_eq_true rfl⟩ 1 9 rfl rfl (rfl) hl.1 rfl (Nat.le_of_ble_eq_true rfl) dX10_feed_17 (fun u H locs hw hP hD hS => ?_)
    obtain ⟨hG4, hw⟩ := hw
    obtain ⟨v5, f6⟩ := u
    obtain ⟨kV_v5, kF_f6, hIv5, hk0_v5, hk7_v5, hk8_v5, hk9_v5, hk10_v5, hk31_v5, hk32_v5⟩ := hw
    have hM_v5 : KV [1] v5 v := KV.tr kV_v5 hM_v rfl
    have hA_f6 : KF [0] f6 f := KF.tr kF_f6 hA_f rfl
    have hP : va_P (dC, dI) vwCl (XW cy x0 x v5 f6) H := hP
    have hD : va_D A (XW cy x0 x v5 f6) := hD
    have hq0_v5 : v5 0 = (v 0) := hk0_v5
    have hq7_v5 : v5 7 = (v 7) := hk7_v5
    have hq8_v5 : v5 8 = (v 8) := hk8_v5
    have hq9_v5 : v5 9 = (v 9) := hk9_v5
    have hq10_v5 : v5 10 = (v 10) := hk10_v5
    have hq31_v5 : v5 31 = (v 31) := hk31_v5
    have hq32_v5 : v5 32 = (v 32) := hk32_v5
    refine lv_aload_n hx hb dX10_feed_20 rfl (lv_at hl 0 rfl) ?_
    refine va_get (D := (dC, dI)) (ci := 10) (v := .ref (x 0)) (C := RX10) (T := TX10) (N := 10) hx hb hts inB_10 hown hE.1 hP 0 rfl rfl 0 (Nat.le_of_ble_eq_true rfl) (hts _ k_491) (fun _ h9 => h9) rfl dX10_feed_21 ?_
    refine lv_iload_n hx hb dX10_feed_24 rfl (lv_at hl 2 rfl) ?_
    refine cbVv (n := 1) (rest := []) hx hb hml hown hts hE hP hD hS hA (sX_X9_append_1 NF l dC dI cy x0 x p2 v5 f6 hIv5 ) k_530 k_531 k_532 k_102 k_533 hd_yX9_append ⟨Nat.le_of_ble_eq_true rfl, Nat.le_of_ble_eq_true rfl⟩ 1 9 rfl rfl (rfl) hl.1 rfl (Nat.le_of_ble_eq_true rfl) dX10_feed_25 (fun u H locs hw hP hD hS => ?_)
    obtain ⟨hG7, hw⟩ := hw
    obtain ⟨v8, f9⟩ := u
    obtain ⟨kV_v8, kF_f9, hIv8, hk0_v8, hk7_v8, hk8_v8, hk9_v8, hk10_v8, hk31_v8, hk32_v8⟩ := hw
    have hM_v8 : KV [1] v8 v := KV.tr kV_v8 hM_v5 rfl
    have hA_f9 : KF [0] f9 f := KF.tr kF_f9 hA_f6 rfl
    have hP : va_P (dC, dI) vwCl (XW cy x0 x v8 f9) H := hP
    have hD : va_D A (XW cy x0 x v8 f9) := hD
    have hq0_v8 : v8 0 = (v 0) := hk0_v8.trans hq0_v5
    have hq7_v8 : v8 7 = (v 7) := hk7_v8.trans hq7_v5
    have hq8_v8 : v8 8 = (v 8) := hk8_v8.trans hq8_v5
    have hq9_v8 : v8 9 = (v 9) := hk9_v8.trans hq9_v5
    have hq10_v8 : v8 10 = (v 10) := hk10_v8.trans hq10_v5
    have hq31_v8 : v8 31 = (v 31) := hk31_v8.trans hq31_v5
    have hq32_v8 : v8 32 = (v 32) := hk32_v8.trans hq32_v5
    refine lv_aload_n hx hb dX10_feed_28 rfl (lv_at hl 0 rfl) ?_
    refine va_get (D := (dC, dI)) (ci := 10) (v := .ref (x 0)) (C := RX10) (T := TX10) (N := 10) hx hb hts inB_10 hown hE.1 hP 0 rfl rfl 0 (Nat.le_of_ble_eq_true rfl) (hts _ k_491) (fun _ h9 => h9) rfl dX10_feed_29 ?_
    refine lv_iload_n hx hb dX10_feed_32 rfl (lv_at hl 3 rfl) ?_
    refine cbVv (n := 1) (rest := []) hx hb hml hown hts hE hP hD hS hA (sX_X9_append_1 NF l dC dI cy x0 x p3 v8 f9 hIv8 ) k_530 k_531 k_532 k_102 k_533 hd_yX9_append ⟨Nat.le_of_ble_eq_true rfl, Nat.le_of_ble_eq_true rfl⟩ 1 9 rfl rfl (rfl) hl.1 rfl (Nat.le_of_ble_eq_true rfl) dX10_feed_33 (fun u H locs hw hP hD hS => ?_)
    obtain ⟨hG10, hw⟩ := hw
    obtain ⟨v11, f12⟩ := u
    obtain ⟨kV_v11, kF_f12, hIv11, hk0_v11, hk7_v11, hk8_v11, hk9_v11, hk10_v11, hk31_v11, hk32_v11⟩ := hw
    have hM_v11 : KV [1] v11 v := KV.tr kV_v11 hM_v8 rfl
    have hA_f12 : KF [0] f12 f := KF.tr kF_f12 hA_f9 rfl
    have hP : va_P (dC, dI) vwCl (XW cy x0 x v11 f12) H := hP
    have hD : va_D A (XW cy x0 x v11 f12) := hD
    have hq0_v11 : v11 0 = (v 0) := hk0_v11.trans hq0_v8
    have hq7_v11 : v11 7 = (v 7) := hk7_v11.trans hq7_v8
    have hq8_v11 : v11 8 = (v 8) := hk8_v11.trans hq8_v8
    have hq9_v11 : v11 9 = (v 9) := hk9_v11.trans hq9_v8
    have hq10_v11 : v11 10 = (v 10) := hk10_v11.trans hq10_v8
    have hq31_v11 : v11 31 = (v 31) := hk31_v11.trans hq31_v8
    have hq32_v11 : v11 32 = (v 32) := hk32_v11.trans hq32_v8
    refine lv_aload_n hx hb dX10_feed_36 rfl (lv_at hl 0 rfl) ?_
    refine va_get (D := (dC, dI)) (ci := 10) (v := .ref (x 0)) (C := RX10) (T := TX10) (N := 10) hx hb hts inB_10 hown hE.1 hP 0 rfl rfl 0 (Nat.le_of_ble_eq_true rfl) (hts _ k_491) (fun _ h9 => h9) rfl dX10_feed_37 ?_
    refine lv_iload hx hb dX10_feed_40 (lv_at hl 4 rfl) ?_
    refine cbVv (n := 1) (rest := []) hx hb hml hown hts hE hP hD hS hA (sX_X9_append_1 NF l dC dI cy x0 x p4 v11 f12 hIv11 ) k_530 k_531 k_532 k_102 k_533 hd_yX9_append ⟨Nat.le_of_ble_eq_true rfl, Nat.le_of_ble_eq_true rfl⟩ 1 9 rfl rfl (rfl) hl.1 rfl (Nat.le_of_ble_eq_true rfl) dX10_feed_42 (fun u H locs hw hP hD hS => ?_)
    obtain ⟨hG13, hw⟩ := hw
    obtain ⟨v14, f15⟩ := u
    obtain ⟨kV_v14, kF_f15, hIv14, hk0_v14, hk7_v14, hk8_v14, hk9_v14, hk10_v14, hk31_v14, hk32_v14⟩ := hw
    have hM_v14 : KV [1] v14 v := KV.tr kV_v14 hM_v11 rfl
    have hA_f15 : KF [0] f15 f := KF.tr kF_f15 hA_f12 rfl
    have hP : va_P (dC, dI) vwCl (XW cy x0 x v14 f15) H := hP
    have hD : va_D A (XW cy x0 x v14 f15) := hD
    have hq0_v14 : v14 0 = (v 0) := hk0_v14.trans hq0_v11
    have hq7_v14 : v14 7 = (v 7) := hk7_v14.trans hq7_v11
    have hq8_v14 : v14 8 = (v 8) := hk8_v14.trans hq8_v11
    have hq9_v14 : v14 9 = (v 9) := hk9_v14.trans hq9_v11
    have hq10_v14 : v14 10 = (v 10) := hk10_v14.trans hq10_v11
    have hq31_v14 : v14 31 = (v 31) := hk31_v14.trans hq31_v11
    have hq32_v14 : v14 32 = (v 32) := hk32_v14.trans hq32_v11
    refine lv_aload_n hx hb dX10_feed_45 rfl (lv_at hl 0 rfl) ?_
    refine va_get (D := (dC, dI)) (ci := 10) (v := .ref (x 0)) (C := RX10) (T := TX10) (N := 10) hx hb hts inB_10 hown hE.1 hP 0 rfl rfl 0 (Nat.le_of_ble_eq_true rfl) (hts _ k_491) (fun _ h9 => h9) rfl dX10_feed_46 ?_
    refine lv_iload hx hb dX10_feed_49 (lv_at hl 5 rfl) ?_
    refine cbVv (n := 1) (rest := []) hx hb hml hown hts hE hP hD hS hA (sX_X9_append_1 NF l dC dI cy x0 x p5 v14 f15 hIv14 ) k_530 k_531 k_532 k_102 k_533 hd_yX9_append ⟨Nat.le_of_ble_eq_true rfl, Nat.le_of_ble_eq_true rfl⟩ 1 9 rfl rfl (rfl) hl.1 rfl (Nat.le_of_ble_eq_true rfl) dX10_feed_51 (fun u H locs hw hP hD hS => ?_)
    obtain ⟨hG16, hw⟩ := hw
    obtain ⟨v17, f18⟩ := u
    obtain ⟨kV_v17, kF_f18, hIv17, hk0_v17, hk7_v17, hk8_v17, hk9_v17, hk10_v17, hk31_v17, hk32_v17⟩ := hw
    have hM_v17 : KV [1] v17 v := KV.tr kV_v17 hM_v14 rfl
    have hA_f18 : KF [0] f18 f := KF.tr kF_f18 hA_f15 rfl
    have hP : va_P (dC, dI) vwCl (XW cy x0 x v17 f18) H := hP
    have hD : va_D A (XW cy x0 x v17 f18) := hD
    have hq0_v17 : v17 0 = (v 0) := hk0_v17.trans hq0_v14
    have hq7_v17 : v17 7 = (v 7) := hk7_v17.trans hq7_v14
    have hq8_v17 : v17 8 = (v 8) := hk8_v17.trans hq8_v14
    have hq9_v17 : v17 9 = (v 9) := hk9_v17.trans hq9_v14
    have hq10_v17 : v17 10 = (v 10) := hk10_v17.trans hq10_v14
    have hq31_v17 : v17 31 = (v 31) := hk31_v17.trans hq31_v14
    have hq32_v17 : v17 32 = (v 32) := hk32_v17.trans hq32_v14
    refine lv_aload_n hx hb dX10_feed_54 rfl (lv_at hl 0 rfl) ?_
    refine va_get (D := (dC, dI)) (ci := 10) (v := .ref (x 0)) (C := RX10) (T := TX10) (N := 10) hx hb hts inB_10 hown hE.1 hP 0 rfl rfl 0 (Nat.le_of_ble_eq_true rfl) (hts _ k_491) (fun _ h9 => h9) rfl dX10_feed_55 ?_
    refine va_getN (D := (dC, dI)) (ci := 9) (v := .int (v17 1)) (C := RX9) (T := TX9) (N := 6) hx hb hts inB_9 hown hE.1 hP 1 rfl rfl 1 (Nat.le_of_ble_eq_true rfl) (va_Nw.use rfl (hE.2 _ k_138)) (fun _ h9 => h9) rfl dX10_feed_58 ?_
    have b1_v17 : 0 ≤ (v17 1).toInt ∧ (v17 1).toInt ≤ 1600 := Xb_1 hIv17
    exact ret (v17 1) (v17, f18) _ _ _ _ _ _ rfl ⟨(gsX_X10_feed_1_q0 hG2 hG4 hG7 hG10 hG13 hG16), hM_v17, hA_f18, hIv17, (hk0_v17.trans (hk0_v14.trans (hk0_v11.trans (hk0_v8.trans hk0_v5)))), (hk7_v17.trans (hk7_v14.trans (hk7_v11.trans (hk7_v8.trans hk7_v5)))), (hk8_v17.trans (hk8_v14.trans (hk8_v11.trans (hk8_v8.trans hk8_v5)))), (hk9_v17.trans (hk9_v14.trans (hk9_v11.trans (hk9_v8.trans hk9_v5)))), (hk10_v17.trans (hk10_v14.trans (hk10_v11.trans (hk10_v8.trans hk10_v5)))), (hk31_v17.trans (hk31_v14.trans (hk31_v11.trans (hk31_v8.trans hk31_v5)))), (hk32_v17.trans (hk32_v14.trans (hk32_v11.trans (hk32_v8.trans hk32_v5))))⟩ hP hD hS dX10_feed_61 (Nat.le_refl _) (Nat.le_refl _)
  · skip
    subst g3
    refine lv_if_ne (tgt := 12) hx hb dX10_feed_7 rfl (fun c0 => absurd (by decide) c0) (fun _ => ?_)
    refine lv_iconst (v := (-1)) hx hb dX10_feed_10 rfl ?_
    exact ret (-1) (v, f) _ _ _ _ _ _ rfl ⟨(gsX_X10_feed_1_q1 hG2), hM_v, hA_f, hIv, rfl, rfl, rfl, rfl, rfl, rfl, rfl⟩ hP hD hS dX10_feed_11 (Nat.le_refl _) (Nat.le_refl _)
set_option maxHeartbeats 4000000 in
set_option maxRecDepth 100000 in
theorem sX_X10_end_1 (NF : Nat) (l : Launch) (dC : Nat → ClassId) (dI : Nat → Nat → Nat) (cy : Nat → ClassId) (x0 : Nat) (x : Nat → Nat) (p1 : Int32) (v : Nat → Int32) (f : Nat → Nat → Int32) (hIv : XI v)  : ctI l (dC, dI) cy yX10_end cX10_end 2 .int 1 60 0 0 ((Nat → Int32) × (Nat → Nat → Int32)) [.ref x0, .int p1] (XW cy x0 x v f) (fun r u => gsX_X10_end_1 NF p1 v f = (r, u) ∧ KV [1] u.1 v ∧ KF [] u.2 f ∧ XI u.1 ∧ u.1 0 = v 0 ∧ u.1 7 = v 7 ∧ u.1 8 = v 8 ∧ u.1 9 = v 9 ∧ u.1 10 = v 10 ∧ u.1 31 = v 31 ∧ u.1 32 = v 32) (fun u => XW cy x0 x u.1 u.2) := by
  refine ctI_of (by decide) (Nat.le_of_ble_eq_true rfl) (fun p e s m below meth c A ls Q hx hb hml hts hown hE hP hD hA hl ret => ?_)
  have hM_v : KV [1] v v := fun _ _ => rfl
  have hA_f : KF [] f f := fun _ _ => rfl
  have hown : s.vm.findClass RX10 = some m.cls := hown
  have hS : va_S A s.heap s.heap [] := va_S.rf
  have hl : lv_has ls 2 [(0, .ref x0), (1, .int p1)] := hl
  refine lv_iload_n hx hb dX10_end_0 rfl (lv_at hl 1 rfl) ?_
  refine lv_if_lt (tgt := 15) hx hb dX10_end_1 rfl (fun c1 => ?_) (fun c1 => ?_)
  · skip
    refine lv_iconst (v := (-1)) hx hb dX10_end_15 rfl ?_
    exact ret (-1) (v, f) _ _ _ _ _ _ rfl ⟨(gsX_X10_end_1_q0 c1), hM_v, hA_f, hIv, rfl, rfl, rfl, rfl, rfl, rfl, rfl⟩ hP hD hS dX10_end_16 (Nat.le_refl _) (Nat.le_refl _)
  · skip
    have zc1 : ¬ (p1.toInt < 0) := zLn rfl tc_0 c1
    refine lv_iload_n hx hb dX10_end_4 rfl (lv_at hl 1 rfl) ?_
    refine lv_aload_n hx hb dX10_end_5 rfl (lv_at hl 0 rfl) ?_
    refine va_get (D := (dC, dI)) (ci := 10) (v := .ref (x 0)) (C := RX10) (T := TX10) (N := 10) hx hb hts inB_10 hown hE.1 hP 0 rfl rfl 0 (Nat.le_of_ble_eq_true rfl) (hts _ k_491) (fun _ h9 => h9) rfl dX10_end_6 ?_
    refine va_getN (D := (dC, dI)) (ci := 9) (v := .int (v 1)) (C := RX9) (T := TX9) (N := 6) hx hb hts inB_9 hown hE.1 hP 1 rfl rfl 1 (Nat.le_of_ble_eq_true rfl) (va_Nw.use rfl (hE.2 _ k_138)) (fun _ h9 => h9) rfl dX10_end_9 ?_
    have b1_v : 0 ≤ (v 1).toInt ∧ (v 1).toInt ≤ 1600 := Xb_1 hIv
    refine lv_icmp_le (tgt := 17) hx hb dX10_end_12 rfl (fun c2 => ?_) (fun c2 => ?_)
    · skip
      have zc2 : p1.toInt ≤ (v 1).toInt := zMp rfl rfl c2
      refine lv_aload_n hx hb dX10_end_17 rfl (lv_at hl 0 rfl) ?_
      refine va_get (D := (dC, dI)) (ci := 10) (v := .ref (x 0)) (C := RX10) (T := TX10) (N := 10) hx hb hts inB_10 hown hE.1 hP 0 rfl rfl 0 (Nat.le_of_ble_eq_true rfl) (hts _ k_491) (fun _ h9 => h9) rfl dX10_end_18 ?_
      refine lv_iload_n hx hb dX10_end_21 rfl (lv_at hl 1 rfl) ?_
      refine va_putN (D := (dC, dI)) (ci := 9) (v := .int p1) (ty := tyX9 1) (C := RX9) (T := TX9) (N := 6) hx hb hts inB_9 tyX9 tyX9_ok nmX9 hown hE.1 hP hD hS 1 rfl rfl 1 (by decide) (va_Nw.use rfl (hE.2 _ k_138)) (fun _ h9 => h9) rfl (tyX9_ok 1 (Nat.le_of_ble_eq_true rfl)) rfl rfl (Nat.le_of_ble_eq_true rfl) dX10_end_22 (fun H locs hP hD hS => ?_)
      have hP : va_P (dC, dI) vwCl (XW cy x0 x (upd v 1 p1) f) H := hP
      have hD : va_D A (XW cy x0 x (upd v 1 p1) f) := hD
      refine lv_iload_n hx hb dX10_end_25 rfl (lv_at hl 1 rfl) ?_
      exact ret p1 ((upd v 1 p1), f) _ _ _ _ _ _ rfl ⟨(gsX_X10_end_1_q1 c1 c2), (KV.up (j := 1) (x := p1) hM_v rfl), hA_f, (Xu_1 (x := p1) hIv (show (0 : Int) ≤ p1.toInt from om_14 zc1) (show p1.toInt ≤ (1600 : Int) from om_15 b1_v zc2)), rfl, rfl, rfl, rfl, rfl, rfl, rfl⟩ hP hD hS dX10_end_26 (Nat.le_refl _) (Nat.le_refl _)
    · skip
      refine lv_iconst (v := (-1)) hx hb dX10_end_15 rfl ?_
      exact ret (-1) (v, f) _ _ _ _ _ _ rfl ⟨(gsX_X10_end_1_q2 c1 c2), hM_v, hA_f, hIv, rfl, rfl, rfl, rfl, rfl, rfl, rfl⟩ hP hD hS dX10_end_16 (Nat.le_refl _) (Nat.le_refl _)
set_option maxHeartbeats 4000000 in
set_option maxRecDepth 100000 in
theorem sX_X10_fault_1 (NF : Nat) (l : Launch) (dC : Nat → ClassId) (dI : Nat → Nat → Nat) (cy : Nat → ClassId) (x0 : Nat) (x : Nat → Nat) (p1 : Int32) (v : Nat → Int32) (f : Nat → Nat → Int32) (hIv : XI v)  : ctI l (dC, dI) cy yX10_fault cX10_fault 2 .int 1 60 0 0 Unit [.ref x0, .int p1] (XW cy x0 x v f) (fun r u => gsX_X10_fault_1 NF p1 v f = r) (fun u => XW cy x0 x v f) := by
  refine ctI_of (by decide) (Nat.le_of_ble_eq_true rfl) (fun p e s m below meth c A ls Q hx hb hml hts hown hE hP hD hA hl ret => ?_)
  have hown : s.vm.findClass RX10 = some m.cls := hown
  have hS : va_S A s.heap s.heap [] := va_S.rf
  have hl : lv_has ls 2 [(0, .ref x0), (1, .int p1)] := hl
  refine lv_iload_n hx hb dX10_fault_0 rfl (lv_at hl 1 rfl) ?_
  refine lv_if_ne (tgt := 14) hx hb dX10_fault_1 rfl (fun c1 => ?_) (fun c1 => ?_)
  · skip
    refine lv_iload_n hx hb dX10_fault_14 rfl (lv_at hl 1 rfl) ?_
    refine lv_iconst (v := 1) hx hb dX10_fault_15 rfl ?_
    refine lv_icmp_ne (tgt := 29) hx hb dX10_fault_16 rfl (fun c2 => ?_) (fun c2 => ?_)
    · skip
      refine lv_iconst (v := (-1)) hx hb dX10_fault_29 rfl ?_
      exact ret (-1) () _ _ _ _ _ _ rfl (gsX_X10_fault_1_q0 c1 c2) hP hD hS dX10_fault_30 (Nat.le_refl _) (Nat.le_refl _)
    · skip
      refine lv_aload_n hx hb dX10_fault_19 rfl (lv_at hl 0 rfl) ?_
      refine va_get (D := (dC, dI)) (ci := 10) (v := .ref (x 2)) (C := RX10) (T := TX10) (N := 10) hx hb hts inB_10 hown hE.1 hP 0 rfl rfl 1 (Nat.le_of_ble_eq_true rfl) (hts _ k_492) (fun _ h9 => h9) rfl dX10_fault_20 ?_
      refine va_getN (D := (dC, dI)) (ci := 6) (v := .int (v 8)) (C := RX6) (T := TX6) (N := 7) hx hb hts inB_6 hown hE.1 hP 3 rfl rfl 6 (Nat.le_of_ble_eq_true rfl) (va_Nw.use rfl (hE.2 _ k_274)) (fun _ h9 => h9) rfl dX10_fault_23 ?_
      refine lv_goto (tgt := 30) hx hb dX10_fault_26 rfl ?_
      exact ret (v 8) () _ _ _ _ _ _ rfl (gsX_X10_fault_1_q1 c1 c2) hP hD hS dX10_fault_30 (Nat.le_refl _) (Nat.le_refl _)
  · skip
    refine lv_aload_n hx hb dX10_fault_4 rfl (lv_at hl 0 rfl) ?_
    refine va_get (D := (dC, dI)) (ci := 10) (v := .ref (x 2)) (C := RX10) (T := TX10) (N := 10) hx hb hts inB_10 hown hE.1 hP 0 rfl rfl 1 (Nat.le_of_ble_eq_true rfl) (hts _ k_492) (fun _ h9 => h9) rfl dX10_fault_5 ?_
    refine va_getN (D := (dC, dI)) (ci := 6) (v := .int (v 7)) (C := RX6) (T := TX6) (N := 7) hx hb hts inB_6 hown hE.1 hP 3 rfl rfl 5 (Nat.le_of_ble_eq_true rfl) (va_Nw.use rfl (hE.2 _ k_272)) (fun _ h9 => h9) rfl dX10_fault_8 ?_
    refine lv_goto (tgt := 30) hx hb dX10_fault_11 rfl ?_
    exact ret (v 7) () _ _ _ _ _ _ rfl (gsX_X10_fault_1_q2 c1) hP hD hS dX10_fault_30 (Nat.le_refl _) (Nat.le_refl _)
set_option maxHeartbeats 4000000 in
set_option maxRecDepth 100000 in
theorem sX_X4_clear_1 (NF : Nat) (l : Launch) (dC : Nat → ClassId) (dI : Nat → Nat → Nat) (cy : Nat → ClassId) (x0 : Nat) (x : Nat → Nat)  (v : Nat → Int32) (f : Nat → Nat → Int32) (hIv : XI v)  : ctV l (dC, dI) cy yX4_clear cX4_clear 1 1 60 0 0 ((Nat → Int32) × (Nat → Nat → Int32)) [.ref (x 6)] (XW cy x0 x v f) (fun u => gsX_X4_clear_1 NF v f = u ∧ KV [16, 17] u.1 v ∧ KF [] u.2 f ∧ XI u.1 ∧ u.1 0 = v 0 ∧ u.1 1 = v 1 ∧ u.1 7 = v 7 ∧ u.1 8 = v 8 ∧ u.1 9 = v 9 ∧ u.1 10 = v 10 ∧ u.1 31 = v 31 ∧ u.1 32 = v 32) (fun u => XW cy x0 x u.1 u.2) := by
  refine ctV_of (by decide) (Nat.le_of_ble_eq_true rfl) (fun p e s m below meth c A ls Q hx hb hml hts hown hnm hE hP hD hA hl ret => ?_)
  have hM_v : KV [16, 17] v v := fun _ _ => rfl
  have hA_f : KF [] f f := fun _ _ => rfl
  have hown : s.vm.findClass RX4 = some m.cls := hown
  have hS : va_S A s.heap s.heap [] := va_S.rf
  have hl : lv_has ls 1 [(0, .ref (x 6))] := hl
  refine lv_aload_n hx hb dX4_clear_0 rfl (lv_at hl 0 rfl) ?_
  refine lv_iconst (v := 0) hx hb dX4_clear_1 rfl ?_
  refine va_put (D := (dC, dI)) (ci := 4) (v := .int 0) (ty := tyX4 4) (C := RX4) (T := TX4) (N := 6) hx hb hts inB_4 tyX4 tyX4_ok nmX4 hown hE.1 hP hD hS 7 rfl rfl 4 (Nat.le_of_ble_eq_true rfl) (hts _ k_182) (fun _ h9 => h9) rfl (tyX4_ok 4 (Nat.le_of_ble_eq_true rfl)) rfl rfl (Nat.le_of_ble_eq_true rfl) dX4_clear_2 (fun H locs hP hD hS => ?_)
  have hP : va_P (dC, dI) vwCl (XW cy x0 x (upd v 16 0) f) H := hP
  have hD : va_D A (XW cy x0 x (upd v 16 0) f) := hD
  refine lv_aload_n hx hb dX4_clear_5 rfl (lv_at hl 0 rfl) ?_
  refine lv_iconst (v := 0) hx hb dX4_clear_6 rfl ?_
  refine va_put (D := (dC, dI)) (ci := 4) (v := .int 0) (ty := tyX4 5) (C := RX4) (T := TX4) (N := 6) hx hb hts inB_4 tyX4 tyX4_ok nmX4 hown hE.1 hP hD hS 7 rfl rfl 5 (Nat.le_of_ble_eq_true rfl) (hts _ k_183) (fun _ h9 => h9) rfl (tyX4_ok 5 (Nat.le_of_ble_eq_true rfl)) rfl rfl (Nat.le_of_ble_eq_true rfl) dX4_clear_7 (fun H locs hP hD hS => ?_)
  have hP : va_P (dC, dI) vwCl (XW cy x0 x (upd (upd v 16 0) 17 0) f) H := hP
  have hD : va_D A (XW cy x0 x (upd (upd v 16 0) 17 0) f) := hD
  exact ret ((upd (upd v 16 0) 17 0), f) _ _ _ _ _ _ ⟨gsX_X4_clear_1_q0, (KV.up (j := 17) (x := 0) (KV.up (j := 16) (x := 0) hM_v rfl) rfl), hA_f, (Xu_17 (x := 0) (Xu_16 (x := 0) hIv (by decide) (by decide)) (rlo _) (rhi _)), rfl, rfl, rfl, rfl, rfl, rfl, rfl, rfl⟩ hP hD hS dX4_clear_10 (Nat.le_refl _) (Nat.le_refl _)
set_option maxHeartbeats 4000000 in
set_option maxRecDepth 100000 in
theorem sX_X7_setDefaults_1 (NF : Nat) (l : Launch) (dC : Nat → ClassId) (dI : Nat → Nat → Nat) (cy : Nat → ClassId) (x0 : Nat) (x : Nat → Nat)  (v : Nat → Int32) (f : Nat → Nat → Int32) (hIv : XI v)  : ctV l (dC, dI) cy yX7_setDefaults cX7_setDefaults 1 1 60 0 0 ((Nat → Int32) × (Nat → Nat → Int32)) [.ref (x 3)] (XW cy x0 x v f) (fun u => gsX_X7_setDefaults_1 NF v f = u ∧ KV [11, 12, 13, 14, 15] u.1 v ∧ KF [] u.2 f ∧ XI u.1 ∧ u.1 0 = v 0 ∧ u.1 1 = v 1 ∧ u.1 7 = v 7 ∧ u.1 8 = v 8 ∧ u.1 9 = v 9 ∧ u.1 10 = v 10 ∧ u.1 31 = v 31 ∧ u.1 32 = v 32) (fun u => XW cy x0 x u.1 u.2) := by
  refine ctV_of (by decide) (Nat.le_of_ble_eq_true rfl) (fun p e s m below meth c A ls Q hx hb hml hts hown hnm hE hP hD hA hl ret => ?_)
  have hM_v : KV [11, 12, 13, 14, 15] v v := fun _ _ => rfl
  have hA_f : KF [] f f := fun _ _ => rfl
  have hown : s.vm.findClass RX7 = some m.cls := hown
  have hS : va_S A s.heap s.heap [] := va_S.rf
  have hl : lv_has ls 1 [(0, .ref (x 3))] := hl
  refine lv_aload_n hx hb dX7_setDefaults_0 rfl (lv_at hl 0 rfl) ?_
  refine lv_bipush (v := 10) hx hb dX7_setDefaults_1 rfl ?_
  refine va_put (D := (dC, dI)) (ci := 7) (v := .int 10) (ty := tyX7 5) (C := RX7) (T := TX7) (N := 10) hx hb hts inB_7 tyX7 tyX7_ok nmX7 hown hE.1 hP hD hS 4 rfl rfl 5 (Nat.le_of_ble_eq_true rfl) (hts _ k_228) (fun _ h9 => h9) rfl (tyX7_ok 5 (Nat.le_of_ble_eq_true rfl)) rfl rfl (Nat.le_of_ble_eq_true rfl) dX7_setDefaults_3 (fun H locs hP hD hS => ?_)
  have hP : va_P (dC, dI) vwCl (XW cy x0 x (upd v 11 10) f) H := hP
  have hD : va_D A (XW cy x0 x (upd v 11 10) f) := hD
  refine lv_aload_n hx hb dX7_setDefaults_6 rfl (lv_at hl 0 rfl) ?_
  refine lv_sipush (v := 150) hx hb dX7_setDefaults_7 rfl ?_
  refine va_put (D := (dC, dI)) (ci := 7) (v := .int 150) (ty := tyX7 6) (C := RX7) (T := TX7) (N := 10) hx hb hts inB_7 tyX7 tyX7_ok nmX7 hown hE.1 hP hD hS 4 rfl rfl 6 (Nat.le_of_ble_eq_true rfl) (hts _ k_234) (fun _ h9 => h9) rfl (tyX7_ok 6 (Nat.le_of_ble_eq_true rfl)) rfl rfl (Nat.le_of_ble_eq_true rfl) dX7_setDefaults_10 (fun H locs hP hD hS => ?_)
  have hP : va_P (dC, dI) vwCl (XW cy x0 x (upd (upd v 11 10) 12 150) f) H := hP
  have hD : va_D A (XW cy x0 x (upd (upd v 11 10) 12 150) f) := hD
  refine lv_aload_n hx hb dX7_setDefaults_13 rfl (lv_at hl 0 rfl) ?_
  refine lv_iconst (v := 2) hx hb dX7_setDefaults_14 rfl ?_
  refine va_put (D := (dC, dI)) (ci := 7) (v := .int 2) (ty := tyX7 7) (C := RX7) (T := TX7) (N := 10) hx hb hts inB_7 tyX7 tyX7_ok nmX7 hown hE.1 hP hD hS 4 rfl rfl 7 (Nat.le_of_ble_eq_true rfl) (hts _ k_237) (fun _ h9 => h9) rfl (tyX7_ok 7 (Nat.le_of_ble_eq_true rfl)) rfl rfl (Nat.le_of_ble_eq_true rfl) dX7_setDefaults_15 (fun H locs hP hD hS => ?_)
  have hP : va_P (dC, dI) vwCl (XW cy x0 x (upd (upd (upd v 11 10) 12 150) 13 2) f) H := hP
  have hD : va_D A (XW cy x0 x (upd (upd (upd v 11 10) 12 150) 13 2) f) := hD
  refine lv_aload_n hx hb dX7_setDefaults_18 rfl (lv_at hl 0 rfl) ?_
  refine lv_iconst (v := 0) hx hb dX7_setDefaults_19 rfl ?_
  refine va_put (D := (dC, dI)) (ci := 7) (v := .int 0) (ty := tyX7 8) (C := RX7) (T := TX7) (N := 10) hx hb hts inB_7 tyX7 tyX7_ok nmX7 hown hE.1 hP hD hS 4 rfl rfl 8 (Nat.le_of_ble_eq_true rfl) (hts _ k_240) (fun _ h9 => h9) rfl (tyX7_ok 8 (Nat.le_of_ble_eq_true rfl)) rfl rfl (Nat.le_of_ble_eq_true rfl) dX7_setDefaults_20 (fun H locs hP hD hS => ?_)
  have hP : va_P (dC, dI) vwCl (XW cy x0 x (upd (upd (upd (upd v 11 10) 12 150) 13 2) 14 0) f) H := hP
  have hD : va_D A (XW cy x0 x (upd (upd (upd (upd v 11 10) 12 150) 13 2) 14 0) f) := hD
  refine lv_aload_n hx hb dX7_setDefaults_23 rfl (lv_at hl 0 rfl) ?_
  refine lv_iconst (v := 0) hx hb dX7_setDefaults_24 rfl ?_
  refine va_put (D := (dC, dI)) (ci := 7) (v := .int 0) (ty := tyX7 9) (C := RX7) (T := TX7) (N := 10) hx hb hts inB_7 tyX7 tyX7_ok nmX7 hown hE.1 hP hD hS 4 rfl rfl 9 (Nat.le_of_ble_eq_true rfl) (hts _ k_243) (fun _ h9 => h9) rfl (tyX7_ok 9 (Nat.le_of_ble_eq_true rfl)) rfl rfl (Nat.le_of_ble_eq_true rfl) dX7_setDefaults_25 (fun H locs hP hD hS => ?_)
  have hP : va_P (dC, dI) vwCl (XW cy x0 x (upd (upd (upd (upd (upd v 11 10) 12 150) 13 2) 14 0) 15 0) f) H := hP
  have hD : va_D A (XW cy x0 x (upd (upd (upd (upd (upd v 11 10) 12 150) 13 2) 14 0) 15 0) f) := hD
  exact ret ((upd (upd (upd (upd (upd v 11 10) 12 150) 13 2) 14 0) 15 0), f) _ _ _ _ _ _ ⟨gsX_X7_setDefaults_1_q0, (KV.up (j := 15) (x := 0) (KV.up (j := 14) (x := 0) (KV.up (j := 13) (x := 2) (KV.up (j := 12) (x := 150) (KV.up (j := 11) (x := 10) hM_v rfl) rfl) rfl) rfl) rfl), hA_f, (Xu_15 (x := 0) (Xu_14 (x := 0) (Xu_13 (x := 2) (Xu_12 (x := 150) (Xu_11 (x := 10) hIv (rlo _) (rhi _)) (rlo _) (rhi _)) (rlo _) (rhi _)) (rlo _) (rhi _)) (rlo _) (rhi _)), rfl, rfl, rfl, rfl, rfl, rfl, rfl, rfl⟩ hP hD hS dX7_setDefaults_28 (Nat.le_refl _) (Nat.le_refl _)
set_option maxHeartbeats 4000000 in
set_option maxRecDepth 100000 in
theorem sX_X7_clear_1 (NF : Nat) (l : Launch) (dC : Nat → ClassId) (dI : Nat → Nat → Nat) (cy : Nat → ClassId) (x0 : Nat) (x : Nat → Nat)  (v : Nat → Int32) (f : Nat → Nat → Int32) (hIv : XI v)  : ctV l (dC, dI) cy yX7_clear cX7_clear 1 2 80 0 0 ((Nat → Int32) × (Nat → Nat → Int32)) [.ref (x 3)] (XW cy x0 x v f) (fun u => gsX_X7_clear_1 NF v f = u ∧ KV [9, 10, 11, 12, 13, 14, 15, 16, 17] u.1 v ∧ KF [] u.2 f ∧ XI u.1 ∧ u.1 0 = v 0 ∧ u.1 1 = v 1 ∧ u.1 7 = v 7 ∧ u.1 8 = v 8) (fun u => XW cy x0 x u.1 u.2) := by
  refine ctV_of (by decide) (Nat.le_of_ble_eq_true rfl) (fun p e s m below meth c A ls Q hx hb hml hts hown hnm hE hP hD hA hl ret => ?_)
  have hM_v : KV [9, 10, 11, 12, 13, 14, 15, 16, 17] v v := fun _ _ => rfl
  have hA_f : KF [] f f := fun _ _ => rfl
  have hown : s.vm.findClass RX7 = some m.cls := hown
  have hS : va_S A s.heap s.heap [] := va_S.rf
  have hl : lv_has ls 1 [(0, .ref (x 3))] := hl
  refine lv_aload_n hx hb dX7_clear_0 rfl (lv_at hl 0 rfl) ?_
  refine lv_iconst (v := 0) hx hb dX7_clear_1 rfl ?_
  refine va_put (D := (dC, dI)) (ci := 7) (v := .int 0) (ty := tyX7 3) (C := RX7) (T := TX7) (N := 10) hx hb hts inB_7 tyX7 tyX7_ok nmX7 hown hE.1 hP hD hS 4 rfl rfl 3 (Nat.le_of_ble_eq_true rfl) (hts _ k_212) (fun _ h9 => h9) rfl (tyX7_ok 3 (Nat.le_of_ble_eq_true rfl)) rfl rfl (Nat.le_of_ble_eq_true rfl) dX7_clear_2 (fun H locs hP hD hS => ?_)
  have hP : va_P (dC, dI) vwCl (XW cy x0 x (upd v 9 0) f) H := hP
  have hD : va_D A (XW cy x0 x (upd v 9 0) f) := hD
  refine lv_aload_n hx hb dX7_clear_5 rfl (lv_at hl 0 rfl) ?_
  refine lv_iconst (v := 0) hx hb dX7_clear_6 rfl ?_
  refine va_put (D := (dC, dI)) (ci := 7) (v := .int 0) (ty := tyX7 4) (C := RX7) (T := TX7) (N := 10) hx hb hts inB_7 tyX7 tyX7_ok nmX7 hown hE.1 hP hD hS 4 rfl rfl 4 (Nat.le_of_ble_eq_true rfl) (hts _ k_220) (fun _ h9 => h9) rfl (tyX7_ok 4 (Nat.le_of_ble_eq_true rfl)) rfl rfl (Nat.le_of_ble_eq_true rfl) dX7_clear_7 (fun H locs hP hD hS => ?_)
  have hP : va_P (dC, dI) vwCl (XW cy x0 x (upd (upd v 9 0) 10 0) f) H := hP
  have hD : va_D A (XW cy x0 x (upd (upd v 9 0) 10 0) f) := hD
  refine lv_aload_n hx hb dX7_clear_10 rfl (lv_at hl 0 rfl) ?_
  refine va_get (D := (dC, dI)) (ci := 7) (v := .ref (x 6)) (C := RX7) (T := TX7) (N := 10) hx hb hts inB_7 hown hE.1 hP 4 rfl rfl 2 (Nat.le_of_ble_eq_true rfl) (hts _ k_206) (fun _ h9 => h9) rfl dX7_clear_11 ?_
  refine cbVv (n := 0) (rest := []) hx hb hml hown hts hE hP hD hS hA (sX_X4_clear_1 NF l dC dI cy x0 x  (upd (upd v 9 0) 10 0) f (Xu_10 (x := 0) (Xu_9 (x := 0) hIv (by decide) (by decide)) (by decide) (by decide)) ) k_550 k_551 k_552 k_105 k_553 hd_yX4_clear ⟨Nat.le_of_ble_eq_true rfl, Nat.le_of_ble_eq_true rfl⟩ 7 4 rfl rfl (rfl) hl.1 rfl (Nat.le_of_ble_eq_true rfl) dX7_clear_14 (fun u H locs hw hP hD hS => ?_)
  obtain ⟨hG1, hw⟩ := hw
  obtain ⟨v2, f3⟩ := u
  obtain ⟨kV_v2, kF_f3, hIv2, hk0_v2, hk1_v2, hk7_v2, hk8_v2, hk9_v2, hk10_v2, hk31_v2, hk32_v2⟩ := hw
  have hM_v2 : KV [9, 10, 11, 12, 13, 14, 15, 16, 17] v2 v := KV.tr kV_v2 (KV.up (j := 10) (x := 0) (KV.up (j := 9) (x := 0) hM_v rfl) rfl) rfl
  have hA_f3 : KF [] f3 f := KF.tr kF_f3 hA_f rfl
  have hP : va_P (dC, dI) vwCl (XW cy x0 x v2 f3) H := hP
  have hD : va_D A (XW cy x0 x v2 f3) := hD
  have hq0_v2 : v2 0 = (v 0) := hk0_v2
  have hq1_v2 : v2 1 = (v 1) := hk1_v2
  have hq7_v2 : v2 7 = (v 7) := hk7_v2
  have hq8_v2 : v2 8 = (v 8) := hk8_v2
  have hq9_v2 : v2 9 = 0 := hk9_v2
  have hq10_v2 : v2 10 = 0 := hk10_v2
  have hq31_v2 : v2 31 = (v 31) := hk31_v2
  have hq32_v2 : v2 32 = (v 32) := hk32_v2
  refine lv_aload_n hx hb dX7_clear_17 rfl (lv_at hl 0 rfl) ?_
  refine cbVv (n := 0) (rest := []) hx hb hml hown hts hE hP hD hS hA (sX_X7_setDefaults_1 NF l dC dI cy x0 x  v2 f3 hIv2 ) k_200 k_202 k_0 k_104 k_203 hd_yX7_setDefaults ⟨Nat.le_of_ble_eq_true rfl, Nat.le_of_ble_eq_true rfl⟩ 4 7 rfl rfl (rfl) hl.1 rfl (Nat.le_of_ble_eq_true rfl) dX7_clear_18 (fun u H locs hw hP hD hS => ?_)
  obtain ⟨hG4, hw⟩ := hw
  obtain ⟨v5, f6⟩ := u
  obtain ⟨kV_v5, kF_f6, hIv5, hk0_v5, hk1_v5, hk7_v5, hk8_v5, hk9_v5, hk10_v5, hk31_v5, hk32_v5⟩ := hw
  have hM_v5 : KV [9, 10, 11, 12, 13, 14, 15, 16, 17] v5 v := KV.tr kV_v5 hM_v2 rfl
  have hA_f6 : KF [] f6 f := KF.tr kF_f6 hA_f3 rfl
  have hP : va_P (dC, dI) vwCl (XW cy x0 x v5 f6) H := hP
  have hD : va_D A (XW cy x0 x v5 f6) := hD
  have hq0_v5 : v5 0 = (v 0) := hk0_v5.trans hq0_v2
  have hq1_v5 : v5 1 = (v 1) := hk1_v5.trans hq1_v2
  have hq7_v5 : v5 7 = (v 7) := hk7_v5.trans hq7_v2
  have hq8_v5 : v5 8 = (v 8) := hk8_v5.trans hq8_v2
  have hq9_v5 : v5 9 = 0 := hk9_v5.trans hq9_v2
  have hq10_v5 : v5 10 = 0 := hk10_v5.trans hq10_v2
  have hq31_v5 : v5 31 = (v 31) := hk31_v5.trans hq31_v2
  have hq32_v5 : v5 32 = (v 32) := hk32_v5.trans hq32_v2
  exact ret (v5, f6) _ _ _ _ _ _ ⟨(gsX_X7_clear_1_q0 hG1 hG4), hM_v5, hA_f6, hIv5, (hk0_v5.trans hk0_v2), (hk1_v5.trans hk1_v2), (hk7_v5.trans hk7_v2), (hk8_v5.trans hk8_v2)⟩ hP hD hS dX7_clear_21 (Nat.le_refl _) (Nat.le_refl _)
set_option maxHeartbeats 4000000 in
set_option maxRecDepth 100000 in
theorem sX_X9_isLetter_1 (NF : Nat) (l : Launch) (dC : Nat → ClassId) (dI : Nat → Nat → Nat) (cy : Nat → ClassId) (x0 : Nat) (x : Nat → Nat) (p1 : Int32) (v : Nat → Int32) (f : Nat → Nat → Int32) (hIv : XI v)  : ctI l (dC, dI) cy yX9_isLetter cX9_isLetter 2 .boolean 1 60 0 0 Unit [.ref (x 0), .int p1] (XW cy x0 x v f) (fun r u => gsX_X9_isLetter_1 NF p1 v f = r ∧ ((r = 1 ∧ 0 ≤ p1.toInt ∧ p1.toInt < (v 1).toInt ∧ p1.toInt ≤ 1599) ∨ (r = 0))) (fun u => XW cy x0 x v f) := by
  refine ctI_of (by decide) (Nat.le_of_ble_eq_true rfl) (fun p e s m below meth c A ls Q hx hb hml hts hown hE hP hD hA hl ret => ?_)
  have hown : s.vm.findClass RX9 = some m.cls := hown
  have hS : va_S A s.heap s.heap [] := va_S.rf
  have hl : lv_has ls 2 [(0, .ref (x 0)), (1, .int p1)] := hl
  refine lv_iload_n hx hb dX9_isLetter_0 rfl (lv_at hl 1 rfl) ?_
  refine lv_if_lt (tgt := 38) hx hb dX9_isLetter_1 rfl (fun c1 => ?_) (fun c1 => ?_)
  · skip
    refine lv_iconst (v := 0) hx hb dX9_isLetter_38 rfl ?_
    exact ret 0 () _ _ _ _ _ _ rfl ⟨(gsX_X9_isLetter_1_q0 c1), (Or.inr rfl)⟩ hP hD hS dX9_isLetter_39 (Nat.le_refl _) (Nat.le_refl _)
  · skip
    have zc1 : ¬ (p1.toInt < 0) := zLn rfl tc_0 c1
    refine lv_iload_n hx hb dX9_isLetter_4 rfl (lv_at hl 1 rfl) ?_
    refine lv_aload_n hx hb dX9_isLetter_5 rfl (lv_at hl 0 rfl) ?_
    refine va_get (D := (dC, dI)) (ci := 9) (v := .int (v 1)) (C := RX9) (T := TX9) (N := 6) hx hb hts inB_9 hown hE.1 hP 1 rfl rfl 1 (Nat.le_of_ble_eq_true rfl) (hts _ k_137) (fun _ h9 => h9) rfl dX9_isLetter_6 ?_
    have b1_v : 0 ≤ (v 1).toInt ∧ (v 1).toInt ≤ 1600 := Xb_1 hIv
    refine lv_icmp_ge (tgt := 38) hx hb dX9_isLetter_9 rfl (fun c2 => ?_) (fun c2 => ?_)
    · skip
      refine lv_iconst (v := 0) hx hb dX9_isLetter_38 rfl ?_
      exact ret 0 () _ _ _ _ _ _ rfl ⟨(gsX_X9_isLetter_1_q1 c1 c2), (Or.inr rfl)⟩ hP hD hS dX9_isLetter_39 (Nat.le_refl _) (Nat.le_refl _)
    · skip
      have zc2 : ¬ ((v 1).toInt ≤ p1.toInt) := zMn rfl rfl c2
      refine lv_aload_n hx hb dX9_isLetter_12 rfl (lv_at hl 0 rfl) ?_
      refine va_get (D := (dC, dI)) (ci := 9) (v := .ref (x 1)) (C := RX9) (T := TX9) (N := 6) hx hb hts inB_9 hown hE.1 hP 1 rfl rfl 0 (Nat.le_of_ble_eq_true rfl) (hts _ k_136) (fun _ h9 => h9) rfl dX9_isLetter_13 ?_
      refine lv_iload_n hx hb dX9_isLetter_16 rfl (lv_at hl 1 rfl) ?_
      refine ldB hx hb hE hP 2 rfl (vpI (k := 1600) rfl (show 0 ≤ p1.toInt from om_14 zc1) (show p1.toInt < 1600 from om_16 b1_v zc2)) rfl rfl dX9_isLetter_17 ?_
      refine lv_topi (fun t7 et7 => ?_)
      refine lv_bipush (v := 97) hx hb dX9_isLetter_18 rfl ?_
      refine lv_icmp_lt (tgt := 38) hx hb dX9_isLetter_20 rfl (fun c8 => ?_) (fun c8 => ?_)
      · skip
        refine lv_iconst (v := 0) hx hb dX9_isLetter_38 rfl ?_
        exact ret 0 () _ _ _ _ _ _ rfl ⟨(gsX_X9_isLetter_1_q2 c1 c2 et7 c8), (Or.inr rfl)⟩ hP hD hS dX9_isLetter_39 (Nat.le_refl _) (Nat.le_refl _)
      · skip
        refine lv_aload_n hx hb dX9_isLetter_23 rfl (lv_at hl 0 rfl) ?_
        refine va_get (D := (dC, dI)) (ci := 9) (v := .ref (x 1)) (C := RX9) (T := TX9) (N := 6) hx hb hts inB_9 hown hE.1 hP 1 rfl rfl 0 (Nat.le_of_ble_eq_true rfl) (hts _ k_136) (fun _ h9 => h9) rfl dX9_isLetter_24 ?_
        refine lv_iload_n hx hb dX9_isLetter_27 rfl (lv_at hl 1 rfl) ?_
        refine ldB hx hb hE hP 2 rfl (vpI (k := 1600) rfl (show 0 ≤ p1.toInt from om_14 zc1) (show p1.toInt < 1600 from om_16 b1_v zc2)) rfl rfl dX9_isLetter_28 ?_
        refine lv_topi (fun t9 et9 => ?_)
        refine lv_bipush (v := 122) hx hb dX9_isLetter_29 rfl ?_
        refine lv_icmp_gt (tgt := 38) hx hb dX9_isLetter_31 rfl (fun c10 => ?_) (fun c10 => ?_)
        · skip
          refine lv_iconst (v := 0) hx hb dX9_isLetter_38 rfl ?_
          exact ret 0 () _ _ _ _ _ _ rfl ⟨(gsX_X9_isLetter_1_q3 c1 c2 et7 c8 et9 c10), (Or.inr rfl)⟩ hP hD hS dX9_isLetter_39 (Nat.le_refl _) (Nat.le_refl _)
        · skip
          refine lv_iconst (v := 1) hx hb dX9_isLetter_34 rfl ?_
          refine lv_goto (tgt := 39) hx hb dX9_isLetter_35 rfl ?_
          exact ret 1 () _ _ _ _ _ _ rfl ⟨(gsX_X9_isLetter_1_q4 c1 c2 et7 c8 et9 c10), (Or.inl ⟨rfl, show 0 ≤ p1.toInt from om_14 zc1, show p1.toInt < (v 1).toInt from om_17 zc2, show p1.toInt ≤ 1599 from om_18 b1_v zc2⟩)⟩ hP hD hS dX9_isLetter_39 (Nat.le_refl _) (Nat.le_refl _)
set_option maxHeartbeats 4000000 in
set_option maxRecDepth 100000 in
theorem sX_J0_coder_7d493_1 (NF : Nat) (l : Launch) (dC : Nat → ClassId) (dI : Nat → Nat → Nat) (cy : Nat → ClassId) (x0 : Nat) (x : Nat → Nat)  (v : Nat → Int32) (f : Nat → Nat → Int32) (hIv : XI v)  : ctIS l (dC, dI) cy yJ0_coder_7d493 cJ0_coder_7d493 1 .byte 1 60 0 0 Unit [.ref (dI 100 1)] (XW cy x0 x v f) (fun r u => gsX_J0_coder_7d493_1 NF v f = r ∧ r = 0) (fun u => XW cy x0 x v f) := by
  refine ctIS_of (by decide) (Nat.le_of_ble_eq_true rfl) (fun p e s m below meth c A ls Q hx hb hml hts hown hE hF hT hP hD hA hl ret => ?_)
  have hown : s.vm.findClass RJ0 = some m.cls := hown
  have hS : va_S A s.heap s.heap [] := va_S.rf
  have hl : lv_has ls 1 [(0, .ref (dI 100 1))] := hl
  refine va_gets hx hb hT.2.1 hS hown (hts _ k_579) (fun _ h9 => h9) dJ0_coder_7d493_0 ?_
  refine lv_if_eq (tgt := 13) hx hb dJ0_coder_7d493_3 rfl (fun c0 => absurd c0 (by decide)) (fun _ => ?_)
  refine lv_aload_n hx hb dJ0_coder_7d493_6 rfl (lv_at hl 0 rfl) ?_
  refine vk_getf (q := (dI 100 1)) (v := .int 0) hx hb (hT.1.1 1 (by decide)).2.1 hS hown (hts _ k_2060) (fun _ h9 => h9) dJ0_coder_7d493_7 ?_
  refine lv_goto (tgt := 14) hx hb dJ0_coder_7d493_10 rfl ?_
  exact ret 0 () _ _ _ _ _ _ rfl ⟨gsX_J0_coder_7d493_1_q0, rfl⟩ hP hD hS dJ0_coder_7d493_14 (Nat.le_refl _) (Nat.le_refl _)
set_option maxHeartbeats 4000000 in
set_option maxRecDepth 100000 in
theorem sX_J0_length_8abf5_1 (NF : Nat) (l : Launch) (dC : Nat → ClassId) (dI : Nat → Nat → Nat) (cy : Nat → ClassId) (x0 : Nat) (x : Nat → Nat)  (v : Nat → Int32) (f : Nat → Nat → Int32) (hIv : XI v)  : ctIS l (dC, dI) cy yJ0_length_8abf5 cJ0_length_8abf5 1 .int 2 80 0 0 Unit [.ref (dI 100 1)] (XW cy x0 x v f) (fun r u => gsX_J0_length_8abf5_1 NF v f = r ∧ r = 102) (fun u => XW cy x0 x v f) := by
  refine ctIS_of (by decide) (Nat.le_of_ble_eq_true rfl) (fun p e s m below meth c A ls Q hx hb hml hts hown hE hF hT hP hD hA hl ret => ?_)
  have hown : s.vm.findClass RJ0 = some m.cls := hown
  have hS : va_S A s.heap s.heap [] := va_S.rf
  have hl : lv_has ls 1 [(0, .ref (dI 100 1))] := hl
  refine lv_aload_n hx hb dJ0_length_8abf5_0 rfl (lv_at hl 0 rfl) ?_
  refine vk_getf (q := (dI 100 1)) (v := .ref (dI 101 1)) hx hb (hT.1.1 1 (by decide)).2.2.1 hS hown (hts _ k_2059) (fun _ h9 => h9) dJ0_length_8abf5_1 ?_
  refine va_tlen (v := 102) hx hb (hT.1.1 1 (by decide)).2.2.2 hS (by decide) dJ0_length_8abf5_4 ?_
  refine lv_aload_n hx hb dJ0_length_8abf5_5 rfl (lv_at hl 0 rfl) ?_
  refine crVi (n := 0) (rest := [.int 102]) hx hb hml hown hts hE hP hD hS hA hF hT (sX_J0_coder_7d493_1 NF l dC dI cy x0 x  v f hIv ) k_575 k_576 k_577 k_115 k_578 hd_yJ0_coder_7d493 ⟨Nat.le_of_ble_eq_true rfl, Nat.le_of_ble_eq_true rfl⟩ 1 (by decide) rfl rfl (rfl) hl.1 rfl (Nat.le_of_ble_eq_true rfl) dJ0_length_8abf5_6 (fun r1 u H locs hw hP hD hS => ?_)
  obtain ⟨hG2, hw⟩ := hw
  refine tI (y := 0) hw ?_
  refine lv_ishr hx hb dJ0_length_8abf5_9 ?_
  refine tI (y := 102) (by decide) ?_
  exact ret 102 () _ _ _ _ _ _ rfl ⟨gsX_J0_length_8abf5_1_q0, rfl⟩ hP hD hS dJ0_length_8abf5_10 (Nat.le_refl _) (Nat.le_refl _)
set_option maxHeartbeats 4000000 in
set_option maxRecDepth 100000 in
theorem sX_J0_isLatin1_aae02_1 (NF : Nat) (l : Launch) (dC : Nat → ClassId) (dI : Nat → Nat → Nat) (cy : Nat → ClassId) (x0 : Nat) (x : Nat → Nat)  (v : Nat → Int32) (f : Nat → Nat → Int32) (hIv : XI v)  : ctIS l (dC, dI) cy yJ0_isLatin1_aae02 cJ0_isLatin1_aae02 1 .boolean 1 60 0 0 Unit [.ref (dI 100 1)] (XW cy x0 x v f) (fun r u => gsX_J0_isLatin1_aae02_1 NF v f = r ∧ r = 1) (fun u => XW cy x0 x v f) := by
  refine ctIS_of (by decide) (Nat.le_of_ble_eq_true rfl) (fun p e s m below meth c A ls Q hx hb hml hts hown hE hF hT hP hD hA hl ret => ?_)
  have hown : s.vm.findClass RJ0 = some m.cls := hown
  have hS : va_S A s.heap s.heap [] := va_S.rf
  have hl : lv_has ls 1 [(0, .ref (dI 100 1))] := hl
  refine va_gets hx hb hT.2.1 hS hown (hts _ k_579) (fun _ h9 => h9) dJ0_isLatin1_aae02_0 ?_
  refine lv_if_eq (tgt := 17) hx hb dJ0_isLatin1_aae02_3 rfl (fun c0 => absurd c0 (by decide)) (fun _ => ?_)
  refine lv_aload_n hx hb dJ0_isLatin1_aae02_6 rfl (lv_at hl 0 rfl) ?_
  refine vk_getf (q := (dI 100 1)) (v := .int 0) hx hb (hT.1.1 1 (by decide)).2.1 hS hown (hts _ k_2060) (fun _ h9 => h9) dJ0_isLatin1_aae02_7 ?_
  refine lv_if_ne (tgt := 17) hx hb dJ0_isLatin1_aae02_10 rfl (fun c0 => absurd (by decide) c0) (fun _ => ?_)
  refine lv_iconst (v := 1) hx hb dJ0_isLatin1_aae02_13 rfl ?_
  refine lv_goto (tgt := 18) hx hb dJ0_isLatin1_aae02_14 rfl ?_
  exact ret 1 () _ _ _ _ _ _ rfl ⟨gsX_J0_isLatin1_aae02_1_q0, rfl⟩ hP hD hS dJ0_isLatin1_aae02_18 (Nat.le_refl _) (Nat.le_refl _)
set_option maxHeartbeats 4000000 in
set_option maxRecDepth 100000 in
theorem sX_J3_checkIndex_8e157_1 (l : Launch) (dC : Nat → ClassId) (dI : Nat → Nat → Nat) (cy : Nat → ClassId) (x0 : Nat) (x : Nat → Nat) (p0 : Int32) (v : Nat → Int32) (f : Nat → Nat → Int32) (hIv : XI v) (hp0 : (0 : Int) ≤ p0.toInt ∧ p0.toInt ≤ 101) : ctIS l (dC, dI) cy yJ3_checkIndex_8e157 cJ3_checkIndex_8e157 3 .int 1 60 0 0 Unit [.int p0, .int 102, .null] (XW cy x0 x v f) (fun r u => True) (fun u => XW cy x0 x v f) := by
  refine ctIS_of (by decide) (Nat.le_of_ble_eq_true rfl) (fun p e s m below meth c A ls Q hx hb hml hts hown hE hF hT hP hD hA hl ret => ?_)
  have hown : s.vm.findClass RJ3 = some m.cls := hown
  have hS : va_S A s.heap s.heap [] := va_S.rf
  have hl : lv_has ls 3 [(0, .int p0), (1, .int 102), (2, .null)] := hl
  refine lv_iload_n hx hb dJ3_checkIndex_8e157_0 rfl (lv_at hl 0 rfl) ?_
  refine lv_if_lt (tgt := 9) hx hb dJ3_checkIndex_8e157_1 rfl (fun c1 => ?_) (fun c1 => ?_)
  · skip
    have zc1 : p0.toInt < 0 := zLp rfl tc_0 c1
    exact (show False by omega).elim
  · skip
    have zc1 : ¬ (p0.toInt < 0) := zLn rfl tc_0 c1
    refine lv_iload_n hx hb dJ3_checkIndex_8e157_4 rfl (lv_at hl 0 rfl) ?_
    refine lv_iload_n hx hb dJ3_checkIndex_8e157_5 rfl (lv_at hl 1 rfl) ?_
    refine lv_icmp_lt (tgt := 16) hx hb dJ3_checkIndex_8e157_6 rfl (fun c2 => ?_) (fun c2 => ?_)
    · skip
      refine lv_iload_n hx hb dJ3_checkIndex_8e157_16 rfl (lv_at hl 0 rfl) ?_
      exact ret p0 () _ _ _ _ _ _ rfl trivial hP hD hS dJ3_checkIndex_8e157_17 (Nat.le_refl _) (Nat.le_refl _)
    · skip
      have zc2 : ¬ (p0.toInt < 102) := zLn rfl tc_102 c2
      exact (show False by omega).elim
set_option maxHeartbeats 4000000 in
set_option maxRecDepth 100000 in
theorem sX_J3_checkIndex_8e157_2 (l : Launch) (dC : Nat → ClassId) (dI : Nat → Nat → Nat) (cy : Nat → ClassId) (x0 : Nat) (x : Nat → Nat) (tz : Nat) (p0 : Int32) (v : Nat → Int32) (f : Nat → Nat → Int32) (hIv : XI v) (hp0 : (0 : Int) ≤ p0.toInt ∧ p0.toInt ≤ 101) : ctIS l (dC, dI) cy yJ3_checkIndex_8e157 cJ3_checkIndex_8e157 3 .int 1 60 0 0 Unit [.int p0, .int 102, .ref tz] (XW cy x0 x v f) (fun r u => True) (fun u => XW cy x0 x v f) := by
  refine ctIS_of (by decide) (Nat.le_of_ble_eq_true rfl) (fun p e s m below meth c A ls Q hx hb hml hts hown hE hF hT hP hD hA hl ret => ?_)
  have hown : s.vm.findClass RJ3 = some m.cls := hown
  have hS : va_S A s.heap s.heap [] := va_S.rf
  have hl : lv_has ls 3 [(0, .int p0), (1, .int 102), (2, .ref tz)] := hl
  refine lv_iload_n hx hb dJ3_checkIndex_8e157_0 rfl (lv_at hl 0 rfl) ?_
  refine lv_if_lt (tgt := 9) hx hb dJ3_checkIndex_8e157_1 rfl (fun c1 => ?_) (fun c1 => ?_)
  · skip
    have zc1 : p0.toInt < 0 := zLp rfl tc_0 c1
    exact (show False by omega).elim
  · skip
    have zc1 : ¬ (p0.toInt < 0) := zLn rfl tc_0 c1
    refine lv_iload_n hx hb dJ3_checkIndex_8e157_4 rfl (lv_at hl 0 rfl) ?_
    refine lv_iload_n hx hb dJ3_checkIndex_8e157_5 rfl (lv_at hl 1 rfl) ?_
    refine lv_icmp_lt (tgt := 16) hx hb dJ3_checkIndex_8e157_6 rfl (fun c2 => ?_) (fun c2 => ?_)
    · skip
      refine lv_iload_n hx hb dJ3_checkIndex_8e157_16 rfl (lv_at hl 0 rfl) ?_
      exact ret p0 () _ _ _ _ _ _ rfl trivial hP hD hS dJ3_checkIndex_8e157_17 (Nat.le_refl _) (Nat.le_refl _)
    · skip
      have zc2 : ¬ (p0.toInt < 102) := zLn rfl tc_102 c2
      exact (show False by omega).elim
set_option maxHeartbeats 4000000 in
set_option maxRecDepth 100000 in
theorem sX_J0_checkIndex_df160_1 (l : Launch) (dC : Nat → ClassId) (dI : Nat → Nat → Nat) (cy : Nat → ClassId) (x0 : Nat) (x : Nat → Nat) (p0 : Int32) (v : Nat → Int32) (f : Nat → Nat → Int32) (hIv : XI v) (hp0 : (0 : Int) ≤ p0.toInt ∧ p0.toInt ≤ 101) : ctVS l (dC, dI) cy yJ0_checkIndex_df160 cJ0_checkIndex_df160 2 2 82 0 0 Unit [.int p0, .int 102] (XW cy x0 x v f) (fun u => True) (fun u => XW cy x0 x v f) := by
  refine ctVS_of (by decide) (Nat.le_of_ble_eq_true rfl) (fun p e s m below meth c A ls Q hx hb hml hts hown hnm hE hF hT hP hD hA hl ret => ?_)
  have hown : s.vm.findClass RJ0 = some m.cls := hown
  have hS : va_S A s.heap s.heap [] := va_S.rf
  have hl : lv_has ls 2 [(0, .int p0), (1, .int 102)] := hl
  refine lv_iload_n hx hb dJ0_checkIndex_df160_0 rfl (lv_at hl 0 rfl) ?_
  refine lv_iload_n hx hb dJ0_checkIndex_df160_1 rfl (lv_at hl 1 rfl) ?_
  rcases hT.2.2 with hz9 | ⟨tz, hz9⟩
  · skip
    refine va_gets hx hb hz9 hS hown (hts _ k_595) (fun _ h9 => h9) dJ0_checkIndex_df160_2 ?_
    refine csSi (n := 3) (rest := []) hx hb hml hown hts hE hP hD hS hA hF hT (sX_J3_checkIndex_8e157_1 l dC dI cy x0 x p0 v f hIv ⟨show (0 : Int) ≤ p0.toInt from om_19 hp0, show p0.toInt ≤ (101 : Int) from om_20 hp0⟩) k_597 k_598 k_117 k_599 he_yJ3_checkIndex_8e157 ⟨Nat.le_of_ble_eq_true rfl, Nat.le_of_ble_eq_true rfl⟩ (rfl) hl.1 rfl (Nat.le_of_ble_eq_true rfl) dJ0_checkIndex_df160_5 (fun r1 u H locs hw hP hD hS => ?_)
    refine lv_pop hx hb dJ0_checkIndex_df160_8 rfl ?_
    exact ret () _ _ _ _ _ _ trivial hP hD hS dJ0_checkIndex_df160_9 (Nat.le_refl _) (Nat.le_refl _)
  · skip
    refine va_gets hx hb hz9 hS hown (hts _ k_595) (fun _ h9 => h9) dJ0_checkIndex_df160_2 ?_
    refine csSi (n := 3) (rest := []) hx hb hml hown hts hE hP hD hS hA hF hT (sX_J3_checkIndex_8e157_2 l dC dI cy x0 x tz p0 v f hIv ⟨show (0 : Int) ≤ p0.toInt from om_19 hp0, show p0.toInt ≤ (101 : Int) from om_20 hp0⟩) k_597 k_598 k_117 k_599 he_yJ3_checkIndex_8e157 ⟨Nat.le_of_ble_eq_true rfl, Nat.le_of_ble_eq_true rfl⟩ (rfl) hl.1 rfl (Nat.le_of_ble_eq_true rfl) dJ0_checkIndex_df160_5 (fun r2 u H locs hw hP hD hS => ?_)
    refine lv_pop hx hb dJ0_checkIndex_df160_8 rfl ?_
    exact ret () _ _ _ _ _ _ trivial hP hD hS dJ0_checkIndex_df160_9 (Nat.le_refl _) (Nat.le_refl _)
set_option maxHeartbeats 4000000 in
set_option maxRecDepth 100000 in
theorem sX_J1_charAt_3b067_1 (NF : Nat) (l : Launch) (dC : Nat → ClassId) (dI : Nat → Nat → Nat) (cy : Nat → ClassId) (x0 : Nat) (x : Nat → Nat) (p1 : Int32) (v : Nat → Int32) (f : Nat → Nat → Int32) (hIv : XI v) (hp1 : (0 : Int) ≤ p1.toInt ∧ p1.toInt ≤ 101) : ctIS l (dC, dI) cy yJ1_charAt_3b067 cJ1_charAt_3b067 2 .char 3 103 0 0 Unit [.ref (dI 101 1), .int p1] (XW cy x0 x v f) (fun r u => gsX_J1_charAt_3b067_1 NF p1 v f = r ∧ narrow .char (.int r) = .int r) (fun u => XW cy x0 x v f) := by
  refine ctIS_of (by decide) (Nat.le_of_ble_eq_true rfl) (fun p e s m below meth c A ls Q hx hb hml hts hown hE hF hT hP hD hA hl ret => ?_)
  have hown : s.vm.findClass RJ1 = some m.cls := hown
  have hS : va_S A s.heap s.heap [] := va_S.rf
  have hl : lv_has ls 2 [(0, .ref (dI 101 1)), (1, .int p1)] := hl
  refine lv_iload_n hx hb dJ1_charAt_3b067_0 rfl (lv_at hl 1 rfl) ?_
  refine lv_aload_n hx hb dJ1_charAt_3b067_1 rfl (lv_at hl 0 rfl) ?_
  refine va_tlen (v := 102) hx hb (hT.1.1 1 (by decide)).2.2.2 hS (by decide) dJ1_charAt_3b067_2 ?_
  refine csSv (n := 2) (rest := []) hx hb hml hown hts hE hP hD hS hA hF hT (sX_J0_checkIndex_df160_1 l dC dI cy x0 x p1 v f hIv ⟨show (0 : Int) ≤ p1.toInt from om_19 hp1, show p1.toInt ≤ (101 : Int) from om_20 hp1⟩) k_592 k_593 k_115 k_594 he_yJ0_checkIndex_df160 ⟨Nat.le_of_ble_eq_true rfl, Nat.le_of_ble_eq_true rfl⟩ (rfl) hl.1 rfl (Nat.le_of_ble_eq_true rfl) dJ1_charAt_3b067_3 (fun u H locs hw hP hD hS => ?_)
  refine lv_aload_n hx hb dJ1_charAt_3b067_6 rfl (lv_at hl 0 rfl) ?_
  refine lv_iload_n hx hb dJ1_charAt_3b067_7 rfl (lv_at hl 1 rfl) ?_
  refine va_tb hx hb (hT.1.1 1 (by decide)).2.2.2 hS (show vp_in p1 102 from (vpI (k := 102) rfl (show 0 ≤ p1.toInt from om_19 hp1) (show p1.toInt < 102 from om_21 hp1))) rfl dJ1_charAt_3b067_8 ?_
  refine lv_topi (fun t1 et1 => ?_)
  refine lv_sipush (v := 255) hx hb dJ1_charAt_3b067_9 rfl ?_
  refine lv_iand hx hb dJ1_charAt_3b067_12 ?_
  refine lv_topi (fun t2 et2 => ?_)
  refine lv_i2c hx hb dJ1_charAt_3b067_13 rfl ?_
  refine lv_topi (fun t3 et3 => ?_)
  exact ret t3 () _ _ _ _ _ _ (by rw [et3, et2, sc_c2]; exact sc_nar _) ⟨(gsX_J1_charAt_3b067_1_q0 et1 et2 et3), (by rw [et3, et2, sc_c2]; exact sc_nar _)⟩ hP hD hS dJ1_charAt_3b067_14 (Nat.le_refl _) (Nat.le_refl _)
set_option maxHeartbeats 4000000 in
set_option maxRecDepth 100000 in
theorem sX_J0_charAt_5068e_1 (NF : Nat) (l : Launch) (dC : Nat → ClassId) (dI : Nat → Nat → Nat) (cy : Nat → ClassId) (x0 : Nat) (x : Nat → Nat) (p1 : Int32) (v : Nat → Int32) (f : Nat → Nat → Int32) (hIv : XI v) (hp1 : (0 : Int) ≤ p1.toInt ∧ p1.toInt ≤ 101) : ctIS l (dC, dI) cy yJ0_charAt_5068e cJ0_charAt_5068e 2 .char 4 124 0 0 Unit [.ref (dI 100 1), .int p1] (XW cy x0 x v f) (fun r u => gsX_J0_charAt_5068e_1 NF p1 v f = r ∧ narrow .char (.int r) = .int r) (fun u => XW cy x0 x v f) := by
  refine ctIS_of (by decide) (Nat.le_of_ble_eq_true rfl) (fun p e s m below meth c A ls Q hx hb hml hts hown hE hF hT hP hD hA hl ret => ?_)
  have hown : s.vm.findClass RJ0 = some m.cls := hown
  have hS : va_S A s.heap s.heap [] := va_S.rf
  have hl : lv_has ls 2 [(0, .ref (dI 100 1)), (1, .int p1)] := hl
  refine lv_aload_n hx hb dJ0_charAt_5068e_0 rfl (lv_at hl 0 rfl) ?_
  refine crVi (n := 0) (rest := []) hx hb hml hown hts hE hP hD hS hA hF hT (sX_J0_isLatin1_aae02_1 NF l dC dI cy x0 x  v f hIv ) k_585 k_586 k_587 k_115 k_588 hd_yJ0_isLatin1_aae02 ⟨Nat.le_of_ble_eq_true rfl, Nat.le_of_ble_eq_true rfl⟩ 1 (by decide) rfl rfl (rfl) hl.1 rfl (Nat.le_of_ble_eq_true rfl) dJ0_charAt_5068e_1 (fun r1 u H locs hw hP hD hS => ?_)
  obtain ⟨hG2, hw⟩ := hw
  refine tI (y := 1) hw ?_
  refine lv_if_eq (tgt := 16) hx hb dJ0_charAt_5068e_4 rfl (fun c0 => absurd c0 (by decide)) (fun _ => ?_)
  refine lv_aload_n hx hb dJ0_charAt_5068e_7 rfl (lv_at hl 0 rfl) ?_
  refine vk_getf (q := (dI 100 1)) (v := .ref (dI 101 1)) hx hb (hT.1.1 1 (by decide)).2.2.1 hS hown (hts _ k_2059) (fun _ h9 => h9) dJ0_charAt_5068e_8 ?_
  refine lv_iload_n hx hb dJ0_charAt_5068e_11 rfl (lv_at hl 1 rfl) ?_
  refine csSi (n := 2) (rest := []) hx hb hml hown hts hE hP hD hS hA hF hT (sX_J1_charAt_3b067_1 NF l dC dI cy x0 x p1 v f hIv ⟨show (0 : Int) ≤ p1.toInt from om_19 hp1, show p1.toInt ≤ (101 : Int) from om_20 hp1⟩) k_589 k_590 k_116 k_591 he_yJ1_charAt_3b067 ⟨Nat.le_of_ble_eq_true rfl, Nat.le_of_ble_eq_true rfl⟩ (rfl) hl.1 rfl (Nat.le_of_ble_eq_true rfl) dJ0_charAt_5068e_12 (fun r3 u H locs hw hP hD hS => ?_)
  obtain ⟨hG4, hw⟩ := hw
  have nrr3 := hw
  exact ret r3 () _ _ _ _ _ _ nrr3 ⟨(gsX_J0_charAt_5068e_1_q0 hG4.symm), nrr3⟩ hP hD hS dJ0_charAt_5068e_15 (Nat.le_refl _) (Nat.le_refl _)
set_option maxHeartbeats 4000000 in
set_option maxRecDepth 100000 in
theorem sX_X9_wordKind_1 (NF : Nat) (l : Launch) (dC : Nat → ClassId) (dI : Nat → Nat → Nat) (cy : Nat → ClassId) (x0 : Nat) (x : Nat → Nat)  (v : Nat → Int32) (f : Nat → Nat → Int32) (hIv : XI v)  : ctIS l (dC, dI) cy yX9_wordKind cX9_wordKind 7 .int 5 145 0 0 Unit [.ref (x 0)] (XW cy x0 x v f) (fun r u => gsX_X9_wordKind_1 NF v f = r) (fun u => XW cy x0 x v f) := by
  refine ctIS_of (by decide) (Nat.le_of_ble_eq_true rfl) (fun p e s m below meth c A ls Q hx hb hml hts hown hE hF hT hP hD hA hl ret => ?_)
  have hown : s.vm.findClass RX9 = some m.cls := hown
  have hS : va_S A s.heap s.heap [] := va_S.rf
  have hl : lv_has ls 7 [(0, .ref (x 0))] := hl
  refine lv_bipush (v := 101) hx hb dX9_wordKind_0 rfl ?_
  refine lv_istore_n (lv' := [(1, .int 101), (0, .ref (x 0))]) hx hb dX9_wordKind_2 rfl hl (Nat.le_of_ble_eq_true rfl) rfl (fun ls hl => ?_)
  refine lv_iconst (v := 0) hx hb dX9_wordKind_3 rfl ?_
  refine lv_istore_n (lv' := [(2, .int 0), (1, .int 101), (0, .ref (x 0))]) hx hb dX9_wordKind_4 rfl hl (Nat.le_of_ble_eq_true rfl) rfl (fun ls hl => ?_)
  refine lv_iconst (v := 1) hx hb dX9_wordKind_5 rfl ?_
  refine lv_istore_n (lv' := [(3, .int 1), (2, .int 0), (1, .int 101), (0, .ref (x 0))]) hx hb dX9_wordKind_6 rfl hl (Nat.le_of_ble_eq_true rfl) rfl (fun ls hl => ?_)
  refine lv_iconst (v := 0) hx hb dX9_wordKind_7 rfl ?_
  refine lv_istore (lv' := [(4, .int 0), (3, .int 1), (2, .int 0), (1, .int 101), (0, .ref (x 0))]) hx hb dX9_wordKind_8 hl (Nat.le_of_ble_eq_true rfl) rfl (fun ls hl => ?_)
  have lp1 : ∀ (n1 : Nat) (l1_1 : Int32) (l2_1 : Int32) (l3_1 : Int32) (l4_1 : Int32), gsX_X9_wordKind_1_L1 NF v f n1 l1_1 l2_1 l3_1 l4_1 = (gsX_X9_wordKind_1 NF v f) → ((0 : Int) ≤ l2_1.toInt ∧ l2_1.toInt ≤ 102) → ((0 : Int) ≤ l3_1.toInt ∧ l3_1.toInt ≤ 1) → ((0 : Int) ≤ l4_1.toInt ∧ l4_1.toInt ≤ 102) → (l2_1.toInt ≤ l4_1.toInt) → (2147483647 - l4_1.toInt).toNat < n1 → ∀ (H : Heap) (locs : List Loc) (ls : Array Slot), va_P (dC, dI) vwCl (XW cy x0 x v f) H → va_D A (XW cy x0 x v f) → va_S A s.heap H locs → lv_has ls 7 [(4, .int l4_1), (3, .int l3_1), (2, .int l2_1), (1, .int l1_1), (0, .ref (x 0))] → W p l e { frames := 5, cells := 0, slots := 0, locals := 145 } s m ([.ref (x 0)] : List Value).toArray below meth c H locs 0 0 Q (F0 m 10 ls []) := by
    intro n1
    induction n1 with
    | zero => intro l1_1 l2_1 l3_1 l4_1 hT1 hr2_1 hr3_1 hr4_1 hx0_1 hm; exact absurd hm (Nat.not_lt_zero _)
    | succ n1 ih1 =>
      intro l1_1 l2_1 l3_1 l4_1 hT1 hr2_1 hr3_1 hr4_1 hx0_1 hm1 H locs ls hP hD hS hl
      refine lv_iload hx hb dX9_wordKind_10 (lv_at hl 0 rfl) ?_
      refine va_ldcS hx hb hown hF.2 dX9_wordKind_12 ?_
      refine crVi (n := 0) (rest := [.int l4_1]) hx hb hml hown hts hE hP hD hS hA hF hT (sX_J0_length_8abf5_1 NF l dC dI cy x0 x  v f hIv ) k_571 k_572 k_573 k_115 k_574 hd_yJ0_length_8abf5 ⟨Nat.le_of_ble_eq_true rfl, Nat.le_of_ble_eq_true rfl⟩ 1 (by decide) rfl rfl (rfl) hl.1 rfl (Nat.le_of_ble_eq_true rfl) dX9_wordKind_14 (fun r2 u H locs hw hP hD hS => ?_)
      obtain ⟨hG3, hw⟩ := hw
      refine tI (y := 102) hw ?_
      refine lv_icmp_ge (tgt := 112) hx hb dX9_wordKind_17 rfl (fun c4 => ?_) (fun c4 => ?_)
      · skip
        refine lv_iconst (v := 3) hx hb dX9_wordKind_112 rfl ?_
        exact ret 3 () _ _ _ _ _ _ rfl (hT1.symm.trans (gsX_X9_wordKind_1_q0 c4)) hP hD hS dX9_wordKind_113 (Nat.le_refl _) (Nat.le_refl _)
      · skip
        have zc4 : ¬ (102 ≤ l4_1.toInt) := zMn tc_102 rfl c4
        refine va_ldcS hx hb hown hF.2 dX9_wordKind_20 ?_
        refine lv_iload hx hb dX9_wordKind_22 (lv_at hl 0 rfl) ?_
        refine crVi (n := 1) (rest := []) hx hb hml hown hts hE hP hD hS hA hF hT (sX_J0_charAt_5068e_1 NF l dC dI cy x0 x l4_1 v f hIv ⟨show (0 : Int) ≤ l4_1.toInt from om_22 hr4_1, show l4_1.toInt ≤ (101 : Int) from om_23 zc4⟩) k_581 k_582 k_583 k_115 k_584 hd_yJ0_charAt_5068e ⟨Nat.le_of_ble_eq_true rfl, Nat.le_of_ble_eq_true rfl⟩ 1 (by decide) rfl rfl (rfl) hl.1 rfl (Nat.le_of_ble_eq_true rfl) dX9_wordKind_24 (fun r5 u H locs hw hP hD hS => ?_)
        obtain ⟨hG6, hw⟩ := hw
        have nrr5 := hw
        refine lv_istore (lv' := [(5, .int r5), (4, .int l4_1), (3, .int l3_1), (2, .int l2_1), (1, .int l1_1), (0, .ref (x 0))]) hx hb dX9_wordKind_27 hl (Nat.le_of_ble_eq_true rfl) rfl (fun ls hl => ?_)
        refine lv_aload_n hx hb dX9_wordKind_29 rfl (lv_at hl 5 rfl) ?_
        refine va_get (D := (dC, dI)) (ci := 9) (v := .int (v 3)) (C := RX9) (T := TX9) (N := 6) hx hb hts inB_9 hown hE.1 hP 1 rfl rfl 3 (Nat.le_of_ble_eq_true rfl) (hts _ k_141) (fun _ h9 => h9) rfl dX9_wordKind_30 ?_
        have b3_v : 0 ≤ (v 3).toInt ∧ (v 3).toInt ≤ 1600 := Xb_3 hIv
        refine lv_iload hx hb dX9_wordKind_33 (lv_at hl 1 rfl) ?_
        refine lv_iadd hx hb dX9_wordKind_35 ?_
        refine lv_topi (fun t7 et7 => ?_)
        have zt7 : t7.toInt = (v 3).toInt + l4_1.toInt := (congrArg Int32.toInt et7).trans (add_i rfl rfl (om_24 hr4_1 b3_v) (om_25 zc4 b3_v))
        refine lv_iload_n hx hb dX9_wordKind_36 rfl (lv_at hl 3 rfl) ?_
        refine lv_isub hx hb dX9_wordKind_37 ?_
        refine lv_topi (fun t10 et10 => ?_)
        have rg11 := fb_rng t7
        have zt10 : t10.toInt = t7.toInt - l2_1.toInt := (congrArg Int32.toInt et10).trans (sub_i rfl rfl (om_26 hx0_1 b3_v zt7) (om_27 hr2_1 rg11))
        refine lv_istore (lv' := [(6, .int t10), (5, .int r5), (4, .int l4_1), (3, .int l3_1), (2, .int l2_1), (1, .int l1_1), (0, .ref (x 0))]) hx hb dX9_wordKind_38 hl (Nat.le_of_ble_eq_true rfl) rfl (fun ls hl => ?_)
        refine lv_iload hx hb dX9_wordKind_40 (lv_at hl 1 rfl) ?_
        refine lv_bipush (v := 32) hx hb dX9_wordKind_42 rfl ?_
        refine lv_icmp_eq (tgt := 81) hx hb dX9_wordKind_44 rfl (fun c13 => ?_) (fun c13 => ?_)
        · skip
          refine lv_iload_n hx hb dX9_wordKind_81 rfl (lv_at hl 3 rfl) ?_
          refine lv_if_eq (tgt := 96) hx hb dX9_wordKind_82 rfl (fun c14 => ?_) (fun c14 => ?_)
          · skip
            obtain ⟨t15, et15⟩ : ∃ y : Int32, y = l1_1 + 1 := ⟨_, rfl⟩
            refine lv_iinc (v := t15) (lv' := [(1, .int t15), (6, .int t10), (5, .int r5), (4, .int l4_1), (3, .int l3_1), (2, .int l2_1), (0, .ref (x 0))]) hx hb dX9_wordKind_96 hl (k := 5) rfl et15.symm (Nat.le_of_ble_eq_true rfl) rfl (fun ls hl => ?_)
            refine lv_iload hx hb dX9_wordKind_99 (lv_at hl 3 rfl) ?_
            refine lv_iconst (v := 1) hx hb dX9_wordKind_101 rfl ?_
            refine lv_iadd hx hb dX9_wordKind_102 ?_
            refine lv_topi (fun t16 et16 => ?_)
            have zt16 : t16.toInt = l4_1.toInt + 1 := (congrArg Int32.toInt et16).trans (add_i rfl tc_1 (om_28 hr4_1) (om_29 zc4))
            refine lv_istore_n (lv' := [(2, .int t16), (1, .int t15), (6, .int t10), (5, .int r5), (4, .int l4_1), (3, .int l3_1), (0, .ref (x 0))]) hx hb dX9_wordKind_103 rfl hl (Nat.le_of_ble_eq_true rfl) rfl (fun ls hl => ?_)
            refine lv_iconst (v := 1) hx hb dX9_wordKind_104 rfl ?_
            refine lv_istore_n (lv' := [(3, .int 1), (2, .int t16), (1, .int t15), (6, .int t10), (5, .int r5), (4, .int l4_1), (0, .ref (x 0))]) hx hb dX9_wordKind_105 rfl hl (Nat.le_of_ble_eq_true rfl) rfl (fun ls hl => ?_)
            obtain ⟨t17, et17⟩ : ∃ y : Int32, y = l4_1 + 1 := ⟨_, rfl⟩
            have zt17 : t17.toInt = l4_1.toInt + 1 := (congrArg Int32.toInt et17).trans (add_i rfl tc_1 (om_28 hr4_1) (om_29 zc4))
            refine lv_iinc (v := t17) (lv' := [(4, .int t17), (3, .int 1), (2, .int t16), (1, .int t15), (6, .int t10), (5, .int r5), (0, .ref (x 0))]) hx hb dX9_wordKind_106 hl (k := 5) rfl et17.symm (Nat.le_of_ble_eq_true rfl) rfl (fun ls hl => ?_)
            refine lv_goto (tgt := 10) hx hb dX9_wordKind_109 rfl ?_
            have rg19 := fb_rng t17
            exact ih1 t15 t16 1 t17 ((gsX_X9_wordKind_1_q1 c4 hG6.symm et7 et10 c13 c14 et15 et16 et17).symm.trans hT1) ⟨show (0 : Int) ≤ t16.toInt from om_30 hr4_1 zt16, show t16.toInt ≤ (102 : Int) from om_31 zc4 zt16⟩ ⟨by decide, by decide⟩ ⟨show (0 : Int) ≤ t17.toInt from om_30 hr4_1 zt17, show t17.toInt ≤ (102 : Int) from om_31 zc4 zt17⟩ (show t16.toInt ≤ t17.toInt from om_32 zt16 zt17) (show (2147483647 - t17.toInt).toNat < n1 from om_33 hm1 zt17 rg19) _ _ _ hP hD hS (lv_sub hl [0, 1, 2, 3, 6] rfl)
          · skip
            refine lv_iload hx hb dX9_wordKind_85 (lv_at hl 0 rfl) ?_
            refine lv_aload_n hx hb dX9_wordKind_87 rfl (lv_at hl 6 rfl) ?_
            refine va_get (D := (dC, dI)) (ci := 9) (v := .int (v 4)) (C := RX9) (T := TX9) (N := 6) hx hb hts inB_9 hown hE.1 hP 1 rfl rfl 4 (Nat.le_of_ble_eq_true rfl) (hts _ k_143) (fun _ h9 => h9) rfl dX9_wordKind_88 ?_
            refine lv_icmp_ne (tgt := 96) hx hb dX9_wordKind_91 rfl (fun c20 => ?_) (fun c20 => ?_)
            · skip
              obtain ⟨t23, et23⟩ : ∃ y : Int32, y = l1_1 + 1 := ⟨_, rfl⟩
              refine lv_iinc (v := t23) (lv' := [(1, .int t23), (6, .int t10), (5, .int r5), (4, .int l4_1), (3, .int l3_1), (2, .int l2_1), (0, .ref (x 0))]) hx hb dX9_wordKind_96 hl (k := 5) rfl et23.symm (Nat.le_of_ble_eq_true rfl) rfl (fun ls hl => ?_)
              refine lv_iload hx hb dX9_wordKind_99 (lv_at hl 3 rfl) ?_
              refine lv_iconst (v := 1) hx hb dX9_wordKind_101 rfl ?_
              refine lv_iadd hx hb dX9_wordKind_102 ?_
              refine lv_topi (fun t24 et24 => ?_)
              have zt24 : t24.toInt = l4_1.toInt + 1 := (congrArg Int32.toInt et24).trans (add_i rfl tc_1 (om_28 hr4_1) (om_29 zc4))
              refine lv_istore_n (lv' := [(2, .int t24), (1, .int t23), (6, .int t10), (5, .int r5), (4, .int l4_1), (3, .int l3_1), (0, .ref (x 0))]) hx hb dX9_wordKind_103 rfl hl (Nat.le_of_ble_eq_true rfl) rfl (fun ls hl => ?_)
              refine lv_iconst (v := 1) hx hb dX9_wordKind_104 rfl ?_
              refine lv_istore_n (lv' := [(3, .int 1), (2, .int t24), (1, .int t23), (6, .int t10), (5, .int r5), (4, .int l4_1), (0, .ref (x 0))]) hx hb dX9_wordKind_105 rfl hl (Nat.le_of_ble_eq_true rfl) rfl (fun ls hl => ?_)
              obtain ⟨t25, et25⟩ : ∃ y : Int32, y = l4_1 + 1 := ⟨_, rfl⟩
              have zt25 : t25.toInt = l4_1.toInt + 1 := (congrArg Int32.toInt et25).trans (add_i rfl tc_1 (om_28 hr4_1) (om_29 zc4))
              refine lv_iinc (v := t25) (lv' := [(4, .int t25), (3, .int 1), (2, .int t24), (1, .int t23), (6, .int t10), (5, .int r5), (0, .ref (x 0))]) hx hb dX9_wordKind_106 hl (k := 5) rfl et25.symm (Nat.le_of_ble_eq_true rfl) rfl (fun ls hl => ?_)
              refine lv_goto (tgt := 10) hx hb dX9_wordKind_109 rfl ?_
              have rg27 := fb_rng t25
              exact ih1 t23 t24 1 t25 ((gsX_X9_wordKind_1_q2 c4 hG6.symm et7 et10 c13 c14 c20 et23 et24 et25).symm.trans hT1) ⟨show (0 : Int) ≤ t24.toInt from om_30 hr4_1 zt24, show t24.toInt ≤ (102 : Int) from om_31 zc4 zt24⟩ ⟨by decide, by decide⟩ ⟨show (0 : Int) ≤ t25.toInt from om_30 hr4_1 zt25, show t25.toInt ≤ (102 : Int) from om_31 zc4 zt25⟩ (show t24.toInt ≤ t25.toInt from om_32 zt24 zt25) (show (2147483647 - t25.toInt).toNat < n1 from om_33 hm1 zt25 rg27) _ _ _ hP hD hS (lv_sub hl [0, 1, 2, 3, 6] rfl)
            · skip
              refine lv_iload_n hx hb dX9_wordKind_94 rfl (lv_at hl 5 rfl) ?_
              exact ret l1_1 () _ _ _ _ _ _ rfl (hT1.symm.trans (gsX_X9_wordKind_1_q3 c4 hG6.symm et7 et10 c13 c14 c20)) hP hD hS dX9_wordKind_95 (Nat.le_refl _) (Nat.le_refl _)
        · skip
          refine lv_iload_n hx hb dX9_wordKind_47 rfl (lv_at hl 3 rfl) ?_
          refine lv_if_eq (tgt := 76) hx hb dX9_wordKind_48 rfl (fun c30 => ?_) (fun c30 => ?_)
          · skip
            refine lv_iconst (v := 0) hx hb dX9_wordKind_76 rfl ?_
            refine lv_istore_n (lv' := [(3, .int 0), (6, .int t10), (5, .int r5), (4, .int l4_1), (2, .int l2_1), (1, .int l1_1), (0, .ref (x 0))]) hx hb dX9_wordKind_77 rfl hl (Nat.le_of_ble_eq_true rfl) rfl (fun ls hl => ?_)
            refine lv_goto (tgt := 106) hx hb dX9_wordKind_78 rfl ?_
            obtain ⟨t31, et31⟩ : ∃ y : Int32, y = l4_1 + 1 := ⟨_, rfl⟩
            have zt31 : t31.toInt = l4_1.toInt + 1 := (congrArg Int32.toInt et31).trans (add_i rfl tc_1 (om_28 hr4_1) (om_29 zc4))
            refine lv_iinc (v := t31) (lv' := [(4, .int t31), (3, .int 0), (6, .int t10), (5, .int r5), (2, .int l2_1), (1, .int l1_1), (0, .ref (x 0))]) hx hb dX9_wordKind_106 hl (k := 3) rfl et31.symm (Nat.le_of_ble_eq_true rfl) rfl (fun ls hl => ?_)
            refine lv_goto (tgt := 10) hx hb dX9_wordKind_109 rfl ?_
            have rg32 := fb_rng t31
            exact ih1 l1_1 l2_1 0 t31 ((gsX_X9_wordKind_1_q4 c4 hG6.symm et7 et10 c13 c30 et31).symm.trans hT1) ⟨show (0 : Int) ≤ l2_1.toInt from om_22 hr2_1, show l2_1.toInt ≤ (102 : Int) from om_34 hr2_1⟩ ⟨by decide, by decide⟩ ⟨show (0 : Int) ≤ t31.toInt from om_30 hr4_1 zt31, show t31.toInt ≤ (102 : Int) from om_31 zc4 zt31⟩ (show l2_1.toInt ≤ t31.toInt from om_35 hx0_1 zt31) (show (2147483647 - t31.toInt).toNat < n1 from om_33 hm1 zt31 rg32) _ _ _ hP hD hS (lv_sub hl [0, 1, 4, 5, 6] rfl)
          · skip
            refine lv_iload hx hb dX9_wordKind_51 (lv_at hl 0 rfl) ?_
            refine lv_aload_n hx hb dX9_wordKind_53 rfl (lv_at hl 6 rfl) ?_
            refine va_get (D := (dC, dI)) (ci := 9) (v := .int (v 4)) (C := RX9) (T := TX9) (N := 6) hx hb hts inB_9 hown hE.1 hP 1 rfl rfl 4 (Nat.le_of_ble_eq_true rfl) (hts _ k_143) (fun _ h9 => h9) rfl dX9_wordKind_54 ?_
            have b4_v : 0 ≤ (v 4).toInt ∧ (v 4).toInt ≤ 1600 := Xb_4 hIv
            refine lv_icmp_ge (tgt := 76) hx hb dX9_wordKind_57 rfl (fun c33 => ?_) (fun c33 => ?_)
            · skip
              refine lv_iconst (v := 0) hx hb dX9_wordKind_76 rfl ?_
              refine lv_istore_n (lv' := [(3, .int 0), (6, .int t10), (5, .int r5), (4, .int l4_1), (2, .int l2_1), (1, .int l1_1), (0, .ref (x 0))]) hx hb dX9_wordKind_77 rfl hl (Nat.le_of_ble_eq_true rfl) rfl (fun ls hl => ?_)
              refine lv_goto (tgt := 106) hx hb dX9_wordKind_78 rfl ?_
              obtain ⟨t36, et36⟩ : ∃ y : Int32, y = l4_1 + 1 := ⟨_, rfl⟩
              have zt36 : t36.toInt = l4_1.toInt + 1 := (congrArg Int32.toInt et36).trans (add_i rfl tc_1 (om_28 hr4_1) (om_29 zc4))
              refine lv_iinc (v := t36) (lv' := [(4, .int t36), (3, .int 0), (6, .int t10), (5, .int r5), (2, .int l2_1), (1, .int l1_1), (0, .ref (x 0))]) hx hb dX9_wordKind_106 hl (k := 3) rfl et36.symm (Nat.le_of_ble_eq_true rfl) rfl (fun ls hl => ?_)
              refine lv_goto (tgt := 10) hx hb dX9_wordKind_109 rfl ?_
              have rg37 := fb_rng t36
              exact ih1 l1_1 l2_1 0 t36 ((gsX_X9_wordKind_1_q5 c4 hG6.symm et7 et10 c13 c30 c33 et36).symm.trans hT1) ⟨show (0 : Int) ≤ l2_1.toInt from om_22 hr2_1, show l2_1.toInt ≤ (102 : Int) from om_34 hr2_1⟩ ⟨by decide, by decide⟩ ⟨show (0 : Int) ≤ t36.toInt from om_30 hr4_1 zt36, show t36.toInt ≤ (102 : Int) from om_31 zc4 zt36⟩ (show l2_1.toInt ≤ t36.toInt from om_35 hx0_1 zt36) (show (2147483647 - t36.toInt).toNat < n1 from om_33 hm1 zt36 rg37) _ _ _ hP hD hS (lv_sub hl [0, 1, 4, 5, 6] rfl)
            · skip
              have zc33 : ¬ ((v 4).toInt ≤ t10.toInt) := zMn rfl rfl c33
              refine lv_aload_n hx hb dX9_wordKind_60 rfl (lv_at hl 6 rfl) ?_
              refine va_get (D := (dC, dI)) (ci := 9) (v := .ref (x 1)) (C := RX9) (T := TX9) (N := 6) hx hb hts inB_9 hown hE.1 hP 1 rfl rfl 0 (Nat.le_of_ble_eq_true rfl) (hts _ k_136) (fun _ h9 => h9) rfl dX9_wordKind_61 ?_
              refine lv_iload hx hb dX9_wordKind_64 (lv_at hl 0 rfl) ?_
              refine ldB hx hb hE hP 2 rfl (vpI (k := 1600) rfl (show 0 ≤ t10.toInt from om_36 hx0_1 b3_v zt7 zt10) (show t10.toInt < 1600 from om_16 b4_v zc33)) rfl rfl dX9_wordKind_66 ?_
              refine lv_topi (fun t40 et40 => ?_)
              refine lv_iload hx hb dX9_wordKind_67 (lv_at hl 1 rfl) ?_
              refine lv_icmp_ne (tgt := 76) hx hb dX9_wordKind_69 rfl (fun c41 => ?_) (fun c41 => ?_)
              · skip
                refine lv_iconst (v := 0) hx hb dX9_wordKind_76 rfl ?_
                refine lv_istore_n (lv' := [(3, .int 0), (6, .int t10), (5, .int r5), (4, .int l4_1), (2, .int l2_1), (1, .int l1_1), (0, .ref (x 0))]) hx hb dX9_wordKind_77 rfl hl (Nat.le_of_ble_eq_true rfl) rfl (fun ls hl => ?_)
                refine lv_goto (tgt := 106) hx hb dX9_wordKind_78 rfl ?_
                obtain ⟨t44, et44⟩ : ∃ y : Int32, y = l4_1 + 1 := ⟨_, rfl⟩
                have zt44 : t44.toInt = l4_1.toInt + 1 := (congrArg Int32.toInt et44).trans (add_i rfl tc_1 (om_28 hr4_1) (om_29 zc4))
                refine lv_iinc (v := t44) (lv' := [(4, .int t44), (3, .int 0), (6, .int t10), (5, .int r5), (2, .int l2_1), (1, .int l1_1), (0, .ref (x 0))]) hx hb dX9_wordKind_106 hl (k := 3) rfl et44.symm (Nat.le_of_ble_eq_true rfl) rfl (fun ls hl => ?_)
                refine lv_goto (tgt := 10) hx hb dX9_wordKind_109 rfl ?_
                have rg45 := fb_rng t44
                exact ih1 l1_1 l2_1 0 t44 ((gsX_X9_wordKind_1_q6 c4 hG6.symm et7 et10 c13 c30 c33 et40 c41 et44).symm.trans hT1) ⟨show (0 : Int) ≤ l2_1.toInt from om_22 hr2_1, show l2_1.toInt ≤ (102 : Int) from om_34 hr2_1⟩ ⟨by decide, by decide⟩ ⟨show (0 : Int) ≤ t44.toInt from om_30 hr4_1 zt44, show t44.toInt ≤ (102 : Int) from om_31 zc4 zt44⟩ (show l2_1.toInt ≤ t44.toInt from om_35 hx0_1 zt44) (show (2147483647 - t44.toInt).toNat < n1 from om_33 hm1 zt44 rg45) _ _ _ hP hD hS (lv_sub hl [0, 1, 4, 5, 6] rfl)
              · skip
                refine lv_iconst (v := 1) hx hb dX9_wordKind_72 rfl ?_
                refine lv_goto (tgt := 77) hx hb dX9_wordKind_73 rfl ?_
                refine lv_istore_n (lv' := [(3, .int 1), (6, .int t10), (5, .int r5), (4, .int l4_1), (2, .int l2_1), (1, .int l1_1), (0, .ref (x 0))]) hx hb dX9_wordKind_77 rfl hl (Nat.le_of_ble_eq_true rfl) rfl (fun ls hl => ?_)
                refine lv_goto (tgt := 106) hx hb dX9_wordKind_78 rfl ?_
                obtain ⟨t48, et48⟩ : ∃ y : Int32, y = l4_1 + 1 := ⟨_, rfl⟩
                have zt48 : t48.toInt = l4_1.toInt + 1 := (congrArg Int32.toInt et48).trans (add_i rfl tc_1 (om_28 hr4_1) (om_29 zc4))
                refine lv_iinc (v := t48) (lv' := [(4, .int t48), (3, .int 1), (6, .int t10), (5, .int r5), (2, .int l2_1), (1, .int l1_1), (0, .ref (x 0))]) hx hb dX9_wordKind_106 hl (k := 3) rfl et48.symm (Nat.le_of_ble_eq_true rfl) rfl (fun ls hl => ?_)
                refine lv_goto (tgt := 10) hx hb dX9_wordKind_109 rfl ?_
                have rg49 := fb_rng t48
                exact ih1 l1_1 l2_1 1 t48 ((gsX_X9_wordKind_1_q7 c4 hG6.symm et7 et10 c13 c30 c33 et40 c41 et48).symm.trans hT1) ⟨show (0 : Int) ≤ l2_1.toInt from om_22 hr2_1, show l2_1.toInt ≤ (102 : Int) from om_34 hr2_1⟩ ⟨by decide, by decide⟩ ⟨show (0 : Int) ≤ t48.toInt from om_30 hr4_1 zt48, show t48.toInt ≤ (102 : Int) from om_31 zc4 zt48⟩ (show l2_1.toInt ≤ t48.toInt from om_35 hx0_1 zt48) (show (2147483647 - t48.toInt).toNat < n1 from om_33 hm1 zt48 rg49) _ _ _ hP hD hS (lv_sub hl [0, 1, 4, 5, 6] rfl)
  exact lp1 (4294967296 + NF) 101 0 1 0 gsX_X9_wordKind_1_q8.symm ⟨by decide, by decide⟩ ⟨by decide, by decide⟩ ⟨by decide, by decide⟩ (show (0 : Int32).toInt ≤ (0 : Int32).toInt from om_37 tc_0) (show (2147483647 - (0 : Int32).toInt).toNat < 4294967296 + NF from om_38 tc_0) _ _ _ hP hD hS (lv_sub hl [0, 1, 2, 3, 4] rfl)
set_option maxHeartbeats 4000000 in
set_option maxRecDepth 100000 in
theorem sX_X9_isDigit_1 (NF : Nat) (l : Launch) (dC : Nat → ClassId) (dI : Nat → Nat → Nat) (cy : Nat → ClassId) (x0 : Nat) (x : Nat → Nat) (p1 : Int32) (v : Nat → Int32) (f : Nat → Nat → Int32) (hIv : XI v)  : ctI l (dC, dI) cy yX9_isDigit cX9_isDigit 2 .boolean 1 60 0 0 Unit [.ref (x 0), .int p1] (XW cy x0 x v f) (fun r u => gsX_X9_isDigit_1 NF p1 v f = r ∧ ((r = 1 ∧ 0 ≤ p1.toInt ∧ p1.toInt < (v 1).toInt ∧ p1.toInt ≤ 1599) ∨ (r = 0))) (fun u => XW cy x0 x v f) := by
  refine ctI_of (by decide) (Nat.le_of_ble_eq_true rfl) (fun p e s m below meth c A ls Q hx hb hml hts hown hE hP hD hA hl ret => ?_)
  have hown : s.vm.findClass RX9 = some m.cls := hown
  have hS : va_S A s.heap s.heap [] := va_S.rf
  have hl : lv_has ls 2 [(0, .ref (x 0)), (1, .int p1)] := hl
  refine lv_iload_n hx hb dX9_isDigit_0 rfl (lv_at hl 1 rfl) ?_
  refine lv_if_lt (tgt := 38) hx hb dX9_isDigit_1 rfl (fun c1 => ?_) (fun c1 => ?_)
  · skip
    refine lv_iconst (v := 0) hx hb dX9_isDigit_38 rfl ?_
    exact ret 0 () _ _ _ _ _ _ rfl ⟨(gsX_X9_isDigit_1_q0 c1), (Or.inr rfl)⟩ hP hD hS dX9_isDigit_39 (Nat.le_refl _) (Nat.le_refl _)
  · skip
    have zc1 : ¬ (p1.toInt < 0) := zLn rfl tc_0 c1
    refine lv_iload_n hx hb dX9_isDigit_4 rfl (lv_at hl 1 rfl) ?_
    refine lv_aload_n hx hb dX9_isDigit_5 rfl (lv_at hl 0 rfl) ?_
    refine va_get (D := (dC, dI)) (ci := 9) (v := .int (v 1)) (C := RX9) (T := TX9) (N := 6) hx hb hts inB_9 hown hE.1 hP 1 rfl rfl 1 (Nat.le_of_ble_eq_true rfl) (hts _ k_137) (fun _ h9 => h9) rfl dX9_isDigit_6 ?_
    have b1_v : 0 ≤ (v 1).toInt ∧ (v 1).toInt ≤ 1600 := Xb_1 hIv
    refine lv_icmp_ge (tgt := 38) hx hb dX9_isDigit_9 rfl (fun c2 => ?_) (fun c2 => ?_)
    · skip
      refine lv_iconst (v := 0) hx hb dX9_isDigit_38 rfl ?_
      exact ret 0 () _ _ _ _ _ _ rfl ⟨(gsX_X9_isDigit_1_q1 c1 c2), (Or.inr rfl)⟩ hP hD hS dX9_isDigit_39 (Nat.le_refl _) (Nat.le_refl _)
    · skip
      have zc2 : ¬ ((v 1).toInt ≤ p1.toInt) := zMn rfl rfl c2
      refine lv_aload_n hx hb dX9_isDigit_12 rfl (lv_at hl 0 rfl) ?_
      refine va_get (D := (dC, dI)) (ci := 9) (v := .ref (x 1)) (C := RX9) (T := TX9) (N := 6) hx hb hts inB_9 hown hE.1 hP 1 rfl rfl 0 (Nat.le_of_ble_eq_true rfl) (hts _ k_136) (fun _ h9 => h9) rfl dX9_isDigit_13 ?_
      refine lv_iload_n hx hb dX9_isDigit_16 rfl (lv_at hl 1 rfl) ?_
      refine ldB hx hb hE hP 2 rfl (vpI (k := 1600) rfl (show 0 ≤ p1.toInt from om_14 zc1) (show p1.toInt < 1600 from om_16 b1_v zc2)) rfl rfl dX9_isDigit_17 ?_
      refine lv_topi (fun t7 et7 => ?_)
      refine lv_bipush (v := 48) hx hb dX9_isDigit_18 rfl ?_
      refine lv_icmp_lt (tgt := 38) hx hb dX9_isDigit_20 rfl (fun c8 => ?_) (fun c8 => ?_)
      · skip
        refine lv_iconst (v := 0) hx hb dX9_isDigit_38 rfl ?_
        exact ret 0 () _ _ _ _ _ _ rfl ⟨(gsX_X9_isDigit_1_q2 c1 c2 et7 c8), (Or.inr rfl)⟩ hP hD hS dX9_isDigit_39 (Nat.le_refl _) (Nat.le_refl _)
      · skip
        refine lv_aload_n hx hb dX9_isDigit_23 rfl (lv_at hl 0 rfl) ?_
        refine va_get (D := (dC, dI)) (ci := 9) (v := .ref (x 1)) (C := RX9) (T := TX9) (N := 6) hx hb hts inB_9 hown hE.1 hP 1 rfl rfl 0 (Nat.le_of_ble_eq_true rfl) (hts _ k_136) (fun _ h9 => h9) rfl dX9_isDigit_24 ?_
        refine lv_iload_n hx hb dX9_isDigit_27 rfl (lv_at hl 1 rfl) ?_
        refine ldB hx hb hE hP 2 rfl (vpI (k := 1600) rfl (show 0 ≤ p1.toInt from om_14 zc1) (show p1.toInt < 1600 from om_16 b1_v zc2)) rfl rfl dX9_isDigit_28 ?_
        refine lv_topi (fun t9 et9 => ?_)
        refine lv_bipush (v := 57) hx hb dX9_isDigit_29 rfl ?_
        refine lv_icmp_gt (tgt := 38) hx hb dX9_isDigit_31 rfl (fun c10 => ?_) (fun c10 => ?_)
        · skip
          refine lv_iconst (v := 0) hx hb dX9_isDigit_38 rfl ?_
          exact ret 0 () _ _ _ _ _ _ rfl ⟨(gsX_X9_isDigit_1_q3 c1 c2 et7 c8 et9 c10), (Or.inr rfl)⟩ hP hD hS dX9_isDigit_39 (Nat.le_refl _) (Nat.le_refl _)
        · skip
          refine lv_iconst (v := 1) hx hb dX9_isDigit_34 rfl ?_
          refine lv_goto (tgt := 39) hx hb dX9_isDigit_35 rfl ?_
          exact ret 1 () _ _ _ _ _ _ rfl ⟨(gsX_X9_isDigit_1_q4 c1 c2 et7 c8 et9 c10), (Or.inl ⟨rfl, show 0 ≤ p1.toInt from om_14 zc1, show p1.toInt < (v 1).toInt from om_17 zc2, show p1.toInt ≤ 1599 from om_18 b1_v zc2⟩)⟩ hP hD hS dX9_isDigit_39 (Nat.le_refl _) (Nat.le_refl _)
set_option maxHeartbeats 4000000 in
set_option maxRecDepth 100000 in
theorem sX_J0_isLatin1_aae02_2 (NF : Nat) (l : Launch) (dC : Nat → ClassId) (dI : Nat → Nat → Nat) (cy : Nat → ClassId) (x0 : Nat) (x : Nat → Nat)  (v : Nat → Int32) (f : Nat → Nat → Int32) (hIv : XI v)  : ctIS l (dC, dI) cy yJ0_isLatin1_aae02 cJ0_isLatin1_aae02 1 .boolean 1 60 0 0 Unit [.ref (dI 100 0)] (XW cy x0 x v f) (fun r u => gsX_J0_isLatin1_aae02_2 NF v f = r ∧ r = 1) (fun u => XW cy x0 x v f) := by
  refine ctIS_of (by decide) (Nat.le_of_ble_eq_true rfl) (fun p e s m below meth c A ls Q hx hb hml hts hown hE hF hT hP hD hA hl ret => ?_)
  have hown : s.vm.findClass RJ0 = some m.cls := hown
  have hS : va_S A s.heap s.heap [] := va_S.rf
  have hl : lv_has ls 1 [(0, .ref (dI 100 0))] := hl
  refine va_gets hx hb hT.2.1 hS hown (hts _ k_579) (fun _ h9 => h9) dJ0_isLatin1_aae02_0 ?_
  refine lv_if_eq (tgt := 17) hx hb dJ0_isLatin1_aae02_3 rfl (fun c0 => absurd c0 (by decide)) (fun _ => ?_)
  refine lv_aload_n hx hb dJ0_isLatin1_aae02_6 rfl (lv_at hl 0 rfl) ?_
  refine vk_getf (q := (dI 100 0)) (v := .int 0) hx hb (hT.1.1 0 (by decide)).2.1 hS hown (hts _ k_2060) (fun _ h9 => h9) dJ0_isLatin1_aae02_7 ?_
  refine lv_if_ne (tgt := 17) hx hb dJ0_isLatin1_aae02_10 rfl (fun c0 => absurd (by decide) c0) (fun _ => ?_)
  refine lv_iconst (v := 1) hx hb dJ0_isLatin1_aae02_13 rfl ?_
  refine lv_goto (tgt := 18) hx hb dJ0_isLatin1_aae02_14 rfl ?_
  exact ret 1 () _ _ _ _ _ _ rfl ⟨gsX_J0_isLatin1_aae02_2_q0, rfl⟩ hP hD hS dJ0_isLatin1_aae02_18 (Nat.le_refl _) (Nat.le_refl _)
set_option maxHeartbeats 4000000 in
set_option maxRecDepth 100000 in
theorem sX_J0_coder_7d493_2 (NF : Nat) (l : Launch) (dC : Nat → ClassId) (dI : Nat → Nat → Nat) (cy : Nat → ClassId) (x0 : Nat) (x : Nat → Nat)  (v : Nat → Int32) (f : Nat → Nat → Int32) (hIv : XI v)  : ctIS l (dC, dI) cy yJ0_coder_7d493 cJ0_coder_7d493 1 .byte 1 60 0 0 Unit [.ref (dI 100 0)] (XW cy x0 x v f) (fun r u => gsX_J0_coder_7d493_2 NF v f = r ∧ r = 0) (fun u => XW cy x0 x v f) := by
  refine ctIS_of (by decide) (Nat.le_of_ble_eq_true rfl) (fun p e s m below meth c A ls Q hx hb hml hts hown hE hF hT hP hD hA hl ret => ?_)
  have hown : s.vm.findClass RJ0 = some m.cls := hown
  have hS : va_S A s.heap s.heap [] := va_S.rf
  have hl : lv_has ls 1 [(0, .ref (dI 100 0))] := hl
  refine va_gets hx hb hT.2.1 hS hown (hts _ k_579) (fun _ h9 => h9) dJ0_coder_7d493_0 ?_
  refine lv_if_eq (tgt := 13) hx hb dJ0_coder_7d493_3 rfl (fun c0 => absurd c0 (by decide)) (fun _ => ?_)
  refine lv_aload_n hx hb dJ0_coder_7d493_6 rfl (lv_at hl 0 rfl) ?_
  refine vk_getf (q := (dI 100 0)) (v := .int 0) hx hb (hT.1.1 0 (by decide)).2.1 hS hown (hts _ k_2060) (fun _ h9 => h9) dJ0_coder_7d493_7 ?_
  refine lv_goto (tgt := 14) hx hb dJ0_coder_7d493_10 rfl ?_
  exact ret 0 () _ _ _ _ _ _ rfl ⟨gsX_J0_coder_7d493_2_q0, rfl⟩ hP hD hS dJ0_coder_7d493_14 (Nat.le_refl _) (Nat.le_refl _)
set_option maxHeartbeats 4000000 in
set_option maxRecDepth 100000 in
theorem sX_J0_length_8abf5_2 (NF : Nat) (l : Launch) (dC : Nat → ClassId) (dI : Nat → Nat → Nat) (cy : Nat → ClassId) (x0 : Nat) (x : Nat → Nat)  (v : Nat → Int32) (f : Nat → Nat → Int32) (hIv : XI v)  : ctIS l (dC, dI) cy yJ0_length_8abf5 cJ0_length_8abf5 1 .int 2 80 0 0 Unit [.ref (dI 100 0)] (XW cy x0 x v f) (fun r u => gsX_J0_length_8abf5_2 NF v f = r ∧ r = 11) (fun u => XW cy x0 x v f) := by
  refine ctIS_of (by decide) (Nat.le_of_ble_eq_true rfl) (fun p e s m below meth c A ls Q hx hb hml hts hown hE hF hT hP hD hA hl ret => ?_)
  have hown : s.vm.findClass RJ0 = some m.cls := hown
  have hS : va_S A s.heap s.heap [] := va_S.rf
  have hl : lv_has ls 1 [(0, .ref (dI 100 0))] := hl
  refine lv_aload_n hx hb dJ0_length_8abf5_0 rfl (lv_at hl 0 rfl) ?_
  refine vk_getf (q := (dI 100 0)) (v := .ref (dI 101 0)) hx hb (hT.1.1 0 (by decide)).2.2.1 hS hown (hts _ k_2059) (fun _ h9 => h9) dJ0_length_8abf5_1 ?_
  refine va_tlen (v := 11) hx hb (hT.1.1 0 (by decide)).2.2.2 hS (by decide) dJ0_length_8abf5_4 ?_
  refine lv_aload_n hx hb dJ0_length_8abf5_5 rfl (lv_at hl 0 rfl) ?_
  refine crVi (n := 0) (rest := [.int 11]) hx hb hml hown hts hE hP hD hS hA hF hT (sX_J0_coder_7d493_2 NF l dC dI cy x0 x  v f hIv ) k_575 k_576 k_577 k_115 k_578 hd_yJ0_coder_7d493 ⟨Nat.le_of_ble_eq_true rfl, Nat.le_of_ble_eq_true rfl⟩ 0 (by decide) rfl rfl (rfl) hl.1 rfl (Nat.le_of_ble_eq_true rfl) dJ0_length_8abf5_6 (fun r1 u H locs hw hP hD hS => ?_)
  obtain ⟨hG2, hw⟩ := hw
  refine tI (y := 0) hw ?_
  refine lv_ishr hx hb dJ0_length_8abf5_9 ?_
  refine tI (y := 11) (by decide) ?_
  exact ret 11 () _ _ _ _ _ _ rfl ⟨gsX_J0_length_8abf5_2_q0, rfl⟩ hP hD hS dJ0_length_8abf5_10 (Nat.le_refl _) (Nat.le_refl _)
set_option maxHeartbeats 4000000 in
set_option maxRecDepth 100000 in
theorem sX_J1_canEncode_9a6ad_1 (NF : Nat) (l : Launch) (dC : Nat → ClassId) (dI : Nat → Nat → Nat) (cy : Nat → ClassId) (x0 : Nat) (x : Nat → Nat) (p0 : Int32) (v : Nat → Int32) (f : Nat → Nat → Int32) (hIv : XI v)  : ctIS l (dC, dI) cy yJ1_canEncode_9a6ad cJ1_canEncode_9a6ad 1 .boolean 1 60 0 0 Unit [.int p0] (XW cy x0 x v f) (fun r u => gsX_J1_canEncode_9a6ad_1 NF p0 v f = r ∧ ((r = 1) ∨ (r = 0))) (fun u => XW cy x0 x v f) := by
  refine ctIS_of (by decide) (Nat.le_of_ble_eq_true rfl) (fun p e s m below meth c A ls Q hx hb hml hts hown hE hF hT hP hD hA hl ret => ?_)
  have hown : s.vm.findClass RJ1 = some m.cls := hown
  have hS : va_S A s.heap s.heap [] := va_S.rf
  have hl : lv_has ls 1 [(0, .int p0)] := hl
  refine lv_iload_n hx hb dJ1_canEncode_9a6ad_0 rfl (lv_at hl 0 rfl) ?_
  refine lv_if_lt (tgt := 15) hx hb dJ1_canEncode_9a6ad_1 rfl (fun c1 => ?_) (fun c1 => ?_)
  · skip
    refine lv_iconst (v := 0) hx hb dJ1_canEncode_9a6ad_15 rfl ?_
    exact ret 0 () _ _ _ _ _ _ rfl ⟨(gsX_J1_canEncode_9a6ad_1_q0 c1), (Or.inr rfl)⟩ hP hD hS dJ1_canEncode_9a6ad_16 (Nat.le_refl _) (Nat.le_refl _)
  · skip
    refine lv_iload_n hx hb dJ1_canEncode_9a6ad_4 rfl (lv_at hl 0 rfl) ?_
    refine lv_sipush (v := 255) hx hb dJ1_canEncode_9a6ad_5 rfl ?_
    refine lv_icmp_gt (tgt := 15) hx hb dJ1_canEncode_9a6ad_8 rfl (fun c2 => ?_) (fun c2 => ?_)
    · skip
      refine lv_iconst (v := 0) hx hb dJ1_canEncode_9a6ad_15 rfl ?_
      exact ret 0 () _ _ _ _ _ _ rfl ⟨(gsX_J1_canEncode_9a6ad_1_q1 c1 c2), (Or.inr rfl)⟩ hP hD hS dJ1_canEncode_9a6ad_16 (Nat.le_refl _) (Nat.le_refl _)
    · skip
      refine lv_iconst (v := 1) hx hb dJ1_canEncode_9a6ad_11 rfl ?_
      refine lv_goto (tgt := 16) hx hb dJ1_canEncode_9a6ad_12 rfl ?_
      exact ret 1 () _ _ _ _ _ _ rfl ⟨(gsX_J1_canEncode_9a6ad_1_q2 c1 c2), (Or.inl rfl)⟩ hP hD hS dJ1_canEncode_9a6ad_16 (Nat.le_refl _) (Nat.le_refl _)
set_option maxHeartbeats 4000000 in
set_option maxRecDepth 100000 in
theorem sX_J1_indexOfChar_4cfef_1 (NF : Nat) (l : Launch) (dC : Nat → ClassId) (dI : Nat → Nat → Nat) (cy : Nat → ClassId) (x0 : Nat) (x : Nat → Nat) (p1 : Int32) (p2 : Int32) (p3 : Int32) (v : Nat → Int32) (f : Nat → Nat → Int32) (hIv : XI v) (hp2 : (0 : Int) ≤ p2.toInt ∧ p2.toInt ≤ 11) (hp3 : (0 : Int) ≤ p3.toInt ∧ p3.toInt ≤ 11) : ctIS l (dC, dI) cy yJ1_indexOfChar_4cfef cJ1_indexOfChar_4cfef 6 .int 1 60 0 0 Unit [.ref (dI 101 0), .int p1, .int p2, .int p3] (XW cy x0 x v f) (fun r u => gsX_J1_indexOfChar_4cfef_1 NF p1 p2 p3 v f = r) (fun u => XW cy x0 x v f) := by
  refine ctIS_of (by decide) (Nat.le_of_ble_eq_true rfl) (fun p e s m below meth c A ls Q hx hb hml hts hown hE hF hT hP hD hA hl ret => ?_)
  have hown : s.vm.findClass RJ1 = some m.cls := hown
  have hS : va_S A s.heap s.heap [] := va_S.rf
  have hl : lv_has ls 6 [(0, .ref (dI 101 0)), (1, .int p1), (2, .int p2), (3, .int p3)] := hl
  refine lv_iload_n hx hb dJ1_indexOfChar_4cfef_0 rfl (lv_at hl 1 rfl) ?_
  refine lv_i2b hx hb dJ1_indexOfChar_4cfef_1 rfl ?_
  refine lv_topi (fun t1 et1 => ?_)
  refine lv_istore (lv' := [(4, .int t1), (0, .ref (dI 101 0)), (1, .int p1), (2, .int p2), (3, .int p3)]) hx hb dJ1_indexOfChar_4cfef_2 hl (Nat.le_of_ble_eq_true rfl) rfl (fun ls hl => ?_)
  refine lv_iload_n hx hb dJ1_indexOfChar_4cfef_4 rfl (lv_at hl 3 rfl) ?_
  refine lv_istore (lv' := [(5, .int p2), (4, .int t1), (0, .ref (dI 101 0)), (1, .int p1), (2, .int p2), (3, .int p3)]) hx hb dJ1_indexOfChar_4cfef_5 hl (Nat.le_of_ble_eq_true rfl) rfl (fun ls hl => ?_)
  have lp2 : ∀ (n2 : Nat) (l5_2 : Int32), gsX_J1_indexOfChar_4cfef_1_L2 NF p3 t1 n2 l5_2 = (gsX_J1_indexOfChar_4cfef_1 NF p1 p2 p3 v f) → ((0 : Int) ≤ l5_2.toInt ∧ l5_2.toInt ≤ 2147483647) → (2147483647 - l5_2.toInt).toNat < n2 → ∀ (H : Heap) (locs : List Loc) (ls : Array Slot), va_P (dC, dI) vwCl (XW cy x0 x v f) H → va_D A (XW cy x0 x v f) → va_S A s.heap H locs → lv_has ls 6 [(5, .int l5_2), (4, .int t1), (0, .ref (dI 101 0)), (1, .int p1), (2, .int p2), (3, .int p3)] → W p l e { frames := 1, cells := 0, slots := 0, locals := 60 } s m ([.ref (dI 101 0), .int p1, .int p2, .int p3] : List Value).toArray below meth c H locs 0 0 Q (F0 m 7 ls []) := by
    intro n2
    induction n2 with
    | zero => intro l5_2 hT2 hr5_2 hm; exact absurd hm (Nat.not_lt_zero _)
    | succ n2 ih2 =>
      intro l5_2 hT2 hr5_2 hm2 H locs ls hP hD hS hl
      refine lv_iload hx hb dJ1_indexOfChar_4cfef_7 (lv_at hl 0 rfl) ?_
      refine lv_iload_n hx hb dJ1_indexOfChar_4cfef_9 rfl (lv_at hl 5 rfl) ?_
      refine lv_icmp_ge (tgt := 31) hx hb dJ1_indexOfChar_4cfef_10 rfl (fun c3 => ?_) (fun c3 => ?_)
      · skip
        refine lv_iconst (v := (-1)) hx hb dJ1_indexOfChar_4cfef_31 rfl ?_
        exact ret (-1) () _ _ _ _ _ _ rfl (hT2.symm.trans (gsX_J1_indexOfChar_4cfef_1_q0 c3)) hP hD hS dJ1_indexOfChar_4cfef_32 (Nat.le_refl _) (Nat.le_refl _)
      · skip
        have zc3 : ¬ (p3.toInt ≤ l5_2.toInt) := zMn rfl rfl c3
        refine lv_aload_n hx hb dJ1_indexOfChar_4cfef_13 rfl (lv_at hl 2 rfl) ?_
        refine lv_iload hx hb dJ1_indexOfChar_4cfef_14 (lv_at hl 0 rfl) ?_
        refine va_tb hx hb (hT.1.1 0 (by decide)).2.2.2 hS (show vp_in l5_2 11 from (vpI (k := 11) rfl (show 0 ≤ l5_2.toInt from om_39 hr5_2) (show l5_2.toInt < 11 from om_40 hp3 zc3))) rfl dJ1_indexOfChar_4cfef_16 ?_
        refine lv_topi (fun t8 et8 => ?_)
        refine lv_iload hx hb dJ1_indexOfChar_4cfef_17 (lv_at hl 1 rfl) ?_
        refine lv_icmp_ne (tgt := 25) hx hb dJ1_indexOfChar_4cfef_19 rfl (fun c9 => ?_) (fun c9 => ?_)
        · skip
          obtain ⟨t12, et12⟩ : ∃ y : Int32, y = l5_2 + 1 := ⟨_, rfl⟩
          have zt12 : t12.toInt = l5_2.toInt + 1 := (congrArg Int32.toInt et12).trans (add_i rfl tc_1 (om_41 hr5_2) (om_42 hp3 zc3))
          refine lv_iinc (v := t12) (lv' := [(5, .int t12), (4, .int t1), (0, .ref (dI 101 0)), (1, .int p1), (2, .int p2), (3, .int p3)]) hx hb dJ1_indexOfChar_4cfef_25 hl (k := 0) rfl et12.symm (Nat.le_of_ble_eq_true rfl) rfl (fun ls hl => ?_)
          refine lv_goto (tgt := 7) hx hb dJ1_indexOfChar_4cfef_28 rfl ?_
          have rg13 := fb_rng t12
          exact ih2 t12 ((gsX_J1_indexOfChar_4cfef_1_q1 c3 et8 c9 et12).symm.trans hT2) ⟨show (0 : Int) ≤ t12.toInt from om_43 hr5_2 zt12, show t12.toInt ≤ (2147483647 : Int) from om_44 rg13⟩ (show (2147483647 - t12.toInt).toNat < n2 from om_33 hm2 zt12 rg13) _ _ _ hP hD hS (lv_sub hl [0, 1, 2, 3, 4, 5] rfl)
        · skip
          refine lv_iload hx hb dJ1_indexOfChar_4cfef_22 (lv_at hl 0 rfl) ?_
          exact ret l5_2 () _ _ _ _ _ _ rfl (hT2.symm.trans (gsX_J1_indexOfChar_4cfef_1_q2 c3 et8 c9)) hP hD hS dJ1_indexOfChar_4cfef_24 (Nat.le_refl _) (Nat.le_refl _)
  exact lp2 (4294967296 + NF) p2 (gsX_J1_indexOfChar_4cfef_1_q3 et1).symm ⟨show (0 : Int) ≤ p2.toInt from om_45 hp2, show p2.toInt ≤ (2147483647 : Int) from om_46 hp2⟩ (show (2147483647 - p2.toInt).toNat < 4294967296 + NF from om_47 hp2) _ _ _ hP hD hS (lv_sub hl [0, 1, 2, 3, 4, 5] rfl)
set_option maxHeartbeats 4000000 in
set_option maxRecDepth 100000 in
theorem sX_J1_indexOf_4cfef_1 (NF : Nat) (l : Launch) (dC : Nat → ClassId) (dI : Nat → Nat → Nat) (cy : Nat → ClassId) (x0 : Nat) (x : Nat → Nat) (p1 : Int32) (v : Nat → Int32) (f : Nat → Nat → Int32) (hIv : XI v)  : ctIS l (dC, dI) cy yJ1_indexOf_4cfef cJ1_indexOf_4cfef 4 .int 2 85 0 0 Unit [.ref (dI 101 0), .int p1, .int 0, .int 11] (XW cy x0 x v f) (fun r u => gsX_J1_indexOf_4cfef_1 NF p1 v f = r) (fun u => XW cy x0 x v f) := by
  refine ctIS_of (by decide) (Nat.le_of_ble_eq_true rfl) (fun p e s m below meth c A ls Q hx hb hml hts hown hE hF hT hP hD hA hl ret => ?_)
  have hown : s.vm.findClass RJ1 = some m.cls := hown
  have hS : va_S A s.heap s.heap [] := va_S.rf
  have hl : lv_has ls 4 [(0, .ref (dI 101 0)), (1, .int p1), (2, .int 0), (3, .int 11)] := hl
  refine lv_iload_n hx hb dJ1_indexOf_4cfef_0 rfl (lv_at hl 1 rfl) ?_
  refine csSi (n := 1) (rest := []) hx hb hml hown hts hE hP hD hS hA hF hT (sX_J1_canEncode_9a6ad_1 NF l dC dI cy x0 x p1 v f hIv ) k_636 k_637 k_116 k_638 he_yJ1_canEncode_9a6ad ⟨Nat.le_of_ble_eq_true rfl, Nat.le_of_ble_eq_true rfl⟩ (rfl) hl.1 rfl (Nat.le_of_ble_eq_true rfl) dJ1_indexOf_4cfef_1 (fun r1 u H locs hw hP hD hS => ?_)
  obtain ⟨hG2, hw⟩ := hw
  rcases hw with ⟨g3⟩ | ⟨g3⟩
  · skip
    subst g3
    refine lv_if_ne (tgt := 9) hx hb dJ1_indexOf_4cfef_4 rfl (fun _ => ?_) (fun c0 => absurd c0 (by decide))
    refine lv_iload_n hx hb dJ1_indexOf_4cfef_9 rfl (lv_at hl 2 rfl) ?_
    refine lv_iconst (v := 0) hx hb dJ1_indexOf_4cfef_10 rfl ?_
    refine va_mmax hx hb (by rw [hml]; exact hl.1.symm) hown (hts _ k_639) (hts _ k_640) (hts _ k_119) (hts _ k_641) (Nat.le_of_ble_eq_true rfl) (Nat.le_of_ble_eq_true rfl) (Nat.le_of_ble_eq_true rfl) (Nat.le_of_ble_eq_true rfl) dJ1_indexOf_4cfef_11 ?_
    refine lv_topi (fun t4 et4 => ?_)
    have zt4 : t4.toInt = max (0) (0) := by rw [et4]; exact mmax_i (by decide) (by decide)
    refine lv_istore_n (lv' := [(2, .int t4), (0, .ref (dI 101 0)), (1, .int p1), (3, .int 11)]) hx hb dJ1_indexOf_4cfef_14 rfl hl (Nat.le_of_ble_eq_true rfl) rfl (fun ls hl => ?_)
    refine lv_iload_n hx hb dJ1_indexOf_4cfef_15 rfl (lv_at hl 3 rfl) ?_
    refine lv_aload_n hx hb dJ1_indexOf_4cfef_16 rfl (lv_at hl 1 rfl) ?_
    refine va_tlen (v := 11) hx hb (hT.1.1 0 (by decide)).2.2.2 hS (by decide) dJ1_indexOf_4cfef_17 ?_
    refine va_mmin hx hb (by rw [hml]; exact hl.1.symm) hown (hts _ k_642) (hts _ k_643) (hts _ k_119) (hts _ k_644) (Nat.le_of_ble_eq_true rfl) (Nat.le_of_ble_eq_true rfl) (Nat.le_of_ble_eq_true rfl) (Nat.le_of_ble_eq_true rfl) dJ1_indexOf_4cfef_18 ?_
    refine lv_topi (fun t5 et5 => ?_)
    have zt5 : t5.toInt = min (11) (11) := by rw [et5]; exact mmin_i (by decide) (by decide)
    refine lv_istore_n (lv' := [(3, .int t5), (2, .int t4), (0, .ref (dI 101 0)), (1, .int p1)]) hx hb dJ1_indexOf_4cfef_21 rfl hl (Nat.le_of_ble_eq_true rfl) rfl (fun ls hl => ?_)
    refine lv_iload_n hx hb dJ1_indexOf_4cfef_22 rfl (lv_at hl 1 rfl) ?_
    refine lv_iload_n hx hb dJ1_indexOf_4cfef_23 rfl (lv_at hl 0 rfl) ?_
    refine lv_icmp_lt (tgt := 29) hx hb dJ1_indexOf_4cfef_24 rfl (fun c6 => ?_) (fun c6 => ?_)
    · skip
      have zc6 : t4.toInt < t5.toInt := zLp rfl rfl c6
      have rg7 := fb_rng t4
      have rg8 := fb_rng t5
      refine lv_aload_n hx hb dJ1_indexOf_4cfef_29 rfl (lv_at hl 2 rfl) ?_
      refine lv_iload_n hx hb dJ1_indexOf_4cfef_30 rfl (lv_at hl 3 rfl) ?_
      refine lv_iload_n hx hb dJ1_indexOf_4cfef_31 rfl (lv_at hl 1 rfl) ?_
      refine lv_iload_n hx hb dJ1_indexOf_4cfef_32 rfl (lv_at hl 0 rfl) ?_
      refine csSi (n := 4) (rest := []) hx hb hml hown hts hE hP hD hS hA hF hT (sX_J1_indexOfChar_4cfef_1 NF l dC dI cy x0 x p1 t4 t5 v f hIv ⟨show (0 : Int) ≤ t4.toInt by omega, show t4.toInt ≤ (11 : Int) by omega⟩ ⟨show (0 : Int) ≤ t5.toInt by omega, show t5.toInt ≤ (11 : Int) by omega⟩) k_645 k_646 k_116 k_647 he_yJ1_indexOfChar_4cfef ⟨Nat.le_of_ble_eq_true rfl, Nat.le_of_ble_eq_true rfl⟩ (rfl) hl.1 rfl (Nat.le_of_ble_eq_true rfl) dJ1_indexOf_4cfef_33 (fun r9 u H locs hw hP hD hS => ?_)
      have hG10 := hw
      exact ret r9 () _ _ _ _ _ _ rfl (gsX_J1_indexOf_4cfef_1_q0 hG2 et4 et5 c6 hG10.symm) hP hD hS dJ1_indexOf_4cfef_36 (Nat.le_refl _) (Nat.le_refl _)
    · skip
      have zc6 : ¬ (t4.toInt < t5.toInt) := zLn rfl rfl c6
      have rg11 := fb_rng t4
      have rg12 := fb_rng t5
      exact (show False by omega).elim
  · skip
    subst g3
    refine lv_if_ne (tgt := 9) hx hb dJ1_indexOf_4cfef_4 rfl (fun c0 => absurd (by decide) c0) (fun _ => ?_)
    refine lv_iconst (v := (-1)) hx hb dJ1_indexOf_4cfef_7 rfl ?_
    exact ret (-1) () _ _ _ _ _ _ rfl (gsX_J1_indexOf_4cfef_1_q1 hG2) hP hD hS dJ1_indexOf_4cfef_8 (Nat.le_refl _) (Nat.le_refl _)
set_option maxHeartbeats 4000000 in
set_option maxRecDepth 100000 in
theorem sX_J0_indexOf_7cf53_1 (NF : Nat) (l : Launch) (dC : Nat → ClassId) (dI : Nat → Nat → Nat) (cy : Nat → ClassId) (x0 : Nat) (x : Nat → Nat) (p1 : Int32) (v : Nat → Int32) (f : Nat → Nat → Int32) (hIv : XI v)  : ctIS l (dC, dI) cy yJ0_indexOf_7cf53 cJ0_indexOf_7cf53 3 .int 3 108 0 0 Unit [.ref (dI 100 0), .int p1, .int 0] (XW cy x0 x v f) (fun r u => gsX_J0_indexOf_7cf53_1 NF p1 v f = r) (fun u => XW cy x0 x v f) := by
  refine ctIS_of (by decide) (Nat.le_of_ble_eq_true rfl) (fun p e s m below meth c A ls Q hx hb hml hts hown hE hF hT hP hD hA hl ret => ?_)
  have hown : s.vm.findClass RJ0 = some m.cls := hown
  have hS : va_S A s.heap s.heap [] := va_S.rf
  have hl : lv_has ls 3 [(0, .ref (dI 100 0)), (1, .int p1), (2, .int 0)] := hl
  refine lv_aload_n hx hb dJ0_indexOf_7cf53_0 rfl (lv_at hl 0 rfl) ?_
  refine crVi (n := 0) (rest := []) hx hb hml hown hts hE hP hD hS hA hF hT (sX_J0_isLatin1_aae02_2 NF l dC dI cy x0 x  v f hIv ) k_585 k_586 k_587 k_115 k_588 hd_yJ0_isLatin1_aae02 ⟨Nat.le_of_ble_eq_true rfl, Nat.le_of_ble_eq_true rfl⟩ 0 (by decide) rfl rfl (rfl) hl.1 rfl (Nat.le_of_ble_eq_true rfl) dJ0_indexOf_7cf53_1 (fun r1 u H locs hw hP hD hS => ?_)
  obtain ⟨hG2, hw⟩ := hw
  refine tI (y := 1) hw ?_
  refine lv_if_eq (tgt := 23) hx hb dJ0_indexOf_7cf53_4 rfl (fun c0 => absurd c0 (by decide)) (fun _ => ?_)
  refine lv_aload_n hx hb dJ0_indexOf_7cf53_7 rfl (lv_at hl 0 rfl) ?_
  refine vk_getf (q := (dI 100 0)) (v := .ref (dI 101 0)) hx hb (hT.1.1 0 (by decide)).2.2.1 hS hown (hts _ k_2059) (fun _ h9 => h9) dJ0_indexOf_7cf53_8 ?_
  refine lv_iload_n hx hb dJ0_indexOf_7cf53_11 rfl (lv_at hl 1 rfl) ?_
  refine lv_iload_n hx hb dJ0_indexOf_7cf53_12 rfl (lv_at hl 2 rfl) ?_
  refine lv_aload_n hx hb dJ0_indexOf_7cf53_13 rfl (lv_at hl 0 rfl) ?_
  refine crVi (n := 0) (rest := [.int 0, .int p1, .ref (dI 101 0)]) hx hb hml hown hts hE hP hD hS hA hF hT (sX_J0_length_8abf5_2 NF l dC dI cy x0 x  v f hIv ) k_632 k_572 k_573 k_115 k_574 hd_yJ0_length_8abf5 ⟨Nat.le_of_ble_eq_true rfl, Nat.le_of_ble_eq_true rfl⟩ 0 (by decide) rfl rfl (rfl) hl.1 rfl (Nat.le_of_ble_eq_true rfl) dJ0_indexOf_7cf53_14 (fun r3 u H locs hw hP hD hS => ?_)
  obtain ⟨hG4, hw⟩ := hw
  refine tI (y := 11) hw ?_
  refine csSi (n := 4) (rest := []) hx hb hml hown hts hE hP hD hS hA hF hT (sX_J1_indexOf_4cfef_1 NF l dC dI cy x0 x p1 v f hIv ) k_633 k_634 k_116 k_635 he_yJ1_indexOf_4cfef ⟨Nat.le_of_ble_eq_true rfl, Nat.le_of_ble_eq_true rfl⟩ (rfl) hl.1 rfl (Nat.le_of_ble_eq_true rfl) dJ0_indexOf_7cf53_17 (fun r5 u H locs hw hP hD hS => ?_)
  have hG6 := hw
  refine lv_goto (tgt := 36) hx hb dJ0_indexOf_7cf53_20 rfl ?_
  exact ret r5 () _ _ _ _ _ _ rfl (gsX_J0_indexOf_7cf53_1_q0 hG6.symm) hP hD hS dJ0_indexOf_7cf53_36 (Nat.le_refl _) (Nat.le_refl _)
set_option maxHeartbeats 4000000 in
set_option maxRecDepth 100000 in
theorem sX_J0_indexOf_0f7a4_1 (NF : Nat) (l : Launch) (dC : Nat → ClassId) (dI : Nat → Nat → Nat) (cy : Nat → ClassId) (x0 : Nat) (x : Nat → Nat) (p1 : Int32) (v : Nat → Int32) (f : Nat → Nat → Int32) (hIv : XI v)  : ctIS l (dC, dI) cy yJ0_indexOf_0f7a4 cJ0_indexOf_0f7a4 2 .int 4 130 0 0 Unit [.ref (dI 100 0), .int p1] (XW cy x0 x v f) (fun r u => gsX_J0_indexOf_0f7a4_1 NF p1 v f = r) (fun u => XW cy x0 x v f) := by
  refine ctIS_of (by decide) (Nat.le_of_ble_eq_true rfl) (fun p e s m below meth c A ls Q hx hb hml hts hown hE hF hT hP hD hA hl ret => ?_)
  have hown : s.vm.findClass RJ0 = some m.cls := hown
  have hS : va_S A s.heap s.heap [] := va_S.rf
  have hl : lv_has ls 2 [(0, .ref (dI 100 0)), (1, .int p1)] := hl
  refine lv_aload_n hx hb dJ0_indexOf_0f7a4_0 rfl (lv_at hl 0 rfl) ?_
  refine lv_iload_n hx hb dJ0_indexOf_0f7a4_1 rfl (lv_at hl 1 rfl) ?_
  refine lv_iconst (v := 0) hx hb dJ0_indexOf_0f7a4_2 rfl ?_
  refine crVi (n := 2) (rest := []) hx hb hml hown hts hE hP hD hS hA hF hT (sX_J0_indexOf_7cf53_1 NF l dC dI cy x0 x p1 v f hIv ) k_628 k_629 k_630 k_115 k_631 hd_yJ0_indexOf_7cf53 ⟨Nat.le_of_ble_eq_true rfl, Nat.le_of_ble_eq_true rfl⟩ 0 (by decide) rfl rfl (rfl) hl.1 rfl (Nat.le_of_ble_eq_true rfl) dJ0_indexOf_0f7a4_3 (fun r1 u H locs hw hP hD hS => ?_)
  have hG2 := hw
  exact ret r1 () _ _ _ _ _ _ rfl (gsX_J0_indexOf_0f7a4_1_q0 hG2.symm) hP hD hS dJ0_indexOf_0f7a4_6 (Nat.le_refl _) (Nat.le_refl _)
set_option maxHeartbeats 4000000 in
set_option maxRecDepth 100000 in
theorem sX_X9_advance_1 (NF : Nat) (l : Launch) (dC : Nat → ClassId) (dI : Nat → Nat → Nat) (cy : Nat → ClassId) (x0 : Nat) (x : Nat → Nat)  (v : Nat → Int32) (f : Nat → Nat → Int32) (hIv : XI v)  : ctVS l (dC, dI) cy yX9_advance cX9_advance 1 6 171 0 0 ((Nat → Int32) × (Nat → Nat → Int32)) [.ref (x 0)] (XW cy x0 x v f) (fun u => gsX_X9_advance_1 NF v f = u ∧ KV [2, 3, 4, 5] u.1 v ∧ KF [] u.2 f ∧ XI u.1 ∧ u.1 0 = v 0 ∧ u.1 1 = v 1 ∧ u.1 7 = v 7 ∧ u.1 8 = v 8 ∧ u.1 9 = v 9 ∧ u.1 10 = v 10 ∧ u.1 31 = v 31 ∧ u.1 32 = v 32) (fun u => XW cy x0 x u.1 u.2) := by
  refine ctVS_of (by decide) (Nat.le_of_ble_eq_true rfl) (fun p e s m below meth c A ls Q hx hb hml hts hown hnm hE hF hT hP hD hA hl ret => ?_)
  have hM_v : KV [2, 3, 4, 5] v v := fun _ _ => rfl
  have hA_f : KF [] f f := fun _ _ => rfl
  have hown : s.vm.findClass RX9 = some m.cls := hown
  have hS : va_S A s.heap s.heap [] := va_S.rf
  have hl : lv_has ls 1 [(0, .ref (x 0))] := hl
  refine lv_aload_n hx hb dX9_advance_0 rfl (lv_at hl 0 rfl) ?_
  refine lv_aload_n hx hb dX9_advance_1 rfl (lv_at hl 0 rfl) ?_
  refine va_get (D := (dC, dI)) (ci := 9) (v := .int (v 4)) (C := RX9) (T := TX9) (N := 6) hx hb hts inB_9 hown hE.1 hP 1 rfl rfl 4 (Nat.le_of_ble_eq_true rfl) (hts _ k_143) (fun _ h9 => h9) rfl dX9_advance_2 ?_
  have b4_v : 0 ≤ (v 4).toInt ∧ (v 4).toInt ≤ 1600 := Xb_4 hIv
  refine va_put (D := (dC, dI)) (ci := 9) (v := .int (v 4)) (ty := tyX9 3) (C := RX9) (T := TX9) (N := 6) hx hb hts inB_9 tyX9 tyX9_ok nmX9 hown hE.1 hP hD hS 1 rfl rfl 3 (Nat.le_of_ble_eq_true rfl) (hts _ k_141) (fun _ h9 => h9) rfl (tyX9_ok 3 (Nat.le_of_ble_eq_true rfl)) rfl rfl (Nat.le_of_ble_eq_true rfl) dX9_advance_5 (fun H locs hP hD hS => ?_)
  have hP : va_P (dC, dI) vwCl (XW cy x0 x (upd v 3 (v 4)) f) H := hP
  have hD : va_D A (XW cy x0 x (upd v 3 (v 4)) f) := hD
  have lp1 : ∀ (n1 : Nat)  (v1 : Nat → Int32) (f1 : Nat → Nat → Int32), XI v1 → v1 0 = (v 0) → v1 1 = (v 1) → v1 7 = (v 7) → v1 8 = (v 8) → v1 9 = (v 9) → v1 10 = (v 10) → v1 31 = (v 31) → v1 32 = (v 32) → gsX_X9_advance_1_L1 NF v n1 v1 f1 = (gsX_X9_advance_1 NF v f) → KV [2, 3, 4, 5] v1 v → KF [] f1 f → (1600 - (v1 3).toInt).toNat < n1 → ∀ (H : Heap) (locs : List Loc) (ls : Array Slot), va_P (dC, dI) vwCl (XW cy x0 x v1 f1) H → va_D A (XW cy x0 x v1 f1) → va_S A s.heap H locs → lv_has ls 1 [(0, .ref (x 0))] → W p l e { frames := 6, cells := 0, slots := 0, locals := 171 } s m ([.ref (x 0)] : List Value).toArray below meth c H locs 0 0 Q (F0 m 8 ls []) := by
    intro n1
    induction n1 with
    | zero => intro  v1 f1 hIv1 hq0_v1 hq1_v1 hq7_v1 hq8_v1 hq9_v1 hq10_v1 hq31_v1 hq32_v1 hT1 hM_v1 hA_f1 hm; exact absurd hm (Nat.not_lt_zero _)
    | succ n1 ih1 =>
      intro  v1 f1 hIv1 hq0_v1 hq1_v1 hq7_v1 hq8_v1 hq9_v1 hq10_v1 hq31_v1 hq32_v1 hT1 hM_v1 hA_f1 hm1 H locs ls hP hD hS hl
      refine lv_aload_n hx hb dX9_advance_8 rfl (lv_at hl 0 rfl) ?_
      have jp60 : ∀ (H : Heap) (locs : List Loc) (ls : Array Slot), gsX_X9_advance_1_J2 NF v f1 v1 = (gsX_X9_advance_1 NF v f) → va_P (dC, dI) vwCl (XW cy x0 x v1 f1) H → va_D A (XW cy x0 x v1 f1) → va_S A s.heap H locs → lv_has ls 1 [(0, .ref (x 0))] → W p l e { frames := 6, cells := 0, slots := 0, locals := 171 } s m ([.ref (x 0)] : List Value).toArray below meth c H locs 0 0 Q (F0 m 60 ls []) := by
        intro H locs ls hT2 hP hD hS hl
        refine lv_aload_n hx hb dX9_advance_60 rfl (lv_at hl 0 rfl) ?_
        refine lv_aload_n hx hb dX9_advance_61 rfl (lv_at hl 0 rfl) ?_
        refine va_get (D := (dC, dI)) (ci := 9) (v := .int (v1 3)) (C := RX9) (T := TX9) (N := 6) hx hb hts inB_9 hown hE.1 hP 1 rfl rfl 3 (Nat.le_of_ble_eq_true rfl) (hts _ k_141) (fun _ h9 => h9) rfl dX9_advance_62 ?_
        have b3_v1 : 0 ≤ (v1 3).toInt ∧ (v1 3).toInt ≤ 1600 := Xb_3 hIv1
        refine va_put (D := (dC, dI)) (ci := 9) (v := .int (v1 3)) (ty := tyX9 4) (C := RX9) (T := TX9) (N := 6) hx hb hts inB_9 tyX9 tyX9_ok nmX9 hown hE.1 hP hD hS 1 rfl rfl 4 (Nat.le_of_ble_eq_true rfl) (hts _ k_143) (fun _ h9 => h9) rfl (tyX9_ok 4 (Nat.le_of_ble_eq_true rfl)) rfl rfl (Nat.le_of_ble_eq_true rfl) dX9_advance_65 (fun H locs hP hD hS => ?_)
        have hP : va_P (dC, dI) vwCl (XW cy x0 x (upd v1 4 (v1 3)) f1) H := hP
        have hD : va_D A (XW cy x0 x (upd v1 4 (v1 3)) f1) := hD
        refine lv_aload_n hx hb dX9_advance_68 rfl (lv_at hl 0 rfl) ?_
        refine va_get (D := (dC, dI)) (ci := 9) (v := .int (v1 3)) (C := RX9) (T := TX9) (N := 6) hx hb hts inB_9 hown hE.1 hP 1 rfl rfl 3 (Nat.le_of_ble_eq_true rfl) (hts _ k_141) (fun _ h9 => h9) rfl dX9_advance_69 ?_
        refine lv_aload_n hx hb dX9_advance_72 rfl (lv_at hl 0 rfl) ?_
        refine va_get (D := (dC, dI)) (ci := 9) (v := .int (v1 1)) (C := RX9) (T := TX9) (N := 6) hx hb hts inB_9 hown hE.1 hP 1 rfl rfl 1 (Nat.le_of_ble_eq_true rfl) (hts _ k_137) (fun _ h9 => h9) rfl dX9_advance_73 ?_
        refine tI (y := (v 1)) hq1_v1 ?_
        have b1_v : 0 ≤ (v 1).toInt ∧ (v 1).toInt ≤ 1600 := Xb_1 hIv
        refine lv_icmp_lt (tgt := 87) hx hb dX9_advance_76 rfl (fun c3 => ?_) (fun c3 => ?_)
        · skip
          have zc3 : (v1 3).toInt < (v 1).toInt := zLp rfl rfl c3
          have rg4 := fb_rng (v1 3)
          have rg5 := fb_rng (v 1)
          refine lv_aload_n hx hb dX9_advance_87 rfl (lv_at hl 0 rfl) ?_
          refine lv_aload_n hx hb dX9_advance_88 rfl (lv_at hl 0 rfl) ?_
          refine va_get (D := (dC, dI)) (ci := 9) (v := .int (v1 3)) (C := RX9) (T := TX9) (N := 6) hx hb hts inB_9 hown hE.1 hP 1 rfl rfl 3 (Nat.le_of_ble_eq_true rfl) (hts _ k_141) (fun _ h9 => h9) rfl dX9_advance_89 ?_
          refine cbVi (n := 1) (rest := []) hx hb hml hown hts hE hP hD hS hA (sX_X9_isLetter_1 NF l dC dI cy x0 x (v1 3) (upd v1 4 (v1 3)) f1 (Xu_4 (x := (v1 3)) hIv1 (show (0 : Int) ≤ (v1 3).toInt from om_2 b3_v1) (show (v1 3).toInt ≤ (1600 : Int) from om_48 b3_v1)) ) k_562 k_564 k_1 k_102 k_565 hd_yX9_isLetter ⟨Nat.le_of_ble_eq_true rfl, Nat.le_of_ble_eq_true rfl⟩ 1 9 rfl rfl (rfl) hl.1 rfl (Nat.le_of_ble_eq_true rfl) dX9_advance_92 (fun r6 u H locs hw hP hD hS => ?_)
          obtain ⟨hG7, hw⟩ := hw
          rcases hw with ⟨g8, g8_0, g8_1, g8_2⟩ | ⟨g8⟩
          · skip
            subst g8
            refine lv_if_eq (tgt := 162) hx hb dX9_advance_95 rfl (fun c0 => absurd c0 (by decide)) (fun _ => ?_)
            have lp9 : ∀ (n9 : Nat)  (v9 : Nat → Int32) (f9 : Nat → Nat → Int32), XI v9 → v9 0 = (v 0) → v9 1 = (v 1) → v9 7 = (v 7) → v9 8 = (v 8) → v9 9 = (v 9) → v9 10 = (v 10) → v9 31 = (v 31) → v9 32 = (v 32) → gsX_X9_advance_1_L9 NF v n9 v9 f9 = (gsX_X9_advance_1 NF v f) → KV [2, 3, 4, 5] v9 v → KF [] f9 f → (1600 - (v9 4).toInt).toNat < n9 → ∀ (H : Heap) (locs : List Loc) (ls : Array Slot), va_P (dC, dI) vwCl (XW cy x0 x v9 f9) H → va_D A (XW cy x0 x v9 f9) → va_S A s.heap H locs → lv_has ls 1 [(0, .ref (x 0))] → W p l e { frames := 6, cells := 0, slots := 0, locals := 171 } s m ([.ref (x 0)] : List Value).toArray below meth c H locs 0 0 Q (F0 m 98 ls []) := by
              intro n9
              induction n9 with
              | zero => intro  v9 f9 hIv9 hq0_v9 hq1_v9 hq7_v9 hq8_v9 hq9_v9 hq10_v9 hq31_v9 hq32_v9 hT9 hM_v9 hA_f9 hm; exact absurd hm (Nat.not_lt_zero _)
              | succ n9 ih9 =>
                intro  v9 f9 hIv9 hq0_v9 hq1_v9 hq7_v9 hq8_v9 hq9_v9 hq10_v9 hq31_v9 hq32_v9 hT9 hM_v9 hA_f9 hm9 H locs ls hP hD hS hl
                refine lv_aload_n hx hb dX9_advance_98 rfl (lv_at hl 0 rfl) ?_
                have jp133 : ∀ (H : Heap) (locs : List Loc) (ls : Array Slot), gsX_X9_advance_1_J10 NF f9 v9 = (gsX_X9_advance_1 NF v f) → va_P (dC, dI) vwCl (XW cy x0 x v9 f9) H → va_D A (XW cy x0 x v9 f9) → va_S A s.heap H locs → lv_has ls 1 [(0, .ref (x 0))] → W p l e { frames := 6, cells := 0, slots := 0, locals := 171 } s m ([.ref (x 0)] : List Value).toArray below meth c H locs 0 0 Q (F0 m 133 ls []) := by
                  intro H locs ls hT10 hP hD hS hl
                  refine lv_aload_n hx hb dX9_advance_133 rfl (lv_at hl 0 rfl) ?_
                  refine lv_aload_n hx hb dX9_advance_134 rfl (lv_at hl 0 rfl) ?_
                  refine va_get (D := (dC, dI)) (ci := 9) (v := .int (v9 4)) (C := RX9) (T := TX9) (N := 6) hx hb hts inB_9 hown hE.1 hP 1 rfl rfl 4 (Nat.le_of_ble_eq_true rfl) (hts _ k_143) (fun _ h9 => h9) rfl dX9_advance_135 ?_
                  refine lv_aload_n hx hb dX9_advance_138 rfl (lv_at hl 0 rfl) ?_
                  refine va_get (D := (dC, dI)) (ci := 9) (v := .int (v9 3)) (C := RX9) (T := TX9) (N := 6) hx hb hts inB_9 hown hE.1 hP 1 rfl rfl 3 (Nat.le_of_ble_eq_true rfl) (hts _ k_141) (fun _ h9 => h9) rfl dX9_advance_139 ?_
                  refine lv_isub hx hb dX9_advance_142 ?_
                  refine lv_topi (fun t11 et11 => ?_)
                  refine lv_bipush (v := 8) hx hb dX9_advance_143 rfl ?_
                  refine lv_icmp_le (tgt := 152) hx hb dX9_advance_145 rfl (fun c14 => ?_) (fun c14 => ?_)
                  · skip
                    refine lv_aload_n hx hb dX9_advance_152 rfl (lv_at hl 0 rfl) ?_
                    refine csVi (n := 0) (rest := [.ref (x 0)]) hx hb hml hown hts hE hP hD hS hA hF hT (sX_X9_wordKind_1 NF l dC dI cy x0 x  v9 f9 hIv9 ) k_566 k_568 k_2 k_102 k_569 hd_yX9_wordKind ⟨Nat.le_of_ble_eq_true rfl, Nat.le_of_ble_eq_true rfl⟩ 1 9 rfl rfl (rfl) hl.1 rfl (Nat.le_of_ble_eq_true rfl) dX9_advance_153 (fun r15 u H locs hw hP hD hS => ?_)
                    have hG16 := hw
                    refine va_put (D := (dC, dI)) (ci := 9) (v := .int r15) (ty := tyX9 2) (C := RX9) (T := TX9) (N := 6) hx hb hts inB_9 tyX9 tyX9_ok nmX9 hown hE.1 hP hD hS 1 rfl rfl 2 (Nat.le_of_ble_eq_true rfl) (hts _ k_140) (fun _ h9 => h9) rfl (tyX9_ok 2 (Nat.le_of_ble_eq_true rfl)) rfl rfl (Nat.le_of_ble_eq_true rfl) dX9_advance_156 (fun H locs hP hD hS => ?_)
                    have hP : va_P (dC, dI) vwCl (XW cy x0 x (upd v9 2 r15) f9) H := hP
                    have hD : va_D A (XW cy x0 x (upd v9 2 r15) f9) := hD
                    refine lv_goto (tgt := 322) hx hb dX9_advance_159 rfl ?_
                    exact ret ((upd v9 2 r15), f9) _ _ _ _ _ _ ⟨(hT10.symm.trans (gsX_X9_advance_1_q0 et11 c14 hG16.symm)), (KV.up (j := 2) (x := r15) hM_v9 rfl), hA_f9, (Xu_2 (x := r15) hIv9 (rlo _) (rhi _)), hq0_v9, hq1_v9, hq7_v9, hq8_v9, hq9_v9, hq10_v9, hq31_v9, hq32_v9⟩ hP hD hS dX9_advance_322 (Nat.le_refl _) (Nat.le_refl _)
                  · skip
                    refine lv_iconst (v := 1) hx hb dX9_advance_148 rfl ?_
                    refine lv_goto (tgt := 156) hx hb dX9_advance_149 rfl ?_
                    refine va_put (D := (dC, dI)) (ci := 9) (v := .int 1) (ty := tyX9 2) (C := RX9) (T := TX9) (N := 6) hx hb hts inB_9 tyX9 tyX9_ok nmX9 hown hE.1 hP hD hS 1 rfl rfl 2 (Nat.le_of_ble_eq_true rfl) (hts _ k_140) (fun _ h9 => h9) rfl (tyX9_ok 2 (Nat.le_of_ble_eq_true rfl)) rfl rfl (Nat.le_of_ble_eq_true rfl) dX9_advance_156 (fun H locs hP hD hS => ?_)
                    have hP : va_P (dC, dI) vwCl (XW cy x0 x (upd v9 2 1) f9) H := hP
                    have hD : va_D A (XW cy x0 x (upd v9 2 1) f9) := hD
                    refine lv_goto (tgt := 322) hx hb dX9_advance_159 rfl ?_
                    exact ret ((upd v9 2 1), f9) _ _ _ _ _ _ ⟨(hT10.symm.trans (gsX_X9_advance_1_q1 et11 c14)), (KV.up (j := 2) (x := 1) hM_v9 rfl), hA_f9, (Xu_2 (x := 1) hIv9 (rlo _) (rhi _)), hq0_v9, hq1_v9, hq7_v9, hq8_v9, hq9_v9, hq10_v9, hq31_v9, hq32_v9⟩ hP hD hS dX9_advance_322 (Nat.le_refl _) (Nat.le_refl _)
                revert jp133
                intro jp133
                refine va_get (D := (dC, dI)) (ci := 9) (v := .int (v9 4)) (C := RX9) (T := TX9) (N := 6) hx hb hts inB_9 hown hE.1 hP 1 rfl rfl 4 (Nat.le_of_ble_eq_true rfl) (hts _ k_143) (fun _ h9 => h9) rfl dX9_advance_99 ?_
                have b4_v9 : 0 ≤ (v9 4).toInt ∧ (v9 4).toInt ≤ 1600 := Xb_4 hIv9
                refine lv_aload_n hx hb dX9_advance_102 rfl (lv_at hl 0 rfl) ?_
                refine va_get (D := (dC, dI)) (ci := 9) (v := .int (v9 1)) (C := RX9) (T := TX9) (N := 6) hx hb hts inB_9 hown hE.1 hP 1 rfl rfl 1 (Nat.le_of_ble_eq_true rfl) (hts _ k_137) (fun _ h9 => h9) rfl dX9_advance_103 ?_
                refine tI (y := (v 1)) hq1_v9 ?_
                refine lv_icmp_ge (tgt := 133) hx hb dX9_advance_106 rfl (fun c17 => ?_) (fun c17 => ?_)
                · skip
                  exact jp133 _ _ _ ((gsX_X9_advance_1_q2 c17).symm.trans hT9) hP hD hS hl
                · skip
                  refine lv_aload_n hx hb dX9_advance_109 rfl (lv_at hl 0 rfl) ?_
                  refine lv_aload_n hx hb dX9_advance_110 rfl (lv_at hl 0 rfl) ?_
                  refine va_get (D := (dC, dI)) (ci := 9) (v := .int (v9 4)) (C := RX9) (T := TX9) (N := 6) hx hb hts inB_9 hown hE.1 hP 1 rfl rfl 4 (Nat.le_of_ble_eq_true rfl) (hts _ k_143) (fun _ h9 => h9) rfl dX9_advance_111 ?_
                  refine cbVi (n := 1) (rest := []) hx hb hml hown hts hE hP hD hS hA (sX_X9_isLetter_1 NF l dC dI cy x0 x (v9 4) v9 f9 hIv9 ) k_562 k_564 k_1 k_102 k_565 hd_yX9_isLetter ⟨Nat.le_of_ble_eq_true rfl, Nat.le_of_ble_eq_true rfl⟩ 1 9 rfl rfl (rfl) hl.1 rfl (Nat.le_of_ble_eq_true rfl) dX9_advance_114 (fun r20 u H locs hw hP hD hS => ?_)
                  obtain ⟨hG21, hw⟩ := hw
                  rcases hw with ⟨g22, g22_0, g22_1, g22_2⟩ | ⟨g22⟩
                  · skip
                    subst g22
                    refine lv_if_eq (tgt := 133) hx hb dX9_advance_117 rfl (fun c0 => absurd c0 (by decide)) (fun _ => ?_)
                    refine lv_aload_n hx hb dX9_advance_120 rfl (lv_at hl 0 rfl) ?_
                    refine lv_dup hx hb dX9_advance_121 rfl ?_
                    refine va_get (D := (dC, dI)) (ci := 9) (v := .int (v9 4)) (C := RX9) (T := TX9) (N := 6) hx hb hts inB_9 hown hE.1 hP 1 rfl rfl 4 (Nat.le_of_ble_eq_true rfl) (hts _ k_143) (fun _ h9 => h9) rfl dX9_advance_122 ?_
                    refine lv_iconst (v := 1) hx hb dX9_advance_125 rfl ?_
                    refine lv_iadd hx hb dX9_advance_126 ?_
                    refine lv_topi (fun t23 et23 => ?_)
                    have zt23 : t23.toInt = (v9 4).toInt + 1 := (congrArg Int32.toInt et23).trans (add_i rfl tc_1 (om_4 b4_v9) (om_51 g22_2))
                    refine va_put (D := (dC, dI)) (ci := 9) (v := .int t23) (ty := tyX9 4) (C := RX9) (T := TX9) (N := 6) hx hb hts inB_9 tyX9 tyX9_ok nmX9 hown hE.1 hP hD hS 1 rfl rfl 4 (Nat.le_of_ble_eq_true rfl) (hts _ k_143) (fun _ h9 => h9) rfl (tyX9_ok 4 (Nat.le_of_ble_eq_true rfl)) rfl rfl (Nat.le_of_ble_eq_true rfl) dX9_advance_127 (fun H locs hP hD hS => ?_)
                    have hP : va_P (dC, dI) vwCl (XW cy x0 x (upd v9 4 t23) f9) H := hP
                    have hD : va_D A (XW cy x0 x (upd v9 4 t23) f9) := hD
                    refine lv_goto (tgt := 98) hx hb dX9_advance_130 rfl ?_
                    exact ih9  (upd v9 4 t23) f9 (Xu_4 (x := t23) hIv9 (show (0 : Int) ≤ t23.toInt from om_8 b4_v9 zt23) (show t23.toInt ≤ (1600 : Int) from om_52 g22_2 zt23)) hq0_v9 hq1_v9 hq7_v9 hq8_v9 hq9_v9 hq10_v9 hq31_v9 hq32_v9 ((gsX_X9_advance_1_q3 c17 hG21 et23).symm.trans hT9) (KV.up (j := 4) (x := t23) hM_v9 rfl) hA_f9 (show (1600 - t23.toInt).toNat < n9 from om_53 hm9 g22_2 zt23) _ _ _ hP hD hS (lv_sub hl [0] rfl)
                  · skip
                    subst g22
                    refine lv_if_eq (tgt := 133) hx hb dX9_advance_117 rfl (fun _ => ?_) (fun c0 => absurd (by decide) c0)
                    exact jp133 _ _ _ ((gsX_X9_advance_1_q4 c17 hG21).symm.trans hT9) hP hD hS hl
            exact lp9 (4294967296 + NF)  (upd v1 4 (v1 3)) f1 (Xu_4 (x := (v1 3)) hIv1 (show (0 : Int) ≤ (v1 3).toInt from om_2 b3_v1) (show (v1 3).toInt ≤ (1600 : Int) from om_54 g8_2)) hq0_v1 hq1_v1 hq7_v1 hq8_v1 hq9_v1 hq10_v1 hq31_v1 hq32_v1 ((gsX_X9_advance_1_q5 c3 hG7).symm.trans hT2) (KV.up (j := 4) (x := (v1 3)) hM_v1 rfl) hA_f1 (show (1600 - (v1 3).toInt).toNat < 4294967296 + NF from om_55 b3_v1) _ _ _ hP hD hS (lv_sub hl [0] rfl)
          · skip
            subst g8
            refine lv_if_eq (tgt := 162) hx hb dX9_advance_95 rfl (fun _ => ?_) (fun c0 => absurd (by decide) c0)
            refine lv_aload_n hx hb dX9_advance_162 rfl (lv_at hl 0 rfl) ?_
            refine lv_aload_n hx hb dX9_advance_163 rfl (lv_at hl 0 rfl) ?_
            refine va_get (D := (dC, dI)) (ci := 9) (v := .int (v1 3)) (C := RX9) (T := TX9) (N := 6) hx hb hts inB_9 hown hE.1 hP 1 rfl rfl 3 (Nat.le_of_ble_eq_true rfl) (hts _ k_141) (fun _ h9 => h9) rfl dX9_advance_164 ?_
            refine cbVi (n := 1) (rest := []) hx hb hml hown hts hE hP hD hS hA (sX_X9_isDigit_1 NF l dC dI cy x0 x (v1 3) (upd v1 4 (v1 3)) f1 (Xu_4 (x := (v1 3)) hIv1 (show (0 : Int) ≤ (v1 3).toInt from om_2 b3_v1) (show (v1 3).toInt ≤ (1600 : Int) from om_48 b3_v1)) ) k_619 k_621 k_3 k_102 k_622 hd_yX9_isDigit ⟨Nat.le_of_ble_eq_true rfl, Nat.le_of_ble_eq_true rfl⟩ 1 9 rfl rfl (rfl) hl.1 rfl (Nat.le_of_ble_eq_true rfl) dX9_advance_167 (fun r24 u H locs hw hP hD hS => ?_)
            obtain ⟨hG25, hw⟩ := hw
            rcases hw with ⟨g26, g26_0, g26_1, g26_2⟩ | ⟨g26⟩
            · skip
              subst g26
              refine lv_if_eq (tgt := 273) hx hb dX9_advance_170 rfl (fun c0 => absurd c0 (by decide)) (fun _ => ?_)
              refine lv_aload_n hx hb dX9_advance_173 rfl (lv_at hl 0 rfl) ?_
              refine lv_iconst (v := 0) hx hb dX9_advance_174 rfl ?_
              refine va_put (D := (dC, dI)) (ci := 9) (v := .int 0) (ty := tyX9 5) (C := RX9) (T := TX9) (N := 6) hx hb hts inB_9 tyX9 tyX9_ok nmX9 hown hE.1 hP hD hS 1 rfl rfl 5 (Nat.le_of_ble_eq_true rfl) (hts _ k_144) (fun _ h9 => h9) rfl (tyX9_ok 5 (Nat.le_of_ble_eq_true rfl)) rfl rfl (Nat.le_of_ble_eq_true rfl) dX9_advance_175 (fun H locs hP hD hS => ?_)
              have hP : va_P (dC, dI) vwCl (XW cy x0 x (upd (upd v1 4 (v1 3)) 5 0) f1) H := hP
              have hD : va_D A (XW cy x0 x (upd (upd v1 4 (v1 3)) 5 0) f1) := hD
              have lp27 : ∀ (n27 : Nat)  (v27 : Nat → Int32) (f27 : Nat → Nat → Int32), XI v27 → v27 0 = (v 0) → v27 1 = (v 1) → v27 7 = (v 7) → v27 8 = (v 8) → v27 9 = (v 9) → v27 10 = (v 10) → v27 31 = (v 31) → v27 32 = (v 32) → gsX_X9_advance_1_L27 NF v n27 v27 f27 = (gsX_X9_advance_1 NF v f) → KV [2, 3, 4, 5] v27 v → KF [] f27 f → (1600 - (v27 4).toInt).toNat < n27 → ∀ (H : Heap) (locs : List Loc) (ls : Array Slot), va_P (dC, dI) vwCl (XW cy x0 x v27 f27) H → va_D A (XW cy x0 x v27 f27) → va_S A s.heap H locs → lv_has ls 1 [(0, .ref (x 0))] → W p l e { frames := 6, cells := 0, slots := 0, locals := 171 } s m ([.ref (x 0)] : List Value).toArray below meth c H locs 0 0 Q (F0 m 178 ls []) := by
                intro n27
                induction n27 with
                | zero => intro  v27 f27 hIv27 hq0_v27 hq1_v27 hq7_v27 hq8_v27 hq9_v27 hq10_v27 hq31_v27 hq32_v27 hT27 hM_v27 hA_f27 hm; exact absurd hm (Nat.not_lt_zero _)
                | succ n27 ih27 =>
                  intro  v27 f27 hIv27 hq0_v27 hq1_v27 hq7_v27 hq8_v27 hq9_v27 hq10_v27 hq31_v27 hq32_v27 hT27 hM_v27 hA_f27 hm27 H locs ls hP hD hS hl
                  refine lv_aload_n hx hb dX9_advance_178 rfl (lv_at hl 0 rfl) ?_
                  have jp237 : ∀ (H : Heap) (locs : List Loc) (ls : Array Slot), gsX_X9_advance_1_J28 NF f27 v27 = (gsX_X9_advance_1 NF v f) → va_P (dC, dI) vwCl (XW cy x0 x v27 f27) H → va_D A (XW cy x0 x v27 f27) → va_S A s.heap H locs → lv_has ls 1 [(0, .ref (x 0))] → W p l e { frames := 6, cells := 0, slots := 0, locals := 171 } s m ([.ref (x 0)] : List Value).toArray below meth c H locs 0 0 Q (F0 m 237 ls []) := by
                    intro H locs ls hT28 hP hD hS hl
                    refine lv_aload_n hx hb dX9_advance_237 rfl (lv_at hl 0 rfl) ?_
                    refine lv_aload_n hx hb dX9_advance_238 rfl (lv_at hl 0 rfl) ?_
                    refine va_get (D := (dC, dI)) (ci := 9) (v := .int (v27 4)) (C := RX9) (T := TX9) (N := 6) hx hb hts inB_9 hown hE.1 hP 1 rfl rfl 4 (Nat.le_of_ble_eq_true rfl) (hts _ k_143) (fun _ h9 => h9) rfl dX9_advance_239 ?_
                    refine lv_aload_n hx hb dX9_advance_242 rfl (lv_at hl 0 rfl) ?_
                    refine va_get (D := (dC, dI)) (ci := 9) (v := .int (v27 3)) (C := RX9) (T := TX9) (N := 6) hx hb hts inB_9 hown hE.1 hP 1 rfl rfl 3 (Nat.le_of_ble_eq_true rfl) (hts _ k_141) (fun _ h9 => h9) rfl dX9_advance_243 ?_
                    refine lv_isub hx hb dX9_advance_246 ?_
                    refine lv_topi (fun t29 et29 => ?_)
                    refine lv_iconst (v := 4) hx hb dX9_advance_247 rfl ?_
                    refine lv_icmp_gt (tgt := 262) hx hb dX9_advance_248 rfl (fun c32 => ?_) (fun c32 => ?_)
                    · skip
                      refine lv_iconst (v := 1) hx hb dX9_advance_262 rfl ?_
                      refine lv_goto (tgt := 267) hx hb dX9_advance_263 rfl ?_
                      refine va_put (D := (dC, dI)) (ci := 9) (v := .int 1) (ty := tyX9 2) (C := RX9) (T := TX9) (N := 6) hx hb hts inB_9 tyX9 tyX9_ok nmX9 hown hE.1 hP hD hS 1 rfl rfl 2 (Nat.le_of_ble_eq_true rfl) (hts _ k_140) (fun _ h9 => h9) rfl (tyX9_ok 2 (Nat.le_of_ble_eq_true rfl)) rfl rfl (Nat.le_of_ble_eq_true rfl) dX9_advance_267 (fun H locs hP hD hS => ?_)
                      have hP : va_P (dC, dI) vwCl (XW cy x0 x (upd v27 2 1) f27) H := hP
                      have hD : va_D A (XW cy x0 x (upd v27 2 1) f27) := hD
                      refine lv_goto (tgt := 322) hx hb dX9_advance_270 rfl ?_
                      exact ret ((upd v27 2 1), f27) _ _ _ _ _ _ ⟨(hT28.symm.trans (gsX_X9_advance_1_q6 et29 c32)), (KV.up (j := 2) (x := 1) hM_v27 rfl), hA_f27, (Xu_2 (x := 1) hIv27 (rlo _) (rhi _)), hq0_v27, hq1_v27, hq7_v27, hq8_v27, hq9_v27, hq10_v27, hq31_v27, hq32_v27⟩ hP hD hS dX9_advance_322 (Nat.le_refl _) (Nat.le_refl _)
                    · skip
                      refine lv_aload_n hx hb dX9_advance_251 rfl (lv_at hl 0 rfl) ?_
                      refine lv_aload_n hx hb dX9_advance_252 rfl (lv_at hl 0 rfl) ?_
                      refine va_get (D := (dC, dI)) (ci := 9) (v := .int (v27 4)) (C := RX9) (T := TX9) (N := 6) hx hb hts inB_9 hown hE.1 hP 1 rfl rfl 4 (Nat.le_of_ble_eq_true rfl) (hts _ k_143) (fun _ h9 => h9) rfl dX9_advance_253 ?_
                      refine cbVi (n := 1) (rest := [.ref (x 0)]) hx hb hml hown hts hE hP hD hS hA (sX_X9_isLetter_1 NF l dC dI cy x0 x (v27 4) v27 f27 hIv27 ) k_562 k_564 k_1 k_102 k_565 hd_yX9_isLetter ⟨Nat.le_of_ble_eq_true rfl, Nat.le_of_ble_eq_true rfl⟩ 1 9 rfl rfl (rfl) hl.1 rfl (Nat.le_of_ble_eq_true rfl) dX9_advance_256 (fun r33 u H locs hw hP hD hS => ?_)
                      obtain ⟨hG34, hw⟩ := hw
                      rcases hw with ⟨g35, g35_0, g35_1, g35_2⟩ | ⟨g35⟩
                      · skip
                        subst g35
                        refine lv_if_eq (tgt := 266) hx hb dX9_advance_259 rfl (fun c0 => absurd c0 (by decide)) (fun _ => ?_)
                        refine lv_iconst (v := 1) hx hb dX9_advance_262 rfl ?_
                        refine lv_goto (tgt := 267) hx hb dX9_advance_263 rfl ?_
                        refine va_put (D := (dC, dI)) (ci := 9) (v := .int 1) (ty := tyX9 2) (C := RX9) (T := TX9) (N := 6) hx hb hts inB_9 tyX9 tyX9_ok nmX9 hown hE.1 hP hD hS 1 rfl rfl 2 (Nat.le_of_ble_eq_true rfl) (hts _ k_140) (fun _ h9 => h9) rfl (tyX9_ok 2 (Nat.le_of_ble_eq_true rfl)) rfl rfl (Nat.le_of_ble_eq_true rfl) dX9_advance_267 (fun H locs hP hD hS => ?_)
                        have hP : va_P (dC, dI) vwCl (XW cy x0 x (upd v27 2 1) f27) H := hP
                        have hD : va_D A (XW cy x0 x (upd v27 2 1) f27) := hD
                        refine lv_goto (tgt := 322) hx hb dX9_advance_270 rfl ?_
                        exact ret ((upd v27 2 1), f27) _ _ _ _ _ _ ⟨(hT28.symm.trans (gsX_X9_advance_1_q7 et29 c32 hG34)), (KV.up (j := 2) (x := 1) hM_v27 rfl), hA_f27, (Xu_2 (x := 1) hIv27 (rlo _) (rhi _)), hq0_v27, hq1_v27, hq7_v27, hq8_v27, hq9_v27, hq10_v27, hq31_v27, hq32_v27⟩ hP hD hS dX9_advance_322 (Nat.le_refl _) (Nat.le_refl _)
                      · skip
                        subst g35
                        refine lv_if_eq (tgt := 266) hx hb dX9_advance_259 rfl (fun _ => ?_) (fun c0 => absurd (by decide) c0)
                        refine lv_iconst (v := 2) hx hb dX9_advance_266 rfl ?_
                        refine va_put (D := (dC, dI)) (ci := 9) (v := .int 2) (ty := tyX9 2) (C := RX9) (T := TX9) (N := 6) hx hb hts inB_9 tyX9 tyX9_ok nmX9 hown hE.1 hP hD hS 1 rfl rfl 2 (Nat.le_of_ble_eq_true rfl) (hts _ k_140) (fun _ h9 => h9) rfl (tyX9_ok 2 (Nat.le_of_ble_eq_true rfl)) rfl rfl (Nat.le_of_ble_eq_true rfl) dX9_advance_267 (fun H locs hP hD hS => ?_)
                        have hP : va_P (dC, dI) vwCl (XW cy x0 x (upd v27 2 2) f27) H := hP
                        have hD : va_D A (XW cy x0 x (upd v27 2 2) f27) := hD
                        refine lv_goto (tgt := 322) hx hb dX9_advance_270 rfl ?_
                        exact ret ((upd v27 2 2), f27) _ _ _ _ _ _ ⟨(hT28.symm.trans (gsX_X9_advance_1_q8 et29 c32 hG34)), (KV.up (j := 2) (x := 2) hM_v27 rfl), hA_f27, (Xu_2 (x := 2) hIv27 (rlo _) (rhi _)), hq0_v27, hq1_v27, hq7_v27, hq8_v27, hq9_v27, hq10_v27, hq31_v27, hq32_v27⟩ hP hD hS dX9_advance_322 (Nat.le_refl _) (Nat.le_refl _)
                  revert jp237
                  intro jp237
                  refine va_get (D := (dC, dI)) (ci := 9) (v := .int (v27 4)) (C := RX9) (T := TX9) (N := 6) hx hb hts inB_9 hown hE.1 hP 1 rfl rfl 4 (Nat.le_of_ble_eq_true rfl) (hts _ k_143) (fun _ h9 => h9) rfl dX9_advance_179 ?_
                  have b4_v27 : 0 ≤ (v27 4).toInt ∧ (v27 4).toInt ≤ 1600 := Xb_4 hIv27
                  refine lv_aload_n hx hb dX9_advance_182 rfl (lv_at hl 0 rfl) ?_
                  refine va_get (D := (dC, dI)) (ci := 9) (v := .int (v27 1)) (C := RX9) (T := TX9) (N := 6) hx hb hts inB_9 hown hE.1 hP 1 rfl rfl 1 (Nat.le_of_ble_eq_true rfl) (hts _ k_137) (fun _ h9 => h9) rfl dX9_advance_183 ?_
                  refine tI (y := (v 1)) hq1_v27 ?_
                  refine lv_icmp_ge (tgt := 237) hx hb dX9_advance_186 rfl (fun c36 => ?_) (fun c36 => ?_)
                  · skip
                    exact jp237 _ _ _ ((gsX_X9_advance_1_q9 c36).symm.trans hT27) hP hD hS hl
                  · skip
                    refine lv_aload_n hx hb dX9_advance_189 rfl (lv_at hl 0 rfl) ?_
                    refine lv_aload_n hx hb dX9_advance_190 rfl (lv_at hl 0 rfl) ?_
                    refine va_get (D := (dC, dI)) (ci := 9) (v := .int (v27 4)) (C := RX9) (T := TX9) (N := 6) hx hb hts inB_9 hown hE.1 hP 1 rfl rfl 4 (Nat.le_of_ble_eq_true rfl) (hts _ k_143) (fun _ h9 => h9) rfl dX9_advance_191 ?_
                    refine cbVi (n := 1) (rest := []) hx hb hml hown hts hE hP hD hS hA (sX_X9_isDigit_1 NF l dC dI cy x0 x (v27 4) v27 f27 hIv27 ) k_619 k_621 k_3 k_102 k_622 hd_yX9_isDigit ⟨Nat.le_of_ble_eq_true rfl, Nat.le_of_ble_eq_true rfl⟩ 1 9 rfl rfl (rfl) hl.1 rfl (Nat.le_of_ble_eq_true rfl) dX9_advance_194 (fun r39 u H locs hw hP hD hS => ?_)
                    obtain ⟨hG40, hw⟩ := hw
                    rcases hw with ⟨g41, g41_0, g41_1, g41_2⟩ | ⟨g41⟩
                    · skip
                      subst g41
                      refine lv_if_eq (tgt := 237) hx hb dX9_advance_197 rfl (fun c0 => absurd c0 (by decide)) (fun _ => ?_)
                      refine lv_aload_n hx hb dX9_advance_200 rfl (lv_at hl 0 rfl) ?_
                      refine lv_aload_n hx hb dX9_advance_201 rfl (lv_at hl 0 rfl) ?_
                      refine va_get (D := (dC, dI)) (ci := 9) (v := .int (v27 5)) (C := RX9) (T := TX9) (N := 6) hx hb hts inB_9 hown hE.1 hP 1 rfl rfl 5 (Nat.le_of_ble_eq_true rfl) (hts _ k_144) (fun _ h9 => h9) rfl dX9_advance_202 ?_
                      refine lv_bipush (v := 10) hx hb dX9_advance_205 rfl ?_
                      refine lv_imul hx hb dX9_advance_207 ?_
                      refine lv_topi (fun t42 et42 => ?_)
                      refine lv_aload_n hx hb dX9_advance_208 rfl (lv_at hl 0 rfl) ?_
                      refine va_get (D := (dC, dI)) (ci := 9) (v := .ref (x 1)) (C := RX9) (T := TX9) (N := 6) hx hb hts inB_9 hown hE.1 hP 1 rfl rfl 0 (Nat.le_of_ble_eq_true rfl) (hts _ k_136) (fun _ h9 => h9) rfl dX9_advance_209 ?_
                      refine lv_aload_n hx hb dX9_advance_212 rfl (lv_at hl 0 rfl) ?_
                      refine va_get (D := (dC, dI)) (ci := 9) (v := .int (v27 4)) (C := RX9) (T := TX9) (N := 6) hx hb hts inB_9 hown hE.1 hP 1 rfl rfl 4 (Nat.le_of_ble_eq_true rfl) (hts _ k_143) (fun _ h9 => h9) rfl dX9_advance_213 ?_
                      refine ldB hx hb hE hP 2 rfl (vpI (k := 1600) rfl (show 0 ≤ (v27 4).toInt from om_2 b4_v27) (show (v27 4).toInt < 1600 from om_56 g41_2)) rfl rfl dX9_advance_216 ?_
                      refine lv_topi (fun t43 et43 => ?_)
                      refine lv_iadd hx hb dX9_advance_217 ?_
                      refine lv_topi (fun t44 et44 => ?_)
                      refine lv_bipush (v := 48) hx hb dX9_advance_218 rfl ?_
                      refine lv_isub hx hb dX9_advance_220 ?_
                      refine lv_topi (fun t45 et45 => ?_)
                      refine va_put (D := (dC, dI)) (ci := 9) (v := .int t45) (ty := tyX9 5) (C := RX9) (T := TX9) (N := 6) hx hb hts inB_9 tyX9 tyX9_ok nmX9 hown hE.1 hP hD hS 1 rfl rfl 5 (Nat.le_of_ble_eq_true rfl) (hts _ k_144) (fun _ h9 => h9) rfl (tyX9_ok 5 (Nat.le_of_ble_eq_true rfl)) rfl rfl (Nat.le_of_ble_eq_true rfl) dX9_advance_221 (fun H locs hP hD hS => ?_)
                      have hP : va_P (dC, dI) vwCl (XW cy x0 x (upd v27 5 t45) f27) H := hP
                      have hD : va_D A (XW cy x0 x (upd v27 5 t45) f27) := hD
                      refine lv_aload_n hx hb dX9_advance_224 rfl (lv_at hl 0 rfl) ?_
                      refine lv_dup hx hb dX9_advance_225 rfl ?_
                      refine va_get (D := (dC, dI)) (ci := 9) (v := .int (v27 4)) (C := RX9) (T := TX9) (N := 6) hx hb hts inB_9 hown hE.1 hP 1 rfl rfl 4 (Nat.le_of_ble_eq_true rfl) (hts _ k_143) (fun _ h9 => h9) rfl dX9_advance_226 ?_
                      refine lv_iconst (v := 1) hx hb dX9_advance_229 rfl ?_
                      refine lv_iadd hx hb dX9_advance_230 ?_
                      refine lv_topi (fun t46 et46 => ?_)
                      have zt46 : t46.toInt = (v27 4).toInt + 1 := (congrArg Int32.toInt et46).trans (add_i rfl tc_1 (om_4 b4_v27) (om_51 g41_2))
                      refine va_put (D := (dC, dI)) (ci := 9) (v := .int t46) (ty := tyX9 4) (C := RX9) (T := TX9) (N := 6) hx hb hts inB_9 tyX9 tyX9_ok nmX9 hown hE.1 hP hD hS 1 rfl rfl 4 (Nat.le_of_ble_eq_true rfl) (hts _ k_143) (fun _ h9 => h9) rfl (tyX9_ok 4 (Nat.le_of_ble_eq_true rfl)) rfl rfl (Nat.le_of_ble_eq_true rfl) dX9_advance_231 (fun H locs hP hD hS => ?_)
                      have hP : va_P (dC, dI) vwCl (XW cy x0 x (upd (upd v27 5 t45) 4 t46) f27) H := hP
                      have hD : va_D A (XW cy x0 x (upd (upd v27 5 t45) 4 t46) f27) := hD
                      refine lv_goto (tgt := 178) hx hb dX9_advance_234 rfl ?_
                      exact ih27  (upd (upd v27 5 t45) 4 t46) f27 (Xu_4 (x := t46) (Xu_5 (x := t45) hIv27 (rlo _) (rhi _)) (show (0 : Int) ≤ t46.toInt from om_8 b4_v27 zt46) (show t46.toInt ≤ (1600 : Int) from om_52 g41_2 zt46)) hq0_v27 hq1_v27 hq7_v27 hq8_v27 hq9_v27 hq10_v27 hq31_v27 hq32_v27 ((gsX_X9_advance_1_q10 c36 hG40 et42 et43 et44 et45 et46).symm.trans hT27) (KV.up (j := 4) (x := t46) (KV.up (j := 5) (x := t45) hM_v27 rfl) rfl) hA_f27 (show (1600 - t46.toInt).toNat < n27 from om_53 hm27 g41_2 zt46) _ _ _ hP hD hS (lv_sub hl [0] rfl)
                    · skip
                      subst g41
                      refine lv_if_eq (tgt := 237) hx hb dX9_advance_197 rfl (fun _ => ?_) (fun c0 => absurd (by decide) c0)
                      exact jp237 _ _ _ ((gsX_X9_advance_1_q11 c36 hG40).symm.trans hT27) hP hD hS hl
              exact lp27 (4294967296 + NF)  (upd (upd v1 4 (v1 3)) 5 0) f1 (Xu_5 (x := 0) (Xu_4 (x := (v1 3)) hIv1 (show (0 : Int) ≤ (v1 3).toInt from om_2 b3_v1) (show (v1 3).toInt ≤ (1600 : Int) from om_54 g26_2)) (rlo _) (rhi _)) hq0_v1 hq1_v1 hq7_v1 hq8_v1 hq9_v1 hq10_v1 hq31_v1 hq32_v1 ((gsX_X9_advance_1_q12 c3 hG7 hG25).symm.trans hT2) (KV.up (j := 5) (x := 0) (KV.up (j := 4) (x := (v1 3)) hM_v1 rfl) rfl) hA_f1 (by have qc0 : (0 : Int32).toInt = 0 := (by decide); have qr0 := fb_rng (v1 3); show (1600 - (v1 3).toInt).toNat < 4294967296 + NF; omega) _ _ _ hP hD hS (lv_sub hl [0] rfl)
            · skip
              subst g26
              refine lv_if_eq (tgt := 273) hx hb dX9_advance_170 rfl (fun _ => ?_) (fun c0 => absurd (by decide) c0)
              refine lv_aload_n hx hb dX9_advance_273 rfl (lv_at hl 0 rfl) ?_
              refine lv_dup hx hb dX9_advance_274 rfl ?_
              refine va_get (D := (dC, dI)) (ci := 9) (v := .int (v1 3)) (C := RX9) (T := TX9) (N := 6) hx hb hts inB_9 hown hE.1 hP 1 rfl rfl 4 (Nat.le_of_ble_eq_true rfl) (hts _ k_143) (fun _ h9 => h9) rfl dX9_advance_275 ?_
              refine lv_iconst (v := 1) hx hb dX9_advance_278 rfl ?_
              refine lv_iadd hx hb dX9_advance_279 ?_
              refine lv_topi (fun t47 et47 => ?_)
              have zt47 : t47.toInt = (v1 3).toInt + 1 := (congrArg Int32.toInt et47).trans (add_i rfl tc_1 (om_4 b3_v1) (om_57 b3_v1))
              refine va_put (D := (dC, dI)) (ci := 9) (v := .int t47) (ty := tyX9 4) (C := RX9) (T := TX9) (N := 6) hx hb hts inB_9 tyX9 tyX9_ok nmX9 hown hE.1 hP hD hS 1 rfl rfl 4 (Nat.le_of_ble_eq_true rfl) (hts _ k_143) (fun _ h9 => h9) rfl (tyX9_ok 4 (Nat.le_of_ble_eq_true rfl)) rfl rfl (Nat.le_of_ble_eq_true rfl) dX9_advance_280 (fun H locs hP hD hS => ?_)
              have hP : va_P (dC, dI) vwCl (XW cy x0 x (upd (upd v1 4 (v1 3)) 4 t47) f1) H := hP
              have hD : va_D A (XW cy x0 x (upd (upd v1 4 (v1 3)) 4 t47) f1) := hD
              refine lv_aload_n hx hb dX9_advance_283 rfl (lv_at hl 0 rfl) ?_
              refine va_ldcS hx hb hown hF.1 dX9_advance_284 ?_
              refine lv_aload_n hx hb dX9_advance_286 rfl (lv_at hl 0 rfl) ?_
              refine va_get (D := (dC, dI)) (ci := 9) (v := .ref (x 1)) (C := RX9) (T := TX9) (N := 6) hx hb hts inB_9 hown hE.1 hP 1 rfl rfl 0 (Nat.le_of_ble_eq_true rfl) (hts _ k_136) (fun _ h9 => h9) rfl dX9_advance_287 ?_
              refine lv_aload_n hx hb dX9_advance_290 rfl (lv_at hl 0 rfl) ?_
              refine va_get (D := (dC, dI)) (ci := 9) (v := .int (v1 3)) (C := RX9) (T := TX9) (N := 6) hx hb hts inB_9 hown hE.1 hP 1 rfl rfl 3 (Nat.le_of_ble_eq_true rfl) (hts _ k_141) (fun _ h9 => h9) rfl dX9_advance_291 ?_
              refine ldB hx hb hE hP 2 rfl (vpI (k := 1600) rfl (show 0 ≤ (v1 3).toInt from om_2 b3_v1) (show (v1 3).toInt < 1600 from om_58 b1_v zc3)) rfl rfl dX9_advance_294 ?_
              refine lv_topi (fun t48 et48 => ?_)
              refine lv_sipush (v := 255) hx hb dX9_advance_295 rfl ?_
              refine lv_iand hx hb dX9_advance_298 ?_
              refine lv_topi (fun t49 et49 => ?_)
              refine lv_i2c hx hb dX9_advance_299 rfl ?_
              refine lv_topi (fun t50 et50 => ?_)
              refine crVi (n := 1) (rest := [.ref (x 0)]) hx hb hml hown hts hE hP hD hS hA hF hT (sX_J0_indexOf_0f7a4_1 NF l dC dI cy x0 x t50 (upd (upd v1 4 (v1 3)) 4 t47) f1 (Xu_4 (x := t47) (Xu_4 (x := (v1 3)) hIv1 (show (0 : Int) ≤ (v1 3).toInt from om_2 b3_v1) (show (v1 3).toInt ≤ (1600 : Int) from om_48 b3_v1)) (show (0 : Int) ≤ t47.toInt from om_8 b3_v1 zt47) (show t47.toInt ≤ (1600 : Int) from om_59 b1_v zc3 zt47)) ) k_624 k_625 k_626 k_115 k_627 hd_yJ0_indexOf_0f7a4 ⟨Nat.le_of_ble_eq_true rfl, Nat.le_of_ble_eq_true rfl⟩ 0 (by decide) rfl rfl (rfl) hl.1 rfl (Nat.le_of_ble_eq_true rfl) dX9_advance_300 (fun r51 u H locs hw hP hD hS => ?_)
              have hG52 := hw
              refine lv_if_lt (tgt := 318) hx hb dX9_advance_303 rfl (fun c53 => ?_) (fun c53 => ?_)
              · skip
                refine lv_iconst (v := 1) hx hb dX9_advance_318 rfl ?_
                refine va_put (D := (dC, dI)) (ci := 9) (v := .int 1) (ty := tyX9 2) (C := RX9) (T := TX9) (N := 6) hx hb hts inB_9 tyX9 tyX9_ok nmX9 hown hE.1 hP hD hS 1 rfl rfl 2 (Nat.le_of_ble_eq_true rfl) (hts _ k_140) (fun _ h9 => h9) rfl (tyX9_ok 2 (Nat.le_of_ble_eq_true rfl)) rfl rfl (Nat.le_of_ble_eq_true rfl) dX9_advance_319 (fun H locs hP hD hS => ?_)
                have hP : va_P (dC, dI) vwCl (XW cy x0 x (upd (upd (upd v1 4 (v1 3)) 4 t47) 2 1) f1) H := hP
                have hD : va_D A (XW cy x0 x (upd (upd (upd v1 4 (v1 3)) 4 t47) 2 1) f1) := hD
                exact ret ((upd (upd (upd v1 4 (v1 3)) 4 t47) 2 1), f1) _ _ _ _ _ _ ⟨(hT2.symm.trans (gsX_X9_advance_1_q13 c3 hG7 hG25 et47 et48 et49 et50 hG52.symm c53)), (KV.up (j := 2) (x := 1) (KV.up (j := 4) (x := t47) (KV.up (j := 4) (x := (v1 3)) hM_v1 rfl) rfl) rfl), hA_f1, (Xu_2 (x := 1) (Xu_4 (x := t47) (Xu_4 (x := (v1 3)) hIv1 (show (0 : Int) ≤ (v1 3).toInt from om_2 b3_v1) (show (v1 3).toInt ≤ (1600 : Int) from om_48 b3_v1)) (show (0 : Int) ≤ t47.toInt from om_8 b3_v1 zt47) (show t47.toInt ≤ (1600 : Int) from om_59 b1_v zc3 zt47)) (rlo _) (rhi _)), (show v1 0 = v 0 from hq0_v1), (show v1 1 = v 1 from hq1_v1), (show v1 7 = v 7 from hq7_v1), (show v1 8 = v 8 from hq8_v1), (show v1 9 = v 9 from hq9_v1), (show v1 10 = v 10 from hq10_v1), (show v1 31 = v 31 from hq31_v1), (show v1 32 = v 32 from hq32_v1)⟩ hP hD hS dX9_advance_322 (Nat.le_refl _) (Nat.le_refl _)
              · skip
                refine lv_aload_n hx hb dX9_advance_306 rfl (lv_at hl 0 rfl) ?_
                refine va_get (D := (dC, dI)) (ci := 9) (v := .ref (x 1)) (C := RX9) (T := TX9) (N := 6) hx hb hts inB_9 hown hE.1 hP 1 rfl rfl 0 (Nat.le_of_ble_eq_true rfl) (hts _ k_136) (fun _ h9 => h9) rfl dX9_advance_307 ?_
                refine lv_aload_n hx hb dX9_advance_310 rfl (lv_at hl 0 rfl) ?_
                refine va_get (D := (dC, dI)) (ci := 9) (v := .int (v1 3)) (C := RX9) (T := TX9) (N := 6) hx hb hts inB_9 hown hE.1 hP 1 rfl rfl 3 (Nat.le_of_ble_eq_true rfl) (hts _ k_141) (fun _ h9 => h9) rfl dX9_advance_311 ?_
                refine ldB hx hb hE hP 2 rfl (vpI (k := 1600) rfl (show 0 ≤ (v1 3).toInt from om_2 b3_v1) (show (v1 3).toInt < 1600 from om_58 b1_v zc3)) rfl rfl dX9_advance_314 ?_
                refine lv_topi (fun t54 et54 => ?_)
                refine lv_goto (tgt := 319) hx hb dX9_advance_315 rfl ?_
                refine va_put (D := (dC, dI)) (ci := 9) (v := .int t54) (ty := tyX9 2) (C := RX9) (T := TX9) (N := 6) hx hb hts inB_9 tyX9 tyX9_ok nmX9 hown hE.1 hP hD hS 1 rfl rfl 2 (Nat.le_of_ble_eq_true rfl) (hts _ k_140) (fun _ h9 => h9) rfl (tyX9_ok 2 (Nat.le_of_ble_eq_true rfl)) rfl rfl (Nat.le_of_ble_eq_true rfl) dX9_advance_319 (fun H locs hP hD hS => ?_)
                have hP : va_P (dC, dI) vwCl (XW cy x0 x (upd (upd (upd v1 4 (v1 3)) 4 t47) 2 t54) f1) H := hP
                have hD : va_D A (XW cy x0 x (upd (upd (upd v1 4 (v1 3)) 4 t47) 2 t54) f1) := hD
                exact ret ((upd (upd (upd v1 4 (v1 3)) 4 t47) 2 t54), f1) _ _ _ _ _ _ ⟨(hT2.symm.trans (gsX_X9_advance_1_q14 c3 hG7 hG25 et47 et48 et49 et50 hG52.symm c53 et54)), (KV.up (j := 2) (x := t54) (KV.up (j := 4) (x := t47) (KV.up (j := 4) (x := (v1 3)) hM_v1 rfl) rfl) rfl), hA_f1, (Xu_2 (x := t54) (Xu_4 (x := t47) (Xu_4 (x := (v1 3)) hIv1 (show (0 : Int) ≤ (v1 3).toInt from om_2 b3_v1) (show (v1 3).toInt ≤ (1600 : Int) from om_48 b3_v1)) (show (0 : Int) ≤ t47.toInt from om_8 b3_v1 zt47) (show t47.toInt ≤ (1600 : Int) from om_59 b1_v zc3 zt47)) (rlo _) (rhi _)), (show v1 0 = v 0 from hq0_v1), (show v1 1 = v 1 from hq1_v1), (show v1 7 = v 7 from hq7_v1), (show v1 8 = v 8 from hq8_v1), (show v1 9 = v 9 from hq9_v1), (show v1 10 = v 10 from hq10_v1), (show v1 31 = v 31 from hq31_v1), (show v1 32 = v 32 from hq32_v1)⟩ hP hD hS dX9_advance_322 (Nat.le_refl _) (Nat.le_refl _)
        · skip
          refine lv_aload_n hx hb dX9_advance_79 rfl (lv_at hl 0 rfl) ?_
          refine lv_iconst (v := 0) hx hb dX9_advance_80 rfl ?_
          refine va_put (D := (dC, dI)) (ci := 9) (v := .int 0) (ty := tyX9 2) (C := RX9) (T := TX9) (N := 6) hx hb hts inB_9 tyX9 tyX9_ok nmX9 hown hE.1 hP hD hS 1 rfl rfl 2 (Nat.le_of_ble_eq_true rfl) (hts _ k_140) (fun _ h9 => h9) rfl (tyX9_ok 2 (Nat.le_of_ble_eq_true rfl)) rfl rfl (Nat.le_of_ble_eq_true rfl) dX9_advance_81 (fun H locs hP hD hS => ?_)
          have hP : va_P (dC, dI) vwCl (XW cy x0 x (upd (upd v1 4 (v1 3)) 2 0) f1) H := hP
          have hD : va_D A (XW cy x0 x (upd (upd v1 4 (v1 3)) 2 0) f1) := hD
          refine lv_goto (tgt := 322) hx hb dX9_advance_84 rfl ?_
          exact ret ((upd (upd v1 4 (v1 3)) 2 0), f1) _ _ _ _ _ _ ⟨(hT2.symm.trans (gsX_X9_advance_1_q15 c3)), (KV.up (j := 2) (x := 0) (KV.up (j := 4) (x := (v1 3)) hM_v1 rfl) rfl), hA_f1, (Xu_2 (x := 0) (Xu_4 (x := (v1 3)) hIv1 (show (0 : Int) ≤ (v1 3).toInt from om_2 b3_v1) (show (v1 3).toInt ≤ (1600 : Int) from om_48 b3_v1)) (rlo _) (rhi _)), (show v1 0 = v 0 from hq0_v1), (show v1 1 = v 1 from hq1_v1), (show v1 7 = v 7 from hq7_v1), (show v1 8 = v 8 from hq8_v1), (show v1 9 = v 9 from hq9_v1), (show v1 10 = v 10 from hq10_v1), (show v1 31 = v 31 from hq31_v1), (show v1 32 = v 32 from hq32_v1)⟩ hP hD hS dX9_advance_322 (Nat.le_refl _) (Nat.le_refl _)
      revert jp60
      intro jp60
      refine va_get (D := (dC, dI)) (ci := 9) (v := .int (v1 3)) (C := RX9) (T := TX9) (N := 6) hx hb hts inB_9 hown hE.1 hP 1 rfl rfl 3 (Nat.le_of_ble_eq_true rfl) (hts _ k_141) (fun _ h9 => h9) rfl dX9_advance_9 ?_
      have b3_v1 : 0 ≤ (v1 3).toInt ∧ (v1 3).toInt ≤ 1600 := Xb_3 hIv1
      refine lv_aload_n hx hb dX9_advance_12 rfl (lv_at hl 0 rfl) ?_
      refine va_get (D := (dC, dI)) (ci := 9) (v := .int (v1 1)) (C := RX9) (T := TX9) (N := 6) hx hb hts inB_9 hown hE.1 hP 1 rfl rfl 1 (Nat.le_of_ble_eq_true rfl) (hts _ k_137) (fun _ h9 => h9) rfl dX9_advance_13 ?_
      refine tI (y := (v 1)) hq1_v1 ?_
      have b1_v : 0 ≤ (v 1).toInt ∧ (v 1).toInt ≤ 1600 := Xb_1 hIv
      refine lv_icmp_ge (tgt := 60) hx hb dX9_advance_16 rfl (fun c57 => ?_) (fun c57 => ?_)
      · skip
        exact jp60 _ _ _ ((gsX_X9_advance_1_q16 c57).symm.trans hT1) hP hD hS hl
      · skip
        have zc57 : ¬ ((v 1).toInt ≤ (v1 3).toInt) := zMn rfl rfl c57
        refine lv_aload_n hx hb dX9_advance_19 rfl (lv_at hl 0 rfl) ?_
        refine va_get (D := (dC, dI)) (ci := 9) (v := .ref (x 1)) (C := RX9) (T := TX9) (N := 6) hx hb hts inB_9 hown hE.1 hP 1 rfl rfl 0 (Nat.le_of_ble_eq_true rfl) (hts _ k_136) (fun _ h9 => h9) rfl dX9_advance_20 ?_
        refine lv_aload_n hx hb dX9_advance_23 rfl (lv_at hl 0 rfl) ?_
        refine va_get (D := (dC, dI)) (ci := 9) (v := .int (v1 3)) (C := RX9) (T := TX9) (N := 6) hx hb hts inB_9 hown hE.1 hP 1 rfl rfl 3 (Nat.le_of_ble_eq_true rfl) (hts _ k_141) (fun _ h9 => h9) rfl dX9_advance_24 ?_
        refine ldB hx hb hE hP 2 rfl (vpI (k := 1600) rfl (show 0 ≤ (v1 3).toInt from om_2 b3_v1) (show (v1 3).toInt < 1600 from om_16 b1_v zc57)) rfl rfl dX9_advance_27 ?_
        refine lv_topi (fun t62 et62 => ?_)
        refine lv_bipush (v := 32) hx hb dX9_advance_28 rfl ?_
        refine lv_icmp_eq (tgt := 47) hx hb dX9_advance_30 rfl (fun c63 => ?_) (fun c63 => ?_)
        · skip
          refine lv_aload_n hx hb dX9_advance_47 rfl (lv_at hl 0 rfl) ?_
          refine lv_dup hx hb dX9_advance_48 rfl ?_
          refine va_get (D := (dC, dI)) (ci := 9) (v := .int (v1 3)) (C := RX9) (T := TX9) (N := 6) hx hb hts inB_9 hown hE.1 hP 1 rfl rfl 3 (Nat.le_of_ble_eq_true rfl) (hts _ k_141) (fun _ h9 => h9) rfl dX9_advance_49 ?_
          refine lv_iconst (v := 1) hx hb dX9_advance_52 rfl ?_
          refine lv_iadd hx hb dX9_advance_53 ?_
          refine lv_topi (fun t64 et64 => ?_)
          have zt64 : t64.toInt = (v1 3).toInt + 1 := (congrArg Int32.toInt et64).trans (add_i rfl tc_1 (om_4 b3_v1) (om_57 b3_v1))
          refine va_put (D := (dC, dI)) (ci := 9) (v := .int t64) (ty := tyX9 3) (C := RX9) (T := TX9) (N := 6) hx hb hts inB_9 tyX9 tyX9_ok nmX9 hown hE.1 hP hD hS 1 rfl rfl 3 (Nat.le_of_ble_eq_true rfl) (hts _ k_141) (fun _ h9 => h9) rfl (tyX9_ok 3 (Nat.le_of_ble_eq_true rfl)) rfl rfl (Nat.le_of_ble_eq_true rfl) dX9_advance_54 (fun H locs hP hD hS => ?_)
          have hP : va_P (dC, dI) vwCl (XW cy x0 x (upd v1 3 t64) f1) H := hP
          have hD : va_D A (XW cy x0 x (upd v1 3 t64) f1) := hD
          refine lv_goto (tgt := 8) hx hb dX9_advance_57 rfl ?_
          exact ih1  (upd v1 3 t64) f1 (Xu_3 (x := t64) hIv1 (show (0 : Int) ≤ t64.toInt from om_8 b3_v1 zt64) (show t64.toInt ≤ (1600 : Int) from om_60 b1_v zc57 zt64)) hq0_v1 hq1_v1 hq7_v1 hq8_v1 hq9_v1 hq10_v1 hq31_v1 hq32_v1 ((gsX_X9_advance_1_q17 c57 et62 c63 et64).symm.trans hT1) (KV.up (j := 3) (x := t64) hM_v1 rfl) hA_f1 (show (1600 - t64.toInt).toNat < n1 from om_61 hm1 b1_v zc57 zt64) _ _ _ hP hD hS (lv_sub hl [0] rfl)
        · skip
          refine lv_aload_n hx hb dX9_advance_33 rfl (lv_at hl 0 rfl) ?_
          refine va_get (D := (dC, dI)) (ci := 9) (v := .ref (x 1)) (C := RX9) (T := TX9) (N := 6) hx hb hts inB_9 hown hE.1 hP 1 rfl rfl 0 (Nat.le_of_ble_eq_true rfl) (hts _ k_136) (fun _ h9 => h9) rfl dX9_advance_34 ?_
          refine lv_aload_n hx hb dX9_advance_37 rfl (lv_at hl 0 rfl) ?_
          refine va_get (D := (dC, dI)) (ci := 9) (v := .int (v1 3)) (C := RX9) (T := TX9) (N := 6) hx hb hts inB_9 hown hE.1 hP 1 rfl rfl 3 (Nat.le_of_ble_eq_true rfl) (hts _ k_141) (fun _ h9 => h9) rfl dX9_advance_38 ?_
          refine ldB hx hb hE hP 2 rfl (vpI (k := 1600) rfl (show 0 ≤ (v1 3).toInt from om_2 b3_v1) (show (v1 3).toInt < 1600 from om_16 b1_v zc57)) rfl rfl dX9_advance_41 ?_
          refine lv_topi (fun t65 et65 => ?_)
          refine lv_bipush (v := 10) hx hb dX9_advance_42 rfl ?_
          refine lv_icmp_ne (tgt := 60) hx hb dX9_advance_44 rfl (fun c66 => ?_) (fun c66 => ?_)
          · skip
            exact jp60 _ _ _ ((gsX_X9_advance_1_q18 c57 et62 c63 et65 c66).symm.trans hT1) hP hD hS hl
          · skip
            refine lv_aload_n hx hb dX9_advance_47 rfl (lv_at hl 0 rfl) ?_
            refine lv_dup hx hb dX9_advance_48 rfl ?_
            refine va_get (D := (dC, dI)) (ci := 9) (v := .int (v1 3)) (C := RX9) (T := TX9) (N := 6) hx hb hts inB_9 hown hE.1 hP 1 rfl rfl 3 (Nat.le_of_ble_eq_true rfl) (hts _ k_141) (fun _ h9 => h9) rfl dX9_advance_49 ?_
            refine lv_iconst (v := 1) hx hb dX9_advance_52 rfl ?_
            refine lv_iadd hx hb dX9_advance_53 ?_
            refine lv_topi (fun t67 et67 => ?_)
            have zt67 : t67.toInt = (v1 3).toInt + 1 := (congrArg Int32.toInt et67).trans (add_i rfl tc_1 (om_4 b3_v1) (om_57 b3_v1))
            refine va_put (D := (dC, dI)) (ci := 9) (v := .int t67) (ty := tyX9 3) (C := RX9) (T := TX9) (N := 6) hx hb hts inB_9 tyX9 tyX9_ok nmX9 hown hE.1 hP hD hS 1 rfl rfl 3 (Nat.le_of_ble_eq_true rfl) (hts _ k_141) (fun _ h9 => h9) rfl (tyX9_ok 3 (Nat.le_of_ble_eq_true rfl)) rfl rfl (Nat.le_of_ble_eq_true rfl) dX9_advance_54 (fun H locs hP hD hS => ?_)
            have hP : va_P (dC, dI) vwCl (XW cy x0 x (upd v1 3 t67) f1) H := hP
            have hD : va_D A (XW cy x0 x (upd v1 3 t67) f1) := hD
            refine lv_goto (tgt := 8) hx hb dX9_advance_57 rfl ?_
            exact ih1  (upd v1 3 t67) f1 (Xu_3 (x := t67) hIv1 (show (0 : Int) ≤ t67.toInt from om_8 b3_v1 zt67) (show t67.toInt ≤ (1600 : Int) from om_60 b1_v zc57 zt67)) hq0_v1 hq1_v1 hq7_v1 hq8_v1 hq9_v1 hq10_v1 hq31_v1 hq32_v1 ((gsX_X9_advance_1_q19 c57 et62 c63 et65 c66 et67).symm.trans hT1) (KV.up (j := 3) (x := t67) hM_v1 rfl) hA_f1 (show (1600 - t67.toInt).toNat < n1 from om_61 hm1 b1_v zc57 zt67) _ _ _ hP hD hS (lv_sub hl [0] rfl)
  exact lp1 (4294967296 + NF)  (upd v 3 (v 4)) f (Xu_3 (x := (v 4)) hIv (show (0 : Int) ≤ (v 4).toInt from om_2 b4_v) (show (v 4).toInt ≤ (1600 : Int) from om_48 b4_v)) rfl rfl rfl rfl rfl rfl rfl rfl gsX_X9_advance_1_q20.symm (KV.up (j := 3) (x := (v 4)) hM_v rfl) hA_f (show (1600 - (v 4).toInt).toNat < 4294967296 + NF from om_55 b4_v) _ _ _ hP hD hS (lv_sub hl [0] rfl)
set_option maxHeartbeats 4000000 in
set_option maxRecDepth 100000 in
theorem sX_X9_rewind_1 (NF : Nat) (l : Launch) (dC : Nat → ClassId) (dI : Nat → Nat → Nat) (cy : Nat → ClassId) (x0 : Nat) (x : Nat → Nat)  (v : Nat → Int32) (f : Nat → Nat → Int32) (hIv : XI v)  : ctVS l (dC, dI) cy yX9_rewind cX9_rewind 1 7 191 0 0 ((Nat → Int32) × (Nat → Nat → Int32)) [.ref (x 0)] (XW cy x0 x v f) (fun u => gsX_X9_rewind_1 NF v f = u ∧ KV [2, 3, 4, 5] u.1 v ∧ KF [] u.2 f ∧ XI u.1 ∧ u.1 0 = v 0 ∧ u.1 1 = v 1 ∧ u.1 7 = v 7 ∧ u.1 8 = v 8 ∧ u.1 9 = v 9 ∧ u.1 10 = v 10 ∧ u.1 31 = v 31 ∧ u.1 32 = v 32) (fun u => XW cy x0 x u.1 u.2) := by
  refine ctVS_of (by decide) (Nat.le_of_ble_eq_true rfl) (fun p e s m below meth c A ls Q hx hb hml hts hown hnm hE hF hT hP hD hA hl ret => ?_)
  have hM_v : KV [2, 3, 4, 5] v v := fun _ _ => rfl
  have hA_f : KF [] f f := fun _ _ => rfl
  have hown : s.vm.findClass RX9 = some m.cls := hown
  have hS : va_S A s.heap s.heap [] := va_S.rf
  have hl : lv_has ls 1 [(0, .ref (x 0))] := hl
  refine lv_aload_n hx hb dX9_rewind_0 rfl (lv_at hl 0 rfl) ?_
  refine lv_iconst (v := 0) hx hb dX9_rewind_1 rfl ?_
  refine va_put (D := (dC, dI)) (ci := 9) (v := .int 0) (ty := tyX9 4) (C := RX9) (T := TX9) (N := 6) hx hb hts inB_9 tyX9 tyX9_ok nmX9 hown hE.1 hP hD hS 1 rfl rfl 4 (Nat.le_of_ble_eq_true rfl) (hts _ k_143) (fun _ h9 => h9) rfl (tyX9_ok 4 (Nat.le_of_ble_eq_true rfl)) rfl rfl (Nat.le_of_ble_eq_true rfl) dX9_rewind_2 (fun H locs hP hD hS => ?_)
  have hP : va_P (dC, dI) vwCl (XW cy x0 x (upd v 4 0) f) H := hP
  have hD : va_D A (XW cy x0 x (upd v 4 0) f) := hD
  refine lv_aload_n hx hb dX9_rewind_5 rfl (lv_at hl 0 rfl) ?_
  refine csVv (n := 0) (rest := []) hx hb hml hown hts hE hP hD hS hA hF hT (sX_X9_advance_1 NF l dC dI cy x0 x  (upd v 4 0) f (Xu_4 (x := 0) hIv (by decide) (by decide)) ) k_558 k_559 k_560 k_102 k_561 hd_yX9_advance ⟨Nat.le_of_ble_eq_true rfl, Nat.le_of_ble_eq_true rfl⟩ 1 9 rfl rfl (rfl) hl.1 rfl (Nat.le_of_ble_eq_true rfl) dX9_rewind_6 (fun u H locs hw hP hD hS => ?_)
  obtain ⟨hG1, hw⟩ := hw
  obtain ⟨v2, f3⟩ := u
  obtain ⟨kV_v2, kF_f3, hIv2, hk0_v2, hk1_v2, hk7_v2, hk8_v2, hk9_v2, hk10_v2, hk31_v2, hk32_v2⟩ := hw
  have hM_v2 : KV [2, 3, 4, 5] v2 v := KV.tr kV_v2 (KV.up (j := 4) (x := 0) hM_v rfl) rfl
  have hA_f3 : KF [] f3 f := KF.tr kF_f3 hA_f rfl
  have hP : va_P (dC, dI) vwCl (XW cy x0 x v2 f3) H := hP
  have hD : va_D A (XW cy x0 x v2 f3) := hD
  have hq0_v2 : v2 0 = (v 0) := hk0_v2
  have hq1_v2 : v2 1 = (v 1) := hk1_v2
  have hq7_v2 : v2 7 = (v 7) := hk7_v2
  have hq8_v2 : v2 8 = (v 8) := hk8_v2
  have hq9_v2 : v2 9 = (v 9) := hk9_v2
  have hq10_v2 : v2 10 = (v 10) := hk10_v2
  have hq31_v2 : v2 31 = (v 31) := hk31_v2
  have hq32_v2 : v2 32 = (v 32) := hk32_v2
  exact ret (v2, f3) _ _ _ _ _ _ ⟨(gsX_X9_rewind_1_q0 hG1), hM_v2, hA_f3, hIv2, hk0_v2, hk1_v2, hk7_v2, hk8_v2, hk9_v2, hk10_v2, hk31_v2, hk32_v2⟩ hP hD hS dX9_rewind_9 (Nat.le_refl _) (Nat.le_refl _)
set_option maxHeartbeats 4000000 in
set_option maxRecDepth 100000 in
theorem sX_X9_sameWord_1 (NF : Nat) (l : Launch) (dC : Nat → ClassId) (dI : Nat → Nat → Nat) (cy : Nat → ClassId) (x0 : Nat) (x : Nat → Nat) (p1 : Int32) (p2 : Int32) (v : Nat → Int32) (f : Nat → Nat → Int32) (hIv : XI v)  : ctI l (dC, dI) cy yX9_sameWord cX9_sameWord 4 .boolean 2 81 0 0 Unit [.ref (x 0), .int p1, .int p2] (XW cy x0 x v f) (fun r u => gsX_X9_sameWord_1 NF p1 p2 v f = r ∧ ((r = 1) ∨ (r = 0))) (fun u => XW cy x0 x v f) := by
  refine ctI_of (by decide) (Nat.le_of_ble_eq_true rfl) (fun p e s m below meth c A ls Q hx hb hml hts hown hE hP hD hA hl ret => ?_)
  have hown : s.vm.findClass RX9 = some m.cls := hown
  have hS : va_S A s.heap s.heap [] := va_S.rf
  have hl : lv_has ls 4 [(0, .ref (x 0)), (1, .int p1), (2, .int p2)] := hl
  refine lv_iconst (v := 0) hx hb dX9_sameWord_0 rfl ?_
  refine lv_istore_n (lv' := [(3, .int 0), (0, .ref (x 0)), (1, .int p1), (2, .int p2)]) hx hb dX9_sameWord_1 rfl hl (Nat.le_of_ble_eq_true rfl) rfl (fun ls hl => ?_)
  have lp1 : ∀ (n1 : Nat) (l3_1 : Int32), gsX_X9_sameWord_1_L1 NF p1 p2 v f n1 l3_1 = (gsX_X9_sameWord_1 NF p1 p2 v f) → ((0 : Int) ≤ l3_1.toInt ∧ l3_1.toInt ≤ 2147483647) → (2147483647 - l3_1.toInt).toNat < n1 → ∀ (H : Heap) (locs : List Loc) (ls : Array Slot), va_P (dC, dI) vwCl (XW cy x0 x v f) H → va_D A (XW cy x0 x v f) → va_S A s.heap H locs → lv_has ls 4 [(3, .int l3_1), (0, .ref (x 0)), (1, .int p1), (2, .int p2)] → W p l e { frames := 2, cells := 0, slots := 0, locals := 81 } s m ([.ref (x 0), .int p1, .int p2] : List Value).toArray below meth c H locs 0 0 Q (F0 m 2 ls []) := by
    intro n1
    induction n1 with
    | zero => intro l3_1 hT1 hr3_1 hm; exact absurd hm (Nat.not_lt_zero _)
    | succ n1 ih1 =>
      intro l3_1 hT1 hr3_1 hm1 H locs ls hP hD hS hl
      refine lv_iload_n hx hb dX9_sameWord_2 rfl (lv_at hl 0 rfl) ?_
      refine lv_bipush (v := 8) hx hb dX9_sameWord_3 rfl ?_
      refine lv_icmp_gt (tgt := 78) hx hb dX9_sameWord_5 rfl (fun c2 => ?_) (fun c2 => ?_)
      · skip
        refine lv_iconst (v := 1) hx hb dX9_sameWord_78 rfl ?_
        exact ret 1 () _ _ _ _ _ _ rfl ⟨(hT1.symm.trans (gsX_X9_sameWord_1_q0 c2)), (Or.inl rfl)⟩ hP hD hS dX9_sameWord_79 (Nat.le_refl _) (Nat.le_refl _)
      · skip
        have zc2 : ¬ (8 < l3_1.toInt) := zLn tc_8 rfl c2
        refine lv_aload_n hx hb dX9_sameWord_8 rfl (lv_at hl 1 rfl) ?_
        refine lv_iload_n hx hb dX9_sameWord_9 rfl (lv_at hl 2 rfl) ?_
        refine lv_iload_n hx hb dX9_sameWord_10 rfl (lv_at hl 0 rfl) ?_
        refine lv_iadd hx hb dX9_sameWord_11 ?_
        refine lv_topi (fun t3 et3 => ?_)
        refine cbVi (n := 1) (rest := []) hx hb hml hown hts hE hP hD hS hA (sX_X9_isLetter_1 NF l dC dI cy x0 x t3 v f hIv ) k_562 k_564 k_1 k_102 k_565 hd_yX9_isLetter ⟨Nat.le_of_ble_eq_true rfl, Nat.le_of_ble_eq_true rfl⟩ 1 9 rfl rfl (rfl) hl.1 rfl (Nat.le_of_ble_eq_true rfl) dX9_sameWord_12 (fun r4 u H locs hw hP hD hS => ?_)
        obtain ⟨hG5, hw⟩ := hw
        rcases hw with ⟨g6, g6_0, g6_1, g6_2⟩ | ⟨g6⟩
        · skip
          subst g6
          refine lv_if_eq (tgt := 28) hx hb dX9_sameWord_15 rfl (fun c0 => absurd c0 (by decide)) (fun _ => ?_)
          refine lv_aload_n hx hb dX9_sameWord_18 rfl (lv_at hl 1 rfl) ?_
          refine lv_iload_n hx hb dX9_sameWord_19 rfl (lv_at hl 3 rfl) ?_
          refine lv_iload_n hx hb dX9_sameWord_20 rfl (lv_at hl 0 rfl) ?_
          refine lv_iadd hx hb dX9_sameWord_21 ?_
          refine lv_topi (fun t7 et7 => ?_)
          refine cbVi (n := 1) (rest := []) hx hb hml hown hts hE hP hD hS hA (sX_X9_isLetter_1 NF l dC dI cy x0 x t7 v f hIv ) k_562 k_564 k_1 k_102 k_565 hd_yX9_isLetter ⟨Nat.le_of_ble_eq_true rfl, Nat.le_of_ble_eq_true rfl⟩ 1 9 rfl rfl (rfl) hl.1 rfl (Nat.le_of_ble_eq_true rfl) dX9_sameWord_22 (fun r8 u H locs hw hP hD hS => ?_)
          obtain ⟨hG9, hw⟩ := hw
          rcases hw with ⟨g10, g10_0, g10_1, g10_2⟩ | ⟨g10⟩
          · skip
            subst g10
            refine lv_if_ne (tgt := 51) hx hb dX9_sameWord_25 rfl (fun _ => ?_) (fun c0 => absurd c0 (by decide))
            refine lv_aload_n hx hb dX9_sameWord_51 rfl (lv_at hl 1 rfl) ?_
            refine va_get (D := (dC, dI)) (ci := 9) (v := .ref (x 1)) (C := RX9) (T := TX9) (N := 6) hx hb hts inB_9 hown hE.1 hP 1 rfl rfl 0 (Nat.le_of_ble_eq_true rfl) (hts _ k_136) (fun _ h9 => h9) rfl dX9_sameWord_52 ?_
            refine lv_iload_n hx hb dX9_sameWord_55 rfl (lv_at hl 2 rfl) ?_
            refine lv_iload_n hx hb dX9_sameWord_56 rfl (lv_at hl 0 rfl) ?_
            refine lv_iadd hx hb dX9_sameWord_57 ?_
            refine tI (y := t3) et3.symm ?_
            refine ldB hx hb hE hP 2 rfl (vpI (k := 1600) rfl (show 0 ≤ t3.toInt from om_62 g6_0) (show t3.toInt < 1600 from om_56 g6_2)) rfl rfl dX9_sameWord_58 ?_
            refine lv_topi (fun t11 et11 => ?_)
            refine lv_aload_n hx hb dX9_sameWord_59 rfl (lv_at hl 1 rfl) ?_
            refine va_get (D := (dC, dI)) (ci := 9) (v := .ref (x 1)) (C := RX9) (T := TX9) (N := 6) hx hb hts inB_9 hown hE.1 hP 1 rfl rfl 0 (Nat.le_of_ble_eq_true rfl) (hts _ k_136) (fun _ h9 => h9) rfl dX9_sameWord_60 ?_
            refine lv_iload_n hx hb dX9_sameWord_63 rfl (lv_at hl 3 rfl) ?_
            refine lv_iload_n hx hb dX9_sameWord_64 rfl (lv_at hl 0 rfl) ?_
            refine lv_iadd hx hb dX9_sameWord_65 ?_
            refine tI (y := t7) et7.symm ?_
            refine ldB hx hb hE hP 2 rfl (vpI (k := 1600) rfl (show 0 ≤ t7.toInt from om_62 g10_0) (show t7.toInt < 1600 from om_56 g10_2)) rfl rfl dX9_sameWord_66 ?_
            refine lv_topi (fun t12 et12 => ?_)
            refine lv_icmp_eq (tgt := 72) hx hb dX9_sameWord_67 rfl (fun c13 => ?_) (fun c13 => ?_)
            · skip
              obtain ⟨t16, et16⟩ : ∃ y : Int32, y = l3_1 + 1 := ⟨_, rfl⟩
              have zt16 : t16.toInt = l3_1.toInt + 1 := (congrArg Int32.toInt et16).trans (add_i rfl tc_1 (om_41 hr3_1) (om_63 zc2))
              refine lv_iinc (v := t16) (lv' := [(3, .int t16), (0, .ref (x 0)), (1, .int p1), (2, .int p2)]) hx hb dX9_sameWord_72 hl (k := 0) rfl et16.symm (Nat.le_of_ble_eq_true rfl) rfl (fun ls hl => ?_)
              refine lv_goto (tgt := 2) hx hb dX9_sameWord_75 rfl ?_
              have rg18 := fb_rng t16
              exact ih1 t16 ((gsX_X9_sameWord_1_q1 c2 et3 hG5 et7 hG9 et11 et12 c13 et16).symm.trans hT1) ⟨show (0 : Int) ≤ t16.toInt from om_43 hr3_1 zt16, show t16.toInt ≤ (2147483647 : Int) from om_44 rg18⟩ (show (2147483647 - t16.toInt).toNat < n1 from om_33 hm1 zt16 rg18) _ _ _ hP hD hS (lv_sub hl [0, 1, 2, 3] rfl)
            · skip
              refine lv_iconst (v := 0) hx hb dX9_sameWord_70 rfl ?_
              exact ret 0 () _ _ _ _ _ _ rfl ⟨(hT1.symm.trans (gsX_X9_sameWord_1_q2 c2 et3 hG5 et7 hG9 et11 et12 c13)), (Or.inr rfl)⟩ hP hD hS dX9_sameWord_71 (Nat.le_refl _) (Nat.le_refl _)
          · skip
            subst g10
            refine lv_if_ne (tgt := 51) hx hb dX9_sameWord_25 rfl (fun c0 => absurd (by decide) c0) (fun _ => ?_)
            refine lv_aload_n hx hb dX9_sameWord_28 rfl (lv_at hl 1 rfl) ?_
            refine lv_iload_n hx hb dX9_sameWord_29 rfl (lv_at hl 2 rfl) ?_
            refine lv_iload_n hx hb dX9_sameWord_30 rfl (lv_at hl 0 rfl) ?_
            refine lv_iadd hx hb dX9_sameWord_31 ?_
            refine tI (y := t3) et3.symm ?_
            refine cbVi (n := 1) (rest := []) hx hb hml hown hts hE hP hD hS hA (sX_X9_isLetter_1 NF l dC dI cy x0 x t3 v f hIv ) k_562 k_564 k_1 k_102 k_565 hd_yX9_isLetter ⟨Nat.le_of_ble_eq_true rfl, Nat.le_of_ble_eq_true rfl⟩ 1 9 rfl rfl (rfl) hl.1 rfl (Nat.le_of_ble_eq_true rfl) dX9_sameWord_32 (fun r21 u H locs hw hP hD hS => ?_)
            obtain ⟨hG22, hw⟩ := hw
            rcases hw with ⟨g23, g23_0, g23_1, g23_2⟩ | ⟨g23⟩
            · skip
              subst g23
              refine lv_aload_n hx hb dX9_sameWord_35 rfl (lv_at hl 1 rfl) ?_
              refine lv_iload_n hx hb dX9_sameWord_36 rfl (lv_at hl 3 rfl) ?_
              refine lv_iload_n hx hb dX9_sameWord_37 rfl (lv_at hl 0 rfl) ?_
              refine lv_iadd hx hb dX9_sameWord_38 ?_
              refine tI (y := t7) et7.symm ?_
              refine cbVi (n := 1) (rest := [.int 1]) hx hb hml hown hts hE hP hD hS hA (sX_X9_isLetter_1 NF l dC dI cy x0 x t7 v f hIv ) k_562 k_564 k_1 k_102 k_565 hd_yX9_isLetter ⟨Nat.le_of_ble_eq_true rfl, Nat.le_of_ble_eq_true rfl⟩ 1 9 rfl rfl (rfl) hl.1 rfl (Nat.le_of_ble_eq_true rfl) dX9_sameWord_39 (fun r24 u H locs hw hP hD hS => ?_)
              obtain ⟨hG25, hw⟩ := hw
              rcases hw with ⟨g26, g26_0, g26_1, g26_2⟩ | ⟨g26⟩
              · skip
                subst g26
                refine lv_icmp_ne (tgt := 49) hx hb dX9_sameWord_42 rfl (fun c0 => absurd (by decide) c0) (fun _ => ?_)
                refine lv_iconst (v := 1) hx hb dX9_sameWord_45 rfl ?_
                refine lv_goto (tgt := 50) hx hb dX9_sameWord_46 rfl ?_
                exact ret 1 () _ _ _ _ _ _ rfl ⟨(hT1.symm.trans (gsX_X9_sameWord_1_q3 c2 et3 hG5 et7 hG9 hG22 hG25)), (Or.inl rfl)⟩ hP hD hS dX9_sameWord_50 (Nat.le_refl _) (Nat.le_refl _)
              · skip
                subst g26
                refine lv_icmp_ne (tgt := 49) hx hb dX9_sameWord_42 rfl (fun _ => ?_) (fun c0 => absurd c0 (by decide))
                refine lv_iconst (v := 0) hx hb dX9_sameWord_49 rfl ?_
                exact ret 0 () _ _ _ _ _ _ rfl ⟨(hT1.symm.trans (gsX_X9_sameWord_1_q4 c2 et3 hG5 et7 hG9 hG22 hG25)), (Or.inr rfl)⟩ hP hD hS dX9_sameWord_50 (Nat.le_refl _) (Nat.le_refl _)
            · skip
              subst g23
              refine lv_aload_n hx hb dX9_sameWord_35 rfl (lv_at hl 1 rfl) ?_
              refine lv_iload_n hx hb dX9_sameWord_36 rfl (lv_at hl 3 rfl) ?_
              refine lv_iload_n hx hb dX9_sameWord_37 rfl (lv_at hl 0 rfl) ?_
              refine lv_iadd hx hb dX9_sameWord_38 ?_
              refine tI (y := t7) et7.symm ?_
              refine cbVi (n := 1) (rest := [.int 0]) hx hb hml hown hts hE hP hD hS hA (sX_X9_isLetter_1 NF l dC dI cy x0 x t7 v f hIv ) k_562 k_564 k_1 k_102 k_565 hd_yX9_isLetter ⟨Nat.le_of_ble_eq_true rfl, Nat.le_of_ble_eq_true rfl⟩ 1 9 rfl rfl (rfl) hl.1 rfl (Nat.le_of_ble_eq_true rfl) dX9_sameWord_39 (fun r27 u H locs hw hP hD hS => ?_)
              obtain ⟨hG28, hw⟩ := hw
              rcases hw with ⟨g29, g29_0, g29_1, g29_2⟩ | ⟨g29⟩
              · skip
                subst g29
                refine lv_icmp_ne (tgt := 49) hx hb dX9_sameWord_42 rfl (fun _ => ?_) (fun c0 => absurd c0 (by decide))
                refine lv_iconst (v := 0) hx hb dX9_sameWord_49 rfl ?_
                exact ret 0 () _ _ _ _ _ _ rfl ⟨(hT1.symm.trans (gsX_X9_sameWord_1_q5 c2 et3 hG5 et7 hG9 hG22 hG28)), (Or.inr rfl)⟩ hP hD hS dX9_sameWord_50 (Nat.le_refl _) (Nat.le_refl _)
              · skip
                subst g29
                refine lv_icmp_ne (tgt := 49) hx hb dX9_sameWord_42 rfl (fun c0 => absurd (by decide) c0) (fun _ => ?_)
                refine lv_iconst (v := 1) hx hb dX9_sameWord_45 rfl ?_
                refine lv_goto (tgt := 50) hx hb dX9_sameWord_46 rfl ?_
                exact ret 1 () _ _ _ _ _ _ rfl ⟨(hT1.symm.trans (gsX_X9_sameWord_1_q6 c2 et3 hG5 et7 hG9 hG22 hG28)), (Or.inl rfl)⟩ hP hD hS dX9_sameWord_50 (Nat.le_refl _) (Nat.le_refl _)
        · skip
          subst g6
          refine lv_if_eq (tgt := 28) hx hb dX9_sameWord_15 rfl (fun _ => ?_) (fun c0 => absurd (by decide) c0)
          refine lv_aload_n hx hb dX9_sameWord_28 rfl (lv_at hl 1 rfl) ?_
          refine lv_iload_n hx hb dX9_sameWord_29 rfl (lv_at hl 2 rfl) ?_
          refine lv_iload_n hx hb dX9_sameWord_30 rfl (lv_at hl 0 rfl) ?_
          refine lv_iadd hx hb dX9_sameWord_31 ?_
          refine tI (y := t3) et3.symm ?_
          refine cbVi (n := 1) (rest := []) hx hb hml hown hts hE hP hD hS hA (sX_X9_isLetter_1 NF l dC dI cy x0 x t3 v f hIv ) k_562 k_564 k_1 k_102 k_565 hd_yX9_isLetter ⟨Nat.le_of_ble_eq_true rfl, Nat.le_of_ble_eq_true rfl⟩ 1 9 rfl rfl (rfl) hl.1 rfl (Nat.le_of_ble_eq_true rfl) dX9_sameWord_32 (fun r30 u H locs hw hP hD hS => ?_)
          obtain ⟨hG31, hw⟩ := hw
          rcases hw with ⟨g32, g32_0, g32_1, g32_2⟩ | ⟨g32⟩
          · skip
            subst g32
            refine lv_aload_n hx hb dX9_sameWord_35 rfl (lv_at hl 1 rfl) ?_
            refine lv_iload_n hx hb dX9_sameWord_36 rfl (lv_at hl 3 rfl) ?_
            refine lv_iload_n hx hb dX9_sameWord_37 rfl (lv_at hl 0 rfl) ?_
            refine lv_iadd hx hb dX9_sameWord_38 ?_
            refine lv_topi (fun t33 et33 => ?_)
            refine cbVi (n := 1) (rest := [.int 1]) hx hb hml hown hts hE hP hD hS hA (sX_X9_isLetter_1 NF l dC dI cy x0 x t33 v f hIv ) k_562 k_564 k_1 k_102 k_565 hd_yX9_isLetter ⟨Nat.le_of_ble_eq_true rfl, Nat.le_of_ble_eq_true rfl⟩ 1 9 rfl rfl (rfl) hl.1 rfl (Nat.le_of_ble_eq_true rfl) dX9_sameWord_39 (fun r34 u H locs hw hP hD hS => ?_)
            obtain ⟨hG35, hw⟩ := hw
            rcases hw with ⟨g36, g36_0, g36_1, g36_2⟩ | ⟨g36⟩
            · skip
              subst g36
              refine lv_icmp_ne (tgt := 49) hx hb dX9_sameWord_42 rfl (fun c0 => absurd (by decide) c0) (fun _ => ?_)
              refine lv_iconst (v := 1) hx hb dX9_sameWord_45 rfl ?_
              refine lv_goto (tgt := 50) hx hb dX9_sameWord_46 rfl ?_
              exact ret 1 () _ _ _ _ _ _ rfl ⟨(hT1.symm.trans (gsX_X9_sameWord_1_q7 c2 et3 hG5 hG31 et33 hG35)), (Or.inl rfl)⟩ hP hD hS dX9_sameWord_50 (Nat.le_refl _) (Nat.le_refl _)
            · skip
              subst g36
              refine lv_icmp_ne (tgt := 49) hx hb dX9_sameWord_42 rfl (fun _ => ?_) (fun c0 => absurd c0 (by decide))
              refine lv_iconst (v := 0) hx hb dX9_sameWord_49 rfl ?_
              exact ret 0 () _ _ _ _ _ _ rfl ⟨(hT1.symm.trans (gsX_X9_sameWord_1_q8 c2 et3 hG5 hG31 et33 hG35)), (Or.inr rfl)⟩ hP hD hS dX9_sameWord_50 (Nat.le_refl _) (Nat.le_refl _)
          · skip
            subst g32
            refine lv_aload_n hx hb dX9_sameWord_35 rfl (lv_at hl 1 rfl) ?_
            refine lv_iload_n hx hb dX9_sameWord_36 rfl (lv_at hl 3 rfl) ?_
            refine lv_iload_n hx hb dX9_sameWord_37 rfl (lv_at hl 0 rfl) ?_
            refine lv_iadd hx hb dX9_sameWord_38 ?_
            refine lv_topi (fun t37 et37 => ?_)
            refine cbVi (n := 1) (rest := [.int 0]) hx hb hml hown hts hE hP hD hS hA (sX_X9_isLetter_1 NF l dC dI cy x0 x t37 v f hIv ) k_562 k_564 k_1 k_102 k_565 hd_yX9_isLetter ⟨Nat.le_of_ble_eq_true rfl, Nat.le_of_ble_eq_true rfl⟩ 1 9 rfl rfl (rfl) hl.1 rfl (Nat.le_of_ble_eq_true rfl) dX9_sameWord_39 (fun r38 u H locs hw hP hD hS => ?_)
            obtain ⟨hG39, hw⟩ := hw
            rcases hw with ⟨g40, g40_0, g40_1, g40_2⟩ | ⟨g40⟩
            · skip
              subst g40
              refine lv_icmp_ne (tgt := 49) hx hb dX9_sameWord_42 rfl (fun _ => ?_) (fun c0 => absurd c0 (by decide))
              refine lv_iconst (v := 0) hx hb dX9_sameWord_49 rfl ?_
              exact ret 0 () _ _ _ _ _ _ rfl ⟨(hT1.symm.trans (gsX_X9_sameWord_1_q9 c2 et3 hG5 hG31 et37 hG39)), (Or.inr rfl)⟩ hP hD hS dX9_sameWord_50 (Nat.le_refl _) (Nat.le_refl _)
            · skip
              subst g40
              refine lv_icmp_ne (tgt := 49) hx hb dX9_sameWord_42 rfl (fun c0 => absurd (by decide) c0) (fun _ => ?_)
              refine lv_iconst (v := 1) hx hb dX9_sameWord_45 rfl ?_
              refine lv_goto (tgt := 50) hx hb dX9_sameWord_46 rfl ?_
              exact ret 1 () _ _ _ _ _ _ rfl ⟨(hT1.symm.trans (gsX_X9_sameWord_1_q10 c2 et3 hG5 hG31 et37 hG39)), (Or.inl rfl)⟩ hP hD hS dX9_sameWord_50 (Nat.le_refl _) (Nat.le_refl _)
  exact lp1 (4294967296 + NF) 0 gsX_X9_sameWord_1_q11.symm ⟨by decide, by decide⟩ (show (2147483647 - (0 : Int32).toInt).toNat < 4294967296 + NF from om_38 tc_0) _ _ _ hP hD hS (lv_sub hl [0, 1, 2, 3] rfl)
set_option maxHeartbeats 4000000 in
set_option maxRecDepth 100000 in
theorem sX_X6_refuseAs_1 (NF : Nat) (l : Launch) (dC : Nat → ClassId) (dI : Nat → Nat → Nat) (cy : Nat → ClassId) (x0 : Nat) (x : Nat → Nat) (p1 : Int32) (v : Nat → Int32) (f : Nat → Nat → Int32) (hIv : XI v)  : ctI l (dC, dI) cy yX6_refuseAs cX6_refuseAs 2 .boolean 1 60 0 0 ((Nat → Int32) × (Nat → Nat → Int32)) [.ref (x 2), .int p1] (XW cy x0 x v f) (fun r u => gsX_X6_refuseAs_1 NF p1 v f = (r, u) ∧ KV [7, 8] u.1 v ∧ KF [] u.2 f ∧ XI u.1 ∧ u.1 0 = v 0 ∧ u.1 1 = v 1 ∧ u.1 9 = v 9 ∧ u.1 10 = v 10 ∧ u.1 31 = v 31 ∧ u.1 32 = v 32 ∧ ((r = 1) ∨ (r = 0))) (fun u => XW cy x0 x u.1 u.2) := by
  refine ctI_of (by decide) (Nat.le_of_ble_eq_true rfl) (fun p e s m below meth c A ls Q hx hb hml hts hown hE hP hD hA hl ret => ?_)
  have hM_v : KV [7, 8] v v := fun _ _ => rfl
  have hA_f : KF [] f f := fun _ _ => rfl
  have hown : s.vm.findClass RX6 = some m.cls := hown
  have hS : va_S A s.heap s.heap [] := va_S.rf
  have hl : lv_has ls 2 [(0, .ref (x 2)), (1, .int p1)] := hl
  refine lv_aload_n hx hb dX6_refuseAs_0 rfl (lv_at hl 0 rfl) ?_
  refine lv_iload_n hx hb dX6_refuseAs_1 rfl (lv_at hl 1 rfl) ?_
  refine va_put (D := (dC, dI)) (ci := 6) (v := .int p1) (ty := tyX6 5) (C := RX6) (T := TX6) (N := 7) hx hb hts inB_6 tyX6 tyX6_ok nmX6 hown hE.1 hP hD hS 3 rfl rfl 5 (Nat.le_of_ble_eq_true rfl) (hts _ k_271) (fun _ h9 => h9) rfl (tyX6_ok 5 (Nat.le_of_ble_eq_true rfl)) rfl rfl (Nat.le_of_ble_eq_true rfl) dX6_refuseAs_2 (fun H locs hP hD hS => ?_)
  have hP : va_P (dC, dI) vwCl (XW cy x0 x (upd v 7 p1) f) H := hP
  have hD : va_D A (XW cy x0 x (upd v 7 p1) f) := hD
  refine lv_aload_n hx hb dX6_refuseAs_5 rfl (lv_at hl 0 rfl) ?_
  refine lv_aload_n hx hb dX6_refuseAs_6 rfl (lv_at hl 0 rfl) ?_
  refine va_get (D := (dC, dI)) (ci := 6) (v := .ref (x 0)) (C := RX6) (T := TX6) (N := 7) hx hb hts inB_6 hown hE.1 hP 3 rfl rfl 0 (Nat.le_of_ble_eq_true rfl) (hts _ k_265) (fun _ h9 => h9) rfl dX6_refuseAs_7 ?_
  refine va_getN (D := (dC, dI)) (ci := 9) (v := .int (v 3)) (C := RX9) (T := TX9) (N := 6) hx hb hts inB_9 hown hE.1 hP 1 rfl rfl 3 (Nat.le_of_ble_eq_true rfl) (va_Nw.use rfl (hE.2 _ k_142)) (fun _ h9 => h9) rfl dX6_refuseAs_10 ?_
  have b3_v : 0 ≤ (v 3).toInt ∧ (v 3).toInt ≤ 1600 := Xb_3 hIv
  refine va_put (D := (dC, dI)) (ci := 6) (v := .int (v 3)) (ty := tyX6 6) (C := RX6) (T := TX6) (N := 7) hx hb hts inB_6 tyX6 tyX6_ok nmX6 hown hE.1 hP hD hS 3 rfl rfl 6 (Nat.le_of_ble_eq_true rfl) (hts _ k_273) (fun _ h9 => h9) rfl (tyX6_ok 6 (Nat.le_of_ble_eq_true rfl)) rfl rfl (Nat.le_of_ble_eq_true rfl) dX6_refuseAs_13 (fun H locs hP hD hS => ?_)
  have hP : va_P (dC, dI) vwCl (XW cy x0 x (upd (upd v 7 p1) 8 (v 3)) f) H := hP
  have hD : va_D A (XW cy x0 x (upd (upd v 7 p1) 8 (v 3)) f) := hD
  refine lv_iconst (v := 0) hx hb dX6_refuseAs_16 rfl ?_
  exact ret 0 ((upd (upd v 7 p1) 8 (v 3)), f) _ _ _ _ _ _ rfl ⟨gsX_X6_refuseAs_1_q0, (KV.up (j := 8) (x := (v 3)) (KV.up (j := 7) (x := p1) hM_v rfl) rfl), hA_f, (Xu_8 (x := (v 3)) (Xu_7 (x := p1) hIv (rlo _) (rhi _)) (rlo _) (rhi _)), rfl, rfl, rfl, rfl, rfl, rfl, (Or.inr rfl)⟩ hP hD hS dX6_refuseAs_17 (Nat.le_refl _) (Nat.le_refl _)
set_option maxHeartbeats 4000000 in
set_option maxRecDepth 100000 in
theorem sX_X6_refuse_1 (NF : Nat) (l : Launch) (dC : Nat → ClassId) (dI : Nat → Nat → Nat) (cy : Nat → ClassId) (x0 : Nat) (x : Nat → Nat)  (v : Nat → Int32) (f : Nat → Nat → Int32) (hIv : XI v)  : ctI l (dC, dI) cy yX6_refuse cX6_refuse 1 .boolean 2 81 0 0 ((Nat → Int32) × (Nat → Nat → Int32)) [.ref (x 2)] (XW cy x0 x v f) (fun r u => gsX_X6_refuse_1 NF v f = (r, u) ∧ KV [7, 8] u.1 v ∧ KF [] u.2 f ∧ XI u.1 ∧ u.1 0 = v 0 ∧ u.1 1 = v 1 ∧ u.1 9 = v 9 ∧ u.1 10 = v 10 ∧ u.1 31 = v 31 ∧ u.1 32 = v 32 ∧ ((r = 1) ∨ (r = 0))) (fun u => XW cy x0 x u.1 u.2) := by
  refine ctI_of (by decide) (Nat.le_of_ble_eq_true rfl) (fun p e s m below meth c A ls Q hx hb hml hts hown hE hP hD hA hl ret => ?_)
  have hM_v : KV [7, 8] v v := fun _ _ => rfl
  have hA_f : KF [] f f := fun _ _ => rfl
  have hown : s.vm.findClass RX6 = some m.cls := hown
  have hS : va_S A s.heap s.heap [] := va_S.rf
  have hl : lv_has ls 1 [(0, .ref (x 2))] := hl
  refine lv_aload_n hx hb dX6_refuse_0 rfl (lv_at hl 0 rfl) ?_
  refine lv_aload_n hx hb dX6_refuse_1 rfl (lv_at hl 0 rfl) ?_
  refine va_get (D := (dC, dI)) (ci := 6) (v := .ref (x 0)) (C := RX6) (T := TX6) (N := 7) hx hb hts inB_6 hown hE.1 hP 3 rfl rfl 0 (Nat.le_of_ble_eq_true rfl) (hts _ k_265) (fun _ h9 => h9) rfl dX6_refuse_2 ?_
  refine va_getN (D := (dC, dI)) (ci := 9) (v := .int (v 2)) (C := RX9) (T := TX9) (N := 6) hx hb hts inB_9 hown hE.1 hP 1 rfl rfl 2 (Nat.le_of_ble_eq_true rfl) (va_Nw.use rfl (hE.2 _ k_139)) (fun _ h9 => h9) rfl dX6_refuse_5 ?_
  refine lv_iconst (v := 1) hx hb dX6_refuse_8 rfl ?_
  refine lv_icmp_ne (tgt := 16) hx hb dX6_refuse_9 rfl (fun c1 => ?_) (fun c1 => ?_)
  · skip
    refine lv_iconst (v := 2) hx hb dX6_refuse_16 rfl ?_
    refine cbVi (n := 1) (rest := []) hx hb hml hown hts hE hP hD hS hA (sX_X6_refuseAs_1 NF l dC dI cy x0 x 2 v f hIv ) k_695 k_697 k_7 k_103 k_698 hd_yX6_refuseAs ⟨Nat.le_of_ble_eq_true rfl, Nat.le_of_ble_eq_true rfl⟩ 3 6 rfl rfl (rfl) hl.1 rfl (Nat.le_of_ble_eq_true rfl) dX6_refuse_17 (fun r2 u H locs hw hP hD hS => ?_)
    obtain ⟨hG3, hw⟩ := hw
    obtain ⟨v4, f5⟩ := u
    obtain ⟨kV_v4, kF_f5, hIv4, hk0_v4, hk1_v4, hk9_v4, hk10_v4, hk31_v4, hk32_v4, hw⟩ := hw
    have hM_v4 : KV [7, 8] v4 v := KV.tr kV_v4 hM_v rfl
    have hA_f5 : KF [] f5 f := KF.tr kF_f5 hA_f rfl
    have hP : va_P (dC, dI) vwCl (XW cy x0 x v4 f5) H := hP
    have hD : va_D A (XW cy x0 x v4 f5) := hD
    rcases hw with ⟨g6⟩ | ⟨g6⟩
    · skip
      subst g6
      exact ret 1 (v4, f5) _ _ _ _ _ _ rfl ⟨(gsX_X6_refuse_1_q0 c1 hG3), hM_v4, hA_f5, hIv4, hk0_v4, hk1_v4, hk9_v4, hk10_v4, hk31_v4, hk32_v4, (Or.inl rfl)⟩ hP hD hS dX6_refuse_20 (Nat.le_refl _) (Nat.le_refl _)
    · skip
      subst g6
      exact ret 0 (v4, f5) _ _ _ _ _ _ rfl ⟨(gsX_X6_refuse_1_q1 c1 hG3), hM_v4, hA_f5, hIv4, hk0_v4, hk1_v4, hk9_v4, hk10_v4, hk31_v4, hk32_v4, (Or.inr rfl)⟩ hP hD hS dX6_refuse_20 (Nat.le_refl _) (Nat.le_refl _)
  · skip
    refine lv_iconst (v := 1) hx hb dX6_refuse_12 rfl ?_
    refine lv_goto (tgt := 17) hx hb dX6_refuse_13 rfl ?_
    refine cbVi (n := 1) (rest := []) hx hb hml hown hts hE hP hD hS hA (sX_X6_refuseAs_1 NF l dC dI cy x0 x 1 v f hIv ) k_695 k_697 k_7 k_103 k_698 hd_yX6_refuseAs ⟨Nat.le_of_ble_eq_true rfl, Nat.le_of_ble_eq_true rfl⟩ 3 6 rfl rfl (rfl) hl.1 rfl (Nat.le_of_ble_eq_true rfl) dX6_refuse_17 (fun r7 u H locs hw hP hD hS => ?_)
    obtain ⟨hG8, hw⟩ := hw
    obtain ⟨v9, f10⟩ := u
    obtain ⟨kV_v9, kF_f10, hIv9, hk0_v9, hk1_v9, hk9_v9, hk10_v9, hk31_v9, hk32_v9, hw⟩ := hw
    have hM_v9 : KV [7, 8] v9 v := KV.tr kV_v9 hM_v rfl
    have hA_f10 : KF [] f10 f := KF.tr kF_f10 hA_f rfl
    have hP : va_P (dC, dI) vwCl (XW cy x0 x v9 f10) H := hP
    have hD : va_D A (XW cy x0 x v9 f10) := hD
    rcases hw with ⟨g11⟩ | ⟨g11⟩
    · skip
      subst g11
      exact ret 1 (v9, f10) _ _ _ _ _ _ rfl ⟨(gsX_X6_refuse_1_q2 c1 hG8), hM_v9, hA_f10, hIv9, hk0_v9, hk1_v9, hk9_v9, hk10_v9, hk31_v9, hk32_v9, (Or.inl rfl)⟩ hP hD hS dX6_refuse_20 (Nat.le_refl _) (Nat.le_refl _)
    · skip
      subst g11
      exact ret 0 (v9, f10) _ _ _ _ _ _ rfl ⟨(gsX_X6_refuse_1_q3 c1 hG8), hM_v9, hA_f10, hIv9, hk0_v9, hk1_v9, hk9_v9, hk10_v9, hk31_v9, hk32_v9, (Or.inr rfl)⟩ hP hD hS dX6_refuse_20 (Nat.le_refl _) (Nat.le_refl _)
set_option maxHeartbeats 4000000 in
set_option maxRecDepth 100000 in
theorem sX_X6_name_1 (NF : Nat) (l : Launch) (dC : Nat → ClassId) (dI : Nat → Nat → Nat) (cy : Nat → ClassId) (x0 : Nat) (x : Nat → Nat) (p2 : Int32) (v : Nat → Int32) (f : Nat → Nat → Int32) (hIv : XI v)  : ctIS l (dC, dI) cy yX6_name cX6_name 4 .boolean 7 191 0 0 ((Nat → Int32) × (Nat → Nat → Int32)) [.ref (x 2), .ref (x 11), .int p2] (XW cy x0 x v f) (fun r u => gsX_X6_name_1 NF p2 v f = (r, u) ∧ KV [2, 3, 4, 5, 7, 8] u.1 v ∧ KF [7] u.2 f ∧ XI u.1 ∧ u.1 0 = v 0 ∧ u.1 1 = v 1 ∧ u.1 9 = v 9 ∧ u.1 10 = v 10 ∧ u.1 31 = v 31 ∧ u.1 32 = v 32 ∧ ((r = 1) ∨ (r = 0))) (fun u => XW cy x0 x u.1 u.2) := by
  refine ctIS_of (by decide) (Nat.le_of_ble_eq_true rfl) (fun p e s m below meth c A ls Q hx hb hml hts hown hE hF hT hP hD hA hl ret => ?_)
  have hM_v : KV [2, 3, 4, 5, 7, 8] v v := fun _ _ => rfl
  have hA_f : KF [7] f f := fun _ _ => rfl
  have hown : s.vm.findClass RX6 = some m.cls := hown
  have hS : va_S A s.heap s.heap [] := va_S.rf
  have hl : lv_has ls 4 [(0, .ref (x 2)), (1, .ref (x 11)), (2, .int p2)] := hl
  refine lv_aload_n hx hb dX6_name_0 rfl (lv_at hl 0 rfl) ?_
  refine va_get (D := (dC, dI)) (ci := 6) (v := .ref (x 0)) (C := RX6) (T := TX6) (N := 7) hx hb hts inB_6 hown hE.1 hP 3 rfl rfl 0 (Nat.le_of_ble_eq_true rfl) (hts _ k_265) (fun _ h9 => h9) rfl dX6_name_1 ?_
  refine va_getN (D := (dC, dI)) (ci := 9) (v := .int (v 2)) (C := RX9) (T := TX9) (N := 6) hx hb hts inB_9 hown hE.1 hP 1 rfl rfl 2 (Nat.le_of_ble_eq_true rfl) (va_Nw.use rfl (hE.2 _ k_139)) (fun _ h9 => h9) rfl dX6_name_4 ?_
  refine lv_iconst (v := 3) hx hb dX6_name_7 rfl ?_
  refine lv_icmp_eq (tgt := 16) hx hb dX6_name_8 rfl (fun c1 => ?_) (fun c1 => ?_)
  · skip
    refine lv_iconst (v := 0) hx hb dX6_name_16 rfl ?_
    refine lv_istore_n (lv' := [(3, .int 0), (0, .ref (x 2)), (1, .ref (x 11)), (2, .int p2)]) hx hb dX6_name_17 rfl hl (Nat.le_of_ble_eq_true rfl) rfl (fun ls hl => ?_)
    have lp2 : ∀ (n2 : Nat) (l3_2 : Int32) (v2 : Nat → Int32) (f2 : Nat → Nat → Int32), XI v2 → v2 0 = (v 0) → v2 1 = (v 1) → v2 9 = (v 9) → v2 10 = (v 10) → v2 31 = (v 31) → v2 32 = (v 32) → gsX_X6_name_1_L2 NF p2 n2 l3_2 v2 f2 = (gsX_X6_name_1 NF p2 v f) → ((0 : Int) ≤ l3_2.toInt ∧ l3_2.toInt ≤ 2147483647) → KV [2, 3, 4, 5, 7, 8] v2 v → KF [7] f2 f → (2147483647 - l3_2.toInt).toNat < n2 → ∀ (H : Heap) (locs : List Loc) (ls : Array Slot), va_P (dC, dI) vwCl (XW cy x0 x v2 f2) H → va_D A (XW cy x0 x v2 f2) → va_S A s.heap H locs → lv_has ls 4 [(3, .int l3_2), (0, .ref (x 2)), (1, .ref (x 11)), (2, .int p2)] → W p l e { frames := 7, cells := 0, slots := 0, locals := 191 } s m ([.ref (x 2), .ref (x 11), .int p2] : List Value).toArray below meth c H locs 0 0 Q (F0 m 18 ls []) := by
      intro n2
      induction n2 with
      | zero => intro l3_2 v2 f2 hIv2 hq0_v2 hq1_v2 hq9_v2 hq10_v2 hq31_v2 hq32_v2 hT2 hr3_2 hM_v2 hA_f2 hm; exact absurd hm (Nat.not_lt_zero _)
      | succ n2 ih2 =>
        intro l3_2 v2 f2 hIv2 hq0_v2 hq1_v2 hq9_v2 hq10_v2 hq31_v2 hq32_v2 hT2 hr3_2 hM_v2 hA_f2 hm2 H locs ls hP hD hS hl
        refine lv_iload_n hx hb dX6_name_18 rfl (lv_at hl 0 rfl) ?_
        refine lv_iload_n hx hb dX6_name_19 rfl (lv_at hl 3 rfl) ?_
        refine lv_icmp_ge (tgt := 61) hx hb dX6_name_20 rfl (fun c3 => ?_) (fun c3 => ?_)
        · skip
          refine lv_iload_n hx hb dX6_name_61 rfl (lv_at hl 3 rfl) ?_
          refine lv_if_lt (tgt := 81) hx hb dX6_name_62 rfl (fun c6 => ?_) (fun c6 => ?_)
          · skip
            refine lv_aload_n hx hb dX6_name_81 rfl (lv_at hl 1 rfl) ?_
            refine va_get (D := (dC, dI)) (ci := 6) (v := .ref (x 0)) (C := RX6) (T := TX6) (N := 7) hx hb hts inB_6 hown hE.1 hP 3 rfl rfl 0 (Nat.le_of_ble_eq_true rfl) (hts _ k_265) (fun _ h9 => h9) rfl dX6_name_82 ?_
            refine csVv (n := 0) (rest := []) hx hb hml hown hts hE hP hD hS hA hF hT (sX_X9_advance_1 NF l dC dI cy x0 x  v2 f2 hIv2 ) k_699 k_559 k_560 k_102 k_561 hd_yX9_advance ⟨Nat.le_of_ble_eq_true rfl, Nat.le_of_ble_eq_true rfl⟩ 1 9 rfl rfl (rfl) hl.1 rfl (Nat.le_of_ble_eq_true rfl) dX6_name_85 (fun u H locs hw hP hD hS => ?_)
            obtain ⟨hG7, hw⟩ := hw
            obtain ⟨v8, f9⟩ := u
            obtain ⟨kV_v8, kF_f9, hIv8, hk0_v8, hk1_v8, hk7_v8, hk8_v8, hk9_v8, hk10_v8, hk31_v8, hk32_v8⟩ := hw
            have hM_v8 : KV [2, 3, 4, 5, 7, 8] v8 v := KV.tr kV_v8 hM_v2 rfl
            have hA_f9 : KF [7] f9 f := KF.tr kF_f9 hA_f2 rfl
            have hP : va_P (dC, dI) vwCl (XW cy x0 x v8 f9) H := hP
            have hD : va_D A (XW cy x0 x v8 f9) := hD
            refine lv_iconst (v := 1) hx hb dX6_name_88 rfl ?_
            exact ret 1 (v8, f9) _ _ _ _ _ _ rfl ⟨(hT2.symm.trans (gsX_X6_name_1_q0 c3 c6 hG7)), hM_v8, hA_f9, hIv8, (hk0_v8.trans (show v2 0 = v 0 from hq0_v2)), (hk1_v8.trans (show v2 1 = v 1 from hq1_v2)), (hk9_v8.trans (show v2 9 = v 9 from hq9_v2)), (hk10_v8.trans (show v2 10 = v 10 from hq10_v2)), (hk31_v8.trans (show v2 31 = v 31 from hq31_v2)), (hk32_v8.trans (show v2 32 = v 32 from hq32_v2)), (Or.inl rfl)⟩ hP hD hS dX6_name_89 (Nat.le_refl _) (Nat.le_refl _)
          · skip
            have zc6 : ¬ (p2.toInt < 0) := zLn rfl tc_0 c6
            refine lv_iload_n hx hb dX6_name_65 rfl (lv_at hl 3 rfl) ?_
            refine lv_aload_n hx hb dX6_name_66 rfl (lv_at hl 2 rfl) ?_
            refine va_alen (v := 6) hx hb hE.1 hP 12 1 rfl rfl rfl dX6_name_67 ?_
            refine lv_icmp_ge (tgt := 81) hx hb dX6_name_68 rfl (fun c10 => ?_) (fun c10 => ?_)
            · skip
              refine lv_aload_n hx hb dX6_name_81 rfl (lv_at hl 1 rfl) ?_
              refine va_get (D := (dC, dI)) (ci := 6) (v := .ref (x 0)) (C := RX6) (T := TX6) (N := 7) hx hb hts inB_6 hown hE.1 hP 3 rfl rfl 0 (Nat.le_of_ble_eq_true rfl) (hts _ k_265) (fun _ h9 => h9) rfl dX6_name_82 ?_
              refine csVv (n := 0) (rest := []) hx hb hml hown hts hE hP hD hS hA hF hT (sX_X9_advance_1 NF l dC dI cy x0 x  v2 f2 hIv2 ) k_699 k_559 k_560 k_102 k_561 hd_yX9_advance ⟨Nat.le_of_ble_eq_true rfl, Nat.le_of_ble_eq_true rfl⟩ 1 9 rfl rfl (rfl) hl.1 rfl (Nat.le_of_ble_eq_true rfl) dX6_name_85 (fun u H locs hw hP hD hS => ?_)
              obtain ⟨hG11, hw⟩ := hw
              obtain ⟨v12, f13⟩ := u
              obtain ⟨kV_v12, kF_f13, hIv12, hk0_v12, hk1_v12, hk7_v12, hk8_v12, hk9_v12, hk10_v12, hk31_v12, hk32_v12⟩ := hw
              have hM_v12 : KV [2, 3, 4, 5, 7, 8] v12 v := KV.tr kV_v12 hM_v2 rfl
              have hA_f13 : KF [7] f13 f := KF.tr kF_f13 hA_f2 rfl
              have hP : va_P (dC, dI) vwCl (XW cy x0 x v12 f13) H := hP
              have hD : va_D A (XW cy x0 x v12 f13) := hD
              refine lv_iconst (v := 1) hx hb dX6_name_88 rfl ?_
              exact ret 1 (v12, f13) _ _ _ _ _ _ rfl ⟨(hT2.symm.trans (gsX_X6_name_1_q1 c3 c6 c10 hG11)), hM_v12, hA_f13, hIv12, (hk0_v12.trans (show v2 0 = v 0 from hq0_v2)), (hk1_v12.trans (show v2 1 = v 1 from hq1_v2)), (hk9_v12.trans (show v2 9 = v 9 from hq9_v2)), (hk10_v12.trans (show v2 10 = v 10 from hq10_v2)), (hk31_v12.trans (show v2 31 = v 31 from hq31_v2)), (hk32_v12.trans (show v2 32 = v 32 from hq32_v2)), (Or.inl rfl)⟩ hP hD hS dX6_name_89 (Nat.le_refl _) (Nat.le_refl _)
            · skip
              have zc10 : ¬ (6 ≤ p2.toInt) := zMn tc_6 rfl c10
              refine lv_aload_n hx hb dX6_name_71 rfl (lv_at hl 2 rfl) ?_
              refine lv_iload_n hx hb dX6_name_72 rfl (lv_at hl 3 rfl) ?_
              refine lv_aload_n hx hb dX6_name_73 rfl (lv_at hl 1 rfl) ?_
              refine va_get (D := (dC, dI)) (ci := 6) (v := .ref (x 0)) (C := RX6) (T := TX6) (N := 7) hx hb hts inB_6 hown hE.1 hP 3 rfl rfl 0 (Nat.le_of_ble_eq_true rfl) (hts _ k_265) (fun _ h9 => h9) rfl dX6_name_74 ?_
              refine va_getN (D := (dC, dI)) (ci := 9) (v := .int (v2 3)) (C := RX9) (T := TX9) (N := 6) hx hb hts inB_9 hown hE.1 hP 1 rfl rfl 3 (Nat.le_of_ble_eq_true rfl) (va_Nw.use rfl (hE.2 _ k_142)) (fun _ h9 => h9) rfl dX6_name_77 ?_
              refine stI hx hb hE hP hD hS 12 rfl (vpI (k := 6) rfl (show 0 ≤ p2.toInt from om_14 zc6) (show p2.toInt < 6 from om_64 zc10)) rfl dX6_name_80 (fun H locs hP hD hS => ?_)
              obtain ⟨f14, ef14, hP, hD⟩ : ∃ fz9, fz9 = upd2 f2 7 (upd (f2 7) p2.toNatClampNeg (v2 3)) ∧ va_P (dC, dI) vwCl (XW cy x0 x v2 fz9) H ∧ va_D A (XW cy x0 x v2 fz9) := ⟨_, rfl, hP, hD⟩
              have hA_f14 : KF [7] f14 f := by rw [ef14]; exact KF.up hA_f2 rfl
              refine lv_aload_n hx hb dX6_name_81 rfl (lv_at hl 1 rfl) ?_
              refine va_get (D := (dC, dI)) (ci := 6) (v := .ref (x 0)) (C := RX6) (T := TX6) (N := 7) hx hb hts inB_6 hown hE.1 hP 3 rfl rfl 0 (Nat.le_of_ble_eq_true rfl) (hts _ k_265) (fun _ h9 => h9) rfl dX6_name_82 ?_
              refine csVv (n := 0) (rest := []) hx hb hml hown hts hE hP hD hS hA hF hT (sX_X9_advance_1 NF l dC dI cy x0 x  v2 f14 hIv2 ) k_699 k_559 k_560 k_102 k_561 hd_yX9_advance ⟨Nat.le_of_ble_eq_true rfl, Nat.le_of_ble_eq_true rfl⟩ 1 9 rfl rfl (rfl) hl.1 rfl (Nat.le_of_ble_eq_true rfl) dX6_name_85 (fun u H locs hw hP hD hS => ?_)
              obtain ⟨hG15, hw⟩ := hw
              obtain ⟨v16, f17⟩ := u
              obtain ⟨kV_v16, kF_f17, hIv16, hk0_v16, hk1_v16, hk7_v16, hk8_v16, hk9_v16, hk10_v16, hk31_v16, hk32_v16⟩ := hw
              have hM_v16 : KV [2, 3, 4, 5, 7, 8] v16 v := KV.tr kV_v16 hM_v2 rfl
              have hA_f17 : KF [7] f17 f := KF.tr kF_f17 hA_f14 rfl
              have hP : va_P (dC, dI) vwCl (XW cy x0 x v16 f17) H := hP
              have hD : va_D A (XW cy x0 x v16 f17) := hD
              refine lv_iconst (v := 1) hx hb dX6_name_88 rfl ?_
              exact ret 1 (v16, f17) _ _ _ _ _ _ rfl ⟨(hT2.symm.trans (gsX_X6_name_1_q2 c3 c6 c10 ef14 hG15)), hM_v16, hA_f17, hIv16, (hk0_v16.trans (show v2 0 = v 0 from hq0_v2)), (hk1_v16.trans (show v2 1 = v 1 from hq1_v2)), (hk9_v16.trans (show v2 9 = v 9 from hq9_v2)), (hk10_v16.trans (show v2 10 = v 10 from hq10_v2)), (hk31_v16.trans (show v2 31 = v 31 from hq31_v2)), (hk32_v16.trans (show v2 32 = v 32 from hq32_v2)), (Or.inl rfl)⟩ hP hD hS dX6_name_89 (Nat.le_refl _) (Nat.le_refl _)
        · skip
          refine lv_iload_n hx hb dX6_name_23 rfl (lv_at hl 0 rfl) ?_
          refine lv_aload_n hx hb dX6_name_24 rfl (lv_at hl 2 rfl) ?_
          refine va_alen (v := 6) hx hb hE.1 hP 12 1 rfl rfl rfl dX6_name_25 ?_
          refine lv_icmp_ge (tgt := 61) hx hb dX6_name_26 rfl (fun c20 => ?_) (fun c20 => ?_)
          · skip
            refine lv_iload_n hx hb dX6_name_61 rfl (lv_at hl 3 rfl) ?_
            refine lv_if_lt (tgt := 81) hx hb dX6_name_62 rfl (fun c21 => ?_) (fun c21 => ?_)
            · skip
              refine lv_aload_n hx hb dX6_name_81 rfl (lv_at hl 1 rfl) ?_
              refine va_get (D := (dC, dI)) (ci := 6) (v := .ref (x 0)) (C := RX6) (T := TX6) (N := 7) hx hb hts inB_6 hown hE.1 hP 3 rfl rfl 0 (Nat.le_of_ble_eq_true rfl) (hts _ k_265) (fun _ h9 => h9) rfl dX6_name_82 ?_
              refine csVv (n := 0) (rest := []) hx hb hml hown hts hE hP hD hS hA hF hT (sX_X9_advance_1 NF l dC dI cy x0 x  v2 f2 hIv2 ) k_699 k_559 k_560 k_102 k_561 hd_yX9_advance ⟨Nat.le_of_ble_eq_true rfl, Nat.le_of_ble_eq_true rfl⟩ 1 9 rfl rfl (rfl) hl.1 rfl (Nat.le_of_ble_eq_true rfl) dX6_name_85 (fun u H locs hw hP hD hS => ?_)
              obtain ⟨hG22, hw⟩ := hw
              obtain ⟨v23, f24⟩ := u
              obtain ⟨kV_v23, kF_f24, hIv23, hk0_v23, hk1_v23, hk7_v23, hk8_v23, hk9_v23, hk10_v23, hk31_v23, hk32_v23⟩ := hw
              have hM_v23 : KV [2, 3, 4, 5, 7, 8] v23 v := KV.tr kV_v23 hM_v2 rfl
              have hA_f24 : KF [7] f24 f := KF.tr kF_f24 hA_f2 rfl
              have hP : va_P (dC, dI) vwCl (XW cy x0 x v23 f24) H := hP
              have hD : va_D A (XW cy x0 x v23 f24) := hD
              refine lv_iconst (v := 1) hx hb dX6_name_88 rfl ?_
              exact ret 1 (v23, f24) _ _ _ _ _ _ rfl ⟨(hT2.symm.trans (gsX_X6_name_1_q3 c3 c20 c21 hG22)), hM_v23, hA_f24, hIv23, (hk0_v23.trans (show v2 0 = v 0 from hq0_v2)), (hk1_v23.trans (show v2 1 = v 1 from hq1_v2)), (hk9_v23.trans (show v2 9 = v 9 from hq9_v2)), (hk10_v23.trans (show v2 10 = v 10 from hq10_v2)), (hk31_v23.trans (show v2 31 = v 31 from hq31_v2)), (hk32_v23.trans (show v2 32 = v 32 from hq32_v2)), (Or.inl rfl)⟩ hP hD hS dX6_name_89 (Nat.le_refl _) (Nat.le_refl _)
            · skip
              have zc21 : ¬ (p2.toInt < 0) := zLn rfl tc_0 c21
              refine lv_iload_n hx hb dX6_name_65 rfl (lv_at hl 3 rfl) ?_
              refine lv_aload_n hx hb dX6_name_66 rfl (lv_at hl 2 rfl) ?_
              refine va_alen (v := 6) hx hb hE.1 hP 12 1 rfl rfl rfl dX6_name_67 ?_
              refine lv_icmp_ge (tgt := 81) hx hb dX6_name_68 rfl (fun c25 => ?_) (fun c25 => ?_)
              · skip
                refine lv_aload_n hx hb dX6_name_81 rfl (lv_at hl 1 rfl) ?_
                refine va_get (D := (dC, dI)) (ci := 6) (v := .ref (x 0)) (C := RX6) (T := TX6) (N := 7) hx hb hts inB_6 hown hE.1 hP 3 rfl rfl 0 (Nat.le_of_ble_eq_true rfl) (hts _ k_265) (fun _ h9 => h9) rfl dX6_name_82 ?_
                refine csVv (n := 0) (rest := []) hx hb hml hown hts hE hP hD hS hA hF hT (sX_X9_advance_1 NF l dC dI cy x0 x  v2 f2 hIv2 ) k_699 k_559 k_560 k_102 k_561 hd_yX9_advance ⟨Nat.le_of_ble_eq_true rfl, Nat.le_of_ble_eq_true rfl⟩ 1 9 rfl rfl (rfl) hl.1 rfl (Nat.le_of_ble_eq_true rfl) dX6_name_85 (fun u H locs hw hP hD hS => ?_)
                obtain ⟨hG26, hw⟩ := hw
                obtain ⟨v27, f28⟩ := u
                obtain ⟨kV_v27, kF_f28, hIv27, hk0_v27, hk1_v27, hk7_v27, hk8_v27, hk9_v27, hk10_v27, hk31_v27, hk32_v27⟩ := hw
                have hM_v27 : KV [2, 3, 4, 5, 7, 8] v27 v := KV.tr kV_v27 hM_v2 rfl
                have hA_f28 : KF [7] f28 f := KF.tr kF_f28 hA_f2 rfl
                have hP : va_P (dC, dI) vwCl (XW cy x0 x v27 f28) H := hP
                have hD : va_D A (XW cy x0 x v27 f28) := hD
                refine lv_iconst (v := 1) hx hb dX6_name_88 rfl ?_
                exact ret 1 (v27, f28) _ _ _ _ _ _ rfl ⟨(hT2.symm.trans (gsX_X6_name_1_q4 c3 c20 c21 c25 hG26)), hM_v27, hA_f28, hIv27, (hk0_v27.trans (show v2 0 = v 0 from hq0_v2)), (hk1_v27.trans (show v2 1 = v 1 from hq1_v2)), (hk9_v27.trans (show v2 9 = v 9 from hq9_v2)), (hk10_v27.trans (show v2 10 = v 10 from hq10_v2)), (hk31_v27.trans (show v2 31 = v 31 from hq31_v2)), (hk32_v27.trans (show v2 32 = v 32 from hq32_v2)), (Or.inl rfl)⟩ hP hD hS dX6_name_89 (Nat.le_refl _) (Nat.le_refl _)
              · skip
                have zc25 : ¬ (6 ≤ p2.toInt) := zMn tc_6 rfl c25
                refine lv_aload_n hx hb dX6_name_71 rfl (lv_at hl 2 rfl) ?_
                refine lv_iload_n hx hb dX6_name_72 rfl (lv_at hl 3 rfl) ?_
                refine lv_aload_n hx hb dX6_name_73 rfl (lv_at hl 1 rfl) ?_
                refine va_get (D := (dC, dI)) (ci := 6) (v := .ref (x 0)) (C := RX6) (T := TX6) (N := 7) hx hb hts inB_6 hown hE.1 hP 3 rfl rfl 0 (Nat.le_of_ble_eq_true rfl) (hts _ k_265) (fun _ h9 => h9) rfl dX6_name_74 ?_
                refine va_getN (D := (dC, dI)) (ci := 9) (v := .int (v2 3)) (C := RX9) (T := TX9) (N := 6) hx hb hts inB_9 hown hE.1 hP 1 rfl rfl 3 (Nat.le_of_ble_eq_true rfl) (va_Nw.use rfl (hE.2 _ k_142)) (fun _ h9 => h9) rfl dX6_name_77 ?_
                refine stI hx hb hE hP hD hS 12 rfl (vpI (k := 6) rfl (show 0 ≤ p2.toInt from om_14 zc21) (show p2.toInt < 6 from om_64 zc25)) rfl dX6_name_80 (fun H locs hP hD hS => ?_)
                obtain ⟨f29, ef29, hP, hD⟩ : ∃ fz9, fz9 = upd2 f2 7 (upd (f2 7) p2.toNatClampNeg (v2 3)) ∧ va_P (dC, dI) vwCl (XW cy x0 x v2 fz9) H ∧ va_D A (XW cy x0 x v2 fz9) := ⟨_, rfl, hP, hD⟩
                have hA_f29 : KF [7] f29 f := by rw [ef29]; exact KF.up hA_f2 rfl
                refine lv_aload_n hx hb dX6_name_81 rfl (lv_at hl 1 rfl) ?_
                refine va_get (D := (dC, dI)) (ci := 6) (v := .ref (x 0)) (C := RX6) (T := TX6) (N := 7) hx hb hts inB_6 hown hE.1 hP 3 rfl rfl 0 (Nat.le_of_ble_eq_true rfl) (hts _ k_265) (fun _ h9 => h9) rfl dX6_name_82 ?_
                refine csVv (n := 0) (rest := []) hx hb hml hown hts hE hP hD hS hA hF hT (sX_X9_advance_1 NF l dC dI cy x0 x  v2 f29 hIv2 ) k_699 k_559 k_560 k_102 k_561 hd_yX9_advance ⟨Nat.le_of_ble_eq_true rfl, Nat.le_of_ble_eq_true rfl⟩ 1 9 rfl rfl (rfl) hl.1 rfl (Nat.le_of_ble_eq_true rfl) dX6_name_85 (fun u H locs hw hP hD hS => ?_)
                obtain ⟨hG30, hw⟩ := hw
                obtain ⟨v31, f32⟩ := u
                obtain ⟨kV_v31, kF_f32, hIv31, hk0_v31, hk1_v31, hk7_v31, hk8_v31, hk9_v31, hk10_v31, hk31_v31, hk32_v31⟩ := hw
                have hM_v31 : KV [2, 3, 4, 5, 7, 8] v31 v := KV.tr kV_v31 hM_v2 rfl
                have hA_f32 : KF [7] f32 f := KF.tr kF_f32 hA_f29 rfl
                have hP : va_P (dC, dI) vwCl (XW cy x0 x v31 f32) H := hP
                have hD : va_D A (XW cy x0 x v31 f32) := hD
                refine lv_iconst (v := 1) hx hb dX6_name_88 rfl ?_
                exact ret 1 (v31, f32) _ _ _ _ _ _ rfl ⟨(hT2.symm.trans (gsX_X6_name_1_q5 c3 c20 c21 c25 ef29 hG30)), hM_v31, hA_f32, hIv31, (hk0_v31.trans (show v2 0 = v 0 from hq0_v2)), (hk1_v31.trans (show v2 1 = v 1 from hq1_v2)), (hk9_v31.trans (show v2 9 = v 9 from hq9_v2)), (hk10_v31.trans (show v2 10 = v 10 from hq10_v2)), (hk31_v31.trans (show v2 31 = v 31 from hq31_v2)), (hk32_v31.trans (show v2 32 = v 32 from hq32_v2)), (Or.inl rfl)⟩ hP hD hS dX6_name_89 (Nat.le_refl _) (Nat.le_refl _)
          · skip
            have zc20 : ¬ (6 ≤ l3_2.toInt) := zMn tc_6 rfl c20
            refine lv_aload_n hx hb dX6_name_29 rfl (lv_at hl 1 rfl) ?_
            refine va_get (D := (dC, dI)) (ci := 6) (v := .ref (x 0)) (C := RX6) (T := TX6) (N := 7) hx hb hts inB_6 hown hE.1 hP 3 rfl rfl 0 (Nat.le_of_ble_eq_true rfl) (hts _ k_265) (fun _ h9 => h9) rfl dX6_name_30 ?_
            refine lv_aload_n hx hb dX6_name_33 rfl (lv_at hl 2 rfl) ?_
            refine lv_iload_n hx hb dX6_name_34 rfl (lv_at hl 0 rfl) ?_
            refine ldI hx hb hE hP 12 rfl (vpI (k := 6) rfl (show 0 ≤ l3_2.toInt from om_39 hr3_2) (show l3_2.toInt < 6 from om_64 zc20)) rfl rfl dX6_name_35 ?_
            refine lv_topi (fun t33 et33 => ?_)
            refine lv_aload_n hx hb dX6_name_36 rfl (lv_at hl 1 rfl) ?_
            refine va_get (D := (dC, dI)) (ci := 6) (v := .ref (x 0)) (C := RX6) (T := TX6) (N := 7) hx hb hts inB_6 hown hE.1 hP 3 rfl rfl 0 (Nat.le_of_ble_eq_true rfl) (hts _ k_265) (fun _ h9 => h9) rfl dX6_name_37 ?_
            refine va_getN (D := (dC, dI)) (ci := 9) (v := .int (v2 3)) (C := RX9) (T := TX9) (N := 6) hx hb hts inB_9 hown hE.1 hP 1 rfl rfl 3 (Nat.le_of_ble_eq_true rfl) (va_Nw.use rfl (hE.2 _ k_142)) (fun _ h9 => h9) rfl dX6_name_40 ?_
            refine cbVi (n := 2) (rest := []) hx hb hml hown hts hE hP hD hS hA (sX_X9_sameWord_1 NF l dC dI cy x0 x t33 (v2 3) v2 f2 hIv2 ) k_704 k_705 k_706 k_102 k_707 hd_yX9_sameWord ⟨Nat.le_of_ble_eq_true rfl, Nat.le_of_ble_eq_true rfl⟩ 1 9 rfl rfl (rfl) hl.1 rfl (Nat.le_of_ble_eq_true rfl) dX6_name_43 (fun r34 u H locs hw hP hD hS => ?_)
            obtain ⟨hG35, hw⟩ := hw
            rcases hw with ⟨g36⟩ | ⟨g36⟩
            · skip
              subst g36
              refine lv_if_eq (tgt := 55) hx hb dX6_name_46 rfl (fun c0 => absurd c0 (by decide)) (fun _ => ?_)
              refine lv_aload_n hx hb dX6_name_49 rfl (lv_at hl 1 rfl) ?_
              refine lv_iconst (v := 3) hx hb dX6_name_50 rfl ?_
              refine cbVi (n := 1) (rest := []) hx hb hml hown hts hE hP hD hS hA (sX_X6_refuseAs_1 NF l dC dI cy x0 x 3 v2 f2 hIv2 ) k_695 k_697 k_7 k_103 k_698 hd_yX6_refuseAs ⟨Nat.le_of_ble_eq_true rfl, Nat.le_of_ble_eq_true rfl⟩ 3 6 rfl rfl (rfl) hl.1 rfl (Nat.le_of_ble_eq_true rfl) dX6_name_51 (fun r37 u H locs hw hP hD hS => ?_)
              obtain ⟨hG38, hw⟩ := hw
              obtain ⟨v39, f40⟩ := u
              obtain ⟨kV_v39, kF_f40, hIv39, hk0_v39, hk1_v39, hk9_v39, hk10_v39, hk31_v39, hk32_v39, hw⟩ := hw
              have hM_v39 : KV [2, 3, 4, 5, 7, 8] v39 v := KV.tr kV_v39 hM_v2 rfl
              have hA_f40 : KF [7] f40 f := KF.tr kF_f40 hA_f2 rfl
              have hP : va_P (dC, dI) vwCl (XW cy x0 x v39 f40) H := hP
              have hD : va_D A (XW cy x0 x v39 f40) := hD
              rcases hw with ⟨g41⟩ | ⟨g41⟩
              · skip
                subst g41
                exact ret 1 (v39, f40) _ _ _ _ _ _ rfl ⟨(hT2.symm.trans (gsX_X6_name_1_q6 c3 c20 et33 hG35 hG38)), hM_v39, hA_f40, hIv39, (hk0_v39.trans (show v2 0 = v 0 from hq0_v2)), (hk1_v39.trans (show v2 1 = v 1 from hq1_v2)), (hk9_v39.trans (show v2 9 = v 9 from hq9_v2)), (hk10_v39.trans (show v2 10 = v 10 from hq10_v2)), (hk31_v39.trans (show v2 31 = v 31 from hq31_v2)), (hk32_v39.trans (show v2 32 = v 32 from hq32_v2)), (Or.inl rfl)⟩ hP hD hS dX6_name_54 (Nat.le_refl _) (Nat.le_refl _)
              · skip
                subst g41
                exact ret 0 (v39, f40) _ _ _ _ _ _ rfl ⟨(hT2.symm.trans (gsX_X6_name_1_q7 c3 c20 et33 hG35 hG38)), hM_v39, hA_f40, hIv39, (hk0_v39.trans (show v2 0 = v 0 from hq0_v2)), (hk1_v39.trans (show v2 1 = v 1 from hq1_v2)), (hk9_v39.trans (show v2 9 = v 9 from hq9_v2)), (hk10_v39.trans (show v2 10 = v 10 from hq10_v2)), (hk31_v39.trans (show v2 31 = v 31 from hq31_v2)), (hk32_v39.trans (show v2 32 = v 32 from hq32_v2)), (Or.inr rfl)⟩ hP hD hS dX6_name_54 (Nat.le_refl _) (Nat.le_refl _)
            · skip
              subst g36
              refine lv_if_eq (tgt := 55) hx hb dX6_name_46 rfl (fun _ => ?_) (fun c0 => absurd (by decide) c0)
              obtain ⟨t42, et42⟩ : ∃ y : Int32, y = l3_2 + 1 := ⟨_, rfl⟩
              have zt42 : t42.toInt = l3_2.toInt + 1 := (congrArg Int32.toInt et42).trans (add_i rfl tc_1 (om_41 hr3_2) (om_65 zc20))
              refine lv_iinc (v := t42) (lv' := [(3, .int t42), (0, .ref (x 2)), (1, .ref (x 11)), (2, .int p2)]) hx hb dX6_name_55 hl (k := 0) rfl et42.symm (Nat.le_of_ble_eq_true rfl) rfl (fun ls hl => ?_)
              refine lv_goto (tgt := 18) hx hb dX6_name_58 rfl ?_
              have rg43 := fb_rng t42
              exact ih2 t42 v2 f2 hIv2 hq0_v2 hq1_v2 hq9_v2 hq10_v2 hq31_v2 hq32_v2 ((gsX_X6_name_1_q8 c3 c20 et33 hG35 et42).symm.trans hT2) ⟨show (0 : Int) ≤ t42.toInt from om_43 hr3_2 zt42, show t42.toInt ≤ (2147483647 : Int) from om_44 rg43⟩ hM_v2 hA_f2 (show (2147483647 - t42.toInt).toNat < n2 from om_33 hm2 zt42 rg43) _ _ _ hP hD hS (lv_sub hl [0, 1, 2, 3] rfl)
    exact lp2 (4294967296 + NF) 0 v f hIv rfl rfl rfl rfl rfl rfl (gsX_X6_name_1_q9 c1).symm ⟨by decide, by decide⟩ hM_v hA_f (show (2147483647 - (0 : Int32).toInt).toNat < 4294967296 + NF from om_38 tc_0) _ _ _ hP hD hS (lv_sub hl [0, 1, 2, 3] rfl)
  · skip
    refine lv_aload_n hx hb dX6_name_11 rfl (lv_at hl 0 rfl) ?_
    refine cbVi (n := 0) (rest := []) hx hb hml hown hts hE hP hD hS hA (sX_X6_refuse_1 NF l dC dI cy x0 x  v f hIv ) k_691 k_693 k_6 k_103 k_694 hd_yX6_refuse ⟨Nat.le_of_ble_eq_true rfl, Nat.le_of_ble_eq_true rfl⟩ 3 6 rfl rfl (rfl) hl.1 rfl (Nat.le_of_ble_eq_true rfl) dX6_name_12 (fun r44 u H locs hw hP hD hS => ?_)
    obtain ⟨hG45, hw⟩ := hw
    obtain ⟨v46, f47⟩ := u
    obtain ⟨kV_v46, kF_f47, hIv46, hk0_v46, hk1_v46, hk9_v46, hk10_v46, hk31_v46, hk32_v46, hw⟩ := hw
    have hM_v46 : KV [2, 3, 4, 5, 7, 8] v46 v := KV.tr kV_v46 hM_v rfl
    have hA_f47 : KF [7] f47 f := KF.tr kF_f47 hA_f rfl
    have hP : va_P (dC, dI) vwCl (XW cy x0 x v46 f47) H := hP
    have hD : va_D A (XW cy x0 x v46 f47) := hD
    rcases hw with ⟨g48⟩ | ⟨g48⟩
    · skip
      subst g48
      exact ret 1 (v46, f47) _ _ _ _ _ _ rfl ⟨(gsX_X6_name_1_q10 c1 hG45), hM_v46, hA_f47, hIv46, hk0_v46, hk1_v46, hk9_v46, hk10_v46, hk31_v46, hk32_v46, (Or.inl rfl)⟩ hP hD hS dX6_name_15 (Nat.le_refl _) (Nat.le_refl _)
    · skip
      subst g48
      exact ret 0 (v46, f47) _ _ _ _ _ _ rfl ⟨(gsX_X6_name_1_q11 c1 hG45), hM_v46, hA_f47, hIv46, hk0_v46, hk1_v46, hk9_v46, hk10_v46, hk31_v46, hk32_v46, (Or.inr rfl)⟩ hP hD hS dX6_name_15 (Nat.le_refl _) (Nat.le_refl _)
set_option maxHeartbeats 4000000 in
set_option maxRecDepth 100000 in
theorem sX_X6_numbered_1 (NF : Nat) (l : Launch) (dC : Nat → ClassId) (dI : Nat → Nat → Nat) (cy : Nat → ClassId) (x0 : Nat) (x : Nat → Nat) (p1 : Int32) (v : Nat → Int32) (f : Nat → Nat → Int32) (hIv : XI v)  : ctIS l (dC, dI) cy yX6_numbered cX6_numbered 3 .int 7 191 0 0 ((Nat → Int32) × (Nat → Nat → Int32)) [.ref (x 2), .int p1] (XW cy x0 x v f) (fun r u => gsX_X6_numbered_1 NF p1 v f = (r, u) ∧ KV [2, 3, 4, 5, 7, 8] u.1 v ∧ KF [] u.2 f ∧ XI u.1 ∧ u.1 0 = v 0 ∧ u.1 1 = v 1 ∧ u.1 9 = v 9 ∧ u.1 10 = v 10 ∧ u.1 31 = v 31 ∧ u.1 32 = v 32) (fun u => XW cy x0 x u.1 u.2) := by
  refine ctIS_of (by decide) (Nat.le_of_ble_eq_true rfl) (fun p e s m below meth c A ls Q hx hb hml hts hown hE hF hT hP hD hA hl ret => ?_)
  have hM_v : KV [2, 3, 4, 5, 7, 8] v v := fun _ _ => rfl
  have hA_f : KF [] f f := fun _ _ => rfl
  have hown : s.vm.findClass RX6 = some m.cls := hown
  have hS : va_S A s.heap s.heap [] := va_S.rf
  have hl : lv_has ls 3 [(0, .ref (x 2)), (1, .int p1)] := hl
  refine lv_aload_n hx hb dX6_numbered_0 rfl (lv_at hl 0 rfl) ?_
  refine va_get (D := (dC, dI)) (ci := 6) (v := .ref (x 0)) (C := RX6) (T := TX6) (N := 7) hx hb hts inB_6 hown hE.1 hP 3 rfl rfl 0 (Nat.le_of_ble_eq_true rfl) (hts _ k_265) (fun _ h9 => h9) rfl dX6_numbered_1 ?_
  refine va_getN (D := (dC, dI)) (ci := 9) (v := .int (v 5)) (C := RX9) (T := TX9) (N := 6) hx hb hts inB_9 hown hE.1 hP 1 rfl rfl 5 (Nat.le_of_ble_eq_true rfl) (va_Nw.use rfl (hE.2 _ k_145)) (fun _ h9 => h9) rfl dX6_numbered_4 ?_
  refine lv_istore_n (lv' := [(2, .int (v 5)), (0, .ref (x 2)), (1, .int p1)]) hx hb dX6_numbered_7 rfl hl (Nat.le_of_ble_eq_true rfl) rfl (fun ls hl => ?_)
  refine lv_aload_n hx hb dX6_numbered_8 rfl (lv_at hl 1 rfl) ?_
  refine va_get (D := (dC, dI)) (ci := 6) (v := .ref (x 0)) (C := RX6) (T := TX6) (N := 7) hx hb hts inB_6 hown hE.1 hP 3 rfl rfl 0 (Nat.le_of_ble_eq_true rfl) (hts _ k_265) (fun _ h9 => h9) rfl dX6_numbered_9 ?_
  refine va_getN (D := (dC, dI)) (ci := 9) (v := .int (v 2)) (C := RX9) (T := TX9) (N := 6) hx hb hts inB_9 hown hE.1 hP 1 rfl rfl 2 (Nat.le_of_ble_eq_true rfl) (va_Nw.use rfl (hE.2 _ k_139)) (fun _ h9 => h9) rfl dX6_numbered_12 ?_
  refine lv_iconst (v := 2) hx hb dX6_numbered_15 rfl ?_
  refine lv_icmp_eq (tgt := 26) hx hb dX6_numbered_16 rfl (fun c1 => ?_) (fun c1 => ?_)
  · skip
    refine lv_iload_n hx hb dX6_numbered_26 rfl (lv_at hl 0 rfl) ?_
    refine lv_iload_n hx hb dX6_numbered_27 rfl (lv_at hl 2 rfl) ?_
    refine lv_icmp_le (tgt := 39) hx hb dX6_numbered_28 rfl (fun c2 => ?_) (fun c2 => ?_)
    · skip
      refine lv_aload_n hx hb dX6_numbered_39 rfl (lv_at hl 1 rfl) ?_
      refine va_get (D := (dC, dI)) (ci := 6) (v := .ref (x 0)) (C := RX6) (T := TX6) (N := 7) hx hb hts inB_6 hown hE.1 hP 3 rfl rfl 0 (Nat.le_of_ble_eq_true rfl) (hts _ k_265) (fun _ h9 => h9) rfl dX6_numbered_40 ?_
      refine csVv (n := 0) (rest := []) hx hb hml hown hts hE hP hD hS hA hF hT (sX_X9_advance_1 NF l dC dI cy x0 x  v f hIv ) k_699 k_559 k_560 k_102 k_561 hd_yX9_advance ⟨Nat.le_of_ble_eq_true rfl, Nat.le_of_ble_eq_true rfl⟩ 1 9 rfl rfl (rfl) hl.1 rfl (Nat.le_of_ble_eq_true rfl) dX6_numbered_43 (fun u H locs hw hP hD hS => ?_)
      obtain ⟨hG5, hw⟩ := hw
      obtain ⟨v6, f7⟩ := u
      obtain ⟨kV_v6, kF_f7, hIv6, hk0_v6, hk1_v6, hk7_v6, hk8_v6, hk9_v6, hk10_v6, hk31_v6, hk32_v6⟩ := hw
      have hM_v6 : KV [2, 3, 4, 5, 7, 8] v6 v := KV.tr kV_v6 hM_v rfl
      have hA_f7 : KF [] f7 f := KF.tr kF_f7 hA_f rfl
      have hP : va_P (dC, dI) vwCl (XW cy x0 x v6 f7) H := hP
      have hD : va_D A (XW cy x0 x v6 f7) := hD
      refine lv_iload_n hx hb dX6_numbered_46 rfl (lv_at hl 0 rfl) ?_
      exact ret (v 5) (v6, f7) _ _ _ _ _ _ rfl ⟨(gsX_X6_numbered_1_q0 c1 c2 hG5), hM_v6, hA_f7, hIv6, hk0_v6, hk1_v6, hk9_v6, hk10_v6, hk31_v6, hk32_v6⟩ hP hD hS dX6_numbered_47 (Nat.le_refl _) (Nat.le_refl _)
    · skip
      refine lv_aload_n hx hb dX6_numbered_31 rfl (lv_at hl 1 rfl) ?_
      refine lv_iconst (v := 4) hx hb dX6_numbered_32 rfl ?_
      refine cbVi (n := 1) (rest := []) hx hb hml hown hts hE hP hD hS hA (sX_X6_refuseAs_1 NF l dC dI cy x0 x 4 v f hIv ) k_695 k_697 k_7 k_103 k_698 hd_yX6_refuseAs ⟨Nat.le_of_ble_eq_true rfl, Nat.le_of_ble_eq_true rfl⟩ 3 6 rfl rfl (rfl) hl.1 rfl (Nat.le_of_ble_eq_true rfl) dX6_numbered_33 (fun r10 u H locs hw hP hD hS => ?_)
      obtain ⟨hG11, hw⟩ := hw
      obtain ⟨v12, f13⟩ := u
      obtain ⟨kV_v12, kF_f13, hIv12, hk0_v12, hk1_v12, hk9_v12, hk10_v12, hk31_v12, hk32_v12, hw⟩ := hw
      have hM_v12 : KV [2, 3, 4, 5, 7, 8] v12 v := KV.tr kV_v12 hM_v rfl
      have hA_f13 : KF [] f13 f := KF.tr kF_f13 hA_f rfl
      have hP : va_P (dC, dI) vwCl (XW cy x0 x v12 f13) H := hP
      have hD : va_D A (XW cy x0 x v12 f13) := hD
      rcases hw with ⟨g14⟩ | ⟨g14⟩
      · skip
        subst g14
        refine lv_pop hx hb dX6_numbered_36 rfl ?_
        refine lv_iconst (v := (-1)) hx hb dX6_numbered_37 rfl ?_
        exact ret (-1) (v12, f13) _ _ _ _ _ _ rfl ⟨(gsX_X6_numbered_1_q1 c1 c2 hG11), hM_v12, hA_f13, hIv12, hk0_v12, hk1_v12, hk9_v12, hk10_v12, hk31_v12, hk32_v12⟩ hP hD hS dX6_numbered_38 (Nat.le_refl _) (Nat.le_refl _)
      · skip
        subst g14
        refine lv_pop hx hb dX6_numbered_36 rfl ?_
        refine lv_iconst (v := (-1)) hx hb dX6_numbered_37 rfl ?_
        exact ret (-1) (v12, f13) _ _ _ _ _ _ rfl ⟨(gsX_X6_numbered_1_q2 c1 c2 hG11), hM_v12, hA_f13, hIv12, hk0_v12, hk1_v12, hk9_v12, hk10_v12, hk31_v12, hk32_v12⟩ hP hD hS dX6_numbered_38 (Nat.le_refl _) (Nat.le_refl _)
  · skip
    refine lv_aload_n hx hb dX6_numbered_19 rfl (lv_at hl 1 rfl) ?_
    refine cbVi (n := 0) (rest := []) hx hb hml hown hts hE hP hD hS hA (sX_X6_refuse_1 NF l dC dI cy x0 x  v f hIv ) k_691 k_693 k_6 k_103 k_694 hd_yX6_refuse ⟨Nat.le_of_ble_eq_true rfl, Nat.le_of_ble_eq_true rfl⟩ 3 6 rfl rfl (rfl) hl.1 rfl (Nat.le_of_ble_eq_true rfl) dX6_numbered_20 (fun r15 u H locs hw hP hD hS => ?_)
    obtain ⟨hG16, hw⟩ := hw
    obtain ⟨v17, f18⟩ := u
    obtain ⟨kV_v17, kF_f18, hIv17, hk0_v17, hk1_v17, hk9_v17, hk10_v17, hk31_v17, hk32_v17, hw⟩ := hw
    have hM_v17 : KV [2, 3, 4, 5, 7, 8] v17 v := KV.tr kV_v17 hM_v rfl
    have hA_f18 : KF [] f18 f := KF.tr kF_f18 hA_f rfl
    have hP : va_P (dC, dI) vwCl (XW cy x0 x v17 f18) H := hP
    have hD : va_D A (XW cy x0 x v17 f18) := hD
    rcases hw with ⟨g19⟩ | ⟨g19⟩
    · skip
      subst g19
      refine lv_pop hx hb dX6_numbered_23 rfl ?_
      refine lv_iconst (v := (-1)) hx hb dX6_numbered_24 rfl ?_
      exact ret (-1) (v17, f18) _ _ _ _ _ _ rfl ⟨(gsX_X6_numbered_1_q3 c1 hG16), hM_v17, hA_f18, hIv17, hk0_v17, hk1_v17, hk9_v17, hk10_v17, hk31_v17, hk32_v17⟩ hP hD hS dX6_numbered_25 (Nat.le_refl _) (Nat.le_refl _)
    · skip
      subst g19
      refine lv_pop hx hb dX6_numbered_23 rfl ?_
      refine lv_iconst (v := (-1)) hx hb dX6_numbered_24 rfl ?_
      exact ret (-1) (v17, f18) _ _ _ _ _ _ rfl ⟨(gsX_X6_numbered_1_q4 c1 hG16), hM_v17, hA_f18, hIv17, hk0_v17, hk1_v17, hk9_v17, hk10_v17, hk31_v17, hk32_v17⟩ hP hD hS dX6_numbered_25 (Nat.le_refl _) (Nat.le_refl _)
set_option maxHeartbeats 4000000 in
set_option maxRecDepth 100000 in
theorem sX_X6_labelled_1 (NF : Nat) (l : Launch) (dC : Nat → ClassId) (dI : Nat → Nat → Nat) (cy : Nat → ClassId) (x0 : Nat) (x : Nat → Nat) (p1 : Int32) (p2 : Int32) (v : Nat → Int32) (f : Nat → Nat → Int32) (hIv : XI v)  : ctIS l (dC, dI) cy yX6_labelled cX6_labelled 3 .int 8 213 0 0 ((Nat → Int32) × (Nat → Nat → Int32)) [.ref (x 2), .int p1, .int p2] (XW cy x0 x v f) (fun r u => gsX_X6_labelled_1 NF p1 p2 v f = (r, u) ∧ KV [2, 3, 4, 5, 7, 8] u.1 v ∧ KF [] u.2 f ∧ XI u.1 ∧ u.1 0 = v 0 ∧ u.1 1 = v 1 ∧ u.1 9 = v 9 ∧ u.1 10 = v 10 ∧ u.1 31 = v 31 ∧ u.1 32 = v 32) (fun u => XW cy x0 x u.1 u.2) := by
  refine ctIS_of (by decide) (Nat.le_of_ble_eq_true rfl) (fun p e s m below meth c A ls Q hx hb hml hts hown hE hF hT hP hD hA hl ret => ?_)
  have hM_v : KV [2, 3, 4, 5, 7, 8] v v := fun _ _ => rfl
  have hA_f : KF [] f f := fun _ _ => rfl
  have hown : s.vm.findClass RX6 = some m.cls := hown
  have hS : va_S A s.heap s.heap [] := va_S.rf
  have hl : lv_has ls 3 [(0, .ref (x 2)), (1, .int p1), (2, .int p2)] := hl
  refine lv_aload_n hx hb dX6_labelled_0 rfl (lv_at hl 0 rfl) ?_
  refine va_get (D := (dC, dI)) (ci := 6) (v := .ref (x 0)) (C := RX6) (T := TX6) (N := 7) hx hb hts inB_6 hown hE.1 hP 3 rfl rfl 0 (Nat.le_of_ble_eq_true rfl) (hts _ k_265) (fun _ h9 => h9) rfl dX6_labelled_1 ?_
  refine va_getN (D := (dC, dI)) (ci := 9) (v := .int (v 2)) (C := RX9) (T := TX9) (N := 6) hx hb hts inB_9 hown hE.1 hP 1 rfl rfl 2 (Nat.le_of_ble_eq_true rfl) (va_Nw.use rfl (hE.2 _ k_139)) (fun _ h9 => h9) rfl dX6_labelled_4 ?_
  refine lv_iload_n hx hb dX6_labelled_7 rfl (lv_at hl 1 rfl) ?_
  refine lv_icmp_eq (tgt := 18) hx hb dX6_labelled_8 rfl (fun c1 => ?_) (fun c1 => ?_)
  · skip
    refine lv_aload_n hx hb dX6_labelled_18 rfl (lv_at hl 0 rfl) ?_
    refine va_get (D := (dC, dI)) (ci := 6) (v := .ref (x 0)) (C := RX6) (T := TX6) (N := 7) hx hb hts inB_6 hown hE.1 hP 3 rfl rfl 0 (Nat.le_of_ble_eq_true rfl) (hts _ k_265) (fun _ h9 => h9) rfl dX6_labelled_19 ?_
    refine csVv (n := 0) (rest := []) hx hb hml hown hts hE hP hD hS hA hF hT (sX_X9_advance_1 NF l dC dI cy x0 x  v f hIv ) k_699 k_559 k_560 k_102 k_561 hd_yX9_advance ⟨Nat.le_of_ble_eq_true rfl, Nat.le_of_ble_eq_true rfl⟩ 1 9 rfl rfl (rfl) hl.1 rfl (Nat.le_of_ble_eq_true rfl) dX6_labelled_22 (fun u H locs hw hP hD hS => ?_)
    obtain ⟨hG4, hw⟩ := hw
    obtain ⟨v5, f6⟩ := u
    obtain ⟨kV_v5, kF_f6, hIv5, hk0_v5, hk1_v5, hk7_v5, hk8_v5, hk9_v5, hk10_v5, hk31_v5, hk32_v5⟩ := hw
    have hM_v5 : KV [2, 3, 4, 5, 7, 8] v5 v := KV.tr kV_v5 hM_v rfl
    have hA_f6 : KF [] f6 f := KF.tr kF_f6 hA_f rfl
    have hP : va_P (dC, dI) vwCl (XW cy x0 x v5 f6) H := hP
    have hD : va_D A (XW cy x0 x v5 f6) := hD
    refine lv_aload_n hx hb dX6_labelled_25 rfl (lv_at hl 0 rfl) ?_
    refine lv_iload_n hx hb dX6_labelled_26 rfl (lv_at hl 2 rfl) ?_
    refine csVi (n := 1) (rest := []) hx hb hml hown hts hE hP hD hS hA hF hT (sX_X6_numbered_1 NF l dC dI cy x0 x p2 v5 f6 hIv5 ) k_712 k_714 k_10 k_103 k_715 hd_yX6_numbered ⟨Nat.le_of_ble_eq_true rfl, Nat.le_of_ble_eq_true rfl⟩ 3 6 rfl rfl (rfl) hl.1 rfl (Nat.le_of_ble_eq_true rfl) dX6_labelled_27 (fun r7 u H locs hw hP hD hS => ?_)
    obtain ⟨hG8, hw⟩ := hw
    obtain ⟨v9, f10⟩ := u
    obtain ⟨kV_v9, kF_f10, hIv9, hk0_v9, hk1_v9, hk9_v9, hk10_v9, hk31_v9, hk32_v9⟩ := hw
    have hM_v9 : KV [2, 3, 4, 5, 7, 8] v9 v := KV.tr kV_v9 hM_v5 rfl
    have hA_f10 : KF [] f10 f := KF.tr kF_f10 hA_f6 rfl
    have hP : va_P (dC, dI) vwCl (XW cy x0 x v9 f10) H := hP
    have hD : va_D A (XW cy x0 x v9 f10) := hD
    exact ret r7 (v9, f10) _ _ _ _ _ _ rfl ⟨(gsX_X6_labelled_1_q0 c1 hG4 hG8), hM_v9, hA_f10, hIv9, (hk0_v9.trans hk0_v5), (hk1_v9.trans hk1_v5), (hk9_v9.trans hk9_v5), (hk10_v9.trans hk10_v5), (hk31_v9.trans hk31_v5), (hk32_v9.trans hk32_v5)⟩ hP hD hS dX6_labelled_30 (Nat.le_refl _) (Nat.le_refl _)
  · skip
    refine lv_aload_n hx hb dX6_labelled_11 rfl (lv_at hl 0 rfl) ?_
    refine cbVi (n := 0) (rest := []) hx hb hml hown hts hE hP hD hS hA (sX_X6_refuse_1 NF l dC dI cy x0 x  v f hIv ) k_691 k_693 k_6 k_103 k_694 hd_yX6_refuse ⟨Nat.le_of_ble_eq_true rfl, Nat.le_of_ble_eq_true rfl⟩ 3 6 rfl rfl (rfl) hl.1 rfl (Nat.le_of_ble_eq_true rfl) dX6_labelled_12 (fun r13 u H locs hw hP hD hS => ?_)
    obtain ⟨hG14, hw⟩ := hw
    obtain ⟨v15, f16⟩ := u
    obtain ⟨kV_v15, kF_f16, hIv15, hk0_v15, hk1_v15, hk9_v15, hk10_v15, hk31_v15, hk32_v15, hw⟩ := hw
    have hM_v15 : KV [2, 3, 4, 5, 7, 8] v15 v := KV.tr kV_v15 hM_v rfl
    have hA_f16 : KF [] f16 f := KF.tr kF_f16 hA_f rfl
    have hP : va_P (dC, dI) vwCl (XW cy x0 x v15 f16) H := hP
    have hD : va_D A (XW cy x0 x v15 f16) := hD
    rcases hw with ⟨g17⟩ | ⟨g17⟩
    · skip
      subst g17
      refine lv_pop hx hb dX6_labelled_15 rfl ?_
      refine lv_iconst (v := (-1)) hx hb dX6_labelled_16 rfl ?_
      exact ret (-1) (v15, f16) _ _ _ _ _ _ rfl ⟨(gsX_X6_labelled_1_q1 c1 hG14), hM_v15, hA_f16, hIv15, hk0_v15, hk1_v15, hk9_v15, hk10_v15, hk31_v15, hk32_v15⟩ hP hD hS dX6_labelled_17 (Nat.le_refl _) (Nat.le_refl _)
    · skip
      subst g17
      refine lv_pop hx hb dX6_labelled_15 rfl ?_
      refine lv_iconst (v := (-1)) hx hb dX6_labelled_16 rfl ?_
      exact ret (-1) (v15, f16) _ _ _ _ _ _ rfl ⟨(gsX_X6_labelled_1_q2 c1 hG14), hM_v15, hA_f16, hIv15, hk0_v15, hk1_v15, hk9_v15, hk10_v15, hk31_v15, hk32_v15⟩ hP hD hS dX6_labelled_17 (Nat.le_refl _) (Nat.le_refl _)
set_option maxHeartbeats 4000000 in
set_option maxRecDepth 100000 in
theorem sX_X7_addMan_1 (NF : Nat) (l : Launch) (dC : Nat → ClassId) (dI : Nat → Nat → Nat) (cy : Nat → ClassId) (x0 : Nat) (x : Nat → Nat) (p1 : Int32) (p2 : Int32) (p3 : Int32) (v : Nat → Int32) (f : Nat → Nat → Int32) (hIv : XI v)  : ctV l (dC, dI) cy yX7_addMan cX7_addMan 4 1 60 0 0 ((Nat → Int32) × (Nat → Nat → Int32)) [.ref (x 3), .int p1, .int p2, .int p3] (XW cy x0 x v f) (fun u => gsX_X7_addMan_1 NF p1 p2 p3 v f = u ∧ KV [9] u.1 v ∧ KF [1] u.2 f ∧ XI u.1 ∧ u.1 0 = v 0 ∧ u.1 1 = v 1 ∧ u.1 7 = v 7 ∧ u.1 8 = v 8 ∧ u.1 10 = v 10 ∧ u.1 32 = v 32) (fun u => XW cy x0 x u.1 u.2) := by
  refine ctV_of (by decide) (Nat.le_of_ble_eq_true rfl) (fun p e s m below meth c A ls Q hx hb hml hts hown hnm hE hP hD hA hl ret => ?_)
  have hM_v : KV [9] v v := fun _ _ => rfl
  have hA_f : KF [1] f f := fun _ _ => rfl
  have hown : s.vm.findClass RX7 = some m.cls := hown
  have hS : va_S A s.heap s.heap [] := va_S.rf
  have hl : lv_has ls 4 [(0, .ref (x 3)), (1, .int p1), (2, .int p2), (3, .int p3)] := hl
  refine lv_aload_n hx hb dX7_addMan_0 rfl (lv_at hl 0 rfl) ?_
  refine va_get (D := (dC, dI)) (ci := 7) (v := .int (v 9)) (C := RX7) (T := TX7) (N := 10) hx hb hts inB_7 hown hE.1 hP 4 rfl rfl 3 (Nat.le_of_ble_eq_true rfl) (hts _ k_212) (fun _ h9 => h9) rfl dX7_addMan_1 ?_
  have b9_v : 0 ≤ (v 9).toInt ∧ (v 9).toInt ≤ 6 := Xb_9 hIv
  refine lv_bipush (v := 6) hx hb dX7_addMan_4 rfl ?_
  refine lv_icmp_ge (tgt := 57) hx hb dX7_addMan_6 rfl (fun c1 => ?_) (fun c1 => ?_)
  · skip
    exact ret (v, f) _ _ _ _ _ _ ⟨(gsX_X7_addMan_1_q0 c1), hM_v, hA_f, hIv, rfl, rfl, rfl, rfl, rfl, rfl⟩ hP hD hS dX7_addMan_57 (Nat.le_refl _) (Nat.le_refl _)
  · skip
    have zc1 : ¬ (6 ≤ (v 9).toInt) := zMn tc_6 rfl c1
    refine lv_aload_n hx hb dX7_addMan_9 rfl (lv_at hl 0 rfl) ?_
    refine va_get (D := (dC, dI)) (ci := 7) (v := .ref (x 4)) (C := RX7) (T := TX7) (N := 10) hx hb hts inB_7 hown hE.1 hP 4 rfl rfl 0 (Nat.le_of_ble_eq_true rfl) (hts _ k_204) (fun _ h9 => h9) rfl dX7_addMan_10 ?_
    refine lv_iconst (v := 0) hx hb dX7_addMan_13 rfl ?_
    refine lv_aload_n hx hb dX7_addMan_14 rfl (lv_at hl 0 rfl) ?_
    refine va_get (D := (dC, dI)) (ci := 7) (v := .int (v 9)) (C := RX7) (T := TX7) (N := 10) hx hb hts inB_7 hown hE.1 hP 4 rfl rfl 3 (Nat.le_of_ble_eq_true rfl) (hts _ k_212) (fun _ h9 => h9) rfl dX7_addMan_15 ?_
    refine lv_iadd hx hb dX7_addMan_18 ?_
    refine lv_topi (fun t2 et2 => ?_)
    have zt2 : t2.toInt = 0 + (v 9).toInt := (congrArg Int32.toInt et2).trans (add_i tc_0 rfl (om_66 b9_v) (om_67 zc1))
    refine lv_iload_n hx hb dX7_addMan_19 rfl (lv_at hl 1 rfl) ?_
    refine stI hx hb hE hP hD hS 5 rfl (vpI (k := 18) rfl (show 0 ≤ t2.toInt from om_68 b9_v zt2) (show t2.toInt < 18 from om_69 zc1 zt2)) rfl dX7_addMan_20 (fun H locs hP hD hS => ?_)
    obtain ⟨f4, ef4, hP, hD⟩ : ∃ fz9, fz9 = upd2 f 1 (upd (f 1) t2.toNatClampNeg p1) ∧ va_P (dC, dI) vwCl (XW cy x0 x v fz9) H ∧ va_D A (XW cy x0 x v fz9) := ⟨_, rfl, hP, hD⟩
    have hA_f4 : KF [1] f4 f := by rw [ef4]; exact KF.up hA_f rfl
    refine lv_aload_n hx hb dX7_addMan_21 rfl (lv_at hl 0 rfl) ?_
    refine va_get (D := (dC, dI)) (ci := 7) (v := .ref (x 4)) (C := RX7) (T := TX7) (N := 10) hx hb hts inB_7 hown hE.1 hP 4 rfl rfl 0 (Nat.le_of_ble_eq_true rfl) (hts _ k_204) (fun _ h9 => h9) rfl dX7_addMan_22 ?_
    refine lv_bipush (v := 6) hx hb dX7_addMan_25 rfl ?_
    refine lv_aload_n hx hb dX7_addMan_27 rfl (lv_at hl 0 rfl) ?_
    refine va_get (D := (dC, dI)) (ci := 7) (v := .int (v 9)) (C := RX7) (T := TX7) (N := 10) hx hb hts inB_7 hown hE.1 hP 4 rfl rfl 3 (Nat.le_of_ble_eq_true rfl) (hts _ k_212) (fun _ h9 => h9) rfl dX7_addMan_28 ?_
    refine lv_iadd hx hb dX7_addMan_31 ?_
    refine lv_topi (fun t5 et5 => ?_)
    have zt5 : t5.toInt = 6 + (v 9).toInt := (congrArg Int32.toInt et5).trans (add_i tc_6 rfl (om_70 b9_v) (om_71 zc1))
    refine lv_iload_n hx hb dX7_addMan_32 rfl (lv_at hl 2 rfl) ?_
    refine stI hx hb hE hP hD hS 5 rfl (vpI (k := 18) rfl (show 0 ≤ t5.toInt from om_72 b9_v zt5) (show t5.toInt < 18 from om_73 zc1 zt5)) rfl dX7_addMan_33 (fun H locs hP hD hS => ?_)
    obtain ⟨f6, ef6, hP, hD⟩ : ∃ fz9, fz9 = upd2 f4 1 (upd (f4 1) t5.toNatClampNeg p2) ∧ va_P (dC, dI) vwCl (XW cy x0 x v fz9) H ∧ va_D A (XW cy x0 x v fz9) := ⟨_, rfl, hP, hD⟩
    have hA_f6 : KF [1] f6 f := by rw [ef6]; exact KF.up hA_f4 rfl
    refine lv_aload_n hx hb dX7_addMan_34 rfl (lv_at hl 0 rfl) ?_
    refine va_get (D := (dC, dI)) (ci := 7) (v := .ref (x 4)) (C := RX7) (T := TX7) (N := 10) hx hb hts inB_7 hown hE.1 hP 4 rfl rfl 0 (Nat.le_of_ble_eq_true rfl) (hts _ k_204) (fun _ h9 => h9) rfl dX7_addMan_35 ?_
    refine lv_bipush (v := 12) hx hb dX7_addMan_38 rfl ?_
    refine lv_aload_n hx hb dX7_addMan_40 rfl (lv_at hl 0 rfl) ?_
    refine va_get (D := (dC, dI)) (ci := 7) (v := .int (v 9)) (C := RX7) (T := TX7) (N := 10) hx hb hts inB_7 hown hE.1 hP 4 rfl rfl 3 (Nat.le_of_ble_eq_true rfl) (hts _ k_212) (fun _ h9 => h9) rfl dX7_addMan_41 ?_
    refine lv_iadd hx hb dX7_addMan_44 ?_
    refine lv_topi (fun t7 et7 => ?_)
    have zt7 : t7.toInt = 12 + (v 9).toInt := (congrArg Int32.toInt et7).trans (add_i tc_12 rfl (om_74 b9_v) (om_75 zc1))
    refine lv_iload_n hx hb dX7_addMan_45 rfl (lv_at hl 3 rfl) ?_
    refine stI hx hb hE hP hD hS 5 rfl (vpI (k := 18) rfl (show 0 ≤ t7.toInt from om_76 b9_v zt7) (show t7.toInt < 18 from om_77 zc1 zt7)) rfl dX7_addMan_46 (fun H locs hP hD hS => ?_)
    obtain ⟨f8, ef8, hP, hD⟩ : ∃ fz9, fz9 = upd2 f6 1 (upd (f6 1) t7.toNatClampNeg p3) ∧ va_P (dC, dI) vwCl (XW cy x0 x v fz9) H ∧ va_D A (XW cy x0 x v fz9) := ⟨_, rfl, hP, hD⟩
    have hA_f8 : KF [1] f8 f := by rw [ef8]; exact KF.up hA_f6 rfl
    refine lv_aload_n hx hb dX7_addMan_47 rfl (lv_at hl 0 rfl) ?_
    refine lv_dup hx hb dX7_addMan_48 rfl ?_
    refine va_get (D := (dC, dI)) (ci := 7) (v := .int (v 9)) (C := RX7) (T := TX7) (N := 10) hx hb hts inB_7 hown hE.1 hP 4 rfl rfl 3 (Nat.le_of_ble_eq_true rfl) (hts _ k_212) (fun _ h9 => h9) rfl dX7_addMan_49 ?_
    refine lv_iconst (v := 1) hx hb dX7_addMan_52 rfl ?_
    refine lv_iadd hx hb dX7_addMan_53 ?_
    refine lv_topi (fun t9 et9 => ?_)
    have zt9 : t9.toInt = (v 9).toInt + 1 := (congrArg Int32.toInt et9).trans (add_i rfl tc_1 (om_78 b9_v) (om_65 zc1))
    refine va_put (D := (dC, dI)) (ci := 7) (v := .int t9) (ty := tyX7 3) (C := RX7) (T := TX7) (N := 10) hx hb hts inB_7 tyX7 tyX7_ok nmX7 hown hE.1 hP hD hS 4 rfl rfl 3 (Nat.le_of_ble_eq_true rfl) (hts _ k_212) (fun _ h9 => h9) rfl (tyX7_ok 3 (Nat.le_of_ble_eq_true rfl)) rfl rfl (Nat.le_of_ble_eq_true rfl) dX7_addMan_54 (fun H locs hP hD hS => ?_)
    have hP : va_P (dC, dI) vwCl (XW cy x0 x (upd v 9 t9) f8) H := hP
    have hD : va_D A (XW cy x0 x (upd v 9 t9) f8) := hD
    exact ret ((upd v 9 t9), f8) _ _ _ _ _ _ ⟨(gsX_X7_addMan_1_q1 c1 et2 ef4 et5 ef6 et7 ef8 et9), (KV.up (j := 9) (x := t9) hM_v rfl), hA_f8, (Xu_9 (x := t9) hIv (show (0 : Int) ≤ t9.toInt from om_79 b9_v zt9) (show t9.toInt ≤ (6 : Int) from om_80 zc1 zt9)), rfl, rfl, rfl, rfl, rfl, rfl⟩ hP hD hS dX7_addMan_57 (Nat.le_refl _) (Nat.le_refl _)
set_option maxHeartbeats 4000000 in
set_option maxRecDepth 100000 in
theorem sX_X6_manLine_1 (NF : Nat) (l : Launch) (dC : Nat → ClassId) (dI : Nat → Nat → Nat) (cy : Nat → ClassId) (x0 : Nat) (x : Nat → Nat)  (v : Nat → Int32) (f : Nat → Nat → Int32) (hIv : XI v)  : ctIS l (dC, dI) cy yX6_manLine cX6_manLine 4 .boolean 9 235 0 0 ((Nat → Int32) × (Nat → Nat → Int32)) [.ref (x 2)] (XW cy x0 x v f) (fun r u => gsX_X6_manLine_1 NF v f = (r, u) ∧ KV [2, 3, 4, 5, 7, 8, 9] u.1 v ∧ KF [1, 7] u.2 f ∧ XI u.1 ∧ u.1 0 = v 0 ∧ u.1 1 = v 1 ∧ u.1 10 = v 10 ∧ u.1 32 = v 32 ∧ ((r = 1) ∨ (r = 0))) (fun u => XW cy x0 x u.1 u.2) := by
  refine ctIS_of (by decide) (Nat.le_of_ble_eq_true rfl) (fun p e s m below meth c A ls Q hx hb hml hts hown hE hF hT hP hD hA hl ret => ?_)
  have hM_v : KV [2, 3, 4, 5, 7, 8, 9] v v := fun _ _ => rfl
  have hA_f : KF [1, 7] f f := fun _ _ => rfl
  have hown : s.vm.findClass RX6 = some m.cls := hown
  have hS : va_S A s.heap s.heap [] := va_S.rf
  have hl : lv_has ls 4 [(0, .ref (x 2))] := hl
  refine lv_aload_n hx hb dX6_manLine_0 rfl (lv_at hl 0 rfl) ?_
  refine va_get (D := (dC, dI)) (ci := 6) (v := .ref (x 3)) (C := RX6) (T := TX6) (N := 7) hx hb hts inB_6 hown hE.1 hP 3 rfl rfl 1 (Nat.le_of_ble_eq_true rfl) (hts _ k_266) (fun _ h9 => h9) rfl dX6_manLine_1 ?_
  refine va_getN (D := (dC, dI)) (ci := 7) (v := .int (v 9)) (C := RX7) (T := TX7) (N := 10) hx hb hts inB_7 hown hE.1 hP 4 rfl rfl 3 (Nat.le_of_ble_eq_true rfl) (va_Nw.use rfl (hE.2 _ k_218)) (fun _ h9 => h9) rfl dX6_manLine_4 ?_
  refine lv_bipush (v := 6) hx hb dX6_manLine_7 rfl ?_
  refine lv_icmp_lt (tgt := 17) hx hb dX6_manLine_9 rfl (fun c1 => ?_) (fun c1 => ?_)
  · skip
    refine lv_aload_n hx hb dX6_manLine_17 rfl (lv_at hl 0 rfl) ?_
    refine va_get (D := (dC, dI)) (ci := 6) (v := .ref (x 0)) (C := RX6) (T := TX6) (N := 7) hx hb hts inB_6 hown hE.1 hP 3 rfl rfl 0 (Nat.le_of_ble_eq_true rfl) (hts _ k_265) (fun _ h9 => h9) rfl dX6_manLine_18 ?_
    refine csVv (n := 0) (rest := []) hx hb hml hown hts hE hP hD hS hA hF hT (sX_X9_advance_1 NF l dC dI cy x0 x  v f hIv ) k_699 k_559 k_560 k_102 k_561 hd_yX9_advance ⟨Nat.le_of_ble_eq_true rfl, Nat.le_of_ble_eq_true rfl⟩ 1 9 rfl rfl (rfl) hl.1 rfl (Nat.le_of_ble_eq_true rfl) dX6_manLine_21 (fun u H locs hw hP hD hS => ?_)
    obtain ⟨hG2, hw⟩ := hw
    obtain ⟨v3, f4⟩ := u
    obtain ⟨kV_v3, kF_f4, hIv3, hk0_v3, hk1_v3, hk7_v3, hk8_v3, hk9_v3, hk10_v3, hk31_v3, hk32_v3⟩ := hw
    have hM_v3 : KV [2, 3, 4, 5, 7, 8, 9] v3 v := KV.tr kV_v3 hM_v rfl
    have hA_f4 : KF [1, 7] f4 f := KF.tr kF_f4 hA_f rfl
    have hP : va_P (dC, dI) vwCl (XW cy x0 x v3 f4) H := hP
    have hD : va_D A (XW cy x0 x v3 f4) := hD
    have hq9_v3 : v3 9 = (v 9) := hk9_v3
    refine lv_aload_n hx hb dX6_manLine_24 rfl (lv_at hl 0 rfl) ?_
    refine lv_aload_n hx hb dX6_manLine_25 rfl (lv_at hl 0 rfl) ?_
    refine va_get (D := (dC, dI)) (ci := 6) (v := .ref (x 11)) (C := RX6) (T := TX6) (N := 7) hx hb hts inB_6 hown hE.1 hP 3 rfl rfl 2 (Nat.le_of_ble_eq_true rfl) (hts _ k_268) (fun _ h9 => h9) rfl dX6_manLine_26 ?_
    refine lv_aload_n hx hb dX6_manLine_29 rfl (lv_at hl 0 rfl) ?_
    refine va_get (D := (dC, dI)) (ci := 6) (v := .ref (x 3)) (C := RX6) (T := TX6) (N := 7) hx hb hts inB_6 hown hE.1 hP 3 rfl rfl 1 (Nat.le_of_ble_eq_true rfl) (hts _ k_266) (fun _ h9 => h9) rfl dX6_manLine_30 ?_
    refine va_getN (D := (dC, dI)) (ci := 7) (v := .int (v3 9)) (C := RX7) (T := TX7) (N := 10) hx hb hts inB_7 hown hE.1 hP 4 rfl rfl 3 (Nat.le_of_ble_eq_true rfl) (va_Nw.use rfl (hE.2 _ k_218)) (fun _ h9 => h9) rfl dX6_manLine_33 ?_
    refine tI (y := (v 9)) hq9_v3 ?_
    refine csVi (n := 2) (rest := []) hx hb hml hown hts hE hP hD hS hA hF hT (sX_X6_name_1 NF l dC dI cy x0 x (v 9) v3 f4 hIv3 ) k_700 k_702 k_8 k_103 k_703 hd_yX6_name ⟨Nat.le_of_ble_eq_true rfl, Nat.le_of_ble_eq_true rfl⟩ 3 6 rfl rfl (rfl) hl.1 rfl (Nat.le_of_ble_eq_true rfl) dX6_manLine_36 (fun r5 u H locs hw hP hD hS => ?_)
    obtain ⟨hG6, hw⟩ := hw
    obtain ⟨v7, f8⟩ := u
    obtain ⟨kV_v7, kF_f8, hIv7, hk0_v7, hk1_v7, hk9_v7, hk10_v7, hk31_v7, hk32_v7, hw⟩ := hw
    have hM_v7 : KV [2, 3, 4, 5, 7, 8, 9] v7 v := KV.tr kV_v7 hM_v3 rfl
    have hA_f8 : KF [1, 7] f8 f := KF.tr kF_f8 hA_f4 rfl
    have hP : va_P (dC, dI) vwCl (XW cy x0 x v7 f8) H := hP
    have hD : va_D A (XW cy x0 x v7 f8) := hD
    rcases hw with ⟨g9⟩ | ⟨g9⟩
    · skip
      subst g9
      refine lv_if_ne (tgt := 44) hx hb dX6_manLine_39 rfl (fun _ => ?_) (fun c0 => absurd c0 (by decide))
      refine lv_aload_n hx hb dX6_manLine_44 rfl (lv_at hl 0 rfl) ?_
      refine lv_bipush (v := 109) hx hb dX6_manLine_45 rfl ?_
      refine lv_bipush (v := 99) hx hb dX6_manLine_47 rfl ?_
      refine csVi (n := 2) (rest := []) hx hb hml hown hts hE hP hD hS hA hF hT (sX_X6_labelled_1 NF l dC dI cy x0 x 109 99 v7 f8 hIv7 ) k_708 k_710 k_9 k_103 k_711 hd_yX6_labelled ⟨Nat.le_of_ble_eq_true rfl, Nat.le_of_ble_eq_true rfl⟩ 3 6 rfl rfl (rfl) hl.1 rfl (Nat.le_of_ble_eq_true rfl) dX6_manLine_49 (fun r10 u H locs hw hP hD hS => ?_)
      obtain ⟨hG11, hw⟩ := hw
      obtain ⟨v12, f13⟩ := u
      obtain ⟨kV_v12, kF_f13, hIv12, hk0_v12, hk1_v12, hk9_v12, hk10_v12, hk31_v12, hk32_v12⟩ := hw
      have hM_v12 : KV [2, 3, 4, 5, 7, 8, 9] v12 v := KV.tr kV_v12 hM_v7 rfl
      have hA_f13 : KF [1, 7] f13 f := KF.tr kF_f13 hA_f8 rfl
      have hP : va_P (dC, dI) vwCl (XW cy x0 x v12 f13) H := hP
      have hD : va_D A (XW cy x0 x v12 f13) := hD
      refine lv_istore_n (lv' := [(1, .int r10), (0, .ref (x 2))]) hx hb dX6_manLine_52 rfl hl (Nat.le_of_ble_eq_true rfl) rfl (fun ls hl => ?_)
      refine lv_iload_n hx hb dX6_manLine_53 rfl (lv_at hl 0 rfl) ?_
      refine lv_if_ge (tgt := 61) hx hb dX6_manLine_54 rfl (fun c14 => ?_) (fun c14 => ?_)
      · skip
        refine lv_aload_n hx hb dX6_manLine_61 rfl (lv_at hl 1 rfl) ?_
        refine lv_bipush (v := 110) hx hb dX6_manLine_62 rfl ?_
        refine lv_bipush (v := 99) hx hb dX6_manLine_64 rfl ?_
        refine csVi (n := 2) (rest := []) hx hb hml hown hts hE hP hD hS hA hF hT (sX_X6_labelled_1 NF l dC dI cy x0 x 110 99 v12 f13 hIv12 ) k_708 k_710 k_9 k_103 k_711 hd_yX6_labelled ⟨Nat.le_of_ble_eq_true rfl, Nat.le_of_ble_eq_true rfl⟩ 3 6 rfl rfl (rfl) hl.1 rfl (Nat.le_of_ble_eq_true rfl) dX6_manLine_66 (fun r15 u H locs hw hP hD hS => ?_)
        obtain ⟨hG16, hw⟩ := hw
        obtain ⟨v17, f18⟩ := u
        obtain ⟨kV_v17, kF_f18, hIv17, hk0_v17, hk1_v17, hk9_v17, hk10_v17, hk31_v17, hk32_v17⟩ := hw
        have hM_v17 : KV [2, 3, 4, 5, 7, 8, 9] v17 v := KV.tr kV_v17 hM_v12 rfl
        have hA_f18 : KF [1, 7] f18 f := KF.tr kF_f18 hA_f13 rfl
        have hP : va_P (dC, dI) vwCl (XW cy x0 x v17 f18) H := hP
        have hD : va_D A (XW cy x0 x v17 f18) := hD
        refine lv_istore_n (lv' := [(2, .int r15), (1, .int r10), (0, .ref (x 2))]) hx hb dX6_manLine_69 rfl hl (Nat.le_of_ble_eq_true rfl) rfl (fun ls hl => ?_)
        refine lv_iload_n hx hb dX6_manLine_70 rfl (lv_at hl 0 rfl) ?_
        refine lv_if_ge (tgt := 78) hx hb dX6_manLine_71 rfl (fun c19 => ?_) (fun c19 => ?_)
        · skip
          refine lv_aload_n hx hb dX6_manLine_78 rfl (lv_at hl 2 rfl) ?_
          refine va_get (D := (dC, dI)) (ci := 6) (v := .ref (x 0)) (C := RX6) (T := TX6) (N := 7) hx hb hts inB_6 hown hE.1 hP 3 rfl rfl 0 (Nat.le_of_ble_eq_true rfl) (hts _ k_265) (fun _ h9 => h9) rfl dX6_manLine_79 ?_
          refine va_getN (D := (dC, dI)) (ci := 9) (v := .int (v17 2)) (C := RX9) (T := TX9) (N := 6) hx hb hts inB_9 hown hE.1 hP 1 rfl rfl 2 (Nat.le_of_ble_eq_true rfl) (va_Nw.use rfl (hE.2 _ k_139)) (fun _ h9 => h9) rfl dX6_manLine_82 ?_
          refine lv_bipush (v := 111) hx hb dX6_manLine_85 rfl ?_
          refine lv_icmp_ne (tgt := 101) hx hb dX6_manLine_87 rfl (fun c20 => ?_) (fun c20 => ?_)
          · skip
            refine lv_iconst (v := 0) hx hb dX6_manLine_101 rfl ?_
            refine lv_istore_n (lv' := [(3, .int 0), (2, .int r15), (1, .int r10), (0, .ref (x 2))]) hx hb dX6_manLine_102 rfl hl (Nat.le_of_ble_eq_true rfl) rfl (fun ls hl => ?_)
            refine lv_iload_n hx hb dX6_manLine_103 rfl (lv_at hl 0 rfl) ?_
            refine lv_if_ge (tgt := 109) hx hb dX6_manLine_104 rfl (fun _ => ?_) (fun c0 => absurd (by decide) c0)
            refine lv_aload_n hx hb dX6_manLine_109 rfl (lv_at hl 3 rfl) ?_
            refine va_get (D := (dC, dI)) (ci := 6) (v := .ref (x 3)) (C := RX6) (T := TX6) (N := 7) hx hb hts inB_6 hown hE.1 hP 3 rfl rfl 1 (Nat.le_of_ble_eq_true rfl) (hts _ k_266) (fun _ h9 => h9) rfl dX6_manLine_110 ?_
            refine lv_iload_n hx hb dX6_manLine_113 rfl (lv_at hl 2 rfl) ?_
            refine lv_iload_n hx hb dX6_manLine_114 rfl (lv_at hl 1 rfl) ?_
            refine lv_iload_n hx hb dX6_manLine_115 rfl (lv_at hl 0 rfl) ?_
            refine cbVv (n := 3) (rest := []) hx hb hml hown hts hE hP hD hS hA (sX_X7_addMan_1 NF l dC dI cy x0 x r10 r15 0 v17 f18 hIv17 ) k_716 k_717 k_718 k_104 k_719 hd_yX7_addMan ⟨Nat.le_of_ble_eq_true rfl, Nat.le_of_ble_eq_true rfl⟩ 4 7 rfl rfl (rfl) hl.1 rfl (Nat.le_of_ble_eq_true rfl) dX6_manLine_116 (fun u H locs hw hP hD hS => ?_)
            obtain ⟨hG21, hw⟩ := hw
            obtain ⟨v22, f23⟩ := u
            obtain ⟨kV_v22, kF_f23, hIv22, hk0_v22, hk1_v22, hk7_v22, hk8_v22, hk10_v22, hk32_v22⟩ := hw
            have hM_v22 : KV [2, 3, 4, 5, 7, 8, 9] v22 v := KV.tr kV_v22 hM_v17 rfl
            have hA_f23 : KF [1, 7] f23 f := KF.tr kF_f23 hA_f18 rfl
            have hP : va_P (dC, dI) vwCl (XW cy x0 x v22 f23) H := hP
            have hD : va_D A (XW cy x0 x v22 f23) := hD
            refine lv_iconst (v := 1) hx hb dX6_manLine_119 rfl ?_
            exact ret 1 (v22, f23) _ _ _ _ _ _ rfl ⟨(gsX_X6_manLine_1_q0 c1 hG2 hG6 hG11 c14 hG16 c19 c20 hG21), hM_v22, hA_f23, hIv22, (hk0_v22.trans (hk0_v17.trans (hk0_v12.trans (hk0_v7.trans hk0_v3)))), (hk1_v22.trans (hk1_v17.trans (hk1_v12.trans (hk1_v7.trans hk1_v3)))), (hk10_v22.trans (hk10_v17.trans (hk10_v12.trans (hk10_v7.trans hk10_v3)))), (hk32_v22.trans (hk32_v17.trans (hk32_v12.trans (hk32_v7.trans hk32_v3)))), (Or.inl rfl)⟩ hP hD hS dX6_manLine_120 (Nat.le_refl _) (Nat.le_refl _)
          · skip
            refine lv_aload_n hx hb dX6_manLine_90 rfl (lv_at hl 2 rfl) ?_
            refine lv_bipush (v := 111) hx hb dX6_manLine_91 rfl ?_
            refine lv_bipush (v := 9) hx hb dX6_manLine_93 rfl ?_
            refine csVi (n := 2) (rest := []) hx hb hml hown hts hE hP hD hS hA hF hT (sX_X6_labelled_1 NF l dC dI cy x0 x 111 9 v17 f18 hIv17 ) k_708 k_710 k_9 k_103 k_711 hd_yX6_labelled ⟨Nat.le_of_ble_eq_true rfl, Nat.le_of_ble_eq_true rfl⟩ 3 6 rfl rfl (rfl) hl.1 rfl (Nat.le_of_ble_eq_true rfl) dX6_manLine_95 (fun r24 u H locs hw hP hD hS => ?_)
            obtain ⟨hG25, hw⟩ := hw
            obtain ⟨v26, f27⟩ := u
            obtain ⟨kV_v26, kF_f27, hIv26, hk0_v26, hk1_v26, hk9_v26, hk10_v26, hk31_v26, hk32_v26⟩ := hw
            have hM_v26 : KV [2, 3, 4, 5, 7, 8, 9] v26 v := KV.tr kV_v26 hM_v17 rfl
            have hA_f27 : KF [1, 7] f27 f := KF.tr kF_f27 hA_f18 rfl
            have hP : va_P (dC, dI) vwCl (XW cy x0 x v26 f27) H := hP
            have hD : va_D A (XW cy x0 x v26 f27) := hD
            refine lv_goto (tgt := 102) hx hb dX6_manLine_98 rfl ?_
            refine lv_istore_n (lv' := [(3, .int r24), (2, .int r15), (1, .int r10), (0, .ref (x 2))]) hx hb dX6_manLine_102 rfl hl (Nat.le_of_ble_eq_true rfl) rfl (fun ls hl => ?_)
            refine lv_iload_n hx hb dX6_manLine_103 rfl (lv_at hl 0 rfl) ?_
            refine lv_if_ge (tgt := 109) hx hb dX6_manLine_104 rfl (fun c28 => ?_) (fun c28 => ?_)
            · skip
              refine lv_aload_n hx hb dX6_manLine_109 rfl (lv_at hl 3 rfl) ?_
              refine va_get (D := (dC, dI)) (ci := 6) (v := .ref (x 3)) (C := RX6) (T := TX6) (N := 7) hx hb hts inB_6 hown hE.1 hP 3 rfl rfl 1 (Nat.le_of_ble_eq_true rfl) (hts _ k_266) (fun _ h9 => h9) rfl dX6_manLine_110 ?_
              refine lv_iload_n hx hb dX6_manLine_113 rfl (lv_at hl 2 rfl) ?_
              refine lv_iload_n hx hb dX6_manLine_114 rfl (lv_at hl 1 rfl) ?_
              refine lv_iload_n hx hb dX6_manLine_115 rfl (lv_at hl 0 rfl) ?_
              refine cbVv (n := 3) (rest := []) hx hb hml hown hts hE hP hD hS hA (sX_X7_addMan_1 NF l dC dI cy x0 x r10 r15 r24 v26 f27 hIv26 ) k_716 k_717 k_718 k_104 k_719 hd_yX7_addMan ⟨Nat.le_of_ble_eq_true rfl, Nat.le_of_ble_eq_true rfl⟩ 4 7 rfl rfl (rfl) hl.1 rfl (Nat.le_of_ble_eq_true rfl) dX6_manLine_116 (fun u H locs hw hP hD hS => ?_)
              obtain ⟨hG29, hw⟩ := hw
              obtain ⟨v30, f31⟩ := u
              obtain ⟨kV_v30, kF_f31, hIv30, hk0_v30, hk1_v30, hk7_v30, hk8_v30, hk10_v30, hk32_v30⟩ := hw
              have hM_v30 : KV [2, 3, 4, 5, 7, 8, 9] v30 v := KV.tr kV_v30 hM_v26 rfl
              have hA_f31 : KF [1, 7] f31 f := KF.tr kF_f31 hA_f27 rfl
              have hP : va_P (dC, dI) vwCl (XW cy x0 x v30 f31) H := hP
              have hD : va_D A (XW cy x0 x v30 f31) := hD
              refine lv_iconst (v := 1) hx hb dX6_manLine_119 rfl ?_
              exact ret 1 (v30, f31) _ _ _ _ _ _ rfl ⟨(gsX_X6_manLine_1_q1 c1 hG2 hG6 hG11 c14 hG16 c19 c20 hG25 c28 hG29), hM_v30, hA_f31, hIv30, (hk0_v30.trans (hk0_v26.trans (hk0_v17.trans (hk0_v12.trans (hk0_v7.trans hk0_v3))))), (hk1_v30.trans (hk1_v26.trans (hk1_v17.trans (hk1_v12.trans (hk1_v7.trans hk1_v3))))), (hk10_v30.trans (hk10_v26.trans (hk10_v17.trans (hk10_v12.trans (hk10_v7.trans hk10_v3))))), (hk32_v30.trans (hk32_v26.trans (hk32_v17.trans (hk32_v12.trans (hk32_v7.trans hk32_v3))))), (Or.inl rfl)⟩ hP hD hS dX6_manLine_120 (Nat.le_refl _) (Nat.le_refl _)
            · skip
              refine lv_iconst (v := 0) hx hb dX6_manLine_107 rfl ?_
              exact ret 0 (v26, f27) _ _ _ _ _ _ rfl ⟨(gsX_X6_manLine_1_q2 c1 hG2 hG6 hG11 c14 hG16 c19 c20 hG25 c28), hM_v26, hA_f27, hIv26, (hk0_v26.trans (hk0_v17.trans (hk0_v12.trans (hk0_v7.trans hk0_v3)))), (hk1_v26.trans (hk1_v17.trans (hk1_v12.trans (hk1_v7.trans hk1_v3)))), (hk10_v26.trans (hk10_v17.trans (hk10_v12.trans (hk10_v7.trans hk10_v3)))), (hk32_v26.trans (hk32_v17.trans (hk32_v12.trans (hk32_v7.trans hk32_v3)))), (Or.inr rfl)⟩ hP hD hS dX6_manLine_108 (Nat.le_refl _) (Nat.le_refl _)
        · skip
          refine lv_iconst (v := (-1)) hx hb dX6_manLine_74 rfl ?_
          refine lv_goto (tgt := 102) hx hb dX6_manLine_75 rfl ?_
          refine lv_istore_n (lv' := [(3, .int (-1)), (2, .int r15), (1, .int r10), (0, .ref (x 2))]) hx hb dX6_manLine_102 rfl hl (Nat.le_of_ble_eq_true rfl) rfl (fun ls hl => ?_)
          refine lv_iload_n hx hb dX6_manLine_103 rfl (lv_at hl 0 rfl) ?_
          refine lv_if_ge (tgt := 109) hx hb dX6_manLine_104 rfl (fun c0 => absurd c0 (by decide)) (fun _ => ?_)
          refine lv_iconst (v := 0) hx hb dX6_manLine_107 rfl ?_
          exact ret 0 (v17, f18) _ _ _ _ _ _ rfl ⟨(gsX_X6_manLine_1_q3 c1 hG2 hG6 hG11 c14 hG16 c19), hM_v17, hA_f18, hIv17, (hk0_v17.trans (hk0_v12.trans (hk0_v7.trans hk0_v3))), (hk1_v17.trans (hk1_v12.trans (hk1_v7.trans hk1_v3))), (hk10_v17.trans (hk10_v12.trans (hk10_v7.trans hk10_v3))), (hk32_v17.trans (hk32_v12.trans (hk32_v7.trans hk32_v3))), (Or.inr rfl)⟩ hP hD hS dX6_manLine_108 (Nat.le_refl _) (Nat.le_refl _)
      · skip
        refine lv_iconst (v := (-1)) hx hb dX6_manLine_57 rfl ?_
        refine lv_goto (tgt := 69) hx hb dX6_manLine_58 rfl ?_
        refine lv_istore_n (lv' := [(2, .int (-1)), (1, .int r10), (0, .ref (x 2))]) hx hb dX6_manLine_69 rfl hl (Nat.le_of_ble_eq_true rfl) rfl (fun ls hl => ?_)
        refine lv_iload_n hx hb dX6_manLine_70 rfl (lv_at hl 0 rfl) ?_
        refine lv_if_ge (tgt := 78) hx hb dX6_manLine_71 rfl (fun c0 => absurd c0 (by decide)) (fun _ => ?_)
        refine lv_iconst (v := (-1)) hx hb dX6_manLine_74 rfl ?_
        refine lv_goto (tgt := 102) hx hb dX6_manLine_75 rfl ?_
        refine lv_istore_n (lv' := [(3, .int (-1)), (2, .int (-1)), (1, .int r10), (0, .ref (x 2))]) hx hb dX6_manLine_102 rfl hl (Nat.le_of_ble_eq_true rfl) rfl (fun ls hl => ?_)
        refine lv_iload_n hx hb dX6_manLine_103 rfl (lv_at hl 0 rfl) ?_
        refine lv_if_ge (tgt := 109) hx hb dX6_manLine_104 rfl (fun c0 => absurd c0 (by decide)) (fun _ => ?_)
        refine lv_iconst (v := 0) hx hb dX6_manLine_107 rfl ?_
        exact ret 0 (v12, f13) _ _ _ _ _ _ rfl ⟨(gsX_X6_manLine_1_q4 c1 hG2 hG6 hG11 c14), hM_v12, hA_f13, hIv12, (hk0_v12.trans (hk0_v7.trans hk0_v3)), (hk1_v12.trans (hk1_v7.trans hk1_v3)), (hk10_v12.trans (hk10_v7.trans hk10_v3)), (hk32_v12.trans (hk32_v7.trans hk32_v3)), (Or.inr rfl)⟩ hP hD hS dX6_manLine_108 (Nat.le_refl _) (Nat.le_refl _)
    · skip
      subst g9
      refine lv_if_ne (tgt := 44) hx hb dX6_manLine_39 rfl (fun c0 => absurd (by decide) c0) (fun _ => ?_)
      refine lv_iconst (v := 0) hx hb dX6_manLine_42 rfl ?_
      exact ret 0 (v7, f8) _ _ _ _ _ _ rfl ⟨(gsX_X6_manLine_1_q5 c1 hG2 hG6), hM_v7, hA_f8, hIv7, (hk0_v7.trans hk0_v3), (hk1_v7.trans hk1_v3), (hk10_v7.trans hk10_v3), (hk32_v7.trans hk32_v3), (Or.inr rfl)⟩ hP hD hS dX6_manLine_43 (Nat.le_refl _) (Nat.le_refl _)
  · skip
    refine lv_aload_n hx hb dX6_manLine_12 rfl (lv_at hl 0 rfl) ?_
    refine cbVi (n := 0) (rest := []) hx hb hml hown hts hE hP hD hS hA (sX_X6_refuse_1 NF l dC dI cy x0 x  v f hIv ) k_691 k_693 k_6 k_103 k_694 hd_yX6_refuse ⟨Nat.le_of_ble_eq_true rfl, Nat.le_of_ble_eq_true rfl⟩ 3 6 rfl rfl (rfl) hl.1 rfl (Nat.le_of_ble_eq_true rfl) dX6_manLine_13 (fun r32 u H locs hw hP hD hS => ?_)
    obtain ⟨hG33, hw⟩ := hw
    obtain ⟨v34, f35⟩ := u
    obtain ⟨kV_v34, kF_f35, hIv34, hk0_v34, hk1_v34, hk9_v34, hk10_v34, hk31_v34, hk32_v34, hw⟩ := hw
    have hM_v34 : KV [2, 3, 4, 5, 7, 8, 9] v34 v := KV.tr kV_v34 hM_v rfl
    have hA_f35 : KF [1, 7] f35 f := KF.tr kF_f35 hA_f rfl
    have hP : va_P (dC, dI) vwCl (XW cy x0 x v34 f35) H := hP
    have hD : va_D A (XW cy x0 x v34 f35) := hD
    rcases hw with ⟨g36⟩ | ⟨g36⟩
    · skip
      subst g36
      exact ret 1 (v34, f35) _ _ _ _ _ _ rfl ⟨(gsX_X6_manLine_1_q6 c1 hG33), hM_v34, hA_f35, hIv34, hk0_v34, hk1_v34, hk10_v34, hk32_v34, (Or.inl rfl)⟩ hP hD hS dX6_manLine_16 (Nat.le_refl _) (Nat.le_refl _)
    · skip
      subst g36
      exact ret 0 (v34, f35) _ _ _ _ _ _ rfl ⟨(gsX_X6_manLine_1_q7 c1 hG33), hM_v34, hA_f35, hIv34, hk0_v34, hk1_v34, hk10_v34, hk32_v34, (Or.inr rfl)⟩ hP hD hS dX6_manLine_16 (Nat.le_refl _) (Nat.le_refl _)
set_option maxHeartbeats 4000000 in
set_option maxRecDepth 100000 in
theorem sX_X6_taken_1 (NF : Nat) (l : Launch) (dC : Nat → ClassId) (dI : Nat → Nat → Nat) (cy : Nat → ClassId) (x0 : Nat) (x : Nat → Nat) (p1 : Int32) (v : Nat → Int32) (f : Nat → Nat → Int32) (hIv : XI v)  : ctIS l (dC, dI) cy yX6_taken cX6_taken 2 .boolean 7 191 0 0 ((Nat → Int32) × (Nat → Nat → Int32)) [.ref (x 2), .int p1] (XW cy x0 x v f) (fun r u => gsX_X6_taken_1 NF p1 v f = (r, u) ∧ KV [2, 3, 4, 5, 7, 8] u.1 v ∧ KF [] u.2 f ∧ XI u.1 ∧ u.1 0 = v 0 ∧ u.1 1 = v 1 ∧ u.1 9 = v 9 ∧ u.1 10 = v 10 ∧ u.1 31 = v 31 ∧ u.1 32 = v 32 ∧ ((r = 1) ∨ (r = 0))) (fun u => XW cy x0 x u.1 u.2) := by
  refine ctIS_of (by decide) (Nat.le_of_ble_eq_true rfl) (fun p e s m below meth c A ls Q hx hb hml hts hown hE hF hT hP hD hA hl ret => ?_)
  have hM_v : KV [2, 3, 4, 5, 7, 8] v v := fun _ _ => rfl
  have hA_f : KF [] f f := fun _ _ => rfl
  have hown : s.vm.findClass RX6 = some m.cls := hown
  have hS : va_S A s.heap s.heap [] := va_S.rf
  have hl : lv_has ls 2 [(0, .ref (x 2)), (1, .int p1)] := hl
  refine lv_aload_n hx hb dX6_taken_0 rfl (lv_at hl 0 rfl) ?_
  refine va_get (D := (dC, dI)) (ci := 6) (v := .ref (x 0)) (C := RX6) (T := TX6) (N := 7) hx hb hts inB_6 hown hE.1 hP 3 rfl rfl 0 (Nat.le_of_ble_eq_true rfl) (hts _ k_265) (fun _ h9 => h9) rfl dX6_taken_1 ?_
  refine va_getN (D := (dC, dI)) (ci := 9) (v := .int (v 2)) (C := RX9) (T := TX9) (N := 6) hx hb hts inB_9 hown hE.1 hP 1 rfl rfl 2 (Nat.le_of_ble_eq_true rfl) (va_Nw.use rfl (hE.2 _ k_139)) (fun _ h9 => h9) rfl dX6_taken_4 ?_
  refine lv_iload_n hx hb dX6_taken_7 rfl (lv_at hl 1 rfl) ?_
  refine lv_icmp_eq (tgt := 16) hx hb dX6_taken_8 rfl (fun c1 => ?_) (fun c1 => ?_)
  · skip
    refine lv_aload_n hx hb dX6_taken_16 rfl (lv_at hl 0 rfl) ?_
    refine va_get (D := (dC, dI)) (ci := 6) (v := .ref (x 0)) (C := RX6) (T := TX6) (N := 7) hx hb hts inB_6 hown hE.1 hP 3 rfl rfl 0 (Nat.le_of_ble_eq_true rfl) (hts _ k_265) (fun _ h9 => h9) rfl dX6_taken_17 ?_
    refine csVv (n := 0) (rest := []) hx hb hml hown hts hE hP hD hS hA hF hT (sX_X9_advance_1 NF l dC dI cy x0 x  v f hIv ) k_699 k_559 k_560 k_102 k_561 hd_yX9_advance ⟨Nat.le_of_ble_eq_true rfl, Nat.le_of_ble_eq_true rfl⟩ 1 9 rfl rfl (rfl) hl.1 rfl (Nat.le_of_ble_eq_true rfl) dX6_taken_20 (fun u H locs hw hP hD hS => ?_)
    obtain ⟨hG4, hw⟩ := hw
    obtain ⟨v5, f6⟩ := u
    obtain ⟨kV_v5, kF_f6, hIv5, hk0_v5, hk1_v5, hk7_v5, hk8_v5, hk9_v5, hk10_v5, hk31_v5, hk32_v5⟩ := hw
    have hM_v5 : KV [2, 3, 4, 5, 7, 8] v5 v := KV.tr kV_v5 hM_v rfl
    have hA_f6 : KF [] f6 f := KF.tr kF_f6 hA_f rfl
    have hP : va_P (dC, dI) vwCl (XW cy x0 x v5 f6) H := hP
    have hD : va_D A (XW cy x0 x v5 f6) := hD
    refine lv_iconst (v := 1) hx hb dX6_taken_23 rfl ?_
    exact ret 1 (v5, f6) _ _ _ _ _ _ rfl ⟨(gsX_X6_taken_1_q0 c1 hG4), hM_v5, hA_f6, hIv5, hk0_v5, hk1_v5, hk9_v5, hk10_v5, hk31_v5, hk32_v5, (Or.inl rfl)⟩ hP hD hS dX6_taken_24 (Nat.le_refl _) (Nat.le_refl _)
  · skip
    refine lv_aload_n hx hb dX6_taken_11 rfl (lv_at hl 0 rfl) ?_
    refine cbVi (n := 0) (rest := []) hx hb hml hown hts hE hP hD hS hA (sX_X6_refuse_1 NF l dC dI cy x0 x  v f hIv ) k_691 k_693 k_6 k_103 k_694 hd_yX6_refuse ⟨Nat.le_of_ble_eq_true rfl, Nat.le_of_ble_eq_true rfl⟩ 3 6 rfl rfl (rfl) hl.1 rfl (Nat.le_of_ble_eq_true rfl) dX6_taken_12 (fun r9 u H locs hw hP hD hS => ?_)
    obtain ⟨hG10, hw⟩ := hw
    obtain ⟨v11, f12⟩ := u
    obtain ⟨kV_v11, kF_f12, hIv11, hk0_v11, hk1_v11, hk9_v11, hk10_v11, hk31_v11, hk32_v11, hw⟩ := hw
    have hM_v11 : KV [2, 3, 4, 5, 7, 8] v11 v := KV.tr kV_v11 hM_v rfl
    have hA_f12 : KF [] f12 f := KF.tr kF_f12 hA_f rfl
    have hP : va_P (dC, dI) vwCl (XW cy x0 x v11 f12) H := hP
    have hD : va_D A (XW cy x0 x v11 f12) := hD
    rcases hw with ⟨g13⟩ | ⟨g13⟩
    · skip
      subst g13
      exact ret 1 (v11, f12) _ _ _ _ _ _ rfl ⟨(gsX_X6_taken_1_q1 c1 hG10), hM_v11, hA_f12, hIv11, hk0_v11, hk1_v11, hk9_v11, hk10_v11, hk31_v11, hk32_v11, (Or.inl rfl)⟩ hP hD hS dX6_taken_15 (Nat.le_refl _) (Nat.le_refl _)
    · skip
      subst g13
      exact ret 0 (v11, f12) _ _ _ _ _ _ rfl ⟨(gsX_X6_taken_1_q2 c1 hG10), hM_v11, hA_f12, hIv11, hk0_v11, hk1_v11, hk9_v11, hk10_v11, hk31_v11, hk32_v11, (Or.inr rfl)⟩ hP hD hS dX6_taken_15 (Nat.le_refl _) (Nat.le_refl _)
set_option maxHeartbeats 4000000 in
set_option maxRecDepth 100000 in
theorem sX_X6_closing_1 (NF : Nat) (l : Launch) (dC : Nat → ClassId) (dI : Nat → Nat → Nat) (cy : Nat → ClassId) (x0 : Nat) (x : Nat → Nat)  (v : Nat → Int32) (f : Nat → Nat → Int32) (hIv : XI v)  : ctIS l (dC, dI) cy yX6_closing cX6_closing 1 .boolean 8 212 0 0 ((Nat → Int32) × (Nat → Nat → Int32)) [.ref (x 2)] (XW cy x0 x v f) (fun r u => gsX_X6_closing_1 NF v f = (r, u) ∧ KV [2, 3, 4, 5, 7, 8] u.1 v ∧ KF [] u.2 f ∧ XI u.1 ∧ u.1 0 = v 0 ∧ u.1 1 = v 1 ∧ u.1 9 = v 9 ∧ u.1 10 = v 10 ∧ u.1 31 = v 31 ∧ u.1 32 = v 32 ∧ ((r = 1) ∨ (r = 0))) (fun u => XW cy x0 x u.1 u.2) := by
  refine ctIS_of (by decide) (Nat.le_of_ble_eq_true rfl) (fun p e s m below meth c A ls Q hx hb hml hts hown hE hF hT hP hD hA hl ret => ?_)
  have hM_v : KV [2, 3, 4, 5, 7, 8] v v := fun _ _ => rfl
  have hA_f : KF [] f f := fun _ _ => rfl
  have hown : s.vm.findClass RX6 = some m.cls := hown
  have hS : va_S A s.heap s.heap [] := va_S.rf
  have hl : lv_has ls 1 [(0, .ref (x 2))] := hl
  refine lv_aload_n hx hb dX6_closing_0 rfl (lv_at hl 0 rfl) ?_
  refine lv_bipush (v := 59) hx hb dX6_closing_1 rfl ?_
  refine csVi (n := 1) (rest := []) hx hb hml hown hts hE hP hD hS hA hF hT (sX_X6_taken_1 NF l dC dI cy x0 x 59 v f hIv ) k_724 k_726 k_12 k_103 k_727 hd_yX6_taken ⟨Nat.le_of_ble_eq_true rfl, Nat.le_of_ble_eq_true rfl⟩ 3 6 rfl rfl (rfl) hl.1 rfl (Nat.le_of_ble_eq_true rfl) dX6_closing_3 (fun r1 u H locs hw hP hD hS => ?_)
  obtain ⟨hG2, hw⟩ := hw
  obtain ⟨v3, f4⟩ := u
  obtain ⟨kV_v3, kF_f4, hIv3, hk0_v3, hk1_v3, hk9_v3, hk10_v3, hk31_v3, hk32_v3, hw⟩ := hw
  have hM_v3 : KV [2, 3, 4, 5, 7, 8] v3 v := KV.tr kV_v3 hM_v rfl
  have hA_f4 : KF [] f4 f := KF.tr kF_f4 hA_f rfl
  have hP : va_P (dC, dI) vwCl (XW cy x0 x v3 f4) H := hP
  have hD : va_D A (XW cy x0 x v3 f4) := hD
  have hq0_v3 : v3 0 = (v 0) := hk0_v3
  have hq1_v3 : v3 1 = (v 1) := hk1_v3
  have hq9_v3 : v3 9 = (v 9) := hk9_v3
  have hq10_v3 : v3 10 = (v 10) := hk10_v3
  have hq31_v3 : v3 31 = (v 31) := hk31_v3
  have hq32_v3 : v3 32 = (v 32) := hk32_v3
  rcases hw with ⟨g5⟩ | ⟨g5⟩
  · skip
    subst g5
    exact ret 1 (v3, f4) _ _ _ _ _ _ rfl ⟨(gsX_X6_closing_1_q0 hG2), hM_v3, hA_f4, hIv3, hk0_v3, hk1_v3, hk9_v3, hk10_v3, hk31_v3, hk32_v3, (Or.inl rfl)⟩ hP hD hS dX6_closing_6 (Nat.le_refl _) (Nat.le_refl _)
  · skip
    subst g5
    exact ret 0 (v3, f4) _ _ _ _ _ _ rfl ⟨(gsX_X6_closing_1_q1 hG2), hM_v3, hA_f4, hIv3, hk0_v3, hk1_v3, hk9_v3, hk10_v3, hk31_v3, hk32_v3, (Or.inr rfl)⟩ hP hD hS dX6_closing_6 (Nat.le_refl _) (Nat.le_refl _)
set_option maxHeartbeats 4000000 in
set_option maxRecDepth 100000 in
theorem sX_X6_name_2 (NF : Nat) (l : Launch) (dC : Nat → ClassId) (dI : Nat → Nat → Nat) (cy : Nat → ClassId) (x0 : Nat) (x : Nat → Nat) (p2 : Int32) (v : Nat → Int32) (f : Nat → Nat → Int32) (hIv : XI v)  : ctIS l (dC, dI) cy yX6_name cX6_name 4 .boolean 7 191 0 0 ((Nat → Int32) × (Nat → Nat → Int32)) [.ref (x 2), .ref (x 12), .int p2] (XW cy x0 x v f) (fun r u => gsX_X6_name_2 NF p2 v f = (r, u) ∧ KV [2, 3, 4, 5, 7, 8] u.1 v ∧ KF [8] u.2 f ∧ XI u.1 ∧ u.1 0 = v 0 ∧ u.1 1 = v 1 ∧ u.1 9 = v 9 ∧ u.1 10 = v 10 ∧ u.1 31 = v 31 ∧ u.1 32 = v 32 ∧ ((r = 1) ∨ (r = 0))) (fun u => XW cy x0 x u.1 u.2) := by
  refine ctIS_of (by decide) (Nat.le_of_ble_eq_true rfl) (fun p e s m below meth c A ls Q hx hb hml hts hown hE hF hT hP hD hA hl ret => ?_)
  have hM_v : KV [2, 3, 4, 5, 7, 8] v v := fun _ _ => rfl
  have hA_f : KF [8] f f := fun _ _ => rfl
  have hown : s.vm.findClass RX6 = some m.cls := hown
  have hS : va_S A s.heap s.heap [] := va_S.rf
  have hl : lv_has ls 4 [(0, .ref (x 2)), (1, .ref (x 12)), (2, .int p2)] := hl
  refine lv_aload_n hx hb dX6_name_0 rfl (lv_at hl 0 rfl) ?_
  refine va_get (D := (dC, dI)) (ci := 6) (v := .ref (x 0)) (C := RX6) (T := TX6) (N := 7) hx hb hts inB_6 hown hE.1 hP 3 rfl rfl 0 (Nat.le_of_ble_eq_true rfl) (hts _ k_265) (fun _ h9 => h9) rfl dX6_name_1 ?_
  refine va_getN (D := (dC, dI)) (ci := 9) (v := .int (v 2)) (C := RX9) (T := TX9) (N := 6) hx hb hts inB_9 hown hE.1 hP 1 rfl rfl 2 (Nat.le_of_ble_eq_true rfl) (va_Nw.use rfl (hE.2 _ k_139)) (fun _ h9 => h9) rfl dX6_name_4 ?_
  refine lv_iconst (v := 3) hx hb dX6_name_7 rfl ?_
  refine lv_icmp_eq (tgt := 16) hx hb dX6_name_8 rfl (fun c1 => ?_) (fun c1 => ?_)
  · skip
    refine lv_iconst (v := 0) hx hb dX6_name_16 rfl ?_
    refine lv_istore_n (lv' := [(3, .int 0), (0, .ref (x 2)), (1, .ref (x 12)), (2, .int p2)]) hx hb dX6_name_17 rfl hl (Nat.le_of_ble_eq_true rfl) rfl (fun ls hl => ?_)
    have lp2 : ∀ (n2 : Nat) (l3_2 : Int32) (v2 : Nat → Int32) (f2 : Nat → Nat → Int32), XI v2 → v2 0 = (v 0) → v2 1 = (v 1) → v2 9 = (v 9) → v2 10 = (v 10) → v2 31 = (v 31) → v2 32 = (v 32) → gsX_X6_name_2_L2 NF p2 n2 l3_2 v2 f2 = (gsX_X6_name_2 NF p2 v f) → ((0 : Int) ≤ l3_2.toInt ∧ l3_2.toInt ≤ 2147483647) → KV [2, 3, 4, 5, 7, 8] v2 v → KF [8] f2 f → (2147483647 - l3_2.toInt).toNat < n2 → ∀ (H : Heap) (locs : List Loc) (ls : Array Slot), va_P (dC, dI) vwCl (XW cy x0 x v2 f2) H → va_D A (XW cy x0 x v2 f2) → va_S A s.heap H locs → lv_has ls 4 [(3, .int l3_2), (0, .ref (x 2)), (1, .ref (x 12)), (2, .int p2)] → W p l e { frames := 7, cells := 0, slots := 0, locals := 191 } s m ([.ref (x 2), .ref (x 12), .int p2] : List Value).toArray below meth c H locs 0 0 Q (F0 m 18 ls []) := by
      intro n2
      induction n2 with
      | zero => intro l3_2 v2 f2 hIv2 hq0_v2 hq1_v2 hq9_v2 hq10_v2 hq31_v2 hq32_v2 hT2 hr3_2 hM_v2 hA_f2 hm; exact absurd hm (Nat.not_lt_zero _)
      | succ n2 ih2 =>
        intro l3_2 v2 f2 hIv2 hq0_v2 hq1_v2 hq9_v2 hq10_v2 hq31_v2 hq32_v2 hT2 hr3_2 hM_v2 hA_f2 hm2 H locs ls hP hD hS hl
        refine lv_iload_n hx hb dX6_name_18 rfl (lv_at hl 0 rfl) ?_
        refine lv_iload_n hx hb dX6_name_19 rfl (lv_at hl 3 rfl) ?_
        refine lv_icmp_ge (tgt := 61) hx hb dX6_name_20 rfl (fun c3 => ?_) (fun c3 => ?_)
        · skip
          refine lv_iload_n hx hb dX6_name_61 rfl (lv_at hl 3 rfl) ?_
          refine lv_if_lt (tgt := 81) hx hb dX6_name_62 rfl (fun c6 => ?_) (fun c6 => ?_)
          · skip
            refine lv_aload_n hx hb dX6_name_81 rfl (lv_at hl 1 rfl) ?_
            refine va_get (D := (dC, dI)) (ci := 6) (v := .ref (x 0)) (C := RX6) (T := TX6) (N := 7) hx hb hts inB_6 hown hE.1 hP 3 rfl rfl 0 (Nat.le_of_ble_eq_true rfl) (hts _ k_265) (fun _ h9 => h9) rfl dX6_name_82 ?_
            refine csVv (n := 0) (rest := []) hx hb hml hown hts hE hP hD hS hA hF hT (sX_X9_advance_1 NF l dC dI cy x0 x  v2 f2 hIv2 ) k_699 k_559 k_560 k_102 k_561 hd_yX9_advance ⟨Nat.le_of_ble_eq_true rfl, Nat.le_of_ble_eq_true rfl⟩ 1 9 rfl rfl (rfl) hl.1 rfl (Nat.le_of_ble_eq_true rfl) dX6_name_85 (fun u H locs hw hP hD hS => ?_)
            obtain ⟨hG7, hw⟩ := hw
            obtain ⟨v8, f9⟩ := u
            obtain ⟨kV_v8, kF_f9, hIv8, hk0_v8, hk1_v8, hk7_v8, hk8_v8, hk9_v8, hk10_v8, hk31_v8, hk32_v8⟩ := hw
            have hM_v8 : KV [2, 3, 4, 5, 7, 8] v8 v := KV.tr kV_v8 hM_v2 rfl
            have hA_f9 : KF [8] f9 f := KF.tr kF_f9 hA_f2 rfl
            have hP : va_P (dC, dI) vwCl (XW cy x0 x v8 f9) H := hP
            have hD : va_D A (XW cy x0 x v8 f9) := hD
            refine lv_iconst (v := 1) hx hb dX6_name_88 rfl ?_
            exact ret 1 (v8, f9) _ _ _ _ _ _ rfl ⟨(hT2.symm.trans (gsX_X6_name_2_q0 c3 c6 hG7)), hM_v8, hA_f9, hIv8, (hk0_v8.trans (show v2 0 = v 0 from hq0_v2)), (hk1_v8.trans (show v2 1 = v 1 from hq1_v2)), (hk9_v8.trans (show v2 9 = v 9 from hq9_v2)), (hk10_v8.trans (show v2 10 = v 10 from hq10_v2)), (hk31_v8.trans (show v2 31 = v 31 from hq31_v2)), (hk32_v8.trans (show v2 32 = v 32 from hq32_v2)), (Or.inl rfl)⟩ hP hD hS dX6_name_89 (Nat.le_refl _) (Nat.le_refl _)
          · skip
            have zc6 : ¬ (p2.toInt < 0) := zLn rfl tc_0 c6
            refine lv_iload_n hx hb dX6_name_65 rfl (lv_at hl 3 rfl) ?_
            refine lv_aload_n hx hb dX6_name_66 rfl (lv_at hl 2 rfl) ?_
            refine va_alen (v := 6) hx hb hE.1 hP 13 1 rfl rfl rfl dX6_name_67 ?_
            refine lv_icmp_ge (tgt := 81) hx hb dX6_name_68 rfl (fun c10 => ?_) (fun c10 => ?_)
            · skip
              refine lv_aload_n hx hb dX6_name_81 rfl (lv_at hl 1 rfl) ?_
              refine va_get (D := (dC, dI)) (ci := 6) (v := .ref (x 0)) (C := RX6) (T := TX6) (N := 7) hx hb hts inB_6 hown hE.1 hP 3 rfl rfl 0 (Nat.le_of_ble_eq_true rfl) (hts _ k_265) (fun _ h9 => h9) rfl dX6_name_82 ?_
              refine csVv (n := 0) (rest := []) hx hb hml hown hts hE hP hD hS hA hF hT (sX_X9_advance_1 NF l dC dI cy x0 x  v2 f2 hIv2 ) k_699 k_559 k_560 k_102 k_561 hd_yX9_advance ⟨Nat.le_of_ble_eq_true rfl, Nat.le_of_ble_eq_true rfl⟩ 1 9 rfl rfl (rfl) hl.1 rfl (Nat.le_of_ble_eq_true rfl) dX6_name_85 (fun u H locs hw hP hD hS => ?_)
              obtain ⟨hG11, hw⟩ := hw
              obtain ⟨v12, f13⟩ := u
              obtain ⟨kV_v12, kF_f13, hIv12, hk0_v12, hk1_v12, hk7_v12, hk8_v12, hk9_v12, hk10_v12, hk31_v12, hk32_v12⟩ := hw
              have hM_v12 : KV [2, 3, 4, 5, 7, 8] v12 v := KV.tr kV_v12 hM_v2 rfl
              have hA_f13 : KF [8] f13 f := KF.tr kF_f13 hA_f2 rfl
              have hP : va_P (dC, dI) vwCl (XW cy x0 x v12 f13) H := hP
              have hD : va_D A (XW cy x0 x v12 f13) := hD
              refine lv_iconst (v := 1) hx hb dX6_name_88 rfl ?_
              exact ret 1 (v12, f13) _ _ _ _ _ _ rfl ⟨(hT2.symm.trans (gsX_X6_name_2_q1 c3 c6 c10 hG11)), hM_v12, hA_f13, hIv12, (hk0_v12.trans (show v2 0 = v 0 from hq0_v2)), (hk1_v12.trans (show v2 1 = v 1 from hq1_v2)), (hk9_v12.trans (show v2 9 = v 9 from hq9_v2)), (hk10_v12.trans (show v2 10 = v 10 from hq10_v2)), (hk31_v12.trans (show v2 31 = v 31 from hq31_v2)), (hk32_v12.trans (show v2 32 = v 32 from hq32_v2)), (Or.inl rfl)⟩ hP hD hS dX6_name_89 (Nat.le_refl _) (Nat.le_refl _)
            · skip
              have zc10 : ¬ (6 ≤ p2.toInt) := zMn tc_6 rfl c10
              refine lv_aload_n hx hb dX6_name_71 rfl (lv_at hl 2 rfl) ?_
              refine lv_iload_n hx hb dX6_name_72 rfl (lv_at hl 3 rfl) ?_
              refine lv_aload_n hx hb dX6_name_73 rfl (lv_at hl 1 rfl) ?_
              refine va_get (D := (dC, dI)) (ci := 6) (v := .ref (x 0)) (C := RX6) (T := TX6) (N := 7) hx hb hts inB_6 hown hE.1 hP 3 rfl rfl 0 (Nat.le_of_ble_eq_true rfl) (hts _ k_265) (fun _ h9 => h9) rfl dX6_name_74 ?_
              refine va_getN (D := (dC, dI)) (ci := 9) (v := .int (v2 3)) (C := RX9) (T := TX9) (N := 6) hx hb hts inB_9 hown hE.1 hP 1 rfl rfl 3 (Nat.le_of_ble_eq_true rfl) (va_Nw.use rfl (hE.2 _ k_142)) (fun _ h9 => h9) rfl dX6_name_77 ?_
              refine stI hx hb hE hP hD hS 13 rfl (vpI (k := 6) rfl (show 0 ≤ p2.toInt from om_14 zc6) (show p2.toInt < 6 from om_64 zc10)) rfl dX6_name_80 (fun H locs hP hD hS => ?_)
              obtain ⟨f14, ef14, hP, hD⟩ : ∃ fz9, fz9 = upd2 f2 8 (upd (f2 8) p2.toNatClampNeg (v2 3)) ∧ va_P (dC, dI) vwCl (XW cy x0 x v2 fz9) H ∧ va_D A (XW cy x0 x v2 fz9) := ⟨_, rfl, hP, hD⟩
              have hA_f14 : KF [8] f14 f := by rw [ef14]; exact KF.up hA_f2 rfl
              refine lv_aload_n hx hb dX6_name_81 rfl (lv_at hl 1 rfl) ?_
              refine va_get (D := (dC, dI)) (ci := 6) (v := .ref (x 0)) (C := RX6) (T := TX6) (N := 7) hx hb hts inB_6 hown hE.1 hP 3 rfl rfl 0 (Nat.le_of_ble_eq_true rfl) (hts _ k_265) (fun _ h9 => h9) rfl dX6_name_82 ?_
              refine csVv (n := 0) (rest := []) hx hb hml hown hts hE hP hD hS hA hF hT (sX_X9_advance_1 NF l dC dI cy x0 x  v2 f14 hIv2 ) k_699 k_559 k_560 k_102 k_561 hd_yX9_advance ⟨Nat.le_of_ble_eq_true rfl, Nat.le_of_ble_eq_true rfl⟩ 1 9 rfl rfl (rfl) hl.1 rfl (Nat.le_of_ble_eq_true rfl) dX6_name_85 (fun u H locs hw hP hD hS => ?_)
              obtain ⟨hG15, hw⟩ := hw
              obtain ⟨v16, f17⟩ := u
              obtain ⟨kV_v16, kF_f17, hIv16, hk0_v16, hk1_v16, hk7_v16, hk8_v16, hk9_v16, hk10_v16, hk31_v16, hk32_v16⟩ := hw
              have hM_v16 : KV [2, 3, 4, 5, 7, 8] v16 v := KV.tr kV_v16 hM_v2 rfl
              have hA_f17 : KF [8] f17 f := KF.tr kF_f17 hA_f14 rfl
              have hP : va_P (dC, dI) vwCl (XW cy x0 x v16 f17) H := hP
              have hD : va_D A (XW cy x0 x v16 f17) := hD
              refine lv_iconst (v := 1) hx hb dX6_name_88 rfl ?_
              exact ret 1 (v16, f17) _ _ _ _ _ _ rfl ⟨(hT2.symm.trans (gsX_X6_name_2_q2 c3 c6 c10 ef14 hG15)), hM_v16, hA_f17, hIv16, (hk0_v16.trans (show v2 0 = v 0 from hq0_v2)), (hk1_v16.trans (show v2 1 = v 1 from hq1_v2)), (hk9_v16.trans (show v2 9 = v 9 from hq9_v2)), (hk10_v16.trans (show v2 10 = v 10 from hq10_v2)), (hk31_v16.trans (show v2 31 = v 31 from hq31_v2)), (hk32_v16.trans (show v2 32 = v 32 from hq32_v2)), (Or.inl rfl)⟩ hP hD hS dX6_name_89 (Nat.le_refl _) (Nat.le_refl _)
        · skip
          refine lv_iload_n hx hb dX6_name_23 rfl (lv_at hl 0 rfl) ?_
          refine lv_aload_n hx hb dX6_name_24 rfl (lv_at hl 2 rfl) ?_
          refine va_alen (v := 6) hx hb hE.1 hP 13 1 rfl rfl rfl dX6_name_25 ?_
          refine lv_icmp_ge (tgt := 61) hx hb dX6_name_26 rfl (fun c20 => ?_) (fun c20 => ?_)
          · skip
            refine lv_iload_n hx hb dX6_name_61 rfl (lv_at hl 3 rfl) ?_
            refine lv_if_lt (tgt := 81) hx hb dX6_name_62 rfl (fun c21 => ?_) (fun c21 => ?_)
            · skip
              refine lv_aload_n hx hb dX6_name_81 rfl (lv_at hl 1 rfl) ?_
              refine va_get (D := (dC, dI)) (ci := 6) (v := .ref (x 0)) (C := RX6) (T := TX6) (N := 7) hx hb hts inB_6 hown hE.1 hP 3 rfl rfl 0 (Nat.le_of_ble_eq_true rfl) (hts _ k_265) (fun _ h9 => h9) rfl dX6_name_82 ?_
              refine csVv (n := 0) (rest := []) hx hb hml hown hts hE hP hD hS hA hF hT (sX_X9_advance_1 NF l dC dI cy x0 x  v2 f2 hIv2 ) k_699 k_559 k_560 k_102 k_561 hd_yX9_advance ⟨Nat.le_of_ble_eq_true rfl, Nat.le_of_ble_eq_true rfl⟩ 1 9 rfl rfl (rfl) hl.1 rfl (Nat.le_of_ble_eq_true rfl) dX6_name_85 (fun u H locs hw hP hD hS => ?_)
              obtain ⟨hG22, hw⟩ := hw
              obtain ⟨v23, f24⟩ := u
              obtain ⟨kV_v23, kF_f24, hIv23, hk0_v23, hk1_v23, hk7_v23, hk8_v23, hk9_v23, hk10_v23, hk31_v23, hk32_v23⟩ := hw
              have hM_v23 : KV [2, 3, 4, 5, 7, 8] v23 v := KV.tr kV_v23 hM_v2 rfl
              have hA_f24 : KF [8] f24 f := KF.tr kF_f24 hA_f2 rfl
              have hP : va_P (dC, dI) vwCl (XW cy x0 x v23 f24) H := hP
              have hD : va_D A (XW cy x0 x v23 f24) := hD
              refine lv_iconst (v := 1) hx hb dX6_name_88 rfl ?_
              exact ret 1 (v23, f24) _ _ _ _ _ _ rfl ⟨(hT2.symm.trans (gsX_X6_name_2_q3 c3 c20 c21 hG22)), hM_v23, hA_f24, hIv23, (hk0_v23.trans (show v2 0 = v 0 from hq0_v2)), (hk1_v23.trans (show v2 1 = v 1 from hq1_v2)), (hk9_v23.trans (show v2 9 = v 9 from hq9_v2)), (hk10_v23.trans (show v2 10 = v 10 from hq10_v2)), (hk31_v23.trans (show v2 31 = v 31 from hq31_v2)), (hk32_v23.trans (show v2 32 = v 32 from hq32_v2)), (Or.inl rfl)⟩ hP hD hS dX6_name_89 (Nat.le_refl _) (Nat.le_refl _)
            · skip
              have zc21 : ¬ (p2.toInt < 0) := zLn rfl tc_0 c21
              refine lv_iload_n hx hb dX6_name_65 rfl (lv_at hl 3 rfl) ?_
              refine lv_aload_n hx hb dX6_name_66 rfl (lv_at hl 2 rfl) ?_
              refine va_alen (v := 6) hx hb hE.1 hP 13 1 rfl rfl rfl dX6_name_67 ?_
              refine lv_icmp_ge (tgt := 81) hx hb dX6_name_68 rfl (fun c25 => ?_) (fun c25 => ?_)
              · skip
                refine lv_aload_n hx hb dX6_name_81 rfl (lv_at hl 1 rfl) ?_
                refine va_get (D := (dC, dI)) (ci := 6) (v := .ref (x 0)) (C := RX6) (T := TX6) (N := 7) hx hb hts inB_6 hown hE.1 hP 3 rfl rfl 0 (Nat.le_of_ble_eq_true rfl) (hts _ k_265) (fun _ h9 => h9) rfl dX6_name_82 ?_
                refine csVv (n := 0) (rest := []) hx hb hml hown hts hE hP hD hS hA hF hT (sX_X9_advance_1 NF l dC dI cy x0 x  v2 f2 hIv2 ) k_699 k_559 k_560 k_102 k_561 hd_yX9_advance ⟨Nat.le_of_ble_eq_true rfl, Nat.le_of_ble_eq_true rfl⟩ 1 9 rfl rfl (rfl) hl.1 rfl (Nat.le_of_ble_eq_true rfl) dX6_name_85 (fun u H locs hw hP hD hS => ?_)
                obtain ⟨hG26, hw⟩ := hw
                obtain ⟨v27, f28⟩ := u
                obtain ⟨kV_v27, kF_f28, hIv27, hk0_v27, hk1_v27, hk7_v27, hk8_v27, hk9_v27, hk10_v27, hk31_v27, hk32_v27⟩ := hw
                have hM_v27 : KV [2, 3, 4, 5, 7, 8] v27 v := KV.tr kV_v27 hM_v2 rfl
                have hA_f28 : KF [8] f28 f := KF.tr kF_f28 hA_f2 rfl
                have hP : va_P (dC, dI) vwCl (XW cy x0 x v27 f28) H := hP
                have hD : va_D A (XW cy x0 x v27 f28) := hD
                refine lv_iconst (v := 1) hx hb dX6_name_88 rfl ?_
                exact ret 1 (v27, f28) _ _ _ _ _ _ rfl ⟨(hT2.symm.trans (gsX_X6_name_2_q4 c3 c20 c21 c25 hG26)), hM_v27, hA_f28, hIv27, (hk0_v27.trans (show v2 0 = v 0 from hq0_v2)), (hk1_v27.trans (show v2 1 = v 1 from hq1_v2)), (hk9_v27.trans (show v2 9 = v 9 from hq9_v2)), (hk10_v27.trans (show v2 10 = v 10 from hq10_v2)), (hk31_v27.trans (show v2 31 = v 31 from hq31_v2)), (hk32_v27.trans (show v2 32 = v 32 from hq32_v2)), (Or.inl rfl)⟩ hP hD hS dX6_name_89 (Nat.le_refl _) (Nat.le_refl _)
              · skip
                have zc25 : ¬ (6 ≤ p2.toInt) := zMn tc_6 rfl c25
                refine lv_aload_n hx hb dX6_name_71 rfl (lv_at hl 2 rfl) ?_
                refine lv_iload_n hx hb dX6_name_72 rfl (lv_at hl 3 rfl) ?_
                refine lv_aload_n hx hb dX6_name_73 rfl (lv_at hl 1 rfl) ?_
                refine va_get (D := (dC, dI)) (ci := 6) (v := .ref (x 0)) (C := RX6) (T := TX6) (N := 7) hx hb hts inB_6 hown hE.1 hP 3 rfl rfl 0 (Nat.le_of_ble_eq_true rfl) (hts _ k_265) (fun _ h9 => h9) rfl dX6_name_74 ?_
                refine va_getN (D := (dC, dI)) (ci := 9) (v := .int (v2 3)) (C := RX9) (T := TX9) (N := 6) hx hb hts inB_9 hown hE.1 hP 1 rfl rfl 3 (Nat.le_of_ble_eq_true rfl) (va_Nw.use rfl (hE.2 _ k_142)) (fun _ h9 => h9) rfl dX6_name_77 ?_
                refine stI hx hb hE hP hD hS 13 rfl (vpI (k := 6) rfl (show 0 ≤ p2.toInt from om_14 zc21) (show p2.toInt < 6 from om_64 zc25)) rfl dX6_name_80 (fun H locs hP hD hS => ?_)
                obtain ⟨f29, ef29, hP, hD⟩ : ∃ fz9, fz9 = upd2 f2 8 (upd (f2 8) p2.toNatClampNeg (v2 3)) ∧ va_P (dC, dI) vwCl (XW cy x0 x v2 fz9) H ∧ va_D A (XW cy x0 x v2 fz9) := ⟨_, rfl, hP, hD⟩
                have hA_f29 : KF [8] f29 f := by rw [ef29]; exact KF.up hA_f2 rfl
                refine lv_aload_n hx hb dX6_name_81 rfl (lv_at hl 1 rfl) ?_
                refine va_get (D := (dC, dI)) (ci := 6) (v := .ref (x 0)) (C := RX6) (T := TX6) (N := 7) hx hb hts inB_6 hown hE.1 hP 3 rfl rfl 0 (Nat.le_of_ble_eq_true rfl) (hts _ k_265) (fun _ h9 => h9) rfl dX6_name_82 ?_
                refine csVv (n := 0) (rest := []) hx hb hml hown hts hE hP hD hS hA hF hT (sX_X9_advance_1 NF l dC dI cy x0 x  v2 f29 hIv2 ) k_699 k_559 k_560 k_102 k_561 hd_yX9_advance ⟨Nat.le_of_ble_eq_true rfl, Nat.le_of_ble_eq_true rfl⟩ 1 9 rfl rfl (rfl) hl.1 rfl (Nat.le_of_ble_eq_true rfl) dX6_name_85 (fun u H locs hw hP hD hS => ?_)
                obtain ⟨hG30, hw⟩ := hw
                obtain ⟨v31, f32⟩ := u
                obtain ⟨kV_v31, kF_f32, hIv31, hk0_v31, hk1_v31, hk7_v31, hk8_v31, hk9_v31, hk10_v31, hk31_v31, hk32_v31⟩ := hw
                have hM_v31 : KV [2, 3, 4, 5, 7, 8] v31 v := KV.tr kV_v31 hM_v2 rfl
                have hA_f32 : KF [8] f32 f := KF.tr kF_f32 hA_f29 rfl
                have hP : va_P (dC, dI) vwCl (XW cy x0 x v31 f32) H := hP
                have hD : va_D A (XW cy x0 x v31 f32) := hD
                refine lv_iconst (v := 1) hx hb dX6_name_88 rfl ?_
                exact ret 1 (v31, f32) _ _ _ _ _ _ rfl ⟨(hT2.symm.trans (gsX_X6_name_2_q5 c3 c20 c21 c25 ef29 hG30)), hM_v31, hA_f32, hIv31, (hk0_v31.trans (show v2 0 = v 0 from hq0_v2)), (hk1_v31.trans (show v2 1 = v 1 from hq1_v2)), (hk9_v31.trans (show v2 9 = v 9 from hq9_v2)), (hk10_v31.trans (show v2 10 = v 10 from hq10_v2)), (hk31_v31.trans (show v2 31 = v 31 from hq31_v2)), (hk32_v31.trans (show v2 32 = v 32 from hq32_v2)), (Or.inl rfl)⟩ hP hD hS dX6_name_89 (Nat.le_refl _) (Nat.le_refl _)
          · skip
            have zc20 : ¬ (6 ≤ l3_2.toInt) := zMn tc_6 rfl c20
            refine lv_aload_n hx hb dX6_name_29 rfl (lv_at hl 1 rfl) ?_
            refine va_get (D := (dC, dI)) (ci := 6) (v := .ref (x 0)) (C := RX6) (T := TX6) (N := 7) hx hb hts inB_6 hown hE.1 hP 3 rfl rfl 0 (Nat.le_of_ble_eq_true rfl) (hts _ k_265) (fun _ h9 => h9) rfl dX6_name_30 ?_
            refine lv_aload_n hx hb dX6_name_33 rfl (lv_at hl 2 rfl) ?_
            refine lv_iload_n hx hb dX6_name_34 rfl (lv_at hl 0 rfl) ?_
            refine ldI hx hb hE hP 13 rfl (vpI (k := 6) rfl (show 0 ≤ l3_2.toInt from om_39 hr3_2) (show l3_2.toInt < 6 from om_64 zc20)) rfl rfl dX6_name_35 ?_
            refine lv_topi (fun t33 et33 => ?_)
            refine lv_aload_n hx hb dX6_name_36 rfl (lv_at hl 1 rfl) ?_
            refine va_get (D := (dC, dI)) (ci := 6) (v := .ref (x 0)) (C := RX6) (T := TX6) (N := 7) hx hb hts inB_6 hown hE.1 hP 3 rfl rfl 0 (Nat.le_of_ble_eq_true rfl) (hts _ k_265) (fun _ h9 => h9) rfl dX6_name_37 ?_
            refine va_getN (D := (dC, dI)) (ci := 9) (v := .int (v2 3)) (C := RX9) (T := TX9) (N := 6) hx hb hts inB_9 hown hE.1 hP 1 rfl rfl 3 (Nat.le_of_ble_eq_true rfl) (va_Nw.use rfl (hE.2 _ k_142)) (fun _ h9 => h9) rfl dX6_name_40 ?_
            refine cbVi (n := 2) (rest := []) hx hb hml hown hts hE hP hD hS hA (sX_X9_sameWord_1 NF l dC dI cy x0 x t33 (v2 3) v2 f2 hIv2 ) k_704 k_705 k_706 k_102 k_707 hd_yX9_sameWord ⟨Nat.le_of_ble_eq_true rfl, Nat.le_of_ble_eq_true rfl⟩ 1 9 rfl rfl (rfl) hl.1 rfl (Nat.le_of_ble_eq_true rfl) dX6_name_43 (fun r34 u H locs hw hP hD hS => ?_)
            obtain ⟨hG35, hw⟩ := hw
            rcases hw with ⟨g36⟩ | ⟨g36⟩
            · skip
              subst g36
              refine lv_if_eq (tgt := 55) hx hb dX6_name_46 rfl (fun c0 => absurd c0 (by decide)) (fun _ => ?_)
              refine lv_aload_n hx hb dX6_name_49 rfl (lv_at hl 1 rfl) ?_
              refine lv_iconst (v := 3) hx hb dX6_name_50 rfl ?_
              refine cbVi (n := 1) (rest := []) hx hb hml hown hts hE hP hD hS hA (sX_X6_refuseAs_1 NF l dC dI cy x0 x 3 v2 f2 hIv2 ) k_695 k_697 k_7 k_103 k_698 hd_yX6_refuseAs ⟨Nat.le_of_ble_eq_true rfl, Nat.le_of_ble_eq_true rfl⟩ 3 6 rfl rfl (rfl) hl.1 rfl (Nat.le_of_ble_eq_true rfl) dX6_name_51 (fun r37 u H locs hw hP hD hS => ?_)
              obtain ⟨hG38, hw⟩ := hw
              obtain ⟨v39, f40⟩ := u
              obtain ⟨kV_v39, kF_f40, hIv39, hk0_v39, hk1_v39, hk9_v39, hk10_v39, hk31_v39, hk32_v39, hw⟩ := hw
              have hM_v39 : KV [2, 3, 4, 5, 7, 8] v39 v := KV.tr kV_v39 hM_v2 rfl
              have hA_f40 : KF [8] f40 f := KF.tr kF_f40 hA_f2 rfl
              have hP : va_P (dC, dI) vwCl (XW cy x0 x v39 f40) H := hP
              have hD : va_D A (XW cy x0 x v39 f40) := hD
              rcases hw with ⟨g41⟩ | ⟨g41⟩
              · skip
                subst g41
                exact ret 1 (v39, f40) _ _ _ _ _ _ rfl ⟨(hT2.symm.trans (gsX_X6_name_2_q6 c3 c20 et33 hG35 hG38)), hM_v39, hA_f40, hIv39, (hk0_v39.trans (show v2 0 = v 0 from hq0_v2)), (hk1_v39.trans (show v2 1 = v 1 from hq1_v2)), (hk9_v39.trans (show v2 9 = v 9 from hq9_v2)), (hk10_v39.trans (show v2 10 = v 10 from hq10_v2)), (hk31_v39.trans (show v2 31 = v 31 from hq31_v2)), (hk32_v39.trans (show v2 32 = v 32 from hq32_v2)), (Or.inl rfl)⟩ hP hD hS dX6_name_54 (Nat.le_refl _) (Nat.le_refl _)
              · skip
                subst g41
                exact ret 0 (v39, f40) _ _ _ _ _ _ rfl ⟨(hT2.symm.trans (gsX_X6_name_2_q7 c3 c20 et33 hG35 hG38)), hM_v39, hA_f40, hIv39, (hk0_v39.trans (show v2 0 = v 0 from hq0_v2)), (hk1_v39.trans (show v2 1 = v 1 from hq1_v2)), (hk9_v39.trans (show v2 9 = v 9 from hq9_v2)), (hk10_v39.trans (show v2 10 = v 10 from hq10_v2)), (hk31_v39.trans (show v2 31 = v 31 from hq31_v2)), (hk32_v39.trans (show v2 32 = v 32 from hq32_v2)), (Or.inr rfl)⟩ hP hD hS dX6_name_54 (Nat.le_refl _) (Nat.le_refl _)
            · skip
              subst g36
              refine lv_if_eq (tgt := 55) hx hb dX6_name_46 rfl (fun _ => ?_) (fun c0 => absurd (by decide) c0)
              obtain ⟨t42, et42⟩ : ∃ y : Int32, y = l3_2 + 1 := ⟨_, rfl⟩
              have zt42 : t42.toInt = l3_2.toInt + 1 := (congrArg Int32.toInt et42).trans (add_i rfl tc_1 (om_41 hr3_2) (om_65 zc20))
              refine lv_iinc (v := t42) (lv' := [(3, .int t42), (0, .ref (x 2)), (1, .ref (x 12)), (2, .int p2)]) hx hb dX6_name_55 hl (k := 0) rfl et42.symm (Nat.le_of_ble_eq_true rfl) rfl (fun ls hl => ?_)
              refine lv_goto (tgt := 18) hx hb dX6_name_58 rfl ?_
              have rg43 := fb_rng t42
              exact ih2 t42 v2 f2 hIv2 hq0_v2 hq1_v2 hq9_v2 hq10_v2 hq31_v2 hq32_v2 ((gsX_X6_name_2_q8 c3 c20 et33 hG35 et42).symm.trans hT2) ⟨show (0 : Int) ≤ t42.toInt from om_43 hr3_2 zt42, show t42.toInt ≤ (2147483647 : Int) from om_44 rg43⟩ hM_v2 hA_f2 (show (2147483647 - t42.toInt).toNat < n2 from om_33 hm2 zt42 rg43) _ _ _ hP hD hS (lv_sub hl [0, 1, 2, 3] rfl)
    exact lp2 (4294967296 + NF) 0 v f hIv rfl rfl rfl rfl rfl rfl (gsX_X6_name_2_q9 c1).symm ⟨by decide, by decide⟩ hM_v hA_f (show (2147483647 - (0 : Int32).toInt).toNat < 4294967296 + NF from om_38 tc_0) _ _ _ hP hD hS (lv_sub hl [0, 1, 2, 3] rfl)
  · skip
    refine lv_aload_n hx hb dX6_name_11 rfl (lv_at hl 0 rfl) ?_
    refine cbVi (n := 0) (rest := []) hx hb hml hown hts hE hP hD hS hA (sX_X6_refuse_1 NF l dC dI cy x0 x  v f hIv ) k_691 k_693 k_6 k_103 k_694 hd_yX6_refuse ⟨Nat.le_of_ble_eq_true rfl, Nat.le_of_ble_eq_true rfl⟩ 3 6 rfl rfl (rfl) hl.1 rfl (Nat.le_of_ble_eq_true rfl) dX6_name_12 (fun r44 u H locs hw hP hD hS => ?_)
    obtain ⟨hG45, hw⟩ := hw
    obtain ⟨v46, f47⟩ := u
    obtain ⟨kV_v46, kF_f47, hIv46, hk0_v46, hk1_v46, hk9_v46, hk10_v46, hk31_v46, hk32_v46, hw⟩ := hw
    have hM_v46 : KV [2, 3, 4, 5, 7, 8] v46 v := KV.tr kV_v46 hM_v rfl
    have hA_f47 : KF [8] f47 f := KF.tr kF_f47 hA_f rfl
    have hP : va_P (dC, dI) vwCl (XW cy x0 x v46 f47) H := hP
    have hD : va_D A (XW cy x0 x v46 f47) := hD
    rcases hw with ⟨g48⟩ | ⟨g48⟩
    · skip
      subst g48
      exact ret 1 (v46, f47) _ _ _ _ _ _ rfl ⟨(gsX_X6_name_2_q10 c1 hG45), hM_v46, hA_f47, hIv46, hk0_v46, hk1_v46, hk9_v46, hk10_v46, hk31_v46, hk32_v46, (Or.inl rfl)⟩ hP hD hS dX6_name_15 (Nat.le_refl _) (Nat.le_refl _)
    · skip
      subst g48
      exact ret 0 (v46, f47) _ _ _ _ _ _ rfl ⟨(gsX_X6_name_2_q11 c1 hG45), hM_v46, hA_f47, hIv46, hk0_v46, hk1_v46, hk9_v46, hk10_v46, hk31_v46, hk32_v46, (Or.inr rfl)⟩ hP hD hS dX6_name_15 (Nat.le_refl _) (Nat.le_refl _)
set_option maxHeartbeats 4000000 in
set_option maxRecDepth 100000 in
theorem sX_X7_addCoat_1 (NF : Nat) (l : Launch) (dC : Nat → ClassId) (dI : Nat → Nat → Nat) (cy : Nat → ClassId) (x0 : Nat) (x : Nat → Nat) (p1 : Int32) (p2 : Int32) (p3 : Int32) (p4 : Int32) (v : Nat → Int32) (f : Nat → Nat → Int32) (hIv : XI v)  : ctV l (dC, dI) cy yX7_addCoat cX7_addCoat 5 1 60 0 0 ((Nat → Int32) × (Nat → Nat → Int32)) [.ref (x 3), .int p1, .int p2, .int p3, .int p4] (XW cy x0 x v f) (fun u => gsX_X7_addCoat_1 NF p1 p2 p3 p4 v f = u ∧ KV [10] u.1 v ∧ KF [2] u.2 f ∧ XI u.1 ∧ u.1 0 = v 0 ∧ u.1 1 = v 1 ∧ u.1 7 = v 7 ∧ u.1 8 = v 8 ∧ u.1 9 = v 9 ∧ u.1 31 = v 31) (fun u => XW cy x0 x u.1 u.2) := by
  refine ctV_of (by decide) (Nat.le_of_ble_eq_true rfl) (fun p e s m below meth c A ls Q hx hb hml hts hown hnm hE hP hD hA hl ret => ?_)
  have hM_v : KV [10] v v := fun _ _ => rfl
  have hA_f : KF [2] f f := fun _ _ => rfl
  have hown : s.vm.findClass RX7 = some m.cls := hown
  have hS : va_S A s.heap s.heap [] := va_S.rf
  have hl : lv_has ls 5 [(0, .ref (x 3)), (1, .int p1), (2, .int p2), (3, .int p3), (4, .int p4)] := hl
  refine lv_aload_n hx hb dX7_addCoat_0 rfl (lv_at hl 0 rfl) ?_
  refine va_get (D := (dC, dI)) (ci := 7) (v := .int (v 10)) (C := RX7) (T := TX7) (N := 10) hx hb hts inB_7 hown hE.1 hP 4 rfl rfl 4 (Nat.le_of_ble_eq_true rfl) (hts _ k_220) (fun _ h9 => h9) rfl dX7_addCoat_1 ?_
  have b10_v : 0 ≤ (v 10).toInt ∧ (v 10).toInt ≤ 6 := Xb_10 hIv
  refine lv_bipush (v := 6) hx hb dX7_addCoat_4 rfl ?_
  refine lv_icmp_ge (tgt := 71) hx hb dX7_addCoat_6 rfl (fun c1 => ?_) (fun c1 => ?_)
  · skip
    exact ret (v, f) _ _ _ _ _ _ ⟨(gsX_X7_addCoat_1_q0 c1), hM_v, hA_f, hIv, rfl, rfl, rfl, rfl, rfl, rfl⟩ hP hD hS dX7_addCoat_71 (Nat.le_refl _) (Nat.le_refl _)
  · skip
    have zc1 : ¬ (6 ≤ (v 10).toInt) := zMn tc_6 rfl c1
    refine lv_aload_n hx hb dX7_addCoat_9 rfl (lv_at hl 0 rfl) ?_
    refine va_get (D := (dC, dI)) (ci := 7) (v := .ref (x 5)) (C := RX7) (T := TX7) (N := 10) hx hb hts inB_7 hown hE.1 hP 4 rfl rfl 1 (Nat.le_of_ble_eq_true rfl) (hts _ k_205) (fun _ h9 => h9) rfl dX7_addCoat_10 ?_
    refine lv_iconst (v := 0) hx hb dX7_addCoat_13 rfl ?_
    refine lv_aload_n hx hb dX7_addCoat_14 rfl (lv_at hl 0 rfl) ?_
    refine va_get (D := (dC, dI)) (ci := 7) (v := .int (v 10)) (C := RX7) (T := TX7) (N := 10) hx hb hts inB_7 hown hE.1 hP 4 rfl rfl 4 (Nat.le_of_ble_eq_true rfl) (hts _ k_220) (fun _ h9 => h9) rfl dX7_addCoat_15 ?_
    refine lv_iadd hx hb dX7_addCoat_18 ?_
    refine lv_topi (fun t2 et2 => ?_)
    have zt2 : t2.toInt = 0 + (v 10).toInt := (congrArg Int32.toInt et2).trans (add_i tc_0 rfl (om_66 b10_v) (om_67 zc1))
    refine lv_iload_n hx hb dX7_addCoat_19 rfl (lv_at hl 1 rfl) ?_
    refine stI hx hb hE hP hD hS 6 rfl (vpI (k := 24) rfl (show 0 ≤ t2.toInt from om_68 b10_v zt2) (show t2.toInt < 24 from om_81 zc1 zt2)) rfl dX7_addCoat_20 (fun H locs hP hD hS => ?_)
    obtain ⟨f4, ef4, hP, hD⟩ : ∃ fz9, fz9 = upd2 f 2 (upd (f 2) t2.toNatClampNeg p1) ∧ va_P (dC, dI) vwCl (XW cy x0 x v fz9) H ∧ va_D A (XW cy x0 x v fz9) := ⟨_, rfl, hP, hD⟩
    have hA_f4 : KF [2] f4 f := by rw [ef4]; exact KF.up hA_f rfl
    refine lv_aload_n hx hb dX7_addCoat_21 rfl (lv_at hl 0 rfl) ?_
    refine va_get (D := (dC, dI)) (ci := 7) (v := .ref (x 5)) (C := RX7) (T := TX7) (N := 10) hx hb hts inB_7 hown hE.1 hP 4 rfl rfl 1 (Nat.le_of_ble_eq_true rfl) (hts _ k_205) (fun _ h9 => h9) rfl dX7_addCoat_22 ?_
    refine lv_bipush (v := 6) hx hb dX7_addCoat_25 rfl ?_
    refine lv_aload_n hx hb dX7_addCoat_27 rfl (lv_at hl 0 rfl) ?_
    refine va_get (D := (dC, dI)) (ci := 7) (v := .int (v 10)) (C := RX7) (T := TX7) (N := 10) hx hb hts inB_7 hown hE.1 hP 4 rfl rfl 4 (Nat.le_of_ble_eq_true rfl) (hts _ k_220) (fun _ h9 => h9) rfl dX7_addCoat_28 ?_
    refine lv_iadd hx hb dX7_addCoat_31 ?_
    refine lv_topi (fun t5 et5 => ?_)
    have zt5 : t5.toInt = 6 + (v 10).toInt := (congrArg Int32.toInt et5).trans (add_i tc_6 rfl (om_70 b10_v) (om_71 zc1))
    refine lv_iload_n hx hb dX7_addCoat_32 rfl (lv_at hl 2 rfl) ?_
    refine stI hx hb hE hP hD hS 6 rfl (vpI (k := 24) rfl (show 0 ≤ t5.toInt from om_72 b10_v zt5) (show t5.toInt < 24 from om_82 zc1 zt5)) rfl dX7_addCoat_33 (fun H locs hP hD hS => ?_)
    obtain ⟨f6, ef6, hP, hD⟩ : ∃ fz9, fz9 = upd2 f4 2 (upd (f4 2) t5.toNatClampNeg p2) ∧ va_P (dC, dI) vwCl (XW cy x0 x v fz9) H ∧ va_D A (XW cy x0 x v fz9) := ⟨_, rfl, hP, hD⟩
    have hA_f6 : KF [2] f6 f := by rw [ef6]; exact KF.up hA_f4 rfl
    refine lv_aload_n hx hb dX7_addCoat_34 rfl (lv_at hl 0 rfl) ?_
    refine va_get (D := (dC, dI)) (ci := 7) (v := .ref (x 5)) (C := RX7) (T := TX7) (N := 10) hx hb hts inB_7 hown hE.1 hP 4 rfl rfl 1 (Nat.le_of_ble_eq_true rfl) (hts _ k_205) (fun _ h9 => h9) rfl dX7_addCoat_35 ?_
    refine lv_bipush (v := 12) hx hb dX7_addCoat_38 rfl ?_
    refine lv_aload_n hx hb dX7_addCoat_40 rfl (lv_at hl 0 rfl) ?_
    refine va_get (D := (dC, dI)) (ci := 7) (v := .int (v 10)) (C := RX7) (T := TX7) (N := 10) hx hb hts inB_7 hown hE.1 hP 4 rfl rfl 4 (Nat.le_of_ble_eq_true rfl) (hts _ k_220) (fun _ h9 => h9) rfl dX7_addCoat_41 ?_
    refine lv_iadd hx hb dX7_addCoat_44 ?_
    refine lv_topi (fun t7 et7 => ?_)
    have zt7 : t7.toInt = 12 + (v 10).toInt := (congrArg Int32.toInt et7).trans (add_i tc_12 rfl (om_74 b10_v) (om_75 zc1))
    refine lv_iload_n hx hb dX7_addCoat_45 rfl (lv_at hl 3 rfl) ?_
    refine stI hx hb hE hP hD hS 6 rfl (vpI (k := 24) rfl (show 0 ≤ t7.toInt from om_76 b10_v zt7) (show t7.toInt < 24 from om_83 zc1 zt7)) rfl dX7_addCoat_46 (fun H locs hP hD hS => ?_)
    obtain ⟨f8, ef8, hP, hD⟩ : ∃ fz9, fz9 = upd2 f6 2 (upd (f6 2) t7.toNatClampNeg p3) ∧ va_P (dC, dI) vwCl (XW cy x0 x v fz9) H ∧ va_D A (XW cy x0 x v fz9) := ⟨_, rfl, hP, hD⟩
    have hA_f8 : KF [2] f8 f := by rw [ef8]; exact KF.up hA_f6 rfl
    refine lv_aload_n hx hb dX7_addCoat_47 rfl (lv_at hl 0 rfl) ?_
    refine va_get (D := (dC, dI)) (ci := 7) (v := .ref (x 5)) (C := RX7) (T := TX7) (N := 10) hx hb hts inB_7 hown hE.1 hP 4 rfl rfl 1 (Nat.le_of_ble_eq_true rfl) (hts _ k_205) (fun _ h9 => h9) rfl dX7_addCoat_48 ?_
    refine lv_bipush (v := 18) hx hb dX7_addCoat_51 rfl ?_
    refine lv_aload_n hx hb dX7_addCoat_53 rfl (lv_at hl 0 rfl) ?_
    refine va_get (D := (dC, dI)) (ci := 7) (v := .int (v 10)) (C := RX7) (T := TX7) (N := 10) hx hb hts inB_7 hown hE.1 hP 4 rfl rfl 4 (Nat.le_of_ble_eq_true rfl) (hts _ k_220) (fun _ h9 => h9) rfl dX7_addCoat_54 ?_
    refine lv_iadd hx hb dX7_addCoat_57 ?_
    refine lv_topi (fun t9 et9 => ?_)
    have zt9 : t9.toInt = 18 + (v 10).toInt := (congrArg Int32.toInt et9).trans (add_i tc_18 rfl (om_84 b10_v) (om_85 zc1))
    refine lv_iload hx hb dX7_addCoat_58 (lv_at hl 4 rfl) ?_
    refine stI hx hb hE hP hD hS 6 rfl (vpI (k := 24) rfl (show 0 ≤ t9.toInt from om_86 b10_v zt9) (show t9.toInt < 24 from om_87 zc1 zt9)) rfl dX7_addCoat_60 (fun H locs hP hD hS => ?_)
    obtain ⟨f10, ef10, hP, hD⟩ : ∃ fz9, fz9 = upd2 f8 2 (upd (f8 2) t9.toNatClampNeg p4) ∧ va_P (dC, dI) vwCl (XW cy x0 x v fz9) H ∧ va_D A (XW cy x0 x v fz9) := ⟨_, rfl, hP, hD⟩
    have hA_f10 : KF [2] f10 f := by rw [ef10]; exact KF.up hA_f8 rfl
    refine lv_aload_n hx hb dX7_addCoat_61 rfl (lv_at hl 0 rfl) ?_
    refine lv_dup hx hb dX7_addCoat_62 rfl ?_
    refine va_get (D := (dC, dI)) (ci := 7) (v := .int (v 10)) (C := RX7) (T := TX7) (N := 10) hx hb hts inB_7 hown hE.1 hP 4 rfl rfl 4 (Nat.le_of_ble_eq_true rfl) (hts _ k_220) (fun _ h9 => h9) rfl dX7_addCoat_63 ?_
    refine lv_iconst (v := 1) hx hb dX7_addCoat_66 rfl ?_
    refine lv_iadd hx hb dX7_addCoat_67 ?_
    refine lv_topi (fun t11 et11 => ?_)
    have zt11 : t11.toInt = (v 10).toInt + 1 := (congrArg Int32.toInt et11).trans (add_i rfl tc_1 (om_78 b10_v) (om_65 zc1))
    refine va_put (D := (dC, dI)) (ci := 7) (v := .int t11) (ty := tyX7 4) (C := RX7) (T := TX7) (N := 10) hx hb hts inB_7 tyX7 tyX7_ok nmX7 hown hE.1 hP hD hS 4 rfl rfl 4 (Nat.le_of_ble_eq_true rfl) (hts _ k_220) (fun _ h9 => h9) rfl (tyX7_ok 4 (Nat.le_of_ble_eq_true rfl)) rfl rfl (Nat.le_of_ble_eq_true rfl) dX7_addCoat_68 (fun H locs hP hD hS => ?_)
    have hP : va_P (dC, dI) vwCl (XW cy x0 x (upd v 10 t11) f10) H := hP
    have hD : va_D A (XW cy x0 x (upd v 10 t11) f10) := hD
    exact ret ((upd v 10 t11), f10) _ _ _ _ _ _ ⟨(gsX_X7_addCoat_1_q1 c1 et2 ef4 et5 ef6 et7 ef8 et9 ef10 et11), (KV.up (j := 10) (x := t11) hM_v rfl), hA_f10, (Xu_10 (x := t11) hIv (show (0 : Int) ≤ t11.toInt from om_79 b10_v zt11) (show t11.toInt ≤ (6 : Int) from om_80 zc1 zt11)), rfl, rfl, rfl, rfl, rfl, rfl⟩ hP hD hS dX7_addCoat_71 (Nat.le_refl _) (Nat.le_refl _)
set_option maxHeartbeats 4000000 in
set_option maxRecDepth 100000 in
theorem sX_X6_coatLine_1 (NF : Nat) (l : Launch) (dC : Nat → ClassId) (dI : Nat → Nat → Nat) (cy : Nat → ClassId) (x0 : Nat) (x : Nat → Nat)  (v : Nat → Int32) (f : Nat → Nat → Int32) (hIv : XI v)  : ctIS l (dC, dI) cy yX6_coatLine cX6_coatLine 5 .boolean 9 235 0 0 ((Nat → Int32) × (Nat → Nat → Int32)) [.ref (x 2)] (XW cy x0 x v f) (fun r u => gsX_X6_coatLine_1 NF v f = (r, u) ∧ KV [2, 3, 4, 5, 7, 8, 10] u.1 v ∧ KF [2, 8] u.2 f ∧ XI u.1 ∧ u.1 0 = v 0 ∧ u.1 1 = v 1 ∧ u.1 9 = v 9 ∧ u.1 31 = v 31 ∧ ((r = 1) ∨ (r = 0))) (fun u => XW cy x0 x u.1 u.2) := by
  refine ctIS_of (by decide) (Nat.le_of_ble_eq_true rfl) (fun p e s m below meth c A ls Q hx hb hml hts hown hE hF hT hP hD hA hl ret => ?_)
  have hM_v : KV [2, 3, 4, 5, 7, 8, 10] v v := fun _ _ => rfl
  have hA_f : KF [2, 8] f f := fun _ _ => rfl
  have hown : s.vm.findClass RX6 = some m.cls := hown
  have hS : va_S A s.heap s.heap [] := va_S.rf
  have hl : lv_has ls 5 [(0, .ref (x 2))] := hl
  refine lv_aload_n hx hb dX6_coatLine_0 rfl (lv_at hl 0 rfl) ?_
  refine va_get (D := (dC, dI)) (ci := 6) (v := .ref (x 3)) (C := RX6) (T := TX6) (N := 7) hx hb hts inB_6 hown hE.1 hP 3 rfl rfl 1 (Nat.le_of_ble_eq_true rfl) (hts _ k_266) (fun _ h9 => h9) rfl dX6_coatLine_1 ?_
  refine va_getN (D := (dC, dI)) (ci := 7) (v := .int (v 10)) (C := RX7) (T := TX7) (N := 10) hx hb hts inB_7 hown hE.1 hP 4 rfl rfl 4 (Nat.le_of_ble_eq_true rfl) (va_Nw.use rfl (hE.2 _ k_224)) (fun _ h9 => h9) rfl dX6_coatLine_4 ?_
  refine lv_bipush (v := 6) hx hb dX6_coatLine_7 rfl ?_
  refine lv_icmp_lt (tgt := 17) hx hb dX6_coatLine_9 rfl (fun c1 => ?_) (fun c1 => ?_)
  · skip
    refine lv_aload_n hx hb dX6_coatLine_17 rfl (lv_at hl 0 rfl) ?_
    refine va_get (D := (dC, dI)) (ci := 6) (v := .ref (x 0)) (C := RX6) (T := TX6) (N := 7) hx hb hts inB_6 hown hE.1 hP 3 rfl rfl 0 (Nat.le_of_ble_eq_true rfl) (hts _ k_265) (fun _ h9 => h9) rfl dX6_coatLine_18 ?_
    refine csVv (n := 0) (rest := []) hx hb hml hown hts hE hP hD hS hA hF hT (sX_X9_advance_1 NF l dC dI cy x0 x  v f hIv ) k_699 k_559 k_560 k_102 k_561 hd_yX9_advance ⟨Nat.le_of_ble_eq_true rfl, Nat.le_of_ble_eq_true rfl⟩ 1 9 rfl rfl (rfl) hl.1 rfl (Nat.le_of_ble_eq_true rfl) dX6_coatLine_21 (fun u H locs hw hP hD hS => ?_)
    obtain ⟨hG2, hw⟩ := hw
    obtain ⟨v3, f4⟩ := u
    obtain ⟨kV_v3, kF_f4, hIv3, hk0_v3, hk1_v3, hk7_v3, hk8_v3, hk9_v3, hk10_v3, hk31_v3, hk32_v3⟩ := hw
    have hM_v3 : KV [2, 3, 4, 5, 7, 8, 10] v3 v := KV.tr kV_v3 hM_v rfl
    have hA_f4 : KF [2, 8] f4 f := KF.tr kF_f4 hA_f rfl
    have hP : va_P (dC, dI) vwCl (XW cy x0 x v3 f4) H := hP
    have hD : va_D A (XW cy x0 x v3 f4) := hD
    have hq10_v3 : v3 10 = (v 10) := hk10_v3
    refine lv_aload_n hx hb dX6_coatLine_24 rfl (lv_at hl 0 rfl) ?_
    refine lv_aload_n hx hb dX6_coatLine_25 rfl (lv_at hl 0 rfl) ?_
    refine va_get (D := (dC, dI)) (ci := 6) (v := .ref (x 12)) (C := RX6) (T := TX6) (N := 7) hx hb hts inB_6 hown hE.1 hP 3 rfl rfl 3 (Nat.le_of_ble_eq_true rfl) (hts _ k_269) (fun _ h9 => h9) rfl dX6_coatLine_26 ?_
    refine lv_aload_n hx hb dX6_coatLine_29 rfl (lv_at hl 0 rfl) ?_
    refine va_get (D := (dC, dI)) (ci := 6) (v := .ref (x 3)) (C := RX6) (T := TX6) (N := 7) hx hb hts inB_6 hown hE.1 hP 3 rfl rfl 1 (Nat.le_of_ble_eq_true rfl) (hts _ k_266) (fun _ h9 => h9) rfl dX6_coatLine_30 ?_
    refine va_getN (D := (dC, dI)) (ci := 7) (v := .int (v3 10)) (C := RX7) (T := TX7) (N := 10) hx hb hts inB_7 hown hE.1 hP 4 rfl rfl 4 (Nat.le_of_ble_eq_true rfl) (va_Nw.use rfl (hE.2 _ k_224)) (fun _ h9 => h9) rfl dX6_coatLine_33 ?_
    refine tI (y := (v 10)) hq10_v3 ?_
    refine csVi (n := 2) (rest := []) hx hb hml hown hts hE hP hD hS hA hF hT (sX_X6_name_2 NF l dC dI cy x0 x (v 10) v3 f4 hIv3 ) k_700 k_702 k_8 k_103 k_703 hd_yX6_name ⟨Nat.le_of_ble_eq_true rfl, Nat.le_of_ble_eq_true rfl⟩ 3 6 rfl rfl (rfl) hl.1 rfl (Nat.le_of_ble_eq_true rfl) dX6_coatLine_36 (fun r5 u H locs hw hP hD hS => ?_)
    obtain ⟨hG6, hw⟩ := hw
    obtain ⟨v7, f8⟩ := u
    obtain ⟨kV_v7, kF_f8, hIv7, hk0_v7, hk1_v7, hk9_v7, hk10_v7, hk31_v7, hk32_v7, hw⟩ := hw
    have hM_v7 : KV [2, 3, 4, 5, 7, 8, 10] v7 v := KV.tr kV_v7 hM_v3 rfl
    have hA_f8 : KF [2, 8] f8 f := KF.tr kF_f8 hA_f4 rfl
    have hP : va_P (dC, dI) vwCl (XW cy x0 x v7 f8) H := hP
    have hD : va_D A (XW cy x0 x v7 f8) := hD
    rcases hw with ⟨g9⟩ | ⟨g9⟩
    · skip
      subst g9
      refine lv_if_ne (tgt := 44) hx hb dX6_coatLine_39 rfl (fun _ => ?_) (fun c0 => absurd c0 (by decide))
      refine lv_aload_n hx hb dX6_coatLine_44 rfl (lv_at hl 0 rfl) ?_
      refine lv_bipush (v := 109) hx hb dX6_coatLine_45 rfl ?_
      refine lv_bipush (v := 99) hx hb dX6_coatLine_47 rfl ?_
      refine csVi (n := 2) (rest := []) hx hb hml hown hts hE hP hD hS hA hF hT (sX_X6_labelled_1 NF l dC dI cy x0 x 109 99 v7 f8 hIv7 ) k_708 k_710 k_9 k_103 k_711 hd_yX6_labelled ⟨Nat.le_of_ble_eq_true rfl, Nat.le_of_ble_eq_true rfl⟩ 3 6 rfl rfl (rfl) hl.1 rfl (Nat.le_of_ble_eq_true rfl) dX6_coatLine_49 (fun r10 u H locs hw hP hD hS => ?_)
      obtain ⟨hG11, hw⟩ := hw
      obtain ⟨v12, f13⟩ := u
      obtain ⟨kV_v12, kF_f13, hIv12, hk0_v12, hk1_v12, hk9_v12, hk10_v12, hk31_v12, hk32_v12⟩ := hw
      have hM_v12 : KV [2, 3, 4, 5, 7, 8, 10] v12 v := KV.tr kV_v12 hM_v7 rfl
      have hA_f13 : KF [2, 8] f13 f := KF.tr kF_f13 hA_f8 rfl
      have hP : va_P (dC, dI) vwCl (XW cy x0 x v12 f13) H := hP
      have hD : va_D A (XW cy x0 x v12 f13) := hD
      refine lv_istore_n (lv' := [(1, .int r10), (0, .ref (x 2))]) hx hb dX6_coatLine_52 rfl hl (Nat.le_of_ble_eq_true rfl) rfl (fun ls hl => ?_)
      refine lv_iload_n hx hb dX6_coatLine_53 rfl (lv_at hl 0 rfl) ?_
      refine lv_if_ge (tgt := 61) hx hb dX6_coatLine_54 rfl (fun c14 => ?_) (fun c14 => ?_)
      · skip
        refine lv_aload_n hx hb dX6_coatLine_61 rfl (lv_at hl 1 rfl) ?_
        refine lv_bipush (v := 110) hx hb dX6_coatLine_62 rfl ?_
        refine lv_bipush (v := 99) hx hb dX6_coatLine_64 rfl ?_
        refine csVi (n := 2) (rest := []) hx hb hml hown hts hE hP hD hS hA hF hT (sX_X6_labelled_1 NF l dC dI cy x0 x 110 99 v12 f13 hIv12 ) k_708 k_710 k_9 k_103 k_711 hd_yX6_labelled ⟨Nat.le_of_ble_eq_true rfl, Nat.le_of_ble_eq_true rfl⟩ 3 6 rfl rfl (rfl) hl.1 rfl (Nat.le_of_ble_eq_true rfl) dX6_coatLine_66 (fun r15 u H locs hw hP hD hS => ?_)
        obtain ⟨hG16, hw⟩ := hw
        obtain ⟨v17, f18⟩ := u
        obtain ⟨kV_v17, kF_f18, hIv17, hk0_v17, hk1_v17, hk9_v17, hk10_v17, hk31_v17, hk32_v17⟩ := hw
        have hM_v17 : KV [2, 3, 4, 5, 7, 8, 10] v17 v := KV.tr kV_v17 hM_v12 rfl
        have hA_f18 : KF [2, 8] f18 f := KF.tr kF_f18 hA_f13 rfl
        have hP : va_P (dC, dI) vwCl (XW cy x0 x v17 f18) H := hP
        have hD : va_D A (XW cy x0 x v17 f18) := hD
        refine lv_istore_n (lv' := [(2, .int r15), (1, .int r10), (0, .ref (x 2))]) hx hb dX6_coatLine_69 rfl hl (Nat.le_of_ble_eq_true rfl) rfl (fun ls hl => ?_)
        refine lv_iload_n hx hb dX6_coatLine_70 rfl (lv_at hl 0 rfl) ?_
        refine lv_if_ge (tgt := 78) hx hb dX6_coatLine_71 rfl (fun c19 => ?_) (fun c19 => ?_)
        · skip
          refine lv_aload_n hx hb dX6_coatLine_78 rfl (lv_at hl 2 rfl) ?_
          refine va_get (D := (dC, dI)) (ci := 6) (v := .ref (x 0)) (C := RX6) (T := TX6) (N := 7) hx hb hts inB_6 hown hE.1 hP 3 rfl rfl 0 (Nat.le_of_ble_eq_true rfl) (hts _ k_265) (fun _ h9 => h9) rfl dX6_coatLine_79 ?_
          refine va_getN (D := (dC, dI)) (ci := 9) (v := .int (v17 2)) (C := RX9) (T := TX9) (N := 6) hx hb hts inB_9 hown hE.1 hP 1 rfl rfl 2 (Nat.le_of_ble_eq_true rfl) (va_Nw.use rfl (hE.2 _ k_139)) (fun _ h9 => h9) rfl dX6_coatLine_82 ?_
          refine lv_bipush (v := 112) hx hb dX6_coatLine_85 rfl ?_
          refine lv_icmp_ne (tgt := 101) hx hb dX6_coatLine_87 rfl (fun c20 => ?_) (fun c20 => ?_)
          · skip
            refine lv_iconst (v := 0) hx hb dX6_coatLine_101 rfl ?_
            refine lv_istore_n (lv' := [(3, .int 0), (2, .int r15), (1, .int r10), (0, .ref (x 2))]) hx hb dX6_coatLine_102 rfl hl (Nat.le_of_ble_eq_true rfl) rfl (fun ls hl => ?_)
            refine lv_iload_n hx hb dX6_coatLine_103 rfl (lv_at hl 0 rfl) ?_
            refine lv_if_ge (tgt := 111) hx hb dX6_coatLine_104 rfl (fun _ => ?_) (fun c0 => absurd (by decide) c0)
            refine lv_aload_n hx hb dX6_coatLine_111 rfl (lv_at hl 3 rfl) ?_
            refine va_get (D := (dC, dI)) (ci := 6) (v := .ref (x 0)) (C := RX6) (T := TX6) (N := 7) hx hb hts inB_6 hown hE.1 hP 3 rfl rfl 0 (Nat.le_of_ble_eq_true rfl) (hts _ k_265) (fun _ h9 => h9) rfl dX6_coatLine_112 ?_
            refine va_getN (D := (dC, dI)) (ci := 9) (v := .int (v17 2)) (C := RX9) (T := TX9) (N := 6) hx hb hts inB_9 hown hE.1 hP 1 rfl rfl 2 (Nat.le_of_ble_eq_true rfl) (va_Nw.use rfl (hE.2 _ k_139)) (fun _ h9 => h9) rfl dX6_coatLine_115 ?_
            refine lv_bipush (v := 120) hx hb dX6_coatLine_118 rfl ?_
            refine lv_icmp_ne (tgt := 134) hx hb dX6_coatLine_120 rfl (fun c21 => ?_) (fun c21 => ?_)
            · skip
              refine lv_iconst (v := 0) hx hb dX6_coatLine_134 rfl ?_
              refine lv_istore (lv' := [(4, .int 0), (3, .int 0), (2, .int r15), (1, .int r10), (0, .ref (x 2))]) hx hb dX6_coatLine_135 hl (Nat.le_of_ble_eq_true rfl) rfl (fun ls hl => ?_)
              refine lv_iload hx hb dX6_coatLine_137 (lv_at hl 0 rfl) ?_
              refine lv_if_ge (tgt := 144) hx hb dX6_coatLine_139 rfl (fun _ => ?_) (fun c0 => absurd (by decide) c0)
              refine lv_aload_n hx hb dX6_coatLine_144 rfl (lv_at hl 4 rfl) ?_
              refine va_get (D := (dC, dI)) (ci := 6) (v := .ref (x 3)) (C := RX6) (T := TX6) (N := 7) hx hb hts inB_6 hown hE.1 hP 3 rfl rfl 1 (Nat.le_of_ble_eq_true rfl) (hts _ k_266) (fun _ h9 => h9) rfl dX6_coatLine_145 ?_
              refine lv_iload_n hx hb dX6_coatLine_148 rfl (lv_at hl 3 rfl) ?_
              refine lv_iload_n hx hb dX6_coatLine_149 rfl (lv_at hl 2 rfl) ?_
              refine lv_iload_n hx hb dX6_coatLine_150 rfl (lv_at hl 1 rfl) ?_
              refine lv_iload hx hb dX6_coatLine_151 (lv_at hl 0 rfl) ?_
              refine cbVv (n := 4) (rest := []) hx hb hml hown hts hE hP hD hS hA (sX_X7_addCoat_1 NF l dC dI cy x0 x r10 r15 0 0 v17 f18 hIv17 ) k_732 k_733 k_734 k_104 k_735 hd_yX7_addCoat ⟨Nat.le_of_ble_eq_true rfl, Nat.le_of_ble_eq_true rfl⟩ 4 7 rfl rfl (rfl) hl.1 rfl (Nat.le_of_ble_eq_true rfl) dX6_coatLine_153 (fun u H locs hw hP hD hS => ?_)
              obtain ⟨hG22, hw⟩ := hw
              obtain ⟨v23, f24⟩ := u
              obtain ⟨kV_v23, kF_f24, hIv23, hk0_v23, hk1_v23, hk7_v23, hk8_v23, hk9_v23, hk31_v23⟩ := hw
              have hM_v23 : KV [2, 3, 4, 5, 7, 8, 10] v23 v := KV.tr kV_v23 hM_v17 rfl
              have hA_f24 : KF [2, 8] f24 f := KF.tr kF_f24 hA_f18 rfl
              have hP : va_P (dC, dI) vwCl (XW cy x0 x v23 f24) H := hP
              have hD : va_D A (XW cy x0 x v23 f24) := hD
              refine lv_iconst (v := 1) hx hb dX6_coatLine_156 rfl ?_
              exact ret 1 (v23, f24) _ _ _ _ _ _ rfl ⟨(gsX_X6_coatLine_1_q0 c1 hG2 hG6 hG11 c14 hG16 c19 c20 c21 hG22), hM_v23, hA_f24, hIv23, (hk0_v23.trans (hk0_v17.trans (hk0_v12.trans (hk0_v7.trans hk0_v3)))), (hk1_v23.trans (hk1_v17.trans (hk1_v12.trans (hk1_v7.trans hk1_v3)))), (hk9_v23.trans (hk9_v17.trans (hk9_v12.trans (hk9_v7.trans hk9_v3)))), (hk31_v23.trans (hk31_v17.trans (hk31_v12.trans (hk31_v7.trans hk31_v3)))), (Or.inl rfl)⟩ hP hD hS dX6_coatLine_157 (Nat.le_refl _) (Nat.le_refl _)
            · skip
              refine lv_aload_n hx hb dX6_coatLine_123 rfl (lv_at hl 3 rfl) ?_
              refine lv_bipush (v := 120) hx hb dX6_coatLine_124 rfl ?_
              refine lv_bipush (v := 99) hx hb dX6_coatLine_126 rfl ?_
              refine csVi (n := 2) (rest := []) hx hb hml hown hts hE hP hD hS hA hF hT (sX_X6_labelled_1 NF l dC dI cy x0 x 120 99 v17 f18 hIv17 ) k_708 k_710 k_9 k_103 k_711 hd_yX6_labelled ⟨Nat.le_of_ble_eq_true rfl, Nat.le_of_ble_eq_true rfl⟩ 3 6 rfl rfl (rfl) hl.1 rfl (Nat.le_of_ble_eq_true rfl) dX6_coatLine_128 (fun r25 u H locs hw hP hD hS => ?_)
              obtain ⟨hG26, hw⟩ := hw
              obtain ⟨v27, f28⟩ := u
              obtain ⟨kV_v27, kF_f28, hIv27, hk0_v27, hk1_v27, hk9_v27, hk10_v27, hk31_v27, hk32_v27⟩ := hw
              have hM_v27 : KV [2, 3, 4, 5, 7, 8, 10] v27 v := KV.tr kV_v27 hM_v17 rfl
              have hA_f28 : KF [2, 8] f28 f := KF.tr kF_f28 hA_f18 rfl
              have hP : va_P (dC, dI) vwCl (XW cy x0 x v27 f28) H := hP
              have hD : va_D A (XW cy x0 x v27 f28) := hD
              refine lv_goto (tgt := 135) hx hb dX6_coatLine_131 rfl ?_
              refine lv_istore (lv' := [(4, .int r25), (3, .int 0), (2, .int r15), (1, .int r10), (0, .ref (x 2))]) hx hb dX6_coatLine_135 hl (Nat.le_of_ble_eq_true rfl) rfl (fun ls hl => ?_)
              refine lv_iload hx hb dX6_coatLine_137 (lv_at hl 0 rfl) ?_
              refine lv_if_ge (tgt := 144) hx hb dX6_coatLine_139 rfl (fun c29 => ?_) (fun c29 => ?_)
              · skip
                refine lv_aload_n hx hb dX6_coatLine_144 rfl (lv_at hl 4 rfl) ?_
                refine va_get (D := (dC, dI)) (ci := 6) (v := .ref (x 3)) (C := RX6) (T := TX6) (N := 7) hx hb hts inB_6 hown hE.1 hP 3 rfl rfl 1 (Nat.le_of_ble_eq_true rfl) (hts _ k_266) (fun _ h9 => h9) rfl dX6_coatLine_145 ?_
                refine lv_iload_n hx hb dX6_coatLine_148 rfl (lv_at hl 3 rfl) ?_
                refine lv_iload_n hx hb dX6_coatLine_149 rfl (lv_at hl 2 rfl) ?_
                refine lv_iload_n hx hb dX6_coatLine_150 rfl (lv_at hl 1 rfl) ?_
                refine lv_iload hx hb dX6_coatLine_151 (lv_at hl 0 rfl) ?_
                refine cbVv (n := 4) (rest := []) hx hb hml hown hts hE hP hD hS hA (sX_X7_addCoat_1 NF l dC dI cy x0 x r10 r15 0 r25 v27 f28 hIv27 ) k_732 k_733 k_734 k_104 k_735 hd_yX7_addCoat ⟨Nat.le_of_ble_eq_true rfl, Nat.le_of_ble_eq_true rfl⟩ 4 7 rfl rfl (rfl) hl.1 rfl (Nat.le_of_ble_eq_true rfl) dX6_coatLine_153 (fun u H locs hw hP hD hS => ?_)
                obtain ⟨hG30, hw⟩ := hw
                obtain ⟨v31, f32⟩ := u
                obtain ⟨kV_v31, kF_f32, hIv31, hk0_v31, hk1_v31, hk7_v31, hk8_v31, hk9_v31, hk31_v31⟩ := hw
                have hM_v31 : KV [2, 3, 4, 5, 7, 8, 10] v31 v := KV.tr kV_v31 hM_v27 rfl
                have hA_f32 : KF [2, 8] f32 f := KF.tr kF_f32 hA_f28 rfl
                have hP : va_P (dC, dI) vwCl (XW cy x0 x v31 f32) H := hP
                have hD : va_D A (XW cy x0 x v31 f32) := hD
                refine lv_iconst (v := 1) hx hb dX6_coatLine_156 rfl ?_
                exact ret 1 (v31, f32) _ _ _ _ _ _ rfl ⟨(gsX_X6_coatLine_1_q1 c1 hG2 hG6 hG11 c14 hG16 c19 c20 c21 hG26 c29 hG30), hM_v31, hA_f32, hIv31, (hk0_v31.trans (hk0_v27.trans (hk0_v17.trans (hk0_v12.trans (hk0_v7.trans hk0_v3))))), (hk1_v31.trans (hk1_v27.trans (hk1_v17.trans (hk1_v12.trans (hk1_v7.trans hk1_v3))))), (hk9_v31.trans (hk9_v27.trans (hk9_v17.trans (hk9_v12.trans (hk9_v7.trans hk9_v3))))), (hk31_v31.trans (hk31_v27.trans (hk31_v17.trans (hk31_v12.trans (hk31_v7.trans hk31_v3))))), (Or.inl rfl)⟩ hP hD hS dX6_coatLine_157 (Nat.le_refl _) (Nat.le_refl _)
              · skip
                refine lv_iconst (v := 0) hx hb dX6_coatLine_142 rfl ?_
                exact ret 0 (v27, f28) _ _ _ _ _ _ rfl ⟨(gsX_X6_coatLine_1_q2 c1 hG2 hG6 hG11 c14 hG16 c19 c20 c21 hG26 c29), hM_v27, hA_f28, hIv27, (hk0_v27.trans (hk0_v17.trans (hk0_v12.trans (hk0_v7.trans hk0_v3)))), (hk1_v27.trans (hk1_v17.trans (hk1_v12.trans (hk1_v7.trans hk1_v3)))), (hk9_v27.trans (hk9_v17.trans (hk9_v12.trans (hk9_v7.trans hk9_v3)))), (hk31_v27.trans (hk31_v17.trans (hk31_v12.trans (hk31_v7.trans hk31_v3)))), (Or.inr rfl)⟩ hP hD hS dX6_coatLine_143 (Nat.le_refl _) (Nat.le_refl _)
          · skip
            refine lv_aload_n hx hb dX6_coatLine_90 rfl (lv_at hl 2 rfl) ?_
            refine lv_bipush (v := 112) hx hb dX6_coatLine_91 rfl ?_
            refine lv_bipush (v := 20) hx hb dX6_coatLine_93 rfl ?_
            refine csVi (n := 2) (rest := []) hx hb hml hown hts hE hP hD hS hA hF hT (sX_X6_labelled_1 NF l dC dI cy x0 x 112 20 v17 f18 hIv17 ) k_708 k_710 k_9 k_103 k_711 hd_yX6_labelled ⟨Nat.le_of_ble_eq_true rfl, Nat.le_of_ble_eq_true rfl⟩ 3 6 rfl rfl (rfl) hl.1 rfl (Nat.le_of_ble_eq_true rfl) dX6_coatLine_95 (fun r33 u H locs hw hP hD hS => ?_)
            obtain ⟨hG34, hw⟩ := hw
            obtain ⟨v35, f36⟩ := u
            obtain ⟨kV_v35, kF_f36, hIv35, hk0_v35, hk1_v35, hk9_v35, hk10_v35, hk31_v35, hk32_v35⟩ := hw
            have hM_v35 : KV [2, 3, 4, 5, 7, 8, 10] v35 v := KV.tr kV_v35 hM_v17 rfl
            have hA_f36 : KF [2, 8] f36 f := KF.tr kF_f36 hA_f18 rfl
            have hP : va_P (dC, dI) vwCl (XW cy x0 x v35 f36) H := hP
            have hD : va_D A (XW cy x0 x v35 f36) := hD
            refine lv_goto (tgt := 102) hx hb dX6_coatLine_98 rfl ?_
            refine lv_istore_n (lv' := [(3, .int r33), (2, .int r15), (1, .int r10), (0, .ref (x 2))]) hx hb dX6_coatLine_102 rfl hl (Nat.le_of_ble_eq_true rfl) rfl (fun ls hl => ?_)
            refine lv_iload_n hx hb dX6_coatLine_103 rfl (lv_at hl 0 rfl) ?_
            refine lv_if_ge (tgt := 111) hx hb dX6_coatLine_104 rfl (fun c37 => ?_) (fun c37 => ?_)
            · skip
              refine lv_aload_n hx hb dX6_coatLine_111 rfl (lv_at hl 3 rfl) ?_
              refine va_get (D := (dC, dI)) (ci := 6) (v := .ref (x 0)) (C := RX6) (T := TX6) (N := 7) hx hb hts inB_6 hown hE.1 hP 3 rfl rfl 0 (Nat.le_of_ble_eq_true rfl) (hts _ k_265) (fun _ h9 => h9) rfl dX6_coatLine_112 ?_
              refine va_getN (D := (dC, dI)) (ci := 9) (v := .int (v35 2)) (C := RX9) (T := TX9) (N := 6) hx hb hts inB_9 hown hE.1 hP 1 rfl rfl 2 (Nat.le_of_ble_eq_true rfl) (va_Nw.use rfl (hE.2 _ k_139)) (fun _ h9 => h9) rfl dX6_coatLine_115 ?_
              refine lv_bipush (v := 120) hx hb dX6_coatLine_118 rfl ?_
              refine lv_icmp_ne (tgt := 134) hx hb dX6_coatLine_120 rfl (fun c38 => ?_) (fun c38 => ?_)
              · skip
                refine lv_iconst (v := 0) hx hb dX6_coatLine_134 rfl ?_
                refine lv_istore (lv' := [(4, .int 0), (3, .int r33), (2, .int r15), (1, .int r10), (0, .ref (x 2))]) hx hb dX6_coatLine_135 hl (Nat.le_of_ble_eq_true rfl) rfl (fun ls hl => ?_)
                refine lv_iload hx hb dX6_coatLine_137 (lv_at hl 0 rfl) ?_
                refine lv_if_ge (tgt := 144) hx hb dX6_coatLine_139 rfl (fun _ => ?_) (fun c0 => absurd (by decide) c0)
                refine lv_aload_n hx hb dX6_coatLine_144 rfl (lv_at hl 4 rfl) ?_
                refine va_get (D := (dC, dI)) (ci := 6) (v := .ref (x 3)) (C := RX6) (T := TX6) (N := 7) hx hb hts inB_6 hown hE.1 hP 3 rfl rfl 1 (Nat.le_of_ble_eq_true rfl) (hts _ k_266) (fun _ h9 => h9) rfl dX6_coatLine_145 ?_
                refine lv_iload_n hx hb dX6_coatLine_148 rfl (lv_at hl 3 rfl) ?_
                refine lv_iload_n hx hb dX6_coatLine_149 rfl (lv_at hl 2 rfl) ?_
                refine lv_iload_n hx hb dX6_coatLine_150 rfl (lv_at hl 1 rfl) ?_
                refine lv_iload hx hb dX6_coatLine_151 (lv_at hl 0 rfl) ?_
                refine cbVv (n := 4) (rest := []) hx hb hml hown hts hE hP hD hS hA (sX_X7_addCoat_1 NF l dC dI cy x0 x r10 r15 r33 0 v35 f36 hIv35 ) k_732 k_733 k_734 k_104 k_735 hd_yX7_addCoat ⟨Nat.le_of_ble_eq_true rfl, Nat.le_of_ble_eq_true rfl⟩ 4 7 rfl rfl (rfl) hl.1 rfl (Nat.le_of_ble_eq_true rfl) dX6_coatLine_153 (fun u H locs hw hP hD hS => ?_)
                obtain ⟨hG39, hw⟩ := hw
                obtain ⟨v40, f41⟩ := u
                obtain ⟨kV_v40, kF_f41, hIv40, hk0_v40, hk1_v40, hk7_v40, hk8_v40, hk9_v40, hk31_v40⟩ := hw
                have hM_v40 : KV [2, 3, 4, 5, 7, 8, 10] v40 v := KV.tr kV_v40 hM_v35 rfl
                have hA_f41 : KF [2, 8] f41 f := KF.tr kF_f41 hA_f36 rfl
                have hP : va_P (dC, dI) vwCl (XW cy x0 x v40 f41) H := hP
                have hD : va_D A (XW cy x0 x v40 f41) := hD
                refine lv_iconst (v := 1) hx hb dX6_coatLine_156 rfl ?_
                exact ret 1 (v40, f41) _ _ _ _ _ _ rfl ⟨(gsX_X6_coatLine_1_q3 c1 hG2 hG6 hG11 c14 hG16 c19 c20 hG34 c37 c38 hG39), hM_v40, hA_f41, hIv40, (hk0_v40.trans (hk0_v35.trans (hk0_v17.trans (hk0_v12.trans (hk0_v7.trans hk0_v3))))), (hk1_v40.trans (hk1_v35.trans (hk1_v17.trans (hk1_v12.trans (hk1_v7.trans hk1_v3))))), (hk9_v40.trans (hk9_v35.trans (hk9_v17.trans (hk9_v12.trans (hk9_v7.trans hk9_v3))))), (hk31_v40.trans (hk31_v35.trans (hk31_v17.trans (hk31_v12.trans (hk31_v7.trans hk31_v3))))), (Or.inl rfl)⟩ hP hD hS dX6_coatLine_157 (Nat.le_refl _) (Nat.le_refl _)
              · skip
                refine lv_aload_n hx hb dX6_coatLine_123 rfl (lv_at hl 3 rfl) ?_
                refine lv_bipush (v := 120) hx hb dX6_coatLine_124 rfl ?_
                refine lv_bipush (v := 99) hx hb dX6_coatLine_126 rfl ?_
                refine csVi (n := 2) (rest := []) hx hb hml hown hts hE hP hD hS hA hF hT (sX_X6_labelled_1 NF l dC dI cy x0 x 120 99 v35 f36 hIv35 ) k_708 k_710 k_9 k_103 k_711 hd_yX6_labelled ⟨Nat.le_of_ble_eq_true rfl, Nat.le_of_ble_eq_true rfl⟩ 3 6 rfl rfl (rfl) hl.1 rfl (Nat.le_of_ble_eq_true rfl) dX6_coatLine_128 (fun r42 u H locs hw hP hD hS => ?_)
                obtain ⟨hG43, hw⟩ := hw
                obtain ⟨v44, f45⟩ := u
                obtain ⟨kV_v44, kF_f45, hIv44, hk0_v44, hk1_v44, hk9_v44, hk10_v44, hk31_v44, hk32_v44⟩ := hw
                have hM_v44 : KV [2, 3, 4, 5, 7, 8, 10] v44 v := KV.tr kV_v44 hM_v35 rfl
                have hA_f45 : KF [2, 8] f45 f := KF.tr kF_f45 hA_f36 rfl
                have hP : va_P (dC, dI) vwCl (XW cy x0 x v44 f45) H := hP
                have hD : va_D A (XW cy x0 x v44 f45) := hD
                refine lv_goto (tgt := 135) hx hb dX6_coatLine_131 rfl ?_
                refine lv_istore (lv' := [(4, .int r42), (3, .int r33), (2, .int r15), (1, .int r10), (0, .ref (x 2))]) hx hb dX6_coatLine_135 hl (Nat.le_of_ble_eq_true rfl) rfl (fun ls hl => ?_)
                refine lv_iload hx hb dX6_coatLine_137 (lv_at hl 0 rfl) ?_
                refine lv_if_ge (tgt := 144) hx hb dX6_coatLine_139 rfl (fun c46 => ?_) (fun c46 => ?_)
                · skip
                  refine lv_aload_n hx hb dX6_coatLine_144 rfl (lv_at hl 4 rfl) ?_
                  refine va_get (D := (dC, dI)) (ci := 6) (v := .ref (x 3)) (C := RX6) (T := TX6) (N := 7) hx hb hts inB_6 hown hE.1 hP 3 rfl rfl 1 (Nat.le_of_ble_eq_true rfl) (hts _ k_266) (fun _ h9 => h9) rfl dX6_coatLine_145 ?_
                  refine lv_iload_n hx hb dX6_coatLine_148 rfl (lv_at hl 3 rfl) ?_
                  refine lv_iload_n hx hb dX6_coatLine_149 rfl (lv_at hl 2 rfl) ?_
                  refine lv_iload_n hx hb dX6_coatLine_150 rfl (lv_at hl 1 rfl) ?_
                  refine lv_iload hx hb dX6_coatLine_151 (lv_at hl 0 rfl) ?_
                  refine cbVv (n := 4) (rest := []) hx hb hml hown hts hE hP hD hS hA (sX_X7_addCoat_1 NF l dC dI cy x0 x r10 r15 r33 r42 v44 f45 hIv44 ) k_732 k_733 k_734 k_104 k_735 hd_yX7_addCoat ⟨Nat.le_of_ble_eq_true rfl, Nat.le_of_ble_eq_true rfl⟩ 4 7 rfl rfl (rfl) hl.1 rfl (Nat.le_of_ble_eq_true rfl) dX6_coatLine_153 (fun u H locs hw hP hD hS => ?_)
                  obtain ⟨hG47, hw⟩ := hw
                  obtain ⟨v48, f49⟩ := u
                  obtain ⟨kV_v48, kF_f49, hIv48, hk0_v48, hk1_v48, hk7_v48, hk8_v48, hk9_v48, hk31_v48⟩ := hw
                  have hM_v48 : KV [2, 3, 4, 5, 7, 8, 10] v48 v := KV.tr kV_v48 hM_v44 rfl
                  have hA_f49 : KF [2, 8] f49 f := KF.tr kF_f49 hA_f45 rfl
                  have hP : va_P (dC, dI) vwCl (XW cy x0 x v48 f49) H := hP
                  have hD : va_D A (XW cy x0 x v48 f49) := hD
                  refine lv_iconst (v := 1) hx hb dX6_coatLine_156 rfl ?_
                  exact ret 1 (v48, f49) _ _ _ _ _ _ rfl ⟨(gsX_X6_coatLine_1_q4 c1 hG2 hG6 hG11 c14 hG16 c19 c20 hG34 c37 c38 hG43 c46 hG47), hM_v48, hA_f49, hIv48, (hk0_v48.trans (hk0_v44.trans (hk0_v35.trans (hk0_v17.trans (hk0_v12.trans (hk0_v7.trans hk0_v3)))))), (hk1_v48.trans (hk1_v44.trans (hk1_v35.trans (hk1_v17.trans (hk1_v12.trans (hk1_v7.trans hk1_v3)))))), (hk9_v48.trans (hk9_v44.trans (hk9_v35.trans (hk9_v17.trans (hk9_v12.trans (hk9_v7.trans hk9_v3)))))), (hk31_v48.trans (hk31_v44.trans (hk31_v35.trans (hk31_v17.trans (hk31_v12.trans (hk31_v7.trans hk31_v3)))))), (Or.inl rfl)⟩ hP hD hS dX6_coatLine_157 (Nat.le_refl _) (Nat.le_refl _)
                · skip
                  refine lv_iconst (v := 0) hx hb dX6_coatLine_142 rfl ?_
                  exact ret 0 (v44, f45) _ _ _ _ _ _ rfl ⟨(gsX_X6_coatLine_1_q5 c1 hG2 hG6 hG11 c14 hG16 c19 c20 hG34 c37 c38 hG43 c46), hM_v44, hA_f45, hIv44, (hk0_v44.trans (hk0_v35.trans (hk0_v17.trans (hk0_v12.trans (hk0_v7.trans hk0_v3))))), (hk1_v44.trans (hk1_v35.trans (hk1_v17.trans (hk1_v12.trans (hk1_v7.trans hk1_v3))))), (hk9_v44.trans (hk9_v35.trans (hk9_v17.trans (hk9_v12.trans (hk9_v7.trans hk9_v3))))), (hk31_v44.trans (hk31_v35.trans (hk31_v17.trans (hk31_v12.trans (hk31_v7.trans hk31_v3))))), (Or.inr rfl)⟩ hP hD hS dX6_coatLine_143 (Nat.le_refl _) (Nat.le_refl _)
            · skip
              refine lv_iconst (v := (-1)) hx hb dX6_coatLine_107 rfl ?_
              refine lv_goto (tgt := 135) hx hb dX6_coatLine_108 rfl ?_
              refine lv_istore (lv' := [(4, .int (-1)), (3, .int r33), (2, .int r15), (1, .int r10), (0, .ref (x 2))]) hx hb dX6_coatLine_135 hl (Nat.le_of_ble_eq_true rfl) rfl (fun ls hl => ?_)
              refine lv_iload hx hb dX6_coatLine_137 (lv_at hl 0 rfl) ?_
              refine lv_if_ge (tgt := 144) hx hb dX6_coatLine_139 rfl (fun c0 => absurd c0 (by decide)) (fun _ => ?_)
              refine lv_iconst (v := 0) hx hb dX6_coatLine_142 rfl ?_
              exact ret 0 (v35, f36) _ _ _ _ _ _ rfl ⟨(gsX_X6_coatLine_1_q6 c1 hG2 hG6 hG11 c14 hG16 c19 c20 hG34 c37), hM_v35, hA_f36, hIv35, (hk0_v35.trans (hk0_v17.trans (hk0_v12.trans (hk0_v7.trans hk0_v3)))), (hk1_v35.trans (hk1_v17.trans (hk1_v12.trans (hk1_v7.trans hk1_v3)))), (hk9_v35.trans (hk9_v17.trans (hk9_v12.trans (hk9_v7.trans hk9_v3)))), (hk31_v35.trans (hk31_v17.trans (hk31_v12.trans (hk31_v7.trans hk31_v3)))), (Or.inr rfl)⟩ hP hD hS dX6_coatLine_143 (Nat.le_refl _) (Nat.le_refl _)
        · skip
          refine lv_iconst (v := (-1)) hx hb dX6_coatLine_74 rfl ?_
          refine lv_goto (tgt := 102) hx hb dX6_coatLine_75 rfl ?_
          refine lv_istore_n (lv' := [(3, .int (-1)), (2, .int r15), (1, .int r10), (0, .ref (x 2))]) hx hb dX6_coatLine_102 rfl hl (Nat.le_of_ble_eq_true rfl) rfl (fun ls hl => ?_)
          refine lv_iload_n hx hb dX6_coatLine_103 rfl (lv_at hl 0 rfl) ?_
          refine lv_if_ge (tgt := 111) hx hb dX6_coatLine_104 rfl (fun c0 => absurd c0 (by decide)) (fun _ => ?_)
          refine lv_iconst (v := (-1)) hx hb dX6_coatLine_107 rfl ?_
          refine lv_goto (tgt := 135) hx hb dX6_coatLine_108 rfl ?_
          refine lv_istore (lv' := [(4, .int (-1)), (3, .int (-1)), (2, .int r15), (1, .int r10), (0, .ref (x 2))]) hx hb dX6_coatLine_135 hl (Nat.le_of_ble_eq_true rfl) rfl (fun ls hl => ?_)
          refine lv_iload hx hb dX6_coatLine_137 (lv_at hl 0 rfl) ?_
          refine lv_if_ge (tgt := 144) hx hb dX6_coatLine_139 rfl (fun c0 => absurd c0 (by decide)) (fun _ => ?_)
          refine lv_iconst (v := 0) hx hb dX6_coatLine_142 rfl ?_
          exact ret 0 (v17, f18) _ _ _ _ _ _ rfl ⟨(gsX_X6_coatLine_1_q7 c1 hG2 hG6 hG11 c14 hG16 c19), hM_v17, hA_f18, hIv17, (hk0_v17.trans (hk0_v12.trans (hk0_v7.trans hk0_v3))), (hk1_v17.trans (hk1_v12.trans (hk1_v7.trans hk1_v3))), (hk9_v17.trans (hk9_v12.trans (hk9_v7.trans hk9_v3))), (hk31_v17.trans (hk31_v12.trans (hk31_v7.trans hk31_v3))), (Or.inr rfl)⟩ hP hD hS dX6_coatLine_143 (Nat.le_refl _) (Nat.le_refl _)
      · skip
        refine lv_iconst (v := (-1)) hx hb dX6_coatLine_57 rfl ?_
        refine lv_goto (tgt := 69) hx hb dX6_coatLine_58 rfl ?_
        refine lv_istore_n (lv' := [(2, .int (-1)), (1, .int r10), (0, .ref (x 2))]) hx hb dX6_coatLine_69 rfl hl (Nat.le_of_ble_eq_true rfl) rfl (fun ls hl => ?_)
        refine lv_iload_n hx hb dX6_coatLine_70 rfl (lv_at hl 0 rfl) ?_
        refine lv_if_ge (tgt := 78) hx hb dX6_coatLine_71 rfl (fun c0 => absurd c0 (by decide)) (fun _ => ?_)
        refine lv_iconst (v := (-1)) hx hb dX6_coatLine_74 rfl ?_
        refine lv_goto (tgt := 102) hx hb dX6_coatLine_75 rfl ?_
        refine lv_istore_n (lv' := [(3, .int (-1)), (2, .int (-1)), (1, .int r10), (0, .ref (x 2))]) hx hb dX6_coatLine_102 rfl hl (Nat.le_of_ble_eq_true rfl) rfl (fun ls hl => ?_)
        refine lv_iload_n hx hb dX6_coatLine_103 rfl (lv_at hl 0 rfl) ?_
        refine lv_if_ge (tgt := 111) hx hb dX6_coatLine_104 rfl (fun c0 => absurd c0 (by decide)) (fun _ => ?_)
        refine lv_iconst (v := (-1)) hx hb dX6_coatLine_107 rfl ?_
        refine lv_goto (tgt := 135) hx hb dX6_coatLine_108 rfl ?_
        refine lv_istore (lv' := [(4, .int (-1)), (3, .int (-1)), (2, .int (-1)), (1, .int r10), (0, .ref (x 2))]) hx hb dX6_coatLine_135 hl (Nat.le_of_ble_eq_true rfl) rfl (fun ls hl => ?_)
        refine lv_iload hx hb dX6_coatLine_137 (lv_at hl 0 rfl) ?_
        refine lv_if_ge (tgt := 144) hx hb dX6_coatLine_139 rfl (fun c0 => absurd c0 (by decide)) (fun _ => ?_)
        refine lv_iconst (v := 0) hx hb dX6_coatLine_142 rfl ?_
        exact ret 0 (v12, f13) _ _ _ _ _ _ rfl ⟨(gsX_X6_coatLine_1_q8 c1 hG2 hG6 hG11 c14), hM_v12, hA_f13, hIv12, (hk0_v12.trans (hk0_v7.trans hk0_v3)), (hk1_v12.trans (hk1_v7.trans hk1_v3)), (hk9_v12.trans (hk9_v7.trans hk9_v3)), (hk31_v12.trans (hk31_v7.trans hk31_v3)), (Or.inr rfl)⟩ hP hD hS dX6_coatLine_143 (Nat.le_refl _) (Nat.le_refl _)
    · skip
      subst g9
      refine lv_if_ne (tgt := 44) hx hb dX6_coatLine_39 rfl (fun c0 => absurd (by decide) c0) (fun _ => ?_)
      refine lv_iconst (v := 0) hx hb dX6_coatLine_42 rfl ?_
      exact ret 0 (v7, f8) _ _ _ _ _ _ rfl ⟨(gsX_X6_coatLine_1_q9 c1 hG2 hG6), hM_v7, hA_f8, hIv7, (hk0_v7.trans hk0_v3), (hk1_v7.trans hk1_v3), (hk9_v7.trans hk9_v3), (hk31_v7.trans hk31_v3), (Or.inr rfl)⟩ hP hD hS dX6_coatLine_43 (Nat.le_refl _) (Nat.le_refl _)
  · skip
    refine lv_aload_n hx hb dX6_coatLine_12 rfl (lv_at hl 0 rfl) ?_
    refine cbVi (n := 0) (rest := []) hx hb hml hown hts hE hP hD hS hA (sX_X6_refuse_1 NF l dC dI cy x0 x  v f hIv ) k_691 k_693 k_6 k_103 k_694 hd_yX6_refuse ⟨Nat.le_of_ble_eq_true rfl, Nat.le_of_ble_eq_true rfl⟩ 3 6 rfl rfl (rfl) hl.1 rfl (Nat.le_of_ble_eq_true rfl) dX6_coatLine_13 (fun r50 u H locs hw hP hD hS => ?_)
    obtain ⟨hG51, hw⟩ := hw
    obtain ⟨v52, f53⟩ := u
    obtain ⟨kV_v52, kF_f53, hIv52, hk0_v52, hk1_v52, hk9_v52, hk10_v52, hk31_v52, hk32_v52, hw⟩ := hw
    have hM_v52 : KV [2, 3, 4, 5, 7, 8, 10] v52 v := KV.tr kV_v52 hM_v rfl
    have hA_f53 : KF [2, 8] f53 f := KF.tr kF_f53 hA_f rfl
    have hP : va_P (dC, dI) vwCl (XW cy x0 x v52 f53) H := hP
    have hD : va_D A (XW cy x0 x v52 f53) := hD
    rcases hw with ⟨g54⟩ | ⟨g54⟩
    · skip
      subst g54
      exact ret 1 (v52, f53) _ _ _ _ _ _ rfl ⟨(gsX_X6_coatLine_1_q10 c1 hG51), hM_v52, hA_f53, hIv52, hk0_v52, hk1_v52, hk9_v52, hk31_v52, (Or.inl rfl)⟩ hP hD hS dX6_coatLine_16 (Nat.le_refl _) (Nat.le_refl _)
    · skip
      subst g54
      exact ret 0 (v52, f53) _ _ _ _ _ _ rfl ⟨(gsX_X6_coatLine_1_q11 c1 hG51), hM_v52, hA_f53, hIv52, hk0_v52, hk1_v52, hk9_v52, hk31_v52, (Or.inr rfl)⟩ hP hD hS dX6_coatLine_16 (Nat.le_refl _) (Nat.le_refl _)
set_option maxHeartbeats 4000000 in
set_option maxRecDepth 100000 in
theorem sX_X6_opened_1 (NF : Nat) (l : Launch) (dC : Nat → ClassId) (dI : Nat → Nat → Nat) (cy : Nat → ClassId) (x0 : Nat) (x : Nat → Nat) (p1 : Int32) (v : Nat → Int32) (f : Nat → Nat → Int32) (hIv : XI v)  : ctIS l (dC, dI) cy yX6_opened cX6_opened 3 .boolean 7 191 0 0 ((Nat → Int32) × (Nat → Nat → Int32)) [.ref (x 2), .int p1] (XW cy x0 x v f) (fun r u => gsX_X6_opened_1 NF p1 v f = (r, u) ∧ KV [2, 3, 4, 5, 6, 7, 8] u.1 v ∧ KF [] u.2 f ∧ XI u.1 ∧ u.1 0 = v 0 ∧ u.1 1 = v 1 ∧ u.1 9 = v 9 ∧ u.1 10 = v 10 ∧ u.1 31 = v 31 ∧ u.1 32 = v 32 ∧ ((r = 1) ∨ (r = 0))) (fun u => XW cy x0 x u.1 u.2) := by
  refine ctIS_of (by decide) (Nat.le_of_ble_eq_true rfl) (fun p e s m below meth c A ls Q hx hb hml hts hown hE hF hT hP hD hA hl ret => ?_)
  have hM_v : KV [2, 3, 4, 5, 6, 7, 8] v v := fun _ _ => rfl
  have hA_f : KF [] f f := fun _ _ => rfl
  have hown : s.vm.findClass RX6 = some m.cls := hown
  have hS : va_S A s.heap s.heap [] := va_S.rf
  have hl : lv_has ls 3 [(0, .ref (x 2)), (1, .int p1)] := hl
  refine lv_iconst (v := 1) hx hb dX6_opened_0 rfl ?_
  refine lv_iload_n hx hb dX6_opened_1 rfl (lv_at hl 1 rfl) ?_
  refine lv_bipush (v := 103) hx hb dX6_opened_2 rfl ?_
  refine lv_isub hx hb dX6_opened_4 ?_
  refine lv_topi (fun t1 et1 => ?_)
  refine lv_ishl hx hb dX6_opened_5 ?_
  refine lv_topi (fun t2 et2 => ?_)
  refine lv_istore_n (lv' := [(2, .int t2), (0, .ref (x 2)), (1, .int p1)]) hx hb dX6_opened_6 rfl hl (Nat.le_of_ble_eq_true rfl) rfl (fun ls hl => ?_)
  refine lv_aload_n hx hb dX6_opened_7 rfl (lv_at hl 1 rfl) ?_
  refine va_get (D := (dC, dI)) (ci := 6) (v := .int (v 6)) (C := RX6) (T := TX6) (N := 7) hx hb hts inB_6 hown hE.1 hP 3 rfl rfl 4 (Nat.le_of_ble_eq_true rfl) (hts _ k_270) (fun _ h9 => h9) rfl dX6_opened_8 ?_
  refine lv_iload_n hx hb dX6_opened_11 rfl (lv_at hl 0 rfl) ?_
  refine lv_iand hx hb dX6_opened_12 ?_
  refine lv_topi (fun t3 et3 => ?_)
  refine lv_if_eq (tgt := 21) hx hb dX6_opened_13 rfl (fun c4 => ?_) (fun c4 => ?_)
  · skip
    refine lv_aload_n hx hb dX6_opened_21 rfl (lv_at hl 1 rfl) ?_
    refine lv_dup hx hb dX6_opened_22 rfl ?_
    refine va_get (D := (dC, dI)) (ci := 6) (v := .int (v 6)) (C := RX6) (T := TX6) (N := 7) hx hb hts inB_6 hown hE.1 hP 3 rfl rfl 4 (Nat.le_of_ble_eq_true rfl) (hts _ k_270) (fun _ h9 => h9) rfl dX6_opened_23 ?_
    refine lv_iload_n hx hb dX6_opened_26 rfl (lv_at hl 0 rfl) ?_
    refine lv_ior hx hb dX6_opened_27 ?_
    refine lv_topi (fun t5 et5 => ?_)
    refine va_put (D := (dC, dI)) (ci := 6) (v := .int t5) (ty := tyX6 4) (C := RX6) (T := TX6) (N := 7) hx hb hts inB_6 tyX6 tyX6_ok nmX6 hown hE.1 hP hD hS 3 rfl rfl 4 (Nat.le_of_ble_eq_true rfl) (hts _ k_270) (fun _ h9 => h9) rfl (tyX6_ok 4 (Nat.le_of_ble_eq_true rfl)) rfl rfl (Nat.le_of_ble_eq_true rfl) dX6_opened_28 (fun H locs hP hD hS => ?_)
    have hP : va_P (dC, dI) vwCl (XW cy x0 x (upd v 6 t5) f) H := hP
    have hD : va_D A (XW cy x0 x (upd v 6 t5) f) := hD
    refine lv_aload_n hx hb dX6_opened_31 rfl (lv_at hl 1 rfl) ?_
    refine va_get (D := (dC, dI)) (ci := 6) (v := .ref (x 0)) (C := RX6) (T := TX6) (N := 7) hx hb hts inB_6 hown hE.1 hP 3 rfl rfl 0 (Nat.le_of_ble_eq_true rfl) (hts _ k_265) (fun _ h9 => h9) rfl dX6_opened_32 ?_
    refine csVv (n := 0) (rest := []) hx hb hml hown hts hE hP hD hS hA hF hT (sX_X9_advance_1 NF l dC dI cy x0 x  (upd v 6 t5) f (Xu_6 (x := t5) hIv (rlo _) (rhi _)) ) k_699 k_559 k_560 k_102 k_561 hd_yX9_advance ⟨Nat.le_of_ble_eq_true rfl, Nat.le_of_ble_eq_true rfl⟩ 1 9 rfl rfl (rfl) hl.1 rfl (Nat.le_of_ble_eq_true rfl) dX6_opened_35 (fun u H locs hw hP hD hS => ?_)
    obtain ⟨hG6, hw⟩ := hw
    obtain ⟨v7, f8⟩ := u
    obtain ⟨kV_v7, kF_f8, hIv7, hk0_v7, hk1_v7, hk7_v7, hk8_v7, hk9_v7, hk10_v7, hk31_v7, hk32_v7⟩ := hw
    have hM_v7 : KV [2, 3, 4, 5, 6, 7, 8] v7 v := KV.tr kV_v7 (KV.up (j := 6) (x := t5) hM_v rfl) rfl
    have hA_f8 : KF [] f8 f := KF.tr kF_f8 hA_f rfl
    have hP : va_P (dC, dI) vwCl (XW cy x0 x v7 f8) H := hP
    have hD : va_D A (XW cy x0 x v7 f8) := hD
    refine lv_iconst (v := 1) hx hb dX6_opened_38 rfl ?_
    exact ret 1 (v7, f8) _ _ _ _ _ _ rfl ⟨(gsX_X6_opened_1_q0 et1 et2 et3 c4 et5 hG6), hM_v7, hA_f8, hIv7, hk0_v7, hk1_v7, hk9_v7, hk10_v7, hk31_v7, hk32_v7, (Or.inl rfl)⟩ hP hD hS dX6_opened_39 (Nat.le_refl _) (Nat.le_refl _)
  · skip
    refine lv_aload_n hx hb dX6_opened_16 rfl (lv_at hl 1 rfl) ?_
    refine cbVi (n := 0) (rest := []) hx hb hml hown hts hE hP hD hS hA (sX_X6_refuse_1 NF l dC dI cy x0 x  v f hIv ) k_691 k_693 k_6 k_103 k_694 hd_yX6_refuse ⟨Nat.le_of_ble_eq_true rfl, Nat.le_of_ble_eq_true rfl⟩ 3 6 rfl rfl (rfl) hl.1 rfl (Nat.le_of_ble_eq_true rfl) dX6_opened_17 (fun r9 u H locs hw hP hD hS => ?_)
    obtain ⟨hG10, hw⟩ := hw
    obtain ⟨v11, f12⟩ := u
    obtain ⟨kV_v11, kF_f12, hIv11, hk0_v11, hk1_v11, hk9_v11, hk10_v11, hk31_v11, hk32_v11, hw⟩ := hw
    have hM_v11 : KV [2, 3, 4, 5, 6, 7, 8] v11 v := KV.tr kV_v11 hM_v rfl
    have hA_f12 : KF [] f12 f := KF.tr kF_f12 hA_f rfl
    have hP : va_P (dC, dI) vwCl (XW cy x0 x v11 f12) H := hP
    have hD : va_D A (XW cy x0 x v11 f12) := hD
    rcases hw with ⟨g13⟩ | ⟨g13⟩
    · skip
      subst g13
      exact ret 1 (v11, f12) _ _ _ _ _ _ rfl ⟨(gsX_X6_opened_1_q1 et1 et2 et3 c4 hG10), hM_v11, hA_f12, hIv11, hk0_v11, hk1_v11, hk9_v11, hk10_v11, hk31_v11, hk32_v11, (Or.inl rfl)⟩ hP hD hS dX6_opened_20 (Nat.le_refl _) (Nat.le_refl _)
    · skip
      subst g13
      exact ret 0 (v11, f12) _ _ _ _ _ _ rfl ⟨(gsX_X6_opened_1_q2 et1 et2 et3 c4 hG10), hM_v11, hA_f12, hIv11, hk0_v11, hk1_v11, hk9_v11, hk10_v11, hk31_v11, hk32_v11, (Or.inr rfl)⟩ hP hD hS dX6_opened_20 (Nat.le_refl _) (Nat.le_refl _)
set_option maxHeartbeats 4000000 in
set_option maxRecDepth 100000 in
theorem sX_X4_add_1 (NF : Nat) (l : Launch) (dC : Nat → ClassId) (dI : Nat → Nat → Nat) (cy : Nat → ClassId) (x0 : Nat) (x : Nat → Nat) (p1 : Int32) (p2 : Int32) (v : Nat → Int32) (f : Nat → Nat → Int32) (hIv : XI v)  : ctV l (dC, dI) cy yX4_add cX4_add 3 1 60 0 0 ((Nat → Int32) × (Nat → Nat → Int32)) [.ref (x 6), .int p1, .int p2] (XW cy x0 x v f) (fun u => gsX_X4_add_1 NF p1 p2 v f = u ∧ KV [16] u.1 v ∧ KF [3, 4] u.2 f ∧ XI u.1 ∧ u.1 0 = v 0 ∧ u.1 1 = v 1 ∧ u.1 7 = v 7 ∧ u.1 8 = v 8 ∧ u.1 9 = v 9 ∧ u.1 10 = v 10 ∧ u.1 31 = v 31 ∧ u.1 32 = v 32) (fun u => XW cy x0 x u.1 u.2) := by
  refine ctV_of (by decide) (Nat.le_of_ble_eq_true rfl) (fun p e s m below meth c A ls Q hx hb hml hts hown hnm hE hP hD hA hl ret => ?_)
  have hM_v : KV [16] v v := fun _ _ => rfl
  have hA_f : KF [3, 4] f f := fun _ _ => rfl
  have hown : s.vm.findClass RX4 = some m.cls := hown
  have hS : va_S A s.heap s.heap [] := va_S.rf
  have hl : lv_has ls 3 [(0, .ref (x 6)), (1, .int p1), (2, .int p2)] := hl
  refine lv_aload_n hx hb dX4_add_0 rfl (lv_at hl 0 rfl) ?_
  refine va_get (D := (dC, dI)) (ci := 4) (v := .int (v 16)) (C := RX4) (T := TX4) (N := 6) hx hb hts inB_4 hown hE.1 hP 7 rfl rfl 4 (Nat.le_of_ble_eq_true rfl) (hts _ k_182) (fun _ h9 => h9) rfl dX4_add_1 ?_
  have b16_v : 0 ≤ (v 16).toInt ∧ (v 16).toInt ≤ 300 := Xb_16 hIv
  refine lv_sipush (v := 300) hx hb dX4_add_4 rfl ?_
  refine lv_icmp_ge (tgt := 40) hx hb dX4_add_7 rfl (fun c1 => ?_) (fun c1 => ?_)
  · skip
    exact ret (v, f) _ _ _ _ _ _ ⟨(gsX_X4_add_1_q0 c1), hM_v, hA_f, hIv, rfl, rfl, rfl, rfl, rfl, rfl, rfl, rfl⟩ hP hD hS dX4_add_40 (Nat.le_refl _) (Nat.le_refl _)
  · skip
    have zc1 : ¬ (300 ≤ (v 16).toInt) := zMn tc_300 rfl c1
    refine lv_aload_n hx hb dX4_add_10 rfl (lv_at hl 0 rfl) ?_
    refine va_get (D := (dC, dI)) (ci := 4) (v := .ref (x 7)) (C := RX4) (T := TX4) (N := 6) hx hb hts inB_4 hown hE.1 hP 7 rfl rfl 0 (Nat.le_of_ble_eq_true rfl) (hts _ k_178) (fun _ h9 => h9) rfl dX4_add_11 ?_
    refine lv_aload_n hx hb dX4_add_14 rfl (lv_at hl 0 rfl) ?_
    refine va_get (D := (dC, dI)) (ci := 4) (v := .int (v 16)) (C := RX4) (T := TX4) (N := 6) hx hb hts inB_4 hown hE.1 hP 7 rfl rfl 4 (Nat.le_of_ble_eq_true rfl) (hts _ k_182) (fun _ h9 => h9) rfl dX4_add_15 ?_
    refine lv_iload_n hx hb dX4_add_18 rfl (lv_at hl 1 rfl) ?_
    refine stI hx hb hE hP hD hS 8 rfl (vpI (k := 300) rfl (show 0 ≤ (v 16).toInt from om_88 b16_v) (show (v 16).toInt < 300 from om_89 zc1)) rfl dX4_add_19 (fun H locs hP hD hS => ?_)
    obtain ⟨f2, ef2, hP, hD⟩ : ∃ fz9, fz9 = upd2 f 3 (upd (f 3) (v 16).toNatClampNeg p1) ∧ va_P (dC, dI) vwCl (XW cy x0 x v fz9) H ∧ va_D A (XW cy x0 x v fz9) := ⟨_, rfl, hP, hD⟩
    have hA_f2 : KF [3, 4] f2 f := by rw [ef2]; exact KF.up hA_f rfl
    refine lv_aload_n hx hb dX4_add_20 rfl (lv_at hl 0 rfl) ?_
    refine va_get (D := (dC, dI)) (ci := 4) (v := .ref (x 8)) (C := RX4) (T := TX4) (N := 6) hx hb hts inB_4 hown hE.1 hP 7 rfl rfl 1 (Nat.le_of_ble_eq_true rfl) (hts _ k_179) (fun _ h9 => h9) rfl dX4_add_21 ?_
    refine lv_aload_n hx hb dX4_add_24 rfl (lv_at hl 0 rfl) ?_
    refine va_get (D := (dC, dI)) (ci := 4) (v := .int (v 16)) (C := RX4) (T := TX4) (N := 6) hx hb hts inB_4 hown hE.1 hP 7 rfl rfl 4 (Nat.le_of_ble_eq_true rfl) (hts _ k_182) (fun _ h9 => h9) rfl dX4_add_25 ?_
    refine lv_iload_n hx hb dX4_add_28 rfl (lv_at hl 2 rfl) ?_
    refine stI hx hb hE hP hD hS 9 rfl (vpI (k := 300) rfl (show 0 ≤ (v 16).toInt from om_88 b16_v) (show (v 16).toInt < 300 from om_89 zc1)) rfl dX4_add_29 (fun H locs hP hD hS => ?_)
    obtain ⟨f3, ef3, hP, hD⟩ : ∃ fz9, fz9 = upd2 f2 4 (upd (f2 4) (v 16).toNatClampNeg p2) ∧ va_P (dC, dI) vwCl (XW cy x0 x v fz9) H ∧ va_D A (XW cy x0 x v fz9) := ⟨_, rfl, hP, hD⟩
    have hA_f3 : KF [3, 4] f3 f := by rw [ef3]; exact KF.up hA_f2 rfl
    refine lv_aload_n hx hb dX4_add_30 rfl (lv_at hl 0 rfl) ?_
    refine lv_dup hx hb dX4_add_31 rfl ?_
    refine va_get (D := (dC, dI)) (ci := 4) (v := .int (v 16)) (C := RX4) (T := TX4) (N := 6) hx hb hts inB_4 hown hE.1 hP 7 rfl rfl 4 (Nat.le_of_ble_eq_true rfl) (hts _ k_182) (fun _ h9 => h9) rfl dX4_add_32 ?_
    refine lv_iconst (v := 1) hx hb dX4_add_35 rfl ?_
    refine lv_iadd hx hb dX4_add_36 ?_
    refine lv_topi (fun t4 et4 => ?_)
    have zt4 : t4.toInt = (v 16).toInt + 1 := (congrArg Int32.toInt et4).trans (add_i rfl tc_1 (om_90 b16_v) (om_91 zc1))
    refine va_put (D := (dC, dI)) (ci := 4) (v := .int t4) (ty := tyX4 4) (C := RX4) (T := TX4) (N := 6) hx hb hts inB_4 tyX4 tyX4_ok nmX4 hown hE.1 hP hD hS 7 rfl rfl 4 (Nat.le_of_ble_eq_true rfl) (hts _ k_182) (fun _ h9 => h9) rfl (tyX4_ok 4 (Nat.le_of_ble_eq_true rfl)) rfl rfl (Nat.le_of_ble_eq_true rfl) dX4_add_37 (fun H locs hP hD hS => ?_)
    have hP : va_P (dC, dI) vwCl (XW cy x0 x (upd v 16 t4) f3) H := hP
    have hD : va_D A (XW cy x0 x (upd v 16 t4) f3) := hD
    exact ret ((upd v 16 t4), f3) _ _ _ _ _ _ ⟨(gsX_X4_add_1_q1 c1 ef2 ef3 et4), (KV.up (j := 16) (x := t4) hM_v rfl), hA_f3, (Xu_16 (x := t4) hIv (show (0 : Int) ≤ t4.toInt from om_92 b16_v zt4) (show t4.toInt ≤ (300 : Int) from om_93 zc1 zt4)), rfl, rfl, rfl, rfl, rfl, rfl, rfl, rfl⟩ hP hD hS dX4_add_40 (Nat.le_refl _) (Nat.le_refl _)
set_option maxHeartbeats 4000000 in
set_option maxRecDepth 100000 in
theorem sX_X6_unit_8 (NF : Nat) (l : Launch) (dC : Nat → ClassId) (dI : Nat → Nat → Nat) (cy : Nat → ClassId) (x0 : Nat) (x : Nat → Nat)  (v : Nat → Int32) (f : Nat → Nat → Int32) (hIv : XI v)  : ctIS l (dC, dI) cy yX6_unit cX6_unit 4 .boolean 7 191 0 0 ((Nat → Int32) × (Nat → Nat → Int32)) [.ref (x 2), .int 7] (XW cy x0 x v f) (fun r u => gsX_X6_unit_8 NF v f = (r, u) ∧ KV [2, 3, 4, 5, 7, 8, 16, 17] u.1 v ∧ KF [3, 4] u.2 f ∧ XI u.1 ∧ u.1 0 = v 0 ∧ u.1 1 = v 1 ∧ u.1 9 = v 9 ∧ u.1 10 = v 10 ∧ u.1 31 = v 31 ∧ u.1 32 = v 32 ∧ ((r = 1) ∨ (r = 0))) (fun u => XW cy x0 x u.1 u.2) := by
  refine ctIS_of (by decide) (Nat.le_of_ble_eq_true rfl) (fun p e s m below meth c A ls Q hx hb hml hts hown hE hF hT hP hD hA hl ret => ?_)
  have hM_v : KV [2, 3, 4, 5, 7, 8, 16, 17] v v := fun _ _ => rfl
  have hA_f : KF [3, 4] f f := fun _ _ => rfl
  have hown : s.vm.findClass RX6 = some m.cls := hown
  have hS : va_S A s.heap s.heap [] := va_S.rf
  have hl : lv_has ls 4 [(0, .ref (x 2)), (1, .int 7)] := hl
  refine lv_aload_n hx hb dX6_unit_0 rfl (lv_at hl 0 rfl) ?_
  refine va_get (D := (dC, dI)) (ci := 6) (v := .ref (x 0)) (C := RX6) (T := TX6) (N := 7) hx hb hts inB_6 hown hE.1 hP 3 rfl rfl 0 (Nat.le_of_ble_eq_true rfl) (hts _ k_265) (fun _ h9 => h9) rfl dX6_unit_1 ?_
  refine va_getN (D := (dC, dI)) (ci := 9) (v := .int (v 2)) (C := RX9) (T := TX9) (N := 6) hx hb hts inB_9 hown hE.1 hP 1 rfl rfl 2 (Nat.le_of_ble_eq_true rfl) (va_Nw.use rfl (hE.2 _ k_139)) (fun _ h9 => h9) rfl dX6_unit_4 ?_
  refine lv_istore_n (lv' := [(2, .int (v 2)), (0, .ref (x 2)), (1, .int 7)]) hx hb dX6_unit_7 rfl hl (Nat.le_of_ble_eq_true rfl) rfl (fun ls hl => ?_)
  refine lv_iload_n hx hb dX6_unit_8 rfl (lv_at hl 0 rfl) ?_
  refine lv_iconst (v := 2) hx hb dX6_unit_9 rfl ?_
  refine lv_icmp_eq (tgt := 25) hx hb dX6_unit_10 rfl (fun c1 => ?_) (fun c1 => ?_)
  · skip
    refine lv_iconst (v := 1) hx hb dX6_unit_25 rfl ?_
    refine lv_goto (tgt := 30) hx hb dX6_unit_26 rfl ?_
    refine lv_istore_n (lv' := [(3, .int 1), (2, .int (v 2)), (0, .ref (x 2)), (1, .int 7)]) hx hb dX6_unit_30 rfl hl (Nat.le_of_ble_eq_true rfl) rfl (fun ls hl => ?_)
    refine lv_iload_n hx hb dX6_unit_31 rfl (lv_at hl 0 rfl) ?_
    refine lv_if_ne (tgt := 41) hx hb dX6_unit_32 rfl (fun _ => ?_) (fun c0 => absurd c0 (by decide))
    refine lv_aload_n hx hb dX6_unit_41 rfl (lv_at hl 2 rfl) ?_
    refine va_get (D := (dC, dI)) (ci := 6) (v := .ref (x 3)) (C := RX6) (T := TX6) (N := 7) hx hb hts inB_6 hown hE.1 hP 3 rfl rfl 1 (Nat.le_of_ble_eq_true rfl) (hts _ k_266) (fun _ h9 => h9) rfl dX6_unit_42 ?_
    refine va_getN (D := (dC, dI)) (ci := 7) (v := .ref (x 6)) (C := RX7) (T := TX7) (N := 10) hx hb hts inB_7 hown hE.1 hP 4 rfl rfl 2 (Nat.le_of_ble_eq_true rfl) (va_Nw.use rfl (hE.2 _ k_210)) (fun _ h9 => h9) rfl dX6_unit_45 ?_
    refine va_getN (D := (dC, dI)) (ci := 4) (v := .int (v 17)) (C := RX4) (T := TX4) (N := 6) hx hb hts inB_4 hown hE.1 hP 7 rfl rfl 5 (Nat.le_of_ble_eq_true rfl) (va_Nw.use rfl (hE.2 _ k_184)) (fun _ h9 => h9) rfl dX6_unit_48 ?_
    refine lv_bipush (v := 30) hx hb dX6_unit_51 rfl ?_
    refine lv_icmp_lt (tgt := 61) hx hb dX6_unit_53 rfl (fun c2 => ?_) (fun c2 => ?_)
    · skip
      refine lv_iload_n hx hb dX6_unit_61 rfl (lv_at hl 0 rfl) ?_
      refine lv_if_eq (tgt := 108) hx hb dX6_unit_62 rfl (fun c0 => absurd c0 (by decide)) (fun _ => ?_)
      refine lv_aload_n hx hb dX6_unit_65 rfl (lv_at hl 2 rfl) ?_
      refine va_get (D := (dC, dI)) (ci := 6) (v := .ref (x 3)) (C := RX6) (T := TX6) (N := 7) hx hb hts inB_6 hown hE.1 hP 3 rfl rfl 1 (Nat.le_of_ble_eq_true rfl) (hts _ k_266) (fun _ h9 => h9) rfl dX6_unit_66 ?_
      refine va_getN (D := (dC, dI)) (ci := 7) (v := .ref (x 6)) (C := RX7) (T := TX7) (N := 10) hx hb hts inB_7 hown hE.1 hP 4 rfl rfl 2 (Nat.le_of_ble_eq_true rfl) (va_Nw.use rfl (hE.2 _ k_210)) (fun _ h9 => h9) rfl dX6_unit_69 ?_
      refine lv_iload_n hx hb dX6_unit_72 rfl (lv_at hl 1 rfl) ?_
      refine lv_aload_n hx hb dX6_unit_73 rfl (lv_at hl 2 rfl) ?_
      refine va_get (D := (dC, dI)) (ci := 6) (v := .ref (x 0)) (C := RX6) (T := TX6) (N := 7) hx hb hts inB_6 hown hE.1 hP 3 rfl rfl 0 (Nat.le_of_ble_eq_true rfl) (hts _ k_265) (fun _ h9 => h9) rfl dX6_unit_74 ?_
      refine va_getN (D := (dC, dI)) (ci := 9) (v := .int (v 5)) (C := RX9) (T := TX9) (N := 6) hx hb hts inB_9 hown hE.1 hP 1 rfl rfl 5 (Nat.le_of_ble_eq_true rfl) (va_Nw.use rfl (hE.2 _ k_145)) (fun _ h9 => h9) rfl dX6_unit_77 ?_
      refine cbVv (n := 2) (rest := []) hx hb hml hown hts hE hP hD hS hA (sX_X4_add_1 NF l dC dI cy x0 x (v 2) (v 5) v f hIv ) k_748 k_749 k_750 k_105 k_751 hd_yX4_add ⟨Nat.le_of_ble_eq_true rfl, Nat.le_of_ble_eq_true rfl⟩ 7 4 rfl rfl (rfl) hl.1 rfl (Nat.le_of_ble_eq_true rfl) dX6_unit_80 (fun u H locs hw hP hD hS => ?_)
      obtain ⟨hG3, hw⟩ := hw
      obtain ⟨v4, f5⟩ := u
      obtain ⟨kV_v4, kF_f5, hIv4, hk0_v4, hk1_v4, hk7_v4, hk8_v4, hk9_v4, hk10_v4, hk31_v4, hk32_v4⟩ := hw
      have hM_v4 : KV [2, 3, 4, 5, 7, 8, 16, 17] v4 v := KV.tr kV_v4 hM_v rfl
      have hA_f5 : KF [3, 4] f5 f := KF.tr kF_f5 hA_f rfl
      have hP : va_P (dC, dI) vwCl (XW cy x0 x v4 f5) H := hP
      have hD : va_D A (XW cy x0 x v4 f5) := hD
      refine lv_aload_n hx hb dX6_unit_83 rfl (lv_at hl 2 rfl) ?_
      refine va_get (D := (dC, dI)) (ci := 6) (v := .ref (x 3)) (C := RX6) (T := TX6) (N := 7) hx hb hts inB_6 hown hE.1 hP 3 rfl rfl 1 (Nat.le_of_ble_eq_true rfl) (hts _ k_266) (fun _ h9 => h9) rfl dX6_unit_84 ?_
      refine va_getN (D := (dC, dI)) (ci := 7) (v := .ref (x 6)) (C := RX7) (T := TX7) (N := 10) hx hb hts inB_7 hown hE.1 hP 4 rfl rfl 2 (Nat.le_of_ble_eq_true rfl) (va_Nw.use rfl (hE.2 _ k_210)) (fun _ h9 => h9) rfl dX6_unit_87 ?_
      refine lv_dup hx hb dX6_unit_90 rfl ?_
      refine va_getN (D := (dC, dI)) (ci := 4) (v := .int (v4 17)) (C := RX4) (T := TX4) (N := 6) hx hb hts inB_4 hown hE.1 hP 7 rfl rfl 5 (Nat.le_of_ble_eq_true rfl) (va_Nw.use rfl (hE.2 _ k_184)) (fun _ h9 => h9) rfl dX6_unit_91 ?_
      refine lv_iconst (v := 1) hx hb dX6_unit_94 rfl ?_
      refine lv_iadd hx hb dX6_unit_95 ?_
      refine lv_topi (fun t6 et6 => ?_)
      refine va_putN (D := (dC, dI)) (ci := 4) (v := .int t6) (ty := tyX4 5) (C := RX4) (T := TX4) (N := 6) hx hb hts inB_4 tyX4 tyX4_ok nmX4 hown hE.1 hP hD hS 7 rfl rfl 5 (by decide) (va_Nw.use rfl (hE.2 _ k_184)) (fun _ h9 => h9) rfl (tyX4_ok 5 (Nat.le_of_ble_eq_true rfl)) rfl rfl (Nat.le_of_ble_eq_true rfl) dX6_unit_96 (fun H locs hP hD hS => ?_)
      have hP : va_P (dC, dI) vwCl (XW cy x0 x (upd v4 17 t6) f5) H := hP
      have hD : va_D A (XW cy x0 x (upd v4 17 t6) f5) := hD
      refine lv_aload_n hx hb dX6_unit_99 rfl (lv_at hl 2 rfl) ?_
      refine va_get (D := (dC, dI)) (ci := 6) (v := .ref (x 0)) (C := RX6) (T := TX6) (N := 7) hx hb hts inB_6 hown hE.1 hP 3 rfl rfl 0 (Nat.le_of_ble_eq_true rfl) (hts _ k_265) (fun _ h9 => h9) rfl dX6_unit_100 ?_
      refine csVv (n := 0) (rest := []) hx hb hml hown hts hE hP hD hS hA hF hT (sX_X9_advance_1 NF l dC dI cy x0 x  (upd v4 17 t6) f5 (Xu_17 (x := t6) hIv4 (rlo _) (rhi _)) ) k_699 k_559 k_560 k_102 k_561 hd_yX9_advance ⟨Nat.le_of_ble_eq_true rfl, Nat.le_of_ble_eq_true rfl⟩ 1 9 rfl rfl (rfl) hl.1 rfl (Nat.le_of_ble_eq_true rfl) dX6_unit_103 (fun u H locs hw hP hD hS => ?_)
      obtain ⟨hG7, hw⟩ := hw
      obtain ⟨v8, f9⟩ := u
      obtain ⟨kV_v8, kF_f9, hIv8, hk0_v8, hk1_v8, hk7_v8, hk8_v8, hk9_v8, hk10_v8, hk31_v8, hk32_v8⟩ := hw
      have hM_v8 : KV [2, 3, 4, 5, 7, 8, 16, 17] v8 v := KV.tr kV_v8 (KV.up (j := 17) (x := t6) hM_v4 rfl) rfl
      have hA_f9 : KF [3, 4] f9 f := KF.tr kF_f9 hA_f5 rfl
      have hP : va_P (dC, dI) vwCl (XW cy x0 x v8 f9) H := hP
      have hD : va_D A (XW cy x0 x v8 f9) := hD
      refine lv_iconst (v := 1) hx hb dX6_unit_106 rfl ?_
      exact ret 1 (v8, f9) _ _ _ _ _ _ rfl ⟨(gsX_X6_unit_8_q0 c1 c2 hG3 et6 hG7), hM_v8, hA_f9, hIv8, (hk0_v8.trans hk0_v4), (hk1_v8.trans hk1_v4), (hk9_v8.trans hk9_v4), (hk10_v8.trans hk10_v4), (hk31_v8.trans hk31_v4), (hk32_v8.trans hk32_v4), (Or.inl rfl)⟩ hP hD hS dX6_unit_107 (Nat.le_refl _) (Nat.le_refl _)
    · skip
      refine lv_aload_n hx hb dX6_unit_56 rfl (lv_at hl 2 rfl) ?_
      refine cbVi (n := 0) (rest := []) hx hb hml hown hts hE hP hD hS hA (sX_X6_refuse_1 NF l dC dI cy x0 x  v f hIv ) k_691 k_693 k_6 k_103 k_694 hd_yX6_refuse ⟨Nat.le_of_ble_eq_true rfl, Nat.le_of_ble_eq_true rfl⟩ 3 6 rfl rfl (rfl) hl.1 rfl (Nat.le_of_ble_eq_true rfl) dX6_unit_57 (fun r10 u H locs hw hP hD hS => ?_)
      obtain ⟨hG11, hw⟩ := hw
      obtain ⟨v12, f13⟩ := u
      obtain ⟨kV_v12, kF_f13, hIv12, hk0_v12, hk1_v12, hk9_v12, hk10_v12, hk31_v12, hk32_v12, hw⟩ := hw
      have hM_v12 : KV [2, 3, 4, 5, 7, 8, 16, 17] v12 v := KV.tr kV_v12 hM_v rfl
      have hA_f13 : KF [3, 4] f13 f := KF.tr kF_f13 hA_f rfl
      have hP : va_P (dC, dI) vwCl (XW cy x0 x v12 f13) H := hP
      have hD : va_D A (XW cy x0 x v12 f13) := hD
      rcases hw with ⟨g14⟩ | ⟨g14⟩
      · skip
        subst g14
        exact ret 1 (v12, f13) _ _ _ _ _ _ rfl ⟨(gsX_X6_unit_8_q1 c1 c2 hG11), hM_v12, hA_f13, hIv12, hk0_v12, hk1_v12, hk9_v12, hk10_v12, hk31_v12, hk32_v12, (Or.inl rfl)⟩ hP hD hS dX6_unit_60 (Nat.le_refl _) (Nat.le_refl _)
      · skip
        subst g14
        exact ret 0 (v12, f13) _ _ _ _ _ _ rfl ⟨(gsX_X6_unit_8_q2 c1 c2 hG11), hM_v12, hA_f13, hIv12, hk0_v12, hk1_v12, hk9_v12, hk10_v12, hk31_v12, hk32_v12, (Or.inr rfl)⟩ hP hD hS dX6_unit_60 (Nat.le_refl _) (Nat.le_refl _)
  · skip
    refine lv_iload_n hx hb dX6_unit_13 rfl (lv_at hl 0 rfl) ?_
    refine lv_bipush (v := 116) hx hb dX6_unit_14 rfl ?_
    refine lv_icmp_lt (tgt := 29) hx hb dX6_unit_16 rfl (fun c15 => ?_) (fun c15 => ?_)
    · skip
      refine lv_iconst (v := 0) hx hb dX6_unit_29 rfl ?_
      refine lv_istore_n (lv' := [(3, .int 0), (2, .int (v 2)), (0, .ref (x 2)), (1, .int 7)]) hx hb dX6_unit_30 rfl hl (Nat.le_of_ble_eq_true rfl) rfl (fun ls hl => ?_)
      refine lv_iload_n hx hb dX6_unit_31 rfl (lv_at hl 0 rfl) ?_
      refine lv_if_ne (tgt := 41) hx hb dX6_unit_32 rfl (fun c0 => absurd (by decide) c0) (fun _ => ?_)
      refine lv_iload_n hx hb dX6_unit_35 rfl (lv_at hl 1 rfl) ?_
      refine lv_bipush (v := 40) hx hb dX6_unit_36 rfl ?_
      refine lv_icmp_ne (tgt := 56) hx hb dX6_unit_38 rfl (fun c16 => ?_) (fun c16 => ?_)
      · skip
        refine lv_aload_n hx hb dX6_unit_56 rfl (lv_at hl 2 rfl) ?_
        refine cbVi (n := 0) (rest := []) hx hb hml hown hts hE hP hD hS hA (sX_X6_refuse_1 NF l dC dI cy x0 x  v f hIv ) k_691 k_693 k_6 k_103 k_694 hd_yX6_refuse ⟨Nat.le_of_ble_eq_true rfl, Nat.le_of_ble_eq_true rfl⟩ 3 6 rfl rfl (rfl) hl.1 rfl (Nat.le_of_ble_eq_true rfl) dX6_unit_57 (fun r17 u H locs hw hP hD hS => ?_)
        obtain ⟨hG18, hw⟩ := hw
        obtain ⟨v19, f20⟩ := u
        obtain ⟨kV_v19, kF_f20, hIv19, hk0_v19, hk1_v19, hk9_v19, hk10_v19, hk31_v19, hk32_v19, hw⟩ := hw
        have hM_v19 : KV [2, 3, 4, 5, 7, 8, 16, 17] v19 v := KV.tr kV_v19 hM_v rfl
        have hA_f20 : KF [3, 4] f20 f := KF.tr kF_f20 hA_f rfl
        have hP : va_P (dC, dI) vwCl (XW cy x0 x v19 f20) H := hP
        have hD : va_D A (XW cy x0 x v19 f20) := hD
        rcases hw with ⟨g21⟩ | ⟨g21⟩
        · skip
          subst g21
          exact ret 1 (v19, f20) _ _ _ _ _ _ rfl ⟨(gsX_X6_unit_8_q3 c1 c15 c16 hG18), hM_v19, hA_f20, hIv19, hk0_v19, hk1_v19, hk9_v19, hk10_v19, hk31_v19, hk32_v19, (Or.inl rfl)⟩ hP hD hS dX6_unit_60 (Nat.le_refl _) (Nat.le_refl _)
        · skip
          subst g21
          exact ret 0 (v19, f20) _ _ _ _ _ _ rfl ⟨(gsX_X6_unit_8_q4 c1 c15 c16 hG18), hM_v19, hA_f20, hIv19, hk0_v19, hk1_v19, hk9_v19, hk10_v19, hk31_v19, hk32_v19, (Or.inr rfl)⟩ hP hD hS dX6_unit_60 (Nat.le_refl _) (Nat.le_refl _)
      · skip
        refine lv_aload_n hx hb dX6_unit_41 rfl (lv_at hl 2 rfl) ?_
        refine va_get (D := (dC, dI)) (ci := 6) (v := .ref (x 3)) (C := RX6) (T := TX6) (N := 7) hx hb hts inB_6 hown hE.1 hP 3 rfl rfl 1 (Nat.le_of_ble_eq_true rfl) (hts _ k_266) (fun _ h9 => h9) rfl dX6_unit_42 ?_
        refine va_getN (D := (dC, dI)) (ci := 7) (v := .ref (x 6)) (C := RX7) (T := TX7) (N := 10) hx hb hts inB_7 hown hE.1 hP 4 rfl rfl 2 (Nat.le_of_ble_eq_true rfl) (va_Nw.use rfl (hE.2 _ k_210)) (fun _ h9 => h9) rfl dX6_unit_45 ?_
        refine va_getN (D := (dC, dI)) (ci := 4) (v := .int (v 17)) (C := RX4) (T := TX4) (N := 6) hx hb hts inB_4 hown hE.1 hP 7 rfl rfl 5 (Nat.le_of_ble_eq_true rfl) (va_Nw.use rfl (hE.2 _ k_184)) (fun _ h9 => h9) rfl dX6_unit_48 ?_
        refine lv_bipush (v := 30) hx hb dX6_unit_51 rfl ?_
        refine lv_icmp_lt (tgt := 61) hx hb dX6_unit_53 rfl (fun c22 => ?_) (fun c22 => ?_)
        · skip
          refine lv_iload_n hx hb dX6_unit_61 rfl (lv_at hl 0 rfl) ?_
          refine lv_if_eq (tgt := 108) hx hb dX6_unit_62 rfl (fun _ => ?_) (fun c0 => absurd (by decide) c0)
          refine lv_iload_n hx hb dX6_unit_108 rfl (lv_at hl 3 rfl) ?_
          refine lv_bipush (v := 7) hx hb dX6_unit_109 rfl ?_
          refine lv_icmp_lt (tgt := 119) hx hb dX6_unit_111 rfl (fun c0 => absurd c0 (by decide)) (fun _ => ?_)
          refine lv_aload_n hx hb dX6_unit_114 rfl (lv_at hl 2 rfl) ?_
          refine cbVi (n := 0) (rest := []) hx hb hml hown hts hE hP hD hS hA (sX_X6_refuse_1 NF l dC dI cy x0 x  v f hIv ) k_691 k_693 k_6 k_103 k_694 hd_yX6_refuse ⟨Nat.le_of_ble_eq_true rfl, Nat.le_of_ble_eq_true rfl⟩ 3 6 rfl rfl (rfl) hl.1 rfl (Nat.le_of_ble_eq_true rfl) dX6_unit_115 (fun r23 u H locs hw hP hD hS => ?_)
          obtain ⟨hG24, hw⟩ := hw
          obtain ⟨v25, f26⟩ := u
          obtain ⟨kV_v25, kF_f26, hIv25, hk0_v25, hk1_v25, hk9_v25, hk10_v25, hk31_v25, hk32_v25, hw⟩ := hw
          have hM_v25 : KV [2, 3, 4, 5, 7, 8, 16, 17] v25 v := KV.tr kV_v25 hM_v rfl
          have hA_f26 : KF [3, 4] f26 f := KF.tr kF_f26 hA_f rfl
          have hP : va_P (dC, dI) vwCl (XW cy x0 x v25 f26) H := hP
          have hD : va_D A (XW cy x0 x v25 f26) := hD
          rcases hw with ⟨g27⟩ | ⟨g27⟩
          · skip
            subst g27
            exact ret 1 (v25, f26) _ _ _ _ _ _ rfl ⟨(gsX_X6_unit_8_q5 c1 c15 c16 c22 hG24), hM_v25, hA_f26, hIv25, hk0_v25, hk1_v25, hk9_v25, hk10_v25, hk31_v25, hk32_v25, (Or.inl rfl)⟩ hP hD hS dX6_unit_118 (Nat.le_refl _) (Nat.le_refl _)
          · skip
            subst g27
            exact ret 0 (v25, f26) _ _ _ _ _ _ rfl ⟨(gsX_X6_unit_8_q6 c1 c15 c16 c22 hG24), hM_v25, hA_f26, hIv25, hk0_v25, hk1_v25, hk9_v25, hk10_v25, hk31_v25, hk32_v25, (Or.inr rfl)⟩ hP hD hS dX6_unit_118 (Nat.le_refl _) (Nat.le_refl _)
        · skip
          refine lv_aload_n hx hb dX6_unit_56 rfl (lv_at hl 2 rfl) ?_
          refine cbVi (n := 0) (rest := []) hx hb hml hown hts hE hP hD hS hA (sX_X6_refuse_1 NF l dC dI cy x0 x  v f hIv ) k_691 k_693 k_6 k_103 k_694 hd_yX6_refuse ⟨Nat.le_of_ble_eq_true rfl, Nat.le_of_ble_eq_true rfl⟩ 3 6 rfl rfl (rfl) hl.1 rfl (Nat.le_of_ble_eq_true rfl) dX6_unit_57 (fun r28 u H locs hw hP hD hS => ?_)
          obtain ⟨hG29, hw⟩ := hw
          obtain ⟨v30, f31⟩ := u
          obtain ⟨kV_v30, kF_f31, hIv30, hk0_v30, hk1_v30, hk9_v30, hk10_v30, hk31_v30, hk32_v30, hw⟩ := hw
          have hM_v30 : KV [2, 3, 4, 5, 7, 8, 16, 17] v30 v := KV.tr kV_v30 hM_v rfl
          have hA_f31 : KF [3, 4] f31 f := KF.tr kF_f31 hA_f rfl
          have hP : va_P (dC, dI) vwCl (XW cy x0 x v30 f31) H := hP
          have hD : va_D A (XW cy x0 x v30 f31) := hD
          rcases hw with ⟨g32⟩ | ⟨g32⟩
          · skip
            subst g32
            exact ret 1 (v30, f31) _ _ _ _ _ _ rfl ⟨(gsX_X6_unit_8_q7 c1 c15 c16 c22 hG29), hM_v30, hA_f31, hIv30, hk0_v30, hk1_v30, hk9_v30, hk10_v30, hk31_v30, hk32_v30, (Or.inl rfl)⟩ hP hD hS dX6_unit_60 (Nat.le_refl _) (Nat.le_refl _)
          · skip
            subst g32
            exact ret 0 (v30, f31) _ _ _ _ _ _ rfl ⟨(gsX_X6_unit_8_q8 c1 c15 c16 c22 hG29), hM_v30, hA_f31, hIv30, hk0_v30, hk1_v30, hk9_v30, hk10_v30, hk31_v30, hk32_v30, (Or.inr rfl)⟩ hP hD hS dX6_unit_60 (Nat.le_refl _) (Nat.le_refl _)
    · skip
      refine lv_iload_n hx hb dX6_unit_19 rfl (lv_at hl 0 rfl) ?_
      refine lv_bipush (v := 121) hx hb dX6_unit_20 rfl ?_
      refine lv_icmp_gt (tgt := 29) hx hb dX6_unit_22 rfl (fun c33 => ?_) (fun c33 => ?_)
      · skip
        refine lv_iconst (v := 0) hx hb dX6_unit_29 rfl ?_
        refine lv_istore_n (lv' := [(3, .int 0), (2, .int (v 2)), (0, .ref (x 2)), (1, .int 7)]) hx hb dX6_unit_30 rfl hl (Nat.le_of_ble_eq_true rfl) rfl (fun ls hl => ?_)
        refine lv_iload_n hx hb dX6_unit_31 rfl (lv_at hl 0 rfl) ?_
        refine lv_if_ne (tgt := 41) hx hb dX6_unit_32 rfl (fun c0 => absurd (by decide) c0) (fun _ => ?_)
        refine lv_iload_n hx hb dX6_unit_35 rfl (lv_at hl 1 rfl) ?_
        refine lv_bipush (v := 40) hx hb dX6_unit_36 rfl ?_
        refine lv_icmp_ne (tgt := 56) hx hb dX6_unit_38 rfl (fun c34 => ?_) (fun c34 => ?_)
        · skip
          refine lv_aload_n hx hb dX6_unit_56 rfl (lv_at hl 2 rfl) ?_
          refine cbVi (n := 0) (rest := []) hx hb hml hown hts hE hP hD hS hA (sX_X6_refuse_1 NF l dC dI cy x0 x  v f hIv ) k_691 k_693 k_6 k_103 k_694 hd_yX6_refuse ⟨Nat.le_of_ble_eq_true rfl, Nat.le_of_ble_eq_true rfl⟩ 3 6 rfl rfl (rfl) hl.1 rfl (Nat.le_of_ble_eq_true rfl) dX6_unit_57 (fun r35 u H locs hw hP hD hS => ?_)
          obtain ⟨hG36, hw⟩ := hw
          obtain ⟨v37, f38⟩ := u
          obtain ⟨kV_v37, kF_f38, hIv37, hk0_v37, hk1_v37, hk9_v37, hk10_v37, hk31_v37, hk32_v37, hw⟩ := hw
          have hM_v37 : KV [2, 3, 4, 5, 7, 8, 16, 17] v37 v := KV.tr kV_v37 hM_v rfl
          have hA_f38 : KF [3, 4] f38 f := KF.tr kF_f38 hA_f rfl
          have hP : va_P (dC, dI) vwCl (XW cy x0 x v37 f38) H := hP
          have hD : va_D A (XW cy x0 x v37 f38) := hD
          rcases hw with ⟨g39⟩ | ⟨g39⟩
          · skip
            subst g39
            exact ret 1 (v37, f38) _ _ _ _ _ _ rfl ⟨(gsX_X6_unit_8_q9 c1 c15 c33 c34 hG36), hM_v37, hA_f38, hIv37, hk0_v37, hk1_v37, hk9_v37, hk10_v37, hk31_v37, hk32_v37, (Or.inl rfl)⟩ hP hD hS dX6_unit_60 (Nat.le_refl _) (Nat.le_refl _)
          · skip
            subst g39
            exact ret 0 (v37, f38) _ _ _ _ _ _ rfl ⟨(gsX_X6_unit_8_q10 c1 c15 c33 c34 hG36), hM_v37, hA_f38, hIv37, hk0_v37, hk1_v37, hk9_v37, hk10_v37, hk31_v37, hk32_v37, (Or.inr rfl)⟩ hP hD hS dX6_unit_60 (Nat.le_refl _) (Nat.le_refl _)
        · skip
          refine lv_aload_n hx hb dX6_unit_41 rfl (lv_at hl 2 rfl) ?_
          refine va_get (D := (dC, dI)) (ci := 6) (v := .ref (x 3)) (C := RX6) (T := TX6) (N := 7) hx hb hts inB_6 hown hE.1 hP 3 rfl rfl 1 (Nat.le_of_ble_eq_true rfl) (hts _ k_266) (fun _ h9 => h9) rfl dX6_unit_42 ?_
          refine va_getN (D := (dC, dI)) (ci := 7) (v := .ref (x 6)) (C := RX7) (T := TX7) (N := 10) hx hb hts inB_7 hown hE.1 hP 4 rfl rfl 2 (Nat.le_of_ble_eq_true rfl) (va_Nw.use rfl (hE.2 _ k_210)) (fun _ h9 => h9) rfl dX6_unit_45 ?_
          refine va_getN (D := (dC, dI)) (ci := 4) (v := .int (v 17)) (C := RX4) (T := TX4) (N := 6) hx hb hts inB_4 hown hE.1 hP 7 rfl rfl 5 (Nat.le_of_ble_eq_true rfl) (va_Nw.use rfl (hE.2 _ k_184)) (fun _ h9 => h9) rfl dX6_unit_48 ?_
          refine lv_bipush (v := 30) hx hb dX6_unit_51 rfl ?_
          refine lv_icmp_lt (tgt := 61) hx hb dX6_unit_53 rfl (fun c40 => ?_) (fun c40 => ?_)
          · skip
            refine lv_iload_n hx hb dX6_unit_61 rfl (lv_at hl 0 rfl) ?_
            refine lv_if_eq (tgt := 108) hx hb dX6_unit_62 rfl (fun _ => ?_) (fun c0 => absurd (by decide) c0)
            refine lv_iload_n hx hb dX6_unit_108 rfl (lv_at hl 3 rfl) ?_
            refine lv_bipush (v := 7) hx hb dX6_unit_109 rfl ?_
            refine lv_icmp_lt (tgt := 119) hx hb dX6_unit_111 rfl (fun c0 => absurd c0 (by decide)) (fun _ => ?_)
            refine lv_aload_n hx hb dX6_unit_114 rfl (lv_at hl 2 rfl) ?_
            refine cbVi (n := 0) (rest := []) hx hb hml hown hts hE hP hD hS hA (sX_X6_refuse_1 NF l dC dI cy x0 x  v f hIv ) k_691 k_693 k_6 k_103 k_694 hd_yX6_refuse ⟨Nat.le_of_ble_eq_true rfl, Nat.le_of_ble_eq_true rfl⟩ 3 6 rfl rfl (rfl) hl.1 rfl (Nat.le_of_ble_eq_true rfl) dX6_unit_115 (fun r41 u H locs hw hP hD hS => ?_)
            obtain ⟨hG42, hw⟩ := hw
            obtain ⟨v43, f44⟩ := u
            obtain ⟨kV_v43, kF_f44, hIv43, hk0_v43, hk1_v43, hk9_v43, hk10_v43, hk31_v43, hk32_v43, hw⟩ := hw
            have hM_v43 : KV [2, 3, 4, 5, 7, 8, 16, 17] v43 v := KV.tr kV_v43 hM_v rfl
            have hA_f44 : KF [3, 4] f44 f := KF.tr kF_f44 hA_f rfl
            have hP : va_P (dC, dI) vwCl (XW cy x0 x v43 f44) H := hP
            have hD : va_D A (XW cy x0 x v43 f44) := hD
            rcases hw with ⟨g45⟩ | ⟨g45⟩
            · skip
              subst g45
              exact ret 1 (v43, f44) _ _ _ _ _ _ rfl ⟨(gsX_X6_unit_8_q11 c1 c15 c33 c34 c40 hG42), hM_v43, hA_f44, hIv43, hk0_v43, hk1_v43, hk9_v43, hk10_v43, hk31_v43, hk32_v43, (Or.inl rfl)⟩ hP hD hS dX6_unit_118 (Nat.le_refl _) (Nat.le_refl _)
            · skip
              subst g45
              exact ret 0 (v43, f44) _ _ _ _ _ _ rfl ⟨(gsX_X6_unit_8_q12 c1 c15 c33 c34 c40 hG42), hM_v43, hA_f44, hIv43, hk0_v43, hk1_v43, hk9_v43, hk10_v43, hk31_v43, hk32_v43, (Or.inr rfl)⟩ hP hD hS dX6_unit_118 (Nat.le_refl _) (Nat.le_refl _)
          · skip
            refine lv_aload_n hx hb dX6_unit_56 rfl (lv_at hl 2 rfl) ?_
            refine cbVi (n := 0) (rest := []) hx hb hml hown hts hE hP hD hS hA (sX_X6_refuse_1 NF l dC dI cy x0 x  v f hIv ) k_691 k_693 k_6 k_103 k_694 hd_yX6_refuse ⟨Nat.le_of_ble_eq_true rfl, Nat.le_of_ble_eq_true rfl⟩ 3 6 rfl rfl (rfl) hl.1 rfl (Nat.le_of_ble_eq_true rfl) dX6_unit_57 (fun r46 u H locs hw hP hD hS => ?_)
            obtain ⟨hG47, hw⟩ := hw
            obtain ⟨v48, f49⟩ := u
            obtain ⟨kV_v48, kF_f49, hIv48, hk0_v48, hk1_v48, hk9_v48, hk10_v48, hk31_v48, hk32_v48, hw⟩ := hw
            have hM_v48 : KV [2, 3, 4, 5, 7, 8, 16, 17] v48 v := KV.tr kV_v48 hM_v rfl
            have hA_f49 : KF [3, 4] f49 f := KF.tr kF_f49 hA_f rfl
            have hP : va_P (dC, dI) vwCl (XW cy x0 x v48 f49) H := hP
            have hD : va_D A (XW cy x0 x v48 f49) := hD
            rcases hw with ⟨g50⟩ | ⟨g50⟩
            · skip
              subst g50
              exact ret 1 (v48, f49) _ _ _ _ _ _ rfl ⟨(gsX_X6_unit_8_q13 c1 c15 c33 c34 c40 hG47), hM_v48, hA_f49, hIv48, hk0_v48, hk1_v48, hk9_v48, hk10_v48, hk31_v48, hk32_v48, (Or.inl rfl)⟩ hP hD hS dX6_unit_60 (Nat.le_refl _) (Nat.le_refl _)
            · skip
              subst g50
              exact ret 0 (v48, f49) _ _ _ _ _ _ rfl ⟨(gsX_X6_unit_8_q14 c1 c15 c33 c34 c40 hG47), hM_v48, hA_f49, hIv48, hk0_v48, hk1_v48, hk9_v48, hk10_v48, hk31_v48, hk32_v48, (Or.inr rfl)⟩ hP hD hS dX6_unit_60 (Nat.le_refl _) (Nat.le_refl _)
      · skip
        refine lv_iconst (v := 1) hx hb dX6_unit_25 rfl ?_
        refine lv_goto (tgt := 30) hx hb dX6_unit_26 rfl ?_
        refine lv_istore_n (lv' := [(3, .int 1), (2, .int (v 2)), (0, .ref (x 2)), (1, .int 7)]) hx hb dX6_unit_30 rfl hl (Nat.le_of_ble_eq_true rfl) rfl (fun ls hl => ?_)
        refine lv_iload_n hx hb dX6_unit_31 rfl (lv_at hl 0 rfl) ?_
        refine lv_if_ne (tgt := 41) hx hb dX6_unit_32 rfl (fun _ => ?_) (fun c0 => absurd c0 (by decide))
        refine lv_aload_n hx hb dX6_unit_41 rfl (lv_at hl 2 rfl) ?_
        refine va_get (D := (dC, dI)) (ci := 6) (v := .ref (x 3)) (C := RX6) (T := TX6) (N := 7) hx hb hts inB_6 hown hE.1 hP 3 rfl rfl 1 (Nat.le_of_ble_eq_true rfl) (hts _ k_266) (fun _ h9 => h9) rfl dX6_unit_42 ?_
        refine va_getN (D := (dC, dI)) (ci := 7) (v := .ref (x 6)) (C := RX7) (T := TX7) (N := 10) hx hb hts inB_7 hown hE.1 hP 4 rfl rfl 2 (Nat.le_of_ble_eq_true rfl) (va_Nw.use rfl (hE.2 _ k_210)) (fun _ h9 => h9) rfl dX6_unit_45 ?_
        refine va_getN (D := (dC, dI)) (ci := 4) (v := .int (v 17)) (C := RX4) (T := TX4) (N := 6) hx hb hts inB_4 hown hE.1 hP 7 rfl rfl 5 (Nat.le_of_ble_eq_true rfl) (va_Nw.use rfl (hE.2 _ k_184)) (fun _ h9 => h9) rfl dX6_unit_48 ?_
        refine lv_bipush (v := 30) hx hb dX6_unit_51 rfl ?_
        refine lv_icmp_lt (tgt := 61) hx hb dX6_unit_53 rfl (fun c51 => ?_) (fun c51 => ?_)
        · skip
          refine lv_iload_n hx hb dX6_unit_61 rfl (lv_at hl 0 rfl) ?_
          refine lv_if_eq (tgt := 108) hx hb dX6_unit_62 rfl (fun c0 => absurd c0 (by decide)) (fun _ => ?_)
          refine lv_aload_n hx hb dX6_unit_65 rfl (lv_at hl 2 rfl) ?_
          refine va_get (D := (dC, dI)) (ci := 6) (v := .ref (x 3)) (C := RX6) (T := TX6) (N := 7) hx hb hts inB_6 hown hE.1 hP 3 rfl rfl 1 (Nat.le_of_ble_eq_true rfl) (hts _ k_266) (fun _ h9 => h9) rfl dX6_unit_66 ?_
          refine va_getN (D := (dC, dI)) (ci := 7) (v := .ref (x 6)) (C := RX7) (T := TX7) (N := 10) hx hb hts inB_7 hown hE.1 hP 4 rfl rfl 2 (Nat.le_of_ble_eq_true rfl) (va_Nw.use rfl (hE.2 _ k_210)) (fun _ h9 => h9) rfl dX6_unit_69 ?_
          refine lv_iload_n hx hb dX6_unit_72 rfl (lv_at hl 1 rfl) ?_
          refine lv_aload_n hx hb dX6_unit_73 rfl (lv_at hl 2 rfl) ?_
          refine va_get (D := (dC, dI)) (ci := 6) (v := .ref (x 0)) (C := RX6) (T := TX6) (N := 7) hx hb hts inB_6 hown hE.1 hP 3 rfl rfl 0 (Nat.le_of_ble_eq_true rfl) (hts _ k_265) (fun _ h9 => h9) rfl dX6_unit_74 ?_
          refine va_getN (D := (dC, dI)) (ci := 9) (v := .int (v 5)) (C := RX9) (T := TX9) (N := 6) hx hb hts inB_9 hown hE.1 hP 1 rfl rfl 5 (Nat.le_of_ble_eq_true rfl) (va_Nw.use rfl (hE.2 _ k_145)) (fun _ h9 => h9) rfl dX6_unit_77 ?_
          refine cbVv (n := 2) (rest := []) hx hb hml hown hts hE hP hD hS hA (sX_X4_add_1 NF l dC dI cy x0 x (v 2) (v 5) v f hIv ) k_748 k_749 k_750 k_105 k_751 hd_yX4_add ⟨Nat.le_of_ble_eq_true rfl, Nat.le_of_ble_eq_true rfl⟩ 7 4 rfl rfl (rfl) hl.1 rfl (Nat.le_of_ble_eq_true rfl) dX6_unit_80 (fun u H locs hw hP hD hS => ?_)
          obtain ⟨hG52, hw⟩ := hw
          obtain ⟨v53, f54⟩ := u
          obtain ⟨kV_v53, kF_f54, hIv53, hk0_v53, hk1_v53, hk7_v53, hk8_v53, hk9_v53, hk10_v53, hk31_v53, hk32_v53⟩ := hw
          have hM_v53 : KV [2, 3, 4, 5, 7, 8, 16, 17] v53 v := KV.tr kV_v53 hM_v rfl
          have hA_f54 : KF [3, 4] f54 f := KF.tr kF_f54 hA_f rfl
          have hP : va_P (dC, dI) vwCl (XW cy x0 x v53 f54) H := hP
          have hD : va_D A (XW cy x0 x v53 f54) := hD
          refine lv_aload_n hx hb dX6_unit_83 rfl (lv_at hl 2 rfl) ?_
          refine va_get (D := (dC, dI)) (ci := 6) (v := .ref (x 3)) (C := RX6) (T := TX6) (N := 7) hx hb hts inB_6 hown hE.1 hP 3 rfl rfl 1 (Nat.le_of_ble_eq_true rfl) (hts _ k_266) (fun _ h9 => h9) rfl dX6_unit_84 ?_
          refine va_getN (D := (dC, dI)) (ci := 7) (v := .ref (x 6)) (C := RX7) (T := TX7) (N := 10) hx hb hts inB_7 hown hE.1 hP 4 rfl rfl 2 (Nat.le_of_ble_eq_true rfl) (va_Nw.use rfl (hE.2 _ k_210)) (fun _ h9 => h9) rfl dX6_unit_87 ?_
          refine lv_dup hx hb dX6_unit_90 rfl ?_
          refine va_getN (D := (dC, dI)) (ci := 4) (v := .int (v53 17)) (C := RX4) (T := TX4) (N := 6) hx hb hts inB_4 hown hE.1 hP 7 rfl rfl 5 (Nat.le_of_ble_eq_true rfl) (va_Nw.use rfl (hE.2 _ k_184)) (fun _ h9 => h9) rfl dX6_unit_91 ?_
          refine lv_iconst (v := 1) hx hb dX6_unit_94 rfl ?_
          refine lv_iadd hx hb dX6_unit_95 ?_
          refine lv_topi (fun t55 et55 => ?_)
          refine va_putN (D := (dC, dI)) (ci := 4) (v := .int t55) (ty := tyX4 5) (C := RX4) (T := TX4) (N := 6) hx hb hts inB_4 tyX4 tyX4_ok nmX4 hown hE.1 hP hD hS 7 rfl rfl 5 (by decide) (va_Nw.use rfl (hE.2 _ k_184)) (fun _ h9 => h9) rfl (tyX4_ok 5 (Nat.le_of_ble_eq_true rfl)) rfl rfl (Nat.le_of_ble_eq_true rfl) dX6_unit_96 (fun H locs hP hD hS => ?_)
          have hP : va_P (dC, dI) vwCl (XW cy x0 x (upd v53 17 t55) f54) H := hP
          have hD : va_D A (XW cy x0 x (upd v53 17 t55) f54) := hD
          refine lv_aload_n hx hb dX6_unit_99 rfl (lv_at hl 2 rfl) ?_
          refine va_get (D := (dC, dI)) (ci := 6) (v := .ref (x 0)) (C := RX6) (T := TX6) (N := 7) hx hb hts inB_6 hown hE.1 hP 3 rfl rfl 0 (Nat.le_of_ble_eq_true rfl) (hts _ k_265) (fun _ h9 => h9) rfl dX6_unit_100 ?_
          refine csVv (n := 0) (rest := []) hx hb hml hown hts hE hP hD hS hA hF hT (sX_X9_advance_1 NF l dC dI cy x0 x  (upd v53 17 t55) f54 (Xu_17 (x := t55) hIv53 (rlo _) (rhi _)) ) k_699 k_559 k_560 k_102 k_561 hd_yX9_advance ⟨Nat.le_of_ble_eq_true rfl, Nat.le_of_ble_eq_true rfl⟩ 1 9 rfl rfl (rfl) hl.1 rfl (Nat.le_of_ble_eq_true rfl) dX6_unit_103 (fun u H locs hw hP hD hS => ?_)
          obtain ⟨hG56, hw⟩ := hw
          obtain ⟨v57, f58⟩ := u
          obtain ⟨kV_v57, kF_f58, hIv57, hk0_v57, hk1_v57, hk7_v57, hk8_v57, hk9_v57, hk10_v57, hk31_v57, hk32_v57⟩ := hw
          have hM_v57 : KV [2, 3, 4, 5, 7, 8, 16, 17] v57 v := KV.tr kV_v57 (KV.up (j := 17) (x := t55) hM_v53 rfl) rfl
          have hA_f58 : KF [3, 4] f58 f := KF.tr kF_f58 hA_f54 rfl
          have hP : va_P (dC, dI) vwCl (XW cy x0 x v57 f58) H := hP
          have hD : va_D A (XW cy x0 x v57 f58) := hD
          refine lv_iconst (v := 1) hx hb dX6_unit_106 rfl ?_
          exact ret 1 (v57, f58) _ _ _ _ _ _ rfl ⟨(gsX_X6_unit_8_q15 c1 c15 c33 c51 hG52 et55 hG56), hM_v57, hA_f58, hIv57, (hk0_v57.trans hk0_v53), (hk1_v57.trans hk1_v53), (hk9_v57.trans hk9_v53), (hk10_v57.trans hk10_v53), (hk31_v57.trans hk31_v53), (hk32_v57.trans hk32_v53), (Or.inl rfl)⟩ hP hD hS dX6_unit_107 (Nat.le_refl _) (Nat.le_refl _)
        · skip
          refine lv_aload_n hx hb dX6_unit_56 rfl (lv_at hl 2 rfl) ?_
          refine cbVi (n := 0) (rest := []) hx hb hml hown hts hE hP hD hS hA (sX_X6_refuse_1 NF l dC dI cy x0 x  v f hIv ) k_691 k_693 k_6 k_103 k_694 hd_yX6_refuse ⟨Nat.le_of_ble_eq_true rfl, Nat.le_of_ble_eq_true rfl⟩ 3 6 rfl rfl (rfl) hl.1 rfl (Nat.le_of_ble_eq_true rfl) dX6_unit_57 (fun r59 u H locs hw hP hD hS => ?_)
          obtain ⟨hG60, hw⟩ := hw
          obtain ⟨v61, f62⟩ := u
          obtain ⟨kV_v61, kF_f62, hIv61, hk0_v61, hk1_v61, hk9_v61, hk10_v61, hk31_v61, hk32_v61, hw⟩ := hw
          have hM_v61 : KV [2, 3, 4, 5, 7, 8, 16, 17] v61 v := KV.tr kV_v61 hM_v rfl
          have hA_f62 : KF [3, 4] f62 f := KF.tr kF_f62 hA_f rfl
          have hP : va_P (dC, dI) vwCl (XW cy x0 x v61 f62) H := hP
          have hD : va_D A (XW cy x0 x v61 f62) := hD
          rcases hw with ⟨g63⟩ | ⟨g63⟩
          · skip
            subst g63
            exact ret 1 (v61, f62) _ _ _ _ _ _ rfl ⟨(gsX_X6_unit_8_q16 c1 c15 c33 c51 hG60), hM_v61, hA_f62, hIv61, hk0_v61, hk1_v61, hk9_v61, hk10_v61, hk31_v61, hk32_v61, (Or.inl rfl)⟩ hP hD hS dX6_unit_60 (Nat.le_refl _) (Nat.le_refl _)
          · skip
            subst g63
            exact ret 0 (v61, f62) _ _ _ _ _ _ rfl ⟨(gsX_X6_unit_8_q17 c1 c15 c33 c51 hG60), hM_v61, hA_f62, hIv61, hk0_v61, hk1_v61, hk9_v61, hk10_v61, hk31_v61, hk32_v61, (Or.inr rfl)⟩ hP hD hS dX6_unit_60 (Nat.le_refl _) (Nat.le_refl _)
set_option maxHeartbeats 4000000 in
set_option maxRecDepth 100000 in
theorem sX_X6_expression_48 (NF : Nat) (l : Launch) (dC : Nat → ClassId) (dI : Nat → Nat → Nat) (cy : Nat → ClassId) (x0 : Nat) (x : Nat → Nat)  (v : Nat → Int32) (f : Nat → Nat → Int32) (hIv : XI v)  : ctIS l (dC, dI) cy yX6_expression cX6_expression 6 .boolean 8 214 0 0 ((Nat → Int32) × (Nat → Nat → Int32)) [.ref (x 2), .int 5, .int 7] (XW cy x0 x v f) (fun r u => gsX_X6_expression_48 NF v f = (r, u) ∧ KV [2, 3, 4, 5, 7, 8, 16, 17] u.1 v ∧ KF [3, 4] u.2 f ∧ XI u.1 ∧ u.1 0 = v 0 ∧ u.1 1 = v 1 ∧ u.1 9 = v 9 ∧ u.1 10 = v 10 ∧ u.1 31 = v 31 ∧ u.1 32 = v 32 ∧ ((r = 1) ∨ (r = 0))) (fun u => XW cy x0 x u.1 u.2) := by
  refine ctIS_of (by decide) (Nat.le_of_ble_eq_true rfl) (fun p e s m below meth c A ls Q hx hb hml hts hown hE hF hT hP hD hA hl ret => ?_)
  have hM_v : KV [2, 3, 4, 5, 7, 8, 16, 17] v v := fun _ _ => rfl
  have hA_f : KF [3, 4] f f := fun _ _ => rfl
  have hown : s.vm.findClass RX6 = some m.cls := hown
  have hS : va_S A s.heap s.heap [] := va_S.rf
  have hl : lv_has ls 6 [(0, .ref (x 2)), (1, .int 5), (2, .int 7)] := hl
  refine lv_iload_n hx hb dX6_expression_0 rfl (lv_at hl 1 rfl) ?_
  refine lv_iconst (v := 5) hx hb dX6_expression_1 rfl ?_
  refine lv_icmp_lt (tgt := 11) hx hb dX6_expression_2 rfl (fun c0 => absurd c0 (by decide)) (fun _ => ?_)
  refine lv_aload_n hx hb dX6_expression_5 rfl (lv_at hl 0 rfl) ?_
  refine lv_iload_n hx hb dX6_expression_6 rfl (lv_at hl 2 rfl) ?_
  refine csVi (n := 1) (rest := []) hx hb hml hown hts hE hP hD hS hA hF hT (sX_X6_unit_8 NF l dC dI cy x0 x  v f hIv ) k_744 k_746 k_16 k_103 k_747 hd_yX6_unit ⟨Nat.le_of_ble_eq_true rfl, Nat.le_of_ble_eq_true rfl⟩ 3 6 rfl rfl (rfl) hl.1 rfl (Nat.le_of_ble_eq_true rfl) dX6_expression_7 (fun r1 u H locs hw hP hD hS => ?_)
  obtain ⟨hG2, hw⟩ := hw
  obtain ⟨v3, f4⟩ := u
  obtain ⟨kV_v3, kF_f4, hIv3, hk0_v3, hk1_v3, hk9_v3, hk10_v3, hk31_v3, hk32_v3, hw⟩ := hw
  have hM_v3 : KV [2, 3, 4, 5, 7, 8, 16, 17] v3 v := KV.tr kV_v3 hM_v rfl
  have hA_f4 : KF [3, 4] f4 f := KF.tr kF_f4 hA_f rfl
  have hP : va_P (dC, dI) vwCl (XW cy x0 x v3 f4) H := hP
  have hD : va_D A (XW cy x0 x v3 f4) := hD
  have hq0_v3 : v3 0 = (v 0) := hk0_v3
  have hq1_v3 : v3 1 = (v 1) := hk1_v3
  have hq9_v3 : v3 9 = (v 9) := hk9_v3
  have hq10_v3 : v3 10 = (v 10) := hk10_v3
  have hq31_v3 : v3 31 = (v 31) := hk31_v3
  have hq32_v3 : v3 32 = (v 32) := hk32_v3
  rcases hw with ⟨g5⟩ | ⟨g5⟩
  · skip
    subst g5
    exact ret 1 (v3, f4) _ _ _ _ _ _ rfl ⟨(gsX_X6_expression_48_q0 hG2), hM_v3, hA_f4, hIv3, hk0_v3, hk1_v3, hk9_v3, hk10_v3, hk31_v3, hk32_v3, (Or.inl rfl)⟩ hP hD hS dX6_expression_10 (Nat.le_refl _) (Nat.le_refl _)
  · skip
    subst g5
    exact ret 0 (v3, f4) _ _ _ _ _ _ rfl ⟨(gsX_X6_expression_48_q1 hG2), hM_v3, hA_f4, hIv3, hk0_v3, hk1_v3, hk9_v3, hk10_v3, hk31_v3, hk32_v3, (Or.inr rfl)⟩ hP hD hS dX6_expression_10 (Nat.le_refl _) (Nat.le_refl _)
set_option maxHeartbeats 4000000 in
set_option maxRecDepth 100000 in
theorem sX_X6_joins_1 (NF : Nat) (l : Launch) (dC : Nat → ClassId) (dI : Nat → Nat → Nat) (cy : Nat → ClassId) (x0 : Nat) (x : Nat → Nat) (p0 : Int32) (p1 : Int32) (v : Nat → Int32) (f : Nat → Nat → Int32) (hIv : XI v)  : ctI l (dC, dI) cy yX6_joins cX6_joins 2 .boolean 1 60 0 0 Unit [.int p0, .int p1] (XW cy x0 x v f) (fun r u => gsX_X6_joins_1 NF p0 p1 v f = r ∧ ((r = 1) ∨ (r = 0))) (fun u => XW cy x0 x v f) := by
  refine ctI_of (by decide) (Nat.le_of_ble_eq_true rfl) (fun p e s m below meth c A ls Q hx hb hml hts hown hE hP hD hA hl ret => ?_)
  have hown : s.vm.findClass RX6 = some m.cls := hown
  have hS : va_S A s.heap s.heap [] := va_S.rf
  have hl : lv_has ls 2 [(0, .int p0), (1, .int p1)] := hl
  refine lv_iload_n hx hb dX6_joins_0 rfl (lv_at hl 0 rfl) ?_
  by_cases c1 : p0 = 0
  · skip
    refine lv_tableIn (off := 35) (tgt := 36) hx hb dX6_joins_1 (by rw [c1]; decide) (by rw [c1]; decide) (by rw [c1]; decide) (by decide) ?_
    refine lv_iload_n hx hb dX6_joins_36 rfl (lv_at hl 1 rfl) ?_
    refine lv_bipush (v := 113) hx hb dX6_joins_37 rfl ?_
    refine lv_icmp_ne (tgt := 46) hx hb dX6_joins_39 rfl (fun c2 => ?_) (fun c2 => ?_)
    · skip
      refine lv_iconst (v := 0) hx hb dX6_joins_46 rfl ?_
      exact ret 0 () _ _ _ _ _ _ rfl ⟨(gsX_X6_joins_1_q0 c1 c2), (Or.inr rfl)⟩ hP hD hS dX6_joins_47 (Nat.le_refl _) (Nat.le_refl _)
    · skip
      refine lv_iconst (v := 1) hx hb dX6_joins_42 rfl ?_
      refine lv_goto (tgt := 47) hx hb dX6_joins_43 rfl ?_
      exact ret 1 () _ _ _ _ _ _ rfl ⟨(gsX_X6_joins_1_q1 c1 c2), (Or.inl rfl)⟩ hP hD hS dX6_joins_47 (Nat.le_refl _) (Nat.le_refl _)
  · skip
    have zc1 : ¬ (p0.toInt = 0) := zEn rfl tc_0 c1
    by_cases c3 : p0 = 1
    · skip
      refine lv_tableIn (off := 47) (tgt := 48) hx hb dX6_joins_1 (by rw [c3]; decide) (by rw [c3]; decide) (by rw [c3]; decide) (by decide) ?_
      refine lv_iload_n hx hb dX6_joins_48 rfl (lv_at hl 1 rfl) ?_
      refine lv_bipush (v := 114) hx hb dX6_joins_49 rfl ?_
      refine lv_icmp_ne (tgt := 58) hx hb dX6_joins_51 rfl (fun c4 => ?_) (fun c4 => ?_)
      · skip
        refine lv_iconst (v := 0) hx hb dX6_joins_58 rfl ?_
        exact ret 0 () _ _ _ _ _ _ rfl ⟨(gsX_X6_joins_1_q2 c1 c3 c4), (Or.inr rfl)⟩ hP hD hS dX6_joins_59 (Nat.le_refl _) (Nat.le_refl _)
      · skip
        refine lv_iconst (v := 1) hx hb dX6_joins_54 rfl ?_
        refine lv_goto (tgt := 59) hx hb dX6_joins_55 rfl ?_
        exact ret 1 () _ _ _ _ _ _ rfl ⟨(gsX_X6_joins_1_q3 c1 c3 c4), (Or.inl rfl)⟩ hP hD hS dX6_joins_59 (Nat.le_refl _) (Nat.le_refl _)
    · skip
      have zc3 : ¬ (p0.toInt = 1) := zEn rfl tc_1 c3
      by_cases c5 : p0 = 2
      · skip
        refine lv_tableIn (off := 59) (tgt := 60) hx hb dX6_joins_1 (by rw [c5]; decide) (by rw [c5]; decide) (by rw [c5]; decide) (by decide) ?_
        refine lv_iload_n hx hb dX6_joins_60 rfl (lv_at hl 1 rfl) ?_
        refine lv_bipush (v := 60) hx hb dX6_joins_61 rfl ?_
        refine lv_icmp_eq (tgt := 78) hx hb dX6_joins_63 rfl (fun c6 => ?_) (fun c6 => ?_)
        · skip
          refine lv_iconst (v := 1) hx hb dX6_joins_78 rfl ?_
          refine lv_goto (tgt := 83) hx hb dX6_joins_79 rfl ?_
          exact ret 1 () _ _ _ _ _ _ rfl ⟨(gsX_X6_joins_1_q4 c1 c3 c5 c6), (Or.inl rfl)⟩ hP hD hS dX6_joins_83 (Nat.le_refl _) (Nat.le_refl _)
        · skip
          refine lv_iload_n hx hb dX6_joins_66 rfl (lv_at hl 1 rfl) ?_
          refine lv_bipush (v := 62) hx hb dX6_joins_67 rfl ?_
          refine lv_icmp_eq (tgt := 78) hx hb dX6_joins_69 rfl (fun c7 => ?_) (fun c7 => ?_)
          · skip
            refine lv_iconst (v := 1) hx hb dX6_joins_78 rfl ?_
            refine lv_goto (tgt := 83) hx hb dX6_joins_79 rfl ?_
            exact ret 1 () _ _ _ _ _ _ rfl ⟨(gsX_X6_joins_1_q5 c1 c3 c5 c6 c7), (Or.inl rfl)⟩ hP hD hS dX6_joins_83 (Nat.le_refl _) (Nat.le_refl _)
          · skip
            refine lv_iload_n hx hb dX6_joins_72 rfl (lv_at hl 1 rfl) ?_
            refine lv_bipush (v := 61) hx hb dX6_joins_73 rfl ?_
            refine lv_icmp_ne (tgt := 82) hx hb dX6_joins_75 rfl (fun c8 => ?_) (fun c8 => ?_)
            · skip
              refine lv_iconst (v := 0) hx hb dX6_joins_82 rfl ?_
              exact ret 0 () _ _ _ _ _ _ rfl ⟨(gsX_X6_joins_1_q6 c1 c3 c5 c6 c7 c8), (Or.inr rfl)⟩ hP hD hS dX6_joins_83 (Nat.le_refl _) (Nat.le_refl _)
            · skip
              refine lv_iconst (v := 1) hx hb dX6_joins_78 rfl ?_
              refine lv_goto (tgt := 83) hx hb dX6_joins_79 rfl ?_
              exact ret 1 () _ _ _ _ _ _ rfl ⟨(gsX_X6_joins_1_q7 c1 c3 c5 c6 c7 c8), (Or.inl rfl)⟩ hP hD hS dX6_joins_83 (Nat.le_refl _) (Nat.le_refl _)
      · skip
        have zc5 : ¬ (p0.toInt = 2) := zEn rfl tc_2 c5
        by_cases c9 : p0 = 3
        · skip
          refine lv_tableIn (off := 83) (tgt := 84) hx hb dX6_joins_1 (by rw [c9]; decide) (by rw [c9]; decide) (by rw [c9]; decide) (by decide) ?_
          refine lv_iload_n hx hb dX6_joins_84 rfl (lv_at hl 1 rfl) ?_
          refine lv_bipush (v := 43) hx hb dX6_joins_85 rfl ?_
          refine lv_icmp_eq (tgt := 96) hx hb dX6_joins_87 rfl (fun c10 => ?_) (fun c10 => ?_)
          · skip
            refine lv_iconst (v := 1) hx hb dX6_joins_96 rfl ?_
            refine lv_goto (tgt := 101) hx hb dX6_joins_97 rfl ?_
            exact ret 1 () _ _ _ _ _ _ rfl ⟨(gsX_X6_joins_1_q8 c1 c3 c5 c9 c10), (Or.inl rfl)⟩ hP hD hS dX6_joins_101 (Nat.le_refl _) (Nat.le_refl _)
          · skip
            refine lv_iload_n hx hb dX6_joins_90 rfl (lv_at hl 1 rfl) ?_
            refine lv_bipush (v := 45) hx hb dX6_joins_91 rfl ?_
            refine lv_icmp_ne (tgt := 100) hx hb dX6_joins_93 rfl (fun c11 => ?_) (fun c11 => ?_)
            · skip
              refine lv_iconst (v := 0) hx hb dX6_joins_100 rfl ?_
              exact ret 0 () _ _ _ _ _ _ rfl ⟨(gsX_X6_joins_1_q9 c1 c3 c5 c9 c10 c11), (Or.inr rfl)⟩ hP hD hS dX6_joins_101 (Nat.le_refl _) (Nat.le_refl _)
            · skip
              refine lv_iconst (v := 1) hx hb dX6_joins_96 rfl ?_
              refine lv_goto (tgt := 101) hx hb dX6_joins_97 rfl ?_
              exact ret 1 () _ _ _ _ _ _ rfl ⟨(gsX_X6_joins_1_q10 c1 c3 c5 c9 c10 c11), (Or.inl rfl)⟩ hP hD hS dX6_joins_101 (Nat.le_refl _) (Nat.le_refl _)
        · skip
          have zc9 : ¬ (p0.toInt = 3) := zEn rfl tc_3 c9
          by_cases c12 : p0 = 4
          · skip
            refine lv_tableIn (off := 101) (tgt := 102) hx hb dX6_joins_1 (by rw [c12]; decide) (by rw [c12]; decide) (by rw [c12]; decide) (by decide) ?_
            refine lv_iload_n hx hb dX6_joins_102 rfl (lv_at hl 1 rfl) ?_
            refine lv_bipush (v := 42) hx hb dX6_joins_103 rfl ?_
            refine lv_icmp_eq (tgt := 120) hx hb dX6_joins_105 rfl (fun c13 => ?_) (fun c13 => ?_)
            · skip
              refine lv_iconst (v := 1) hx hb dX6_joins_120 rfl ?_
              refine lv_goto (tgt := 125) hx hb dX6_joins_121 rfl ?_
              exact ret 1 () _ _ _ _ _ _ rfl ⟨(gsX_X6_joins_1_q11 c1 c3 c5 c9 c12 c13), (Or.inl rfl)⟩ hP hD hS dX6_joins_125 (Nat.le_refl _) (Nat.le_refl _)
            · skip
              refine lv_iload_n hx hb dX6_joins_108 rfl (lv_at hl 1 rfl) ?_
              refine lv_bipush (v := 47) hx hb dX6_joins_109 rfl ?_
              refine lv_icmp_eq (tgt := 120) hx hb dX6_joins_111 rfl (fun c14 => ?_) (fun c14 => ?_)
              · skip
                refine lv_iconst (v := 1) hx hb dX6_joins_120 rfl ?_
                refine lv_goto (tgt := 125) hx hb dX6_joins_121 rfl ?_
                exact ret 1 () _ _ _ _ _ _ rfl ⟨(gsX_X6_joins_1_q12 c1 c3 c5 c9 c12 c13 c14), (Or.inl rfl)⟩ hP hD hS dX6_joins_125 (Nat.le_refl _) (Nat.le_refl _)
              · skip
                refine lv_iload_n hx hb dX6_joins_114 rfl (lv_at hl 1 rfl) ?_
                refine lv_bipush (v := 37) hx hb dX6_joins_115 rfl ?_
                refine lv_icmp_ne (tgt := 124) hx hb dX6_joins_117 rfl (fun c15 => ?_) (fun c15 => ?_)
                · skip
                  refine lv_iconst (v := 0) hx hb dX6_joins_124 rfl ?_
                  exact ret 0 () _ _ _ _ _ _ rfl ⟨(gsX_X6_joins_1_q13 c1 c3 c5 c9 c12 c13 c14 c15), (Or.inr rfl)⟩ hP hD hS dX6_joins_125 (Nat.le_refl _) (Nat.le_refl _)
                · skip
                  refine lv_iconst (v := 1) hx hb dX6_joins_120 rfl ?_
                  refine lv_goto (tgt := 125) hx hb dX6_joins_121 rfl ?_
                  exact ret 1 () _ _ _ _ _ _ rfl ⟨(gsX_X6_joins_1_q14 c1 c3 c5 c9 c12 c13 c14 c15), (Or.inl rfl)⟩ hP hD hS dX6_joins_125 (Nat.le_refl _) (Nat.le_refl _)
          · skip
            have zc12 : ¬ (p0.toInt = 4) := zEn rfl tc_4 c12
            refine lv_tableOut (tgt := 126) hx hb dX6_joins_1 (by omega) (by decide) ?_
            refine lv_iconst (v := 0) hx hb dX6_joins_126 rfl ?_
            exact ret 0 () _ _ _ _ _ _ rfl ⟨(gsX_X6_joins_1_q15 c1 c3 c5 c9 c12), (Or.inr rfl)⟩ hP hD hS dX6_joins_127 (Nat.le_refl _) (Nat.le_refl _)
