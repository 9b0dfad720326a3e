set_option maxHeartbeats 4000000 in
set_option maxRecDepth 100000 in
theorem sX_X9_hasRoom_1 (NF : Nat) (l : Launch) (dC : Nat → ClassId) (dI : Nat → Nat → Nat) (cy : Nat → ClassId) (x0 : Nat) (x : Nat → Nat)  (v : Nat → Int32) (f : Nat → Nat → Int32) (hIv : XI v)  : ctI l (dC, dI) cy yX9_hasRoom cX9_hasRoom 1 .boolean 1 60 0 0 Unit [.ref (x 0)] (XW cy x0 x v f) (fun r u => gsX_X9_hasRoom_1 NF v f = r ∧ ((r = 1) ∨ (r = 0))) (fun u => XW cy x0 x v f) := by
  refine ctI_of (by decide) (Nat.le_of_ble_eq_true rfl) (fun p e s m below meth c A ls Q hx hb hml hts hown hE hP hD hA hl ret => ?_)
  have hown : s.vm.findClass RX9 = some m.cls := hown
  have hS : va_S A s.heap s.heap [] := va_S.rf
  have hl : lv_has ls 1 [(0, .ref (x 0))] := hl
  refine lv_aload_n hx hb dX9_hasRoom_0 rfl (lv_at hl 0 rfl) ?_
  refine va_get (D := (dC, dI)) (ci := 9) (v := .int (v 1)) (C := RX9) (T := TX9) (N := 6) hx hb hts inB_9 hown hE.1 hP 1 rfl rfl 1 (by decide) (hts _ k_137) (fun _ h9 => h9) rfl dX9_hasRoom_1 ?_
  have b1_v : 0 ≤ (v 1).toInt ∧ (v 1).toInt ≤ 1600 := XI.b hIv 1 (by decide)
  refine lv_bipush (v := 20) hx hb dX9_hasRoom_4 (by decide) ?_
  refine lv_iadd hx hb dX9_hasRoom_6 ?_
  refine lv_topi (fun t1 et1 => ?_)
  have rg2 := fb_rng (v 1)
  have zt1 : t1.toInt = (v 1).toInt + 20 := by rw [et1]; exact add_i rfl (by decide) (by omega) (by omega)
  refine lv_sipush (v := 1600) hx hb dX9_hasRoom_7 (by decide) ?_
  refine lv_icmp_gt (tgt := 17) hx hb dX9_hasRoom_10 (by decide) (fun c3 => ?_) (fun c3 => ?_)
  · skip
    have zc3 : 1600 < t1.toInt := by rw [fa_lt, show (1600 : Int32).toInt = 1600 from by decide] at c3; exact c3
    refine lv_iconst (v := 0) hx hb dX9_hasRoom_17 (by decide) ?_
    exact ret 0 () _ _ _ _ _ _ rfl ⟨(gsX_X9_hasRoom_1_q0 et1 c3), (Or.inr rfl)⟩ hP hD hS dX9_hasRoom_18 (Nat.le_refl _) (Nat.le_refl _)
  · skip
    have zc3 : ¬ (1600 < t1.toInt) := by rw [fa_lt, show (1600 : Int32).toInt = 1600 from by decide] at c3; exact c3
    refine lv_iconst (v := 1) hx hb dX9_hasRoom_13 (by decide) ?_
    refine lv_goto (tgt := 18) hx hb dX9_hasRoom_14 (by decide) ?_
    exact ret 1 () _ _ _ _ _ _ rfl ⟨(gsX_X9_hasRoom_1_q1 et1 c3), (Or.inl rfl)⟩ hP hD hS dX9_hasRoom_18 (Nat.le_refl _) (Nat.le_refl _)
set_option maxHeartbeats 4000000 in
set_option maxRecDepth 100000 in
theorem sX_X9_append_1 (NF : Nat) (l : Launch) (dC : Nat → ClassId) (dI : Nat → Nat → Nat) (cy : Nat → ClassId) (x0 : Nat) (x : Nat → Nat) (p1 : Int32) (v : Nat → Int32) (f : Nat → Nat → Int32) (hIv : XI v)  : ctV l (dC, dI) cy yX9_append cX9_append 3 1 60 0 0 ((Nat → Int32) × (Nat → Nat → Int32)) [.ref (x 0), .int p1] (XW cy x0 x v f) (fun u => gsX_X9_append_1 NF p1 v f = u ∧ KV [1] u.1 v ∧ KF [0] u.2 f ∧ XI u.1 ∧ u.1 0 = v 0 ∧ u.1 7 = v 7 ∧ u.1 8 = v 8 ∧ u.1 9 = v 9 ∧ u.1 10 = v 10 ∧ u.1 31 = v 31 ∧ u.1 32 = v 32) (fun u => XW cy x0 x u.1 u.2) := by
  refine ctV_of (by decide) (Nat.le_of_ble_eq_true rfl) (fun p e s m below meth c A ls Q hx hb hml hts hown hnm hE hP hD hA hl ret => ?_)
  have hM_v : KV [1] v v := fun _ _ => rfl
  have hA_f : KF [0] f f := fun _ _ => rfl
  have hown : s.vm.findClass RX9 = some m.cls := hown
  have hS : va_S A s.heap s.heap [] := va_S.rf
  have hl : lv_has ls 3 [(0, .ref (x 0)), (1, .int p1)] := hl
  refine lv_bipush (v := 24) hx hb dX9_append_0 (by decide) ?_
  refine lv_istore_n (lv' := [(2, .int 24), (0, .ref (x 0)), (1, .int p1)]) hx hb dX9_append_2 rfl hl (by decide) rfl (fun ls hl => ?_)
  have lp1 : ∀ (n1 : Nat) (l2_1 : Int32) (v1 : Nat → Int32) (f1 : Nat → Nat → Int32), XI v1 → v1 0 = (v 0) → v1 7 = (v 7) → v1 8 = (v 8) → v1 9 = (v 9) → v1 10 = (v 10) → v1 31 = (v 31) → v1 32 = (v 32) → gsX_X9_append_1_L1 NF p1 n1 l2_1 v1 f1 = (gsX_X9_append_1 NF p1 v f) → ((-2147483648 : Int) ≤ l2_1.toInt ∧ l2_1.toInt ≤ 24) → KV [1] v1 v → KF [0] f1 f → (l2_1.toInt + 2147483648).toNat < n1 → ∀ (H : Heap) (locs : List Loc) (ls : Array Slot), va_P (dC, dI) vwCl (XW cy x0 x v1 f1) H → va_D A (XW cy x0 x v1 f1) → va_S A s.heap H locs → lv_has ls 3 [(2, .int l2_1), (0, .ref (x 0)), (1, .int p1)] → W p l e { frames := 1, cells := 0, slots := 0, locals := 60 } s m ([.ref (x 0), .int p1] : List Value).toArray below meth c H locs 0 0 Q (F0 m 3 ls []) := by
    intro n1
    induction n1 with
    | zero => intro l2_1 v1 f1 hIv1 hq0_v1 hq7_v1 hq8_v1 hq9_v1 hq10_v1 hq31_v1 hq32_v1 hT1 hr2_1 hM_v1 hA_f1 hm; exact absurd hm (Nat.not_lt_zero _)
    | succ n1 ih1 =>
      intro l2_1 v1 f1 hIv1 hq0_v1 hq7_v1 hq8_v1 hq9_v1 hq10_v1 hq31_v1 hq32_v1 hT1 hr2_1 hM_v1 hA_f1 hm1 H locs ls hP hD hS hl
      refine lv_iload_n hx hb dX9_append_3 rfl (lv_at hl 0 rfl) ?_
      refine lv_if_lt (tgt := 46) hx hb dX9_append_4 (by decide) (fun c2 => ?_) (fun c2 => ?_)
      · skip
        have zc2 : l2_1.toInt < 0 := by rw [fa_lt, show (0 : Int32).toInt = 0 from by decide] at c2; exact c2
        exact ret (v1, f1) _ _ _ _ _ _ ⟨(hT1.symm.trans (gsX_X9_append_1_q0 c2)), hM_v1, hA_f1, hIv1, (show v1 0 = v 0 from hq0_v1), (show v1 7 = v 7 from hq7_v1), (show v1 8 = v 8 from hq8_v1), (show v1 9 = v 9 from hq9_v1), (show v1 10 = v 10 from hq10_v1), (show v1 31 = v 31 from hq31_v1), (show v1 32 = v 32 from hq32_v1)⟩ hP hD hS dX9_append_46 (Nat.le_refl _) (Nat.le_refl _)
      · skip
        have zc2 : ¬ (l2_1.toInt < 0) := by rw [fa_lt, show (0 : Int32).toInt = 0 from by decide] at c2; exact c2
        refine lv_aload_n hx hb dX9_append_7 rfl (lv_at hl 1 rfl) ?_
        refine va_get (D := (dC, dI)) (ci := 9) (v := .int (v1 1)) (C := RX9) (T := TX9) (N := 6) hx hb hts inB_9 hown hE.1 hP 1 rfl rfl 1 (by decide) (hts _ k_137) (fun _ h9 => h9) rfl dX9_append_8 ?_
        have b1_v1 : 0 ≤ (v1 1).toInt ∧ (v1 1).toInt ≤ 1600 := XI.b hIv1 1 (by decide)
        refine lv_sipush (v := 1600) hx hb dX9_append_11 (by decide) ?_
        refine lv_icmp_ge (tgt := 46) hx hb dX9_append_14 (by decide) (fun c3 => ?_) (fun c3 => ?_)
        · skip
          have zc3 : 1600 ≤ (v1 1).toInt := by rw [fa_le, show (1600 : Int32).toInt = 1600 from by decide] at c3; exact c3
          exact ret (v1, f1) _ _ _ _ _ _ ⟨(hT1.symm.trans (gsX_X9_append_1_q1 c2 c3)), hM_v1, hA_f1, hIv1, (show v1 0 = v 0 from hq0_v1), (show v1 7 = v 7 from hq7_v1), (show v1 8 = v 8 from hq8_v1), (show v1 9 = v 9 from hq9_v1), (show v1 10 = v 10 from hq10_v1), (show v1 31 = v 31 from hq31_v1), (show v1 32 = v 32 from hq32_v1)⟩ hP hD hS dX9_append_46 (Nat.le_refl _) (Nat.le_refl _)
        · skip
          have zc3 : ¬ (1600 ≤ (v1 1).toInt) := by rw [fa_le, show (1600 : Int32).toInt = 1600 from by decide] at c3; exact c3
          refine lv_aload_n hx hb dX9_append_17 rfl (lv_at hl 1 rfl) ?_
          refine va_get (D := (dC, dI)) (ci := 9) (v := .ref (x 1)) (C := RX9) (T := TX9) (N := 6) hx hb hts inB_9 hown hE.1 hP 1 rfl rfl 0 (by decide) (hts _ k_136) (fun _ h9 => h9) rfl dX9_append_18 ?_
          refine lv_aload_n hx hb dX9_append_21 rfl (lv_at hl 1 rfl) ?_
          refine va_get (D := (dC, dI)) (ci := 9) (v := .int (v1 1)) (C := RX9) (T := TX9) (N := 6) hx hb hts inB_9 hown hE.1 hP 1 rfl rfl 1 (by decide) (hts _ k_137) (fun _ h9 => h9) rfl dX9_append_22 ?_
          refine lv_iload_n hx hb dX9_append_25 rfl (lv_at hl 2 rfl) ?_
          refine lv_iload_n hx hb dX9_append_26 rfl (lv_at hl 0 rfl) ?_
          refine lv_ishr hx hb dX9_append_27 ?_
          refine lv_topi (fun t4 et4 => ?_)
          refine lv_i2b hx hb dX9_append_28 rfl ?_
          refine lv_topi (fun t5 et5 => ?_)
          refine stB hx hb hE hP hD hS 2 rfl (vp_in_iff.mpr ⟨by omega, by omega⟩) rfl dX9_append_29 (fun H locs hP hD hS => ?_)
          obtain ⟨f6, ef6, hP, hD⟩ : ∃ fz9, fz9 = upd2 f1 0 (upd (f1 0) (v1 1).toNatClampNeg (vp_nar .byte t5)) ∧ va_P (dC, dI) vwCl (XW cy x0 x v1 fz9) H ∧ va_D A (XW cy x0 x v1 fz9) := ⟨_, rfl, hP, hD⟩
          have hA_f6 : KF [0] f6 f := by rw [ef6]; exact KF.up hA_f1 rfl
          refine lv_aload_n hx hb dX9_append_30 rfl (lv_at hl 1 rfl) ?_
          refine lv_dup hx hb dX9_append_31 rfl ?_
          refine va_get (D := (dC, dI)) (ci := 9) (v := .int (v1 1)) (C := RX9) (T := TX9) (N := 6) hx hb hts inB_9 hown hE.1 hP 1 rfl rfl 1 (by decide) (hts _ k_137) (fun _ h9 => h9) rfl dX9_append_32 ?_
          refine lv_iconst (v := 1) hx hb dX9_append_35 (by decide) ?_
          refine lv_iadd hx hb dX9_append_36 ?_
          refine lv_topi (fun t7 et7 => ?_)
          have rg8 := fb_rng (v1 1)
          have zt7 : t7.toInt = (v1 1).toInt + 1 := by rw [et7]; exact add_i rfl (by decide) (by omega) (by omega)
          refine va_put (D := (dC, dI)) (ci := 9) (v := .int t7) (ty := tyX9 1) (C := RX9) (T := TX9) (N := 6) hx hb hts inB_9 tyX9 tyX9_ok nmX9 hown hE.1 hP hD hS 1 rfl rfl 1 (by decide) (hts _ k_137) (fun _ h9 => h9) rfl (tyX9_ok 1 (by decide)) rfl rfl (Nat.le_of_ble_eq_true rfl) dX9_append_37 (fun H locs hP hD hS => ?_)
          have hP : va_P (dC, dI) vwCl (XW cy x0 x (upd v1 1 t7) f6) H := hP
          have hD : va_D A (XW cy x0 x (upd v1 1 t7) f6) := hD
          obtain ⟨t9, et9⟩ : ∃ y : Int32, y = l2_1 + (-8) := ⟨_, rfl⟩
          have rg10 := fb_rng l2_1
          have zt9 : t9.toInt = l2_1.toInt + (-8) := by rw [et9]; exact add_i rfl (by decide) (by omega) (by omega)
          refine lv_iinc (v := t9) (lv' := [(2, .int t9), (0, .ref (x 0)), (1, .int p1)]) hx hb dX9_append_40 hl (k := 0) rfl (by rw [et9]; rfl) (by decide) rfl (fun ls hl => ?_)
          refine lv_goto (tgt := 3) hx hb dX9_append_43 (by decide) ?_
          have rg11 := fb_rng t9
          exact ih1 t9 (upd v1 1 t7) f6 (XI.upd (j := 1) (x := t7) hIv1 (show (0 : Int) ≤ t7.toInt by omega) (show t7.toInt ≤ (1600 : Int) by omega)) hq0_v1 hq7_v1 hq8_v1 hq9_v1 hq10_v1 hq31_v1 hq32_v1 ((gsX_X9_append_1_q2 c2 c3 et4 et5 ef6 et7 et9).symm.trans hT1) ⟨show (-2147483648 : Int) ≤ t9.toInt by omega, show t9.toInt ≤ (24 : Int) by omega⟩ (KV.up (j := 1) (x := t7) hM_v1 rfl) hA_f6 (by show (t9.toInt + 2147483648).toNat < n1; omega) _ _ _ hP hD hS (lv_sub hl [0, 1, 2] rfl)
  exact lp1 (4294967296 + NF) 24 v f hIv rfl rfl rfl rfl rfl rfl rfl gsX_X9_append_1_q3.symm ⟨by decide, by decide⟩ hM_v hA_f (by have q2 : (24 : Int32).toInt = 24 := (by decide); show ((24 : Int32).toInt + 2147483648).toNat < 4294967296 + NF; omega) _ _ _ hP hD hS (lv_sub hl [0, 1, 2] rfl)
set_option maxHeartbeats 4000000 in
set_option maxRecDepth 100000 in
theorem sX_X10_feed_1 (NF : Nat) (l : Launch) (dC : Nat → ClassId) (dI : Nat → Nat → Nat) (cy : Nat → ClassId) (x0 : Nat) (x : Nat → Nat) (p1 : Int32) (p2 : Int32) (p3 : Int32) (p4 : Int32) (p5 : Int32) (v : Nat → Int32) (f : Nat → Nat → Int32) (hIv : XI v)  : ctI l (dC, dI) cy yX10_feed cX10_feed 6 .int 2 82 0 0 ((Nat → Int32) × (Nat → Nat → Int32)) [.ref x0, .int p1, .int p2, .int p3, .int p4, .int p5] (XW cy x0 x v f) (fun r u => gsX_X10_feed_1 NF p1 p2 p3 p4 p5 v f = (r, u) ∧ KV [1] u.1 v ∧ KF [0] u.2 f ∧ XI u.1 ∧ u.1 0 = v 0 ∧ u.1 7 = v 7 ∧ u.1 8 = v 8 ∧ u.1 9 = v 9 ∧ u.1 10 = v 10 ∧ u.1 31 = v 31 ∧ u.1 32 = v 32) (fun u => XW cy x0 x u.1 u.2) := by
  refine ctI_of (by decide) (Nat.le_of_ble_eq_true rfl) (fun p e s m below meth c A ls Q hx hb hml hts hown hE hP hD hA hl ret => ?_)
  have hM_v : KV [1] v v := fun _ _ => rfl
  have hA_f : KF [0] f f := fun _ _ => rfl
  have hown : s.vm.findClass RX10 = some m.cls := hown
  have hS : va_S A s.heap s.heap [] := va_S.rf
  have hl : lv_has ls 6 [(0, .ref x0), (1, .int p1), (2, .int p2), (3, .int p3), (4, .int p4), (5, .int p5)] := hl
  refine lv_aload_n hx hb dX10_feed_0 rfl (lv_at hl 0 rfl) ?_
  refine va_get (D := (dC, dI)) (ci := 10) (v := .ref (x 0)) (C := RX10) (T := TX10) (N := 10) hx hb hts inB_10 hown hE.1 hP 0 rfl rfl 0 (by decide) (hts _ k_491) (fun _ h9 => h9) rfl dX10_feed_1 ?_
  refine cbVi (n := 0) (rest := []) hx hb hml hown hts hE hP hD hS hA (sX_X9_hasRoom_1 NF l dC dI cy x0 x  v f hIv ) k_526 k_527 k_528 k_102 k_529 (by decide +kernel) ⟨Nat.le_of_ble_eq_true rfl, Nat.le_of_ble_eq_true rfl⟩ 1 9 rfl rfl (rfl) hl.1 rfl (Nat.le_of_ble_eq_true rfl) dX10_feed_4 (fun r1 u H locs hw hP hD hS => ?_)
  obtain ⟨hG2, hw⟩ := hw
  rcases hw with ⟨g3⟩ | ⟨g3⟩
  · skip
    subst g3
    refine lv_if_ne (tgt := 12) hx hb dX10_feed_7 (by decide) (fun _ => ?_) (fun c0 => absurd c0 (by decide))
    refine lv_aload_n hx hb dX10_feed_12 rfl (lv_at hl 0 rfl) ?_
    refine va_get (D := (dC, dI)) (ci := 10) (v := .ref (x 0)) (C := RX10) (T := TX10) (N := 10) hx hb hts inB_10 hown hE.1 hP 0 rfl rfl 0 (by decide) (hts _ k_491) (fun _ h9 => h9) rfl dX10_feed_13 ?_
    refine lv_iload_n hx hb dX10_feed_16 rfl (lv_at hl 1 rfl) ?_
    refine cbVv (n := 1) (rest := []) hx hb hml hown hts hE hP hD hS hA (sX_X9_append_1 NF l dC dI cy x0 x p1 v f hIv ) k_530 k_531 k_532 k_102 k_533 (by decide +kernel) ⟨Nat.le_of_ble_eq_true rfl, Nat.le_of_ble_eq_true rfl⟩ 1 9 rfl rfl (rfl) hl.1 rfl (Nat.le_of_ble_eq_true rfl) dX10_feed_17 (fun u H locs hw hP hD hS => ?_)
    obtain ⟨hG4, hw⟩ := hw
    obtain ⟨v5, f6⟩ := u
    obtain ⟨kV_v5, kF_f6, hIv5, hk0_v5, hk7_v5, hk8_v5, hk9_v5, hk10_v5, hk31_v5, hk32_v5⟩ := hw
    have hM_v5 : KV [1] v5 v := KV.tr kV_v5 hM_v rfl
    have hA_f6 : KF [0] f6 f := KF.tr kF_f6 hA_f rfl
    have hP : va_P (dC, dI) vwCl (XW cy x0 x v5 f6) H := hP
    have hD : va_D A (XW cy x0 x v5 f6) := hD
    have hq0_v5 : v5 0 = (v 0) := hk0_v5
    have hq7_v5 : v5 7 = (v 7) := hk7_v5
    have hq8_v5 : v5 8 = (v 8) := hk8_v5
    have hq9_v5 : v5 9 = (v 9) := hk9_v5
    have hq10_v5 : v5 10 = (v 10) := hk10_v5
    have hq31_v5 : v5 31 = (v 31) := hk31_v5
    have hq32_v5 : v5 32 = (v 32) := hk32_v5
    refine lv_aload_n hx hb dX10_feed_20 rfl (lv_at hl 0 rfl) ?_
    refine va_get (D := (dC, dI)) (ci := 10) (v := .ref (x 0)) (C := RX10) (T := TX10) (N := 10) hx hb hts inB_10 hown hE.1 hP 0 rfl rfl 0 (by decide) (hts _ k_491) (fun _ h9 => h9) rfl dX10_feed_21 ?_
    refine lv_iload_n hx hb dX10_feed_24 rfl (lv_at hl 2 rfl) ?_
    refine cbVv (n := 1) (rest := []) hx hb hml hown hts hE hP hD hS hA (sX_X9_append_1 NF l dC dI cy x0 x p2 v5 f6 hIv5 ) k_530 k_531 k_532 k_102 k_533 (by decide +kernel) ⟨Nat.le_of_ble_eq_true rfl, Nat.le_of_ble_eq_true rfl⟩ 1 9 rfl rfl (rfl) hl.1 rfl (Nat.le_of_ble_eq_true rfl) dX10_feed_25 (fun u H locs hw hP hD hS => ?_)
    obtain ⟨hG7, hw⟩ := hw
    obtain ⟨v8, f9⟩ := u
    obtain ⟨kV_v8, kF_f9, hIv8, hk0_v8, hk7_v8, hk8_v8, hk9_v8, hk10_v8, hk31_v8, hk32_v8⟩ := hw
    have hM_v8 : KV [1] v8 v := KV.tr kV_v8 hM_v5 rfl
    have hA_f9 : KF [0] f9 f := KF.tr kF_f9 hA_f6 rfl
    have hP : va_P (dC, dI) vwCl (XW cy x0 x v8 f9) H := hP
    have hD : va_D A (XW cy x0 x v8 f9) := hD
    have hq0_v8 : v8 0 = (v 0) := hk0_v8.trans hq0_v5
    have hq7_v8 : v8 7 = (v 7) := hk7_v8.trans hq7_v5
    have hq8_v8 : v8 8 = (v 8) := hk8_v8.trans hq8_v5
    have hq9_v8 : v8 9 = (v 9) := hk9_v8.trans hq9_v5
    have hq10_v8 : v8 10 = (v 10) := hk10_v8.trans hq10_v5
    have hq31_v8 : v8 31 = (v 31) := hk31_v8.trans hq31_v5
    have hq32_v8 : v8 32 = (v 32) := hk32_v8.trans hq32_v5
    refine lv_aload_n hx hb dX10_feed_28 rfl (lv_at hl 0 rfl) ?_
    refine va_get (D := (dC, dI)) (ci := 10) (v := .ref (x 0)) (C := RX10) (T := TX10) (N := 10) hx hb hts inB_10 hown hE.1 hP 0 rfl rfl 0 (by decide) (hts _ k_491) (fun _ h9 => h9) rfl dX10_feed_29 ?_
    refine lv_iload_n hx hb dX10_feed_32 rfl (lv_at hl 3 rfl) ?_
    refine cbVv (n := 1) (rest := []) hx hb hml hown hts hE hP hD hS hA (sX_X9_append_1 NF l dC dI cy x0 x p3 v8 f9 hIv8 ) k_530 k_531 k_532 k_102 k_533 (by decide +kernel) ⟨Nat.le_of_ble_eq_true rfl, Nat.le_of_ble_eq_true rfl⟩ 1 9 rfl rfl (rfl) hl.1 rfl (Nat.le_of_ble_eq_true rfl) dX10_feed_33 (fun u H locs hw hP hD hS => ?_)
    obtain ⟨hG10, hw⟩ := hw
    obtain ⟨v11, f12⟩ := u
    obtain ⟨kV_v11, kF_f12, hIv11, hk0_v11, hk7_v11, hk8_v11, hk9_v11, hk10_v11, hk31_v11, hk32_v11⟩ := hw
    have hM_v11 : KV [1] v11 v := KV.tr kV_v11 hM_v8 rfl
    have hA_f12 : KF [0] f12 f := KF.tr kF_f12 hA_f9 rfl
    have hP : va_P (dC, dI) vwCl (XW cy x0 x v11 f12) H := hP
    have hD : va_D A (XW cy x0 x v11 f12) := hD
    have hq0_v11 : v11 0 = (v 0) := hk0_v11.trans hq0_v8
    have hq7_v11 : v11 7 = (v 7) := hk7_v11.trans hq7_v8
    have hq8_v11 : v11 8 = (v 8) := hk8_v11.trans hq8_v8
    have hq9_v11 : v11 9 = (v 9) := hk9_v11.trans hq9_v8
    have hq10_v11 : v11 10 = (v 10) := hk10_v11.trans hq10_v8
    have hq31_v11 : v11 31 = (v 31) := hk31_v11.trans hq31_v8
    have hq32_v11 : v11 32 = (v 32) := hk32_v11.trans hq32_v8
    refine lv_aload_n hx hb dX10_feed_36 rfl (lv_at hl 0 rfl) ?_
    refine va_get (D := (dC, dI)) (ci := 10) (v := .ref (x 0)) (C := RX10) (T := TX10) (N := 10) hx hb hts inB_10 hown hE.1 hP 0 rfl rfl 0 (by decide) (hts _ k_491) (fun _ h9 => h9) rfl dX10_feed_37 ?_
    refine lv_iload hx hb dX10_feed_40 (lv_at hl 4 rfl) ?_
    refine cbVv (n := 1) (rest := []) hx hb hml hown hts hE hP hD hS hA (sX_X9_append_1 NF l dC dI cy x0 x p4 v11 f12 hIv11 ) k_530 k_531 k_532 k_102 k_533 (by decide +kernel) ⟨Nat.le_of_ble_eq_true rfl, Nat.le_of_ble_eq_true rfl⟩ 1 9 rfl rfl (rfl) hl.1 rfl (Nat.le_of_ble_eq_true rfl) dX10_feed_42 (fun u H locs hw hP hD hS => ?_)
    obtain ⟨hG13, hw⟩ := hw
    obtain ⟨v14, f15⟩ := u
    obtain ⟨kV_v14, kF_f15, hIv14, hk0_v14, hk7_v14, hk8_v14, hk9_v14, hk10_v14, hk31_v14, hk32_v14⟩ := hw
    have hM_v14 : KV [1] v14 v := KV.tr kV_v14 hM_v11 rfl
    have hA_f15 : KF [0] f15 f := KF.tr kF_f15 hA_f12 rfl
    have hP : va_P (dC, dI) vwCl (XW cy x0 x v14 f15) H := hP
    have hD : va_D A (XW cy x0 x v14 f15) := hD
    have hq0_v14 : v14 0 = (v 0) := hk0_v14.trans hq0_v11
    have hq7_v14 : v14 7 = (v 7) := hk7_v14.trans hq7_v11
    have hq8_v14 : v14 8 = (v 8) := hk8_v14.trans hq8_v11
    have hq9_v14 : v14 9 = (v 9) := hk9_v14.trans hq9_v11
    have hq10_v14 : v14 10 = (v 10) := hk10_v14.trans hq10_v11
    have hq31_v14 : v14 31 = (v 31) := hk31_v14.trans hq31_v11
    have hq32_v14 : v14 32 = (v 32) := hk32_v14.trans hq32_v11
    refine lv_aload_n hx hb dX10_feed_45 rfl (lv_at hl 0 rfl) ?_
    refine va_get (D := (dC, dI)) (ci := 10) (v := .ref (x 0)) (C := RX10) (T := TX10) (N := 10) hx hb hts inB_10 hown hE.1 hP 0 rfl rfl 0 (by decide) (hts _ k_491) (fun _ h9 => h9) rfl dX10_feed_46 ?_
    refine lv_iload hx hb dX10_feed_49 (lv_at hl 5 rfl) ?_
    refine cbVv (n := 1) (rest := []) hx hb hml hown hts hE hP hD hS hA (sX_X9_append_1 NF l dC dI cy x0 x p5 v14 f15 hIv14 ) k_530 k_531 k_532 k_102 k_533 (by decide +kernel) ⟨Nat.le_of_ble_eq_true rfl, Nat.le_of_ble_eq_true rfl⟩ 1 9 rfl rfl (rfl) hl.1 rfl (Nat.le_of_ble_eq_true rfl) dX10_feed_51 (fun u H locs hw hP hD hS => ?_)
    obtain ⟨hG16, hw⟩ := hw
    obtain ⟨v17, f18⟩ := u
    obtain ⟨kV_v17, kF_f18, hIv17, hk0_v17, hk7_v17, hk8_v17, hk9_v17, hk10_v17, hk31_v17, hk32_v17⟩ := hw
    have hM_v17 : KV [1] v17 v := KV.tr kV_v17 hM_v14 rfl
    have hA_f18 : KF [0] f18 f := KF.tr kF_f18 hA_f15 rfl
    have hP : va_P (dC, dI) vwCl (XW cy x0 x v17 f18) H := hP
    have hD : va_D A (XW cy x0 x v17 f18) := hD
    have hq0_v17 : v17 0 = (v 0) := hk0_v17.trans hq0_v14
    have hq7_v17 : v17 7 = (v 7) := hk7_v17.trans hq7_v14
    have hq8_v17 : v17 8 = (v 8) := hk8_v17.trans hq8_v14
    have hq9_v17 : v17 9 = (v 9) := hk9_v17.trans hq9_v14
    have hq10_v17 : v17 10 = (v 10) := hk10_v17.trans hq10_v14
    have hq31_v17 : v17 31 = (v 31) := hk31_v17.trans hq31_v14
    have hq32_v17 : v17 32 = (v 32) := hk32_v17.trans hq32_v14
    refine lv_aload_n hx hb dX10_feed_54 rfl (lv_at hl 0 rfl) ?_
    refine va_get (D := (dC, dI)) (ci := 10) (v := .ref (x 0)) (C := RX10) (T := TX10) (N := 10) hx hb hts inB_10 hown hE.1 hP 0 rfl rfl 0 (by decide) (hts _ k_491) (fun _ h9 => h9) rfl dX10_feed_55 ?_
    refine va_getN (D := (dC, dI)) (ci := 9) (v := .int (v17 1)) (C := RX9) (T := TX9) (N := 6) hx hb hts inB_9 hown hE.1 hP 1 rfl rfl 1 (by decide) (va_Nw.use rfl (hE.2 _ k_138)) (fun _ h9 => h9) rfl dX10_feed_58 ?_
    have b1_v17 : 0 ≤ (v17 1).toInt ∧ (v17 1).toInt ≤ 1600 := XI.b hIv17 1 (by decide)
    exact ret (v17 1) (v17, f18) _ _ _ _ _ _ rfl ⟨(gsX_X10_feed_1_q0 hG2 hG4 hG7 hG10 hG13 hG16), hM_v17, hA_f18, hIv17, (hk0_v17.trans (hk0_v14.trans (hk0_v11.trans (hk0_v8.trans hk0_v5)))), (hk7_v17.trans (hk7_v14.trans (hk7_v11.trans (hk7_v8.trans hk7_v5)))), (hk8_v17.trans (hk8_v14.trans (hk8_v11.trans (hk8_v8.trans hk8_v5)))), (hk9_v17.trans (hk9_v14.trans (hk9_v11.trans (hk9_v8.trans hk9_v5)))), (hk10_v17.trans (hk10_v14.trans (hk10_v11.trans (hk10_v8.trans hk10_v5)))), (hk31_v17.trans (hk31_v14.trans (hk31_v11.trans (hk31_v8.trans hk31_v5)))), (hk32_v17.trans (hk32_v14.trans (hk32_v11.trans (hk32_v8.trans hk32_v5))))⟩ hP hD hS dX10_feed_61 (Nat.le_refl _) (Nat.le_refl _)
  · skip
    subst g3
    refine lv_if_ne (tgt := 12) hx hb dX10_feed_7 (by decide) (fun c0 => absurd (by decide) c0) (fun _ => ?_)
    refine lv_iconst (v := (-1)) hx hb dX10_feed_10 (by decide) ?_
    exact ret (-1) (v, f) _ _ _ _ _ _ rfl ⟨(gsX_X10_feed_1_q1 hG2), hM_v, hA_f, hIv, rfl, rfl, rfl, rfl, rfl, rfl, rfl⟩ hP hD hS dX10_feed_11 (Nat.le_refl _) (Nat.le_refl _)
set_option maxHeartbeats 4000000 in
set_option maxRecDepth 100000 in
theorem sX_X10_end_1 (NF : Nat) (l : Launch) (dC : Nat → ClassId) (dI : Nat → Nat → Nat) (cy : Nat → ClassId) (x0 : Nat) (x : Nat → Nat) (p1 : Int32) (v : Nat → Int32) (f : Nat → Nat → Int32) (hIv : XI v)  : ctI l (dC, dI) cy yX10_end cX10_end 2 .int 1 60 0 0 ((Nat → Int32) × (Nat → Nat → Int32)) [.ref x0, .int p1] (XW cy x0 x v f) (fun r u => gsX_X10_end_1 NF p1 v f = (r, u) ∧ KV [1] u.1 v ∧ KF [] u.2 f ∧ XI u.1 ∧ u.1 0 = v 0 ∧ u.1 7 = v 7 ∧ u.1 8 = v 8 ∧ u.1 9 = v 9 ∧ u.1 10 = v 10 ∧ u.1 31 = v 31 ∧ u.1 32 = v 32) (fun u => XW cy x0 x u.1 u.2) := by
  refine ctI_of (by decide) (Nat.le_of_ble_eq_true rfl) (fun p e s m below meth c A ls Q hx hb hml hts hown hE hP hD hA hl ret => ?_)
  have hM_v : KV [1] v v := fun _ _ => rfl
  have hA_f : KF [] f f := fun _ _ => rfl
  have hown : s.vm.findClass RX10 = some m.cls := hown
  have hS : va_S A s.heap s.heap [] := va_S.rf
  have hl : lv_has ls 2 [(0, .ref x0), (1, .int p1)] := hl
  refine lv_iload_n hx hb dX10_end_0 rfl (lv_at hl 1 rfl) ?_
  refine lv_if_lt (tgt := 15) hx hb dX10_end_1 (by decide) (fun c1 => ?_) (fun c1 => ?_)
  · skip
    have zc1 : p1.toInt < 0 := by rw [fa_lt, show (0 : Int32).toInt = 0 from by decide] at c1; exact c1
    refine lv_iconst (v := (-1)) hx hb dX10_end_15 (by decide) ?_
    exact ret (-1) (v, f) _ _ _ _ _ _ rfl ⟨(gsX_X10_end_1_q0 c1), hM_v, hA_f, hIv, rfl, rfl, rfl, rfl, rfl, rfl, rfl⟩ hP hD hS dX10_end_16 (Nat.le_refl _) (Nat.le_refl _)
  · skip
    have zc1 : ¬ (p1.toInt < 0) := by rw [fa_lt, show (0 : Int32).toInt = 0 from by decide] at c1; exact c1
    refine lv_iload_n hx hb dX10_end_4 rfl (lv_at hl 1 rfl) ?_
    refine lv_aload_n hx hb dX10_end_5 rfl (lv_at hl 0 rfl) ?_
    refine va_get (D := (dC, dI)) (ci := 10) (v := .ref (x 0)) (C := RX10) (T := TX10) (N := 10) hx hb hts inB_10 hown hE.1 hP 0 rfl rfl 0 (by decide) (hts _ k_491) (fun _ h9 => h9) rfl dX10_end_6 ?_
    refine va_getN (D := (dC, dI)) (ci := 9) (v := .int (v 1)) (C := RX9) (T := TX9) (N := 6) hx hb hts inB_9 hown hE.1 hP 1 rfl rfl 1 (by decide) (va_Nw.use rfl (hE.2 _ k_138)) (fun _ h9 => h9) rfl dX10_end_9 ?_
    have b1_v : 0 ≤ (v 1).toInt ∧ (v 1).toInt ≤ 1600 := XI.b hIv 1 (by decide)
    refine lv_icmp_le (tgt := 17) hx hb dX10_end_12 (by decide) (fun c2 => ?_) (fun c2 => ?_)
    · skip
      have zc2 : p1.toInt ≤ (v 1).toInt := by rw [fa_le] at c2; exact c2
      have rg3 := fb_rng p1
      have rg4 := fb_rng (v 1)
      refine lv_aload_n hx hb dX10_end_17 rfl (lv_at hl 0 rfl) ?_
      refine va_get (D := (dC, dI)) (ci := 10) (v := .ref (x 0)) (C := RX10) (T := TX10) (N := 10) hx hb hts inB_10 hown hE.1 hP 0 rfl rfl 0 (by decide) (hts _ k_491) (fun _ h9 => h9) rfl dX10_end_18 ?_
      refine lv_iload_n hx hb dX10_end_21 rfl (lv_at hl 1 rfl) ?_
      refine va_putN (D := (dC, dI)) (ci := 9) (v := .int p1) (ty := tyX9 1) (C := RX9) (T := TX9) (N := 6) hx hb hts inB_9 tyX9 tyX9_ok nmX9 hown hE.1 hP hD hS 1 rfl rfl 1 (by decide) (va_Nw.use rfl (hE.2 _ k_138)) (fun _ h9 => h9) rfl (tyX9_ok 1 (by decide)) rfl rfl (Nat.le_of_ble_eq_true rfl) dX10_end_22 (fun H locs hP hD hS => ?_)
      have hP : va_P (dC, dI) vwCl (XW cy x0 x (upd v 1 p1) f) H := hP
      have hD : va_D A (XW cy x0 x (upd v 1 p1) f) := hD
      refine lv_iload_n hx hb dX10_end_25 rfl (lv_at hl 1 rfl) ?_
      exact ret p1 ((upd v 1 p1), f) _ _ _ _ _ _ rfl ⟨(gsX_X10_end_1_q1 c1 c2), (KV.up (j := 1) (x := p1) hM_v rfl), hA_f, (XI.upd (j := 1) (x := p1) hIv (show (0 : Int) ≤ p1.toInt by omega) (show p1.toInt ≤ (1600 : Int) by omega)), rfl, rfl, rfl, rfl, rfl, rfl, rfl⟩ hP hD hS dX10_end_26 (Nat.le_refl _) (Nat.le_refl _)
    · skip
      have zc2 : ¬ (p1.toInt ≤ (v 1).toInt) := by rw [fa_le] at c2; exact c2
      have rg5 := fb_rng p1
      have rg6 := fb_rng (v 1)
      refine lv_iconst (v := (-1)) hx hb dX10_end_15 (by decide) ?_
      exact ret (-1) (v, f) _ _ _ _ _ _ rfl ⟨(gsX_X10_end_1_q2 c1 c2), hM_v, hA_f, hIv, rfl, rfl, rfl, rfl, rfl, rfl, rfl⟩ hP hD hS dX10_end_16 (Nat.le_refl _) (Nat.le_refl _)
set_option maxHeartbeats 4000000 in
set_option maxRecDepth 100000 in
theorem sX_X10_fault_1 (NF : Nat) (l : Launch) (dC : Nat → ClassId) (dI : Nat → Nat → Nat) (cy : Nat → ClassId) (x0 : Nat) (x : Nat → Nat) (p1 : Int32) (v : Nat → Int32) (f : Nat → Nat → Int32) (hIv : XI v)  : ctI l (dC, dI) cy yX10_fault cX10_fault 2 .int 1 60 0 0 Unit [.ref x0, .int p1] (XW cy x0 x v f) (fun r u => gsX_X10_fault_1 NF p1 v f = r) (fun u => XW cy x0 x v f) := by
  refine ctI_of (by decide) (Nat.le_of_ble_eq_true rfl) (fun p e s m below meth c A ls Q hx hb hml hts hown hE hP hD hA hl ret => ?_)
  have hown : s.vm.findClass RX10 = some m.cls := hown
  have hS : va_S A s.heap s.heap [] := va_S.rf
  have hl : lv_has ls 2 [(0, .ref x0), (1, .int p1)] := hl
  refine lv_iload_n hx hb dX10_fault_0 rfl (lv_at hl 1 rfl) ?_
  refine lv_if_ne (tgt := 14) hx hb dX10_fault_1 (by decide) (fun c1 => ?_) (fun c1 => ?_)
  · skip
    have zc1 : ¬ (p1.toInt = 0) := by rw [fa_eq, show (0 : Int32).toInt = 0 from by decide] at c1; exact c1
    refine lv_iload_n hx hb dX10_fault_14 rfl (lv_at hl 1 rfl) ?_
    refine lv_iconst (v := 1) hx hb dX10_fault_15 (by decide) ?_
    refine lv_icmp_ne (tgt := 29) hx hb dX10_fault_16 (by decide) (fun c2 => ?_) (fun c2 => ?_)
    · skip
      have zc2 : ¬ (p1.toInt = 1) := by rw [fa_eq, show (1 : Int32).toInt = 1 from by decide] at c2; exact c2
      refine lv_iconst (v := (-1)) hx hb dX10_fault_29 (by decide) ?_
      exact ret (-1) () _ _ _ _ _ _ rfl (gsX_X10_fault_1_q0 c1 c2) hP hD hS dX10_fault_30 (Nat.le_refl _) (Nat.le_refl _)
    · skip
      have zc2 : p1.toInt = 1 := by rw [fa_eq, show (1 : Int32).toInt = 1 from by decide] at c2; exact c2
      refine lv_aload_n hx hb dX10_fault_19 rfl (lv_at hl 0 rfl) ?_
      refine va_get (D := (dC, dI)) (ci := 10) (v := .ref (x 2)) (C := RX10) (T := TX10) (N := 10) hx hb hts inB_10 hown hE.1 hP 0 rfl rfl 1 (by decide) (hts _ k_492) (fun _ h9 => h9) rfl dX10_fault_20 ?_
      refine va_getN (D := (dC, dI)) (ci := 6) (v := .int (v 8)) (C := RX6) (T := TX6) (N := 7) hx hb hts inB_6 hown hE.1 hP 3 rfl rfl 6 (by decide) (va_Nw.use rfl (hE.2 _ k_274)) (fun _ h9 => h9) rfl dX10_fault_23 ?_
      refine lv_goto (tgt := 30) hx hb dX10_fault_26 (by decide) ?_
      exact ret (v 8) () _ _ _ _ _ _ rfl (gsX_X10_fault_1_q1 c1 c2) hP hD hS dX10_fault_30 (Nat.le_refl _) (Nat.le_refl _)
  · skip
    have zc1 : p1.toInt = 0 := by rw [fa_eq, show (0 : Int32).toInt = 0 from by decide] at c1; exact c1
    refine lv_aload_n hx hb dX10_fault_4 rfl (lv_at hl 0 rfl) ?_
    refine va_get (D := (dC, dI)) (ci := 10) (v := .ref (x 2)) (C := RX10) (T := TX10) (N := 10) hx hb hts inB_10 hown hE.1 hP 0 rfl rfl 1 (by decide) (hts _ k_492) (fun _ h9 => h9) rfl dX10_fault_5 ?_
    refine va_getN (D := (dC, dI)) (ci := 6) (v := .int (v 7)) (C := RX6) (T := TX6) (N := 7) hx hb hts inB_6 hown hE.1 hP 3 rfl rfl 5 (by decide) (va_Nw.use rfl (hE.2 _ k_272)) (fun _ h9 => h9) rfl dX10_fault_8 ?_
    refine lv_goto (tgt := 30) hx hb dX10_fault_11 (by decide) ?_
    exact ret (v 7) () _ _ _ _ _ _ rfl (gsX_X10_fault_1_q2 c1) hP hD hS dX10_fault_30 (Nat.le_refl _) (Nat.le_refl _)
set_option maxHeartbeats 4000000 in
set_option maxRecDepth 100000 in
theorem sX_X4_clear_1 (NF : Nat) (l : Launch) (dC : Nat → ClassId) (dI : Nat → Nat → Nat) (cy : Nat → ClassId) (x0 : Nat) (x : Nat → Nat)  (v : Nat → Int32) (f : Nat → Nat → Int32) (hIv : XI v)  : ctV l (dC, dI) cy yX4_clear cX4_clear 1 1 60 0 0 ((Nat → Int32) × (Nat → Nat → Int32)) [.ref (x 6)] (XW cy x0 x v f) (fun u => gsX_X4_clear_1 NF v f = u ∧ KV [16, 17] u.1 v ∧ KF [] u.2 f ∧ XI u.1 ∧ u.1 0 = v 0 ∧ u.1 1 = v 1 ∧ u.1 7 = v 7 ∧ u.1 8 = v 8 ∧ u.1 9 = v 9 ∧ u.1 10 = v 10 ∧ u.1 31 = v 31 ∧ u.1 32 = v 32) (fun u => XW cy x0 x u.1 u.2) := by
  refine ctV_of (by decide) (Nat.le_of_ble_eq_true rfl) (fun p e s m below meth c A ls Q hx hb hml hts hown hnm hE hP hD hA hl ret => ?_)
  have hM_v : KV [16, 17] v v := fun _ _ => rfl
  have hA_f : KF [] f f := fun _ _ => rfl
  have hown : s.vm.findClass RX4 = some m.cls := hown
  have hS : va_S A s.heap s.heap [] := va_S.rf
  have hl : lv_has ls 1 [(0, .ref (x 6))] := hl
  refine lv_aload_n hx hb dX4_clear_0 rfl (lv_at hl 0 rfl) ?_
  refine lv_iconst (v := 0) hx hb dX4_clear_1 (by decide) ?_
  refine va_put (D := (dC, dI)) (ci := 4) (v := .int 0) (ty := tyX4 4) (C := RX4) (T := TX4) (N := 6) hx hb hts inB_4 tyX4 tyX4_ok nmX4 hown hE.1 hP hD hS 7 rfl rfl 4 (by decide) (hts _ k_182) (fun _ h9 => h9) rfl (tyX4_ok 4 (by decide)) rfl rfl (Nat.le_of_ble_eq_true rfl) dX4_clear_2 (fun H locs hP hD hS => ?_)
  have hP : va_P (dC, dI) vwCl (XW cy x0 x (upd v 16 0) f) H := hP
  have hD : va_D A (XW cy x0 x (upd v 16 0) f) := hD
  refine lv_aload_n hx hb dX4_clear_5 rfl (lv_at hl 0 rfl) ?_
  refine lv_iconst (v := 0) hx hb dX4_clear_6 (by decide) ?_
  refine va_put (D := (dC, dI)) (ci := 4) (v := .int 0) (ty := tyX4 5) (C := RX4) (T := TX4) (N := 6) hx hb hts inB_4 tyX4 tyX4_ok nmX4 hown hE.1 hP hD hS 7 rfl rfl 5 (by decide) (hts _ k_183) (fun _ h9 => h9) rfl (tyX4_ok 5 (by decide)) rfl rfl (Nat.le_of_ble_eq_true rfl) dX4_clear_7 (fun H locs hP hD hS => ?_)
  have hP : va_P (dC, dI) vwCl (XW cy x0 x (upd (upd v 16 0) 17 0) f) H := hP
  have hD : va_D A (XW cy x0 x (upd (upd v 16 0) 17 0) f) := hD
  exact ret ((upd (upd v 16 0) 17 0), f) _ _ _ _ _ _ ⟨gsX_X4_clear_1_q0, (KV.up (j := 17) (x := 0) (KV.up (j := 16) (x := 0) hM_v rfl) rfl), hA_f, (XI.upd (j := 17) (x := 0) (XI.upd (j := 16) (x := 0) hIv (by decide) (by decide)) (rlo _) (rhi _)), rfl, rfl, rfl, rfl, rfl, rfl, rfl, rfl⟩ hP hD hS dX4_clear_10 (Nat.le_refl _) (Nat.le_refl _)
set_option maxHeartbeats 4000000 in
set_option maxRecDepth 100000 in
theorem sX_X7_setDefaults_1 (NF : Nat) (l : Launch) (dC : Nat → ClassId) (dI : Nat → Nat → Nat) (cy : Nat → ClassId) (x0 : Nat) (x : Nat → Nat)  (v : Nat → Int32) (f : Nat → Nat → Int32) (hIv : XI v)  : ctV l (dC, dI) cy yX7_setDefaults cX7_setDefaults 1 1 60 0 0 ((Nat → Int32) × (Nat → Nat → Int32)) [.ref (x 3)] (XW cy x0 x v f) (fun u => gsX_X7_setDefaults_1 NF v f = u ∧ KV [11, 12, 13, 14, 15] u.1 v ∧ KF [] u.2 f ∧ XI u.1 ∧ u.1 0 = v 0 ∧ u.1 1 = v 1 ∧ u.1 7 = v 7 ∧ u.1 8 = v 8 ∧ u.1 9 = v 9 ∧ u.1 10 = v 10 ∧ u.1 31 = v 31 ∧ u.1 32 = v 32) (fun u => XW cy x0 x u.1 u.2) := by
  refine ctV_of (by decide) (Nat.le_of_ble_eq_true rfl) (fun p e s m below meth c A ls Q hx hb hml hts hown hnm hE hP hD hA hl ret => ?_)
  have hM_v : KV [11, 12, 13, 14, 15] v v := fun _ _ => rfl
  have hA_f : KF [] f f := fun _ _ => rfl
  have hown : s.vm.findClass RX7 = some m.cls := hown
  have hS : va_S A s.heap s.heap [] := va_S.rf
  have hl : lv_has ls 1 [(0, .ref (x 3))] := hl
  refine lv_aload_n hx hb dX7_setDefaults_0 rfl (lv_at hl 0 rfl) ?_
  refine lv_bipush (v := 10) hx hb dX7_setDefaults_1 (by decide) ?_
  refine va_put (D := (dC, dI)) (ci := 7) (v := .int 10) (ty := tyX7 5) (C := RX7) (T := TX7) (N := 10) hx hb hts inB_7 tyX7 tyX7_ok nmX7 hown hE.1 hP hD hS 4 rfl rfl 5 (by decide) (hts _ k_228) (fun _ h9 => h9) rfl (tyX7_ok 5 (by decide)) rfl rfl (Nat.le_of_ble_eq_true rfl) dX7_setDefaults_3 (fun H locs hP hD hS => ?_)
  have hP : va_P (dC, dI) vwCl (XW cy x0 x (upd v 11 10) f) H := hP
  have hD : va_D A (XW cy x0 x (upd v 11 10) f) := hD
  refine lv_aload_n hx hb dX7_setDefaults_6 rfl (lv_at hl 0 rfl) ?_
  refine lv_sipush (v := 150) hx hb dX7_setDefaults_7 (by decide) ?_
  refine va_put (D := (dC, dI)) (ci := 7) (v := .int 150) (ty := tyX7 6) (C := RX7) (T := TX7) (N := 10) hx hb hts inB_7 tyX7 tyX7_ok nmX7 hown hE.1 hP hD hS 4 rfl rfl 6 (by decide) (hts _ k_234) (fun _ h9 => h9) rfl (tyX7_ok 6 (by decide)) rfl rfl (Nat.le_of_ble_eq_true rfl) dX7_setDefaults_10 (fun H locs hP hD hS => ?_)
  have hP : va_P (dC, dI) vwCl (XW cy x0 x (upd (upd v 11 10) 12 150) f) H := hP
  have hD : va_D A (XW cy x0 x (upd (upd v 11 10) 12 150) f) := hD
  refine lv_aload_n hx hb dX7_setDefaults_13 rfl (lv_at hl 0 rfl) ?_
  refine lv_iconst (v := 2) hx hb dX7_setDefaults_14 (by decide) ?_
  refine va_put (D := (dC, dI)) (ci := 7) (v := .int 2) (ty := tyX7 7) (C := RX7) (T := TX7) (N := 10) hx hb hts inB_7 tyX7 tyX7_ok nmX7 hown hE.1 hP hD hS 4 rfl rfl 7 (by decide) (hts _ k_237) (fun _ h9 => h9) rfl (tyX7_ok 7 (by decide)) rfl rfl (Nat.le_of_ble_eq_true rfl) dX7_setDefaults_15 (fun H locs hP hD hS => ?_)
  have hP : va_P (dC, dI) vwCl (XW cy x0 x (upd (upd (upd v 11 10) 12 150) 13 2) f) H := hP
  have hD : va_D A (XW cy x0 x (upd (upd (upd v 11 10) 12 150) 13 2) f) := hD
  refine lv_aload_n hx hb dX7_setDefaults_18 rfl (lv_at hl 0 rfl) ?_
  refine lv_iconst (v := 0) hx hb dX7_setDefaults_19 (by decide) ?_
  refine va_put (D := (dC, dI)) (ci := 7) (v := .int 0) (ty := tyX7 8) (C := RX7) (T := TX7) (N := 10) hx hb hts inB_7 tyX7 tyX7_ok nmX7 hown hE.1 hP hD hS 4 rfl rfl 8 (by decide) (hts _ k_240) (fun _ h9 => h9) rfl (tyX7_ok 8 (by decide)) rfl rfl (Nat.le_of_ble_eq_true rfl) dX7_setDefaults_20 (fun H locs hP hD hS => ?_)
  have hP : va_P (dC, dI) vwCl (XW cy x0 x (upd (upd (upd (upd v 11 10) 12 150) 13 2) 14 0) f) H := hP
  have hD : va_D A (XW cy x0 x (upd (upd (upd (upd v 11 10) 12 150) 13 2) 14 0) f) := hD
  refine lv_aload_n hx hb dX7_setDefaults_23 rfl (lv_at hl 0 rfl) ?_
  refine lv_iconst (v := 0) hx hb dX7_setDefaults_24 (by decide) ?_
  refine va_put (D := (dC, dI)) (ci := 7) (v := .int 0) (ty := tyX7 9) (C := RX7) (T := TX7) (N := 10) hx hb hts inB_7 tyX7 tyX7_ok nmX7 hown hE.1 hP hD hS 4 rfl rfl 9 (by decide) (hts _ k_243) (fun _ h9 => h9) rfl (tyX7_ok 9 (by decide)) rfl rfl (Nat.le_of_ble_eq_true rfl) dX7_setDefaults_25 (fun H locs hP hD hS => ?_)
  have hP : va_P (dC, dI) vwCl (XW cy x0 x (upd (upd (upd (upd (upd v 11 10) 12 150) 13 2) 14 0) 15 0) f) H := hP
  have hD : va_D A (XW cy x0 x (upd (upd (upd (upd (upd v 11 10) 12 150) 13 2) 14 0) 15 0) f) := hD
  exact ret ((upd (upd (upd (upd (upd v 11 10) 12 150) 13 2) 14 0) 15 0), f) _ _ _ _ _ _ ⟨gsX_X7_setDefaults_1_q0, (KV.up (j := 15) (x := 0) (KV.up (j := 14) (x := 0) (KV.up (j := 13) (x := 2) (KV.up (j := 12) (x := 150) (KV.up (j := 11) (x := 10) hM_v rfl) rfl) rfl) rfl) rfl), hA_f, (XI.upd (j := 15) (x := 0) (XI.upd (j := 14) (x := 0) (XI.upd (j := 13) (x := 2) (XI.upd (j := 12) (x := 150) (XI.upd (j := 11) (x := 10) hIv (rlo _) (rhi _)) (rlo _) (rhi _)) (rlo _) (rhi _)) (rlo _) (rhi _)) (rlo _) (rhi _)), rfl, rfl, rfl, rfl, rfl, rfl, rfl, rfl⟩ hP hD hS dX7_setDefaults_28 (Nat.le_refl _) (Nat.le_refl _)
set_option maxHeartbeats 4000000 in
set_option maxRecDepth 100000 in
theorem sX_X7_clear_1 (NF : Nat) (l : Launch) (dC : Nat → ClassId) (dI : Nat → Nat → Nat) (cy : Nat → ClassId) (x0 : Nat) (x : Nat → Nat)  (v : Nat → Int32) (f : Nat → Nat → Int32) (hIv : XI v)  : ctV l (dC, dI) cy yX7_clear cX7_clear 1 2 80 0 0 ((Nat → Int32) × (Nat → Nat → Int32)) [.ref (x 3)] (XW cy x0 x v f) (fun u => gsX_X7_clear_1 NF v f = u ∧ KV [9, 10, 11, 12, 13, 14, 15, 16, 17] u.1 v ∧ KF [] u.2 f ∧ XI u.1 ∧ u.1 0 = v 0 ∧ u.1 1 = v 1 ∧ u.1 7 = v 7 ∧ u.1 8 = v 8) (fun u => XW cy x0 x u.1 u.2) := by
  refine ctV_of (by decide) (Nat.le_of_ble_eq_true rfl) (fun p e s m below meth c A ls Q hx hb hml hts hown hnm hE hP hD hA hl ret => ?_)
  have hM_v : KV [9, 10, 11, 12, 13, 14, 15, 16, 17] v v := fun _ _ => rfl
  have hA_f : KF [] f f := fun _ _ => rfl
  have hown : s.vm.findClass RX7 = some m.cls := hown
  have hS : va_S A s.heap s.heap [] := va_S.rf
  have hl : lv_has ls 1 [(0, .ref (x 3))] := hl
  refine lv_aload_n hx hb dX7_clear_0 rfl (lv_at hl 0 rfl) ?_
  refine lv_iconst (v := 0) hx hb dX7_clear_1 (by decide) ?_
  refine va_put (D := (dC, dI)) (ci := 7) (v := .int 0) (ty := tyX7 3) (C := RX7) (T := TX7) (N := 10) hx hb hts inB_7 tyX7 tyX7_ok nmX7 hown hE.1 hP hD hS 4 rfl rfl 3 (by decide) (hts _ k_212) (fun _ h9 => h9) rfl (tyX7_ok 3 (by decide)) rfl rfl (Nat.le_of_ble_eq_true rfl) dX7_clear_2 (fun H locs hP hD hS => ?_)
  have hP : va_P (dC, dI) vwCl (XW cy x0 x (upd v 9 0) f) H := hP
  have hD : va_D A (XW cy x0 x (upd v 9 0) f) := hD
  refine lv_aload_n hx hb dX7_clear_5 rfl (lv_at hl 0 rfl) ?_
  refine lv_iconst (v := 0) hx hb dX7_clear_6 (by decide) ?_
  refine va_put (D := (dC, dI)) (ci := 7) (v := .int 0) (ty := tyX7 4) (C := RX7) (T := TX7) (N := 10) hx hb hts inB_7 tyX7 tyX7_ok nmX7 hown hE.1 hP hD hS 4 rfl rfl 4 (by decide) (hts _ k_220) (fun _ h9 => h9) rfl (tyX7_ok 4 (by decide)) rfl rfl (Nat.le_of_ble_eq_true rfl) dX7_clear_7 (fun H locs hP hD hS => ?_)
  have hP : va_P (dC, dI) vwCl (XW cy x0 x (upd (upd v 9 0) 10 0) f) H := hP
  have hD : va_D A (XW cy x0 x (upd (upd v 9 0) 10 0) f) := hD
  refine lv_aload_n hx hb dX7_clear_10 rfl (lv_at hl 0 rfl) ?_
  refine va_get (D := (dC, dI)) (ci := 7) (v := .ref (x 6)) (C := RX7) (T := TX7) (N := 10) hx hb hts inB_7 hown hE.1 hP 4 rfl rfl 2 (by decide) (hts _ k_206) (fun _ h9 => h9) rfl dX7_clear_11 ?_
  refine cbVv (n := 0) (rest := []) hx hb hml hown hts hE hP hD hS hA (sX_X4_clear_1 NF l dC dI cy x0 x  (upd (upd v 9 0) 10 0) f (XI.upd (j := 10) (x := 0) (XI.upd (j := 9) (x := 0) hIv (by decide) (by decide)) (by decide) (by decide)) ) k_550 k_551 k_552 k_105 k_553 (by decide +kernel) ⟨Nat.le_of_ble_eq_true rfl, Nat.le_of_ble_eq_true rfl⟩ 7 4 rfl rfl (rfl) hl.1 rfl (Nat.le_of_ble_eq_true rfl) dX7_clear_14 (fun u H locs hw hP hD hS => ?_)
  obtain ⟨hG1, hw⟩ := hw
  obtain ⟨v2, f3⟩ := u
  obtain ⟨kV_v2, kF_f3, hIv2, hk0_v2, hk1_v2, hk7_v2, hk8_v2, hk9_v2, hk10_v2, hk31_v2, hk32_v2⟩ := hw
  have hM_v2 : KV [9, 10, 11, 12, 13, 14, 15, 16, 17] v2 v := KV.tr kV_v2 (KV.up (j := 10) (x := 0) (KV.up (j := 9) (x := 0) hM_v rfl) rfl) rfl
  have hA_f3 : KF [] f3 f := KF.tr kF_f3 hA_f rfl
  have hP : va_P (dC, dI) vwCl (XW cy x0 x v2 f3) H := hP
  have hD : va_D A (XW cy x0 x v2 f3) := hD
  have hq0_v2 : v2 0 = (v 0) := hk0_v2
  have hq1_v2 : v2 1 = (v 1) := hk1_v2
  have hq7_v2 : v2 7 = (v 7) := hk7_v2
  have hq8_v2 : v2 8 = (v 8) := hk8_v2
  have hq9_v2 : v2 9 = 0 := hk9_v2
  have hq10_v2 : v2 10 = 0 := hk10_v2
  have hq31_v2 : v2 31 = (v 31) := hk31_v2
  have hq32_v2 : v2 32 = (v 32) := hk32_v2
  refine lv_aload_n hx hb dX7_clear_17 rfl (lv_at hl 0 rfl) ?_
  refine cbVv (n := 0) (rest := []) hx hb hml hown hts hE hP hD hS hA (sX_X7_setDefaults_1 NF l dC dI cy x0 x  v2 f3 hIv2 ) k_200 k_202 k_0 k_104 k_203 (by decide +kernel) ⟨Nat.le_of_ble_eq_true rfl, Nat.le_of_ble_eq_true rfl⟩ 4 7 rfl rfl (rfl) hl.1 rfl (Nat.le_of_ble_eq_true rfl) dX7_clear_18 (fun u H locs hw hP hD hS => ?_)
  obtain ⟨hG4, hw⟩ := hw
  obtain ⟨v5, f6⟩ := u
  obtain ⟨kV_v5, kF_f6, hIv5, hk0_v5, hk1_v5, hk7_v5, hk8_v5, hk9_v5, hk10_v5, hk31_v5, hk32_v5⟩ := hw
  have hM_v5 : KV [9, 10, 11, 12, 13, 14, 15, 16, 17] v5 v := KV.tr kV_v5 hM_v2 rfl
  have hA_f6 : KF [] f6 f := KF.tr kF_f6 hA_f3 rfl
  have hP : va_P (dC, dI) vwCl (XW cy x0 x v5 f6) H := hP
  have hD : va_D A (XW cy x0 x v5 f6) := hD
  have hq0_v5 : v5 0 = (v 0) := hk0_v5.trans hq0_v2
  have hq1_v5 : v5 1 = (v 1) := hk1_v5.trans hq1_v2
  have hq7_v5 : v5 7 = (v 7) := hk7_v5.trans hq7_v2
  have hq8_v5 : v5 8 = (v 8) := hk8_v5.trans hq8_v2
  have hq9_v5 : v5 9 = 0 := hk9_v5.trans hq9_v2
  have hq10_v5 : v5 10 = 0 := hk10_v5.trans hq10_v2
  have hq31_v5 : v5 31 = (v 31) := hk31_v5.trans hq31_v2
  have hq32_v5 : v5 32 = (v 32) := hk32_v5.trans hq32_v2
  exact ret (v5, f6) _ _ _ _ _ _ ⟨(gsX_X7_clear_1_q0 hG1 hG4), hM_v5, hA_f6, hIv5, (hk0_v5.trans hk0_v2), (hk1_v5.trans hk1_v2), (hk7_v5.trans hk7_v2), (hk8_v5.trans hk8_v2)⟩ hP hD hS dX7_clear_21 (Nat.le_refl _) (Nat.le_refl _)
