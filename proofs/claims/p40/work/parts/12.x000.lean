set_option maxHeartbeats 4000000 in
set_option maxRecDepth 100000 in
theorem sX_X9_hasRoom_1 (NF : Nat) (l : Launch) (dC : Nat → ClassId) (dI : Nat → Nat → Nat) (cy : Nat → ClassId) (x0 : Nat) (x : Nat → Nat)  (v : Nat → Int32) (f : Nat → Nat → Int32) (hIv : XI v)  : ctI l (dC, dI) cy yX9_hasRoom cX9_hasRoom 1 .boolean 1 60 0 0 Unit [.ref (x 0)] (XW cy x0 x v f) (fun r u => gsX_X9_hasRoom_1 NF v f = r ∧ ((r = 1) ∨ (r = 0))) (fun u => XW cy x0 x v f) := by
  refine ctI_of (by decide) (Nat.le_of_ble_eq_true rfl) (fun p e s m below meth c A ls Q hx hb hml hts hown hE hP hD hA hl ret => ?_)
  have hown : s.vm.findClass RX9 = some m.cls := hown
  have hS : va_S A s.heap s.heap [] := va_S.rf
  have hl : lv_has ls 1 [(0, .ref (x 0))] := hl
  refine lv_aload_n hx hb dX9_hasRoom_0 rfl (lv_at hl 0 rfl) ?_
  refine va_get (D := (dC, dI)) (ci := 9) (v := .int (v 1)) (C := RX9) (T := TX9) (N := 6) hx hb hts inB_9 hown hE.1 hP 1 rfl rfl 1 (by decide) (hts _ k_137) (fun _ h9 => h9) rfl dX9_hasRoom_1 ?_
  have b1_v : 0 ≤ (v 1).toInt ∧ (v 1).toInt ≤ 1600 := XI.b hIv 1 (by decide)
  refine lv_bipush (v := 20) hx hb dX9_hasRoom_4 (by decide) ?_
  refine lv_iadd hx hb dX9_hasRoom_6 ?_
  refine lv_topi (fun t1 et1 => ?_)
  have rg2 := fb_rng (v 1)
  have zt1 : t1.toInt = (v 1).toInt + 20 := by rw [et1]; exact add_i rfl (by decide) (by omega) (by omega)
  refine lv_sipush (v := 1600) hx hb dX9_hasRoom_7 (by decide) ?_
  refine lv_icmp_gt (tgt := 17) hx hb dX9_hasRoom_10 (by decide) (fun c3 => ?_) (fun c3 => ?_)
  · skip
    have zc3 : 1600 < t1.toInt := by rw [fa_lt, show (1600 : Int32).toInt = 1600 from by decide] at c3; exact c3
    refine lv_iconst (v := 0) hx hb dX9_hasRoom_17 (by decide) ?_
    exact ret 0 () _ _ _ _ _ _ rfl ⟨(gsX_X9_hasRoom_1_q0 et1 c3), (Or.inr rfl)⟩ hP hD hS dX9_hasRoom_18 (Nat.le_refl _) (Nat.le_refl _)
  · skip
    have zc3 : ¬ (1600 < t1.toInt) := by rw [fa_lt, show (1600 : Int32).toInt = 1600 from by decide] at c3; exact c3
    refine lv_iconst (v := 1) hx hb dX9_hasRoom_13 (by decide) ?_
    refine lv_goto (tgt := 18) hx hb dX9_hasRoom_14 (by decide) ?_
    exact ret 1 () _ _ _ _ _ _ rfl ⟨(gsX_X9_hasRoom_1_q1 et1 c3), (Or.inl rfl)⟩ hP hD hS dX9_hasRoom_18 (Nat.le_refl _) (Nat.le_refl _)
set_option maxHeartbeats 4000000 in
set_option maxRecDepth 100000 in
theorem sX_X9_append_1 (NF : Nat) (l : Launch) (dC : Nat → ClassId) (dI : Nat → Nat → Nat) (cy : Nat → ClassId) (x0 : Nat) (x : Nat → Nat) (p1 : Int32) (v : Nat → Int32) (f : Nat → Nat → Int32) (hIv : XI v)  : ctV l (dC, dI) cy yX9_append cX9_append 3 1 60 0 0 ((Nat → Int32) × (Nat → Nat → Int32)) [.ref (x 0), .int p1] (XW cy x0 x v f) (fun u => gsX_X9_append_1 NF p1 v f = u ∧ KV [1] u.1 v ∧ KF [0] u.2 f ∧ XI u.1 ∧ u.1 0 = v 0 ∧ u.1 7 = v 7 ∧ u.1 8 = v 8 ∧ u.1 9 = v 9 ∧ u.1 10 = v 10 ∧ u.1 31 = v 31 ∧ u.1 32 = v 32) (fun u => XW cy x0 x u.1 u.2) := by
  refine ctV_of (by decide) (Nat.le_of_ble_eq_true rfl) (fun p e s m below meth c A ls Q hx hb hml hts hown hnm hE hP hD hA hl ret => ?_)
  have hM_v : KV [1] v v := fun _ _ => rfl
  have hA_f : KF [0] f f := fun _ _ => rfl
  have hown : s.vm.findClass RX9 = some m.cls := hown
  have hS : va_S A s.heap s.heap [] := va_S.rf
  have hl : lv_has ls 3 [(0, .ref (x 0)), (1, .int p1)] := hl
  refine lv_bipush (v := 24) hx hb dX9_append_0 (by decide) ?_
  refine lv_istore_n (lv' := [(2, .int 24), (0, .ref (x 0)), (1, .int p1)]) hx hb dX9_append_2 rfl hl (by decide) rfl (fun ls hl => ?_)
  have lp1 : ∀ (n1 : Nat) (l2_1 : Int32) (v1 : Nat → Int32) (f1 : Nat → Nat → Int32), XI v1 → v1 0 = (v 0) → v1 7 = (v 7) → v1 8 = (v 8) → v1 9 = (v 9) → v1 10 = (v 10) → v1 31 = (v 31) → v1 32 = (v 32) → gsX_X9_append_1_L1 NF p1 n1 l2_1 v1 f1 = (gsX_X9_append_1 NF p1 v f) → ((-2147483648 : Int) ≤ l2_1.toInt ∧ l2_1.toInt ≤ 24) → KV [1] v1 v → KF [0] f1 f → (l2_1.toInt + 2147483648).toNat < n1 → ∀ (H : Heap) (locs : List Loc) (ls : Array Slot), va_P (dC, dI) vwCl (XW cy x0 x v1 f1) H → va_D A (XW cy x0 x v1 f1) → va_S A s.heap H locs → lv_has ls 3 [(2, .int l2_1), (0, .ref (x 0)), (1, .int p1)] → W p l e { frames := 1, cells := 0, slots := 0, locals := 60 } s m ([.ref (x 0), .int p1] : List Value).toArray below meth c H locs 0 0 Q (F0 m 3 ls []) := by
    intro n1
    induction n1 with
    | zero => intro l2_1 v1 f1 hIv1 hq0_v1 hq7_v1 hq8_v1 hq9_v1 hq10_v1 hq31_v1 hq32_v1 hT1 hr2_1 hM_v1 hA_f1 hm; exact absurd hm (Nat.not_lt_zero _)
    | succ n1 ih1 =>
      intro l2_1 v1 f1 hIv1 hq0_v1 hq7_v1 hq8_v1 hq9_v1 hq10_v1 hq31_v1 hq32_v1 hT1 hr2_1 hM_v1 hA_f1 hm1 H locs ls hP hD hS hl
      refine lv_iload_n hx hb dX9_append_3 rfl (lv_at hl 0 rfl) ?_
      refine lv_if_lt (tgt := 46) hx hb dX9_append_4 (by decide) (fun c2 => ?_) (fun c2 => ?_)
      · skip
        have zc2 : l2_1.toInt < 0 := by rw [fa_lt, show (0 : Int32).toInt = 0 from by decide] at c2; exact c2
        exact ret (v1, f1) _ _ _ _ _ _ ⟨(hT1.symm.trans (gsX_X9_append_1_q0 c2)), hM_v1, hA_f1, hIv1, (show v1 0 = v 0 from hq0_v1), (show v1 7 = v 7 from hq7_v1), (show v1 8 = v 8 from hq8_v1), (show v1 9 = v 9 from hq9_v1), (show v1 10 = v 10 from hq10_v1), (show v1 31 = v 31 from hq31_v1), (show v1 32 = v 32 from hq32_v1)⟩ hP hD hS dX9_append_46 (Nat.le_refl _) (Nat.le_refl _)
      · skip
        have zc2 : ¬ (l2_1.toInt < 0) := by rw [fa_lt, show (0 : Int32).toInt = 0 from by decide] at c2; exact c2
        refine lv_aload_n hx hb dX9_append_7 rfl (lv_at hl 1 rfl) ?_
        refine va_get (D := (dC, dI)) (ci := 9) (v := .int (v1 1)) (C := RX9) (T := TX9) (N := 6) hx hb hts inB_9 hown hE.1 hP 1 rfl rfl 1 (by decide) (hts _ k_137) (fun _ h9 => h9) rfl dX9_append_8 ?_
        have b1_v1 : 0 ≤ (v1 1).toInt ∧ (v1 1).toInt ≤ 1600 := XI.b hIv1 1 (by decide)
        refine lv_sipush (v := 1600) hx hb dX9_append_11 (by decide) ?_
        refine lv_icmp_ge (tgt := 46) hx hb dX9_append_14 (by decide) (fun c3 => ?_) (fun c3 => ?_)
        · skip
          have zc3 : 1600 ≤ (v1 1).toInt := by rw [fa_le, show (1600 : Int32).toInt = 1600 from by decide] at c3; exact c3
          exact ret (v1, f1) _ _ _ _ _ _ ⟨(hT1.symm.trans (gsX_X9_append_1_q1 c2 c3)), hM_v1, hA_f1, hIv1, (show v1 0 = v 0 from hq0_v1), (show v1 7 = v 7 from hq7_v1), (show v1 8 = v 8 from hq8_v1), (show v1 9 = v 9 from hq9_v1), (show v1 10 = v 10 from hq10_v1), (show v1 31 = v 31 from hq31_v1), (show v1 32 = v 32 from hq32_v1)⟩ hP hD hS dX9_append_46 (Nat.le_refl _) (Nat.le_refl _)
        · skip
          have zc3 : ¬ (1600 ≤ (v1 1).toInt) := by rw [fa_le, show (1600 : Int32).toInt = 1600 from by decide] at c3; exact c3
          refine lv_aload_n hx hb dX9_append_17 rfl (lv_at hl 1 rfl) ?_
          refine va_get (D := (dC, dI)) (ci := 9) (v := .ref (x 1)) (C := RX9) (T := TX9) (N := 6) hx hb hts inB_9 hown hE.1 hP 1 rfl rfl 0 (by decide) (hts _ k_136) (fun _ h9 => h9) rfl dX9_append_18 ?_
          refine lv_aload_n hx hb dX9_append_21 rfl (lv_at hl 1 rfl) ?_
          refine va_get (D := (dC, dI)) (ci := 9) (v := .int (v1 1)) (C := RX9) (T := TX9) (N := 6) hx hb hts inB_9 hown hE.1 hP 1 rfl rfl 1 (by decide) (hts _ k_137) (fun _ h9 => h9) rfl dX9_append_22 ?_
          refine lv_iload_n hx hb dX9_append_25 rfl (lv_at hl 2 rfl) ?_
          refine lv_iload_n hx hb dX9_append_26 rfl (lv_at hl 0 rfl) ?_
          refine lv_ishr hx hb dX9_append_27 ?_
          refine lv_topi (fun t4 et4 => ?_)
          refine lv_i2b hx hb dX9_append_28 rfl ?_
          refine lv_topi (fun t5 et5 => ?_)
          refine stB hx hb hE hP hD hS 2 rfl (vp_in_iff.mpr ⟨by omega, by omega⟩) rfl dX9_append_29 (fun H locs hP hD hS => ?_)
          obtain ⟨f6, ef6, hP, hD⟩ : ∃ fz9, fz9 = upd2 f1 0 (upd (f1 0) (v1 1).toNatClampNeg (vp_nar .byte t5)) ∧ va_P (dC, dI) vwCl (XW cy x0 x v1 fz9) H ∧ va_D A (XW cy x0 x v1 fz9) := ⟨_, rfl, hP, hD⟩
          have hA_f6 : KF [0] f6 f := by rw [ef6]; exact KF.up hA_f1 rfl
          refine lv_aload_n hx hb dX9_append_30 rfl (lv_at hl 1 rfl) ?_
          refine lv_dup hx hb dX9_append_31 rfl ?_
          refine va_get (D := (dC, dI)) (ci := 9) (v := .int (v1 1)) (C := RX9) (T := TX9) (N := 6) hx hb hts inB_9 hown hE.1 hP 1 rfl rfl 1 (by decide) (hts _ k_137) (fun _ h9 => h9) rfl dX9_append_32 ?_
          refine lv_iconst (v := 1) hx hb dX9_append_35 (by decide) ?_
          refine lv_iadd hx hb dX9_append_36 ?_
          refine lv_topi (fun t7 et7 => ?_)
          have rg8 := fb_rng (v1 1)
          have zt7 : t7.toInt = (v1 1).toInt + 1 := by rw [et7]; exact add_i rfl (by decide) (by omega) (by omega)
          refine va_put (D := (dC, dI)) (ci := 9) (v := .int t7) (ty := tyX9 1) (C := RX9) (T := TX9) (N := 6) hx hb hts inB_9 tyX9 tyX9_ok nmX9 hown hE.1 hP hD hS 1 rfl rfl 1 (by decide) (hts _ k_137) (fun _ h9 => h9) rfl (tyX9_ok 1 (by decide)) rfl rfl (Nat.le_of_ble_eq_true rfl) dX9_append_37 (fun H locs hP hD hS => ?_)
          have hP : va_P (dC, dI) vwCl (XW cy x0 x (upd v1 1 t7) f6) H := hP
          have hD : va_D A (XW cy x0 x (upd v1 1 t7) f6) := hD
          obtain ⟨t9, et9⟩ : ∃ y : Int32, y = l2_1 + (-8) := ⟨_, rfl⟩
          have rg10 := fb_rng l2_1
          have zt9 : t9.toInt = l2_1.toInt + (-8) := by rw [et9]; exact add_i rfl (by decide) (by omega) (by omega)
          refine lv_iinc (v := t9) (lv' := [(2, .int t9), (0, .ref (x 0)), (1, .int p1)]) hx hb dX9_append_40 hl (k := 0) rfl (by rw [et9]; rfl) (by decide) rfl (fun ls hl => ?_)
          refine lv_goto (tgt := 3) hx hb dX9_append_43 (by decide) ?_
          have rg11 := fb_rng t9
          exact ih1 t9 (upd v1 1 t7) f6 (XI.upd (j := 1) (x := t7) hIv1 (show (0 : Int) ≤ t7.toInt by omega) (show t7.toInt ≤ (1600 : Int) by omega)) hq0_v1 hq7_v1 hq8_v1 hq9_v1 hq10_v1 hq31_v1 hq32_v1 ((gsX_X9_append_1_q2 c2 c3 et4 et5 ef6 et7 et9).symm.trans hT1) ⟨show (-2147483648 : Int) ≤ t9.toInt by omega, show t9.toInt ≤ (24 : Int) by omega⟩ (KV.up (j := 1) (x := t7) hM_v1 rfl) hA_f6 (by show (t9.toInt + 2147483648).toNat < n1; omega) _ _ _ hP hD hS (lv_sub hl [0, 1, 2] rfl)
  exact lp1 (4294967296 + NF) 24 v f hIv rfl rfl rfl rfl rfl rfl rfl gsX_X9_append_1_q3.symm ⟨by decide, by decide⟩ hM_v hA_f (by have q2 : (24 : Int32).toInt = 24 := (by decide); show ((24 : Int32).toInt + 2147483648).toNat < 4294967296 + NF; omega) _ _ _ hP hD hS (lv_sub hl [0, 1, 2] rfl)
set_option maxHeartbeats 4000000 in
set_option maxRecDepth 100000 in
theorem sX_X10_feed_1 (NF : Nat) (l : Launch) (dC : Nat → ClassId) (dI : Nat → Nat → Nat) (cy : Nat → ClassId) (x0 : Nat) (x : Nat → Nat) (p1 : Int32) (p2 : Int32) (p3 : Int32) (p4 : Int32) (p5 : Int32) (v : Nat → Int32) (f : Nat → Nat → Int32) (hIv : XI v)  : ctI l (dC, dI) cy yX10_feed cX10_feed 6 .int 2 82 0 0 ((Nat → Int32) × (Nat → Nat → Int32)) [.ref x0, .int p1, .int p2, .int p3, .int p4, .int p5] (XW cy x0 x v f) (fun r u => gsX_X10_feed_1 NF p1 p2 p3 p4 p5 v f = (r, u) ∧ KV [1] u.1 v ∧ KF [0] u.2 f ∧ XI u.1 ∧ u.1 0 = v 0 ∧ u.1 7 = v 7 ∧ u.1 8 = v 8 ∧ u.1 9 = v 9 ∧ u.1 10 = v 10 ∧ u.1 31 = v 31 ∧ u.1 32 = v 32) (fun u => XW cy x0 x u.1 u.2) := by
  refine ctI_of (by decide) (Nat.le_of_ble_eq_true rfl) (fun p e s m below meth c A ls Q hx hb hml hts hown hE hP hD hA hl ret => ?_)
  have hM_v : KV [1] v v := fun _ _ => rfl
  have hA_f : KF [0] f f := fun _ _ => rfl
  have hown : s.vm.findClass RX10 = some m.cls := hown
  have hS : va_S A s.heap s.heap [] := va_S.rf
  have hl : lv_has ls 6 [(0, .ref x0), (1, .int p1), (2, .int p2), (3, .int p3), (4, .int p4), (5, .int p5)] := hl
  refine lv_aload_n hx hb dX10_feed_0 rfl (lv_at hl 0 rfl) ?_
  refine va_get (D := (dC, dI)) (ci := 10) (v := .ref (x 0)) (C := RX10) (T := TX10) (N := 10) hx hb hts inB_10 hown hE.1 hP 0 rfl rfl 0 (by decide) (hts _ k_491) (fun _ h9 => h9) rfl dX10_feed_1 ?_
  refine cbVi (n := 0) (rest := []) hx hb hml hown hts hE hP hD hS hA (sX_X9_hasRoom_1 NF l dC dI cy x0 x  v f hIv ) k_526 k_527 k_528 k_102 k_529 (by decide +kernel) ⟨Nat.le_of_ble_eq_true rfl, Nat.le_of_ble_eq_true rfl⟩ 1 9 rfl rfl (rfl) hl.1 rfl (Nat.le_of_ble_eq_true rfl) dX10_feed_4 (fun r1 u H locs hw hP hD hS => ?_)
  obtain ⟨hG2, hw⟩ := hw
  rcases hw with ⟨g3⟩ | ⟨g3⟩
  · skip
    subst g3
    refine lv_if_ne (tgt := 12) hx hb dX10_feed_7 (by decide) (fun _ => ?_) (fun c0 => absurd c0 (by decide))
    refine lv_aload_n hx hb dX10_feed_12 rfl (lv_at hl 0 rfl) ?_
    refine va_get (D := (dC, dI)) (ci := 10) (v := .ref (x 0)) (C := RX10) (T := TX10) (N := 10) hx hb hts inB_10 hown hE.1 hP 0 rfl rfl 0 (by decide) (hts _ k_491) (fun _ h9 => h9) rfl dX10_feed_13 ?_
    refine lv_iload_n hx hb dX10_feed_16 rfl (lv_at hl 1 rfl) ?_
    refine cbVv (n := 1) (rest := []) hx hb hml hown hts hE hP hD hS hA (sX_X9_append_1 NF l dC dI cy x0 x p1 v f hIv ) k_530 k_531 k_532 k_102 k_533 (by decide +kernel) ⟨Nat.le_of_ble_eq_true rfl, Nat.le_of_ble_eq_true rfl⟩ 1 9 rfl rfl (rfl) hl.1 rfl (Nat.le_of_ble_eq_true rfl) dX10_feed_17 (fun u H locs hw hP hD hS => ?_)
    obtain ⟨hG4, hw⟩ := hw
    obtain ⟨v5, f6⟩ := u
    obtain ⟨kV_v5, kF_f6, hIv5, hk0_v5, hk7_v5, hk8_v5, hk9_v5, hk10_v5, hk31_v5, hk32_v5⟩ := hw
    have hM_v5 : KV [1] v5 v := KV.tr kV_v5 hM_v rfl
    have hA_f6 : KF [0] f6 f := KF.tr kF_f6 hA_f rfl
    have hP : va_P (dC, dI) vwCl (XW cy x0 x v5 f6) H := hP
    have hD : va_D A (XW cy x0 x v5 f6) := hD
    have hq0_v5 : v5 0 = (v 0) := hk0_v5
    have hq7_v5 : v5 7 = (v 7) := hk7_v5
    have hq8_v5 : v5 8 = (v 8) := hk8_v5
    have hq9_v5 : v5 9 = (v 9) := hk9_v5
    have hq10_v5 : v5 10 = (v 10) := hk10_v5
    have hq31_v5 : v5 31 = (v 31) := hk31_v5
    have hq32_v5 : v5 32 = (v 32) := hk32_v5
    refine lv_aload_n hx hb dX10_feed_20 rfl (lv_at hl 0 rfl) ?_
    refine va_get (D := (dC, dI)) (ci := 10) (v := .ref (x 0)) (C := RX10) (T := TX10) (N := 10) hx hb hts inB_10 hown hE.1 hP 0 rfl rfl 0 (by decide) (hts _ k_491) (fun _ h9 => h9) rfl dX10_feed_21 ?_
    refine lv_iload_n hx hb dX10_feed_24 rfl (lv_at hl 2 rfl) ?_
    refine cbVv (n := 1) (rest := []) hx hb hml hown hts hE hP hD hS hA (sX_X9_append_1 NF l dC dI cy x0 x p2 v5 f6 hIv5 ) k_530 k_531 k_532 k_102 k_533 (by decide +kernel) ⟨Nat.le_of_ble_eq_true rfl, Nat.le_of_ble_eq_true rfl⟩ 1 9 rfl rfl (rfl) hl.1 rfl (Nat.le_of_ble_eq_true rfl) dX10_feed_25 (fun u H locs hw hP hD hS => ?_)
    obtain ⟨hG7, hw⟩ := hw
    obtain ⟨v8, f9⟩ := u
    obtain ⟨kV_v8, kF_f9, hIv8, hk0_v8, hk7_v8, hk8_v8, hk9_v8, hk10_v8, hk31_v8, hk32_v8⟩ := hw
    have hM_v8 : KV [1] v8 v := KV.tr kV_v8 hM_v5 rfl
    have hA_f9 : KF [0] f9 f := KF.tr kF_f9 hA_f6 rfl
    have hP : va_P (dC, dI) vwCl (XW cy x0 x v8 f9) H := hP
    have hD : va_D A (XW cy x0 x v8 f9) := hD
    have hq0_v8 : v8 0 = (v 0) := hk0_v8.trans hq0_v5
    have hq7_v8 : v8 7 = (v 7) := hk7_v8.trans hq7_v5
    have hq8_v8 : v8 8 = (v 8) := hk8_v8.trans hq8_v5
    have hq9_v8 : v8 9 = (v 9) := hk9_v8.trans hq9_v5
    have hq10_v8 : v8 10 = (v 10) := hk10_v8.trans hq10_v5
    have hq31_v8 : v8 31 = (v 31) := hk31_v8.trans hq31_v5
    have hq32_v8 : v8 32 = (v 32) := hk32_v8.trans hq32_v5
    refine lv_aload_n hx hb dX10_feed_28 rfl (lv_at hl 0 rfl) ?_
    refine va_get (D := (dC, dI)) (ci := 10) (v := .ref (x 0)) (C := RX10) (T := TX10) (N := 10) hx hb hts inB_10 hown hE.1 hP 0 rfl rfl 0 (by decide) (hts _ k_491) (fun _ h9 => h9) rfl dX10_feed_29 ?_
    refine lv_iload_n hx hb dX10_feed_32 rfl (lv_at hl 3 rfl) ?_
    refine cbVv (n := 1) (rest := []) hx hb hml hown hts hE hP hD hS hA (sX_X9_append_1 NF l dC dI cy x0 x p3 v8 f9 hIv8 ) k_530 k_531 k_532 k_102 k_533 (by decide +kernel) ⟨Nat.le_of_ble_eq_true rfl, Nat.le_of_ble_eq_true rfl⟩ 1 9 rfl rfl (rfl) hl.1 rfl (Nat.le_of_ble_eq_true rfl) dX10_feed_33 (fun u H locs hw hP hD hS => ?_)
    obtain ⟨hG10, hw⟩ := hw
    obtain ⟨v11, f12⟩ := u
    obtain ⟨kV_v11, kF_f12, hIv11, hk0_v11, hk7_v11, hk8_v11, hk9_v11, hk10_v11, hk31_v11, hk32_v11⟩ := hw
    have hM_v11 : KV [1] v11 v := KV.tr kV_v11 hM_v8 rfl
    have hA_f12 : KF [0] f12 f := KF.tr kF_f12 hA_f9 rfl
    have hP : va_P (dC, dI) vwCl (XW cy x0 x v11 f12) H := hP
    have hD : va_D A (XW cy x0 x v11 f12) := hD
    have hq0_v11 : v11 0 = (v 0) := hk0_v11.trans hq0_v8
    have hq7_v11 : v11 7 = (v 7) := hk7_v11.trans hq7_v8
    have hq8_v11 : v11 8 = (v 8) := hk8_v11.trans hq8_v8
    have hq9_v11 : v11 9 = (v 9) := hk9_v11.trans hq9_v8
    have hq10_v11 : v11 10 = (v 10) := hk10_v11.trans hq10_v8
    have hq31_v11 : v11 31 = (v 31) := hk31_v11.trans hq31_v8
    have hq32_v11 : v11 32 = (v 32) := hk32_v11.trans hq32_v8
    refine lv_aload_n hx hb dX10_feed_36 rfl (lv_at hl 0 rfl) ?_
    refine va_get (D := (dC, dI)) (ci := 10) (v := .ref (x 0)) (C := RX10) (T := TX10) (N := 10) hx hb hts inB_10 hown hE.1 hP 0 rfl rfl 0 (by decide) (hts _ k_491) (fun _ h9 => h9) rfl dX10_feed_37 ?_
    refine lv_iload hx hb dX10_feed_40 (lv_at hl 4 rfl) ?_
    refine cbVv (n := 1) (rest := []) hx hb hml hown hts hE hP hD hS hA (sX_X9_append_1 NF l dC dI cy x0 x p4 v11 f12 hIv11 ) k_530 k_531 k_532 k_102 k_533 (by decide +kernel) ⟨Nat.le_of_ble_eq_true rfl, Nat.le_of_ble_eq_true rfl⟩ 1 9 rfl rfl (rfl) hl.1 rfl (Nat.le_of_ble_eq_true rfl) dX10_feed_42 (fun u H locs hw hP hD hS => ?_)
    obtain ⟨hG13, hw⟩ := hw
    obtain ⟨v14, f15⟩ := u
    obtain ⟨kV_v14, kF_f15, hIv14, hk0_v14, hk7_v14, hk8_v14, hk9_v14, hk10_v14, hk31_v14, hk32_v14⟩ := hw
    have hM_v14 : KV [1] v14 v := KV.tr kV_v14 hM_v11 rfl
    have hA_f15 : KF [0] f15 f := KF.tr kF_f15 hA_f12 rfl
    have hP : va_P (dC, dI) vwCl (XW cy x0 x v14 f15) H := hP
    have hD : va_D A (XW cy x0 x v14 f15) := hD
    have hq0_v14 : v14 0 = (v 0) := hk0_v14.trans hq0_v11
    have hq7_v14 : v14 7 = (v 7) := hk7_v14.trans hq7_v11
    have hq8_v14 : v14 8 = (v 8) := hk8_v14.trans hq8_v11
    have hq9_v14 : v14 9 = (v 9) := hk9_v14.trans hq9_v11
    have hq10_v14 : v14 10 = (v 10) := hk10_v14.trans hq10_v11
    have hq31_v14 : v14 31 = (v 31) := hk31_v14.trans hq31_v11
    have hq32_v14 : v14 32 = (v 32) := hk32_v14.trans hq32_v11
    refine lv_aload_n hx hb dX10_feed_45 rfl (lv_at hl 0 rfl) ?_
    refine va_get (D := (dC, dI)) (ci := 10) (v := .ref (x 0)) (C := RX10) (T := TX10) (N := 10) hx hb hts inB_10 hown hE.1 hP 0 rfl rfl 0 (by decide) (hts _ k_491) (fun _ h9 => h9) rfl dX10_feed_46 ?_
    refine lv_iload hx hb dX10_feed_49 (lv_at hl 5 rfl) ?_
    refine cbVv (n := 1) (rest := []) hx hb hml hown hts hE hP hD hS hA (sX_X9_append_1 NF l dC dI cy x0 x p5 v14 f15 hIv14 ) k_530 k_531 k_532 k_102 k_533 (by decide +kernel) ⟨Nat.le_of_ble_eq_true rfl, Nat.le_of_ble_eq_true rfl⟩ 1 9 rfl rfl (rfl) hl.1 rfl (Nat.le_of_ble_eq_true rfl) dX10_feed_51 (fun u H locs hw hP hD hS => ?_)
    obtain ⟨hG16, hw⟩ := hw
    obtain ⟨v17, f18⟩ := u
    obtain ⟨kV_v17, kF_f18, hIv17, hk0_v17, hk7_v17, hk8_v17, hk9_v17, hk10_v17, hk31_v17, hk32_v17⟩ := hw
    have hM_v17 : KV [1] v17 v := KV.tr kV_v17 hM_v14 rfl
    have hA_f18 : KF [0] f18 f := KF.tr kF_f18 hA_f15 rfl
    have hP : va_P (dC, dI) vwCl (XW cy x0 x v17 f18) H := hP
    have hD : va_D A (XW cy x0 x v17 f18) := hD
    have hq0_v17 : v17 0 = (v 0) := hk0_v17.trans hq0_v14
    have hq7_v17 : v17 7 = (v 7) := hk7_v17.trans hq7_v14
    have hq8_v17 : v17 8 = (v 8) := hk8_v17.trans hq8_v14
    have hq9_v17 : v17 9 = (v 9) := hk9_v17.trans hq9_v14
    have hq10_v17 : v17 10 = (v 10) := hk10_v17.trans hq10_v14
    have hq31_v17 : v17 31 = (v 31) := hk31_v17.trans hq31_v14
    have hq32_v17 : v17 32 = (v 32) := hk32_v17.trans hq32_v14
    refine lv_aload_n hx hb dX10_feed_54 rfl (lv_at hl 0 rfl) ?_
    refine va_get (D := (dC, dI)) (ci := 10) (v := .ref (x 0)) (C := RX10) (T := TX10) (N := 10) hx hb hts inB_10 hown hE.1 hP 0 rfl rfl 0 (by decide) (hts _ k_491) (fun _ h9 => h9) rfl dX10_feed_55 ?_
    refine va_getN (D := (dC, dI)) (ci := 9) (v := .int (v17 1)) (C := RX9) (T := TX9) (N := 6) hx hb hts inB_9 hown hE.1 hP 1 rfl rfl 1 (by decide) (va_Nw.use rfl (hE.2 _ k_138)) (fun _ h9 => h9) rfl dX10_feed_58 ?_
    have b1_v17 : 0 ≤ (v17 1).toInt ∧ (v17 1).toInt ≤ 1600 := XI.b hIv17 1 (by decide)
    exact ret (v17 1) (v17, f18) _ _ _ _ _ _ rfl ⟨(gsX_X10_feed_1_q0 hG2 hG4 hG7 hG10 hG13 hG16), hM_v17, hA_f18, hIv17, (hk0_v17.trans (hk0_v14.trans (hk0_v11.trans (hk0_v8.trans hk0_v5)))), (hk7_v17.trans (hk7_v14.trans (hk7_v11.trans (hk7_v8.trans hk7_v5)))), (hk8_v17.trans (hk8_v14.trans (hk8_v11.trans (hk8_v8.trans hk8_v5)))), (hk9_v17.trans (hk9_v14.trans (hk9_v11.trans (hk9_v8.trans hk9_v5)))), (hk10_v17.trans (hk10_v14.trans (hk10_v11.trans (hk10_v8.trans hk10_v5)))), (hk31_v17.trans (hk31_v14.trans (hk31_v11.trans (hk31_v8.trans hk31_v5)))), (hk32_v17.trans (hk32_v14.trans (hk32_v11.trans (hk32_v8.trans hk32_v5))))⟩ hP hD hS dX10_feed_61 (Nat.le_refl _) (Nat.le_refl _)
  · skip
    subst g3
    refine lv_if_ne (tgt := 12) hx hb dX10_feed_7 (by decide) (fun c0 => absurd (by decide) c0) (fun _ => ?_)
    refine lv_iconst (v := (-1)) hx hb dX10_feed_10 (by decide) ?_
    exact ret (-1) (v, f) _ _ _ _ _ _ rfl ⟨(gsX_X10_feed_1_q1 hG2), hM_v, hA_f, hIv, rfl, rfl, rfl, rfl, rfl, rfl, rfl⟩ hP hD hS dX10_feed_11 (Nat.le_refl _) (Nat.le_refl _)
set_option maxHeartbeats 4000000 in
set_option maxRecDepth 100000 in
theorem sX_X10_end_1 (NF : Nat) (l : Launch) (dC : Nat → ClassId) (dI : Nat → Nat → Nat) (cy : Nat → ClassId) (x0 : Nat) (x : Nat → Nat) (p1 : Int32) (v : Nat → Int32) (f : Nat → Nat → Int32) (hIv : XI v)  : ctI l (dC, dI) cy yX10_end cX10_end 2 .int 1 60 0 0 ((Nat → Int32) × (Nat → Nat → Int32)) [.ref x0, .int p1] (XW cy x0 x v f) (fun r u => gsX_X10_end_1 NF p1 v f = (r, u) ∧ KV [1] u.1 v ∧ KF [] u.2 f ∧ XI u.1 ∧ u.1 0 = v 0 ∧ u.1 7 = v 7 ∧ u.1 8 = v 8 ∧ u.1 9 = v 9 ∧ u.1 10 = v 10 ∧ u.1 31 = v 31 ∧ u.1 32 = v 32) (fun u => XW cy x0 x u.1 u.2) := by
  refine ctI_of (by decide) (Nat.le_of_ble_eq_true rfl) (fun p e s m below meth c A ls Q hx hb hml hts hown hE hP hD hA hl ret => ?_)
  have hM_v : KV [1] v v := fun _ _ => rfl
  have hA_f : KF [] f f := fun _ _ => rfl
  have hown : s.vm.findClass RX10 = some m.cls := hown
  have hS : va_S A s.heap s.heap [] := va_S.rf
  have hl : lv_has ls 2 [(0, .ref x0), (1, .int p1)] := hl
  refine lv_iload_n hx hb dX10_end_0 rfl (lv_at hl 1 rfl) ?_
  refine lv_if_lt (tgt := 15) hx hb dX10_end_1 (by decide) (fun c1 => ?_) (fun c1 => ?_)
  · skip
    have zc1 : p1.toInt < 0 := by rw [fa_lt, show (0 : Int32).toInt = 0 from by decide] at c1; exact c1
    refine lv_iconst (v := (-1)) hx hb dX10_end_15 (by decide) ?_
    exact ret (-1) (v, f) _ _ _ _ _ _ rfl ⟨(gsX_X10_end_1_q0 c1), hM_v, hA_f, hIv, rfl, rfl, rfl, rfl, rfl, rfl, rfl⟩ hP hD hS dX10_end_16 (Nat.le_refl _) (Nat.le_refl _)
  · skip
    have zc1 : ¬ (p1.toInt < 0) := by rw [fa_lt, show (0 : Int32).toInt = 0 from by decide] at c1; exact c1
    refine lv_iload_n hx hb dX10_end_4 rfl (lv_at hl 1 rfl) ?_
    refine lv_aload_n hx hb dX10_end_5 rfl (lv_at hl 0 rfl) ?_
    refine va_get (D := (dC, dI)) (ci := 10) (v := .ref (x 0)) (C := RX10) (T := TX10) (N := 10) hx hb hts inB_10 hown hE.1 hP 0 rfl rfl 0 (by decide) (hts _ k_491) (fun _ h9 => h9) rfl dX10_end_6 ?_
    refine va_getN (D := (dC, dI)) (ci := 9) (v := .int (v 1)) (C := RX9) (T := TX9) (N := 6) hx hb hts inB_9 hown hE.1 hP 1 rfl rfl 1 (by decide) (va_Nw.use rfl (hE.2 _ k_138)) (fun _ h9 => h9) rfl dX10_end_9 ?_
    have b1_v : 0 ≤ (v 1).toInt ∧ (v 1).toInt ≤ 1600 := XI.b hIv 1 (by decide)
    refine lv_icmp_le (tgt := 17) hx hb dX10_end_12 (by decide) (fun c2 => ?_) (fun c2 => ?_)
    · skip
      have zc2 : p1.toInt ≤ (v 1).toInt := by rw [fa_le] at c2; exact c2
      have rg3 := fb_rng p1
      have rg4 := fb_rng (v 1)
      refine lv_aload_n hx hb dX10_end_17 rfl (lv_at hl 0 rfl) ?_
      refine va_get (D := (dC, dI)) (ci := 10) (v := .ref (x 0)) (C := RX10) (T := TX10) (N := 10) hx hb hts inB_10 hown hE.1 hP 0 rfl rfl 0 (by decide) (hts _ k_491) (fun _ h9 => h9) rfl dX10_end_18 ?_
      refine lv_iload_n hx hb dX10_end_21 rfl (lv_at hl 1 rfl) ?_
      refine va_putN (D := (dC, dI)) (ci := 9) (v := .int p1) (ty := tyX9 1) (C := RX9) (T := TX9) (N := 6) hx hb hts inB_9 tyX9 tyX9_ok nmX9 hown hE.1 hP hD hS 1 rfl rfl 1 (by decide) (va_Nw.use rfl (hE.2 _ k_138)) (fun _ h9 => h9) rfl (tyX9_ok 1 (by decide)) rfl rfl (Nat.le_of_ble_eq_true rfl) dX10_end_22 (fun H locs hP hD hS => ?_)
      have hP : va_P (dC, dI) vwCl (XW cy x0 x (upd v 1 p1) f) H := hP
      have hD : va_D A (XW cy x0 x (upd v 1 p1) f) := hD
      refine lv_iload_n hx hb dX10_end_25 rfl (lv_at hl 1 rfl) ?_
      exact ret p1 ((upd v 1 p1), f) _ _ _ _ _ _ rfl ⟨(gsX_X10_end_1_q1 c1 c2), (KV.up (j := 1) (x := p1) hM_v rfl), hA_f, (XI.upd (j := 1) (x := p1) hIv (show (0 : Int) ≤ p1.toInt by omega) (show p1.toInt ≤ (1600 : Int) by omega)), rfl, rfl, rfl, rfl, rfl, rfl, rfl⟩ hP hD hS dX10_end_26 (Nat.le_refl _) (Nat.le_refl _)
    · skip
      have zc2 : ¬ (p1.toInt ≤ (v 1).toInt) := by rw [fa_le] at c2; exact c2
      have rg5 := fb_rng p1
      have rg6 := fb_rng (v 1)
      refine lv_iconst (v := (-1)) hx hb dX10_end_15 (by decide) ?_
      exact ret (-1) (v, f) _ _ _ _ _ _ rfl ⟨(gsX_X10_end_1_q2 c1 c2), hM_v, hA_f, hIv, rfl, rfl, rfl, rfl, rfl, rfl, rfl⟩ hP hD hS dX10_end_16 (Nat.le_refl _) (Nat.le_refl _)
set_option maxHeartbeats 4000000 in
set_option maxRecDepth 100000 in
theorem sX_X10_fault_1 (NF : Nat) (l : Launch) (dC : Nat → ClassId) (dI : Nat → Nat → Nat) (cy : Nat → ClassId) (x0 : Nat) (x : Nat → Nat) (p1 : Int32) (v : Nat → Int32) (f : Nat → Nat → Int32) (hIv : XI v)  : ctI l (dC, dI) cy yX10_fault cX10_fault 2 .int 1 60 0 0 Unit [.ref x0, .int p1] (XW cy x0 x v f) (fun r u => gsX_X10_fault_1 NF p1 v f = r) (fun u => XW cy x0 x v f) := by
  refine ctI_of (by decide) (Nat.le_of_ble_eq_true rfl) (fun p e s m below meth c A ls Q hx hb hml hts hown hE hP hD hA hl ret => ?_)
  have hown : s.vm.findClass RX10 = some m.cls := hown
  have hS : va_S A s.heap s.heap [] := va_S.rf
  have hl : lv_has ls 2 [(0, .ref x0), (1, .int p1)] := hl
  refine lv_iload_n hx hb dX10_fault_0 rfl (lv_at hl 1 rfl) ?_
  refine lv_if_ne (tgt := 14) hx hb dX10_fault_1 (by decide) (fun c1 => ?_) (fun c1 => ?_)
  · skip
    have zc1 : ¬ (p1.toInt = 0) := by rw [fa_eq, show (0 : Int32).toInt = 0 from by decide] at c1; exact c1
    refine lv_iload_n hx hb dX10_fault_14 rfl (lv_at hl 1 rfl) ?_
    refine lv_iconst (v := 1) hx hb dX10_fault_15 (by decide) ?_
    refine lv_icmp_ne (tgt := 29) hx hb dX10_fault_16 (by decide) (fun c2 => ?_) (fun c2 => ?_)
    · skip
      have zc2 : ¬ (p1.toInt = 1) := by rw [fa_eq, show (1 : Int32).toInt = 1 from by decide] at c2; exact c2
      refine lv_iconst (v := (-1)) hx hb dX10_fault_29 (by decide) ?_
      exact ret (-1) () _ _ _ _ _ _ rfl (gsX_X10_fault_1_q0 c1 c2) hP hD hS dX10_fault_30 (Nat.le_refl _) (Nat.le_refl _)
    · skip
      have zc2 : p1.toInt = 1 := by rw [fa_eq, show (1 : Int32).toInt = 1 from by decide] at c2; exact c2
      refine lv_aload_n hx hb dX10_fault_19 rfl (lv_at hl 0 rfl) ?_
      refine va_get (D := (dC, dI)) (ci := 10) (v := .ref (x 2)) (C := RX10) (T := TX10) (N := 10) hx hb hts inB_10 hown hE.1 hP 0 rfl rfl 1 (by decide) (hts _ k_492) (fun _ h9 => h9) rfl dX10_fault_20 ?_
      refine va_getN (D := (dC, dI)) (ci := 6) (v := .int (v 8)) (C := RX6) (T := TX6) (N := 7) hx hb hts inB_6 hown hE.1 hP 3 rfl rfl 6 (by decide) (va_Nw.use rfl (hE.2 _ k_274)) (fun _ h9 => h9) rfl dX10_fault_23 ?_
      refine lv_goto (tgt := 30) hx hb dX10_fault_26 (by decide) ?_
      exact ret (v 8) () _ _ _ _ _ _ rfl (gsX_X10_fault_1_q1 c1 c2) hP hD hS dX10_fault_30 (Nat.le_refl _) (Nat.le_refl _)
  · skip
    have zc1 : p1.toInt = 0 := by rw [fa_eq, show (0 : Int32).toInt = 0 from by decide] at c1; exact c1
    refine lv_aload_n hx hb dX10_fault_4 rfl (lv_at hl 0 rfl) ?_
    refine va_get (D := (dC, dI)) (ci := 10) (v := .ref (x 2)) (C := RX10) (T := TX10) (N := 10) hx hb hts inB_10 hown hE.1 hP 0 rfl rfl 1 (by decide) (hts _ k_492) (fun _ h9 => h9) rfl dX10_fault_5 ?_
    refine va_getN (D := (dC, dI)) (ci := 6) (v := .int (v 7)) (C := RX6) (T := TX6) (N := 7) hx hb hts inB_6 hown hE.1 hP 3 rfl rfl 5 (by decide) (va_Nw.use rfl (hE.2 _ k_272)) (fun _ h9 => h9) rfl dX10_fault_8 ?_
    refine lv_goto (tgt := 30) hx hb dX10_fault_11 (by decide) ?_
    exact ret (v 7) () _ _ _ _ _ _ rfl (gsX_X10_fault_1_q2 c1) hP hD hS dX10_fault_30 (Nat.le_refl _) (Nat.le_refl _)
set_option maxHeartbeats 4000000 in
set_option maxRecDepth 100000 in
theorem sX_X4_clear_1 (NF : Nat) (l : Launch) (dC : Nat → ClassId) (dI : Nat → Nat → Nat) (cy : Nat → ClassId) (x0 : Nat) (x : Nat → Nat)  (v : Nat → Int32) (f : Nat → Nat → Int32) (hIv : XI v)  : ctV l (dC, dI) cy yX4_clear cX4_clear 1 1 60 0 0 ((Nat → Int32) × (Nat → Nat → Int32)) [.ref (x 6)] (XW cy x0 x v f) (fun u => gsX_X4_clear_1 NF v f = u ∧ KV [16, 17] u.1 v ∧ KF [] u.2 f ∧ XI u.1 ∧ u.1 0 = v 0 ∧ u.1 1 = v 1 ∧ u.1 7 = v 7 ∧ u.1 8 = v 8 ∧ u.1 9 = v 9 ∧ u.1 10 = v 10 ∧ u.1 31 = v 31 ∧ u.1 32 = v 32) (fun u => XW cy x0 x u.1 u.2) := by
  refine ctV_of (by decide) (Nat.le_of_ble_eq_true rfl) (fun p e s m below meth c A ls Q hx hb hml hts hown hnm hE hP hD hA hl ret => ?_)
  have hM_v : KV [16, 17] v v := fun _ _ => rfl
  have hA_f : KF [] f f := fun _ _ => rfl
  have hown : s.vm.findClass RX4 = some m.cls := hown
  have hS : va_S A s.heap s.heap [] := va_S.rf
  have hl : lv_has ls 1 [(0, .ref (x 6))] := hl
  refine lv_aload_n hx hb dX4_clear_0 rfl (lv_at hl 0 rfl) ?_
  refine lv_iconst (v := 0) hx hb dX4_clear_1 (by decide) ?_
  refine va_put (D := (dC, dI)) (ci := 4) (v := .int 0) (ty := tyX4 4) (C := RX4) (T := TX4) (N := 6) hx hb hts inB_4 tyX4 tyX4_ok nmX4 hown hE.1 hP hD hS 7 rfl rfl 4 (by decide) (hts _ k_182) (fun _ h9 => h9) rfl (tyX4_ok 4 (by decide)) rfl rfl (Nat.le_of_ble_eq_true rfl) dX4_clear_2 (fun H locs hP hD hS => ?_)
  have hP : va_P (dC, dI) vwCl (XW cy x0 x (upd v 16 0) f) H := hP
  have hD : va_D A (XW cy x0 x (upd v 16 0) f) := hD
  refine lv_aload_n hx hb dX4_clear_5 rfl (lv_at hl 0 rfl) ?_
  refine lv_iconst (v := 0) hx hb dX4_clear_6 (by decide) ?_
  refine va_put (D := (dC, dI)) (ci := 4) (v := .int 0) (ty := tyX4 5) (C := RX4) (T := TX4) (N := 6) hx hb hts inB_4 tyX4 tyX4_ok nmX4 hown hE.1 hP hD hS 7 rfl rfl 5 (by decide) (hts _ k_183) (fun _ h9 => h9) rfl (tyX4_ok 5 (by decide)) rfl rfl (Nat.le_of_ble_eq_true rfl) dX4_clear_7 (fun H locs hP hD hS => ?_)
  have hP : va_P (dC, dI) vwCl (XW cy x0 x (upd (upd v 16 0) 17 0) f) H := hP
  have hD : va_D A (XW cy x0 x (upd (upd v 16 0) 17 0) f) := hD
  exact ret ((upd (upd v 16 0) 17 0), f) _ _ _ _ _ _ ⟨gsX_X4_clear_1_q0, (KV.up (j := 17) (x := 0) (KV.up (j := 16) (x := 0) hM_v rfl) rfl), hA_f, (XI.upd (j := 17) (x := 0) (XI.upd (j := 16) (x := 0) hIv (by decide) (by decide)) (rlo _) (rhi _)), rfl, rfl, rfl, rfl, rfl, rfl, rfl, rfl⟩ hP hD hS dX4_clear_10 (Nat.le_refl _) (Nat.le_refl _)
set_option maxHeartbeats 4000000 in
set_option maxRecDepth 100000 in
theorem sX_X7_setDefaults_1 (NF : Nat) (l : Launch) (dC : Nat → ClassId) (dI : Nat → Nat → Nat) (cy : Nat → ClassId) (x0 : Nat) (x : Nat → Nat)  (v : Nat → Int32) (f : Nat → Nat → Int32) (hIv : XI v)  : ctV l (dC, dI) cy yX7_setDefaults cX7_setDefaults 1 1 60 0 0 ((Nat → Int32) × (Nat → Nat → Int32)) [.ref (x 3)] (XW cy x0 x v f) (fun u => gsX_X7_setDefaults_1 NF v f = u ∧ KV [11, 12, 13, 14, 15] u.1 v ∧ KF [] u.2 f ∧ XI u.1 ∧ u.1 0 = v 0 ∧ u.1 1 = v 1 ∧ u.1 7 = v 7 ∧ u.1 8 = v 8 ∧ u.1 9 = v 9 ∧ u.1 10 = v 10 ∧ u.1 31 = v 31 ∧ u.1 32 = v 32) (fun u => XW cy x0 x u.1 u.2) := by
  refine ctV_of (by decide) (Nat.le_of_ble_eq_true rfl) (fun p e s m below meth c A ls Q hx hb hml hts hown hnm hE hP hD hA hl ret => ?_)
  have hM_v : KV [11, 12, 13, 14, 15] v v := fun _ _ => rfl
  have hA_f : KF [] f f := fun _ _ => rfl
  have hown : s.vm.findClass RX7 = some m.cls := hown
  have hS : va_S A s.heap s.heap [] := va_S.rf
  have hl : lv_has ls 1 [(0, .ref (x 3))] := hl
  refine lv_aload_n hx hb dX7_setDefaults_0 rfl (lv_at hl 0 rfl) ?_
  refine lv_bipush (v := 10) hx hb dX7_setDefaults_1 (by decide) ?_
  refine va_put (D := (dC, dI)) (ci := 7) (v := .int 10) (ty := tyX7 5) (C := RX7) (T := TX7) (N := 10) hx hb hts inB_7 tyX7 tyX7_ok nmX7 hown hE.1 hP hD hS 4 rfl rfl 5 (by decide) (hts _ k_228) (fun _ h9 => h9) rfl (tyX7_ok 5 (by decide)) rfl rfl (Nat.le_of_ble_eq_true rfl) dX7_setDefaults_3 (fun H locs hP hD hS => ?_)
  have hP : va_P (dC, dI) vwCl (XW cy x0 x (upd v 11 10) f) H := hP
  have hD : va_D A (XW cy x0 x (upd v 11 10) f) := hD
  refine lv_aload_n hx hb dX7_setDefaults_6 rfl (lv_at hl 0 rfl) ?_
  refine lv_sipush (v := 150) hx hb dX7_setDefaults_7 (by decide) ?_
  refine va_put (D := (dC, dI)) (ci := 7) (v := .int 150) (ty := tyX7 6) (C := RX7) (T := TX7) (N := 10) hx hb hts inB_7 tyX7 tyX7_ok nmX7 hown hE.1 hP hD hS 4 rfl rfl 6 (by decide) (hts _ k_234) (fun _ h9 => h9) rfl (tyX7_ok 6 (by decide)) rfl rfl (Nat.le_of_ble_eq_true rfl) dX7_setDefaults_10 (fun H locs hP hD hS => ?_)
  have hP : va_P (dC, dI) vwCl (XW cy x0 x (upd (upd v 11 10) 12 150) f) H := hP
  have hD : va_D A (XW cy x0 x (upd (upd v 11 10) 12 150) f) := hD
  refine lv_aload_n hx hb dX7_setDefaults_13 rfl (lv_at hl 0 rfl) ?_
  refine lv_iconst (v := 2) hx hb dX7_setDefaults_14 (by decide) ?_
  refine va_put (D := (dC, dI)) (ci := 7) (v := .int 2) (ty := tyX7 7) (C := RX7) (T := TX7) (N := 10) hx hb hts inB_7 tyX7 tyX7_ok nmX7 hown hE.1 hP hD hS 4 rfl rfl 7 (by decide) (hts _ k_237) (fun _ h9 => h9) rfl (tyX7_ok 7 (by decide)) rfl rfl (Nat.le_of_ble_eq_true rfl) dX7_setDefaults_15 (fun H locs hP hD hS => ?_)
  have hP : va_P (dC, dI) vwCl (XW cy x0 x (upd (upd (upd v 11 10) 12 150) 13 2) f) H := hP
  have hD : va_D A (XW cy x0 x (upd (upd (upd v 11 10) 12 150) 13 2) f) := hD
  refine lv_aload_n hx hb dX7_setDefaults_18 rfl (lv_at hl 0 rfl) ?_
  refine lv_iconst (v := 0) hx hb dX7_setDefaults_19 (by decide) ?_
  refine va_put (D := (dC, dI)) (ci := 7) (v := .int 0) (ty := tyX7 8) (C := RX7) (T := TX7) (N := 10) hx hb hts inB_7 tyX7 tyX7_ok nmX7 hown hE.1 hP hD hS 4 rfl rfl 8 (by decide) (hts _ k_240) (fun _ h9 => h9) rfl (tyX7_ok 8 (by decide)) rfl rfl (Nat.le_of_ble_eq_true rfl) dX7_setDefaults_20 (fun H locs hP hD hS => ?_)
  have hP : va_P (dC, dI) vwCl (XW cy x0 x (upd (upd (upd (upd v 11 10) 12 150) 13 2) 14 0) f) H := hP
  have hD : va_D A (XW cy x0 x (upd (upd (upd (upd v 11 10) 12 150) 13 2) 14 0) f) := hD
  refine lv_aload_n hx hb dX7_setDefaults_23 rfl (lv_at hl 0 rfl) ?_
  refine lv_iconst (v := 0) hx hb dX7_setDefaults_24 (by decide) ?_
  refine va_put (D := (dC, dI)) (ci := 7) (v := .int 0) (ty := tyX7 9) (C := RX7) (T := TX7) (N := 10) hx hb hts inB_7 tyX7 tyX7_ok nmX7 hown hE.1 hP hD hS 4 rfl rfl 9 (by decide) (hts _ k_243) (fun _ h9 => h9) rfl (tyX7_ok 9 (by decide)) rfl rfl (Nat.le_of_ble_eq_true rfl) dX7_setDefaults_25 (fun H locs hP hD hS => ?_)
  have hP : va_P (dC, dI) vwCl (XW cy x0 x (upd (upd (upd (upd (upd v 11 10) 12 150) 13 2) 14 0) 15 0) f) H := hP
  have hD : va_D A (XW cy x0 x (upd (upd (upd (upd (upd v 11 10) 12 150) 13 2) 14 0) 15 0) f) := hD
  exact ret ((upd (upd (upd (upd (upd v 11 10) 12 150) 13 2) 14 0) 15 0), f) _ _ _ _ _ _ ⟨gsX_X7_setDefaults_1_q0, (KV.up (j := 15) (x := 0) (KV.up (j := 14) (x := 0) (KV.up (j := 13) (x := 2) (KV.up (j := 12) (x := 150) (KV.up (j := 11) (x := 10) hM_v rfl) rfl) rfl) rfl) rfl), hA_f, (XI.upd (j := 15) (x := 0) (XI.upd (j := 14) (x := 0) (XI.upd (j := 13) (x := 2) (XI.upd (j := 12) (x := 150) (XI.upd (j := 11) (x := 10) hIv (rlo _) (rhi _)) (rlo _) (rhi _)) (rlo _) (rhi _)) (rlo _) (rhi _)) (rlo _) (rhi _)), rfl, rfl, rfl, rfl, rfl, rfl, rfl, rfl⟩ hP hD hS dX7_setDefaults_28 (Nat.le_refl _) (Nat.le_refl _)
set_option maxHeartbeats 4000000 in
set_option maxRecDepth 100000 in
theorem sX_X7_clear_1 (NF : Nat) (l : Launch) (dC : Nat → ClassId) (dI : Nat → Nat → Nat) (cy : Nat → ClassId) (x0 : Nat) (x : Nat → Nat)  (v : Nat → Int32) (f : Nat → Nat → Int32) (hIv : XI v)  : ctV l (dC, dI) cy yX7_clear cX7_clear 1 2 80 0 0 ((Nat → Int32) × (Nat → Nat → Int32)) [.ref (x 3)] (XW cy x0 x v f) (fun u => gsX_X7_clear_1 NF v f = u ∧ KV [9, 10, 11, 12, 13, 14, 15, 16, 17] u.1 v ∧ KF [] u.2 f ∧ XI u.1 ∧ u.1 0 = v 0 ∧ u.1 1 = v 1 ∧ u.1 7 = v 7 ∧ u.1 8 = v 8) (fun u => XW cy x0 x u.1 u.2) := by
  refine ctV_of (by decide) (Nat.le_of_ble_eq_true rfl) (fun p e s m below meth c A ls Q hx hb hml hts hown hnm hE hP hD hA hl ret => ?_)
  have hM_v : KV [9, 10, 11, 12, 13, 14, 15, 16, 17] v v := fun _ _ => rfl
  have hA_f : KF [] f f := fun _ _ => rfl
  have hown : s.vm.findClass RX7 = some m.cls := hown
  have hS : va_S A s.heap s.heap [] := va_S.rf
  have hl : lv_has ls 1 [(0, .ref (x 3))] := hl
  refine lv_aload_n hx hb dX7_clear_0 rfl (lv_at hl 0 rfl) ?_
  refine lv_iconst (v := 0) hx hb dX7_clear_1 (by decide) ?_
  refine va_put (D := (dC, dI)) (ci := 7) (v := .int 0) (ty := tyX7 3) (C := RX7) (T := TX7) (N := 10) hx hb hts inB_7 tyX7 tyX7_ok nmX7 hown hE.1 hP hD hS 4 rfl rfl 3 (by decide) (hts _ k_212) (fun _ h9 => h9) rfl (tyX7_ok 3 (by decide)) rfl rfl (Nat.le_of_ble_eq_true rfl) dX7_clear_2 (fun H locs hP hD hS => ?_)
  have hP : va_P (dC, dI) vwCl (XW cy x0 x (upd v 9 0) f) H := hP
  have hD : va_D A (XW cy x0 x (upd v 9 0) f) := hD
  refine lv_aload_n hx hb dX7_clear_5 rfl (lv_at hl 0 rfl) ?_
  refine lv_iconst (v := 0) hx hb dX7_clear_6 (by decide) ?_
  refine va_put (D := (dC, dI)) (ci := 7) (v := .int 0) (ty := tyX7 4) (C := RX7) (T := TX7) (N := 10) hx hb hts inB_7 tyX7 tyX7_ok nmX7 hown hE.1 hP hD hS 4 rfl rfl 4 (by decide) (hts _ k_220) (fun _ h9 => h9) rfl (tyX7_ok 4 (by decide)) rfl rfl (Nat.le_of_ble_eq_true rfl) dX7_clear_7 (fun H locs hP hD hS => ?_)
  have hP : va_P (dC, dI) vwCl (XW cy x0 x (upd (upd v 9 0) 10 0) f) H := hP
  have hD : va_D A (XW cy x0 x (upd (upd v 9 0) 10 0) f) := hD
  refine lv_aload_n hx hb dX7_clear_10 rfl (lv_at hl 0 rfl) ?_
  refine va_get (D := (dC, dI)) (ci := 7) (v := .ref (x 6)) (C := RX7) (T := TX7) (N := 10) hx hb hts inB_7 hown hE.1 hP 4 rfl rfl 2 (by decide) (hts _ k_206) (fun _ h9 => h9) rfl dX7_clear_11 ?_
  refine cbVv (n := 0) (rest := []) hx hb hml hown hts hE hP hD hS hA (sX_X4_clear_1 NF l dC dI cy x0 x  (upd (upd v 9 0) 10 0) f (XI.upd (j := 10) (x := 0) (XI.upd (j := 9) (x := 0) hIv (by decide) (by decide)) (by decide) (by decide)) ) k_550 k_551 k_552 k_105 k_553 (by decide +kernel) ⟨Nat.le_of_ble_eq_true rfl, Nat.le_of_ble_eq_true rfl⟩ 7 4 rfl rfl (rfl) hl.1 rfl (Nat.le_of_ble_eq_true rfl) dX7_clear_14 (fun u H locs hw hP hD hS => ?_)
  obtain ⟨hG1, hw⟩ := hw
  obtain ⟨v2, f3⟩ := u
  obtain ⟨kV_v2, kF_f3, hIv2, hk0_v2, hk1_v2, hk7_v2, hk8_v2, hk9_v2, hk10_v2, hk31_v2, hk32_v2⟩ := hw
  have hM_v2 : KV [9, 10, 11, 12, 13, 14, 15, 16, 17] v2 v := KV.tr kV_v2 (KV.up (j := 10) (x := 0) (KV.up (j := 9) (x := 0) hM_v rfl) rfl) rfl
  have hA_f3 : KF [] f3 f := KF.tr kF_f3 hA_f rfl
  have hP : va_P (dC, dI) vwCl (XW cy x0 x v2 f3) H := hP
  have hD : va_D A (XW cy x0 x v2 f3) := hD
  have hq0_v2 : v2 0 = (v 0) := hk0_v2
  have hq1_v2 : v2 1 = (v 1) := hk1_v2
  have hq7_v2 : v2 7 = (v 7) := hk7_v2
  have hq8_v2 : v2 8 = (v 8) := hk8_v2
  have hq9_v2 : v2 9 = 0 := hk9_v2
  have hq10_v2 : v2 10 = 0 := hk10_v2
  have hq31_v2 : v2 31 = (v 31) := hk31_v2
  have hq32_v2 : v2 32 = (v 32) := hk32_v2
  refine lv_aload_n hx hb dX7_clear_17 rfl (lv_at hl 0 rfl) ?_
  refine cbVv (n := 0) (rest := []) hx hb hml hown hts hE hP hD hS hA (sX_X7_setDefaults_1 NF l dC dI cy x0 x  v2 f3 hIv2 ) k_200 k_202 k_0 k_104 k_203 (by decide +kernel) ⟨Nat.le_of_ble_eq_true rfl, Nat.le_of_ble_eq_true rfl⟩ 4 7 rfl rfl (rfl) hl.1 rfl (Nat.le_of_ble_eq_true rfl) dX7_clear_18 (fun u H locs hw hP hD hS => ?_)
  obtain ⟨hG4, hw⟩ := hw
  obtain ⟨v5, f6⟩ := u
  obtain ⟨kV_v5, kF_f6, hIv5, hk0_v5, hk1_v5, hk7_v5, hk8_v5, hk9_v5, hk10_v5, hk31_v5, hk32_v5⟩ := hw
  have hM_v5 : KV [9, 10, 11, 12, 13, 14, 15, 16, 17] v5 v := KV.tr kV_v5 hM_v2 rfl
  have hA_f6 : KF [] f6 f := KF.tr kF_f6 hA_f3 rfl
  have hP : va_P (dC, dI) vwCl (XW cy x0 x v5 f6) H := hP
  have hD : va_D A (XW cy x0 x v5 f6) := hD
  have hq0_v5 : v5 0 = (v 0) := hk0_v5.trans hq0_v2
  have hq1_v5 : v5 1 = (v 1) := hk1_v5.trans hq1_v2
  have hq7_v5 : v5 7 = (v 7) := hk7_v5.trans hq7_v2
  have hq8_v5 : v5 8 = (v 8) := hk8_v5.trans hq8_v2
  have hq9_v5 : v5 9 = 0 := hk9_v5.trans hq9_v2
  have hq10_v5 : v5 10 = 0 := hk10_v5.trans hq10_v2
  have hq31_v5 : v5 31 = (v 31) := hk31_v5.trans hq31_v2
  have hq32_v5 : v5 32 = (v 32) := hk32_v5.trans hq32_v2
  exact ret (v5, f6) _ _ _ _ _ _ ⟨(gsX_X7_clear_1_q0 hG1 hG4), hM_v5, hA_f6, hIv5, (hk0_v5.trans hk0_v2), (hk1_v5.trans hk1_v2), (hk7_v5.trans hk7_v2), (hk8_v5.trans hk8_v2)⟩ hP hD hS dX7_clear_21 (Nat.le_refl _) (Nat.le_refl _)
set_option maxHeartbeats 4000000 in
set_option maxRecDepth 100000 in
theorem sX_X9_isLetter_1 (NF : Nat) (l : Launch) (dC : Nat → ClassId) (dI : Nat → Nat → Nat) (cy : Nat → ClassId) (x0 : Nat) (x : Nat → Nat) (p1 : Int32) (v : Nat → Int32) (f : Nat → Nat → Int32) (hIv : XI v)  : ctI l (dC, dI) cy yX9_isLetter cX9_isLetter 2 .boolean 1 60 0 0 Unit [.ref (x 0), .int p1] (XW cy x0 x v f) (fun r u => gsX_X9_isLetter_1 NF p1 v f = r ∧ ((r = 1 ∧ 0 ≤ p1.toInt ∧ p1.toInt < (v 1).toInt ∧ p1.toInt ≤ 1599) ∨ (r = 0))) (fun u => XW cy x0 x v f) := by
  refine ctI_of (by decide) (Nat.le_of_ble_eq_true rfl) (fun p e s m below meth c A ls Q hx hb hml hts hown hE hP hD hA hl ret => ?_)
  have hown : s.vm.findClass RX9 = some m.cls := hown
  have hS : va_S A s.heap s.heap [] := va_S.rf
  have hl : lv_has ls 2 [(0, .ref (x 0)), (1, .int p1)] := hl
  refine lv_iload_n hx hb dX9_isLetter_0 rfl (lv_at hl 1 rfl) ?_
  refine lv_if_lt (tgt := 38) hx hb dX9_isLetter_1 (by decide) (fun c1 => ?_) (fun c1 => ?_)
  · skip
    have zc1 : p1.toInt < 0 := by rw [fa_lt, show (0 : Int32).toInt = 0 from by decide] at c1; exact c1
    refine lv_iconst (v := 0) hx hb dX9_isLetter_38 (by decide) ?_
    exact ret 0 () _ _ _ _ _ _ rfl ⟨(gsX_X9_isLetter_1_q0 c1), (Or.inr rfl)⟩ hP hD hS dX9_isLetter_39 (Nat.le_refl _) (Nat.le_refl _)
  · skip
    have zc1 : ¬ (p1.toInt < 0) := by rw [fa_lt, show (0 : Int32).toInt = 0 from by decide] at c1; exact c1
    refine lv_iload_n hx hb dX9_isLetter_4 rfl (lv_at hl 1 rfl) ?_
    refine lv_aload_n hx hb dX9_isLetter_5 rfl (lv_at hl 0 rfl) ?_
    refine va_get (D := (dC, dI)) (ci := 9) (v := .int (v 1)) (C := RX9) (T := TX9) (N := 6) hx hb hts inB_9 hown hE.1 hP 1 rfl rfl 1 (by decide) (hts _ k_137) (fun _ h9 => h9) rfl dX9_isLetter_6 ?_
    have b1_v : 0 ≤ (v 1).toInt ∧ (v 1).toInt ≤ 1600 := XI.b hIv 1 (by decide)
    refine lv_icmp_ge (tgt := 38) hx hb dX9_isLetter_9 (by decide) (fun c2 => ?_) (fun c2 => ?_)
    · skip
      have zc2 : (v 1).toInt ≤ p1.toInt := by rw [fa_le] at c2; exact c2
      have rg3 := fb_rng p1
      have rg4 := fb_rng (v 1)
      refine lv_iconst (v := 0) hx hb dX9_isLetter_38 (by decide) ?_
      exact ret 0 () _ _ _ _ _ _ rfl ⟨(gsX_X9_isLetter_1_q1 c1 c2), (Or.inr rfl)⟩ hP hD hS dX9_isLetter_39 (Nat.le_refl _) (Nat.le_refl _)
    · skip
      have zc2 : ¬ ((v 1).toInt ≤ p1.toInt) := by rw [fa_le] at c2; exact c2
      have rg5 := fb_rng p1
      have rg6 := fb_rng (v 1)
      refine lv_aload_n hx hb dX9_isLetter_12 rfl (lv_at hl 0 rfl) ?_
      refine va_get (D := (dC, dI)) (ci := 9) (v := .ref (x 1)) (C := RX9) (T := TX9) (N := 6) hx hb hts inB_9 hown hE.1 hP 1 rfl rfl 0 (by decide) (hts _ k_136) (fun _ h9 => h9) rfl dX9_isLetter_13 ?_
      refine lv_iload_n hx hb dX9_isLetter_16 rfl (lv_at hl 1 rfl) ?_
      refine ldB hx hb hE hP 2 rfl (vp_in_iff.mpr ⟨by omega, by omega⟩) rfl rfl dX9_isLetter_17 ?_
      refine lv_topi (fun t7 et7 => ?_)
      refine lv_bipush (v := 97) hx hb dX9_isLetter_18 (by decide) ?_
      refine lv_icmp_lt (tgt := 38) hx hb dX9_isLetter_20 (by decide) (fun c8 => ?_) (fun c8 => ?_)
      · skip
        have zc8 : t7.toInt < 97 := by rw [fa_lt, show (97 : Int32).toInt = 97 from by decide] at c8; exact c8
        refine lv_iconst (v := 0) hx hb dX9_isLetter_38 (by decide) ?_
        exact ret 0 () _ _ _ _ _ _ rfl ⟨(gsX_X9_isLetter_1_q2 c1 c2 et7 c8), (Or.inr rfl)⟩ hP hD hS dX9_isLetter_39 (Nat.le_refl _) (Nat.le_refl _)
      · skip
        have zc8 : ¬ (t7.toInt < 97) := by rw [fa_lt, show (97 : Int32).toInt = 97 from by decide] at c8; exact c8
        refine lv_aload_n hx hb dX9_isLetter_23 rfl (lv_at hl 0 rfl) ?_
        refine va_get (D := (dC, dI)) (ci := 9) (v := .ref (x 1)) (C := RX9) (T := TX9) (N := 6) hx hb hts inB_9 hown hE.1 hP 1 rfl rfl 0 (by decide) (hts _ k_136) (fun _ h9 => h9) rfl dX9_isLetter_24 ?_
        refine lv_iload_n hx hb dX9_isLetter_27 rfl (lv_at hl 1 rfl) ?_
        refine ldB hx hb hE hP 2 rfl (vp_in_iff.mpr ⟨by omega, by omega⟩) rfl rfl dX9_isLetter_28 ?_
        refine lv_topi (fun t9 et9 => ?_)
        refine lv_bipush (v := 122) hx hb dX9_isLetter_29 (by decide) ?_
        refine lv_icmp_gt (tgt := 38) hx hb dX9_isLetter_31 (by decide) (fun c10 => ?_) (fun c10 => ?_)
        · skip
          have zc10 : 122 < t9.toInt := by rw [fa_lt, show (122 : Int32).toInt = 122 from by decide] at c10; exact c10
          refine lv_iconst (v := 0) hx hb dX9_isLetter_38 (by decide) ?_
          exact ret 0 () _ _ _ _ _ _ rfl ⟨(gsX_X9_isLetter_1_q3 c1 c2 et7 c8 et9 c10), (Or.inr rfl)⟩ hP hD hS dX9_isLetter_39 (Nat.le_refl _) (Nat.le_refl _)
        · skip
          have zc10 : ¬ (122 < t9.toInt) := by rw [fa_lt, show (122 : Int32).toInt = 122 from by decide] at c10; exact c10
          refine lv_iconst (v := 1) hx hb dX9_isLetter_34 (by decide) ?_
          refine lv_goto (tgt := 39) hx hb dX9_isLetter_35 (by decide) ?_
          exact ret 1 () _ _ _ _ _ _ rfl ⟨(gsX_X9_isLetter_1_q4 c1 c2 et7 c8 et9 c10), (Or.inl ⟨rfl, by omega, by omega, by omega⟩)⟩ hP hD hS dX9_isLetter_39 (Nat.le_refl _) (Nat.le_refl _)
set_option maxHeartbeats 4000000 in
set_option maxRecDepth 100000 in
theorem sX_J0_coder_7d493_1 (NF : Nat) (l : Launch) (dC : Nat → ClassId) (dI : Nat → Nat → Nat) (cy : Nat → ClassId) (x0 : Nat) (x : Nat → Nat)  (v : Nat → Int32) (f : Nat → Nat → Int32) (hIv : XI v)  : ctIS l (dC, dI) cy yJ0_coder_7d493 cJ0_coder_7d493 1 .byte 1 60 0 0 Unit [.ref (dI 100 1)] (XW cy x0 x v f) (fun r u => gsX_J0_coder_7d493_1 NF v f = r ∧ r = 0) (fun u => XW cy x0 x v f) := by
  refine ctIS_of (by decide) (Nat.le_of_ble_eq_true rfl) (fun p e s m below meth c A ls Q hx hb hml hts hown hE hF hT hP hD hA hl ret => ?_)
  have hown : s.vm.findClass RJ0 = some m.cls := hown
  have hS : va_S A s.heap s.heap [] := va_S.rf
  have hl : lv_has ls 1 [(0, .ref (dI 100 1))] := hl
  refine va_gets hx hb hT.2.1 hS hown (hts _ k_579) (fun _ h9 => h9) dJ0_coder_7d493_0 ?_
  refine lv_if_eq (tgt := 13) hx hb dJ0_coder_7d493_3 (by decide) (fun c0 => absurd c0 (by decide)) (fun _ => ?_)
  refine lv_aload_n hx hb dJ0_coder_7d493_6 rfl (lv_at hl 0 rfl) ?_
  refine vk_getf (q := (dI 100 1)) (v := .int 0) hx hb (hT.1.1 1 (by decide)).2.1 hS hown (hts _ k_2060) (fun _ h9 => h9) dJ0_coder_7d493_7 ?_
  refine lv_goto (tgt := 14) hx hb dJ0_coder_7d493_10 (by decide) ?_
  exact ret 0 () _ _ _ _ _ _ rfl ⟨gsX_J0_coder_7d493_1_q0, rfl⟩ hP hD hS dJ0_coder_7d493_14 (Nat.le_refl _) (Nat.le_refl _)
set_option maxHeartbeats 4000000 in
set_option maxRecDepth 100000 in
theorem sX_J0_length_8abf5_1 (NF : Nat) (l : Launch) (dC : Nat → ClassId) (dI : Nat → Nat → Nat) (cy : Nat → ClassId) (x0 : Nat) (x : Nat → Nat)  (v : Nat → Int32) (f : Nat → Nat → Int32) (hIv : XI v)  : ctIS l (dC, dI) cy yJ0_length_8abf5 cJ0_length_8abf5 1 .int 2 80 0 0 Unit [.ref (dI 100 1)] (XW cy x0 x v f) (fun r u => gsX_J0_length_8abf5_1 NF v f = r ∧ r = 102) (fun u => XW cy x0 x v f) := by
  refine ctIS_of (by decide) (Nat.le_of_ble_eq_true rfl) (fun p e s m below meth c A ls Q hx hb hml hts hown hE hF hT hP hD hA hl ret => ?_)
  have hown : s.vm.findClass RJ0 = some m.cls := hown
  have hS : va_S A s.heap s.heap [] := va_S.rf
  have hl : lv_has ls 1 [(0, .ref (dI 100 1))] := hl
  refine lv_aload_n hx hb dJ0_length_8abf5_0 rfl (lv_at hl 0 rfl) ?_
  refine vk_getf (q := (dI 100 1)) (v := .ref (dI 101 1)) hx hb (hT.1.1 1 (by decide)).2.2.1 hS hown (hts _ k_2059) (fun _ h9 => h9) dJ0_length_8abf5_1 ?_
  refine va_tlen (v := 102) hx hb (hT.1.1 1 (by decide)).2.2.2 hS (by decide) dJ0_length_8abf5_4 ?_
  refine lv_aload_n hx hb dJ0_length_8abf5_5 rfl (lv_at hl 0 rfl) ?_
  refine crVi (n := 0) (rest := [.int 102]) hx hb hml hown hts hE hP hD hS hA hF hT (sX_J0_coder_7d493_1 NF l dC dI cy x0 x  v f hIv ) k_575 k_576 k_577 k_115 k_578 (by decide +kernel) ⟨Nat.le_of_ble_eq_true rfl, Nat.le_of_ble_eq_true rfl⟩ 1 (by decide) rfl rfl (rfl) hl.1 rfl (Nat.le_of_ble_eq_true rfl) dJ0_length_8abf5_6 (fun r1 u H locs hw hP hD hS => ?_)
  obtain ⟨hG2, hw⟩ := hw
  refine tI (y := 0) hw ?_
  refine lv_ishr hx hb dJ0_length_8abf5_9 ?_
  refine tI (y := 102) (by decide) ?_
  exact ret 102 () _ _ _ _ _ _ rfl ⟨gsX_J0_length_8abf5_1_q0, rfl⟩ hP hD hS dJ0_length_8abf5_10 (Nat.le_refl _) (Nat.le_refl _)
set_option maxHeartbeats 4000000 in
set_option maxRecDepth 100000 in
theorem sX_J0_isLatin1_aae02_1 (NF : Nat) (l : Launch) (dC : Nat → ClassId) (dI : Nat → Nat → Nat) (cy : Nat → ClassId) (x0 : Nat) (x : Nat → Nat)  (v : Nat → Int32) (f : Nat → Nat → Int32) (hIv : XI v)  : ctIS l (dC, dI) cy yJ0_isLatin1_aae02 cJ0_isLatin1_aae02 1 .boolean 1 60 0 0 Unit [.ref (dI 100 1)] (XW cy x0 x v f) (fun r u => gsX_J0_isLatin1_aae02_1 NF v f = r ∧ r = 1) (fun u => XW cy x0 x v f) := by
  refine ctIS_of (by decide) (Nat.le_of_ble_eq_true rfl) (fun p e s m below meth c A ls Q hx hb hml hts hown hE hF hT hP hD hA hl ret => ?_)
  have hown : s.vm.findClass RJ0 = some m.cls := hown
  have hS : va_S A s.heap s.heap [] := va_S.rf
  have hl : lv_has ls 1 [(0, .ref (dI 100 1))] := hl
  refine va_gets hx hb hT.2.1 hS hown (hts _ k_579) (fun _ h9 => h9) dJ0_isLatin1_aae02_0 ?_
  refine lv_if_eq (tgt := 17) hx hb dJ0_isLatin1_aae02_3 (by decide) (fun c0 => absurd c0 (by decide)) (fun _ => ?_)
  refine lv_aload_n hx hb dJ0_isLatin1_aae02_6 rfl (lv_at hl 0 rfl) ?_
  refine vk_getf (q := (dI 100 1)) (v := .int 0) hx hb (hT.1.1 1 (by decide)).2.1 hS hown (hts _ k_2060) (fun _ h9 => h9) dJ0_isLatin1_aae02_7 ?_
  refine lv_if_ne (tgt := 17) hx hb dJ0_isLatin1_aae02_10 (by decide) (fun c0 => absurd (by decide) c0) (fun _ => ?_)
  refine lv_iconst (v := 1) hx hb dJ0_isLatin1_aae02_13 (by decide) ?_
  refine lv_goto (tgt := 18) hx hb dJ0_isLatin1_aae02_14 (by decide) ?_
  exact ret 1 () _ _ _ _ _ _ rfl ⟨gsX_J0_isLatin1_aae02_1_q0, rfl⟩ hP hD hS dJ0_isLatin1_aae02_18 (Nat.le_refl _) (Nat.le_refl _)
set_option maxHeartbeats 4000000 in
set_option maxRecDepth 100000 in
theorem sX_J3_checkIndex_8e157_1 (l : Launch) (dC : Nat → ClassId) (dI : Nat → Nat → Nat) (cy : Nat → ClassId) (x0 : Nat) (x : Nat → Nat) (p0 : Int32) (v : Nat → Int32) (f : Nat → Nat → Int32) (hIv : XI v) (hp0 : (0 : Int) ≤ p0.toInt ∧ p0.toInt ≤ 101) : ctIS l (dC, dI) cy yJ3_checkIndex_8e157 cJ3_checkIndex_8e157 3 .int 1 60 0 0 Unit [.int p0, .int 102, .null] (XW cy x0 x v f) (fun r u => True) (fun u => XW cy x0 x v f) := by
  refine ctIS_of (by decide) (Nat.le_of_ble_eq_true rfl) (fun p e s m below meth c A ls Q hx hb hml hts hown hE hF hT hP hD hA hl ret => ?_)
  have hown : s.vm.findClass RJ3 = some m.cls := hown
  have hS : va_S A s.heap s.heap [] := va_S.rf
  have hl : lv_has ls 3 [(0, .int p0), (1, .int 102), (2, .null)] := hl
  refine lv_iload_n hx hb dJ3_checkIndex_8e157_0 rfl (lv_at hl 0 rfl) ?_
  refine lv_if_lt (tgt := 9) hx hb dJ3_checkIndex_8e157_1 (by decide) (fun c1 => ?_) (fun c1 => ?_)
  · skip
    have zc1 : p0.toInt < 0 := by rw [fa_lt, show (0 : Int32).toInt = 0 from by decide] at c1; exact c1
    exact (show False by omega).elim
  · skip
    have zc1 : ¬ (p0.toInt < 0) := by rw [fa_lt, show (0 : Int32).toInt = 0 from by decide] at c1; exact c1
    refine lv_iload_n hx hb dJ3_checkIndex_8e157_4 rfl (lv_at hl 0 rfl) ?_
    refine lv_iload_n hx hb dJ3_checkIndex_8e157_5 rfl (lv_at hl 1 rfl) ?_
    refine lv_icmp_lt (tgt := 16) hx hb dJ3_checkIndex_8e157_6 (by decide) (fun c2 => ?_) (fun c2 => ?_)
    · skip
      have zc2 : p0.toInt < 102 := by rw [fa_lt, show (102 : Int32).toInt = 102 from by decide] at c2; exact c2
      refine lv_iload_n hx hb dJ3_checkIndex_8e157_16 rfl (lv_at hl 0 rfl) ?_
      exact ret p0 () _ _ _ _ _ _ rfl trivial hP hD hS dJ3_checkIndex_8e157_17 (Nat.le_refl _) (Nat.le_refl _)
    · skip
      have zc2 : ¬ (p0.toInt < 102) := by rw [fa_lt, show (102 : Int32).toInt = 102 from by decide] at c2; exact c2
      exact (show False by omega).elim
set_option maxHeartbeats 4000000 in
set_option maxRecDepth 100000 in
theorem sX_J3_checkIndex_8e157_2 (l : Launch) (dC : Nat → ClassId) (dI : Nat → Nat → Nat) (cy : Nat → ClassId) (x0 : Nat) (x : Nat → Nat) (tz : Nat) (p0 : Int32) (v : Nat → Int32) (f : Nat → Nat → Int32) (hIv : XI v) (hp0 : (0 : Int) ≤ p0.toInt ∧ p0.toInt ≤ 101) : ctIS l (dC, dI) cy yJ3_checkIndex_8e157 cJ3_checkIndex_8e157 3 .int 1 60 0 0 Unit [.int p0, .int 102, .ref tz] (XW cy x0 x v f) (fun r u => True) (fun u => XW cy x0 x v f) := by
  refine ctIS_of (by decide) (Nat.le_of_ble_eq_true rfl) (fun p e s m below meth c A ls Q hx hb hml hts hown hE hF hT hP hD hA hl ret => ?_)
  have hown : s.vm.findClass RJ3 = some m.cls := hown
  have hS : va_S A s.heap s.heap [] := va_S.rf
  have hl : lv_has ls 3 [(0, .int p0), (1, .int 102), (2, .ref tz)] := hl
  refine lv_iload_n hx hb dJ3_checkIndex_8e157_0 rfl (lv_at hl 0 rfl) ?_
  refine lv_if_lt (tgt := 9) hx hb dJ3_checkIndex_8e157_1 (by decide) (fun c1 => ?_) (fun c1 => ?_)
  · skip
    have zc1 : p0.toInt < 0 := by rw [fa_lt, show (0 : Int32).toInt = 0 from by decide] at c1; exact c1
    exact (show False by omega).elim
  · skip
    have zc1 : ¬ (p0.toInt < 0) := by rw [fa_lt, show (0 : Int32).toInt = 0 from by decide] at c1; exact c1
    refine lv_iload_n hx hb dJ3_checkIndex_8e157_4 rfl (lv_at hl 0 rfl) ?_
    refine lv_iload_n hx hb dJ3_checkIndex_8e157_5 rfl (lv_at hl 1 rfl) ?_
    refine lv_icmp_lt (tgt := 16) hx hb dJ3_checkIndex_8e157_6 (by decide) (fun c2 => ?_) (fun c2 => ?_)
    · skip
      have zc2 : p0.toInt < 102 := by rw [fa_lt, show (102 : Int32).toInt = 102 from by decide] at c2; exact c2
      refine lv_iload_n hx hb dJ3_checkIndex_8e157_16 rfl (lv_at hl 0 rfl) ?_
      exact ret p0 () _ _ _ _ _ _ rfl trivial hP hD hS dJ3_checkIndex_8e157_17 (Nat.le_refl _) (Nat.le_refl _)
    · skip
      have zc2 : ¬ (p0.toInt < 102) := by rw [fa_lt, show (102 : Int32).toInt = 102 from by decide] at c2; exact c2
      exact (show False by omega).elim
set_option maxHeartbeats 4000000 in
set_option maxRecDepth 100000 in
theorem sX_J0_checkIndex_df160_1 (l : Launch) (dC : Nat → ClassId) (dI : Nat → Nat → Nat) (cy : Nat → ClassId) (x0 : Nat) (x : Nat → Nat) (p0 : Int32) (v : Nat → Int32) (f : Nat → Nat → Int32) (hIv : XI v) (hp0 : (0 : Int) ≤ p0.toInt ∧ p0.toInt ≤ 101) : ctVS l (dC, dI) cy yJ0_checkIndex_df160 cJ0_checkIndex_df160 2 2 82 0 0 Unit [.int p0, .int 102] (XW cy x0 x v f) (fun u => True) (fun u => XW cy x0 x v f) := by
  refine ctVS_of (by decide) (Nat.le_of_ble_eq_true rfl) (fun p e s m below meth c A ls Q hx hb hml hts hown hnm hE hF hT hP hD hA hl ret => ?_)
  have hown : s.vm.findClass RJ0 = some m.cls := hown
  have hS : va_S A s.heap s.heap [] := va_S.rf
  have hl : lv_has ls 2 [(0, .int p0), (1, .int 102)] := hl
  refine lv_iload_n hx hb dJ0_checkIndex_df160_0 rfl (lv_at hl 0 rfl) ?_
  refine lv_iload_n hx hb dJ0_checkIndex_df160_1 rfl (lv_at hl 1 rfl) ?_
  rcases hT.2.2 with hz9 | ⟨tz, hz9⟩
  · skip
    refine va_gets hx hb hz9 hS hown (hts _ k_595) (fun _ h9 => h9) dJ0_checkIndex_df160_2 ?_
    refine csSi (n := 3) (rest := []) hx hb hml hown hts hE hP hD hS hA hF hT (sX_J3_checkIndex_8e157_1 l dC dI cy x0 x p0 v f hIv ⟨show (0 : Int) ≤ p0.toInt by omega, show p0.toInt ≤ (101 : Int) by omega⟩) k_597 k_598 k_117 k_599 (by decide +kernel) ⟨Nat.le_of_ble_eq_true rfl, Nat.le_of_ble_eq_true rfl⟩ (rfl) hl.1 rfl (Nat.le_of_ble_eq_true rfl) dJ0_checkIndex_df160_5 (fun r1 u H locs hw hP hD hS => ?_)
    refine lv_pop hx hb dJ0_checkIndex_df160_8 rfl ?_
    exact ret () _ _ _ _ _ _ trivial hP hD hS dJ0_checkIndex_df160_9 (Nat.le_refl _) (Nat.le_refl _)
  · skip
    refine va_gets hx hb hz9 hS hown (hts _ k_595) (fun _ h9 => h9) dJ0_checkIndex_df160_2 ?_
    refine csSi (n := 3) (rest := []) hx hb hml hown hts hE hP hD hS hA hF hT (sX_J3_checkIndex_8e157_2 l dC dI cy x0 x tz p0 v f hIv ⟨show (0 : Int) ≤ p0.toInt by omega, show p0.toInt ≤ (101 : Int) by omega⟩) k_597 k_598 k_117 k_599 (by decide +kernel) ⟨Nat.le_of_ble_eq_true rfl, Nat.le_of_ble_eq_true rfl⟩ (rfl) hl.1 rfl (Nat.le_of_ble_eq_true rfl) dJ0_checkIndex_df160_5 (fun r2 u H locs hw hP hD hS => ?_)
    refine lv_pop hx hb dJ0_checkIndex_df160_8 rfl ?_
    exact ret () _ _ _ _ _ _ trivial hP hD hS dJ0_checkIndex_df160_9 (Nat.le_refl _) (Nat.le_refl _)
set_option maxHeartbeats 4000000 in
set_option maxRecDepth 100000 in
theorem sX_J1_charAt_3b067_1 (NF : Nat) (l : Launch) (dC : Nat → ClassId) (dI : Nat → Nat → Nat) (cy : Nat → ClassId) (x0 : Nat) (x : Nat → Nat) (p1 : Int32) (v : Nat → Int32) (f : Nat → Nat → Int32) (hIv : XI v) (hp1 : (0 : Int) ≤ p1.toInt ∧ p1.toInt ≤ 101) : ctIS l (dC, dI) cy yJ1_charAt_3b067 cJ1_charAt_3b067 2 .char 3 103 0 0 Unit [.ref (dI 101 1), .int p1] (XW cy x0 x v f) (fun r u => gsX_J1_charAt_3b067_1 NF p1 v f = r ∧ narrow .char (.int r) = .int r) (fun u => XW cy x0 x v f) := by
  refine ctIS_of (by decide) (Nat.le_of_ble_eq_true rfl) (fun p e s m below meth c A ls Q hx hb hml hts hown hE hF hT hP hD hA hl ret => ?_)
  have hown : s.vm.findClass RJ1 = some m.cls := hown
  have hS : va_S A s.heap s.heap [] := va_S.rf
  have hl : lv_has ls 2 [(0, .ref (dI 101 1)), (1, .int p1)] := hl
  refine lv_iload_n hx hb dJ1_charAt_3b067_0 rfl (lv_at hl 1 rfl) ?_
  refine lv_aload_n hx hb dJ1_charAt_3b067_1 rfl (lv_at hl 0 rfl) ?_
  refine va_tlen (v := 102) hx hb (hT.1.1 1 (by decide)).2.2.2 hS (by decide) dJ1_charAt_3b067_2 ?_
  refine csSv (n := 2) (rest := []) hx hb hml hown hts hE hP hD hS hA hF hT (sX_J0_checkIndex_df160_1 l dC dI cy x0 x p1 v f hIv ⟨show (0 : Int) ≤ p1.toInt by omega, show p1.toInt ≤ (101 : Int) by omega⟩) k_592 k_593 k_115 k_594 (by decide +kernel) ⟨Nat.le_of_ble_eq_true rfl, Nat.le_of_ble_eq_true rfl⟩ (rfl) hl.1 rfl (Nat.le_of_ble_eq_true rfl) dJ1_charAt_3b067_3 (fun u H locs hw hP hD hS => ?_)
  refine lv_aload_n hx hb dJ1_charAt_3b067_6 rfl (lv_at hl 0 rfl) ?_
  refine lv_iload_n hx hb dJ1_charAt_3b067_7 rfl (lv_at hl 1 rfl) ?_
  refine va_tb hx hb (hT.1.1 1 (by decide)).2.2.2 hS (show vp_in p1 102 from (vp_in_iff.mpr ⟨by omega, by omega⟩)) rfl dJ1_charAt_3b067_8 ?_
  refine lv_topi (fun t1 et1 => ?_)
  refine lv_sipush (v := 255) hx hb dJ1_charAt_3b067_9 (by decide) ?_
  refine lv_iand hx hb dJ1_charAt_3b067_12 ?_
  refine lv_topi (fun t2 et2 => ?_)
  have zt2 : 0 ≤ t2.toInt ∧ t2.toInt < 256 := by rw [et2]; exact and_rng _ (k := 8) (by decide) (by decide)
  refine lv_i2c hx hb dJ1_charAt_3b067_13 rfl ?_
  refine lv_topi (fun t3 et3 => ?_)
  exact ret t3 () _ _ _ _ _ _ (by rw [et3, et2, sc_c2]; exact sc_nar _) ⟨(gsX_J1_charAt_3b067_1_q0 et1 et2 et3), (by rw [et3, et2, sc_c2]; exact sc_nar _)⟩ hP hD hS dJ1_charAt_3b067_14 (Nat.le_refl _) (Nat.le_refl _)
set_option maxHeartbeats 4000000 in
set_option maxRecDepth 100000 in
theorem sX_J0_charAt_5068e_1 (NF : Nat) (l : Launch) (dC : Nat → ClassId) (dI : Nat → Nat → Nat) (cy : Nat → ClassId) (x0 : Nat) (x : Nat → Nat) (p1 : Int32) (v : Nat → Int32) (f : Nat → Nat → Int32) (hIv : XI v) (hp1 : (0 : Int) ≤ p1.toInt ∧ p1.toInt ≤ 101) : ctIS l (dC, dI) cy yJ0_charAt_5068e cJ0_charAt_5068e 2 .char 4 124 0 0 Unit [.ref (dI 100 1), .int p1] (XW cy x0 x v f) (fun r u => gsX_J0_charAt_5068e_1 NF p1 v f = r ∧ narrow .char (.int r) = .int r) (fun u => XW cy x0 x v f) := by
  refine ctIS_of (by decide) (Nat.le_of_ble_eq_true rfl) (fun p e s m below meth c A ls Q hx hb hml hts hown hE hF hT hP hD hA hl ret => ?_)
  have hown : s.vm.findClass RJ0 = some m.cls := hown
  have hS : va_S A s.heap s.heap [] := va_S.rf
  have hl : lv_has ls 2 [(0, .ref (dI 100 1)), (1, .int p1)] := hl
  refine lv_aload_n hx hb dJ0_charAt_5068e_0 rfl (lv_at hl 0 rfl) ?_
  refine crVi (n := 0) (rest := []) hx hb hml hown hts hE hP hD hS hA hF hT (sX_J0_isLatin1_aae02_1 NF l dC dI cy x0 x  v f hIv ) k_585 k_586 k_587 k_115 k_588 (by decide +kernel) ⟨Nat.le_of_ble_eq_true rfl, Nat.le_of_ble_eq_true rfl⟩ 1 (by decide) rfl rfl (rfl) hl.1 rfl (Nat.le_of_ble_eq_true rfl) dJ0_charAt_5068e_1 (fun r1 u H locs hw hP hD hS => ?_)
  obtain ⟨hG2, hw⟩ := hw
  refine tI (y := 1) hw ?_
  refine lv_if_eq (tgt := 16) hx hb dJ0_charAt_5068e_4 (by decide) (fun c0 => absurd c0 (by decide)) (fun _ => ?_)
  refine lv_aload_n hx hb dJ0_charAt_5068e_7 rfl (lv_at hl 0 rfl) ?_
  refine vk_getf (q := (dI 100 1)) (v := .ref (dI 101 1)) hx hb (hT.1.1 1 (by decide)).2.2.1 hS hown (hts _ k_2059) (fun _ h9 => h9) dJ0_charAt_5068e_8 ?_
  refine lv_iload_n hx hb dJ0_charAt_5068e_11 rfl (lv_at hl 1 rfl) ?_
  refine csSi (n := 2) (rest := []) hx hb hml hown hts hE hP hD hS hA hF hT (sX_J1_charAt_3b067_1 NF l dC dI cy x0 x p1 v f hIv ⟨show (0 : Int) ≤ p1.toInt by omega, show p1.toInt ≤ (101 : Int) by omega⟩) k_589 k_590 k_116 k_591 (by decide +kernel) ⟨Nat.le_of_ble_eq_true rfl, Nat.le_of_ble_eq_true rfl⟩ (rfl) hl.1 rfl (Nat.le_of_ble_eq_true rfl) dJ0_charAt_5068e_12 (fun r3 u H locs hw hP hD hS => ?_)
  obtain ⟨hG4, hw⟩ := hw
  have nrr3 := hw
  exact ret r3 () _ _ _ _ _ _ nrr3 ⟨(gsX_J0_charAt_5068e_1_q0 hG4.symm), nrr3⟩ hP hD hS dJ0_charAt_5068e_15 (Nat.le_refl _) (Nat.le_refl _)
set_option maxHeartbeats 4000000 in
set_option maxRecDepth 100000 in
theorem sX_X9_wordKind_1 (NF : Nat) (l : Launch) (dC : Nat → ClassId) (dI : Nat → Nat → Nat) (cy : Nat → ClassId) (x0 : Nat) (x : Nat → Nat)  (v : Nat → Int32) (f : Nat → Nat → Int32) (hIv : XI v)  : ctIS l (dC, dI) cy yX9_wordKind cX9_wordKind 7 .int 5 145 0 0 Unit [.ref (x 0)] (XW cy x0 x v f) (fun r u => gsX_X9_wordKind_1 NF v f = r) (fun u => XW cy x0 x v f) := by
  refine ctIS_of (by decide) (Nat.le_of_ble_eq_true rfl) (fun p e s m below meth c A ls Q hx hb hml hts hown hE hF hT hP hD hA hl ret => ?_)
  have hown : s.vm.findClass RX9 = some m.cls := hown
  have hS : va_S A s.heap s.heap [] := va_S.rf
  have hl : lv_has ls 7 [(0, .ref (x 0))] := hl
  refine lv_bipush (v := 101) hx hb dX9_wordKind_0 (by decide) ?_
  refine lv_istore_n (lv' := [(1, .int 101), (0, .ref (x 0))]) hx hb dX9_wordKind_2 rfl hl (by decide) rfl (fun ls hl => ?_)
  refine lv_iconst (v := 0) hx hb dX9_wordKind_3 (by decide) ?_
  refine lv_istore_n (lv' := [(2, .int 0), (1, .int 101), (0, .ref (x 0))]) hx hb dX9_wordKind_4 rfl hl (by decide) rfl (fun ls hl => ?_)
  refine lv_iconst (v := 1) hx hb dX9_wordKind_5 (by decide) ?_
  refine lv_istore_n (lv' := [(3, .int 1), (2, .int 0), (1, .int 101), (0, .ref (x 0))]) hx hb dX9_wordKind_6 rfl hl (by decide) rfl (fun ls hl => ?_)
  refine lv_iconst (v := 0) hx hb dX9_wordKind_7 (by decide) ?_
  refine lv_istore (lv' := [(4, .int 0), (3, .int 1), (2, .int 0), (1, .int 101), (0, .ref (x 0))]) hx hb dX9_wordKind_8 hl (by decide) rfl (fun ls hl => ?_)
  have lp1 : ∀ (n1 : Nat) (l1_1 : Int32) (l2_1 : Int32) (l3_1 : Int32) (l4_1 : Int32), gsX_X9_wordKind_1_L1 NF v f n1 l1_1 l2_1 l3_1 l4_1 = (gsX_X9_wordKind_1 NF v f) → ((0 : Int) ≤ l2_1.toInt ∧ l2_1.toInt ≤ 102) → ((0 : Int) ≤ l3_1.toInt ∧ l3_1.toInt ≤ 1) → ((0 : Int) ≤ l4_1.toInt ∧ l4_1.toInt ≤ 102) → (l2_1.toInt ≤ l4_1.toInt) → (2147483647 - l4_1.toInt).toNat < n1 → ∀ (H : Heap) (locs : List Loc) (ls : Array Slot), va_P (dC, dI) vwCl (XW cy x0 x v f) H → va_D A (XW cy x0 x v f) → va_S A s.heap H locs → lv_has ls 7 [(4, .int l4_1), (3, .int l3_1), (2, .int l2_1), (1, .int l1_1), (0, .ref (x 0))] → W p l e { frames := 5, cells := 0, slots := 0, locals := 145 } s m ([.ref (x 0)] : List Value).toArray below meth c H locs 0 0 Q (F0 m 10 ls []) := by
    intro n1
    induction n1 with
    | zero => intro l1_1 l2_1 l3_1 l4_1 hT1 hr2_1 hr3_1 hr4_1 hx0_1 hm; exact absurd hm (Nat.not_lt_zero _)
    | succ n1 ih1 =>
      intro l1_1 l2_1 l3_1 l4_1 hT1 hr2_1 hr3_1 hr4_1 hx0_1 hm1 H locs ls hP hD hS hl
      refine lv_iload hx hb dX9_wordKind_10 (lv_at hl 0 rfl) ?_
      refine va_ldcS hx hb hown hF.2 dX9_wordKind_12 ?_
      refine crVi (n := 0) (rest := [.int l4_1]) hx hb hml hown hts hE hP hD hS hA hF hT (sX_J0_length_8abf5_1 NF l dC dI cy x0 x  v f hIv ) k_571 k_572 k_573 k_115 k_574 (by decide +kernel) ⟨Nat.le_of_ble_eq_true rfl, Nat.le_of_ble_eq_true rfl⟩ 1 (by decide) rfl rfl (rfl) hl.1 rfl (Nat.le_of_ble_eq_true rfl) dX9_wordKind_14 (fun r2 u H locs hw hP hD hS => ?_)
      obtain ⟨hG3, hw⟩ := hw
      refine tI (y := 102) hw ?_
      refine lv_icmp_ge (tgt := 112) hx hb dX9_wordKind_17 (by decide) (fun c4 => ?_) (fun c4 => ?_)
      · skip
        have zc4 : 102 ≤ l4_1.toInt := by rw [fa_le, show (102 : Int32).toInt = 102 from by decide] at c4; exact c4
        refine lv_iconst (v := 3) hx hb dX9_wordKind_112 (by decide) ?_
        exact ret 3 () _ _ _ _ _ _ rfl (hT1.symm.trans (gsX_X9_wordKind_1_q0 c4)) hP hD hS dX9_wordKind_113 (Nat.le_refl _) (Nat.le_refl _)
      · skip
        have zc4 : ¬ (102 ≤ l4_1.toInt) := by rw [fa_le, show (102 : Int32).toInt = 102 from by decide] at c4; exact c4
        refine va_ldcS hx hb hown hF.2 dX9_wordKind_20 ?_
        refine lv_iload hx hb dX9_wordKind_22 (lv_at hl 0 rfl) ?_
        refine crVi (n := 1) (rest := []) hx hb hml hown hts hE hP hD hS hA hF hT (sX_J0_charAt_5068e_1 NF l dC dI cy x0 x l4_1 v f hIv ⟨show (0 : Int) ≤ l4_1.toInt by omega, show l4_1.toInt ≤ (101 : Int) by omega⟩) k_581 k_582 k_583 k_115 k_584 (by decide +kernel) ⟨Nat.le_of_ble_eq_true rfl, Nat.le_of_ble_eq_true rfl⟩ 1 (by decide) rfl rfl (rfl) hl.1 rfl (Nat.le_of_ble_eq_true rfl) dX9_wordKind_24 (fun r5 u H locs hw hP hD hS => ?_)
        obtain ⟨hG6, hw⟩ := hw
        have nrr5 := hw
        refine lv_istore (lv' := [(5, .int r5), (4, .int l4_1), (3, .int l3_1), (2, .int l2_1), (1, .int l1_1), (0, .ref (x 0))]) hx hb dX9_wordKind_27 hl (by decide) rfl (fun ls hl => ?_)
        refine lv_aload_n hx hb dX9_wordKind_29 rfl (lv_at hl 5 rfl) ?_
        refine va_get (D := (dC, dI)) (ci := 9) (v := .int (v 3)) (C := RX9) (T := TX9) (N := 6) hx hb hts inB_9 hown hE.1 hP 1 rfl rfl 3 (by decide) (hts _ k_141) (fun _ h9 => h9) rfl dX9_wordKind_30 ?_
        have b3_v : 0 ≤ (v 3).toInt ∧ (v 3).toInt ≤ 1600 := XI.b hIv 3 (by decide)
        refine lv_iload hx hb dX9_wordKind_33 (lv_at hl 1 rfl) ?_
        refine lv_iadd hx hb dX9_wordKind_35 ?_
        refine lv_topi (fun t7 et7 => ?_)
        have rg8 := fb_rng (v 3)
        have rg9 := fb_rng l4_1
        have zt7 : t7.toInt = (v 3).toInt + l4_1.toInt := by rw [et7]; exact add_i rfl rfl (by omega) (by omega)
        refine lv_iload_n hx hb dX9_wordKind_36 rfl (lv_at hl 3 rfl) ?_
        refine lv_isub hx hb dX9_wordKind_37 ?_
        refine lv_topi (fun t10 et10 => ?_)
        have rg11 := fb_rng t7
        have rg12 := fb_rng l2_1
        have zt10 : t10.toInt = t7.toInt - l2_1.toInt := by rw [et10]; exact sub_i rfl rfl (by omega) (by omega)
        refine lv_istore (lv' := [(6, .int t10), (5, .int r5), (4, .int l4_1), (3, .int l3_1), (2, .int l2_1), (1, .int l1_1), (0, .ref (x 0))]) hx hb dX9_wordKind_38 hl (by decide) rfl (fun ls hl => ?_)
        refine lv_iload hx hb dX9_wordKind_40 (lv_at hl 1 rfl) ?_
        refine lv_bipush (v := 32) hx hb dX9_wordKind_42 (by decide) ?_
        refine lv_icmp_eq (tgt := 81) hx hb dX9_wordKind_44 (by decide) (fun c13 => ?_) (fun c13 => ?_)
        · skip
          have zc13 : r5.toInt = 32 := by rw [fa_eq, show (32 : Int32).toInt = 32 from by decide] at c13; exact c13
          refine lv_iload_n hx hb dX9_wordKind_81 rfl (lv_at hl 3 rfl) ?_
          refine lv_if_eq (tgt := 96) hx hb dX9_wordKind_82 (by decide) (fun c14 => ?_) (fun c14 => ?_)
          · skip
            have zc14 : l3_1.toInt = 0 := by rw [fa_eq, show (0 : Int32).toInt = 0 from by decide] at c14; exact c14
            obtain ⟨t15, et15⟩ : ∃ y : Int32, y = l1_1 + 1 := ⟨_, rfl⟩
            refine lv_iinc (v := t15) (lv' := [(1, .int t15), (6, .int t10), (5, .int r5), (4, .int l4_1), (3, .int l3_1), (2, .int l2_1), (0, .ref (x 0))]) hx hb dX9_wordKind_96 hl (k := 5) rfl (by rw [et15]; rfl) (by decide) rfl (fun ls hl => ?_)
            refine lv_iload hx hb dX9_wordKind_99 (lv_at hl 3 rfl) ?_
            refine lv_iconst (v := 1) hx hb dX9_wordKind_101 (by decide) ?_
            refine lv_iadd hx hb dX9_wordKind_102 ?_
            refine lv_topi (fun t16 et16 => ?_)
            have zt16 : t16.toInt = l4_1.toInt + 1 := by rw [et16]; exact add_i rfl (by decide) (by omega) (by omega)
            refine lv_istore_n (lv' := [(2, .int t16), (1, .int t15), (6, .int t10), (5, .int r5), (4, .int l4_1), (3, .int l3_1), (0, .ref (x 0))]) hx hb dX9_wordKind_103 rfl hl (by decide) rfl (fun ls hl => ?_)
            refine lv_iconst (v := 1) hx hb dX9_wordKind_104 (by decide) ?_
            refine lv_istore_n (lv' := [(3, .int 1), (2, .int t16), (1, .int t15), (6, .int t10), (5, .int r5), (4, .int l4_1), (0, .ref (x 0))]) hx hb dX9_wordKind_105 rfl hl (by decide) rfl (fun ls hl => ?_)
            obtain ⟨t17, et17⟩ : ∃ y : Int32, y = l4_1 + 1 := ⟨_, rfl⟩
            have zt17 : t17.toInt = l4_1.toInt + 1 := by rw [et17]; exact add_i rfl (by decide) (by omega) (by omega)
            refine lv_iinc (v := t17) (lv' := [(4, .int t17), (3, .int 1), (2, .int t16), (1, .int t15), (6, .int t10), (5, .int r5), (0, .ref (x 0))]) hx hb dX9_wordKind_106 hl (k := 5) rfl (by rw [et17]; rfl) (by decide) rfl (fun ls hl => ?_)
            refine lv_goto (tgt := 10) hx hb dX9_wordKind_109 (by decide) ?_
            have rg18 := fb_rng t16
            have rg19 := fb_rng t17
            exact ih1 t15 t16 1 t17 ((gsX_X9_wordKind_1_q1 c4 hG6.symm et7 et10 c13 c14 et15 et16 et17).symm.trans hT1) ⟨show (0 : Int) ≤ t16.toInt by omega, show t16.toInt ≤ (102 : Int) by omega⟩ ⟨by decide, by decide⟩ ⟨show (0 : Int) ≤ t17.toInt by omega, show t17.toInt ≤ (102 : Int) by omega⟩ (by show t16.toInt ≤ t17.toInt; omega) (by show (2147483647 - t17.toInt).toNat < n1; omega) _ _ _ hP hD hS (lv_sub hl [0, 1, 2, 3, 6] rfl)
          · skip
            have zc14 : ¬ (l3_1.toInt = 0) := by rw [fa_eq, show (0 : Int32).toInt = 0 from by decide] at c14; exact c14
            refine lv_iload hx hb dX9_wordKind_85 (lv_at hl 0 rfl) ?_
            refine lv_aload_n hx hb dX9_wordKind_87 rfl (lv_at hl 6 rfl) ?_
            refine va_get (D := (dC, dI)) (ci := 9) (v := .int (v 4)) (C := RX9) (T := TX9) (N := 6) hx hb hts inB_9 hown hE.1 hP 1 rfl rfl 4 (by decide) (hts _ k_143) (fun _ h9 => h9) rfl dX9_wordKind_88 ?_
            have b4_v : 0 ≤ (v 4).toInt ∧ (v 4).toInt ≤ 1600 := XI.b hIv 4 (by decide)
            refine lv_icmp_ne (tgt := 96) hx hb dX9_wordKind_91 (by decide) (fun c20 => ?_) (fun c20 => ?_)
            · skip
              have zc20 : ¬ (t10.toInt = (v 4).toInt) := by rw [fa_eq] at c20; exact c20
              have rg21 := fb_rng t10
              have rg22 := fb_rng (v 4)
              obtain ⟨t23, et23⟩ : ∃ y : Int32, y = l1_1 + 1 := ⟨_, rfl⟩
              refine lv_iinc (v := t23) (lv' := [(1, .int t23), (6, .int t10), (5, .int r5), (4, .int l4_1), (3, .int l3_1), (2, .int l2_1), (0, .ref (x 0))]) hx hb dX9_wordKind_96 hl (k := 5) rfl (by rw [et23]; rfl) (by decide) rfl (fun ls hl => ?_)
              refine lv_iload hx hb dX9_wordKind_99 (lv_at hl 3 rfl) ?_
              refine lv_iconst (v := 1) hx hb dX9_wordKind_101 (by decide) ?_
              refine lv_iadd hx hb dX9_wordKind_102 ?_
              refine lv_topi (fun t24 et24 => ?_)
              have zt24 : t24.toInt = l4_1.toInt + 1 := by rw [et24]; exact add_i rfl (by decide) (by omega) (by omega)
              refine lv_istore_n (lv' := [(2, .int t24), (1, .int t23), (6, .int t10), (5, .int r5), (4, .int l4_1), (3, .int l3_1), (0, .ref (x 0))]) hx hb dX9_wordKind_103 rfl hl (by decide) rfl (fun ls hl => ?_)
              refine lv_iconst (v := 1) hx hb dX9_wordKind_104 (by decide) ?_
              refine lv_istore_n (lv' := [(3, .int 1), (2, .int t24), (1, .int t23), (6, .int t10), (5, .int r5), (4, .int l4_1), (0, .ref (x 0))]) hx hb dX9_wordKind_105 rfl hl (by decide) rfl (fun ls hl => ?_)
              obtain ⟨t25, et25⟩ : ∃ y : Int32, y = l4_1 + 1 := ⟨_, rfl⟩
              have zt25 : t25.toInt = l4_1.toInt + 1 := by rw [et25]; exact add_i rfl (by decide) (by omega) (by omega)
              refine lv_iinc (v := t25) (lv' := [(4, .int t25), (3, .int 1), (2, .int t24), (1, .int t23), (6, .int t10), (5, .int r5), (0, .ref (x 0))]) hx hb dX9_wordKind_106 hl (k := 5) rfl (by rw [et25]; rfl) (by decide) rfl (fun ls hl => ?_)
              refine lv_goto (tgt := 10) hx hb dX9_wordKind_109 (by decide) ?_
              have rg26 := fb_rng t24
              have rg27 := fb_rng t25
              exact ih1 t23 t24 1 t25 ((gsX_X9_wordKind_1_q2 c4 hG6.symm et7 et10 c13 c14 c20 et23 et24 et25).symm.trans hT1) ⟨show (0 : Int) ≤ t24.toInt by omega, show t24.toInt ≤ (102 : Int) by omega⟩ ⟨by decide, by decide⟩ ⟨show (0 : Int) ≤ t25.toInt by omega, show t25.toInt ≤ (102 : Int) by omega⟩ (by show t24.toInt ≤ t25.toInt; omega) (by show (2147483647 - t25.toInt).toNat < n1; omega) _ _ _ hP hD hS (lv_sub hl [0, 1, 2, 3, 6] rfl)
            · skip
              have zc20 : t10.toInt = (v 4).toInt := by rw [fa_eq] at c20; exact c20
              have rg28 := fb_rng t10
              have rg29 := fb_rng (v 4)
              refine lv_iload_n hx hb dX9_wordKind_94 rfl (lv_at hl 5 rfl) ?_
              exact ret l1_1 () _ _ _ _ _ _ rfl (hT1.symm.trans (gsX_X9_wordKind_1_q3 c4 hG6.symm et7 et10 c13 c14 c20)) hP hD hS dX9_wordKind_95 (Nat.le_refl _) (Nat.le_refl _)
        · skip
          have zc13 : ¬ (r5.toInt = 32) := by rw [fa_eq, show (32 : Int32).toInt = 32 from by decide] at c13; exact c13
          refine lv_iload_n hx hb dX9_wordKind_47 rfl (lv_at hl 3 rfl) ?_
          refine lv_if_eq (tgt := 76) hx hb dX9_wordKind_48 (by decide) (fun c30 => ?_) (fun c30 => ?_)
          · skip
            have zc30 : l3_1.toInt = 0 := by rw [fa_eq, show (0 : Int32).toInt = 0 from by decide] at c30; exact c30
            refine lv_iconst (v := 0) hx hb dX9_wordKind_76 (by decide) ?_
            refine lv_istore_n (lv' := [(3, .int 0), (6, .int t10), (5, .int r5), (4, .int l4_1), (2, .int l2_1), (1, .int l1_1), (0, .ref (x 0))]) hx hb dX9_wordKind_77 rfl hl (by decide) rfl (fun ls hl => ?_)
            refine lv_goto (tgt := 106) hx hb dX9_wordKind_78 (by decide) ?_
            obtain ⟨t31, et31⟩ : ∃ y : Int32, y = l4_1 + 1 := ⟨_, rfl⟩
            have zt31 : t31.toInt = l4_1.toInt + 1 := by rw [et31]; exact add_i rfl (by decide) (by omega) (by omega)
            refine lv_iinc (v := t31) (lv' := [(4, .int t31), (3, .int 0), (6, .int t10), (5, .int r5), (2, .int l2_1), (1, .int l1_1), (0, .ref (x 0))]) hx hb dX9_wordKind_106 hl (k := 3) rfl (by rw [et31]; rfl) (by decide) rfl (fun ls hl => ?_)
            refine lv_goto (tgt := 10) hx hb dX9_wordKind_109 (by decide) ?_
            have rg32 := fb_rng t31
            exact ih1 l1_1 l2_1 0 t31 ((gsX_X9_wordKind_1_q4 c4 hG6.symm et7 et10 c13 c30 et31).symm.trans hT1) ⟨show (0 : Int) ≤ l2_1.toInt by omega, show l2_1.toInt ≤ (102 : Int) by omega⟩ ⟨by decide, by decide⟩ ⟨show (0 : Int) ≤ t31.toInt by omega, show t31.toInt ≤ (102 : Int) by omega⟩ (by show l2_1.toInt ≤ t31.toInt; omega) (by show (2147483647 - t31.toInt).toNat < n1; omega) _ _ _ hP hD hS (lv_sub hl [0, 1, 4, 5, 6] rfl)
          · skip
            have zc30 : ¬ (l3_1.toInt = 0) := by rw [fa_eq, show (0 : Int32).toInt = 0 from by decide] at c30; exact c30
            refine lv_iload hx hb dX9_wordKind_51 (lv_at hl 0 rfl) ?_
            refine lv_aload_n hx hb dX9_wordKind_53 rfl (lv_at hl 6 rfl) ?_
            refine va_get (D := (dC, dI)) (ci := 9) (v := .int (v 4)) (C := RX9) (T := TX9) (N := 6) hx hb hts inB_9 hown hE.1 hP 1 rfl rfl 4 (by decide) (hts _ k_143) (fun _ h9 => h9) rfl dX9_wordKind_54 ?_
            have b4_v : 0 ≤ (v 4).toInt ∧ (v 4).toInt ≤ 1600 := XI.b hIv 4 (by decide)
            refine lv_icmp_ge (tgt := 76) hx hb dX9_wordKind_57 (by decide) (fun c33 => ?_) (fun c33 => ?_)
            · skip
              have zc33 : (v 4).toInt ≤ t10.toInt := by rw [fa_le] at c33; exact c33
              have rg34 := fb_rng t10
              have rg35 := fb_rng (v 4)
              refine lv_iconst (v := 0) hx hb dX9_wordKind_76 (by decide) ?_
              refine lv_istore_n (lv' := [(3, .int 0), (6, .int t10), (5, .int r5), (4, .int l4_1), (2, .int l2_1), (1, .int l1_1), (0, .ref (x 0))]) hx hb dX9_wordKind_77 rfl hl (by decide) rfl (fun ls hl => ?_)
              refine lv_goto (tgt := 106) hx hb dX9_wordKind_78 (by decide) ?_
              obtain ⟨t36, et36⟩ : ∃ y : Int32, y = l4_1 + 1 := ⟨_, rfl⟩
              have zt36 : t36.toInt = l4_1.toInt + 1 := by rw [et36]; exact add_i rfl (by decide) (by omega) (by omega)
              refine lv_iinc (v := t36) (lv' := [(4, .int t36), (3, .int 0), (6, .int t10), (5, .int r5), (2, .int l2_1), (1, .int l1_1), (0, .ref (x 0))]) hx hb dX9_wordKind_106 hl (k := 3) rfl (by rw [et36]; rfl) (by decide) rfl (fun ls hl => ?_)
              refine lv_goto (tgt := 10) hx hb dX9_wordKind_109 (by decide) ?_
              have rg37 := fb_rng t36
              exact ih1 l1_1 l2_1 0 t36 ((gsX_X9_wordKind_1_q5 c4 hG6.symm et7 et10 c13 c30 c33 et36).symm.trans hT1) ⟨show (0 : Int) ≤ l2_1.toInt by omega, show l2_1.toInt ≤ (102 : Int) by omega⟩ ⟨by decide, by decide⟩ ⟨show (0 : Int) ≤ t36.toInt by omega, show t36.toInt ≤ (102 : Int) by omega⟩ (by show l2_1.toInt ≤ t36.toInt; omega) (by show (2147483647 - t36.toInt).toNat < n1; omega) _ _ _ hP hD hS (lv_sub hl [0, 1, 4, 5, 6] rfl)
            · skip
              have zc33 : ¬ ((v 4).toInt ≤ t10.toInt) := by rw [fa_le] at c33; exact c33
              have rg38 := fb_rng t10
              have rg39 := fb_rng (v 4)
              refine lv_aload_n hx hb dX9_wordKind_60 rfl (lv_at hl 6 rfl) ?_
              refine va_get (D := (dC, dI)) (ci := 9) (v := .ref (x 1)) (C := RX9) (T := TX9) (N := 6) hx hb hts inB_9 hown hE.1 hP 1 rfl rfl 0 (by decide) (hts _ k_136) (fun _ h9 => h9) rfl dX9_wordKind_61 ?_
              refine lv_iload hx hb dX9_wordKind_64 (lv_at hl 0 rfl) ?_
              refine ldB hx hb hE hP 2 rfl (vp_in_iff.mpr ⟨by omega, by omega⟩) rfl rfl dX9_wordKind_66 ?_
              refine lv_topi (fun t40 et40 => ?_)
              refine lv_iload hx hb dX9_wordKind_67 (lv_at hl 1 rfl) ?_
              refine lv_icmp_ne (tgt := 76) hx hb dX9_wordKind_69 (by decide) (fun c41 => ?_) (fun c41 => ?_)
              · skip
                have zc41 : ¬ (t40.toInt = r5.toInt) := by rw [fa_eq] at c41; exact c41
                have rg42 := fb_rng t40
                have rg43 := fb_rng r5
                refine lv_iconst (v := 0) hx hb dX9_wordKind_76 (by decide) ?_
                refine lv_istore_n (lv' := [(3, .int 0), (6, .int t10), (5, .int r5), (4, .int l4_1), (2, .int l2_1), (1, .int l1_1), (0, .ref (x 0))]) hx hb dX9_wordKind_77 rfl hl (by decide) rfl (fun ls hl => ?_)
                refine lv_goto (tgt := 106) hx hb dX9_wordKind_78 (by decide) ?_
                obtain ⟨t44, et44⟩ : ∃ y : Int32, y = l4_1 + 1 := ⟨_, rfl⟩
                have zt44 : t44.toInt = l4_1.toInt + 1 := by rw [et44]; exact add_i rfl (by decide) (by omega) (by omega)
                refine lv_iinc (v := t44) (lv' := [(4, .int t44), (3, .int 0), (6, .int t10), (5, .int r5), (2, .int l2_1), (1, .int l1_1), (0, .ref (x 0))]) hx hb dX9_wordKind_106 hl (k := 3) rfl (by rw [et44]; rfl) (by decide) rfl (fun ls hl => ?_)
                refine lv_goto (tgt := 10) hx hb dX9_wordKind_109 (by decide) ?_
                have rg45 := fb_rng t44
                exact ih1 l1_1 l2_1 0 t44 ((gsX_X9_wordKind_1_q6 c4 hG6.symm et7 et10 c13 c30 c33 et40 c41 et44).symm.trans hT1) ⟨show (0 : Int) ≤ l2_1.toInt by omega, show l2_1.toInt ≤ (102 : Int) by omega⟩ ⟨by decide, by decide⟩ ⟨show (0 : Int) ≤ t44.toInt by omega, show t44.toInt ≤ (102 : Int) by omega⟩ (by show l2_1.toInt ≤ t44.toInt; omega) (by show (2147483647 - t44.toInt).toNat < n1; omega) _ _ _ hP hD hS (lv_sub hl [0, 1, 4, 5, 6] rfl)
              · skip
                have zc41 : t40.toInt = r5.toInt := by rw [fa_eq] at c41; exact c41
                have rg46 := fb_rng t40
                have rg47 := fb_rng r5
                refine lv_iconst (v := 1) hx hb dX9_wordKind_72 (by decide) ?_
                refine lv_goto (tgt := 77) hx hb dX9_wordKind_73 (by decide) ?_
                refine lv_istore_n (lv' := [(3, .int 1), (6, .int t10), (5, .int r5), (4, .int l4_1), (2, .int l2_1), (1, .int l1_1), (0, .ref (x 0))]) hx hb dX9_wordKind_77 rfl hl (by decide) rfl (fun ls hl => ?_)
                refine lv_goto (tgt := 106) hx hb dX9_wordKind_78 (by decide) ?_
                obtain ⟨t48, et48⟩ : ∃ y : Int32, y = l4_1 + 1 := ⟨_, rfl⟩
                have zt48 : t48.toInt = l4_1.toInt + 1 := by rw [et48]; exact add_i rfl (by decide) (by omega) (by omega)
                refine lv_iinc (v := t48) (lv' := [(4, .int t48), (3, .int 1), (6, .int t10), (5, .int r5), (2, .int l2_1), (1, .int l1_1), (0, .ref (x 0))]) hx hb dX9_wordKind_106 hl (k := 3) rfl (by rw [et48]; rfl) (by decide) rfl (fun ls hl => ?_)
                refine lv_goto (tgt := 10) hx hb dX9_wordKind_109 (by decide) ?_
                have rg49 := fb_rng t48
                exact ih1 l1_1 l2_1 1 t48 ((gsX_X9_wordKind_1_q7 c4 hG6.symm et7 et10 c13 c30 c33 et40 c41 et48).symm.trans hT1) ⟨show (0 : Int) ≤ l2_1.toInt by omega, show l2_1.toInt ≤ (102 : Int) by omega⟩ ⟨by decide, by decide⟩ ⟨show (0 : Int) ≤ t48.toInt by omega, show t48.toInt ≤ (102 : Int) by omega⟩ (by show l2_1.toInt ≤ t48.toInt; omega) (by show (2147483647 - t48.toInt).toNat < n1; omega) _ _ _ hP hD hS (lv_sub hl [0, 1, 4, 5, 6] rfl)
  exact lp1 (4294967296 + NF) 101 0 1 0 gsX_X9_wordKind_1_q8.symm ⟨by decide, by decide⟩ ⟨by decide, by decide⟩ ⟨by decide, by decide⟩ (by have q4 : (0 : Int32).toInt = 0 := (by decide); have q2 : (0 : Int32).toInt = 0 := (by decide); show (0 : Int32).toInt ≤ (0 : Int32).toInt; omega) (by have q4 : (0 : Int32).toInt = 0 := (by decide); have q3 : (1 : Int32).toInt = 1 := (by decide); have q2 : (0 : Int32).toInt = 0 := (by decide); have q1 : (101 : Int32).toInt = 101 := (by decide); show (2147483647 - (0 : Int32).toInt).toNat < 4294967296 + NF; omega) _ _ _ hP hD hS (lv_sub hl [0, 1, 2, 3, 4] rfl)
set_option maxHeartbeats 4000000 in
set_option maxRecDepth 100000 in
theorem sX_X9_isDigit_1 (NF : Nat) (l : Launch) (dC : Nat → ClassId) (dI : Nat → Nat → Nat) (cy : Nat → ClassId) (x0 : Nat) (x : Nat → Nat) (p1 : Int32) (v : Nat → Int32) (f : Nat → Nat → Int32) (hIv : XI v)  : ctI l (dC, dI) cy yX9_isDigit cX9_isDigit 2 .boolean 1 60 0 0 Unit [.ref (x 0), .int p1] (XW cy x0 x v f) (fun r u => gsX_X9_isDigit_1 NF p1 v f = r ∧ ((r = 1 ∧ 0 ≤ p1.toInt ∧ p1.toInt < (v 1).toInt ∧ p1.toInt ≤ 1599) ∨ (r = 0))) (fun u => XW cy x0 x v f) := by
  refine ctI_of (by decide) (Nat.le_of_ble_eq_true rfl) (fun p e s m below meth c A ls Q hx hb hml hts hown hE hP hD hA hl ret => ?_)
  have hown : s.vm.findClass RX9 = some m.cls := hown
  have hS : va_S A s.heap s.heap [] := va_S.rf
  have hl : lv_has ls 2 [(0, .ref (x 0)), (1, .int p1)] := hl
  refine lv_iload_n hx hb dX9_isDigit_0 rfl (lv_at hl 1 rfl) ?_
  refine lv_if_lt (tgt := 38) hx hb dX9_isDigit_1 (by decide) (fun c1 => ?_) (fun c1 => ?_)
  · skip
    have zc1 : p1.toInt < 0 := by rw [fa_lt, show (0 : Int32).toInt = 0 from by decide] at c1; exact c1
    refine lv_iconst (v := 0) hx hb dX9_isDigit_38 (by decide) ?_
    exact ret 0 () _ _ _ _ _ _ rfl ⟨(gsX_X9_isDigit_1_q0 c1), (Or.inr rfl)⟩ hP hD hS dX9_isDigit_39 (Nat.le_refl _) (Nat.le_refl _)
  · skip
    have zc1 : ¬ (p1.toInt < 0) := by rw [fa_lt, show (0 : Int32).toInt = 0 from by decide] at c1; exact c1
    refine lv_iload_n hx hb dX9_isDigit_4 rfl (lv_at hl 1 rfl) ?_
    refine lv_aload_n hx hb dX9_isDigit_5 rfl (lv_at hl 0 rfl) ?_
    refine va_get (D := (dC, dI)) (ci := 9) (v := .int (v 1)) (C := RX9) (T := TX9) (N := 6) hx hb hts inB_9 hown hE.1 hP 1 rfl rfl 1 (by decide) (hts _ k_137) (fun _ h9 => h9) rfl dX9_isDigit_6 ?_
    have b1_v : 0 ≤ (v 1).toInt ∧ (v 1).toInt ≤ 1600 := XI.b hIv 1 (by decide)
    refine lv_icmp_ge (tgt := 38) hx hb dX9_isDigit_9 (by decide) (fun c2 => ?_) (fun c2 => ?_)
    · skip
      have zc2 : (v 1).toInt ≤ p1.toInt := by rw [fa_le] at c2; exact c2
      have rg3 := fb_rng p1
      have rg4 := fb_rng (v 1)
      refine lv_iconst (v := 0) hx hb dX9_isDigit_38 (by decide) ?_
      exact ret 0 () _ _ _ _ _ _ rfl ⟨(gsX_X9_isDigit_1_q1 c1 c2), (Or.inr rfl)⟩ hP hD hS dX9_isDigit_39 (Nat.le_refl _) (Nat.le_refl _)
    · skip
      have zc2 : ¬ ((v 1).toInt ≤ p1.toInt) := by rw [fa_le] at c2; exact c2
      have rg5 := fb_rng p1
      have rg6 := fb_rng (v 1)
      refine lv_aload_n hx hb dX9_isDigit_12 rfl (lv_at hl 0 rfl) ?_
      refine va_get (D := (dC, dI)) (ci := 9) (v := .ref (x 1)) (C := RX9) (T := TX9) (N := 6) hx hb hts inB_9 hown hE.1 hP 1 rfl rfl 0 (by decide) (hts _ k_136) (fun _ h9 => h9) rfl dX9_isDigit_13 ?_
      refine lv_iload_n hx hb dX9_isDigit_16 rfl (lv_at hl 1 rfl) ?_
      refine ldB hx hb hE hP 2 rfl (vp_in_iff.mpr ⟨by omega, by omega⟩) rfl rfl dX9_isDigit_17 ?_
      refine lv_topi (fun t7 et7 => ?_)
      refine lv_bipush (v := 48) hx hb dX9_isDigit_18 (by decide) ?_
      refine lv_icmp_lt (tgt := 38) hx hb dX9_isDigit_20 (by decide) (fun c8 => ?_) (fun c8 => ?_)
      · skip
        have zc8 : t7.toInt < 48 := by rw [fa_lt, show (48 : Int32).toInt = 48 from by decide] at c8; exact c8
        refine lv_iconst (v := 0) hx hb dX9_isDigit_38 (by decide) ?_
        exact ret 0 () _ _ _ _ _ _ rfl ⟨(gsX_X9_isDigit_1_q2 c1 c2 et7 c8), (Or.inr rfl)⟩ hP hD hS dX9_isDigit_39 (Nat.le_refl _) (Nat.le_refl _)
      · skip
        have zc8 : ¬ (t7.toInt < 48) := by rw [fa_lt, show (48 : Int32).toInt = 48 from by decide] at c8; exact c8
        refine lv_aload_n hx hb dX9_isDigit_23 rfl (lv_at hl 0 rfl) ?_
        refine va_get (D := (dC, dI)) (ci := 9) (v := .ref (x 1)) (C := RX9) (T := TX9) (N := 6) hx hb hts inB_9 hown hE.1 hP 1 rfl rfl 0 (by decide) (hts _ k_136) (fun _ h9 => h9) rfl dX9_isDigit_24 ?_
        refine lv_iload_n hx hb dX9_isDigit_27 rfl (lv_at hl 1 rfl) ?_
        refine ldB hx hb hE hP 2 rfl (vp_in_iff.mpr ⟨by omega, by omega⟩) rfl rfl dX9_isDigit_28 ?_
        refine lv_topi (fun t9 et9 => ?_)
        refine lv_bipush (v := 57) hx hb dX9_isDigit_29 (by decide) ?_
        refine lv_icmp_gt (tgt := 38) hx hb dX9_isDigit_31 (by decide) (fun c10 => ?_) (fun c10 => ?_)
        · skip
          have zc10 : 57 < t9.toInt := by rw [fa_lt, show (57 : Int32).toInt = 57 from by decide] at c10; exact c10
          refine lv_iconst (v := 0) hx hb dX9_isDigit_38 (by decide) ?_
          exact ret 0 () _ _ _ _ _ _ rfl ⟨(gsX_X9_isDigit_1_q3 c1 c2 et7 c8 et9 c10), (Or.inr rfl)⟩ hP hD hS dX9_isDigit_39 (Nat.le_refl _) (Nat.le_refl _)
        · skip
          have zc10 : ¬ (57 < t9.toInt) := by rw [fa_lt, show (57 : Int32).toInt = 57 from by decide] at c10; exact c10
          refine lv_iconst (v := 1) hx hb dX9_isDigit_34 (by decide) ?_
          refine lv_goto (tgt := 39) hx hb dX9_isDigit_35 (by decide) ?_
          exact ret 1 () _ _ _ _ _ _ rfl ⟨(gsX_X9_isDigit_1_q4 c1 c2 et7 c8 et9 c10), (Or.inl ⟨rfl, by omega, by omega, by omega⟩)⟩ hP hD hS dX9_isDigit_39 (Nat.le_refl _) (Nat.le_refl _)
set_option maxHeartbeats 4000000 in
set_option maxRecDepth 100000 in
theorem sX_J0_isLatin1_aae02_2 (NF : Nat) (l : Launch) (dC : Nat → ClassId) (dI : Nat → Nat → Nat) (cy : Nat → ClassId) (x0 : Nat) (x : Nat → Nat)  (v : Nat → Int32) (f : Nat → Nat → Int32) (hIv : XI v)  : ctIS l (dC, dI) cy yJ0_isLatin1_aae02 cJ0_isLatin1_aae02 1 .boolean 1 60 0 0 Unit [.ref (dI 100 0)] (XW cy x0 x v f) (fun r u => gsX_J0_isLatin1_aae02_2 NF v f = r ∧ r = 1) (fun u => XW cy x0 x v f) := by
  refine ctIS_of (by decide) (Nat.le_of_ble_eq_true rfl) (fun p e s m below meth c A ls Q hx hb hml hts hown hE hF hT hP hD hA hl ret => ?_)
  have hown : s.vm.findClass RJ0 = some m.cls := hown
  have hS : va_S A s.heap s.heap [] := va_S.rf
  have hl : lv_has ls 1 [(0, .ref (dI 100 0))] := hl
  refine va_gets hx hb hT.2.1 hS hown (hts _ k_579) (fun _ h9 => h9) dJ0_isLatin1_aae02_0 ?_
  refine lv_if_eq (tgt := 17) hx hb dJ0_isLatin1_aae02_3 (by decide) (fun c0 => absurd c0 (by decide)) (fun _ => ?_)
  refine lv_aload_n hx hb dJ0_isLatin1_aae02_6 rfl (lv_at hl 0 rfl) ?_
  refine vk_getf (q := (dI 100 0)) (v := .int 0) hx hb (hT.1.1 0 (by decide)).2.1 hS hown (hts _ k_2060) (fun _ h9 => h9) dJ0_isLatin1_aae02_7 ?_
  refine lv_if_ne (tgt := 17) hx hb dJ0_isLatin1_aae02_10 (by decide) (fun c0 => absurd (by decide) c0) (fun _ => ?_)
  refine lv_iconst (v := 1) hx hb dJ0_isLatin1_aae02_13 (by decide) ?_
  refine lv_goto (tgt := 18) hx hb dJ0_isLatin1_aae02_14 (by decide) ?_
  exact ret 1 () _ _ _ _ _ _ rfl ⟨gsX_J0_isLatin1_aae02_2_q0, rfl⟩ hP hD hS dJ0_isLatin1_aae02_18 (Nat.le_refl _) (Nat.le_refl _)
set_option maxHeartbeats 4000000 in
set_option maxRecDepth 100000 in
theorem sX_J0_coder_7d493_2 (NF : Nat) (l : Launch) (dC : Nat → ClassId) (dI : Nat → Nat → Nat) (cy : Nat → ClassId) (x0 : Nat) (x : Nat → Nat)  (v : Nat → Int32) (f : Nat → Nat → Int32) (hIv : XI v)  : ctIS l (dC, dI) cy yJ0_coder_7d493 cJ0_coder_7d493 1 .byte 1 60 0 0 Unit [.ref (dI 100 0)] (XW cy x0 x v f) (fun r u => gsX_J0_coder_7d493_2 NF v f = r ∧ r = 0) (fun u => XW cy x0 x v f) := by
  refine ctIS_of (by decide) (Nat.le_of_ble_eq_true rfl) (fun p e s m below meth c A ls Q hx hb hml hts hown hE hF hT hP hD hA hl ret => ?_)
  have hown : s.vm.findClass RJ0 = some m.cls := hown
  have hS : va_S A s.heap s.heap [] := va_S.rf
  have hl : lv_has ls 1 [(0, .ref (dI 100 0))] := hl
  refine va_gets hx hb hT.2.1 hS hown (hts _ k_579) (fun _ h9 => h9) dJ0_coder_7d493_0 ?_
  refine lv_if_eq (tgt := 13) hx hb dJ0_coder_7d493_3 (by decide) (fun c0 => absurd c0 (by decide)) (fun _ => ?_)
  refine lv_aload_n hx hb dJ0_coder_7d493_6 rfl (lv_at hl 0 rfl) ?_
  refine vk_getf (q := (dI 100 0)) (v := .int 0) hx hb (hT.1.1 0 (by decide)).2.1 hS hown (hts _ k_2060) (fun _ h9 => h9) dJ0_coder_7d493_7 ?_
  refine lv_goto (tgt := 14) hx hb dJ0_coder_7d493_10 (by decide) ?_
  exact ret 0 () _ _ _ _ _ _ rfl ⟨gsX_J0_coder_7d493_2_q0, rfl⟩ hP hD hS dJ0_coder_7d493_14 (Nat.le_refl _) (Nat.le_refl _)
set_option maxHeartbeats 4000000 in
set_option maxRecDepth 100000 in
theorem sX_J0_length_8abf5_2 (NF : Nat) (l : Launch) (dC : Nat → ClassId) (dI : Nat → Nat → Nat) (cy : Nat → ClassId) (x0 : Nat) (x : Nat → Nat)  (v : Nat → Int32) (f : Nat → Nat → Int32) (hIv : XI v)  : ctIS l (dC, dI) cy yJ0_length_8abf5 cJ0_length_8abf5 1 .int 2 80 0 0 Unit [.ref (dI 100 0)] (XW cy x0 x v f) (fun r u => gsX_J0_length_8abf5_2 NF v f = r ∧ r = 11) (fun u => XW cy x0 x v f) := by
  refine ctIS_of (by decide) (Nat.le_of_ble_eq_true rfl) (fun p e s m below meth c A ls Q hx hb hml hts hown hE hF hT hP hD hA hl ret => ?_)
  have hown : s.vm.findClass RJ0 = some m.cls := hown
  have hS : va_S A s.heap s.heap [] := va_S.rf
  have hl : lv_has ls 1 [(0, .ref (dI 100 0))] := hl
  refine lv_aload_n hx hb dJ0_length_8abf5_0 rfl (lv_at hl 0 rfl) ?_
  refine vk_getf (q := (dI 100 0)) (v := .ref (dI 101 0)) hx hb (hT.1.1 0 (by decide)).2.2.1 hS hown (hts _ k_2059) (fun _ h9 => h9) dJ0_length_8abf5_1 ?_
  refine va_tlen (v := 11) hx hb (hT.1.1 0 (by decide)).2.2.2 hS (by decide) dJ0_length_8abf5_4 ?_
  refine lv_aload_n hx hb dJ0_length_8abf5_5 rfl (lv_at hl 0 rfl) ?_
  refine crVi (n := 0) (rest := [.int 11]) hx hb hml hown hts hE hP hD hS hA hF hT (sX_J0_coder_7d493_2 NF l dC dI cy x0 x  v f hIv ) k_575 k_576 k_577 k_115 k_578 (by decide +kernel) ⟨Nat.le_of_ble_eq_true rfl, Nat.le_of_ble_eq_true rfl⟩ 0 (by decide) rfl rfl (rfl) hl.1 rfl (Nat.le_of_ble_eq_true rfl) dJ0_length_8abf5_6 (fun r1 u H locs hw hP hD hS => ?_)
  obtain ⟨hG2, hw⟩ := hw
  refine tI (y := 0) hw ?_
  refine lv_ishr hx hb dJ0_length_8abf5_9 ?_
  refine tI (y := 11) (by decide) ?_
  exact ret 11 () _ _ _ _ _ _ rfl ⟨gsX_J0_length_8abf5_2_q0, rfl⟩ hP hD hS dJ0_length_8abf5_10 (Nat.le_refl _) (Nat.le_refl _)
set_option maxHeartbeats 4000000 in
set_option maxRecDepth 100000 in
theorem sX_J1_canEncode_9a6ad_1 (NF : Nat) (l : Launch) (dC : Nat → ClassId) (dI : Nat → Nat → Nat) (cy : Nat → ClassId) (x0 : Nat) (x : Nat → Nat) (p0 : Int32) (v : Nat → Int32) (f : Nat → Nat → Int32) (hIv : XI v)  : ctIS l (dC, dI) cy yJ1_canEncode_9a6ad cJ1_canEncode_9a6ad 1 .boolean 1 60 0 0 Unit [.int p0] (XW cy x0 x v f) (fun r u => gsX_J1_canEncode_9a6ad_1 NF p0 v f = r ∧ ((r = 1) ∨ (r = 0))) (fun u => XW cy x0 x v f) := by
  refine ctIS_of (by decide) (Nat.le_of_ble_eq_true rfl) (fun p e s m below meth c A ls Q hx hb hml hts hown hE hF hT hP hD hA hl ret => ?_)
  have hown : s.vm.findClass RJ1 = some m.cls := hown
  have hS : va_S A s.heap s.heap [] := va_S.rf
  have hl : lv_has ls 1 [(0, .int p0)] := hl
  refine lv_iload_n hx hb dJ1_canEncode_9a6ad_0 rfl (lv_at hl 0 rfl) ?_
  refine lv_if_lt (tgt := 15) hx hb dJ1_canEncode_9a6ad_1 (by decide) (fun c1 => ?_) (fun c1 => ?_)
  · skip
    have zc1 : p0.toInt < 0 := by rw [fa_lt, show (0 : Int32).toInt = 0 from by decide] at c1; exact c1
    refine lv_iconst (v := 0) hx hb dJ1_canEncode_9a6ad_15 (by decide) ?_
    exact ret 0 () _ _ _ _ _ _ rfl ⟨(gsX_J1_canEncode_9a6ad_1_q0 c1), (Or.inr rfl)⟩ hP hD hS dJ1_canEncode_9a6ad_16 (Nat.le_refl _) (Nat.le_refl _)
  · skip
    have zc1 : ¬ (p0.toInt < 0) := by rw [fa_lt, show (0 : Int32).toInt = 0 from by decide] at c1; exact c1
    refine lv_iload_n hx hb dJ1_canEncode_9a6ad_4 rfl (lv_at hl 0 rfl) ?_
    refine lv_sipush (v := 255) hx hb dJ1_canEncode_9a6ad_5 (by decide) ?_
    refine lv_icmp_gt (tgt := 15) hx hb dJ1_canEncode_9a6ad_8 (by decide) (fun c2 => ?_) (fun c2 => ?_)
    · skip
      have zc2 : 255 < p0.toInt := by rw [fa_lt, show (255 : Int32).toInt = 255 from by decide] at c2; exact c2
      refine lv_iconst (v := 0) hx hb dJ1_canEncode_9a6ad_15 (by decide) ?_
      exact ret 0 () _ _ _ _ _ _ rfl ⟨(gsX_J1_canEncode_9a6ad_1_q1 c1 c2), (Or.inr rfl)⟩ hP hD hS dJ1_canEncode_9a6ad_16 (Nat.le_refl _) (Nat.le_refl _)
    · skip
      have zc2 : ¬ (255 < p0.toInt) := by rw [fa_lt, show (255 : Int32).toInt = 255 from by decide] at c2; exact c2
      refine lv_iconst (v := 1) hx hb dJ1_canEncode_9a6ad_11 (by decide) ?_
      refine lv_goto (tgt := 16) hx hb dJ1_canEncode_9a6ad_12 (by decide) ?_
      exact ret 1 () _ _ _ _ _ _ rfl ⟨(gsX_J1_canEncode_9a6ad_1_q2 c1 c2), (Or.inl rfl)⟩ hP hD hS dJ1_canEncode_9a6ad_16 (Nat.le_refl _) (Nat.le_refl _)
set_option maxHeartbeats 4000000 in
set_option maxRecDepth 100000 in
theorem sX_J1_indexOfChar_4cfef_1 (NF : Nat) (l : Launch) (dC : Nat → ClassId) (dI : Nat → Nat → Nat) (cy : Nat → ClassId) (x0 : Nat) (x : Nat → Nat) (p1 : Int32) (p2 : Int32) (p3 : Int32) (v : Nat → Int32) (f : Nat → Nat → Int32) (hIv : XI v) (hp2 : (0 : Int) ≤ p2.toInt ∧ p2.toInt ≤ 11) (hp3 : (0 : Int) ≤ p3.toInt ∧ p3.toInt ≤ 11) : ctIS l (dC, dI) cy yJ1_indexOfChar_4cfef cJ1_indexOfChar_4cfef 6 .int 1 60 0 0 Unit [.ref (dI 101 0), .int p1, .int p2, .int p3] (XW cy x0 x v f) (fun r u => gsX_J1_indexOfChar_4cfef_1 NF p1 p2 p3 v f = r) (fun u => XW cy x0 x v f) := by
  refine ctIS_of (by decide) (Nat.le_of_ble_eq_true rfl) (fun p e s m below meth c A ls Q hx hb hml hts hown hE hF hT hP hD hA hl ret => ?_)
  have hown : s.vm.findClass RJ1 = some m.cls := hown
  have hS : va_S A s.heap s.heap [] := va_S.rf
  have hl : lv_has ls 6 [(0, .ref (dI 101 0)), (1, .int p1), (2, .int p2), (3, .int p3)] := hl
  refine lv_iload_n hx hb dJ1_indexOfChar_4cfef_0 rfl (lv_at hl 1 rfl) ?_
  refine lv_i2b hx hb dJ1_indexOfChar_4cfef_1 rfl ?_
  refine lv_topi (fun t1 et1 => ?_)
  refine lv_istore (lv' := [(4, .int t1), (0, .ref (dI 101 0)), (1, .int p1), (2, .int p2), (3, .int p3)]) hx hb dJ1_indexOfChar_4cfef_2 hl (by decide) rfl (fun ls hl => ?_)
  refine lv_iload_n hx hb dJ1_indexOfChar_4cfef_4 rfl (lv_at hl 3 rfl) ?_
  refine lv_istore (lv' := [(5, .int p2), (4, .int t1), (0, .ref (dI 101 0)), (1, .int p1), (2, .int p2), (3, .int p3)]) hx hb dJ1_indexOfChar_4cfef_5 hl (by decide) rfl (fun ls hl => ?_)
  have lp2 : ∀ (n2 : Nat) (l5_2 : Int32), gsX_J1_indexOfChar_4cfef_1_L2 NF p3 t1 n2 l5_2 = (gsX_J1_indexOfChar_4cfef_1 NF p1 p2 p3 v f) → ((0 : Int) ≤ l5_2.toInt ∧ l5_2.toInt ≤ 2147483647) → (2147483647 - l5_2.toInt).toNat < n2 → ∀ (H : Heap) (locs : List Loc) (ls : Array Slot), va_P (dC, dI) vwCl (XW cy x0 x v f) H → va_D A (XW cy x0 x v f) → va_S A s.heap H locs → lv_has ls 6 [(5, .int l5_2), (4, .int t1), (0, .ref (dI 101 0)), (1, .int p1), (2, .int p2), (3, .int p3)] → W p l e { frames := 1, cells := 0, slots := 0, locals := 60 } s m ([.ref (dI 101 0), .int p1, .int p2, .int p3] : List Value).toArray below meth c H locs 0 0 Q (F0 m 7 ls []) := by
    intro n2
    induction n2 with
    | zero => intro l5_2 hT2 hr5_2 hm; exact absurd hm (Nat.not_lt_zero _)
    | succ n2 ih2 =>
      intro l5_2 hT2 hr5_2 hm2 H locs ls hP hD hS hl
      refine lv_iload hx hb dJ1_indexOfChar_4cfef_7 (lv_at hl 0 rfl) ?_
      refine lv_iload_n hx hb dJ1_indexOfChar_4cfef_9 rfl (lv_at hl 5 rfl) ?_
      refine lv_icmp_ge (tgt := 31) hx hb dJ1_indexOfChar_4cfef_10 (by decide) (fun c3 => ?_) (fun c3 => ?_)
      · skip
        have zc3 : p3.toInt ≤ l5_2.toInt := by rw [fa_le] at c3; exact c3
        have rg4 := fb_rng l5_2
        have rg5 := fb_rng p3
        refine lv_iconst (v := (-1)) hx hb dJ1_indexOfChar_4cfef_31 (by decide) ?_
        exact ret (-1) () _ _ _ _ _ _ rfl (hT2.symm.trans (gsX_J1_indexOfChar_4cfef_1_q0 c3)) hP hD hS dJ1_indexOfChar_4cfef_32 (Nat.le_refl _) (Nat.le_refl _)
      · skip
        have zc3 : ¬ (p3.toInt ≤ l5_2.toInt) := by rw [fa_le] at c3; exact c3
        have rg6 := fb_rng l5_2
        have rg7 := fb_rng p3
        refine lv_aload_n hx hb dJ1_indexOfChar_4cfef_13 rfl (lv_at hl 2 rfl) ?_
        refine lv_iload hx hb dJ1_indexOfChar_4cfef_14 (lv_at hl 0 rfl) ?_
        refine va_tb hx hb (hT.1.1 0 (by decide)).2.2.2 hS (show vp_in l5_2 11 from (vp_in_iff.mpr ⟨by omega, by omega⟩)) rfl dJ1_indexOfChar_4cfef_16 ?_
        refine lv_topi (fun t8 et8 => ?_)
        refine lv_iload hx hb dJ1_indexOfChar_4cfef_17 (lv_at hl 1 rfl) ?_
        refine lv_icmp_ne (tgt := 25) hx hb dJ1_indexOfChar_4cfef_19 (by decide) (fun c9 => ?_) (fun c9 => ?_)
        · skip
          have zc9 : ¬ (t8.toInt = t1.toInt) := by rw [fa_eq] at c9; exact c9
          have rg10 := fb_rng t8
          have rg11 := fb_rng t1
          obtain ⟨t12, et12⟩ : ∃ y : Int32, y = l5_2 + 1 := ⟨_, rfl⟩
          have zt12 : t12.toInt = l5_2.toInt + 1 := by rw [et12]; exact add_i rfl (by decide) (by omega) (by omega)
          refine lv_iinc (v := t12) (lv' := [(5, .int t12), (4, .int t1), (0, .ref (dI 101 0)), (1, .int p1), (2, .int p2), (3, .int p3)]) hx hb dJ1_indexOfChar_4cfef_25 hl (k := 0) rfl (by rw [et12]; rfl) (by decide) rfl (fun ls hl => ?_)
          refine lv_goto (tgt := 7) hx hb dJ1_indexOfChar_4cfef_28 (by decide) ?_
          have rg13 := fb_rng t12
          exact ih2 t12 ((gsX_J1_indexOfChar_4cfef_1_q1 c3 et8 c9 et12).symm.trans hT2) ⟨show (0 : Int) ≤ t12.toInt by omega, show t12.toInt ≤ (2147483647 : Int) by omega⟩ (by show (2147483647 - t12.toInt).toNat < n2; omega) _ _ _ hP hD hS (lv_sub hl [0, 1, 2, 3, 4, 5] rfl)
        · skip
          have zc9 : t8.toInt = t1.toInt := by rw [fa_eq] at c9; exact c9
          have rg14 := fb_rng t8
          have rg15 := fb_rng t1
          refine lv_iload hx hb dJ1_indexOfChar_4cfef_22 (lv_at hl 0 rfl) ?_
          exact ret l5_2 () _ _ _ _ _ _ rfl (hT2.symm.trans (gsX_J1_indexOfChar_4cfef_1_q2 c3 et8 c9)) hP hD hS dJ1_indexOfChar_4cfef_24 (Nat.le_refl _) (Nat.le_refl _)
  have rg16 := fb_rng p2
  exact lp2 (4294967296 + NF) p2 (gsX_J1_indexOfChar_4cfef_1_q3 et1).symm ⟨show (0 : Int) ≤ p2.toInt by omega, show p2.toInt ≤ (2147483647 : Int) by omega⟩ (by have qr0 := fb_rng p2; show (2147483647 - p2.toInt).toNat < 4294967296 + NF; omega) _ _ _ hP hD hS (lv_sub hl [0, 1, 2, 3, 4, 5] rfl)
set_option maxHeartbeats 4000000 in
set_option maxRecDepth 100000 in
theorem sX_J1_indexOf_4cfef_1 (NF : Nat) (l : Launch) (dC : Nat → ClassId) (dI : Nat → Nat → Nat) (cy : Nat → ClassId) (x0 : Nat) (x : Nat → Nat) (p1 : Int32) (v : Nat → Int32) (f : Nat → Nat → Int32) (hIv : XI v)  : ctIS l (dC, dI) cy yJ1_indexOf_4cfef cJ1_indexOf_4cfef 4 .int 2 85 0 0 Unit [.ref (dI 101 0), .int p1, .int 0, .int 11] (XW cy x0 x v f) (fun r u => gsX_J1_indexOf_4cfef_1 NF p1 v f = r) (fun u => XW cy x0 x v f) := by
  refine ctIS_of (by decide) (Nat.le_of_ble_eq_true rfl) (fun p e s m below meth c A ls Q hx hb hml hts hown hE hF hT hP hD hA hl ret => ?_)
  have hown : s.vm.findClass RJ1 = some m.cls := hown
  have hS : va_S A s.heap s.heap [] := va_S.rf
  have hl : lv_has ls 4 [(0, .ref (dI 101 0)), (1, .int p1), (2, .int 0), (3, .int 11)] := hl
  refine lv_iload_n hx hb dJ1_indexOf_4cfef_0 rfl (lv_at hl 1 rfl) ?_
  refine csSi (n := 1) (rest := []) hx hb hml hown hts hE hP hD hS hA hF hT (sX_J1_canEncode_9a6ad_1 NF l dC dI cy x0 x p1 v f hIv ) k_636 k_637 k_116 k_638 (by decide +kernel) ⟨Nat.le_of_ble_eq_true rfl, Nat.le_of_ble_eq_true rfl⟩ (rfl) hl.1 rfl (Nat.le_of_ble_eq_true rfl) dJ1_indexOf_4cfef_1 (fun r1 u H locs hw hP hD hS => ?_)
  obtain ⟨hG2, hw⟩ := hw
  rcases hw with ⟨g3⟩ | ⟨g3⟩
  · skip
    subst g3
    refine lv_if_ne (tgt := 9) hx hb dJ1_indexOf_4cfef_4 (by decide) (fun _ => ?_) (fun c0 => absurd c0 (by decide))
    refine lv_iload_n hx hb dJ1_indexOf_4cfef_9 rfl (lv_at hl 2 rfl) ?_
    refine lv_iconst (v := 0) hx hb dJ1_indexOf_4cfef_10 (by decide) ?_
    refine va_mmax hx hb (by rw [hml]; exact hl.1.symm) hown (hts _ k_639) (hts _ k_640) (hts _ k_119) (hts _ k_641) (Nat.le_of_ble_eq_true rfl) (Nat.le_of_ble_eq_true rfl) (Nat.le_of_ble_eq_true rfl) (Nat.le_of_ble_eq_true rfl) dJ1_indexOf_4cfef_11 ?_
    refine lv_topi (fun t4 et4 => ?_)
    have zt4 : t4.toInt = max (0) (0) := by rw [et4]; exact mmax_i (by decide) (by decide)
    refine lv_istore_n (lv' := [(2, .int t4), (0, .ref (dI 101 0)), (1, .int p1), (3, .int 11)]) hx hb dJ1_indexOf_4cfef_14 rfl hl (by decide) rfl (fun ls hl => ?_)
    refine lv_iload_n hx hb dJ1_indexOf_4cfef_15 rfl (lv_at hl 3 rfl) ?_
    refine lv_aload_n hx hb dJ1_indexOf_4cfef_16 rfl (lv_at hl 1 rfl) ?_
    refine va_tlen (v := 11) hx hb (hT.1.1 0 (by decide)).2.2.2 hS (by decide) dJ1_indexOf_4cfef_17 ?_
    refine va_mmin hx hb (by rw [hml]; exact hl.1.symm) hown (hts _ k_642) (hts _ k_643) (hts _ k_119) (hts _ k_644) (Nat.le_of_ble_eq_true rfl) (Nat.le_of_ble_eq_true rfl) (Nat.le_of_ble_eq_true rfl) (Nat.le_of_ble_eq_true rfl) dJ1_indexOf_4cfef_18 ?_
    refine lv_topi (fun t5 et5 => ?_)
    have zt5 : t5.toInt = min (11) (11) := by rw [et5]; exact mmin_i (by decide) (by decide)
    refine lv_istore_n (lv' := [(3, .int t5), (2, .int t4), (0, .ref (dI 101 0)), (1, .int p1)]) hx hb dJ1_indexOf_4cfef_21 rfl hl (by decide) rfl (fun ls hl => ?_)
    refine lv_iload_n hx hb dJ1_indexOf_4cfef_22 rfl (lv_at hl 1 rfl) ?_
    refine lv_iload_n hx hb dJ1_indexOf_4cfef_23 rfl (lv_at hl 0 rfl) ?_
    refine lv_icmp_lt (tgt := 29) hx hb dJ1_indexOf_4cfef_24 (by decide) (fun c6 => ?_) (fun c6 => ?_)
    · skip
      have zc6 : t4.toInt < t5.toInt := by rw [fa_lt] at c6; exact c6
      have rg7 := fb_rng t4
      have rg8 := fb_rng t5
      refine lv_aload_n hx hb dJ1_indexOf_4cfef_29 rfl (lv_at hl 2 rfl) ?_
      refine lv_iload_n hx hb dJ1_indexOf_4cfef_30 rfl (lv_at hl 3 rfl) ?_
      refine lv_iload_n hx hb dJ1_indexOf_4cfef_31 rfl (lv_at hl 1 rfl) ?_
      refine lv_iload_n hx hb dJ1_indexOf_4cfef_32 rfl (lv_at hl 0 rfl) ?_
      refine csSi (n := 4) (rest := []) hx hb hml hown hts hE hP hD hS hA hF hT (sX_J1_indexOfChar_4cfef_1 NF l dC dI cy x0 x p1 t4 t5 v f hIv ⟨show (0 : Int) ≤ t4.toInt by omega, show t4.toInt ≤ (11 : Int) by omega⟩ ⟨show (0 : Int) ≤ t5.toInt by omega, show t5.toInt ≤ (11 : Int) by omega⟩) k_645 k_646 k_116 k_647 (by decide +kernel) ⟨Nat.le_of_ble_eq_true rfl, Nat.le_of_ble_eq_true rfl⟩ (rfl) hl.1 rfl (Nat.le_of_ble_eq_true rfl) dJ1_indexOf_4cfef_33 (fun r9 u H locs hw hP hD hS => ?_)
      have hG10 := hw
      exact ret r9 () _ _ _ _ _ _ rfl (gsX_J1_indexOf_4cfef_1_q0 hG2 et4 et5 c6 hG10.symm) hP hD hS dJ1_indexOf_4cfef_36 (Nat.le_refl _) (Nat.le_refl _)
    · skip
      have zc6 : ¬ (t4.toInt < t5.toInt) := by rw [fa_lt] at c6; exact c6
      have rg11 := fb_rng t4
      have rg12 := fb_rng t5
      exact (show False by omega).elim
  · skip
    subst g3
    refine lv_if_ne (tgt := 9) hx hb dJ1_indexOf_4cfef_4 (by decide) (fun c0 => absurd (by decide) c0) (fun _ => ?_)
    refine lv_iconst (v := (-1)) hx hb dJ1_indexOf_4cfef_7 (by decide) ?_
    exact ret (-1) () _ _ _ _ _ _ rfl (gsX_J1_indexOf_4cfef_1_q1 hG2) hP hD hS dJ1_indexOf_4cfef_8 (Nat.le_refl _) (Nat.le_refl _)
set_option maxHeartbeats 4000000 in
set_option maxRecDepth 100000 in
theorem sX_J0_indexOf_7cf53_1 (NF : Nat) (l : Launch) (dC : Nat → ClassId) (dI : Nat → Nat → Nat) (cy : Nat → ClassId) (x0 : Nat) (x : Nat → Nat) (p1 : Int32) (v : Nat → Int32) (f : Nat → Nat → Int32) (hIv : XI v)  : ctIS l (dC, dI) cy yJ0_indexOf_7cf53 cJ0_indexOf_7cf53 3 .int 3 108 0 0 Unit [.ref (dI 100 0), .int p1, .int 0] (XW cy x0 x v f) (fun r u => gsX_J0_indexOf_7cf53_1 NF p1 v f = r) (fun u => XW cy x0 x v f) := by
  refine ctIS_of (by decide) (Nat.le_of_ble_eq_true rfl) (fun p e s m below meth c A ls Q hx hb hml hts hown hE hF hT hP hD hA hl ret => ?_)
  have hown : s.vm.findClass RJ0 = some m.cls := hown
  have hS : va_S A s.heap s.heap [] := va_S.rf
  have hl : lv_has ls 3 [(0, .ref (dI 100 0)), (1, .int p1), (2, .int 0)] := hl
  refine lv_aload_n hx hb dJ0_indexOf_7cf53_0 rfl (lv_at hl 0 rfl) ?_
  refine crVi (n := 0) (rest := []) hx hb hml hown hts hE hP hD hS hA hF hT (sX_J0_isLatin1_aae02_2 NF l dC dI cy x0 x  v f hIv ) k_585 k_586 k_587 k_115 k_588 (by decide +kernel) ⟨Nat.le_of_ble_eq_true rfl, Nat.le_of_ble_eq_true rfl⟩ 0 (by decide) rfl rfl (rfl) hl.1 rfl (Nat.le_of_ble_eq_true rfl) dJ0_indexOf_7cf53_1 (fun r1 u H locs hw hP hD hS => ?_)
  obtain ⟨hG2, hw⟩ := hw
  refine tI (y := 1) hw ?_
  refine lv_if_eq (tgt := 23) hx hb dJ0_indexOf_7cf53_4 (by decide) (fun c0 => absurd c0 (by decide)) (fun _ => ?_)
  refine lv_aload_n hx hb dJ0_indexOf_7cf53_7 rfl (lv_at hl 0 rfl) ?_
  refine vk_getf (q := (dI 100 0)) (v := .ref (dI 101 0)) hx hb (hT.1.1 0 (by decide)).2.2.1 hS hown (hts _ k_2059) (fun _ h9 => h9) dJ0_indexOf_7cf53_8 ?_
  refine lv_iload_n hx hb dJ0_indexOf_7cf53_11 rfl (lv_at hl 1 rfl) ?_
  refine lv_iload_n hx hb dJ0_indexOf_7cf53_12 rfl (lv_at hl 2 rfl) ?_
  refine lv_aload_n hx hb dJ0_indexOf_7cf53_13 rfl (lv_at hl 0 rfl) ?_
  refine crVi (n := 0) (rest := [.int 0, .int p1, .ref (dI 101 0)]) hx hb hml hown hts hE hP hD hS hA hF hT (sX_J0_length_8abf5_2 NF l dC dI cy x0 x  v f hIv ) k_632 k_572 k_573 k_115 k_574 (by decide +kernel) ⟨Nat.le_of_ble_eq_true rfl, Nat.le_of_ble_eq_true rfl⟩ 0 (by decide) rfl rfl (rfl) hl.1 rfl (Nat.le_of_ble_eq_true rfl) dJ0_indexOf_7cf53_14 (fun r3 u H locs hw hP hD hS => ?_)
  obtain ⟨hG4, hw⟩ := hw
  refine tI (y := 11) hw ?_
  refine csSi (n := 4) (rest := []) hx hb hml hown hts hE hP hD hS hA hF hT (sX_J1_indexOf_4cfef_1 NF l dC dI cy x0 x p1 v f hIv ) k_633 k_634 k_116 k_635 (by decide +kernel) ⟨Nat.le_of_ble_eq_true rfl, Nat.le_of_ble_eq_true rfl⟩ (rfl) hl.1 rfl (Nat.le_of_ble_eq_true rfl) dJ0_indexOf_7cf53_17 (fun r5 u H locs hw hP hD hS => ?_)
  have hG6 := hw
  refine lv_goto (tgt := 36) hx hb dJ0_indexOf_7cf53_20 (by decide) ?_
  exact ret r5 () _ _ _ _ _ _ rfl (gsX_J0_indexOf_7cf53_1_q0 hG6.symm) hP hD hS dJ0_indexOf_7cf53_36 (Nat.le_refl _) (Nat.le_refl _)
set_option maxHeartbeats 4000000 in
set_option maxRecDepth 100000 in
theorem sX_J0_indexOf_0f7a4_1 (NF : Nat) (l : Launch) (dC : Nat → ClassId) (dI : Nat → Nat → Nat) (cy : Nat → ClassId) (x0 : Nat) (x : Nat → Nat) (p1 : Int32) (v : Nat → Int32) (f : Nat → Nat → Int32) (hIv : XI v)  : ctIS l (dC, dI) cy yJ0_indexOf_0f7a4 cJ0_indexOf_0f7a4 2 .int 4 130 0 0 Unit [.ref (dI 100 0), .int p1] (XW cy x0 x v f) (fun r u => gsX_J0_indexOf_0f7a4_1 NF p1 v f = r) (fun u => XW cy x0 x v f) := by
  refine ctIS_of (by decide) (Nat.le_of_ble_eq_true rfl) (fun p e s m below meth c A ls Q hx hb hml hts hown hE hF hT hP hD hA hl ret => ?_)
  have hown : s.vm.findClass RJ0 = some m.cls := hown
  have hS : va_S A s.heap s.heap [] := va_S.rf
  have hl : lv_has ls 2 [(0, .ref (dI 100 0)), (1, .int p1)] := hl
  refine lv_aload_n hx hb dJ0_indexOf_0f7a4_0 rfl (lv_at hl 0 rfl) ?_
  refine lv_iload_n hx hb dJ0_indexOf_0f7a4_1 rfl (lv_at hl 1 rfl) ?_
  refine lv_iconst (v := 0) hx hb dJ0_indexOf_0f7a4_2 (by decide) ?_
  refine crVi (n := 2) (rest := []) hx hb hml hown hts hE hP hD hS hA hF hT (sX_J0_indexOf_7cf53_1 NF l dC dI cy x0 x p1 v f hIv ) k_628 k_629 k_630 k_115 k_631 (by decide +kernel) ⟨Nat.le_of_ble_eq_true rfl, Nat.le_of_ble_eq_true rfl⟩ 0 (by decide) rfl rfl (rfl) hl.1 rfl (Nat.le_of_ble_eq_true rfl) dJ0_indexOf_0f7a4_3 (fun r1 u H locs hw hP hD hS => ?_)
  have hG2 := hw
  exact ret r1 () _ _ _ _ _ _ rfl (gsX_J0_indexOf_0f7a4_1_q0 hG2.symm) hP hD hS dJ0_indexOf_0f7a4_6 (Nat.le_refl _) (Nat.le_refl _)
set_option maxHeartbeats 4000000 in
set_option maxRecDepth 100000 in
theorem sX_X9_advance_1 (NF : Nat) (l : Launch) (dC : Nat → ClassId) (dI : Nat → Nat → Nat) (cy : Nat → ClassId) (x0 : Nat) (x : Nat → Nat)  (v : Nat → Int32) (f : Nat → Nat → Int32) (hIv : XI v)  : ctVS l (dC, dI) cy yX9_advance cX9_advance 1 6 171 0 0 ((Nat → Int32) × (Nat → Nat → Int32)) [.ref (x 0)] (XW cy x0 x v f) (fun u => gsX_X9_advance_1 NF v f = u ∧ KV [2, 3, 4, 5] u.1 v ∧ KF [] u.2 f ∧ XI u.1 ∧ u.1 0 = v 0 ∧ u.1 1 = v 1 ∧ u.1 7 = v 7 ∧ u.1 8 = v 8 ∧ u.1 9 = v 9 ∧ u.1 10 = v 10 ∧ u.1 31 = v 31 ∧ u.1 32 = v 32) (fun u => XW cy x0 x u.1 u.2) := by
  refine ctVS_of (by decide) (Nat.le_of_ble_eq_true rfl) (fun p e s m below meth c A ls Q hx hb hml hts hown hnm hE hF hT hP hD hA hl ret => ?_)
  have hM_v : KV [2, 3, 4, 5] v v := fun _ _ => rfl
  have hA_f : KF [] f f := fun _ _ => rfl
  have hown : s.vm.findClass RX9 = some m.cls := hown
  have hS : va_S A s.heap s.heap [] := va_S.rf
  have hl : lv_has ls 1 [(0, .ref (x 0))] := hl
  refine lv_aload_n hx hb dX9_advance_0 rfl (lv_at hl 0 rfl) ?_
  refine lv_aload_n hx hb dX9_advance_1 rfl (lv_at hl 0 rfl) ?_
  refine va_get (D := (dC, dI)) (ci := 9) (v := .int (v 4)) (C := RX9) (T := TX9) (N := 6) hx hb hts inB_9 hown hE.1 hP 1 rfl rfl 4 (by decide) (hts _ k_143) (fun _ h9 => h9) rfl dX9_advance_2 ?_
  have b4_v : 0 ≤ (v 4).toInt ∧ (v 4).toInt ≤ 1600 := XI.b hIv 4 (by decide)
  refine va_put (D := (dC, dI)) (ci := 9) (v := .int (v 4)) (ty := tyX9 3) (C := RX9) (T := TX9) (N := 6) hx hb hts inB_9 tyX9 tyX9_ok nmX9 hown hE.1 hP hD hS 1 rfl rfl 3 (by decide) (hts _ k_141) (fun _ h9 => h9) rfl (tyX9_ok 3 (by decide)) rfl rfl (Nat.le_of_ble_eq_true rfl) dX9_advance_5 (fun H locs hP hD hS => ?_)
  have hP : va_P (dC, dI) vwCl (XW cy x0 x (upd v 3 (v 4)) f) H := hP
  have hD : va_D A (XW cy x0 x (upd v 3 (v 4)) f) := hD
  have lp1 : ∀ (n1 : Nat)  (v1 : Nat → Int32) (f1 : Nat → Nat → Int32), XI v1 → v1 0 = (v 0) → v1 1 = (v 1) → v1 7 = (v 7) → v1 8 = (v 8) → v1 9 = (v 9) → v1 10 = (v 10) → v1 31 = (v 31) → v1 32 = (v 32) → gsX_X9_advance_1_L1 NF v n1 v1 f1 = (gsX_X9_advance_1 NF v f) → KV [2, 3, 4, 5] v1 v → KF [] f1 f → (1600 - (v1 3).toInt).toNat < n1 → ∀ (H : Heap) (locs : List Loc) (ls : Array Slot), va_P (dC, dI) vwCl (XW cy x0 x v1 f1) H → va_D A (XW cy x0 x v1 f1) → va_S A s.heap H locs → lv_has ls 1 [(0, .ref (x 0))] → W p l e { frames := 6, cells := 0, slots := 0, locals := 171 } s m ([.ref (x 0)] : List Value).toArray below meth c H locs 0 0 Q (F0 m 8 ls []) := by
    intro n1
    induction n1 with
    | zero => intro  v1 f1 hIv1 hq0_v1 hq1_v1 hq7_v1 hq8_v1 hq9_v1 hq10_v1 hq31_v1 hq32_v1 hT1 hM_v1 hA_f1 hm; exact absurd hm (Nat.not_lt_zero _)
    | succ n1 ih1 =>
      intro  v1 f1 hIv1 hq0_v1 hq1_v1 hq7_v1 hq8_v1 hq9_v1 hq10_v1 hq31_v1 hq32_v1 hT1 hM_v1 hA_f1 hm1 H locs ls hP hD hS hl
      refine lv_aload_n hx hb dX9_advance_8 rfl (lv_at hl 0 rfl) ?_
      have jp60 : ∀ (H : Heap) (locs : List Loc) (ls : Array Slot), gsX_X9_advance_1_J2 NF v f1 v1 = (gsX_X9_advance_1 NF v f) → va_P (dC, dI) vwCl (XW cy x0 x v1 f1) H → va_D A (XW cy x0 x v1 f1) → va_S A s.heap H locs → lv_has ls 1 [(0, .ref (x 0))] → W p l e { frames := 6, cells := 0, slots := 0, locals := 171 } s m ([.ref (x 0)] : List Value).toArray below meth c H locs 0 0 Q (F0 m 60 ls []) := by
        intro H locs ls hT2 hP hD hS hl
        refine lv_aload_n hx hb dX9_advance_60 rfl (lv_at hl 0 rfl) ?_
        refine lv_aload_n hx hb dX9_advance_61 rfl (lv_at hl 0 rfl) ?_
        refine va_get (D := (dC, dI)) (ci := 9) (v := .int (v1 3)) (C := RX9) (T := TX9) (N := 6) hx hb hts inB_9 hown hE.1 hP 1 rfl rfl 3 (by decide) (hts _ k_141) (fun _ h9 => h9) rfl dX9_advance_62 ?_
        have b3_v1 : 0 ≤ (v1 3).toInt ∧ (v1 3).toInt ≤ 1600 := XI.b hIv1 3 (by decide)
        refine va_put (D := (dC, dI)) (ci := 9) (v := .int (v1 3)) (ty := tyX9 4) (C := RX9) (T := TX9) (N := 6) hx hb hts inB_9 tyX9 tyX9_ok nmX9 hown hE.1 hP hD hS 1 rfl rfl 4 (by decide) (hts _ k_143) (fun _ h9 => h9) rfl (tyX9_ok 4 (by decide)) rfl rfl (Nat.le_of_ble_eq_true rfl) dX9_advance_65 (fun H locs hP hD hS => ?_)
        have hP : va_P (dC, dI) vwCl (XW cy x0 x (upd v1 4 (v1 3)) f1) H := hP
        have hD : va_D A (XW cy x0 x (upd v1 4 (v1 3)) f1) := hD
        refine lv_aload_n hx hb dX9_advance_68 rfl (lv_at hl 0 rfl) ?_
        refine va_get (D := (dC, dI)) (ci := 9) (v := .int (v1 3)) (C := RX9) (T := TX9) (N := 6) hx hb hts inB_9 hown hE.1 hP 1 rfl rfl 3 (by decide) (hts _ k_141) (fun _ h9 => h9) rfl dX9_advance_69 ?_
        refine lv_aload_n hx hb dX9_advance_72 rfl (lv_at hl 0 rfl) ?_
        refine va_get (D := (dC, dI)) (ci := 9) (v := .int (v1 1)) (C := RX9) (T := TX9) (N := 6) hx hb hts inB_9 hown hE.1 hP 1 rfl rfl 1 (by decide) (hts _ k_137) (fun _ h9 => h9) rfl dX9_advance_73 ?_
        refine tI (y := (v 1)) hq1_v1 ?_
        have b1_v : 0 ≤ (v 1).toInt ∧ (v 1).toInt ≤ 1600 := XI.b hIv 1 (by decide)
        refine lv_icmp_lt (tgt := 87) hx hb dX9_advance_76 (by decide) (fun c3 => ?_) (fun c3 => ?_)
        · skip
          have zc3 : (v1 3).toInt < (v 1).toInt := by rw [fa_lt] at c3; exact c3
          have rg4 := fb_rng (v1 3)
          have rg5 := fb_rng (v 1)
          refine lv_aload_n hx hb dX9_advance_87 rfl (lv_at hl 0 rfl) ?_
          refine lv_aload_n hx hb dX9_advance_88 rfl (lv_at hl 0 rfl) ?_
          refine va_get (D := (dC, dI)) (ci := 9) (v := .int (v1 3)) (C := RX9) (T := TX9) (N := 6) hx hb hts inB_9 hown hE.1 hP 1 rfl rfl 3 (by decide) (hts _ k_141) (fun _ h9 => h9) rfl dX9_advance_89 ?_
          refine cbVi (n := 1) (rest := []) hx hb hml hown hts hE hP hD hS hA (sX_X9_isLetter_1 NF l dC dI cy x0 x (v1 3) (upd v1 4 (v1 3)) f1 (XI.upd (j := 4) (x := (v1 3)) hIv1 (show (0 : Int) ≤ (v1 3).toInt by omega) (show (v1 3).toInt ≤ (1600 : Int) by omega)) ) k_562 k_564 k_1 k_102 k_565 (by decide +kernel) ⟨Nat.le_of_ble_eq_true rfl, Nat.le_of_ble_eq_true rfl⟩ 1 9 rfl rfl (rfl) hl.1 rfl (Nat.le_of_ble_eq_true rfl) dX9_advance_92 (fun r6 u H locs hw hP hD hS => ?_)
          obtain ⟨hG7, hw⟩ := hw
          rcases hw with ⟨g8, g8_0, g8_1, g8_2⟩ | ⟨g8⟩
          · skip
            subst g8
            refine lv_if_eq (tgt := 162) hx hb dX9_advance_95 (by decide) (fun c0 => absurd c0 (by decide)) (fun _ => ?_)
            have lp9 : ∀ (n9 : Nat)  (v9 : Nat → Int32) (f9 : Nat → Nat → Int32), XI v9 → v9 0 = (v 0) → v9 1 = (v 1) → v9 7 = (v 7) → v9 8 = (v 8) → v9 9 = (v 9) → v9 10 = (v 10) → v9 31 = (v 31) → v9 32 = (v 32) → gsX_X9_advance_1_L9 NF v n9 v9 f9 = (gsX_X9_advance_1 NF v f) → KV [2, 3, 4, 5] v9 v → KF [] f9 f → (1600 - (v9 4).toInt).toNat < n9 → ∀ (H : Heap) (locs : List Loc) (ls : Array Slot), va_P (dC, dI) vwCl (XW cy x0 x v9 f9) H → va_D A (XW cy x0 x v9 f9) → va_S A s.heap H locs → lv_has ls 1 [(0, .ref (x 0))] → W p l e { frames := 6, cells := 0, slots := 0, locals := 171 } s m ([.ref (x 0)] : List Value).toArray below meth c H locs 0 0 Q (F0 m 98 ls []) := by
              intro n9
              induction n9 with
              | zero => intro  v9 f9 hIv9 hq0_v9 hq1_v9 hq7_v9 hq8_v9 hq9_v9 hq10_v9 hq31_v9 hq32_v9 hT9 hM_v9 hA_f9 hm; exact absurd hm (Nat.not_lt_zero _)
              | succ n9 ih9 =>
                intro  v9 f9 hIv9 hq0_v9 hq1_v9 hq7_v9 hq8_v9 hq9_v9 hq10_v9 hq31_v9 hq32_v9 hT9 hM_v9 hA_f9 hm9 H locs ls hP hD hS hl
                refine lv_aload_n hx hb dX9_advance_98 rfl (lv_at hl 0 rfl) ?_
                have jp133 : ∀ (H : Heap) (locs : List Loc) (ls : Array Slot), gsX_X9_advance_1_J10 NF f9 v9 = (gsX_X9_advance_1 NF v f) → va_P (dC, dI) vwCl (XW cy x0 x v9 f9) H → va_D A (XW cy x0 x v9 f9) → va_S A s.heap H locs → lv_has ls 1 [(0, .ref (x 0))] → W p l e { frames := 6, cells := 0, slots := 0, locals := 171 } s m ([.ref (x 0)] : List Value).toArray below meth c H locs 0 0 Q (F0 m 133 ls []) := by
                  intro H locs ls hT10 hP hD hS hl
                  refine lv_aload_n hx hb dX9_advance_133 rfl (lv_at hl 0 rfl) ?_
                  refine lv_aload_n hx hb dX9_advance_134 rfl (lv_at hl 0 rfl) ?_
                  refine va_get (D := (dC, dI)) (ci := 9) (v := .int (v9 4)) (C := RX9) (T := TX9) (N := 6) hx hb hts inB_9 hown hE.1 hP 1 rfl rfl 4 (by decide) (hts _ k_143) (fun _ h9 => h9) rfl dX9_advance_135 ?_
                  have b4_v9 : 0 ≤ (v9 4).toInt ∧ (v9 4).toInt ≤ 1600 := XI.b hIv9 4 (by decide)
                  refine lv_aload_n hx hb dX9_advance_138 rfl (lv_at hl 0 rfl) ?_
                  refine va_get (D := (dC, dI)) (ci := 9) (v := .int (v9 3)) (C := RX9) (T := TX9) (N := 6) hx hb hts inB_9 hown hE.1 hP 1 rfl rfl 3 (by decide) (hts _ k_141) (fun _ h9 => h9) rfl dX9_advance_139 ?_
                  have b3_v9 : 0 ≤ (v9 3).toInt ∧ (v9 3).toInt ≤ 1600 := XI.b hIv9 3 (by decide)
                  refine lv_isub hx hb dX9_advance_142 ?_
                  refine lv_topi (fun t11 et11 => ?_)
                  have rg12 := fb_rng (v9 4)
                  have rg13 := fb_rng (v9 3)
                  have zt11 : t11.toInt = (v9 4).toInt - (v9 3).toInt := by rw [et11]; exact sub_i rfl rfl (by omega) (by omega)
                  refine lv_bipush (v := 8) hx hb dX9_advance_143 (by decide) ?_
                  refine lv_icmp_le (tgt := 152) hx hb dX9_advance_145 (by decide) (fun c14 => ?_) (fun c14 => ?_)
                  · skip
                    have zc14 : t11.toInt ≤ 8 := by rw [fa_le, show (8 : Int32).toInt = 8 from by decide] at c14; exact c14
                    refine lv_aload_n hx hb dX9_advance_152 rfl (lv_at hl 0 rfl) ?_
                    refine csVi (n := 0) (rest := [.ref (x 0)]) hx hb hml hown hts hE hP hD hS hA hF hT (sX_X9_wordKind_1 NF l dC dI cy x0 x  v9 f9 hIv9 ) k_566 k_568 k_2 k_102 k_569 (by decide +kernel) ⟨Nat.le_of_ble_eq_true rfl, Nat.le_of_ble_eq_true rfl⟩ 1 9 rfl rfl (rfl) hl.1 rfl (Nat.le_of_ble_eq_true rfl) dX9_advance_153 (fun r15 u H locs hw hP hD hS => ?_)
                    have hG16 := hw
                    refine va_put (D := (dC, dI)) (ci := 9) (v := .int r15) (ty := tyX9 2) (C := RX9) (T := TX9) (N := 6) hx hb hts inB_9 tyX9 tyX9_ok nmX9 hown hE.1 hP hD hS 1 rfl rfl 2 (by decide) (hts _ k_140) (fun _ h9 => h9) rfl (tyX9_ok 2 (by decide)) rfl rfl (Nat.le_of_ble_eq_true rfl) dX9_advance_156 (fun H locs hP hD hS => ?_)
                    have hP : va_P (dC, dI) vwCl (XW cy x0 x (upd v9 2 r15) f9) H := hP
                    have hD : va_D A (XW cy x0 x (upd v9 2 r15) f9) := hD
                    refine lv_goto (tgt := 322) hx hb dX9_advance_159 (by decide) ?_
                    exact ret ((upd v9 2 r15), f9) _ _ _ _ _ _ ⟨(hT10.symm.trans (gsX_X9_advance_1_q0 et11 c14 hG16.symm)), (KV.up (j := 2) (x := r15) hM_v9 rfl), hA_f9, (XI.upd (j := 2) (x := r15) hIv9 (rlo _) (rhi _)), hq0_v9, hq1_v9, hq7_v9, hq8_v9, hq9_v9, hq10_v9, hq31_v9, hq32_v9⟩ hP hD hS dX9_advance_322 (Nat.le_refl _) (Nat.le_refl _)
                  · skip
                    have zc14 : ¬ (t11.toInt ≤ 8) := by rw [fa_le, show (8 : Int32).toInt = 8 from by decide] at c14; exact c14
                    refine lv_iconst (v := 1) hx hb dX9_advance_148 (by decide) ?_
                    refine lv_goto (tgt := 156) hx hb dX9_advance_149 (by decide) ?_
                    refine va_put (D := (dC, dI)) (ci := 9) (v := .int 1) (ty := tyX9 2) (C := RX9) (T := TX9) (N := 6) hx hb hts inB_9 tyX9 tyX9_ok nmX9 hown hE.1 hP hD hS 1 rfl rfl 2 (by decide) (hts _ k_140) (fun _ h9 => h9) rfl (tyX9_ok 2 (by decide)) rfl rfl (Nat.le_of_ble_eq_true rfl) dX9_advance_156 (fun H locs hP hD hS => ?_)
                    have hP : va_P (dC, dI) vwCl (XW cy x0 x (upd v9 2 1) f9) H := hP
                    have hD : va_D A (XW cy x0 x (upd v9 2 1) f9) := hD
                    refine lv_goto (tgt := 322) hx hb dX9_advance_159 (by decide) ?_
                    exact ret ((upd v9 2 1), f9) _ _ _ _ _ _ ⟨(hT10.symm.trans (gsX_X9_advance_1_q1 et11 c14)), (KV.up (j := 2) (x := 1) hM_v9 rfl), hA_f9, (XI.upd (j := 2) (x := 1) hIv9 (rlo _) (rhi _)), hq0_v9, hq1_v9, hq7_v9, hq8_v9, hq9_v9, hq10_v9, hq31_v9, hq32_v9⟩ hP hD hS dX9_advance_322 (Nat.le_refl _) (Nat.le_refl _)
                revert jp133
                intro jp133
                refine va_get (D := (dC, dI)) (ci := 9) (v := .int (v9 4)) (C := RX9) (T := TX9) (N := 6) hx hb hts inB_9 hown hE.1 hP 1 rfl rfl 4 (by decide) (hts _ k_143) (fun _ h9 => h9) rfl dX9_advance_99 ?_
                have b4_v9 : 0 ≤ (v9 4).toInt ∧ (v9 4).toInt ≤ 1600 := XI.b hIv9 4 (by decide)
                refine lv_aload_n hx hb dX9_advance_102 rfl (lv_at hl 0 rfl) ?_
                refine va_get (D := (dC, dI)) (ci := 9) (v := .int (v9 1)) (C := RX9) (T := TX9) (N := 6) hx hb hts inB_9 hown hE.1 hP 1 rfl rfl 1 (by decide) (hts _ k_137) (fun _ h9 => h9) rfl dX9_advance_103 ?_
                refine tI (y := (v 1)) hq1_v9 ?_
                have b1_v : 0 ≤ (v 1).toInt ∧ (v 1).toInt ≤ 1600 := XI.b hIv 1 (by decide)
                refine lv_icmp_ge (tgt := 133) hx hb dX9_advance_106 (by decide) (fun c17 => ?_) (fun c17 => ?_)
                · skip
                  have zc17 : (v 1).toInt ≤ (v9 4).toInt := by rw [fa_le] at c17; exact c17
                  have rg18 := fb_rng (v9 4)
                  exact jp133 _ _ _ ((gsX_X9_advance_1_q2 c17).symm.trans hT9) hP hD hS hl
                · skip
                  have zc17 : ¬ ((v 1).toInt ≤ (v9 4).toInt) := by rw [fa_le] at c17; exact c17
                  have rg19 := fb_rng (v9 4)
                  refine lv_aload_n hx hb dX9_advance_109 rfl (lv_at hl 0 rfl) ?_
                  refine lv_aload_n hx hb dX9_advance_110 rfl (lv_at hl 0 rfl) ?_
                  refine va_get (D := (dC, dI)) (ci := 9) (v := .int (v9 4)) (C := RX9) (T := TX9) (N := 6) hx hb hts inB_9 hown hE.1 hP 1 rfl rfl 4 (by decide) (hts _ k_143) (fun _ h9 => h9) rfl dX9_advance_111 ?_
                  refine cbVi (n := 1) (rest := []) hx hb hml hown hts hE hP hD hS hA (sX_X9_isLetter_1 NF l dC dI cy x0 x (v9 4) v9 f9 hIv9 ) k_562 k_564 k_1 k_102 k_565 (by decide +kernel) ⟨Nat.le_of_ble_eq_true rfl, Nat.le_of_ble_eq_true rfl⟩ 1 9 rfl rfl (rfl) hl.1 rfl (Nat.le_of_ble_eq_true rfl) dX9_advance_114 (fun r20 u H locs hw hP hD hS => ?_)
                  obtain ⟨hG21, hw⟩ := hw
                  rcases hw with ⟨g22, g22_0, g22_1, g22_2⟩ | ⟨g22⟩
                  · skip
                    subst g22
                    refine lv_if_eq (tgt := 133) hx hb dX9_advance_117 (by decide) (fun c0 => absurd c0 (by decide)) (fun _ => ?_)
                    refine lv_aload_n hx hb dX9_advance_120 rfl (lv_at hl 0 rfl) ?_
                    refine lv_dup hx hb dX9_advance_121 rfl ?_
                    refine va_get (D := (dC, dI)) (ci := 9) (v := .int (v9 4)) (C := RX9) (T := TX9) (N := 6) hx hb hts inB_9 hown hE.1 hP 1 rfl rfl 4 (by decide) (hts _ k_143) (fun _ h9 => h9) rfl dX9_advance_122 ?_
                    refine lv_iconst (v := 1) hx hb dX9_advance_125 (by decide) ?_
                    refine lv_iadd hx hb dX9_advance_126 ?_
                    refine lv_topi (fun t23 et23 => ?_)
                    have zt23 : t23.toInt = (v9 4).toInt + 1 := by rw [et23]; exact add_i rfl (by decide) (by omega) (by omega)
                    refine va_put (D := (dC, dI)) (ci := 9) (v := .int t23) (ty := tyX9 4) (C := RX9) (T := TX9) (N := 6) hx hb hts inB_9 tyX9 tyX9_ok nmX9 hown hE.1 hP hD hS 1 rfl rfl 4 (by decide) (hts _ k_143) (fun _ h9 => h9) rfl (tyX9_ok 4 (by decide)) rfl rfl (Nat.le_of_ble_eq_true rfl) dX9_advance_127 (fun H locs hP hD hS => ?_)
                    have hP : va_P (dC, dI) vwCl (XW cy x0 x (upd v9 4 t23) f9) H := hP
                    have hD : va_D A (XW cy x0 x (upd v9 4 t23) f9) := hD
                    refine lv_goto (tgt := 98) hx hb dX9_advance_130 (by decide) ?_
                    exact ih9  (upd v9 4 t23) f9 (XI.upd (j := 4) (x := t23) hIv9 (show (0 : Int) ≤ t23.toInt by omega) (show t23.toInt ≤ (1600 : Int) by omega)) hq0_v9 hq1_v9 hq7_v9 hq8_v9 hq9_v9 hq10_v9 hq31_v9 hq32_v9 ((gsX_X9_advance_1_q3 c17 hG21 et23).symm.trans hT9) (KV.up (j := 4) (x := t23) hM_v9 rfl) hA_f9 (by show (1600 - t23.toInt).toNat < n9; omega) _ _ _ hP hD hS (lv_sub hl [0] rfl)
                  · skip
                    subst g22
                    refine lv_if_eq (tgt := 133) hx hb dX9_advance_117 (by decide) (fun _ => ?_) (fun c0 => absurd (by decide) c0)
                    exact jp133 _ _ _ ((gsX_X9_advance_1_q4 c17 hG21).symm.trans hT9) hP hD hS hl
            exact lp9 (4294967296 + NF)  (upd v1 4 (v1 3)) f1 (XI.upd (j := 4) (x := (v1 3)) hIv1 (show (0 : Int) ≤ (v1 3).toInt by omega) (show (v1 3).toInt ≤ (1600 : Int) by omega)) hq0_v1 hq1_v1 hq7_v1 hq8_v1 hq9_v1 hq10_v1 hq31_v1 hq32_v1 ((gsX_X9_advance_1_q5 c3 hG7).symm.trans hT2) (KV.up (j := 4) (x := (v1 3)) hM_v1 rfl) hA_f1 (by have qr0 := fb_rng (v1 3); show (1600 - (v1 3).toInt).toNat < 4294967296 + NF; omega) _ _ _ hP hD hS (lv_sub hl [0] rfl)
          · skip
            subst g8
            refine lv_if_eq (tgt := 162) hx hb dX9_advance_95 (by decide) (fun _ => ?_) (fun c0 => absurd (by decide) c0)
            refine lv_aload_n hx hb dX9_advance_162 rfl (lv_at hl 0 rfl) ?_
            refine lv_aload_n hx hb dX9_advance_163 rfl (lv_at hl 0 rfl) ?_
            refine va_get (D := (dC, dI)) (ci := 9) (v := .int (v1 3)) (C := RX9) (T := TX9) (N := 6) hx hb hts inB_9 hown hE.1 hP 1 rfl rfl 3 (by decide) (hts _ k_141) (fun _ h9 => h9) rfl dX9_advance_164 ?_
            refine cbVi (n := 1) (rest := []) hx hb hml hown hts hE hP hD hS hA (sX_X9_isDigit_1 NF l dC dI cy x0 x (v1 3) (upd v1 4 (v1 3)) f1 (XI.upd (j := 4) (x := (v1 3)) hIv1 (show (0 : Int) ≤ (v1 3).toInt by omega) (show (v1 3).toInt ≤ (1600 : Int) by omega)) ) k_619 k_621 k_3 k_102 k_622 (by decide +kernel) ⟨Nat.le_of_ble_eq_true rfl, Nat.le_of_ble_eq_true rfl⟩ 1 9 rfl rfl (rfl) hl.1 rfl (Nat.le_of_ble_eq_true rfl) dX9_advance_167 (fun r24 u H locs hw hP hD hS => ?_)
            obtain ⟨hG25, hw⟩ := hw
            rcases hw with ⟨g26, g26_0, g26_1, g26_2⟩ | ⟨g26⟩
            · skip
              subst g26
              refine lv_if_eq (tgt := 273) hx hb dX9_advance_170 (by decide) (fun c0 => absurd c0 (by decide)) (fun _ => ?_)
              refine lv_aload_n hx hb dX9_advance_173 rfl (lv_at hl 0 rfl) ?_
              refine lv_iconst (v := 0) hx hb dX9_advance_174 (by decide) ?_
              refine va_put (D := (dC, dI)) (ci := 9) (v := .int 0) (ty := tyX9 5) (C := RX9) (T := TX9) (N := 6) hx hb hts inB_9 tyX9 tyX9_ok nmX9 hown hE.1 hP hD hS 1 rfl rfl 5 (by decide) (hts _ k_144) (fun _ h9 => h9) rfl (tyX9_ok 5 (by decide)) rfl rfl (Nat.le_of_ble_eq_true rfl) dX9_advance_175 (fun H locs hP hD hS => ?_)
              have hP : va_P (dC, dI) vwCl (XW cy x0 x (upd (upd v1 4 (v1 3)) 5 0) f1) H := hP
              have hD : va_D A (XW cy x0 x (upd (upd v1 4 (v1 3)) 5 0) f1) := hD
              have lp27 : ∀ (n27 : Nat)  (v27 : Nat → Int32) (f27 : Nat → Nat → Int32), XI v27 → v27 0 = (v 0) → v27 1 = (v 1) → v27 7 = (v 7) → v27 8 = (v 8) → v27 9 = (v 9) → v27 10 = (v 10) → v27 31 = (v 31) → v27 32 = (v 32) → gsX_X9_advance_1_L27 NF v n27 v27 f27 = (gsX_X9_advance_1 NF v f) → KV [2, 3, 4, 5] v27 v → KF [] f27 f → (1600 - (v27 4).toInt).toNat < n27 → ∀ (H : Heap) (locs : List Loc) (ls : Array Slot), va_P (dC, dI) vwCl (XW cy x0 x v27 f27) H → va_D A (XW cy x0 x v27 f27) → va_S A s.heap H locs → lv_has ls 1 [(0, .ref (x 0))] → W p l e { frames := 6, cells := 0, slots := 0, locals := 171 } s m ([.ref (x 0)] : List Value).toArray below meth c H locs 0 0 Q (F0 m 178 ls []) := by
                intro n27
                induction n27 with
                | zero => intro  v27 f27 hIv27 hq0_v27 hq1_v27 hq7_v27 hq8_v27 hq9_v27 hq10_v27 hq31_v27 hq32_v27 hT27 hM_v27 hA_f27 hm; exact absurd hm (Nat.not_lt_zero _)
                | succ n27 ih27 =>
                  intro  v27 f27 hIv27 hq0_v27 hq1_v27 hq7_v27 hq8_v27 hq9_v27 hq10_v27 hq31_v27 hq32_v27 hT27 hM_v27 hA_f27 hm27 H locs ls hP hD hS hl
                  refine lv_aload_n hx hb dX9_advance_178 rfl (lv_at hl 0 rfl) ?_
                  have jp237 : ∀ (H : Heap) (locs : List Loc) (ls : Array Slot), gsX_X9_advance_1_J28 NF f27 v27 = (gsX_X9_advance_1 NF v f) → va_P (dC, dI) vwCl (XW cy x0 x v27 f27) H → va_D A (XW cy x0 x v27 f27) → va_S A s.heap H locs → lv_has ls 1 [(0, .ref (x 0))] → W p l e { frames := 6, cells := 0, slots := 0, locals := 171 } s m ([.ref (x 0)] : List Value).toArray below meth c H locs 0 0 Q (F0 m 237 ls []) := by
                    intro H locs ls hT28 hP hD hS hl
                    refine lv_aload_n hx hb dX9_advance_237 rfl (lv_at hl 0 rfl) ?_
                    refine lv_aload_n hx hb dX9_advance_238 rfl (lv_at hl 0 rfl) ?_
                    refine va_get (D := (dC, dI)) (ci := 9) (v := .int (v27 4)) (C := RX9) (T := TX9) (N := 6) hx hb hts inB_9 hown hE.1 hP 1 rfl rfl 4 (by decide) (hts _ k_143) (fun _ h9 => h9) rfl dX9_advance_239 ?_
                    have b4_v27 : 0 ≤ (v27 4).toInt ∧ (v27 4).toInt ≤ 1600 := XI.b hIv27 4 (by decide)
                    refine lv_aload_n hx hb dX9_advance_242 rfl (lv_at hl 0 rfl) ?_
                    refine va_get (D := (dC, dI)) (ci := 9) (v := .int (v27 3)) (C := RX9) (T := TX9) (N := 6) hx hb hts inB_9 hown hE.1 hP 1 rfl rfl 3 (by decide) (hts _ k_141) (fun _ h9 => h9) rfl dX9_advance_243 ?_
                    have b3_v27 : 0 ≤ (v27 3).toInt ∧ (v27 3).toInt ≤ 1600 := XI.b hIv27 3 (by decide)
                    refine lv_isub hx hb dX9_advance_246 ?_
                    refine lv_topi (fun t29 et29 => ?_)
                    have rg30 := fb_rng (v27 4)
                    have rg31 := fb_rng (v27 3)
                    have zt29 : t29.toInt = (v27 4).toInt - (v27 3).toInt := by rw [et29]; exact sub_i rfl rfl (by omega) (by omega)
                    refine lv_iconst (v := 4) hx hb dX9_advance_247 (by decide) ?_
                    refine lv_icmp_gt (tgt := 262) hx hb dX9_advance_248 (by decide) (fun c32 => ?_) (fun c32 => ?_)
                    · skip
                      have zc32 : 4 < t29.toInt := by rw [fa_lt, show (4 : Int32).toInt = 4 from by decide] at c32; exact c32
                      refine lv_iconst (v := 1) hx hb dX9_advance_262 (by decide) ?_
                      refine lv_goto (tgt := 267) hx hb dX9_advance_263 (by decide) ?_
                      refine va_put (D := (dC, dI)) (ci := 9) (v := .int 1) (ty := tyX9 2) (C := RX9) (T := TX9) (N := 6) hx hb hts inB_9 tyX9 tyX9_ok nmX9 hown hE.1 hP hD hS 1 rfl rfl 2 (by decide) (hts _ k_140) (fun _ h9 => h9) rfl (tyX9_ok 2 (by decide)) rfl rfl (Nat.le_of_ble_eq_true rfl) dX9_advance_267 (fun H locs hP hD hS => ?_)
                      have hP : va_P (dC, dI) vwCl (XW cy x0 x (upd v27 2 1) f27) H := hP
                      have hD : va_D A (XW cy x0 x (upd v27 2 1) f27) := hD
                      refine lv_goto (tgt := 322) hx hb dX9_advance_270 (by decide) ?_
                      exact ret ((upd v27 2 1), f27) _ _ _ _ _ _ ⟨(hT28.symm.trans (gsX_X9_advance_1_q6 et29 c32)), (KV.up (j := 2) (x := 1) hM_v27 rfl), hA_f27, (XI.upd (j := 2) (x := 1) hIv27 (rlo _) (rhi _)), hq0_v27, hq1_v27, hq7_v27, hq8_v27, hq9_v27, hq10_v27, hq31_v27, hq32_v27⟩ hP hD hS dX9_advance_322 (Nat.le_refl _) (Nat.le_refl _)
                    · skip
                      have zc32 : ¬ (4 < t29.toInt) := by rw [fa_lt, show (4 : Int32).toInt = 4 from by decide] at c32; exact c32
                      refine lv_aload_n hx hb dX9_advance_251 rfl (lv_at hl 0 rfl) ?_
                      refine lv_aload_n hx hb dX9_advance_252 rfl (lv_at hl 0 rfl) ?_
                      refine va_get (D := (dC, dI)) (ci := 9) (v := .int (v27 4)) (C := RX9) (T := TX9) (N := 6) hx hb hts inB_9 hown hE.1 hP 1 rfl rfl 4 (by decide) (hts _ k_143) (fun _ h9 => h9) rfl dX9_advance_253 ?_
                      refine cbVi (n := 1) (rest := [.ref (x 0)]) hx hb hml hown hts hE hP hD hS hA (sX_X9_isLetter_1 NF l dC dI cy x0 x (v27 4) v27 f27 hIv27 ) k_562 k_564 k_1 k_102 k_565 (by decide +kernel) ⟨Nat.le_of_ble_eq_true rfl, Nat.le_of_ble_eq_true rfl⟩ 1 9 rfl rfl (rfl) hl.1 rfl (Nat.le_of_ble_eq_true rfl) dX9_advance_256 (fun r33 u H locs hw hP hD hS => ?_)
                      obtain ⟨hG34, hw⟩ := hw
                      rcases hw with ⟨g35, g35_0, g35_1, g35_2⟩ | ⟨g35⟩
                      · skip
                        subst g35
                        refine lv_if_eq (tgt := 266) hx hb dX9_advance_259 (by decide) (fun c0 => absurd c0 (by decide)) (fun _ => ?_)
                        refine lv_iconst (v := 1) hx hb dX9_advance_262 (by decide) ?_
                        refine lv_goto (tgt := 267) hx hb dX9_advance_263 (by decide) ?_
                        refine va_put (D := (dC, dI)) (ci := 9) (v := .int 1) (ty := tyX9 2) (C := RX9) (T := TX9) (N := 6) hx hb hts inB_9 tyX9 tyX9_ok nmX9 hown hE.1 hP hD hS 1 rfl rfl 2 (by decide) (hts _ k_140) (fun _ h9 => h9) rfl (tyX9_ok 2 (by decide)) rfl rfl (Nat.le_of_ble_eq_true rfl) dX9_advance_267 (fun H locs hP hD hS => ?_)
                        have hP : va_P (dC, dI) vwCl (XW cy x0 x (upd v27 2 1) f27) H := hP
                        have hD : va_D A (XW cy x0 x (upd v27 2 1) f27) := hD
                        refine lv_goto (tgt := 322) hx hb dX9_advance_270 (by decide) ?_
                        exact ret ((upd v27 2 1), f27) _ _ _ _ _ _ ⟨(hT28.symm.trans (gsX_X9_advance_1_q7 et29 c32 hG34)), (KV.up (j := 2) (x := 1) hM_v27 rfl), hA_f27, (XI.upd (j := 2) (x := 1) hIv27 (rlo _) (rhi _)), hq0_v27, hq1_v27, hq7_v27, hq8_v27, hq9_v27, hq10_v27, hq31_v27, hq32_v27⟩ hP hD hS dX9_advance_322 (Nat.le_refl _) (Nat.le_refl _)
                      · skip
                        subst g35
                        refine lv_if_eq (tgt := 266) hx hb dX9_advance_259 (by decide) (fun _ => ?_) (fun c0 => absurd (by decide) c0)
                        refine lv_iconst (v := 2) hx hb dX9_advance_266 (by decide) ?_
                        refine va_put (D := (dC, dI)) (ci := 9) (v := .int 2) (ty := tyX9 2) (C := RX9) (T := TX9) (N := 6) hx hb hts inB_9 tyX9 tyX9_ok nmX9 hown hE.1 hP hD hS 1 rfl rfl 2 (by decide) (hts _ k_140) (fun _ h9 => h9) rfl (tyX9_ok 2 (by decide)) rfl rfl (Nat.le_of_ble_eq_true rfl) dX9_advance_267 (fun H locs hP hD hS => ?_)
                        have hP : va_P (dC, dI) vwCl (XW cy x0 x (upd v27 2 2) f27) H := hP
                        have hD : va_D A (XW cy x0 x (upd v27 2 2) f27) := hD
                        refine lv_goto (tgt := 322) hx hb dX9_advance_270 (by decide) ?_
                        exact ret ((upd v27 2 2), f27) _ _ _ _ _ _ ⟨(hT28.symm.trans (gsX_X9_advance_1_q8 et29 c32 hG34)), (KV.up (j := 2) (x := 2) hM_v27 rfl), hA_f27, (XI.upd (j := 2) (x := 2) hIv27 (rlo _) (rhi _)), hq0_v27, hq1_v27, hq7_v27, hq8_v27, hq9_v27, hq10_v27, hq31_v27, hq32_v27⟩ hP hD hS dX9_advance_322 (Nat.le_refl _) (Nat.le_refl _)
                  revert jp237
                  intro jp237
                  refine va_get (D := (dC, dI)) (ci := 9) (v := .int (v27 4)) (C := RX9) (T := TX9) (N := 6) hx hb hts inB_9 hown hE.1 hP 1 rfl rfl 4 (by decide) (hts _ k_143) (fun _ h9 => h9) rfl dX9_advance_179 ?_
                  have b4_v27 : 0 ≤ (v27 4).toInt ∧ (v27 4).toInt ≤ 1600 := XI.b hIv27 4 (by decide)
                  refine lv_aload_n hx hb dX9_advance_182 rfl (lv_at hl 0 rfl) ?_
                  refine va_get (D := (dC, dI)) (ci := 9) (v := .int (v27 1)) (C := RX9) (T := TX9) (N := 6) hx hb hts inB_9 hown hE.1 hP 1 rfl rfl 1 (by decide) (hts _ k_137) (fun _ h9 => h9) rfl dX9_advance_183 ?_
                  refine tI (y := (v 1)) hq1_v27 ?_
                  have b1_v : 0 ≤ (v 1).toInt ∧ (v 1).toInt ≤ 1600 := XI.b hIv 1 (by decide)
                  refine lv_icmp_ge (tgt := 237) hx hb dX9_advance_186 (by decide) (fun c36 => ?_) (fun c36 => ?_)
                  · skip
                    have zc36 : (v 1).toInt ≤ (v27 4).toInt := by rw [fa_le] at c36; exact c36
                    have rg37 := fb_rng (v27 4)
                    exact jp237 _ _ _ ((gsX_X9_advance_1_q9 c36).symm.trans hT27) hP hD hS hl
                  · skip
                    have zc36 : ¬ ((v 1).toInt ≤ (v27 4).toInt) := by rw [fa_le] at c36; exact c36
                    have rg38 := fb_rng (v27 4)
                    refine lv_aload_n hx hb dX9_advance_189 rfl (lv_at hl 0 rfl) ?_
                    refine lv_aload_n hx hb dX9_advance_190 rfl (lv_at hl 0 rfl) ?_
                    refine va_get (D := (dC, dI)) (ci := 9) (v := .int (v27 4)) (C := RX9) (T := TX9) (N := 6) hx hb hts inB_9 hown hE.1 hP 1 rfl rfl 4 (by decide) (hts _ k_143) (fun _ h9 => h9) rfl dX9_advance_191 ?_
                    refine cbVi (n := 1) (rest := []) hx hb hml hown hts hE hP hD hS hA (sX_X9_isDigit_1 NF l dC dI cy x0 x (v27 4) v27 f27 hIv27 ) k_619 k_621 k_3 k_102 k_622 (by decide +kernel) ⟨Nat.le_of_ble_eq_true rfl, Nat.le_of_ble_eq_true rfl⟩ 1 9 rfl rfl (rfl) hl.1 rfl (Nat.le_of_ble_eq_true rfl) dX9_advance_194 (fun r39 u H locs hw hP hD hS => ?_)
                    obtain ⟨hG40, hw⟩ := hw
                    rcases hw with ⟨g41, g41_0, g41_1, g41_2⟩ | ⟨g41⟩
                    · skip
                      subst g41
                      refine lv_if_eq (tgt := 237) hx hb dX9_advance_197 (by decide) (fun c0 => absurd c0 (by decide)) (fun _ => ?_)
                      refine lv_aload_n hx hb dX9_advance_200 rfl (lv_at hl 0 rfl) ?_
                      refine lv_aload_n hx hb dX9_advance_201 rfl (lv_at hl 0 rfl) ?_
                      refine va_get (D := (dC, dI)) (ci := 9) (v := .int (v27 5)) (C := RX9) (T := TX9) (N := 6) hx hb hts inB_9 hown hE.1 hP 1 rfl rfl 5 (by decide) (hts _ k_144) (fun _ h9 => h9) rfl dX9_advance_202 ?_
                      refine lv_bipush (v := 10) hx hb dX9_advance_205 (by decide) ?_
                      refine lv_imul hx hb dX9_advance_207 ?_
                      refine lv_topi (fun t42 et42 => ?_)
                      refine lv_aload_n hx hb dX9_advance_208 rfl (lv_at hl 0 rfl) ?_
                      refine va_get (D := (dC, dI)) (ci := 9) (v := .ref (x 1)) (C := RX9) (T := TX9) (N := 6) hx hb hts inB_9 hown hE.1 hP 1 rfl rfl 0 (by decide) (hts _ k_136) (fun _ h9 => h9) rfl dX9_advance_209 ?_
                      refine lv_aload_n hx hb dX9_advance_212 rfl (lv_at hl 0 rfl) ?_
                      refine va_get (D := (dC, dI)) (ci := 9) (v := .int (v27 4)) (C := RX9) (T := TX9) (N := 6) hx hb hts inB_9 hown hE.1 hP 1 rfl rfl 4 (by decide) (hts _ k_143) (fun _ h9 => h9) rfl dX9_advance_213 ?_
                      refine ldB hx hb hE hP 2 rfl (vp_in_iff.mpr ⟨by omega, by omega⟩) rfl rfl dX9_advance_216 ?_
                      refine lv_topi (fun t43 et43 => ?_)
                      refine lv_iadd hx hb dX9_advance_217 ?_
                      refine lv_topi (fun t44 et44 => ?_)
                      refine lv_bipush (v := 48) hx hb dX9_advance_218 (by decide) ?_
                      refine lv_isub hx hb dX9_advance_220 ?_
                      refine lv_topi (fun t45 et45 => ?_)
                      refine va_put (D := (dC, dI)) (ci := 9) (v := .int t45) (ty := tyX9 5) (C := RX9) (T := TX9) (N := 6) hx hb hts inB_9 tyX9 tyX9_ok nmX9 hown hE.1 hP hD hS 1 rfl rfl 5 (by decide) (hts _ k_144) (fun _ h9 => h9) rfl (tyX9_ok 5 (by decide)) rfl rfl (Nat.le_of_ble_eq_true rfl) dX9_advance_221 (fun H locs hP hD hS => ?_)
                      have hP : va_P (dC, dI) vwCl (XW cy x0 x (upd v27 5 t45) f27) H := hP
                      have hD : va_D A (XW cy x0 x (upd v27 5 t45) f27) := hD
                      refine lv_aload_n hx hb dX9_advance_224 rfl (lv_at hl 0 rfl) ?_
                      refine lv_dup hx hb dX9_advance_225 rfl ?_
                      refine va_get (D := (dC, dI)) (ci := 9) (v := .int (v27 4)) (C := RX9) (T := TX9) (N := 6) hx hb hts inB_9 hown hE.1 hP 1 rfl rfl 4 (by decide) (hts _ k_143) (fun _ h9 => h9) rfl dX9_advance_226 ?_
                      refine lv_iconst (v := 1) hx hb dX9_advance_229 (by decide) ?_
                      refine lv_iadd hx hb dX9_advance_230 ?_
                      refine lv_topi (fun t46 et46 => ?_)
                      have zt46 : t46.toInt = (v27 4).toInt + 1 := by rw [et46]; exact add_i rfl (by decide) (by omega) (by omega)
                      refine va_put (D := (dC, dI)) (ci := 9) (v := .int t46) (ty := tyX9 4) (C := RX9) (T := TX9) (N := 6) hx hb hts inB_9 tyX9 tyX9_ok nmX9 hown hE.1 hP hD hS 1 rfl rfl 4 (by decide) (hts _ k_143) (fun _ h9 => h9) rfl (tyX9_ok 4 (by decide)) rfl rfl (Nat.le_of_ble_eq_true rfl) dX9_advance_231 (fun H locs hP hD hS => ?_)
                      have hP : va_P (dC, dI) vwCl (XW cy x0 x (upd (upd v27 5 t45) 4 t46) f27) H := hP
                      have hD : va_D A (XW cy x0 x (upd (upd v27 5 t45) 4 t46) f27) := hD
                      refine lv_goto (tgt := 178) hx hb dX9_advance_234 (by decide) ?_
                      exact ih27  (upd (upd v27 5 t45) 4 t46) f27 (XI.upd (j := 4) (x := t46) (XI.upd (j := 5) (x := t45) hIv27 (rlo _) (rhi _)) (show (0 : Int) ≤ t46.toInt by omega) (show t46.toInt ≤ (1600 : Int) by omega)) hq0_v27 hq1_v27 hq7_v27 hq8_v27 hq9_v27 hq10_v27 hq31_v27 hq32_v27 ((gsX_X9_advance_1_q10 c36 hG40 et42 et43 et44 et45 et46).symm.trans hT27) (KV.up (j := 4) (x := t46) (KV.up (j := 5) (x := t45) hM_v27 rfl) rfl) hA_f27 (by show (1600 - t46.toInt).toNat < n27; omega) _ _ _ hP hD hS (lv_sub hl [0] rfl)
                    · skip
                      subst g41
                      refine lv_if_eq (tgt := 237) hx hb dX9_advance_197 (by decide) (fun _ => ?_) (fun c0 => absurd (by decide) c0)
                      exact jp237 _ _ _ ((gsX_X9_advance_1_q11 c36 hG40).symm.trans hT27) hP hD hS hl
              exact lp27 (4294967296 + NF)  (upd (upd v1 4 (v1 3)) 5 0) f1 (XI.upd (j := 5) (x := 0) (XI.upd (j := 4) (x := (v1 3)) hIv1 (show (0 : Int) ≤ (v1 3).toInt by omega) (show (v1 3).toInt ≤ (1600 : Int) by omega)) (rlo _) (rhi _)) hq0_v1 hq1_v1 hq7_v1 hq8_v1 hq9_v1 hq10_v1 hq31_v1 hq32_v1 ((gsX_X9_advance_1_q12 c3 hG7 hG25).symm.trans hT2) (KV.up (j := 5) (x := 0) (KV.up (j := 4) (x := (v1 3)) hM_v1 rfl) rfl) hA_f1 (by have qc0 : (0 : Int32).toInt = 0 := (by decide); have qr0 := fb_rng (v1 3); show (1600 - (v1 3).toInt).toNat < 4294967296 + NF; omega) _ _ _ hP hD hS (lv_sub hl [0] rfl)
            · skip
              subst g26
              refine lv_if_eq (tgt := 273) hx hb dX9_advance_170 (by decide) (fun _ => ?_) (fun c0 => absurd (by decide) c0)
              refine lv_aload_n hx hb dX9_advance_273 rfl (lv_at hl 0 rfl) ?_
              refine lv_dup hx hb dX9_advance_274 rfl ?_
              refine va_get (D := (dC, dI)) (ci := 9) (v := .int (v1 3)) (C := RX9) (T := TX9) (N := 6) hx hb hts inB_9 hown hE.1 hP 1 rfl rfl 4 (by decide) (hts _ k_143) (fun _ h9 => h9) rfl dX9_advance_275 ?_
              refine lv_iconst (v := 1) hx hb dX9_advance_278 (by decide) ?_
              refine lv_iadd hx hb dX9_advance_279 ?_
              refine lv_topi (fun t47 et47 => ?_)
              have zt47 : t47.toInt = (v1 3).toInt + 1 := by rw [et47]; exact add_i rfl (by decide) (by omega) (by omega)
              refine va_put (D := (dC, dI)) (ci := 9) (v := .int t47) (ty := tyX9 4) (C := RX9) (T := TX9) (N := 6) hx hb hts inB_9 tyX9 tyX9_ok nmX9 hown hE.1 hP hD hS 1 rfl rfl 4 (by decide) (hts _ k_143) (fun _ h9 => h9) rfl (tyX9_ok 4 (by decide)) rfl rfl (Nat.le_of_ble_eq_true rfl) dX9_advance_280 (fun H locs hP hD hS => ?_)
              have hP : va_P (dC, dI) vwCl (XW cy x0 x (upd (upd v1 4 (v1 3)) 4 t47) f1) H := hP
              have hD : va_D A (XW cy x0 x (upd (upd v1 4 (v1 3)) 4 t47) f1) := hD
              refine lv_aload_n hx hb dX9_advance_283 rfl (lv_at hl 0 rfl) ?_
              refine va_ldcS hx hb hown hF.1 dX9_advance_284 ?_
              refine lv_aload_n hx hb dX9_advance_286 rfl (lv_at hl 0 rfl) ?_
              refine va_get (D := (dC, dI)) (ci := 9) (v := .ref (x 1)) (C := RX9) (T := TX9) (N := 6) hx hb hts inB_9 hown hE.1 hP 1 rfl rfl 0 (by decide) (hts _ k_136) (fun _ h9 => h9) rfl dX9_advance_287 ?_
              refine lv_aload_n hx hb dX9_advance_290 rfl (lv_at hl 0 rfl) ?_
              refine va_get (D := (dC, dI)) (ci := 9) (v := .int (v1 3)) (C := RX9) (T := TX9) (N := 6) hx hb hts inB_9 hown hE.1 hP 1 rfl rfl 3 (by decide) (hts _ k_141) (fun _ h9 => h9) rfl dX9_advance_291 ?_
              refine ldB hx hb hE hP 2 rfl (vp_in_iff.mpr ⟨by omega, by omega⟩) rfl rfl dX9_advance_294 ?_
              refine lv_topi (fun t48 et48 => ?_)
              refine lv_sipush (v := 255) hx hb dX9_advance_295 (by decide) ?_
              refine lv_iand hx hb dX9_advance_298 ?_
              refine lv_topi (fun t49 et49 => ?_)
              have zt49 : 0 ≤ t49.toInt ∧ t49.toInt < 256 := by rw [et49]; exact and_rng _ (k := 8) (by decide) (by decide)
              refine lv_i2c hx hb dX9_advance_299 rfl ?_
              refine lv_topi (fun t50 et50 => ?_)
              refine crVi (n := 1) (rest := [.ref (x 0)]) hx hb hml hown hts hE hP hD hS hA hF hT (sX_J0_indexOf_0f7a4_1 NF l dC dI cy x0 x t50 (upd (upd v1 4 (v1 3)) 4 t47) f1 (XI.upd (j := 4) (x := t47) (XI.upd (j := 4) (x := (v1 3)) hIv1 (show (0 : Int) ≤ (v1 3).toInt by omega) (show (v1 3).toInt ≤ (1600 : Int) by omega)) (show (0 : Int) ≤ t47.toInt by omega) (show t47.toInt ≤ (1600 : Int) by omega)) ) k_624 k_625 k_626 k_115 k_627 (by decide +kernel) ⟨Nat.le_of_ble_eq_true rfl, Nat.le_of_ble_eq_true rfl⟩ 0 (by decide) rfl rfl (rfl) hl.1 rfl (Nat.le_of_ble_eq_true rfl) dX9_advance_300 (fun r51 u H locs hw hP hD hS => ?_)
              have hG52 := hw
              refine lv_if_lt (tgt := 318) hx hb dX9_advance_303 (by decide) (fun c53 => ?_) (fun c53 => ?_)
              · skip
                have zc53 : r51.toInt < 0 := by rw [fa_lt, show (0 : Int32).toInt = 0 from by decide] at c53; exact c53
                refine lv_iconst (v := 1) hx hb dX9_advance_318 (by decide) ?_
                refine va_put (D := (dC, dI)) (ci := 9) (v := .int 1) (ty := tyX9 2) (C := RX9) (T := TX9) (N := 6) hx hb hts inB_9 tyX9 tyX9_ok nmX9 hown hE.1 hP hD hS 1 rfl rfl 2 (by decide) (hts _ k_140) (fun _ h9 => h9) rfl (tyX9_ok 2 (by decide)) rfl rfl (Nat.le_of_ble_eq_true rfl) dX9_advance_319 (fun H locs hP hD hS => ?_)
                have hP : va_P (dC, dI) vwCl (XW cy x0 x (upd (upd (upd v1 4 (v1 3)) 4 t47) 2 1) f1) H := hP
                have hD : va_D A (XW cy x0 x (upd (upd (upd v1 4 (v1 3)) 4 t47) 2 1) f1) := hD
                exact ret ((upd (upd (upd v1 4 (v1 3)) 4 t47) 2 1), f1) _ _ _ _ _ _ ⟨(hT2.symm.trans (gsX_X9_advance_1_q13 c3 hG7 hG25 et47 et48 et49 et50 hG52.symm c53)), (KV.up (j := 2) (x := 1) (KV.up (j := 4) (x := t47) (KV.up (j := 4) (x := (v1 3)) hM_v1 rfl) rfl) rfl), hA_f1, (XI.upd (j := 2) (x := 1) (XI.upd (j := 4) (x := t47) (XI.upd (j := 4) (x := (v1 3)) hIv1 (show (0 : Int) ≤ (v1 3).toInt by omega) (show (v1 3).toInt ≤ (1600 : Int) by omega)) (show (0 : Int) ≤ t47.toInt by omega) (show t47.toInt ≤ (1600 : Int) by omega)) (rlo _) (rhi _)), (show v1 0 = v 0 from hq0_v1), (show v1 1 = v 1 from hq1_v1), (show v1 7 = v 7 from hq7_v1), (show v1 8 = v 8 from hq8_v1), (show v1 9 = v 9 from hq9_v1), (show v1 10 = v 10 from hq10_v1), (show v1 31 = v 31 from hq31_v1), (show v1 32 = v 32 from hq32_v1)⟩ hP hD hS dX9_advance_322 (Nat.le_refl _) (Nat.le_refl _)
              · skip
                have zc53 : ¬ (r51.toInt < 0) := by rw [fa_lt, show (0 : Int32).toInt = 0 from by decide] at c53; exact c53
                refine lv_aload_n hx hb dX9_advance_306 rfl (lv_at hl 0 rfl) ?_
                refine va_get (D := (dC, dI)) (ci := 9) (v := .ref (x 1)) (C := RX9) (T := TX9) (N := 6) hx hb hts inB_9 hown hE.1 hP 1 rfl rfl 0 (by decide) (hts _ k_136) (fun _ h9 => h9) rfl dX9_advance_307 ?_
                refine lv_aload_n hx hb dX9_advance_310 rfl (lv_at hl 0 rfl) ?_
                refine va_get (D := (dC, dI)) (ci := 9) (v := .int (v1 3)) (C := RX9) (T := TX9) (N := 6) hx hb hts inB_9 hown hE.1 hP 1 rfl rfl 3 (by decide) (hts _ k_141) (fun _ h9 => h9) rfl dX9_advance_311 ?_
                refine ldB hx hb hE hP 2 rfl (vp_in_iff.mpr ⟨by omega, by omega⟩) rfl rfl dX9_advance_314 ?_
                refine lv_topi (fun t54 et54 => ?_)
                refine lv_goto (tgt := 319) hx hb dX9_advance_315 (by decide) ?_
                refine va_put (D := (dC, dI)) (ci := 9) (v := .int t54) (ty := tyX9 2) (C := RX9) (T := TX9) (N := 6) hx hb hts inB_9 tyX9 tyX9_ok nmX9 hown hE.1 hP hD hS 1 rfl rfl 2 (by decide) (hts _ k_140) (fun _ h9 => h9) rfl (tyX9_ok 2 (by decide)) rfl rfl (Nat.le_of_ble_eq_true rfl) dX9_advance_319 (fun H locs hP hD hS => ?_)
                have hP : va_P (dC, dI) vwCl (XW cy x0 x (upd (upd (upd v1 4 (v1 3)) 4 t47) 2 t54) f1) H := hP
                have hD : va_D A (XW cy x0 x (upd (upd (upd v1 4 (v1 3)) 4 t47) 2 t54) f1) := hD
                exact ret ((upd (upd (upd v1 4 (v1 3)) 4 t47) 2 t54), f1) _ _ _ _ _ _ ⟨(hT2.symm.trans (gsX_X9_advance_1_q14 c3 hG7 hG25 et47 et48 et49 et50 hG52.symm c53 et54)), (KV.up (j := 2) (x := t54) (KV.up (j := 4) (x := t47) (KV.up (j := 4) (x := (v1 3)) hM_v1 rfl) rfl) rfl), hA_f1, (XI.upd (j := 2) (x := t54) (XI.upd (j := 4) (x := t47) (XI.upd (j := 4) (x := (v1 3)) hIv1 (show (0 : Int) ≤ (v1 3).toInt by omega) (show (v1 3).toInt ≤ (1600 : Int) by omega)) (show (0 : Int) ≤ t47.toInt by omega) (show t47.toInt ≤ (1600 : Int) by omega)) (rlo _) (rhi _)), (show v1 0 = v 0 from hq0_v1), (show v1 1 = v 1 from hq1_v1), (show v1 7 = v 7 from hq7_v1), (show v1 8 = v 8 from hq8_v1), (show v1 9 = v 9 from hq9_v1), (show v1 10 = v 10 from hq10_v1), (show v1 31 = v 31 from hq31_v1), (show v1 32 = v 32 from hq32_v1)⟩ hP hD hS dX9_advance_322 (Nat.le_refl _) (Nat.le_refl _)
        · skip
          have zc3 : ¬ ((v1 3).toInt < (v 1).toInt) := by rw [fa_lt] at c3; exact c3
          have rg55 := fb_rng (v1 3)
          have rg56 := fb_rng (v 1)
          refine lv_aload_n hx hb dX9_advance_79 rfl (lv_at hl 0 rfl) ?_
          refine lv_iconst (v := 0) hx hb dX9_advance_80 (by decide) ?_
          refine va_put (D := (dC, dI)) (ci := 9) (v := .int 0) (ty := tyX9 2) (C := RX9) (T := TX9) (N := 6) hx hb hts inB_9 tyX9 tyX9_ok nmX9 hown hE.1 hP hD hS 1 rfl rfl 2 (by decide) (hts _ k_140) (fun _ h9 => h9) rfl (tyX9_ok 2 (by decide)) rfl rfl (Nat.le_of_ble_eq_true rfl) dX9_advance_81 (fun H locs hP hD hS => ?_)
          have hP : va_P (dC, dI) vwCl (XW cy x0 x (upd (upd v1 4 (v1 3)) 2 0) f1) H := hP
          have hD : va_D A (XW cy x0 x (upd (upd v1 4 (v1 3)) 2 0) f1) := hD
          refine lv_goto (tgt := 322) hx hb dX9_advance_84 (by decide) ?_
          exact ret ((upd (upd v1 4 (v1 3)) 2 0), f1) _ _ _ _ _ _ ⟨(hT2.symm.trans (gsX_X9_advance_1_q15 c3)), (KV.up (j := 2) (x := 0) (KV.up (j := 4) (x := (v1 3)) hM_v1 rfl) rfl), hA_f1, (XI.upd (j := 2) (x := 0) (XI.upd (j := 4) (x := (v1 3)) hIv1 (show (0 : Int) ≤ (v1 3).toInt by omega) (show (v1 3).toInt ≤ (1600 : Int) by omega)) (rlo _) (rhi _)), (show v1 0 = v 0 from hq0_v1), (show v1 1 = v 1 from hq1_v1), (show v1 7 = v 7 from hq7_v1), (show v1 8 = v 8 from hq8_v1), (show v1 9 = v 9 from hq9_v1), (show v1 10 = v 10 from hq10_v1), (show v1 31 = v 31 from hq31_v1), (show v1 32 = v 32 from hq32_v1)⟩ hP hD hS dX9_advance_322 (Nat.le_refl _) (Nat.le_refl _)
      revert jp60
      intro jp60
      refine va_get (D := (dC, dI)) (ci := 9) (v := .int (v1 3)) (C := RX9) (T := TX9) (N := 6) hx hb hts inB_9 hown hE.1 hP 1 rfl rfl 3 (by decide) (hts _ k_141) (fun _ h9 => h9) rfl dX9_advance_9 ?_
      have b3_v1 : 0 ≤ (v1 3).toInt ∧ (v1 3).toInt ≤ 1600 := XI.b hIv1 3 (by decide)
      refine lv_aload_n hx hb dX9_advance_12 rfl (lv_at hl 0 rfl) ?_
      refine va_get (D := (dC, dI)) (ci := 9) (v := .int (v1 1)) (C := RX9) (T := TX9) (N := 6) hx hb hts inB_9 hown hE.1 hP 1 rfl rfl 1 (by decide) (hts _ k_137) (fun _ h9 => h9) rfl dX9_advance_13 ?_
      refine tI (y := (v 1)) hq1_v1 ?_
      have b1_v : 0 ≤ (v 1).toInt ∧ (v 1).toInt ≤ 1600 := XI.b hIv 1 (by decide)
      refine lv_icmp_ge (tgt := 60) hx hb dX9_advance_16 (by decide) (fun c57 => ?_) (fun c57 => ?_)
      · skip
        have zc57 : (v 1).toInt ≤ (v1 3).toInt := by rw [fa_le] at c57; exact c57
        have rg58 := fb_rng (v1 3)
        have rg59 := fb_rng (v 1)
        exact jp60 _ _ _ ((gsX_X9_advance_1_q16 c57).symm.trans hT1) hP hD hS hl
      · skip
        have zc57 : ¬ ((v 1).toInt ≤ (v1 3).toInt) := by rw [fa_le] at c57; exact c57
        have rg60 := fb_rng (v1 3)
        have rg61 := fb_rng (v 1)
        refine lv_aload_n hx hb dX9_advance_19 rfl (lv_at hl 0 rfl) ?_
        refine va_get (D := (dC, dI)) (ci := 9) (v := .ref (x 1)) (C := RX9) (T := TX9) (N := 6) hx hb hts inB_9 hown hE.1 hP 1 rfl rfl 0 (by decide) (hts _ k_136) (fun _ h9 => h9) rfl dX9_advance_20 ?_
        refine lv_aload_n hx hb dX9_advance_23 rfl (lv_at hl 0 rfl) ?_
        refine va_get (D := (dC, dI)) (ci := 9) (v := .int (v1 3)) (C := RX9) (T := TX9) (N := 6) hx hb hts inB_9 hown hE.1 hP 1 rfl rfl 3 (by decide) (hts _ k_141) (fun _ h9 => h9) rfl dX9_advance_24 ?_
        refine ldB hx hb hE hP 2 rfl (vp_in_iff.mpr ⟨by omega, by omega⟩) rfl rfl dX9_advance_27 ?_
        refine lv_topi (fun t62 et62 => ?_)
        refine lv_bipush (v := 32) hx hb dX9_advance_28 (by decide) ?_
        refine lv_icmp_eq (tgt := 47) hx hb dX9_advance_30 (by decide) (fun c63 => ?_) (fun c63 => ?_)
        · skip
          have zc63 : t62.toInt = 32 := by rw [fa_eq, show (32 : Int32).toInt = 32 from by decide] at c63; exact c63
          refine lv_aload_n hx hb dX9_advance_47 rfl (lv_at hl 0 rfl) ?_
          refine lv_dup hx hb dX9_advance_48 rfl ?_
          refine va_get (D := (dC, dI)) (ci := 9) (v := .int (v1 3)) (C := RX9) (T := TX9) (N := 6) hx hb hts inB_9 hown hE.1 hP 1 rfl rfl 3 (by decide) (hts _ k_141) (fun _ h9 => h9) rfl dX9_advance_49 ?_
          refine lv_iconst (v := 1) hx hb dX9_advance_52 (by decide) ?_
          refine lv_iadd hx hb dX9_advance_53 ?_
          refine lv_topi (fun t64 et64 => ?_)
          have zt64 : t64.toInt = (v1 3).toInt + 1 := by rw [et64]; exact add_i rfl (by decide) (by omega) (by omega)
          refine va_put (D := (dC, dI)) (ci := 9) (v := .int t64) (ty := tyX9 3) (C := RX9) (T := TX9) (N := 6) hx hb hts inB_9 tyX9 tyX9_ok nmX9 hown hE.1 hP hD hS 1 rfl rfl 3 (by decide) (hts _ k_141) (fun _ h9 => h9) rfl (tyX9_ok 3 (by decide)) rfl rfl (Nat.le_of_ble_eq_true rfl) dX9_advance_54 (fun H locs hP hD hS => ?_)
          have hP : va_P (dC, dI) vwCl (XW cy x0 x (upd v1 3 t64) f1) H := hP
          have hD : va_D A (XW cy x0 x (upd v1 3 t64) f1) := hD
          refine lv_goto (tgt := 8) hx hb dX9_advance_57 (by decide) ?_
          exact ih1  (upd v1 3 t64) f1 (XI.upd (j := 3) (x := t64) hIv1 (show (0 : Int) ≤ t64.toInt by omega) (show t64.toInt ≤ (1600 : Int) by omega)) hq0_v1 hq1_v1 hq7_v1 hq8_v1 hq9_v1 hq10_v1 hq31_v1 hq32_v1 ((gsX_X9_advance_1_q17 c57 et62 c63 et64).symm.trans hT1) (KV.up (j := 3) (x := t64) hM_v1 rfl) hA_f1 (by show (1600 - t64.toInt).toNat < n1; omega) _ _ _ hP hD hS (lv_sub hl [0] rfl)
        · skip
          have zc63 : ¬ (t62.toInt = 32) := by rw [fa_eq, show (32 : Int32).toInt = 32 from by decide] at c63; exact c63
          refine lv_aload_n hx hb dX9_advance_33 rfl (lv_at hl 0 rfl) ?_
          refine va_get (D := (dC, dI)) (ci := 9) (v := .ref (x 1)) (C := RX9) (T := TX9) (N := 6) hx hb hts inB_9 hown hE.1 hP 1 rfl rfl 0 (by decide) (hts _ k_136) (fun _ h9 => h9) rfl dX9_advance_34 ?_
          refine lv_aload_n hx hb dX9_advance_37 rfl (lv_at hl 0 rfl) ?_
          refine va_get (D := (dC, dI)) (ci := 9) (v := .int (v1 3)) (C := RX9) (T := TX9) (N := 6) hx hb hts inB_9 hown hE.1 hP 1 rfl rfl 3 (by decide) (hts _ k_141) (fun _ h9 => h9) rfl dX9_advance_38 ?_
          refine ldB hx hb hE hP 2 rfl (vp_in_iff.mpr ⟨by omega, by omega⟩) rfl rfl dX9_advance_41 ?_
          refine lv_topi (fun t65 et65 => ?_)
          refine lv_bipush (v := 10) hx hb dX9_advance_42 (by decide) ?_
          refine lv_icmp_ne (tgt := 60) hx hb dX9_advance_44 (by decide) (fun c66 => ?_) (fun c66 => ?_)
          · skip
            have zc66 : ¬ (t65.toInt = 10) := by rw [fa_eq, show (10 : Int32).toInt = 10 from by decide] at c66; exact c66
            exact jp60 _ _ _ ((gsX_X9_advance_1_q18 c57 et62 c63 et65 c66).symm.trans hT1) hP hD hS hl
          · skip
            have zc66 : t65.toInt = 10 := by rw [fa_eq, show (10 : Int32).toInt = 10 from by decide] at c66; exact c66
            refine lv_aload_n hx hb dX9_advance_47 rfl (lv_at hl 0 rfl) ?_
            refine lv_dup hx hb dX9_advance_48 rfl ?_
            refine va_get (D := (dC, dI)) (ci := 9) (v := .int (v1 3)) (C := RX9) (T := TX9) (N := 6) hx hb hts inB_9 hown hE.1 hP 1 rfl rfl 3 (by decide) (hts _ k_141) (fun _ h9 => h9) rfl dX9_advance_49 ?_
            refine lv_iconst (v := 1) hx hb dX9_advance_52 (by decide) ?_
            refine lv_iadd hx hb dX9_advance_53 ?_
            refine lv_topi (fun t67 et67 => ?_)
            have zt67 : t67.toInt = (v1 3).toInt + 1 := by rw [et67]; exact add_i rfl (by decide) (by omega) (by omega)
            refine va_put (D := (dC, dI)) (ci := 9) (v := .int t67) (ty := tyX9 3) (C := RX9) (T := TX9) (N := 6) hx hb hts inB_9 tyX9 tyX9_ok nmX9 hown hE.1 hP hD hS 1 rfl rfl 3 (by decide) (hts _ k_141) (fun _ h9 => h9) rfl (tyX9_ok 3 (by decide)) rfl rfl (Nat.le_of_ble_eq_true rfl) dX9_advance_54 (fun H locs hP hD hS => ?_)
            have hP : va_P (dC, dI) vwCl (XW cy x0 x (upd v1 3 t67) f1) H := hP
            have hD : va_D A (XW cy x0 x (upd v1 3 t67) f1) := hD
            refine lv_goto (tgt := 8) hx hb dX9_advance_57 (by decide) ?_
            exact ih1  (upd v1 3 t67) f1 (XI.upd (j := 3) (x := t67) hIv1 (show (0 : Int) ≤ t67.toInt by omega) (show t67.toInt ≤ (1600 : Int) by omega)) hq0_v1 hq1_v1 hq7_v1 hq8_v1 hq9_v1 hq10_v1 hq31_v1 hq32_v1 ((gsX_X9_advance_1_q19 c57 et62 c63 et65 c66 et67).symm.trans hT1) (KV.up (j := 3) (x := t67) hM_v1 rfl) hA_f1 (by show (1600 - t67.toInt).toNat < n1; omega) _ _ _ hP hD hS (lv_sub hl [0] rfl)
  exact lp1 (4294967296 + NF)  (upd v 3 (v 4)) f (XI.upd (j := 3) (x := (v 4)) hIv (show (0 : Int) ≤ (v 4).toInt by omega) (show (v 4).toInt ≤ (1600 : Int) by omega)) rfl rfl rfl rfl rfl rfl rfl rfl gsX_X9_advance_1_q20.symm (KV.up (j := 3) (x := (v 4)) hM_v rfl) hA_f (by have qr0 := fb_rng (v 4); show (1600 - (v 4).toInt).toNat < 4294967296 + NF; omega) _ _ _ hP hD hS (lv_sub hl [0] rfl)
