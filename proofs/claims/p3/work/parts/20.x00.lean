set_option maxHeartbeats 4000000 in
set_option maxRecDepth 100000 in
theorem sX_X9_hasRoom_1 (l : Launch) (dC : Nat → ClassId) (dI : Nat → Nat → Nat) (cy : Nat → ClassId) (x0 : Nat) (x : Nat → Nat)  (v : Nat → Int32) (f : Nat → Nat → Int32) (hIv : XI v)  : ctI l (dC, dI) cy yX9_hasRoom cX9_hasRoom 1 .boolean 1 60 0 0 Unit [.ref (x 0)] (XW cy x0 x v f) (fun r u => ((r = 1) ∨ (r = 0))) (fun u => XW cy x0 x v f) := by
  refine ctI_of (by decide) (Nat.le_of_ble_eq_true rfl) (fun p e s m below meth c A ls Q hx hb hml hts hown hE hP hD hA hl ret => ?_)
  have hown : s.vm.findClass RX9 = some m.cls := hown
  have hS : va_S A s.heap s.heap [] := va_S.rf
  have hl : lv_has ls 1 [(0, .ref (x 0))] := hl
  refine lv_aload_n hx hb dX9_hasRoom_0 rfl (lv_at hl 0 rfl) ?_
  refine va_get (D := (dC, dI)) (ci := 9) (v := .int (v 1)) (C := RX9) (T := TX9) (N := 6) hx hb hts inB_9 hown hE.1 hP 1 rfl rfl 1 (by decide) (hts _ k_137) (fun _ h9 => h9) rfl dX9_hasRoom_1 ?_
  have b1_v : 0 ≤ (v 1).toInt ∧ (v 1).toInt ≤ 1600 := XI.b hIv 1 (by decide)
  refine lv_bipush (v := 20) hx hb dX9_hasRoom_4 (by decide) ?_
  refine lv_iadd hx hb dX9_hasRoom_6 ?_
  refine lv_topi (fun t1 et1 => ?_)
  have rg2 := fb_rng (v 1)
  have zt1 : t1.toInt = (v 1).toInt + 20 := by rw [et1]; exact add_i rfl (by decide) (by omega) (by omega)
  refine lv_sipush (v := 1600) hx hb dX9_hasRoom_7 (by decide) ?_
  refine lv_icmp_gt (tgt := 17) hx hb dX9_hasRoom_10 (by decide) (fun c3 => ?_) (fun c3 => ?_)
  · skip
    have zc3 : 1600 < t1.toInt := by rw [fa_lt, show (1600 : Int32).toInt = 1600 from by decide] at c3; exact c3
    refine lv_iconst (v := 0) hx hb dX9_hasRoom_17 (by decide) ?_
    exact ret 0 () _ _ _ _ _ _ rfl (Or.inr rfl) hP hD hS dX9_hasRoom_18 (Nat.le_refl _) (Nat.le_refl _)
  · skip
    have zc3 : ¬ (1600 < t1.toInt) := by rw [fa_lt, show (1600 : Int32).toInt = 1600 from by decide] at c3; exact c3
    refine lv_iconst (v := 1) hx hb dX9_hasRoom_13 (by decide) ?_
    refine lv_goto (tgt := 18) hx hb dX9_hasRoom_14 (by decide) ?_
    exact ret 1 () _ _ _ _ _ _ rfl (Or.inl rfl) hP hD hS dX9_hasRoom_18 (Nat.le_refl _) (Nat.le_refl _)
set_option maxHeartbeats 4000000 in
set_option maxRecDepth 100000 in
theorem sX_X9_append_1 (l : Launch) (dC : Nat → ClassId) (dI : Nat → Nat → Nat) (cy : Nat → ClassId) (x0 : Nat) (x : Nat → Nat) (p1 : Int32) (v : Nat → Int32) (f : Nat → Nat → Int32) (hIv : XI v)  : ctV l (dC, dI) cy yX9_append cX9_append 3 1 60 0 0 ((Nat → Int32) × (Nat → Nat → Int32)) [.ref (x 0), .int p1] (XW cy x0 x v f) (fun u => XI u.1 ∧ u.1 0 = v 0 ∧ u.1 9 = v 9 ∧ u.1 10 = v 10 ∧ u.1 31 = v 31 ∧ u.1 32 = v 32) (fun u => XW cy x0 x u.1 u.2) := by
  refine ctV_of (by decide) (Nat.le_of_ble_eq_true rfl) (fun p e s m below meth c A ls Q hx hb hml hts hown hnm hE hP hD hA hl ret => ?_)
  have hown : s.vm.findClass RX9 = some m.cls := hown
  have hS : va_S A s.heap s.heap [] := va_S.rf
  have hl : lv_has ls 3 [(0, .ref (x 0)), (1, .int p1)] := hl
  refine lv_bipush (v := 24) hx hb dX9_append_0 (by decide) ?_
  refine lv_istore_n (lv' := [(2, .int 24), (0, .ref (x 0)), (1, .int p1)]) hx hb dX9_append_2 rfl hl (by decide) rfl (fun ls hl => ?_)
  have lp1 : ∀ (n1 : Nat) (l2_1 : Int32) (v1 : Nat → Int32) (f1 : Nat → Nat → Int32), XI v1 → v1 0 = (v 0) → v1 9 = (v 9) → v1 10 = (v 10) → v1 31 = (v 31) → v1 32 = (v 32) → ((-2147483648 : Int) ≤ l2_1.toInt ∧ l2_1.toInt ≤ 24) → (l2_1.toInt + 2147483648).toNat < n1 → ∀ (H : Heap) (locs : List Loc) (ls : Array Slot), va_P (dC, dI) vwCl (XW cy x0 x v1 f1) H → va_D A (XW cy x0 x v1 f1) → va_S A s.heap H locs → lv_has ls 3 [(2, .int l2_1), (0, .ref (x 0)), (1, .int p1)] → W p l e { frames := 1, cells := 0, slots := 0, locals := 60 } s m ([.ref (x 0), .int p1] : List Value).toArray below meth c H locs 0 0 Q (F0 m 3 ls []) := by
    intro n1
    induction n1 with
    | zero => intro l2_1 v1 f1 hIv1 hq0_v1 hq9_v1 hq10_v1 hq31_v1 hq32_v1 hr2_1 hm; exact absurd hm (Nat.not_lt_zero _)
    | succ n1 ih1 =>
      intro l2_1 v1 f1 hIv1 hq0_v1 hq9_v1 hq10_v1 hq31_v1 hq32_v1 hr2_1 hm1 H locs ls hP hD hS hl
      refine lv_iload_n hx hb dX9_append_3 rfl (lv_at hl 0 rfl) ?_
      refine lv_if_lt (tgt := 46) hx hb dX9_append_4 (by decide) (fun c2 => ?_) (fun c2 => ?_)
      · skip
        have zc2 : l2_1.toInt < 0 := by rw [fa_lt, show (0 : Int32).toInt = 0 from by decide] at c2; exact c2
        exact ret (v1, f1) _ _ _ _ _ _ ⟨hIv1, (show v1 0 = v 0 from hq0_v1), (show v1 9 = v 9 from hq9_v1), (show v1 10 = v 10 from hq10_v1), (show v1 31 = v 31 from hq31_v1), (show v1 32 = v 32 from hq32_v1)⟩ hP hD hS dX9_append_46 (Nat.le_refl _) (Nat.le_refl _)
      · skip
        have zc2 : ¬ (l2_1.toInt < 0) := by rw [fa_lt, show (0 : Int32).toInt = 0 from by decide] at c2; exact c2
        refine lv_aload_n hx hb dX9_append_7 rfl (lv_at hl 1 rfl) ?_
        refine va_get (D := (dC, dI)) (ci := 9) (v := .int (v1 1)) (C := RX9) (T := TX9) (N := 6) hx hb hts inB_9 hown hE.1 hP 1 rfl rfl 1 (by decide) (hts _ k_137) (fun _ h9 => h9) rfl dX9_append_8 ?_
        have b1_v1 : 0 ≤ (v1 1).toInt ∧ (v1 1).toInt ≤ 1600 := XI.b hIv1 1 (by decide)
        refine lv_sipush (v := 1600) hx hb dX9_append_11 (by decide) ?_
        refine lv_icmp_ge (tgt := 46) hx hb dX9_append_14 (by decide) (fun c3 => ?_) (fun c3 => ?_)
        · skip
          have zc3 : 1600 ≤ (v1 1).toInt := by rw [fa_le, show (1600 : Int32).toInt = 1600 from by decide] at c3; exact c3
          exact ret (v1, f1) _ _ _ _ _ _ ⟨hIv1, (show v1 0 = v 0 from hq0_v1), (show v1 9 = v 9 from hq9_v1), (show v1 10 = v 10 from hq10_v1), (show v1 31 = v 31 from hq31_v1), (show v1 32 = v 32 from hq32_v1)⟩ hP hD hS dX9_append_46 (Nat.le_refl _) (Nat.le_refl _)
        · skip
          have zc3 : ¬ (1600 ≤ (v1 1).toInt) := by rw [fa_le, show (1600 : Int32).toInt = 1600 from by decide] at c3; exact c3
          refine lv_aload_n hx hb dX9_append_17 rfl (lv_at hl 1 rfl) ?_
          refine va_get (D := (dC, dI)) (ci := 9) (v := .ref (x 1)) (C := RX9) (T := TX9) (N := 6) hx hb hts inB_9 hown hE.1 hP 1 rfl rfl 0 (by decide) (hts _ k_136) (fun _ h9 => h9) rfl dX9_append_18 ?_
          refine lv_aload_n hx hb dX9_append_21 rfl (lv_at hl 1 rfl) ?_
          refine va_get (D := (dC, dI)) (ci := 9) (v := .int (v1 1)) (C := RX9) (T := TX9) (N := 6) hx hb hts inB_9 hown hE.1 hP 1 rfl rfl 1 (by decide) (hts _ k_137) (fun _ h9 => h9) rfl dX9_append_22 ?_
          refine lv_iload_n hx hb dX9_append_25 rfl (lv_at hl 2 rfl) ?_
          refine lv_iload_n hx hb dX9_append_26 rfl (lv_at hl 0 rfl) ?_
          refine lv_ishr hx hb dX9_append_27 ?_
          refine lv_topi (fun t4 et4 => ?_)
          refine lv_i2b hx hb dX9_append_28 rfl ?_
          refine lv_topi (fun t5 et5 => ?_)
          refine stB hx hb hE hP hD hS 2 rfl (vp_in_iff.mpr ⟨by omega, by omega⟩) rfl dX9_append_29 (fun H locs hP hD hS => ?_)
          obtain ⟨f6, hP, hD⟩ : ∃ fz9, va_P (dC, dI) vwCl (XW cy x0 x v1 fz9) H ∧ va_D A (XW cy x0 x v1 fz9) := ⟨upd2 f1 0 (upd (f1 0) (v1 1).toNatClampNeg (vp_nar .byte t5)), hP, hD⟩
          refine lv_aload_n hx hb dX9_append_30 rfl (lv_at hl 1 rfl) ?_
          refine lv_dup hx hb dX9_append_31 rfl ?_
          refine va_get (D := (dC, dI)) (ci := 9) (v := .int (v1 1)) (C := RX9) (T := TX9) (N := 6) hx hb hts inB_9 hown hE.1 hP 1 rfl rfl 1 (by decide) (hts _ k_137) (fun _ h9 => h9) rfl dX9_append_32 ?_
          refine lv_iconst (v := 1) hx hb dX9_append_35 (by decide) ?_
          refine lv_iadd hx hb dX9_append_36 ?_
          refine lv_topi (fun t7 et7 => ?_)
          have rg8 := fb_rng (v1 1)
          have zt7 : t7.toInt = (v1 1).toInt + 1 := by rw [et7]; exact add_i rfl (by decide) (by omega) (by omega)
          refine va_put (D := (dC, dI)) (ci := 9) (v := .int t7) (ty := tyX9 1) (C := RX9) (T := TX9) (N := 6) hx hb hts inB_9 tyX9 tyX9_ok nmX9 hown hE.1 hP hD hS 1 rfl rfl 1 (by decide) (hts _ k_137) (fun _ h9 => h9) rfl (tyX9_ok 1 (by decide)) rfl rfl (Nat.le_of_ble_eq_true rfl) dX9_append_37 (fun H locs hP hD hS => ?_)
          have hP : va_P (dC, dI) vwCl (XW cy x0 x (upd v1 1 t7) f6) H := hP
          have hD : va_D A (XW cy x0 x (upd v1 1 t7) f6) := hD
          obtain ⟨t9, et9⟩ : ∃ y : Int32, y = l2_1 + (-8) := ⟨_, rfl⟩
          have rg10 := fb_rng l2_1
          have zt9 : t9.toInt = l2_1.toInt + (-8) := by rw [et9]; exact add_i rfl (by decide) (by omega) (by omega)
          refine lv_iinc (v := t9) (lv' := [(2, .int t9), (0, .ref (x 0)), (1, .int p1)]) hx hb dX9_append_40 hl (k := 0) rfl (by rw [et9]; rfl) (by decide) rfl (fun ls hl => ?_)
          refine lv_goto (tgt := 3) hx hb dX9_append_43 (by decide) ?_
          have rg11 := fb_rng t9
          exact ih1 t9 (upd v1 1 t7) f6 (XI.upd (j := 1) (x := t7) hIv1 (show (0 : Int) ≤ t7.toInt by omega) (show t7.toInt ≤ (1600 : Int) by omega)) hq0_v1 hq9_v1 hq10_v1 hq31_v1 hq32_v1 ⟨show (-2147483648 : Int) ≤ t9.toInt by omega, show t9.toInt ≤ (24 : Int) by omega⟩ (by show (t9.toInt + 2147483648).toNat < n1; omega) _ _ _ hP hD hS (lv_sub hl [0, 1, 2] rfl)
  exact lp1 _ 24 v f hIv rfl rfl rfl rfl rfl ⟨by decide, by decide⟩ (Nat.lt_succ_self _) _ _ _ hP hD hS (lv_sub hl [0, 1, 2] rfl)
set_option maxHeartbeats 4000000 in
set_option maxRecDepth 100000 in
theorem sX_X10_feed_1 (l : Launch) (dC : Nat → ClassId) (dI : Nat → Nat → Nat) (cy : Nat → ClassId) (x0 : Nat) (x : Nat → Nat) (p1 : Int32) (p2 : Int32) (p3 : Int32) (p4 : Int32) (p5 : Int32) (v : Nat → Int32) (f : Nat → Nat → Int32) (hIv : XI v)  : ctI l (dC, dI) cy yX10_feed cX10_feed 6 .int 2 82 0 0 ((Nat → Int32) × (Nat → Nat → Int32)) [.ref x0, .int p1, .int p2, .int p3, .int p4, .int p5] (XW cy x0 x v f) (fun r u => XI u.1 ∧ u.1 0 = v 0 ∧ u.1 9 = v 9 ∧ u.1 10 = v 10 ∧ u.1 31 = v 31 ∧ u.1 32 = v 32) (fun u => XW cy x0 x u.1 u.2) := by
  refine ctI_of (by decide) (Nat.le_of_ble_eq_true rfl) (fun p e s m below meth c A ls Q hx hb hml hts hown hE hP hD hA hl ret => ?_)
  have hown : s.vm.findClass RX10 = some m.cls := hown
  have hS : va_S A s.heap s.heap [] := va_S.rf
  have hl : lv_has ls 6 [(0, .ref x0), (1, .int p1), (2, .int p2), (3, .int p3), (4, .int p4), (5, .int p5)] := hl
  refine lv_aload_n hx hb dX10_feed_0 rfl (lv_at hl 0 rfl) ?_
  refine va_get (D := (dC, dI)) (ci := 10) (v := .ref (x 0)) (C := RX10) (T := TX10) (N := 10) hx hb hts inB_10 hown hE.1 hP 0 rfl rfl 0 (by decide) (hts _ k_491) (fun _ h9 => h9) rfl dX10_feed_1 ?_
  refine cbVi (n := 0) (rest := []) hx hb hml hown hts hE hP hD hS hA (sX_X9_hasRoom_1 l dC dI cy x0 x  v f hIv ) k_526 k_527 k_528 k_102 k_529 (by decide +kernel) ⟨Nat.le_of_ble_eq_true rfl, Nat.le_of_ble_eq_true rfl⟩ 1 9 rfl rfl (rfl) hl.1 rfl (Nat.le_of_ble_eq_true rfl) dX10_feed_4 (fun r1 u H locs hw hP hD hS => ?_)
  rcases hw with ⟨g2⟩ | ⟨g2⟩
  · skip
    subst g2
    refine lv_if_ne (tgt := 12) hx hb dX10_feed_7 (by decide) (fun _ => ?_) (fun c0 => absurd c0 (by decide))
    refine lv_aload_n hx hb dX10_feed_12 rfl (lv_at hl 0 rfl) ?_
    refine va_get (D := (dC, dI)) (ci := 10) (v := .ref (x 0)) (C := RX10) (T := TX10) (N := 10) hx hb hts inB_10 hown hE.1 hP 0 rfl rfl 0 (by decide) (hts _ k_491) (fun _ h9 => h9) rfl dX10_feed_13 ?_
    refine lv_iload_n hx hb dX10_feed_16 rfl (lv_at hl 1 rfl) ?_
    refine cbVv (n := 1) (rest := []) hx hb hml hown hts hE hP hD hS hA (sX_X9_append_1 l dC dI cy x0 x p1 v f hIv ) k_530 k_531 k_532 k_102 k_533 (by decide +kernel) ⟨Nat.le_of_ble_eq_true rfl, Nat.le_of_ble_eq_true rfl⟩ 1 9 rfl rfl (rfl) hl.1 rfl (Nat.le_of_ble_eq_true rfl) dX10_feed_17 (fun u H locs hw hP hD hS => ?_)
    obtain ⟨v3, f4⟩ := u
    obtain ⟨hIv3, hk0_v3, hk9_v3, hk10_v3, hk31_v3, hk32_v3⟩ := hw
    have hP : va_P (dC, dI) vwCl (XW cy x0 x v3 f4) H := hP
    have hD : va_D A (XW cy x0 x v3 f4) := hD
    have hq0_v3 : v3 0 = (v 0) := hk0_v3
    have hq9_v3 : v3 9 = (v 9) := hk9_v3
    have hq10_v3 : v3 10 = (v 10) := hk10_v3
    have hq31_v3 : v3 31 = (v 31) := hk31_v3
    have hq32_v3 : v3 32 = (v 32) := hk32_v3
    refine lv_aload_n hx hb dX10_feed_20 rfl (lv_at hl 0 rfl) ?_
    refine va_get (D := (dC, dI)) (ci := 10) (v := .ref (x 0)) (C := RX10) (T := TX10) (N := 10) hx hb hts inB_10 hown hE.1 hP 0 rfl rfl 0 (by decide) (hts _ k_491) (fun _ h9 => h9) rfl dX10_feed_21 ?_
    refine lv_iload_n hx hb dX10_feed_24 rfl (lv_at hl 2 rfl) ?_
    refine cbVv (n := 1) (rest := []) hx hb hml hown hts hE hP hD hS hA (sX_X9_append_1 l dC dI cy x0 x p2 v3 f4 hIv3 ) k_530 k_531 k_532 k_102 k_533 (by decide +kernel) ⟨Nat.le_of_ble_eq_true rfl, Nat.le_of_ble_eq_true rfl⟩ 1 9 rfl rfl (rfl) hl.1 rfl (Nat.le_of_ble_eq_true rfl) dX10_feed_25 (fun u H locs hw hP hD hS => ?_)
    obtain ⟨v5, f6⟩ := u
    obtain ⟨hIv5, hk0_v5, hk9_v5, hk10_v5, hk31_v5, hk32_v5⟩ := hw
    have hP : va_P (dC, dI) vwCl (XW cy x0 x v5 f6) H := hP
    have hD : va_D A (XW cy x0 x v5 f6) := hD
    have hq0_v5 : v5 0 = (v 0) := hk0_v5.trans hq0_v3
    have hq9_v5 : v5 9 = (v 9) := hk9_v5.trans hq9_v3
    have hq10_v5 : v5 10 = (v 10) := hk10_v5.trans hq10_v3
    have hq31_v5 : v5 31 = (v 31) := hk31_v5.trans hq31_v3
    have hq32_v5 : v5 32 = (v 32) := hk32_v5.trans hq32_v3
    refine lv_aload_n hx hb dX10_feed_28 rfl (lv_at hl 0 rfl) ?_
    refine va_get (D := (dC, dI)) (ci := 10) (v := .ref (x 0)) (C := RX10) (T := TX10) (N := 10) hx hb hts inB_10 hown hE.1 hP 0 rfl rfl 0 (by decide) (hts _ k_491) (fun _ h9 => h9) rfl dX10_feed_29 ?_
    refine lv_iload_n hx hb dX10_feed_32 rfl (lv_at hl 3 rfl) ?_
    refine cbVv (n := 1) (rest := []) hx hb hml hown hts hE hP hD hS hA (sX_X9_append_1 l dC dI cy x0 x p3 v5 f6 hIv5 ) k_530 k_531 k_532 k_102 k_533 (by decide +kernel) ⟨Nat.le_of_ble_eq_true rfl, Nat.le_of_ble_eq_true rfl⟩ 1 9 rfl rfl (rfl) hl.1 rfl (Nat.le_of_ble_eq_true rfl) dX10_feed_33 (fun u H locs hw hP hD hS => ?_)
    obtain ⟨v7, f8⟩ := u
    obtain ⟨hIv7, hk0_v7, hk9_v7, hk10_v7, hk31_v7, hk32_v7⟩ := hw
    have hP : va_P (dC, dI) vwCl (XW cy x0 x v7 f8) H := hP
    have hD : va_D A (XW cy x0 x v7 f8) := hD
    have hq0_v7 : v7 0 = (v 0) := hk0_v7.trans hq0_v5
    have hq9_v7 : v7 9 = (v 9) := hk9_v7.trans hq9_v5
    have hq10_v7 : v7 10 = (v 10) := hk10_v7.trans hq10_v5
    have hq31_v7 : v7 31 = (v 31) := hk31_v7.trans hq31_v5
    have hq32_v7 : v7 32 = (v 32) := hk32_v7.trans hq32_v5
    refine lv_aload_n hx hb dX10_feed_36 rfl (lv_at hl 0 rfl) ?_
    refine va_get (D := (dC, dI)) (ci := 10) (v := .ref (x 0)) (C := RX10) (T := TX10) (N := 10) hx hb hts inB_10 hown hE.1 hP 0 rfl rfl 0 (by decide) (hts _ k_491) (fun _ h9 => h9) rfl dX10_feed_37 ?_
    refine lv_iload hx hb dX10_feed_40 (lv_at hl 4 rfl) ?_
    refine cbVv (n := 1) (rest := []) hx hb hml hown hts hE hP hD hS hA (sX_X9_append_1 l dC dI cy x0 x p4 v7 f8 hIv7 ) k_530 k_531 k_532 k_102 k_533 (by decide +kernel) ⟨Nat.le_of_ble_eq_true rfl, Nat.le_of_ble_eq_true rfl⟩ 1 9 rfl rfl (rfl) hl.1 rfl (Nat.le_of_ble_eq_true rfl) dX10_feed_42 (fun u H locs hw hP hD hS => ?_)
    obtain ⟨v9, f10⟩ := u
    obtain ⟨hIv9, hk0_v9, hk9_v9, hk10_v9, hk31_v9, hk32_v9⟩ := hw
    have hP : va_P (dC, dI) vwCl (XW cy x0 x v9 f10) H := hP
    have hD : va_D A (XW cy x0 x v9 f10) := hD
    have hq0_v9 : v9 0 = (v 0) := hk0_v9.trans hq0_v7
    have hq9_v9 : v9 9 = (v 9) := hk9_v9.trans hq9_v7
    have hq10_v9 : v9 10 = (v 10) := hk10_v9.trans hq10_v7
    have hq31_v9 : v9 31 = (v 31) := hk31_v9.trans hq31_v7
    have hq32_v9 : v9 32 = (v 32) := hk32_v9.trans hq32_v7
    refine lv_aload_n hx hb dX10_feed_45 rfl (lv_at hl 0 rfl) ?_
    refine va_get (D := (dC, dI)) (ci := 10) (v := .ref (x 0)) (C := RX10) (T := TX10) (N := 10) hx hb hts inB_10 hown hE.1 hP 0 rfl rfl 0 (by decide) (hts _ k_491) (fun _ h9 => h9) rfl dX10_feed_46 ?_
    refine lv_iload hx hb dX10_feed_49 (lv_at hl 5 rfl) ?_
    refine cbVv (n := 1) (rest := []) hx hb hml hown hts hE hP hD hS hA (sX_X9_append_1 l dC dI cy x0 x p5 v9 f10 hIv9 ) k_530 k_531 k_532 k_102 k_533 (by decide +kernel) ⟨Nat.le_of_ble_eq_true rfl, Nat.le_of_ble_eq_true rfl⟩ 1 9 rfl rfl (rfl) hl.1 rfl (Nat.le_of_ble_eq_true rfl) dX10_feed_51 (fun u H locs hw hP hD hS => ?_)
    obtain ⟨v11, f12⟩ := u
    obtain ⟨hIv11, hk0_v11, hk9_v11, hk10_v11, hk31_v11, hk32_v11⟩ := hw
    have hP : va_P (dC, dI) vwCl (XW cy x0 x v11 f12) H := hP
    have hD : va_D A (XW cy x0 x v11 f12) := hD
    have hq0_v11 : v11 0 = (v 0) := hk0_v11.trans hq0_v9
    have hq9_v11 : v11 9 = (v 9) := hk9_v11.trans hq9_v9
    have hq10_v11 : v11 10 = (v 10) := hk10_v11.trans hq10_v9
    have hq31_v11 : v11 31 = (v 31) := hk31_v11.trans hq31_v9
    have hq32_v11 : v11 32 = (v 32) := hk32_v11.trans hq32_v9
    refine lv_aload_n hx hb dX10_feed_54 rfl (lv_at hl 0 rfl) ?_
    refine va_get (D := (dC, dI)) (ci := 10) (v := .ref (x 0)) (C := RX10) (T := TX10) (N := 10) hx hb hts inB_10 hown hE.1 hP 0 rfl rfl 0 (by decide) (hts _ k_491) (fun _ h9 => h9) rfl dX10_feed_55 ?_
    refine va_getN (D := (dC, dI)) (ci := 9) (v := .int (v11 1)) (C := RX9) (T := TX9) (N := 6) hx hb hts inB_9 hown hE.1 hP 1 rfl rfl 1 (by decide) (va_Nw.use rfl (hE.2 _ k_138)) (fun _ h9 => h9) rfl dX10_feed_58 ?_
    have b1_v11 : 0 ≤ (v11 1).toInt ∧ (v11 1).toInt ≤ 1600 := XI.b hIv11 1 (by decide)
    exact ret (v11 1) (v11, f12) _ _ _ _ _ _ rfl ⟨hIv11, (hk0_v11.trans (hk0_v9.trans (hk0_v7.trans (hk0_v5.trans hk0_v3)))), (hk9_v11.trans (hk9_v9.trans (hk9_v7.trans (hk9_v5.trans hk9_v3)))), (hk10_v11.trans (hk10_v9.trans (hk10_v7.trans (hk10_v5.trans hk10_v3)))), (hk31_v11.trans (hk31_v9.trans (hk31_v7.trans (hk31_v5.trans hk31_v3)))), (hk32_v11.trans (hk32_v9.trans (hk32_v7.trans (hk32_v5.trans hk32_v3))))⟩ hP hD hS dX10_feed_61 (Nat.le_refl _) (Nat.le_refl _)
  · skip
    subst g2
    refine lv_if_ne (tgt := 12) hx hb dX10_feed_7 (by decide) (fun c0 => absurd (by decide) c0) (fun _ => ?_)
    refine lv_iconst (v := (-1)) hx hb dX10_feed_10 (by decide) ?_
    exact ret (-1) (v, f) _ _ _ _ _ _ rfl ⟨hIv, rfl, rfl, rfl, rfl, rfl⟩ hP hD hS dX10_feed_11 (Nat.le_refl _) (Nat.le_refl _)
set_option maxHeartbeats 4000000 in
set_option maxRecDepth 100000 in
theorem sX_X10_end_1 (l : Launch) (dC : Nat → ClassId) (dI : Nat → Nat → Nat) (cy : Nat → ClassId) (x0 : Nat) (x : Nat → Nat) (p1 : Int32) (v : Nat → Int32) (f : Nat → Nat → Int32) (hIv : XI v)  : ctI l (dC, dI) cy yX10_end cX10_end 2 .int 1 60 0 0 ((Nat → Int32) × (Nat → Nat → Int32)) [.ref x0, .int p1] (XW cy x0 x v f) (fun r u => XI u.1 ∧ u.1 0 = v 0 ∧ u.1 9 = v 9 ∧ u.1 10 = v 10 ∧ u.1 31 = v 31 ∧ u.1 32 = v 32) (fun u => XW cy x0 x u.1 u.2) := by
  refine ctI_of (by decide) (Nat.le_of_ble_eq_true rfl) (fun p e s m below meth c A ls Q hx hb hml hts hown hE hP hD hA hl ret => ?_)
  have hown : s.vm.findClass RX10 = some m.cls := hown
  have hS : va_S A s.heap s.heap [] := va_S.rf
  have hl : lv_has ls 2 [(0, .ref x0), (1, .int p1)] := hl
  refine lv_iload_n hx hb dX10_end_0 rfl (lv_at hl 1 rfl) ?_
  refine lv_if_lt (tgt := 15) hx hb dX10_end_1 (by decide) (fun c1 => ?_) (fun c1 => ?_)
  · skip
    have zc1 : p1.toInt < 0 := by rw [fa_lt, show (0 : Int32).toInt = 0 from by decide] at c1; exact c1
    refine lv_iconst (v := (-1)) hx hb dX10_end_15 (by decide) ?_
    exact ret (-1) (v, f) _ _ _ _ _ _ rfl ⟨hIv, rfl, rfl, rfl, rfl, rfl⟩ hP hD hS dX10_end_16 (Nat.le_refl _) (Nat.le_refl _)
  · skip
    have zc1 : ¬ (p1.toInt < 0) := by rw [fa_lt, show (0 : Int32).toInt = 0 from by decide] at c1; exact c1
    refine lv_iload_n hx hb dX10_end_4 rfl (lv_at hl 1 rfl) ?_
    refine lv_aload_n hx hb dX10_end_5 rfl (lv_at hl 0 rfl) ?_
    refine va_get (D := (dC, dI)) (ci := 10) (v := .ref (x 0)) (C := RX10) (T := TX10) (N := 10) hx hb hts inB_10 hown hE.1 hP 0 rfl rfl 0 (by decide) (hts _ k_491) (fun _ h9 => h9) rfl dX10_end_6 ?_
    refine va_getN (D := (dC, dI)) (ci := 9) (v := .int (v 1)) (C := RX9) (T := TX9) (N := 6) hx hb hts inB_9 hown hE.1 hP 1 rfl rfl 1 (by decide) (va_Nw.use rfl (hE.2 _ k_138)) (fun _ h9 => h9) rfl dX10_end_9 ?_
    have b1_v : 0 ≤ (v 1).toInt ∧ (v 1).toInt ≤ 1600 := XI.b hIv 1 (by decide)
    refine lv_icmp_le (tgt := 17) hx hb dX10_end_12 (by decide) (fun c2 => ?_) (fun c2 => ?_)
    · skip
      have zc2 : p1.toInt ≤ (v 1).toInt := by rw [fa_le] at c2; exact c2
      have rg3 := fb_rng p1
      have rg4 := fb_rng (v 1)
      refine lv_aload_n hx hb dX10_end_17 rfl (lv_at hl 0 rfl) ?_
      refine va_get (D := (dC, dI)) (ci := 10) (v := .ref (x 0)) (C := RX10) (T := TX10) (N := 10) hx hb hts inB_10 hown hE.1 hP 0 rfl rfl 0 (by decide) (hts _ k_491) (fun _ h9 => h9) rfl dX10_end_18 ?_
      refine lv_iload_n hx hb dX10_end_21 rfl (lv_at hl 1 rfl) ?_
      refine va_putN (D := (dC, dI)) (ci := 9) (v := .int p1) (ty := tyX9 1) (C := RX9) (T := TX9) (N := 6) hx hb hts inB_9 tyX9 tyX9_ok nmX9 hown hE.1 hP hD hS 1 rfl rfl 1 (by decide) (va_Nw.use rfl (hE.2 _ k_138)) (fun _ h9 => h9) rfl (tyX9_ok 1 (by decide)) rfl rfl (Nat.le_of_ble_eq_true rfl) dX10_end_22 (fun H locs hP hD hS => ?_)
      have hP : va_P (dC, dI) vwCl (XW cy x0 x (upd v 1 p1) f) H := hP
      have hD : va_D A (XW cy x0 x (upd v 1 p1) f) := hD
      refine lv_iload_n hx hb dX10_end_25 rfl (lv_at hl 1 rfl) ?_
      exact ret p1 ((upd v 1 p1), f) _ _ _ _ _ _ rfl ⟨(XI.upd (j := 1) (x := p1) hIv (show (0 : Int) ≤ p1.toInt by omega) (show p1.toInt ≤ (1600 : Int) by omega)), rfl, rfl, rfl, rfl, rfl⟩ hP hD hS dX10_end_26 (Nat.le_refl _) (Nat.le_refl _)
    · skip
      have zc2 : ¬ (p1.toInt ≤ (v 1).toInt) := by rw [fa_le] at c2; exact c2
      have rg5 := fb_rng p1
      have rg6 := fb_rng (v 1)
      refine lv_iconst (v := (-1)) hx hb dX10_end_15 (by decide) ?_
      exact ret (-1) (v, f) _ _ _ _ _ _ rfl ⟨hIv, rfl, rfl, rfl, rfl, rfl⟩ hP hD hS dX10_end_16 (Nat.le_refl _) (Nat.le_refl _)
set_option maxHeartbeats 4000000 in
set_option maxRecDepth 100000 in
theorem sX_X4_clear_1 (l : Launch) (dC : Nat → ClassId) (dI : Nat → Nat → Nat) (cy : Nat → ClassId) (x0 : Nat) (x : Nat → Nat)  (v : Nat → Int32) (f : Nat → Nat → Int32) (hIv : XI v)  : ctV l (dC, dI) cy yX4_clear cX4_clear 1 1 60 0 0 ((Nat → Int32) × (Nat → Nat → Int32)) [.ref (x 6)] (XW cy x0 x v f) (fun u => XI u.1 ∧ u.1 0 = v 0 ∧ u.1 1 = v 1 ∧ u.1 9 = v 9 ∧ u.1 10 = v 10 ∧ u.1 31 = v 31 ∧ u.1 32 = v 32) (fun u => XW cy x0 x u.1 u.2) := by
  refine ctV_of (by decide) (Nat.le_of_ble_eq_true rfl) (fun p e s m below meth c A ls Q hx hb hml hts hown hnm hE hP hD hA hl ret => ?_)
  have hown : s.vm.findClass RX4 = some m.cls := hown
  have hS : va_S A s.heap s.heap [] := va_S.rf
  have hl : lv_has ls 1 [(0, .ref (x 6))] := hl
  refine lv_aload_n hx hb dX4_clear_0 rfl (lv_at hl 0 rfl) ?_
  refine lv_iconst (v := 0) hx hb dX4_clear_1 (by decide) ?_
  refine va_put (D := (dC, dI)) (ci := 4) (v := .int 0) (ty := tyX4 4) (C := RX4) (T := TX4) (N := 6) hx hb hts inB_4 tyX4 tyX4_ok nmX4 hown hE.1 hP hD hS 7 rfl rfl 4 (by decide) (hts _ k_182) (fun _ h9 => h9) rfl (tyX4_ok 4 (by decide)) rfl rfl (Nat.le_of_ble_eq_true rfl) dX4_clear_2 (fun H locs hP hD hS => ?_)
  have hP : va_P (dC, dI) vwCl (XW cy x0 x (upd v 16 0) f) H := hP
  have hD : va_D A (XW cy x0 x (upd v 16 0) f) := hD
  refine lv_aload_n hx hb dX4_clear_5 rfl (lv_at hl 0 rfl) ?_
  refine lv_iconst (v := 0) hx hb dX4_clear_6 (by decide) ?_
  refine va_put (D := (dC, dI)) (ci := 4) (v := .int 0) (ty := tyX4 5) (C := RX4) (T := TX4) (N := 6) hx hb hts inB_4 tyX4 tyX4_ok nmX4 hown hE.1 hP hD hS 7 rfl rfl 5 (by decide) (hts _ k_183) (fun _ h9 => h9) rfl (tyX4_ok 5 (by decide)) rfl rfl (Nat.le_of_ble_eq_true rfl) dX4_clear_7 (fun H locs hP hD hS => ?_)
  have hP : va_P (dC, dI) vwCl (XW cy x0 x (upd (upd v 16 0) 17 0) f) H := hP
  have hD : va_D A (XW cy x0 x (upd (upd v 16 0) 17 0) f) := hD
  exact ret ((upd (upd v 16 0) 17 0), f) _ _ _ _ _ _ ⟨(XI.upd (j := 17) (x := 0) (XI.upd (j := 16) (x := 0) hIv (by decide) (by decide)) (rlo _) (rhi _)), rfl, rfl, rfl, rfl, rfl, rfl⟩ hP hD hS dX4_clear_10 (Nat.le_refl _) (Nat.le_refl _)
set_option maxHeartbeats 4000000 in
set_option maxRecDepth 100000 in
theorem sX_X7_setDefaults_1 (l : Launch) (dC : Nat → ClassId) (dI : Nat → Nat → Nat) (cy : Nat → ClassId) (x0 : Nat) (x : Nat → Nat)  (v : Nat → Int32) (f : Nat → Nat → Int32) (hIv : XI v)  : ctV l (dC, dI) cy yX7_setDefaults cX7_setDefaults 1 1 60 0 0 ((Nat → Int32) × (Nat → Nat → Int32)) [.ref (x 3)] (XW cy x0 x v f) (fun u => XI u.1 ∧ u.1 0 = v 0 ∧ u.1 1 = v 1 ∧ u.1 9 = v 9 ∧ u.1 10 = v 10 ∧ u.1 31 = v 31 ∧ u.1 32 = v 32) (fun u => XW cy x0 x u.1 u.2) := by
  refine ctV_of (by decide) (Nat.le_of_ble_eq_true rfl) (fun p e s m below meth c A ls Q hx hb hml hts hown hnm hE hP hD hA hl ret => ?_)
  have hown : s.vm.findClass RX7 = some m.cls := hown
  have hS : va_S A s.heap s.heap [] := va_S.rf
  have hl : lv_has ls 1 [(0, .ref (x 3))] := hl
  refine lv_aload_n hx hb dX7_setDefaults_0 rfl (lv_at hl 0 rfl) ?_
  refine lv_bipush (v := 10) hx hb dX7_setDefaults_1 (by decide) ?_
  refine va_put (D := (dC, dI)) (ci := 7) (v := .int 10) (ty := tyX7 5) (C := RX7) (T := TX7) (N := 10) hx hb hts inB_7 tyX7 tyX7_ok nmX7 hown hE.1 hP hD hS 4 rfl rfl 5 (by decide) (hts _ k_228) (fun _ h9 => h9) rfl (tyX7_ok 5 (by decide)) rfl rfl (Nat.le_of_ble_eq_true rfl) dX7_setDefaults_3 (fun H locs hP hD hS => ?_)
  have hP : va_P (dC, dI) vwCl (XW cy x0 x (upd v 11 10) f) H := hP
  have hD : va_D A (XW cy x0 x (upd v 11 10) f) := hD
  refine lv_aload_n hx hb dX7_setDefaults_6 rfl (lv_at hl 0 rfl) ?_
  refine lv_sipush (v := 150) hx hb dX7_setDefaults_7 (by decide) ?_
  refine va_put (D := (dC, dI)) (ci := 7) (v := .int 150) (ty := tyX7 6) (C := RX7) (T := TX7) (N := 10) hx hb hts inB_7 tyX7 tyX7_ok nmX7 hown hE.1 hP hD hS 4 rfl rfl 6 (by decide) (hts _ k_234) (fun _ h9 => h9) rfl (tyX7_ok 6 (by decide)) rfl rfl (Nat.le_of_ble_eq_true rfl) dX7_setDefaults_10 (fun H locs hP hD hS => ?_)
  have hP : va_P (dC, dI) vwCl (XW cy x0 x (upd (upd v 11 10) 12 150) f) H := hP
  have hD : va_D A (XW cy x0 x (upd (upd v 11 10) 12 150) f) := hD
  refine lv_aload_n hx hb dX7_setDefaults_13 rfl (lv_at hl 0 rfl) ?_
  refine lv_iconst (v := 2) hx hb dX7_setDefaults_14 (by decide) ?_
  refine va_put (D := (dC, dI)) (ci := 7) (v := .int 2) (ty := tyX7 7) (C := RX7) (T := TX7) (N := 10) hx hb hts inB_7 tyX7 tyX7_ok nmX7 hown hE.1 hP hD hS 4 rfl rfl 7 (by decide) (hts _ k_237) (fun _ h9 => h9) rfl (tyX7_ok 7 (by decide)) rfl rfl (Nat.le_of_ble_eq_true rfl) dX7_setDefaults_15 (fun H locs hP hD hS => ?_)
  have hP : va_P (dC, dI) vwCl (XW cy x0 x (upd (upd (upd v 11 10) 12 150) 13 2) f) H := hP
  have hD : va_D A (XW cy x0 x (upd (upd (upd v 11 10) 12 150) 13 2) f) := hD
  refine lv_aload_n hx hb dX7_setDefaults_18 rfl (lv_at hl 0 rfl) ?_
  refine lv_iconst (v := 0) hx hb dX7_setDefaults_19 (by decide) ?_
  refine va_put (D := (dC, dI)) (ci := 7) (v := .int 0) (ty := tyX7 8) (C := RX7) (T := TX7) (N := 10) hx hb hts inB_7 tyX7 tyX7_ok nmX7 hown hE.1 hP hD hS 4 rfl rfl 8 (by decide) (hts _ k_240) (fun _ h9 => h9) rfl (tyX7_ok 8 (by decide)) rfl rfl (Nat.le_of_ble_eq_true rfl) dX7_setDefaults_20 (fun H locs hP hD hS => ?_)
  have hP : va_P (dC, dI) vwCl (XW cy x0 x (upd (upd (upd (upd v 11 10) 12 150) 13 2) 14 0) f) H := hP
  have hD : va_D A (XW cy x0 x (upd (upd (upd (upd v 11 10) 12 150) 13 2) 14 0) f) := hD
  refine lv_aload_n hx hb dX7_setDefaults_23 rfl (lv_at hl 0 rfl) ?_
  refine lv_iconst (v := 0) hx hb dX7_setDefaults_24 (by decide) ?_
  refine va_put (D := (dC, dI)) (ci := 7) (v := .int 0) (ty := tyX7 9) (C := RX7) (T := TX7) (N := 10) hx hb hts inB_7 tyX7 tyX7_ok nmX7 hown hE.1 hP hD hS 4 rfl rfl 9 (by decide) (hts _ k_243) (fun _ h9 => h9) rfl (tyX7_ok 9 (by decide)) rfl rfl (Nat.le_of_ble_eq_true rfl) dX7_setDefaults_25 (fun H locs hP hD hS => ?_)
  have hP : va_P (dC, dI) vwCl (XW cy x0 x (upd (upd (upd (upd (upd v 11 10) 12 150) 13 2) 14 0) 15 0) f) H := hP
  have hD : va_D A (XW cy x0 x (upd (upd (upd (upd (upd v 11 10) 12 150) 13 2) 14 0) 15 0) f) := hD
  exact ret ((upd (upd (upd (upd (upd v 11 10) 12 150) 13 2) 14 0) 15 0), f) _ _ _ _ _ _ ⟨(XI.upd (j := 15) (x := 0) (XI.upd (j := 14) (x := 0) (XI.upd (j := 13) (x := 2) (XI.upd (j := 12) (x := 150) (XI.upd (j := 11) (x := 10) hIv (rlo _) (rhi _)) (rlo _) (rhi _)) (rlo _) (rhi _)) (rlo _) (rhi _)) (rlo _) (rhi _)), rfl, rfl, rfl, rfl, rfl, rfl⟩ hP hD hS dX7_setDefaults_28 (Nat.le_refl _) (Nat.le_refl _)
set_option maxHeartbeats 4000000 in
set_option maxRecDepth 100000 in
theorem sX_X7_clear_1 (l : Launch) (dC : Nat → ClassId) (dI : Nat → Nat → Nat) (cy : Nat → ClassId) (x0 : Nat) (x : Nat → Nat)  (v : Nat → Int32) (f : Nat → Nat → Int32) (hIv : XI v)  : ctV l (dC, dI) cy yX7_clear cX7_clear 1 2 80 0 0 ((Nat → Int32) × (Nat → Nat → Int32)) [.ref (x 3)] (XW cy x0 x v f) (fun u => XI u.1 ∧ u.1 0 = v 0 ∧ u.1 1 = v 1) (fun u => XW cy x0 x u.1 u.2) := by
  refine ctV_of (by decide) (Nat.le_of_ble_eq_true rfl) (fun p e s m below meth c A ls Q hx hb hml hts hown hnm hE hP hD hA hl ret => ?_)
  have hown : s.vm.findClass RX7 = some m.cls := hown
  have hS : va_S A s.heap s.heap [] := va_S.rf
  have hl : lv_has ls 1 [(0, .ref (x 3))] := hl
  refine lv_aload_n hx hb dX7_clear_0 rfl (lv_at hl 0 rfl) ?_
  refine lv_iconst (v := 0) hx hb dX7_clear_1 (by decide) ?_
  refine va_put (D := (dC, dI)) (ci := 7) (v := .int 0) (ty := tyX7 3) (C := RX7) (T := TX7) (N := 10) hx hb hts inB_7 tyX7 tyX7_ok nmX7 hown hE.1 hP hD hS 4 rfl rfl 3 (by decide) (hts _ k_212) (fun _ h9 => h9) rfl (tyX7_ok 3 (by decide)) rfl rfl (Nat.le_of_ble_eq_true rfl) dX7_clear_2 (fun H locs hP hD hS => ?_)
  have hP : va_P (dC, dI) vwCl (XW cy x0 x (upd v 9 0) f) H := hP
  have hD : va_D A (XW cy x0 x (upd v 9 0) f) := hD
  refine lv_aload_n hx hb dX7_clear_5 rfl (lv_at hl 0 rfl) ?_
  refine lv_iconst (v := 0) hx hb dX7_clear_6 (by decide) ?_
  refine va_put (D := (dC, dI)) (ci := 7) (v := .int 0) (ty := tyX7 4) (C := RX7) (T := TX7) (N := 10) hx hb hts inB_7 tyX7 tyX7_ok nmX7 hown hE.1 hP hD hS 4 rfl rfl 4 (by decide) (hts _ k_220) (fun _ h9 => h9) rfl (tyX7_ok 4 (by decide)) rfl rfl (Nat.le_of_ble_eq_true rfl) dX7_clear_7 (fun H locs hP hD hS => ?_)
  have hP : va_P (dC, dI) vwCl (XW cy x0 x (upd (upd v 9 0) 10 0) f) H := hP
  have hD : va_D A (XW cy x0 x (upd (upd v 9 0) 10 0) f) := hD
  refine lv_aload_n hx hb dX7_clear_10 rfl (lv_at hl 0 rfl) ?_
  refine va_get (D := (dC, dI)) (ci := 7) (v := .ref (x 6)) (C := RX7) (T := TX7) (N := 10) hx hb hts inB_7 hown hE.1 hP 4 rfl rfl 2 (by decide) (hts _ k_206) (fun _ h9 => h9) rfl dX7_clear_11 ?_
  refine cbVv (n := 0) (rest := []) hx hb hml hown hts hE hP hD hS hA (sX_X4_clear_1 l dC dI cy x0 x  (upd (upd v 9 0) 10 0) f (XI.upd (j := 10) (x := 0) (XI.upd (j := 9) (x := 0) hIv (by decide) (by decide)) (by decide) (by decide)) ) k_550 k_551 k_552 k_105 k_553 (by decide +kernel) ⟨Nat.le_of_ble_eq_true rfl, Nat.le_of_ble_eq_true rfl⟩ 7 4 rfl rfl (rfl) hl.1 rfl (Nat.le_of_ble_eq_true rfl) dX7_clear_14 (fun u H locs hw hP hD hS => ?_)
  obtain ⟨v1, f2⟩ := u
  obtain ⟨hIv1, hk0_v1, hk1_v1, hk9_v1, hk10_v1, hk31_v1, hk32_v1⟩ := hw
  have hP : va_P (dC, dI) vwCl (XW cy x0 x v1 f2) H := hP
  have hD : va_D A (XW cy x0 x v1 f2) := hD
  have hq0_v1 : v1 0 = (v 0) := hk0_v1
  have hq1_v1 : v1 1 = (v 1) := hk1_v1
  have hq9_v1 : v1 9 = 0 := hk9_v1
  have hq10_v1 : v1 10 = 0 := hk10_v1
  have hq31_v1 : v1 31 = (v 31) := hk31_v1
  have hq32_v1 : v1 32 = (v 32) := hk32_v1
  refine lv_aload_n hx hb dX7_clear_17 rfl (lv_at hl 0 rfl) ?_
  refine cbVv (n := 0) (rest := []) hx hb hml hown hts hE hP hD hS hA (sX_X7_setDefaults_1 l dC dI cy x0 x  v1 f2 hIv1 ) k_200 k_202 k_0 k_104 k_203 (by decide +kernel) ⟨Nat.le_of_ble_eq_true rfl, Nat.le_of_ble_eq_true rfl⟩ 4 7 rfl rfl (rfl) hl.1 rfl (Nat.le_of_ble_eq_true rfl) dX7_clear_18 (fun u H locs hw hP hD hS => ?_)
  obtain ⟨v3, f4⟩ := u
  obtain ⟨hIv3, hk0_v3, hk1_v3, hk9_v3, hk10_v3, hk31_v3, hk32_v3⟩ := hw
  have hP : va_P (dC, dI) vwCl (XW cy x0 x v3 f4) H := hP
  have hD : va_D A (XW cy x0 x v3 f4) := hD
  have hq0_v3 : v3 0 = (v 0) := hk0_v3.trans hq0_v1
  have hq1_v3 : v3 1 = (v 1) := hk1_v3.trans hq1_v1
  have hq9_v3 : v3 9 = 0 := hk9_v3.trans hq9_v1
  have hq10_v3 : v3 10 = 0 := hk10_v3.trans hq10_v1
  have hq31_v3 : v3 31 = (v 31) := hk31_v3.trans hq31_v1
  have hq32_v3 : v3 32 = (v 32) := hk32_v3.trans hq32_v1
  exact ret (v3, f4) _ _ _ _ _ _ ⟨hIv3, (hk0_v3.trans hk0_v1), (hk1_v3.trans hk1_v1)⟩ hP hD hS dX7_clear_21 (Nat.le_refl _) (Nat.le_refl _)
set_option maxHeartbeats 4000000 in
set_option maxRecDepth 100000 in
theorem sX_X10_fault_1 (l : Launch) (dC : Nat → ClassId) (dI : Nat → Nat → Nat) (cy : Nat → ClassId) (x0 : Nat) (x : Nat → Nat) (p1 : Int32) (v : Nat → Int32) (f : Nat → Nat → Int32) (hIv : XI v)  : ctI l (dC, dI) cy yX10_fault cX10_fault 2 .int 1 60 0 0 Unit [.ref x0, .int p1] (XW cy x0 x v f) (fun r u => True) (fun u => XW cy x0 x v f) := by
  refine ctI_of (by decide) (Nat.le_of_ble_eq_true rfl) (fun p e s m below meth c A ls Q hx hb hml hts hown hE hP hD hA hl ret => ?_)
  have hown : s.vm.findClass RX10 = some m.cls := hown
  have hS : va_S A s.heap s.heap [] := va_S.rf
  have hl : lv_has ls 2 [(0, .ref x0), (1, .int p1)] := hl
  refine lv_iload_n hx hb dX10_fault_0 rfl (lv_at hl 1 rfl) ?_
  refine lv_if_ne (tgt := 14) hx hb dX10_fault_1 (by decide) (fun c1 => ?_) (fun c1 => ?_)
  · skip
    have zc1 : ¬ (p1.toInt = 0) := by rw [fa_eq, show (0 : Int32).toInt = 0 from by decide] at c1; exact c1
    refine lv_iload_n hx hb dX10_fault_14 rfl (lv_at hl 1 rfl) ?_
    refine lv_iconst (v := 1) hx hb dX10_fault_15 (by decide) ?_
    refine lv_icmp_ne (tgt := 29) hx hb dX10_fault_16 (by decide) (fun c2 => ?_) (fun c2 => ?_)
    · skip
      have zc2 : ¬ (p1.toInt = 1) := by rw [fa_eq, show (1 : Int32).toInt = 1 from by decide] at c2; exact c2
      refine lv_iconst (v := (-1)) hx hb dX10_fault_29 (by decide) ?_
      exact ret (-1) () _ _ _ _ _ _ rfl trivial hP hD hS dX10_fault_30 (Nat.le_refl _) (Nat.le_refl _)
    · skip
      have zc2 : p1.toInt = 1 := by rw [fa_eq, show (1 : Int32).toInt = 1 from by decide] at c2; exact c2
      refine lv_aload_n hx hb dX10_fault_19 rfl (lv_at hl 0 rfl) ?_
      refine va_get (D := (dC, dI)) (ci := 10) (v := .ref (x 2)) (C := RX10) (T := TX10) (N := 10) hx hb hts inB_10 hown hE.1 hP 0 rfl rfl 1 (by decide) (hts _ k_492) (fun _ h9 => h9) rfl dX10_fault_20 ?_
      refine va_getN (D := (dC, dI)) (ci := 6) (v := .int (v 8)) (C := RX6) (T := TX6) (N := 7) hx hb hts inB_6 hown hE.1 hP 3 rfl rfl 6 (by decide) (va_Nw.use rfl (hE.2 _ k_274)) (fun _ h9 => h9) rfl dX10_fault_23 ?_
      refine lv_goto (tgt := 30) hx hb dX10_fault_26 (by decide) ?_
      exact ret (v 8) () _ _ _ _ _ _ rfl trivial hP hD hS dX10_fault_30 (Nat.le_refl _) (Nat.le_refl _)
  · skip
    have zc1 : p1.toInt = 0 := by rw [fa_eq, show (0 : Int32).toInt = 0 from by decide] at c1; exact c1
    refine lv_aload_n hx hb dX10_fault_4 rfl (lv_at hl 0 rfl) ?_
    refine va_get (D := (dC, dI)) (ci := 10) (v := .ref (x 2)) (C := RX10) (T := TX10) (N := 10) hx hb hts inB_10 hown hE.1 hP 0 rfl rfl 1 (by decide) (hts _ k_492) (fun _ h9 => h9) rfl dX10_fault_5 ?_
    refine va_getN (D := (dC, dI)) (ci := 6) (v := .int (v 7)) (C := RX6) (T := TX6) (N := 7) hx hb hts inB_6 hown hE.1 hP 3 rfl rfl 5 (by decide) (va_Nw.use rfl (hE.2 _ k_272)) (fun _ h9 => h9) rfl dX10_fault_8 ?_
    refine lv_goto (tgt := 30) hx hb dX10_fault_11 (by decide) ?_
    exact ret (v 7) () _ _ _ _ _ _ rfl trivial hP hD hS dX10_fault_30 (Nat.le_refl _) (Nat.le_refl _)
set_option maxHeartbeats 4000000 in
set_option maxRecDepth 100000 in
theorem sX_X7_hasMan_1 (l : Launch) (dC : Nat → ClassId) (dI : Nat → Nat → Nat) (cy : Nat → ClassId) (x0 : Nat) (x : Nat → Nat) (p1 : Int32) (v : Nat → Int32) (f : Nat → Nat → Int32) (hIv : XI v)  : ctI l (dC, dI) cy yX7_hasMan cX7_hasMan 2 .boolean 1 60 0 0 Unit [.ref (x 26), .int p1] (XW cy x0 x v f) (fun r u => ((r = 1 ∧ 0 ≤ p1.toInt ∧ p1.toInt < (v 31).toInt ∧ p1.toInt ≤ 5) ∨ (r = 0))) (fun u => XW cy x0 x v f) := by
  refine ctI_of (by decide) (Nat.le_of_ble_eq_true rfl) (fun p e s m below meth c A ls Q hx hb hml hts hown hE hP hD hA hl ret => ?_)
  have hown : s.vm.findClass RX7 = some m.cls := hown
  have hS : va_S A s.heap s.heap [] := va_S.rf
  have hl : lv_has ls 2 [(0, .ref (x 26)), (1, .int p1)] := hl
  refine lv_iload_n hx hb dX7_hasMan_0 rfl (lv_at hl 1 rfl) ?_
  refine lv_if_lt (tgt := 16) hx hb dX7_hasMan_1 (by decide) (fun c1 => ?_) (fun c1 => ?_)
  · skip
    have zc1 : p1.toInt < 0 := by rw [fa_lt, show (0 : Int32).toInt = 0 from by decide] at c1; exact c1
    refine lv_iconst (v := 0) hx hb dX7_hasMan_16 (by decide) ?_
    exact ret 0 () _ _ _ _ _ _ rfl (Or.inr rfl) hP hD hS dX7_hasMan_17 (Nat.le_refl _) (Nat.le_refl _)
  · skip
    have zc1 : ¬ (p1.toInt < 0) := by rw [fa_lt, show (0 : Int32).toInt = 0 from by decide] at c1; exact c1
    refine lv_iload_n hx hb dX7_hasMan_4 rfl (lv_at hl 1 rfl) ?_
    refine lv_aload_n hx hb dX7_hasMan_5 rfl (lv_at hl 0 rfl) ?_
    refine va_get (D := (dC, dI)) (ci := 7) (v := .int (v 31)) (C := RX7) (T := TX7) (N := 10) hx hb hts inB_7 hown hE.1 hP 27 rfl rfl 3 (by decide) (hts _ k_212) (fun _ h9 => h9) rfl dX7_hasMan_6 ?_
    have b31_v : 0 ≤ (v 31).toInt ∧ (v 31).toInt ≤ 6 := XI.b hIv 31 (by decide)
    refine lv_icmp_ge (tgt := 16) hx hb dX7_hasMan_9 (by decide) (fun c2 => ?_) (fun c2 => ?_)
    · skip
      have zc2 : (v 31).toInt ≤ p1.toInt := by rw [fa_le] at c2; exact c2
      have rg3 := fb_rng p1
      have rg4 := fb_rng (v 31)
      refine lv_iconst (v := 0) hx hb dX7_hasMan_16 (by decide) ?_
      exact ret 0 () _ _ _ _ _ _ rfl (Or.inr rfl) hP hD hS dX7_hasMan_17 (Nat.le_refl _) (Nat.le_refl _)
    · skip
      have zc2 : ¬ ((v 31).toInt ≤ p1.toInt) := by rw [fa_le] at c2; exact c2
      have rg5 := fb_rng p1
      have rg6 := fb_rng (v 31)
      refine lv_iconst (v := 1) hx hb dX7_hasMan_12 (by decide) ?_
      refine lv_goto (tgt := 17) hx hb dX7_hasMan_13 (by decide) ?_
      exact ret 1 () _ _ _ _ _ _ rfl (Or.inl ⟨rfl, by omega, by omega, by omega⟩) hP hD hS dX7_hasMan_17 (Nat.le_refl _) (Nat.le_refl _)
set_option maxHeartbeats 4000000 in
set_option maxRecDepth 100000 in
theorem sX_X7_manPart_1 (l : Launch) (dC : Nat → ClassId) (dI : Nat → Nat → Nat) (cy : Nat → ClassId) (x0 : Nat) (x : Nat → Nat) (p1 : Int32) (p2 : Int32) (v : Nat → Int32) (f : Nat → Nat → Int32) (hIv : XI v)  : ctI l (dC, dI) cy yX7_manPart cX7_manPart 3 .int 2 81 0 0 Unit [.ref (x 26), .int p1, .int p2] (XW cy x0 x v f) (fun r u => True) (fun u => XW cy x0 x v f) := by
  refine ctI_of (by decide) (Nat.le_of_ble_eq_true rfl) (fun p e s m below meth c A ls Q hx hb hml hts hown hE hP hD hA hl ret => ?_)
  have hown : s.vm.findClass RX7 = some m.cls := hown
  have hS : va_S A s.heap s.heap [] := va_S.rf
  have hl : lv_has ls 3 [(0, .ref (x 26)), (1, .int p1), (2, .int p2)] := hl
  refine lv_aload_n hx hb dX7_manPart_0 rfl (lv_at hl 0 rfl) ?_
  refine lv_iload_n hx hb dX7_manPart_1 rfl (lv_at hl 2 rfl) ?_
  refine cbVi (n := 1) (rest := []) hx hb hml hown hts hE hP hD hS hA (sX_X7_hasMan_1 l dC dI cy x0 x p2 v f hIv ) k_306 k_307 k_308 k_104 k_309 (by decide +kernel) ⟨Nat.le_of_ble_eq_true rfl, Nat.le_of_ble_eq_true rfl⟩ 27 7 rfl rfl (rfl) hl.1 rfl (Nat.le_of_ble_eq_true rfl) dX7_manPart_2 (fun r1 u H locs hw hP hD hS => ?_)
  rcases hw with ⟨g2, g2_0, g2_1, g2_2⟩ | ⟨g2⟩
  · skip
    subst g2
    refine lv_if_eq (tgt := 31) hx hb dX7_manPart_5 (by decide) (fun c0 => absurd c0 (by decide)) (fun _ => ?_)
    refine lv_iload_n hx hb dX7_manPart_8 rfl (lv_at hl 1 rfl) ?_
    refine lv_if_lt (tgt := 31) hx hb dX7_manPart_9 (by decide) (fun c3 => ?_) (fun c3 => ?_)
    · skip
      have zc3 : p1.toInt < 0 := by rw [fa_lt, show (0 : Int32).toInt = 0 from by decide] at c3; exact c3
      refine lv_iconst (v := 0) hx hb dX7_manPart_31 (by decide) ?_
      exact ret 0 () _ _ _ _ _ _ rfl trivial hP hD hS dX7_manPart_32 (Nat.le_refl _) (Nat.le_refl _)
    · skip
      have zc3 : ¬ (p1.toInt < 0) := by rw [fa_lt, show (0 : Int32).toInt = 0 from by decide] at c3; exact c3
      refine lv_iload_n hx hb dX7_manPart_12 rfl (lv_at hl 1 rfl) ?_
      refine lv_iconst (v := 3) hx hb dX7_manPart_13 (by decide) ?_
      refine lv_icmp_ge (tgt := 31) hx hb dX7_manPart_14 (by decide) (fun c4 => ?_) (fun c4 => ?_)
      · skip
        have zc4 : 3 ≤ p1.toInt := by rw [fa_le, show (3 : Int32).toInt = 3 from by decide] at c4; exact c4
        refine lv_iconst (v := 0) hx hb dX7_manPart_31 (by decide) ?_
        exact ret 0 () _ _ _ _ _ _ rfl trivial hP hD hS dX7_manPart_32 (Nat.le_refl _) (Nat.le_refl _)
      · skip
        have zc4 : ¬ (3 ≤ p1.toInt) := by rw [fa_le, show (3 : Int32).toInt = 3 from by decide] at c4; exact c4
        refine lv_aload_n hx hb dX7_manPart_17 rfl (lv_at hl 0 rfl) ?_
        refine va_get (D := (dC, dI)) (ci := 7) (v := .ref (x 13)) (C := RX7) (T := TX7) (N := 10) hx hb hts inB_7 hown hE.1 hP 27 rfl rfl 0 (by decide) (hts _ k_204) (fun _ h9 => h9) rfl dX7_manPart_18 ?_
        refine lv_iload_n hx hb dX7_manPart_21 rfl (lv_at hl 1 rfl) ?_
        refine lv_bipush (v := 6) hx hb dX7_manPart_22 (by decide) ?_
        refine lv_imul hx hb dX7_manPart_24 ?_
        refine lv_topi (fun t5 et5 => ?_)
        have rg6 := fb_rng p1
        have zt5 : t5.toInt = p1.toInt * 6 := by rw [et5]; exact mul_i rfl (by decide) (by omega) (by omega)
        refine lv_iload_n hx hb dX7_manPart_25 rfl (lv_at hl 2 rfl) ?_
        refine lv_iadd hx hb dX7_manPart_26 ?_
        refine lv_topi (fun t7 et7 => ?_)
        have rg8 := fb_rng t5
        have rg9 := fb_rng p2
        have zt7 : t7.toInt = t5.toInt + p2.toInt := by rw [et7]; exact add_i rfl rfl (by omega) (by omega)
        refine ldI hx hb hE hP 14 rfl (vp_in_iff.mpr ⟨by omega, by omega⟩) rfl rfl dX7_manPart_27 ?_
        refine lv_topi (fun t10 et10 => ?_)
        refine lv_goto (tgt := 32) hx hb dX7_manPart_28 (by decide) ?_
        exact ret t10 () _ _ _ _ _ _ rfl trivial hP hD hS dX7_manPart_32 (Nat.le_refl _) (Nat.le_refl _)
  · skip
    subst g2
    refine lv_if_eq (tgt := 31) hx hb dX7_manPart_5 (by decide) (fun _ => ?_) (fun c0 => absurd (by decide) c0)
    refine lv_iconst (v := 0) hx hb dX7_manPart_31 (by decide) ?_
    exact ret 0 () _ _ _ _ _ _ rfl trivial hP hD hS dX7_manPart_32 (Nat.le_refl _) (Nat.le_refl _)
set_option maxHeartbeats 4000000 in
set_option maxRecDepth 100000 in
theorem sX_X1_manWide_1 (l : Launch) (dC : Nat → ClassId) (dI : Nat → Nat → Nat) (cy : Nat → ClassId) (x0 : Nat) (x : Nat → Nat) (p1 : Int32) (v : Nat → Int32) (f : Nat → Nat → Int32) (hIv : XI v)  : ctI l (dC, dI) cy yX1_manWide cX1_manWide 2 .int 2 81 0 0 Unit [.ref (x 21), .int p1] (XW cy x0 x v f) (fun r u => True) (fun u => XW cy x0 x v f) := by
  refine ctI_of (by decide) (Nat.le_of_ble_eq_true rfl) (fun p e s m below meth c A ls Q hx hb hml hts hown hE hP hD hA hl ret => ?_)
  have hown : s.vm.findClass RX1 = some m.cls := hown
  have hS : va_S A s.heap s.heap [] := va_S.rf
  have hl : lv_has ls 2 [(0, .ref (x 21)), (1, .int p1)] := hl
  refine lv_aload_n hx hb dX1_manWide_0 rfl (lv_at hl 0 rfl) ?_
  refine va_get (D := (dC, dI)) (ci := 1) (v := .ref (x 26)) (C := RX1) (T := TX1) (N := 2) hx hb hts inB_1 hown hE.1 hP 22 rfl rfl 0 (by decide) (hts _ k_318) (fun _ h9 => h9) rfl dX1_manWide_1 ?_
  refine lv_iload_n hx hb dX1_manWide_4 rfl (lv_at hl 1 rfl) ?_
  refine cbVi (n := 1) (rest := []) hx hb hml hown hts hE hP hD hS hA (sX_X7_hasMan_1 l dC dI cy x0 x p1 v f hIv ) k_808 k_307 k_308 k_104 k_309 (by decide +kernel) ⟨Nat.le_of_ble_eq_true rfl, Nat.le_of_ble_eq_true rfl⟩ 27 7 rfl rfl (rfl) hl.1 rfl (Nat.le_of_ble_eq_true rfl) dX1_manWide_5 (fun r1 u H locs hw hP hD hS => ?_)
  rcases hw with ⟨g2, g2_0, g2_1, g2_2⟩ | ⟨g2⟩
  · skip
    subst g2
    refine lv_if_eq (tgt := 20) hx hb dX1_manWide_8 (by decide) (fun c0 => absurd c0 (by decide)) (fun _ => ?_)
    refine lv_aload_n hx hb dX1_manWide_11 rfl (lv_at hl 0 rfl) ?_
    refine va_get (D := (dC, dI)) (ci := 1) (v := .ref (x 22)) (C := RX1) (T := TX1) (N := 2) hx hb hts inB_1 hown hE.1 hP 22 rfl rfl 1 (by decide) (hts _ k_319) (fun _ h9 => h9) rfl dX1_manWide_12 ?_
    refine lv_iload_n hx hb dX1_manWide_15 rfl (lv_at hl 1 rfl) ?_
    refine ldI hx hb hE hP 23 rfl (vp_in_iff.mpr ⟨by omega, by omega⟩) rfl rfl dX1_manWide_16 ?_
    refine lv_topi (fun t3 et3 => ?_)
    refine lv_goto (tgt := 21) hx hb dX1_manWide_17 (by decide) ?_
    exact ret t3 () _ _ _ _ _ _ rfl trivial hP hD hS dX1_manWide_21 (Nat.le_refl _) (Nat.le_refl _)
  · skip
    subst g2
    refine lv_if_eq (tgt := 20) hx hb dX1_manWide_8 (by decide) (fun _ => ?_) (fun c0 => absurd (by decide) c0)
    refine lv_iconst (v := 0) hx hb dX1_manWide_20 (by decide) ?_
    exact ret 0 () _ _ _ _ _ _ rfl trivial hP hD hS dX1_manWide_21 (Nat.le_refl _) (Nat.le_refl _)
set_option maxHeartbeats 4000000 in
set_option maxRecDepth 100000 in
theorem sX_X1_wears_1 (l : Launch) (dC : Nat → ClassId) (dI : Nat → Nat → Nat) (cy : Nat → ClassId) (x0 : Nat) (x : Nat → Nat) (p1 : Int32) (v : Nat → Int32) (f : Nat → Nat → Int32) (hIv : XI v)  : ctI l (dC, dI) cy yX1_wears cX1_wears 2 .int 2 81 0 0 Unit [.ref (x 21), .int p1] (XW cy x0 x v f) (fun r u => True) (fun u => XW cy x0 x v f) := by
  refine ctI_of (by decide) (Nat.le_of_ble_eq_true rfl) (fun p e s m below meth c A ls Q hx hb hml hts hown hE hP hD hA hl ret => ?_)
  have hown : s.vm.findClass RX1 = some m.cls := hown
  have hS : va_S A s.heap s.heap [] := va_S.rf
  have hl : lv_has ls 2 [(0, .ref (x 21)), (1, .int p1)] := hl
  refine lv_aload_n hx hb dX1_wears_0 rfl (lv_at hl 0 rfl) ?_
  refine va_get (D := (dC, dI)) (ci := 1) (v := .ref (x 26)) (C := RX1) (T := TX1) (N := 2) hx hb hts inB_1 hown hE.1 hP 22 rfl rfl 0 (by decide) (hts _ k_318) (fun _ h9 => h9) rfl dX1_wears_1 ?_
  refine lv_iload_n hx hb dX1_wears_4 rfl (lv_at hl 1 rfl) ?_
  refine cbVi (n := 1) (rest := []) hx hb hml hown hts hE hP hD hS hA (sX_X7_hasMan_1 l dC dI cy x0 x p1 v f hIv ) k_808 k_307 k_308 k_104 k_309 (by decide +kernel) ⟨Nat.le_of_ble_eq_true rfl, Nat.le_of_ble_eq_true rfl⟩ 27 7 rfl rfl (rfl) hl.1 rfl (Nat.le_of_ble_eq_true rfl) dX1_wears_5 (fun r1 u H locs hw hP hD hS => ?_)
  rcases hw with ⟨g2, g2_0, g2_1, g2_2⟩ | ⟨g2⟩
  · skip
    subst g2
    refine lv_if_eq (tgt := 23) hx hb dX1_wears_8 (by decide) (fun c0 => absurd c0 (by decide)) (fun _ => ?_)
    refine lv_aload_n hx hb dX1_wears_11 rfl (lv_at hl 0 rfl) ?_
    refine va_get (D := (dC, dI)) (ci := 1) (v := .ref (x 22)) (C := RX1) (T := TX1) (N := 2) hx hb hts inB_1 hown hE.1 hP 22 rfl rfl 1 (by decide) (hts _ k_319) (fun _ h9 => h9) rfl dX1_wears_12 ?_
    refine lv_bipush (v := 6) hx hb dX1_wears_15 (by decide) ?_
    refine lv_iload_n hx hb dX1_wears_17 rfl (lv_at hl 1 rfl) ?_
    refine lv_iadd hx hb dX1_wears_18 ?_
    refine lv_topi (fun t3 et3 => ?_)
    have rg4 := fb_rng p1
    have zt3 : t3.toInt = 6 + p1.toInt := by rw [et3]; exact add_i (by decide) rfl (by omega) (by omega)
    refine ldI hx hb hE hP 23 rfl (vp_in_iff.mpr ⟨by omega, by omega⟩) rfl rfl dX1_wears_19 ?_
    refine lv_topi (fun t5 et5 => ?_)
    refine lv_goto (tgt := 24) hx hb dX1_wears_20 (by decide) ?_
    exact ret t5 () _ _ _ _ _ _ rfl trivial hP hD hS dX1_wears_24 (Nat.le_refl _) (Nat.le_refl _)
  · skip
    subst g2
    refine lv_if_eq (tgt := 23) hx hb dX1_wears_8 (by decide) (fun _ => ?_) (fun c0 => absurd (by decide) c0)
    refine lv_iconst (v := (-1)) hx hb dX1_wears_23 (by decide) ?_
    exact ret (-1) () _ _ _ _ _ _ rfl trivial hP hD hS dX1_wears_24 (Nat.le_refl _) (Nat.le_refl _)
set_option maxHeartbeats 4000000 in
set_option maxRecDepth 100000 in
theorem sX_X7_hasCoat_1 (l : Launch) (dC : Nat → ClassId) (dI : Nat → Nat → Nat) (cy : Nat → ClassId) (x0 : Nat) (x : Nat → Nat) (p1 : Int32) (v : Nat → Int32) (f : Nat → Nat → Int32) (hIv : XI v)  : ctI l (dC, dI) cy yX7_hasCoat cX7_hasCoat 2 .boolean 1 60 0 0 Unit [.ref (x 26), .int p1] (XW cy x0 x v f) (fun r u => ((r = 1 ∧ 0 ≤ p1.toInt ∧ p1.toInt < (v 32).toInt ∧ p1.toInt ≤ 5) ∨ (r = 0))) (fun u => XW cy x0 x v f) := by
  refine ctI_of (by decide) (Nat.le_of_ble_eq_true rfl) (fun p e s m below meth c A ls Q hx hb hml hts hown hE hP hD hA hl ret => ?_)
  have hown : s.vm.findClass RX7 = some m.cls := hown
  have hS : va_S A s.heap s.heap [] := va_S.rf
  have hl : lv_has ls 2 [(0, .ref (x 26)), (1, .int p1)] := hl
  refine lv_iload_n hx hb dX7_hasCoat_0 rfl (lv_at hl 1 rfl) ?_
  refine lv_if_lt (tgt := 16) hx hb dX7_hasCoat_1 (by decide) (fun c1 => ?_) (fun c1 => ?_)
  · skip
    have zc1 : p1.toInt < 0 := by rw [fa_lt, show (0 : Int32).toInt = 0 from by decide] at c1; exact c1
    refine lv_iconst (v := 0) hx hb dX7_hasCoat_16 (by decide) ?_
    exact ret 0 () _ _ _ _ _ _ rfl (Or.inr rfl) hP hD hS dX7_hasCoat_17 (Nat.le_refl _) (Nat.le_refl _)
  · skip
    have zc1 : ¬ (p1.toInt < 0) := by rw [fa_lt, show (0 : Int32).toInt = 0 from by decide] at c1; exact c1
    refine lv_iload_n hx hb dX7_hasCoat_4 rfl (lv_at hl 1 rfl) ?_
    refine lv_aload_n hx hb dX7_hasCoat_5 rfl (lv_at hl 0 rfl) ?_
    refine va_get (D := (dC, dI)) (ci := 7) (v := .int (v 32)) (C := RX7) (T := TX7) (N := 10) hx hb hts inB_7 hown hE.1 hP 27 rfl rfl 4 (by decide) (hts _ k_220) (fun _ h9 => h9) rfl dX7_hasCoat_6 ?_
    have b32_v : 0 ≤ (v 32).toInt ∧ (v 32).toInt ≤ 6 := XI.b hIv 32 (by decide)
    refine lv_icmp_ge (tgt := 16) hx hb dX7_hasCoat_9 (by decide) (fun c2 => ?_) (fun c2 => ?_)
    · skip
      have zc2 : (v 32).toInt ≤ p1.toInt := by rw [fa_le] at c2; exact c2
      have rg3 := fb_rng p1
      have rg4 := fb_rng (v 32)
      refine lv_iconst (v := 0) hx hb dX7_hasCoat_16 (by decide) ?_
      exact ret 0 () _ _ _ _ _ _ rfl (Or.inr rfl) hP hD hS dX7_hasCoat_17 (Nat.le_refl _) (Nat.le_refl _)
    · skip
      have zc2 : ¬ ((v 32).toInt ≤ p1.toInt) := by rw [fa_le] at c2; exact c2
      have rg5 := fb_rng p1
      have rg6 := fb_rng (v 32)
      refine lv_iconst (v := 1) hx hb dX7_hasCoat_12 (by decide) ?_
      refine lv_goto (tgt := 17) hx hb dX7_hasCoat_13 (by decide) ?_
      exact ret 1 () _ _ _ _ _ _ rfl (Or.inl ⟨rfl, by omega, by omega, by omega⟩) hP hD hS dX7_hasCoat_17 (Nat.le_refl _) (Nat.le_refl _)
set_option maxHeartbeats 4000000 in
set_option maxRecDepth 100000 in
theorem sX_X1_part_1 (l : Launch) (dC : Nat → ClassId) (dI : Nat → Nat → Nat) (cy : Nat → ClassId) (x0 : Nat) (x : Nat → Nat) (p1 : Int32) (p2 : Int32) (v : Nat → Int32) (f : Nat → Nat → Int32) (hIv : XI v)  : ctI l (dC, dI) cy yX1_part cX1_part 4 .int 2 81 0 0 Unit [.ref (x 21), .int p1, .int p2] (XW cy x0 x v f) (fun r u => True) (fun u => XW cy x0 x v f) := by
  refine ctI_of (by decide) (Nat.le_of_ble_eq_true rfl) (fun p e s m below meth c A ls Q hx hb hml hts hown hE hP hD hA hl ret => ?_)
  have hown : s.vm.findClass RX1 = some m.cls := hown
  have hS : va_S A s.heap s.heap [] := va_S.rf
  have hl : lv_has ls 4 [(0, .ref (x 21)), (1, .int p1), (2, .int p2)] := hl
  refine lv_aload_n hx hb dX1_part_0 rfl (lv_at hl 0 rfl) ?_
  refine va_get (D := (dC, dI)) (ci := 1) (v := .ref (x 26)) (C := RX1) (T := TX1) (N := 2) hx hb hts inB_1 hown hE.1 hP 22 rfl rfl 0 (by decide) (hts _ k_318) (fun _ h9 => h9) rfl dX1_part_1 ?_
  refine lv_iload_n hx hb dX1_part_4 rfl (lv_at hl 2 rfl) ?_
  refine cbVi (n := 1) (rest := []) hx hb hml hown hts hE hP hD hS hA (sX_X7_hasCoat_1 l dC dI cy x0 x p2 v f hIv ) k_821 k_315 k_316 k_104 k_317 (by decide +kernel) ⟨Nat.le_of_ble_eq_true rfl, Nat.le_of_ble_eq_true rfl⟩ 27 7 rfl rfl (rfl) hl.1 rfl (Nat.le_of_ble_eq_true rfl) dX1_part_5 (fun r1 u H locs hw hP hD hS => ?_)
  rcases hw with ⟨g2, g2_0, g2_1, g2_2⟩ | ⟨g2⟩
  · skip
    subst g2
    refine lv_if_eq (tgt := 24) hx hb dX1_part_8 (by decide) (fun c0 => absurd c0 (by decide)) (fun _ => ?_)
    refine lv_iload_n hx hb dX1_part_11 rfl (lv_at hl 1 rfl) ?_
    refine lv_if_lt (tgt := 24) hx hb dX1_part_12 (by decide) (fun c3 => ?_) (fun c3 => ?_)
    · skip
      have zc3 : p1.toInt < 0 := by rw [fa_lt, show (0 : Int32).toInt = 0 from by decide] at c3; exact c3
      refine lv_iconst (v := 0) hx hb dX1_part_24 (by decide) ?_
      refine lv_istore_n (lv' := [(3, .int 0), (0, .ref (x 21)), (1, .int p1), (2, .int p2)]) hx hb dX1_part_25 rfl hl (by decide) rfl (fun ls hl => ?_)
      refine lv_iload_n hx hb dX1_part_26 rfl (lv_at hl 0 rfl) ?_
      refine lv_if_eq (tgt := 47) hx hb dX1_part_27 (by decide) (fun _ => ?_) (fun c0 => absurd (by decide) c0)
      refine lv_iconst (v := 0) hx hb dX1_part_47 (by decide) ?_
      exact ret 0 () _ _ _ _ _ _ rfl trivial hP hD hS dX1_part_48 (Nat.le_refl _) (Nat.le_refl _)
    · skip
      have zc3 : ¬ (p1.toInt < 0) := by rw [fa_lt, show (0 : Int32).toInt = 0 from by decide] at c3; exact c3
      refine lv_iload_n hx hb dX1_part_15 rfl (lv_at hl 1 rfl) ?_
      refine lv_iconst (v := 5) hx hb dX1_part_16 (by decide) ?_
      refine lv_icmp_ge (tgt := 24) hx hb dX1_part_17 (by decide) (fun c4 => ?_) (fun c4 => ?_)
      · skip
        have zc4 : 5 ≤ p1.toInt := by rw [fa_le, show (5 : Int32).toInt = 5 from by decide] at c4; exact c4
        refine lv_iconst (v := 0) hx hb dX1_part_24 (by decide) ?_
        refine lv_istore_n (lv' := [(3, .int 0), (0, .ref (x 21)), (1, .int p1), (2, .int p2)]) hx hb dX1_part_25 rfl hl (by decide) rfl (fun ls hl => ?_)
        refine lv_iload_n hx hb dX1_part_26 rfl (lv_at hl 0 rfl) ?_
        refine lv_if_eq (tgt := 47) hx hb dX1_part_27 (by decide) (fun _ => ?_) (fun c0 => absurd (by decide) c0)
        refine lv_iconst (v := 0) hx hb dX1_part_47 (by decide) ?_
        exact ret 0 () _ _ _ _ _ _ rfl trivial hP hD hS dX1_part_48 (Nat.le_refl _) (Nat.le_refl _)
      · skip
        have zc4 : ¬ (5 ≤ p1.toInt) := by rw [fa_le, show (5 : Int32).toInt = 5 from by decide] at c4; exact c4
        refine lv_iconst (v := 1) hx hb dX1_part_20 (by decide) ?_
        refine lv_goto (tgt := 25) hx hb dX1_part_21 (by decide) ?_
        refine lv_istore_n (lv' := [(3, .int 1), (0, .ref (x 21)), (1, .int p1), (2, .int p2)]) hx hb dX1_part_25 rfl hl (by decide) rfl (fun ls hl => ?_)
        refine lv_iload_n hx hb dX1_part_26 rfl (lv_at hl 0 rfl) ?_
        refine lv_if_eq (tgt := 47) hx hb dX1_part_27 (by decide) (fun c0 => absurd c0 (by decide)) (fun _ => ?_)
        refine lv_aload_n hx hb dX1_part_30 rfl (lv_at hl 1 rfl) ?_
        refine va_get (D := (dC, dI)) (ci := 1) (v := .ref (x 22)) (C := RX1) (T := TX1) (N := 2) hx hb hts inB_1 hown hE.1 hP 22 rfl rfl 1 (by decide) (hts _ k_319) (fun _ h9 => h9) rfl dX1_part_31 ?_
        refine lv_bipush (v := 12) hx hb dX1_part_34 (by decide) ?_
        refine lv_iload_n hx hb dX1_part_36 rfl (lv_at hl 2 rfl) ?_
        refine lv_bipush (v := 6) hx hb dX1_part_37 (by decide) ?_
        refine lv_imul hx hb dX1_part_39 ?_
        refine lv_topi (fun t5 et5 => ?_)
        have rg6 := fb_rng p1
        have zt5 : t5.toInt = p1.toInt * 6 := by rw [et5]; exact mul_i rfl (by decide) (by omega) (by omega)
        refine lv_iadd hx hb dX1_part_40 ?_
        refine lv_topi (fun t7 et7 => ?_)
        have rg8 := fb_rng t5
        have zt7 : t7.toInt = 12 + t5.toInt := by rw [et7]; exact add_i (by decide) rfl (by omega) (by omega)
        refine lv_iload_n hx hb dX1_part_41 rfl (lv_at hl 3 rfl) ?_
        refine lv_iadd hx hb dX1_part_42 ?_
        refine lv_topi (fun t9 et9 => ?_)
        have rg10 := fb_rng t7
        have rg11 := fb_rng p2
        have zt9 : t9.toInt = t7.toInt + p2.toInt := by rw [et9]; exact add_i rfl rfl (by omega) (by omega)
        refine ldI hx hb hE hP 23 rfl (vp_in_iff.mpr ⟨by omega, by omega⟩) rfl rfl dX1_part_43 ?_
        refine lv_topi (fun t12 et12 => ?_)
        refine lv_goto (tgt := 48) hx hb dX1_part_44 (by decide) ?_
        exact ret t12 () _ _ _ _ _ _ rfl trivial hP hD hS dX1_part_48 (Nat.le_refl _) (Nat.le_refl _)
  · skip
    subst g2
    refine lv_if_eq (tgt := 24) hx hb dX1_part_8 (by decide) (fun _ => ?_) (fun c0 => absurd (by decide) c0)
    refine lv_iconst (v := 0) hx hb dX1_part_24 (by decide) ?_
    refine lv_istore_n (lv' := [(3, .int 0), (0, .ref (x 21)), (1, .int p1), (2, .int p2)]) hx hb dX1_part_25 rfl hl (by decide) rfl (fun ls hl => ?_)
    refine lv_iload_n hx hb dX1_part_26 rfl (lv_at hl 0 rfl) ?_
    refine lv_if_eq (tgt := 47) hx hb dX1_part_27 (by decide) (fun _ => ?_) (fun c0 => absurd (by decide) c0)
    refine lv_iconst (v := 0) hx hb dX1_part_47 (by decide) ?_
    exact ret 0 () _ _ _ _ _ _ rfl trivial hP hD hS dX1_part_48 (Nat.le_refl _) (Nat.le_refl _)
set_option maxHeartbeats 4000000 in
set_option maxRecDepth 100000 in
theorem sX_X1_today_1 (l : Launch) (dC : Nat → ClassId) (dI : Nat → Nat → Nat) (cy : Nat → ClassId) (x0 : Nat) (x : Nat → Nat)  (v : Nat → Int32) (f : Nat → Nat → Int32) (hIv : XI v)  : ctI l (dC, dI) cy yX1_today cX1_today 1 .int 1 60 0 0 Unit [.ref (x 21)] (XW cy x0 x v f) (fun r u => True) (fun u => XW cy x0 x v f) := by
  refine ctI_of (by decide) (Nat.le_of_ble_eq_true rfl) (fun p e s m below meth c A ls Q hx hb hml hts hown hE hP hD hA hl ret => ?_)
  have hown : s.vm.findClass RX1 = some m.cls := hown
  have hS : va_S A s.heap s.heap [] := va_S.rf
  have hl : lv_has ls 1 [(0, .ref (x 21))] := hl
  refine lv_aload_n hx hb dX1_today_0 rfl (lv_at hl 0 rfl) ?_
  refine va_get (D := (dC, dI)) (ci := 1) (v := .ref (x 22)) (C := RX1) (T := TX1) (N := 2) hx hb hts inB_1 hown hE.1 hP 22 rfl rfl 1 (by decide) (hts _ k_319) (fun _ h9 => h9) rfl dX1_today_1 ?_
  refine lv_bipush (v := 42) hx hb dX1_today_4 (by decide) ?_
  refine ldI hx hb hE hP 23 rfl (vp_in_nI (n := 42) (by decide) (by decide)) rfl rfl dX1_today_6 ?_
  refine lv_topi (fun t1 et1 => ?_)
  exact ret t1 () _ _ _ _ _ _ rfl trivial hP hD hS dX1_today_7 (Nat.le_refl _) (Nat.le_refl _)
set_option maxHeartbeats 4000000 in
set_option maxRecDepth 100000 in
theorem sX_X4_joined_1 (l : Launch) (dC : Nat → ClassId) (dI : Nat → Nat → Nat) (cy : Nat → ClassId) (x0 : Nat) (x : Nat → Nat) (p0 : Int32) (p1 : Int32) (p2 : Int32) (v : Nat → Int32) (f : Nat → Nat → Int32) (hIv : XI v)  : ctI l (dC, dI) cy yX4_joined cX4_joined 3 .int 1 60 0 0 Unit [.int p0, .int p1, .int p2] (XW cy x0 x v f) (fun r u => True) (fun u => XW cy x0 x v f) := by
  refine ctI_of (by decide) (Nat.le_of_ble_eq_true rfl) (fun p e s m below meth c A ls Q hx hb hml hts hown hE hP hD hA hl ret => ?_)
  have hown : s.vm.findClass RX4 = some m.cls := hown
  have hS : va_S A s.heap s.heap [] := va_S.rf
  have hl : lv_has ls 3 [(0, .int p0), (1, .int p1), (2, .int p2)] := hl
  refine lv_iload_n hx hb dX4_joined_0 rfl (lv_at hl 0 rfl) ?_
  by_cases c1 : p0 = 37
  · skip
    refine lv_lookup (off := 115) (tgt := 116) hx hb dX4_joined_1 (by decide) (by rw [c1]; decide) (by decide) ?_
    have zc1 : p0.toInt = 37 := by rw [fa_eq, show (37 : Int32).toInt = 37 from by decide] at c1; exact c1
    refine lv_iload_n hx hb dX4_joined_116 rfl (lv_at hl 2 rfl) ?_
    refine lv_if_ne (tgt := 124) hx hb dX4_joined_117 (by decide) (fun c2 => ?_) (fun c2 => ?_)
    · skip
      have zc2 : ¬ (p2.toInt = 0) := by rw [fa_eq, show (0 : Int32).toInt = 0 from by decide] at c2; exact c2
      refine lv_iload_n hx hb dX4_joined_124 rfl (lv_at hl 1 rfl) ?_
      refine lv_iload_n hx hb dX4_joined_125 rfl (lv_at hl 2 rfl) ?_
      refine lv_irem hx hb dX4_joined_126 (ne0 (by omega)) ?_
      refine lv_topi (fun t3 et3 => ?_)
      exact ret t3 () _ _ _ _ _ _ rfl trivial hP hD hS dX4_joined_127 (Nat.le_refl _) (Nat.le_refl _)
    · skip
      have zc2 : p2.toInt = 0 := by rw [fa_eq, show (0 : Int32).toInt = 0 from by decide] at c2; exact c2
      refine lv_iconst (v := 0) hx hb dX4_joined_120 (by decide) ?_
      refine lv_goto (tgt := 127) hx hb dX4_joined_121 (by decide) ?_
      exact ret 0 () _ _ _ _ _ _ rfl trivial hP hD hS dX4_joined_127 (Nat.le_refl _) (Nat.le_refl _)
  · skip
    have zc1 : ¬ (p0.toInt = 37) := by rw [fa_eq, show (37 : Int32).toInt = 37 from by decide] at c1; exact c1
    by_cases c4 : p0 = 42
    · skip
      refine lv_lookup (off := 99) (tgt := 100) hx hb dX4_joined_1 (by decide) (by rw [c4]; decide) (by decide) ?_
      have zc4 : p0.toInt = 42 := by rw [fa_eq, show (42 : Int32).toInt = 42 from by decide] at c4; exact c4
      refine lv_iload_n hx hb dX4_joined_100 rfl (lv_at hl 1 rfl) ?_
      refine lv_iload_n hx hb dX4_joined_101 rfl (lv_at hl 2 rfl) ?_
      refine lv_imul hx hb dX4_joined_102 ?_
      refine lv_topi (fun t5 et5 => ?_)
      exact ret t5 () _ _ _ _ _ _ rfl trivial hP hD hS dX4_joined_103 (Nat.le_refl _) (Nat.le_refl _)
    · skip
      have zc4 : ¬ (p0.toInt = 42) := by rw [fa_eq, show (42 : Int32).toInt = 42 from by decide] at c4; exact c4
      by_cases c6 : p0 = 43
      · skip
        refine lv_lookup (off := 91) (tgt := 92) hx hb dX4_joined_1 (by decide) (by rw [c6]; decide) (by decide) ?_
        have zc6 : p0.toInt = 43 := by rw [fa_eq, show (43 : Int32).toInt = 43 from by decide] at c6; exact c6
        refine lv_iload_n hx hb dX4_joined_92 rfl (lv_at hl 1 rfl) ?_
        refine lv_iload_n hx hb dX4_joined_93 rfl (lv_at hl 2 rfl) ?_
        refine lv_iadd hx hb dX4_joined_94 ?_
        refine lv_topi (fun t7 et7 => ?_)
        exact ret t7 () _ _ _ _ _ _ rfl trivial hP hD hS dX4_joined_95 (Nat.le_refl _) (Nat.le_refl _)
      · skip
        have zc6 : ¬ (p0.toInt = 43) := by rw [fa_eq, show (43 : Int32).toInt = 43 from by decide] at c6; exact c6
        by_cases c8 : p0 = 45
        · skip
          refine lv_lookup (off := 95) (tgt := 96) hx hb dX4_joined_1 (by decide) (by rw [c8]; decide) (by decide) ?_
          have zc8 : p0.toInt = 45 := by rw [fa_eq, show (45 : Int32).toInt = 45 from by decide] at c8; exact c8
          refine lv_iload_n hx hb dX4_joined_96 rfl (lv_at hl 1 rfl) ?_
          refine lv_iload_n hx hb dX4_joined_97 rfl (lv_at hl 2 rfl) ?_
          refine lv_isub hx hb dX4_joined_98 ?_
          refine lv_topi (fun t9 et9 => ?_)
          exact ret t9 () _ _ _ _ _ _ rfl trivial hP hD hS dX4_joined_99 (Nat.le_refl _) (Nat.le_refl _)
        · skip
          have zc8 : ¬ (p0.toInt = 45) := by rw [fa_eq, show (45 : Int32).toInt = 45 from by decide] at c8; exact c8
          by_cases c10 : p0 = 47
          · skip
            refine lv_lookup (off := 103) (tgt := 104) hx hb dX4_joined_1 (by decide) (by rw [c10]; decide) (by decide) ?_
            have zc10 : p0.toInt = 47 := by rw [fa_eq, show (47 : Int32).toInt = 47 from by decide] at c10; exact c10
            refine lv_iload_n hx hb dX4_joined_104 rfl (lv_at hl 2 rfl) ?_
            refine lv_if_ne (tgt := 112) hx hb dX4_joined_105 (by decide) (fun c11 => ?_) (fun c11 => ?_)
            · skip
              have zc11 : ¬ (p2.toInt = 0) := by rw [fa_eq, show (0 : Int32).toInt = 0 from by decide] at c11; exact c11
              refine lv_iload_n hx hb dX4_joined_112 rfl (lv_at hl 1 rfl) ?_
              refine lv_iload_n hx hb dX4_joined_113 rfl (lv_at hl 2 rfl) ?_
              refine lv_idiv hx hb dX4_joined_114 (ne0 (by omega)) ?_
              refine lv_topi (fun t12 et12 => ?_)
              exact ret t12 () _ _ _ _ _ _ rfl trivial hP hD hS dX4_joined_115 (Nat.le_refl _) (Nat.le_refl _)
            · skip
              have zc11 : p2.toInt = 0 := by rw [fa_eq, show (0 : Int32).toInt = 0 from by decide] at c11; exact c11
              refine lv_iconst (v := 0) hx hb dX4_joined_108 (by decide) ?_
              refine lv_goto (tgt := 115) hx hb dX4_joined_109 (by decide) ?_
              exact ret 0 () _ _ _ _ _ _ rfl trivial hP hD hS dX4_joined_115 (Nat.le_refl _) (Nat.le_refl _)
          · skip
            have zc10 : ¬ (p0.toInt = 47) := by rw [fa_eq, show (47 : Int32).toInt = 47 from by decide] at c10; exact c10
            by_cases c13 : p0 = 60
            · skip
              refine lv_lookup (off := 127) (tgt := 128) hx hb dX4_joined_1 (by decide) (by rw [c13]; decide) (by decide) ?_
              have zc13 : p0.toInt = 60 := by rw [fa_eq, show (60 : Int32).toInt = 60 from by decide] at c13; exact c13
              refine lv_iload_n hx hb dX4_joined_128 rfl (lv_at hl 1 rfl) ?_
              refine lv_iload_n hx hb dX4_joined_129 rfl (lv_at hl 2 rfl) ?_
              refine lv_icmp_ge (tgt := 137) hx hb dX4_joined_130 (by decide) (fun c14 => ?_) (fun c14 => ?_)
              · skip
                have zc14 : p2.toInt ≤ p1.toInt := by rw [fa_le] at c14; exact c14
                have rg15 := fb_rng p1
                have rg16 := fb_rng p2
                refine lv_iconst (v := 0) hx hb dX4_joined_137 (by decide) ?_
                exact ret 0 () _ _ _ _ _ _ rfl trivial hP hD hS dX4_joined_138 (Nat.le_refl _) (Nat.le_refl _)
              · skip
                have zc14 : ¬ (p2.toInt ≤ p1.toInt) := by rw [fa_le] at c14; exact c14
                have rg17 := fb_rng p1
                have rg18 := fb_rng p2
                refine lv_iconst (v := 1) hx hb dX4_joined_133 (by decide) ?_
                refine lv_goto (tgt := 138) hx hb dX4_joined_134 (by decide) ?_
                exact ret 1 () _ _ _ _ _ _ rfl trivial hP hD hS dX4_joined_138 (Nat.le_refl _) (Nat.le_refl _)
            · skip
              have zc13 : ¬ (p0.toInt = 60) := by rw [fa_eq, show (60 : Int32).toInt = 60 from by decide] at c13; exact c13
              by_cases c19 : p0 = 61
              · skip
                refine lv_lookup (off := 149) (tgt := 150) hx hb dX4_joined_1 (by decide) (by rw [c19]; decide) (by decide) ?_
                have zc19 : p0.toInt = 61 := by rw [fa_eq, show (61 : Int32).toInt = 61 from by decide] at c19; exact c19
                refine lv_iload_n hx hb dX4_joined_150 rfl (lv_at hl 1 rfl) ?_
                refine lv_iload_n hx hb dX4_joined_151 rfl (lv_at hl 2 rfl) ?_
                refine lv_icmp_ne (tgt := 159) hx hb dX4_joined_152 (by decide) (fun c20 => ?_) (fun c20 => ?_)
                · skip
                  have zc20 : ¬ (p1.toInt = p2.toInt) := by rw [fa_eq] at c20; exact c20
                  have rg21 := fb_rng p1
                  have rg22 := fb_rng p2
                  refine lv_iconst (v := 0) hx hb dX4_joined_159 (by decide) ?_
                  exact ret 0 () _ _ _ _ _ _ rfl trivial hP hD hS dX4_joined_160 (Nat.le_refl _) (Nat.le_refl _)
                · skip
                  have zc20 : p1.toInt = p2.toInt := by rw [fa_eq] at c20; exact c20
                  have rg23 := fb_rng p1
                  have rg24 := fb_rng p2
                  refine lv_iconst (v := 1) hx hb dX4_joined_155 (by decide) ?_
                  refine lv_goto (tgt := 160) hx hb dX4_joined_156 (by decide) ?_
                  exact ret 1 () _ _ _ _ _ _ rfl trivial hP hD hS dX4_joined_160 (Nat.le_refl _) (Nat.le_refl _)
              · skip
                have zc19 : ¬ (p0.toInt = 61) := by rw [fa_eq, show (61 : Int32).toInt = 61 from by decide] at c19; exact c19
                by_cases c25 : p0 = 62
                · skip
                  refine lv_lookup (off := 138) (tgt := 139) hx hb dX4_joined_1 (by decide) (by rw [c25]; decide) (by decide) ?_
                  have zc25 : p0.toInt = 62 := by rw [fa_eq, show (62 : Int32).toInt = 62 from by decide] at c25; exact c25
                  refine lv_iload_n hx hb dX4_joined_139 rfl (lv_at hl 1 rfl) ?_
                  refine lv_iload_n hx hb dX4_joined_140 rfl (lv_at hl 2 rfl) ?_
                  refine lv_icmp_le (tgt := 148) hx hb dX4_joined_141 (by decide) (fun c26 => ?_) (fun c26 => ?_)
                  · skip
                    have zc26 : p1.toInt ≤ p2.toInt := by rw [fa_le] at c26; exact c26
                    have rg27 := fb_rng p1
                    have rg28 := fb_rng p2
                    refine lv_iconst (v := 0) hx hb dX4_joined_148 (by decide) ?_
                    exact ret 0 () _ _ _ _ _ _ rfl trivial hP hD hS dX4_joined_149 (Nat.le_refl _) (Nat.le_refl _)
                  · skip
                    have zc26 : ¬ (p1.toInt ≤ p2.toInt) := by rw [fa_le] at c26; exact c26
                    have rg29 := fb_rng p1
                    have rg30 := fb_rng p2
                    refine lv_iconst (v := 1) hx hb dX4_joined_144 (by decide) ?_
                    refine lv_goto (tgt := 149) hx hb dX4_joined_145 (by decide) ?_
                    exact ret 1 () _ _ _ _ _ _ rfl trivial hP hD hS dX4_joined_149 (Nat.le_refl _) (Nat.le_refl _)
                · skip
                  have zc25 : ¬ (p0.toInt = 62) := by rw [fa_eq, show (62 : Int32).toInt = 62 from by decide] at c25; exact c25
                  by_cases c31 : p0 = 113
                  · skip
                    refine lv_lookup (off := 174) (tgt := 175) hx hb dX4_joined_1 (by decide) (by rw [c31]; decide) (by decide) ?_
                    have zc31 : p0.toInt = 113 := by rw [fa_eq, show (113 : Int32).toInt = 113 from by decide] at c31; exact c31
                    refine lv_iload_n hx hb dX4_joined_175 rfl (lv_at hl 1 rfl) ?_
                    refine lv_if_ne (tgt := 183) hx hb dX4_joined_176 (by decide) (fun c32 => ?_) (fun c32 => ?_)
                    · skip
                      have zc32 : ¬ (p1.toInt = 0) := by rw [fa_eq, show (0 : Int32).toInt = 0 from by decide] at c32; exact c32
                      refine lv_iconst (v := 1) hx hb dX4_joined_183 (by decide) ?_
                      refine lv_goto (tgt := 188) hx hb dX4_joined_184 (by decide) ?_
                      exact ret 1 () _ _ _ _ _ _ rfl trivial hP hD hS dX4_joined_188 (Nat.le_refl _) (Nat.le_refl _)
                    · skip
                      have zc32 : p1.toInt = 0 := by rw [fa_eq, show (0 : Int32).toInt = 0 from by decide] at c32; exact c32
                      refine lv_iload_n hx hb dX4_joined_179 rfl (lv_at hl 2 rfl) ?_
                      refine lv_if_eq (tgt := 187) hx hb dX4_joined_180 (by decide) (fun c33 => ?_) (fun c33 => ?_)
                      · skip
                        have zc33 : p2.toInt = 0 := by rw [fa_eq, show (0 : Int32).toInt = 0 from by decide] at c33; exact c33
                        refine lv_iconst (v := 0) hx hb dX4_joined_187 (by decide) ?_
                        exact ret 0 () _ _ _ _ _ _ rfl trivial hP hD hS dX4_joined_188 (Nat.le_refl _) (Nat.le_refl _)
                      · skip
                        have zc33 : ¬ (p2.toInt = 0) := by rw [fa_eq, show (0 : Int32).toInt = 0 from by decide] at c33; exact c33
                        refine lv_iconst (v := 1) hx hb dX4_joined_183 (by decide) ?_
                        refine lv_goto (tgt := 188) hx hb dX4_joined_184 (by decide) ?_
                        exact ret 1 () _ _ _ _ _ _ rfl trivial hP hD hS dX4_joined_188 (Nat.le_refl _) (Nat.le_refl _)
                  · skip
                    have zc31 : ¬ (p0.toInt = 113) := by rw [fa_eq, show (113 : Int32).toInt = 113 from by decide] at c31; exact c31
                    by_cases c34 : p0 = 114
                    · skip
                      refine lv_lookup (off := 160) (tgt := 161) hx hb dX4_joined_1 (by decide) (by rw [c34]; decide) (by decide) ?_
                      have zc34 : p0.toInt = 114 := by rw [fa_eq, show (114 : Int32).toInt = 114 from by decide] at c34; exact c34
                      refine lv_iload_n hx hb dX4_joined_161 rfl (lv_at hl 1 rfl) ?_
                      refine lv_if_eq (tgt := 173) hx hb dX4_joined_162 (by decide) (fun c35 => ?_) (fun c35 => ?_)
                      · skip
                        have zc35 : p1.toInt = 0 := by rw [fa_eq, show (0 : Int32).toInt = 0 from by decide] at c35; exact c35
                        refine lv_iconst (v := 0) hx hb dX4_joined_173 (by decide) ?_
                        exact ret 0 () _ _ _ _ _ _ rfl trivial hP hD hS dX4_joined_174 (Nat.le_refl _) (Nat.le_refl _)
                      · skip
                        have zc35 : ¬ (p1.toInt = 0) := by rw [fa_eq, show (0 : Int32).toInt = 0 from by decide] at c35; exact c35
                        refine lv_iload_n hx hb dX4_joined_165 rfl (lv_at hl 2 rfl) ?_
                        refine lv_if_eq (tgt := 173) hx hb dX4_joined_166 (by decide) (fun c36 => ?_) (fun c36 => ?_)
                        · skip
                          have zc36 : p2.toInt = 0 := by rw [fa_eq, show (0 : Int32).toInt = 0 from by decide] at c36; exact c36
                          refine lv_iconst (v := 0) hx hb dX4_joined_173 (by decide) ?_
                          exact ret 0 () _ _ _ _ _ _ rfl trivial hP hD hS dX4_joined_174 (Nat.le_refl _) (Nat.le_refl _)
                        · skip
                          have zc36 : ¬ (p2.toInt = 0) := by rw [fa_eq, show (0 : Int32).toInt = 0 from by decide] at c36; exact c36
                          refine lv_iconst (v := 1) hx hb dX4_joined_169 (by decide) ?_
                          refine lv_goto (tgt := 174) hx hb dX4_joined_170 (by decide) ?_
                          exact ret 1 () _ _ _ _ _ _ rfl trivial hP hD hS dX4_joined_174 (Nat.le_refl _) (Nat.le_refl _)
                    · skip
                      have zc34 : ¬ (p0.toInt = 114) := by rw [fa_eq, show (114 : Int32).toInt = 114 from by decide] at c34; exact c34
                      refine lv_lookup (off := 188) (tgt := 189) hx hb dX4_joined_1 (by decide) (by show Op.lookupswitch.offset [(37, 115), (42, 99), (43, 91), (45, 95), (47, 103), (60, 127), (61, 149), (62, 138), (113, 174), (114, 160)] 188 p0.toInt = 188; rw [lv_osw c1 (by decide), lv_osw c4 (by decide), lv_osw c6 (by decide), lv_osw c8 (by decide), lv_osw c10 (by decide), lv_osw c13 (by decide), lv_osw c19 (by decide), lv_osw c25 (by decide), lv_osw c31 (by decide), lv_osw c34 (by decide)]; rfl) (by decide) ?_
                      refine lv_iconst (v := 0) hx hb dX4_joined_189 (by decide) ?_
                      exact ret 0 () _ _ _ _ _ _ rfl trivial hP hD hS dX4_joined_190 (Nat.le_refl _) (Nat.le_refl _)
set_option maxHeartbeats 4000000 in
set_option maxRecDepth 100000 in
theorem sX_X4_worth_1 (l : Launch) (dC : Nat → ClassId) (dI : Nat → Nat → Nat) (cy : Nat → ClassId) (x0 : Nat) (x : Nat → Nat) (p1 : Int32) (p2 : Int32) (p3 : Int32) (p4 : Int32) (p5 : Int32) (p6 : Int32) (v : Nat → Int32) (f : Nat → Nat → Int32) (hIv : XI v)  : ctI l (dC, dI) cy yX4_worth cX4_worth 10 .int 2 82 0 0 ((Nat → Int32) × (Nat → Nat → Int32)) [.ref (x 15), .int p1, .int p2, .int p3, .int p4, .int p5, .int p6] (XW cy x0 x v f) (fun r u => XI u.1 ∧ u.1 0 = v 0 ∧ u.1 1 = v 1 ∧ u.1 9 = v 9 ∧ u.1 10 = v 10 ∧ u.1 31 = v 31 ∧ u.1 32 = v 32) (fun u => XW cy x0 x u.1 u.2) := by
  refine ctI_of (by decide) (Nat.le_of_ble_eq_true rfl) (fun p e s m below meth c A ls Q hx hb hml hts hown hE hP hD hA hl ret => ?_)
  have hown : s.vm.findClass RX4 = some m.cls := hown
  have hS : va_S A s.heap s.heap [] := va_S.rf
  have hl : lv_has ls 10 [(0, .ref (x 15)), (1, .int p1), (2, .int p2), (3, .int p3), (4, .int p4), (5, .int p5), (6, .int p6)] := hl
  refine lv_aload_n hx hb dX4_worth_0 rfl (lv_at hl 0 rfl) ?_
  refine va_get (D := (dC, dI)) (ci := 4) (v := .ref (x 19)) (C := RX4) (T := TX4) (N := 6) hx hb hts inB_4 hown hE.1 hP 16 rfl rfl 3 (by decide) (hts _ k_181) (fun _ h9 => h9) rfl dX4_worth_1 ?_
  refine lv_iconst (v := 0) hx hb dX4_worth_4 (by decide) ?_
  refine lv_iconst (v := 0) hx hb dX4_worth_5 (by decide) ?_
  refine lv_iload_n hx hb dX4_worth_6 rfl (lv_at hl 2 rfl) ?_
  refine lv_iload hx hb dX4_worth_7 (lv_at hl 4 rfl) ?_
  refine lv_isub hx hb dX4_worth_9 ?_
  refine lv_topi (fun t1 et1 => ?_)
  refine va_mmax hx hb (by rw [hml]; exact hl.1.symm) hown (hts _ k_839) (hts _ k_640) (hts _ k_119) (hts _ k_641) (Nat.le_of_ble_eq_true rfl) (Nat.le_of_ble_eq_true rfl) (Nat.le_of_ble_eq_true rfl) (Nat.le_of_ble_eq_true rfl) dX4_worth_10 ?_
  refine lv_topi (fun t2 et2 => ?_)
  have zt2 : t2.toInt = max (0) (t1.toInt) := by rw [et2]; exact mmax_i (by decide) rfl
  refine stI hx hb hE hP hD hS 20 rfl (vp_in_nI (n := 0) (by decide) (by decide)) rfl dX4_worth_13 (fun H locs hP hD hS => ?_)
  obtain ⟨f3, hP, hD⟩ : ∃ fz9, va_P (dC, dI) vwCl (XW cy x0 x v fz9) H ∧ va_D A (XW cy x0 x v fz9) := ⟨upd2 f 14 (upd (f 14) (0 : Int32).toNatClampNeg t2), hP, hD⟩
  refine lv_aload_n hx hb dX4_worth_14 rfl (lv_at hl 0 rfl) ?_
  refine va_get (D := (dC, dI)) (ci := 4) (v := .ref (x 19)) (C := RX4) (T := TX4) (N := 6) hx hb hts inB_4 hown hE.1 hP 16 rfl rfl 3 (by decide) (hts _ k_181) (fun _ h9 => h9) rfl dX4_worth_15 ?_
  refine lv_iconst (v := 1) hx hb dX4_worth_18 (by decide) ?_
  refine lv_iconst (v := 0) hx hb dX4_worth_19 (by decide) ?_
  refine lv_iload hx hb dX4_worth_20 (lv_at hl 4 rfl) ?_
  refine lv_iload_n hx hb dX4_worth_22 rfl (lv_at hl 2 rfl) ?_
  refine lv_isub hx hb dX4_worth_23 ?_
  refine lv_topi (fun t4 et4 => ?_)
  refine va_mmax hx hb (by rw [hml]; exact hl.1.symm) hown (hts _ k_839) (hts _ k_640) (hts _ k_119) (hts _ k_641) (Nat.le_of_ble_eq_true rfl) (Nat.le_of_ble_eq_true rfl) (Nat.le_of_ble_eq_true rfl) (Nat.le_of_ble_eq_true rfl) dX4_worth_24 ?_
  refine lv_topi (fun t5 et5 => ?_)
  have zt5 : t5.toInt = max (0) (t4.toInt) := by rw [et5]; exact mmax_i (by decide) rfl
  refine stI hx hb hE hP hD hS 20 rfl (vp_in_nI (n := 1) (by decide) (by decide)) rfl dX4_worth_27 (fun H locs hP hD hS => ?_)
  obtain ⟨f6, hP, hD⟩ : ∃ fz9, va_P (dC, dI) vwCl (XW cy x0 x v fz9) H ∧ va_D A (XW cy x0 x v fz9) := ⟨upd2 f3 14 (upd (f3 14) (1 : Int32).toNatClampNeg t5), hP, hD⟩
  refine lv_aload_n hx hb dX4_worth_28 rfl (lv_at hl 0 rfl) ?_
  refine va_get (D := (dC, dI)) (ci := 4) (v := .ref (x 19)) (C := RX4) (T := TX4) (N := 6) hx hb hts inB_4 hown hE.1 hP 16 rfl rfl 3 (by decide) (hts _ k_181) (fun _ h9 => h9) rfl dX4_worth_29 ?_
  refine lv_iconst (v := 2) hx hb dX4_worth_32 (by decide) ?_
  refine lv_iconst (v := 0) hx hb dX4_worth_33 (by decide) ?_
  refine lv_iload_n hx hb dX4_worth_34 rfl (lv_at hl 1 rfl) ?_
  refine lv_iload_n hx hb dX4_worth_35 rfl (lv_at hl 3 rfl) ?_
  refine lv_isub hx hb dX4_worth_36 ?_
  refine lv_topi (fun t7 et7 => ?_)
  refine va_mmax hx hb (by rw [hml]; exact hl.1.symm) hown (hts _ k_839) (hts _ k_640) (hts _ k_119) (hts _ k_641) (Nat.le_of_ble_eq_true rfl) (Nat.le_of_ble_eq_true rfl) (Nat.le_of_ble_eq_true rfl) (Nat.le_of_ble_eq_true rfl) dX4_worth_37 ?_
  refine lv_topi (fun t8 et8 => ?_)
  have zt8 : t8.toInt = max (0) (t7.toInt) := by rw [et8]; exact mmax_i (by decide) rfl
  refine stI hx hb hE hP hD hS 20 rfl (vp_in_nI (n := 2) (by decide) (by decide)) rfl dX4_worth_40 (fun H locs hP hD hS => ?_)
  obtain ⟨f9, hP, hD⟩ : ∃ fz9, va_P (dC, dI) vwCl (XW cy x0 x v fz9) H ∧ va_D A (XW cy x0 x v fz9) := ⟨upd2 f6 14 (upd (f6 14) (2 : Int32).toNatClampNeg t8), hP, hD⟩
  refine lv_aload_n hx hb dX4_worth_41 rfl (lv_at hl 0 rfl) ?_
  refine va_get (D := (dC, dI)) (ci := 4) (v := .ref (x 19)) (C := RX4) (T := TX4) (N := 6) hx hb hts inB_4 hown hE.1 hP 16 rfl rfl 3 (by decide) (hts _ k_181) (fun _ h9 => h9) rfl dX4_worth_42 ?_
  refine lv_iconst (v := 3) hx hb dX4_worth_45 (by decide) ?_
  refine lv_iconst (v := 0) hx hb dX4_worth_46 (by decide) ?_
  refine lv_iload_n hx hb dX4_worth_47 rfl (lv_at hl 3 rfl) ?_
  refine lv_iload_n hx hb dX4_worth_48 rfl (lv_at hl 1 rfl) ?_
  refine lv_isub hx hb dX4_worth_49 ?_
  refine lv_topi (fun t10 et10 => ?_)
  refine va_mmax hx hb (by rw [hml]; exact hl.1.symm) hown (hts _ k_839) (hts _ k_640) (hts _ k_119) (hts _ k_641) (Nat.le_of_ble_eq_true rfl) (Nat.le_of_ble_eq_true rfl) (Nat.le_of_ble_eq_true rfl) (Nat.le_of_ble_eq_true rfl) dX4_worth_50 ?_
  refine lv_topi (fun t11 et11 => ?_)
  have zt11 : t11.toInt = max (0) (t10.toInt) := by rw [et11]; exact mmax_i (by decide) rfl
  refine stI hx hb hE hP hD hS 20 rfl (vp_in_nI (n := 3) (by decide) (by decide)) rfl dX4_worth_53 (fun H locs hP hD hS => ?_)
  obtain ⟨f12, hP, hD⟩ : ∃ fz9, va_P (dC, dI) vwCl (XW cy x0 x v fz9) H ∧ va_D A (XW cy x0 x v fz9) := ⟨upd2 f9 14 (upd (f9 14) (3 : Int32).toNatClampNeg t11), hP, hD⟩
  refine lv_aload_n hx hb dX4_worth_54 rfl (lv_at hl 0 rfl) ?_
  refine va_get (D := (dC, dI)) (ci := 4) (v := .ref (x 19)) (C := RX4) (T := TX4) (N := 6) hx hb hts inB_4 hown hE.1 hP 16 rfl rfl 3 (by decide) (hts _ k_181) (fun _ h9 => h9) rfl dX4_worth_55 ?_
  refine lv_iconst (v := 4) hx hb dX4_worth_58 (by decide) ?_
  refine lv_iload hx hb dX4_worth_59 (lv_at hl 5 rfl) ?_
  refine stI hx hb hE hP hD hS 20 rfl (vp_in_nI (n := 4) (by decide) (by decide)) rfl dX4_worth_61 (fun H locs hP hD hS => ?_)
  obtain ⟨f13, hP, hD⟩ : ∃ fz9, va_P (dC, dI) vwCl (XW cy x0 x v fz9) H ∧ va_D A (XW cy x0 x v fz9) := ⟨upd2 f12 14 (upd (f12 14) (4 : Int32).toNatClampNeg p5), hP, hD⟩
  refine lv_aload_n hx hb dX4_worth_62 rfl (lv_at hl 0 rfl) ?_
  refine va_get (D := (dC, dI)) (ci := 4) (v := .ref (x 19)) (C := RX4) (T := TX4) (N := 6) hx hb hts inB_4 hown hE.1 hP 16 rfl rfl 3 (by decide) (hts _ k_181) (fun _ h9 => h9) rfl dX4_worth_63 ?_
  refine lv_iconst (v := 5) hx hb dX4_worth_66 (by decide) ?_
  refine lv_iload hx hb dX4_worth_67 (lv_at hl 6 rfl) ?_
  refine stI hx hb hE hP hD hS 20 rfl (vp_in_nI (n := 5) (by decide) (by decide)) rfl dX4_worth_69 (fun H locs hP hD hS => ?_)
  obtain ⟨f14, hP, hD⟩ : ∃ fz9, va_P (dC, dI) vwCl (XW cy x0 x v fz9) H ∧ va_D A (XW cy x0 x v fz9) := ⟨upd2 f13 14 (upd (f13 14) (5 : Int32).toNatClampNeg p6), hP, hD⟩
  refine lv_aload_n hx hb dX4_worth_70 rfl (lv_at hl 0 rfl) ?_
  refine va_get (D := (dC, dI)) (ci := 4) (v := .int (v 18)) (C := RX4) (T := TX4) (N := 6) hx hb hts inB_4 hown hE.1 hP 16 rfl rfl 4 (by decide) (hts _ k_182) (fun _ h9 => h9) rfl dX4_worth_71 ?_
  have b18_v : 0 ≤ (v 18).toInt ∧ (v 18).toInt ≤ 300 := XI.b hIv 18 (by decide)
  refine lv_if_ne (tgt := 118) hx hb dX4_worth_74 (by decide) (fun c15 => ?_) (fun c15 => ?_)
  · skip
    have zc15 : ¬ ((v 18).toInt = 0) := by rw [fa_eq, show (0 : Int32).toInt = 0 from by decide] at c15; exact c15
    refine lv_iconst (v := 0) hx hb dX4_worth_118 (by decide) ?_
    refine lv_istore (lv' := [(7, .int 0), (0, .ref (x 15)), (1, .int p1), (2, .int p2), (3, .int p3), (4, .int p4), (5, .int p5), (6, .int p6)]) hx hb dX4_worth_119 hl (by decide) rfl (fun ls hl => ?_)
    refine lv_iconst (v := 0) hx hb dX4_worth_121 (by decide) ?_
    refine lv_istore (lv' := [(8, .int 0), (7, .int 0), (0, .ref (x 15)), (1, .int p1), (2, .int p2), (3, .int p3), (4, .int p4), (5, .int p5), (6, .int p6)]) hx hb dX4_worth_122 hl (by decide) rfl (fun ls hl => ?_)
    have lp16 : ∀ (n16 : Nat) (l7_16 : Int32) (l8_16 : Int32) (v16 : Nat → Int32) (f16 : Nat → Nat → Int32), XI v16 → v16 0 = (v 0) → v16 1 = (v 1) → v16 9 = (v 9) → v16 10 = (v 10) → v16 31 = (v 31) → v16 32 = (v 32) → ((0 : Int) ≤ l7_16.toInt ∧ l7_16.toInt ≤ 30) → ((0 : Int) ≤ l8_16.toInt ∧ l8_16.toInt ≤ 2147483647) → (2147483647 - l8_16.toInt).toNat < n16 → ∀ (H : Heap) (locs : List Loc) (ls : Array Slot), va_P (dC, dI) vwCl (XW cy x0 x v16 f16) H → va_D A (XW cy x0 x v16 f16) → va_S A s.heap H locs → lv_has ls 10 [(8, .int l8_16), (7, .int l7_16), (0, .ref (x 15)), (1, .int p1), (2, .int p2), (3, .int p3), (4, .int p4), (5, .int p5), (6, .int p6)] → W p l e { frames := 2, cells := 0, slots := 0, locals := 82 } s m ([.ref (x 15), .int p1, .int p2, .int p3, .int p4, .int p5, .int p6] : List Value).toArray below meth c H locs 0 0 Q (F0 m 124 ls []) := by
      intro n16
      induction n16 with
      | zero => intro l7_16 l8_16 v16 f16 hIv16 hq0_v16 hq1_v16 hq9_v16 hq10_v16 hq31_v16 hq32_v16 hr7_16 hr8_16 hm; exact absurd hm (Nat.not_lt_zero _)
      | succ n16 ih16 =>
        intro l7_16 l8_16 v16 f16 hIv16 hq0_v16 hq1_v16 hq9_v16 hq10_v16 hq31_v16 hq32_v16 hr7_16 hr8_16 hm16 H locs ls hP hD hS hl
        refine lv_iload hx hb dX4_worth_124 (lv_at hl 0 rfl) ?_
        refine lv_aload_n hx hb dX4_worth_126 rfl (lv_at hl 2 rfl) ?_
        refine va_get (D := (dC, dI)) (ci := 4) (v := .int (v16 18)) (C := RX4) (T := TX4) (N := 6) hx hb hts inB_4 hown hE.1 hP 16 rfl rfl 4 (by decide) (hts _ k_182) (fun _ h9 => h9) rfl dX4_worth_127 ?_
        have b18_v16 : 0 ≤ (v16 18).toInt ∧ (v16 18).toInt ≤ 300 := XI.b hIv16 18 (by decide)
        refine lv_icmp_ge (tgt := 305) hx hb dX4_worth_130 (by decide) (fun c17 => ?_) (fun c17 => ?_)
        · skip
          have zc17 : (v16 18).toInt ≤ l8_16.toInt := by rw [fa_le] at c17; exact c17
          have rg18 := fb_rng l8_16
          have rg19 := fb_rng (v16 18)
          refine lv_iconst (v := 0) hx hb dX4_worth_305 (by decide) ?_
          refine lv_sipush (v := 999) hx hb dX4_worth_306 (by decide) ?_
          refine lv_aload_n hx hb dX4_worth_309 rfl (lv_at hl 2 rfl) ?_
          refine va_get (D := (dC, dI)) (ci := 4) (v := .ref (x 18)) (C := RX4) (T := TX4) (N := 6) hx hb hts inB_4 hown hE.1 hP 16 rfl rfl 2 (by decide) (hts _ k_180) (fun _ h9 => h9) rfl dX4_worth_310 ?_
          refine lv_iconst (v := 0) hx hb dX4_worth_313 (by decide) ?_
          refine ldI hx hb hE hP 19 rfl (vp_in_nI (n := 0) (by decide) (by decide)) rfl rfl dX4_worth_314 ?_
          refine lv_topi (fun t20 et20 => ?_)
          refine va_mmin hx hb (by rw [hml]; exact hl.1.symm) hown (hts _ k_840) (hts _ k_643) (hts _ k_119) (hts _ k_644) (Nat.le_of_ble_eq_true rfl) (Nat.le_of_ble_eq_true rfl) (Nat.le_of_ble_eq_true rfl) (Nat.le_of_ble_eq_true rfl) dX4_worth_315 ?_
          refine lv_topi (fun t21 et21 => ?_)
          have zt21 : t21.toInt = min (999) (t20.toInt) := by rw [et21]; exact mmin_i (by decide) rfl
          refine va_mmax hx hb (by rw [hml]; exact hl.1.symm) hown (hts _ k_839) (hts _ k_640) (hts _ k_119) (hts _ k_641) (Nat.le_of_ble_eq_true rfl) (Nat.le_of_ble_eq_true rfl) (Nat.le_of_ble_eq_true rfl) (Nat.le_of_ble_eq_true rfl) dX4_worth_318 ?_
          refine lv_topi (fun t22 et22 => ?_)
          have zt22 : t22.toInt = max (0) (t21.toInt) := by rw [et22]; exact mmax_i (by decide) rfl
          exact ret t22 (v16, f16) _ _ _ _ _ _ rfl ⟨hIv16, (show v16 0 = v 0 from hq0_v16), (show v16 1 = v 1 from hq1_v16), (show v16 9 = v 9 from hq9_v16), (show v16 10 = v 10 from hq10_v16), (show v16 31 = v 31 from hq31_v16), (show v16 32 = v 32 from hq32_v16)⟩ hP hD hS dX4_worth_321 (Nat.le_refl _) (Nat.le_refl _)
        · skip
          have zc17 : ¬ ((v16 18).toInt ≤ l8_16.toInt) := by rw [fa_le] at c17; exact c17
          have rg23 := fb_rng l8_16
          have rg24 := fb_rng (v16 18)
          refine lv_iload hx hb dX4_worth_133 (lv_at hl 0 rfl) ?_
          refine lv_sipush (v := 300) hx hb dX4_worth_135 (by decide) ?_
          refine lv_icmp_ge (tgt := 305) hx hb dX4_worth_138 (by decide) (fun c25 => ?_) (fun c25 => ?_)
          · skip
            have zc25 : 300 ≤ l8_16.toInt := by rw [fa_le, show (300 : Int32).toInt = 300 from by decide] at c25; exact c25
            refine lv_iconst (v := 0) hx hb dX4_worth_305 (by decide) ?_
            refine lv_sipush (v := 999) hx hb dX4_worth_306 (by decide) ?_
            refine lv_aload_n hx hb dX4_worth_309 rfl (lv_at hl 2 rfl) ?_
            refine va_get (D := (dC, dI)) (ci := 4) (v := .ref (x 18)) (C := RX4) (T := TX4) (N := 6) hx hb hts inB_4 hown hE.1 hP 16 rfl rfl 2 (by decide) (hts _ k_180) (fun _ h9 => h9) rfl dX4_worth_310 ?_
            refine lv_iconst (v := 0) hx hb dX4_worth_313 (by decide) ?_
            refine ldI hx hb hE hP 19 rfl (vp_in_nI (n := 0) (by decide) (by decide)) rfl rfl dX4_worth_314 ?_
            refine lv_topi (fun t26 et26 => ?_)
            refine va_mmin hx hb (by rw [hml]; exact hl.1.symm) hown (hts _ k_840) (hts _ k_643) (hts _ k_119) (hts _ k_644) (Nat.le_of_ble_eq_true rfl) (Nat.le_of_ble_eq_true rfl) (Nat.le_of_ble_eq_true rfl) (Nat.le_of_ble_eq_true rfl) dX4_worth_315 ?_
            refine lv_topi (fun t27 et27 => ?_)
            have zt27 : t27.toInt = min (999) (t26.toInt) := by rw [et27]; exact mmin_i (by decide) rfl
            refine va_mmax hx hb (by rw [hml]; exact hl.1.symm) hown (hts _ k_839) (hts _ k_640) (hts _ k_119) (hts _ k_641) (Nat.le_of_ble_eq_true rfl) (Nat.le_of_ble_eq_true rfl) (Nat.le_of_ble_eq_true rfl) (Nat.le_of_ble_eq_true rfl) dX4_worth_318 ?_
            refine lv_topi (fun t28 et28 => ?_)
            have zt28 : t28.toInt = max (0) (t27.toInt) := by rw [et28]; exact mmax_i (by decide) rfl
            exact ret t28 (v16, f16) _ _ _ _ _ _ rfl ⟨hIv16, (show v16 0 = v 0 from hq0_v16), (show v16 1 = v 1 from hq1_v16), (show v16 9 = v 9 from hq9_v16), (show v16 10 = v 10 from hq10_v16), (show v16 31 = v 31 from hq31_v16), (show v16 32 = v 32 from hq32_v16)⟩ hP hD hS dX4_worth_321 (Nat.le_refl _) (Nat.le_refl _)
          · skip
            have zc25 : ¬ (300 ≤ l8_16.toInt) := by rw [fa_le, show (300 : Int32).toInt = 300 from by decide] at c25; exact c25
            refine lv_aload_n hx hb dX4_worth_141 rfl (lv_at hl 2 rfl) ?_
            refine va_get (D := (dC, dI)) (ci := 4) (v := .ref (x 16)) (C := RX4) (T := TX4) (N := 6) hx hb hts inB_4 hown hE.1 hP 16 rfl rfl 0 (by decide) (hts _ k_178) (fun _ h9 => h9) rfl dX4_worth_142 ?_
            refine lv_iload hx hb dX4_worth_145 (lv_at hl 0 rfl) ?_
            refine ldI hx hb hE hP 17 rfl (vp_in_iff.mpr ⟨by omega, by omega⟩) rfl rfl dX4_worth_147 ?_
            refine lv_topi (fun t29 et29 => ?_)
            refine lv_istore (lv' := [(9, .int t29), (8, .int l8_16), (7, .int l7_16), (0, .ref (x 15)), (1, .int p1), (2, .int p2), (3, .int p3), (4, .int p4), (5, .int p5), (6, .int p6)]) hx hb dX4_worth_148 hl (by decide) rfl (fun ls hl => ?_)
            refine lv_iload hx hb dX4_worth_150 (lv_at hl 0 rfl) ?_
            refine lv_iconst (v := 2) hx hb dX4_worth_152 (by decide) ?_
            refine lv_icmp_eq (tgt := 170) hx hb dX4_worth_153 (by decide) (fun c30 => ?_) (fun c30 => ?_)
            · skip
              have zc30 : t29.toInt = 2 := by rw [fa_eq, show (2 : Int32).toInt = 2 from by decide] at c30; exact c30
              refine lv_iload hx hb dX4_worth_170 (lv_at hl 2 rfl) ?_
              refine lv_bipush (v := 30) hx hb dX4_worth_172 (by decide) ?_
              refine lv_icmp_ge (tgt := 299) hx hb dX4_worth_174 (by decide) (fun c31 => ?_) (fun c31 => ?_)
              · skip
                have zc31 : 30 ≤ l7_16.toInt := by rw [fa_le, show (30 : Int32).toInt = 30 from by decide] at c31; exact c31
                obtain ⟨t32, et32⟩ : ∃ y : Int32, y = l8_16 + 1 := ⟨_, rfl⟩
                have zt32 : t32.toInt = l8_16.toInt + 1 := by rw [et32]; exact add_i rfl (by decide) (by omega) (by omega)
                refine lv_iinc (v := t32) (lv' := [(8, .int t32), (9, .int t29), (7, .int l7_16), (0, .ref (x 15)), (1, .int p1), (2, .int p2), (3, .int p3), (4, .int p4), (5, .int p5), (6, .int p6)]) hx hb dX4_worth_299 hl (k := 1) rfl (by rw [et32]; rfl) (by decide) rfl (fun ls hl => ?_)
                refine lv_goto (tgt := 124) hx hb dX4_worth_302 (by decide) ?_
                have rg33 := fb_rng l7_16
                have rg34 := fb_rng t32
                exact ih16 l7_16 t32 v16 f16 hIv16 hq0_v16 hq1_v16 hq9_v16 hq10_v16 hq31_v16 hq32_v16 ⟨show (0 : Int) ≤ l7_16.toInt by omega, show l7_16.toInt ≤ (30 : Int) by omega⟩ ⟨show (0 : Int) ≤ t32.toInt by omega, show t32.toInt ≤ (2147483647 : Int) by omega⟩ (by show (2147483647 - t32.toInt).toNat < n16; omega) _ _ _ hP hD hS (lv_sub hl [0, 2, 3, 4, 5, 6, 7, 8, 9] rfl)
              · skip
                have zc31 : ¬ (30 ≤ l7_16.toInt) := by rw [fa_le, show (30 : Int32).toInt = 30 from by decide] at c31; exact c31
                refine lv_aload_n hx hb dX4_worth_177 rfl (lv_at hl 3 rfl) ?_
                refine va_get (D := (dC, dI)) (ci := 4) (v := .ref (x 18)) (C := RX4) (T := TX4) (N := 6) hx hb hts inB_4 hown hE.1 hP 16 rfl rfl 2 (by decide) (hts _ k_180) (fun _ h9 => h9) rfl dX4_worth_178 ?_
                refine lv_iload hx hb dX4_worth_181 (lv_at hl 2 rfl) ?_
                refine lv_iload hx hb dX4_worth_183 (lv_at hl 0 rfl) ?_
                refine lv_iconst (v := 2) hx hb dX4_worth_185 (by decide) ?_
                refine lv_icmp_ne (tgt := 199) hx hb dX4_worth_186 (by decide) (fun c35 => ?_) (fun c35 => ?_)
                · skip
                  have zc35 : ¬ (t29.toInt = 2) := by rw [fa_eq, show (2 : Int32).toInt = 2 from by decide] at c35; exact c35
                  refine lv_aload_n hx hb dX4_worth_199 rfl (lv_at hl 3 rfl) ?_
                  refine va_get (D := (dC, dI)) (ci := 4) (v := .ref (x 19)) (C := RX4) (T := TX4) (N := 6) hx hb hts inB_4 hown hE.1 hP 16 rfl rfl 3 (by decide) (hts _ k_181) (fun _ h9 => h9) rfl dX4_worth_200 ?_
                  refine lv_iload hx hb dX4_worth_203 (lv_at hl 0 rfl) ?_
                  refine lv_bipush (v := 116) hx hb dX4_worth_205 (by decide) ?_
                  refine lv_isub hx hb dX4_worth_207 ?_
                  refine lv_topi (fun t36 et36 => ?_)
                  have rg37 := fb_rng t29
                  have zt36 : t36.toInt = t29.toInt - 116 := by rw [et36]; exact sub_i rfl (by decide) (by omega) (by omega)
                  refine ldI hx hb hE hP 20 rfl (vp_in_iff.mpr ⟨by omega, by omega⟩) rfl rfl dX4_worth_208 ?_
                  refine lv_topi (fun t38 et38 => ?_)
                  refine stI hx hb hE hP hD hS 19 rfl (vp_in_iff.mpr ⟨by omega, by omega⟩) rfl dX4_worth_209 (fun H locs hP hD hS => ?_)
                  obtain ⟨f39, hP, hD⟩ : ∃ fz9, va_P (dC, dI) vwCl (XW cy x0 x v16 fz9) H ∧ va_D A (XW cy x0 x v16 fz9) := ⟨upd2 f16 13 (upd (f16 13) l7_16.toNatClampNeg t38), hP, hD⟩
                  obtain ⟨t40, et40⟩ : ∃ y : Int32, y = l7_16 + 1 := ⟨_, rfl⟩
                  have rg41 := fb_rng l7_16
                  have zt40 : t40.toInt = l7_16.toInt + 1 := by rw [et40]; exact add_i rfl (by decide) (by omega) (by omega)
                  refine lv_iinc (v := t40) (lv' := [(7, .int t40), (9, .int t29), (8, .int l8_16), (0, .ref (x 15)), (1, .int p1), (2, .int p2), (3, .int p3), (4, .int p4), (5, .int p5), (6, .int p6)]) hx hb dX4_worth_210 hl (k := 2) rfl (by rw [et40]; rfl) (by decide) rfl (fun ls hl => ?_)
                  refine lv_goto (tgt := 299) hx hb dX4_worth_213 (by decide) ?_
                  obtain ⟨t42, et42⟩ : ∃ y : Int32, y = l8_16 + 1 := ⟨_, rfl⟩
                  have zt42 : t42.toInt = l8_16.toInt + 1 := by rw [et42]; exact add_i rfl (by decide) (by omega) (by omega)
                  refine lv_iinc (v := t42) (lv' := [(8, .int t42), (7, .int t40), (9, .int t29), (0, .ref (x 15)), (1, .int p1), (2, .int p2), (3, .int p3), (4, .int p4), (5, .int p5), (6, .int p6)]) hx hb dX4_worth_299 hl (k := 2) rfl (by rw [et42]; rfl) (by decide) rfl (fun ls hl => ?_)
                  refine lv_goto (tgt := 124) hx hb dX4_worth_302 (by decide) ?_
                  have rg43 := fb_rng t40
                  have rg44 := fb_rng t42
                  exact ih16 t40 t42 v16 f39 hIv16 hq0_v16 hq1_v16 hq9_v16 hq10_v16 hq31_v16 hq32_v16 ⟨show (0 : Int) ≤ t40.toInt by omega, show t40.toInt ≤ (30 : Int) by omega⟩ ⟨show (0 : Int) ≤ t42.toInt by omega, show t42.toInt ≤ (2147483647 : Int) by omega⟩ (by show (2147483647 - t42.toInt).toNat < n16; omega) _ _ _ hP hD hS (lv_sub hl [0, 1, 3, 4, 5, 6, 7, 8, 9] rfl)
                · skip
                  have zc35 : t29.toInt = 2 := by rw [fa_eq, show (2 : Int32).toInt = 2 from by decide] at c35; exact c35
                  refine lv_aload_n hx hb dX4_worth_189 rfl (lv_at hl 3 rfl) ?_
                  refine va_get (D := (dC, dI)) (ci := 4) (v := .ref (x 17)) (C := RX4) (T := TX4) (N := 6) hx hb hts inB_4 hown hE.1 hP 16 rfl rfl 1 (by decide) (hts _ k_179) (fun _ h9 => h9) rfl dX4_worth_190 ?_
                  refine lv_iload hx hb dX4_worth_193 (lv_at hl 1 rfl) ?_
                  refine ldI hx hb hE hP 18 rfl (vp_in_iff.mpr ⟨by omega, by omega⟩) rfl rfl dX4_worth_195 ?_
                  refine lv_topi (fun t45 et45 => ?_)
                  refine lv_goto (tgt := 209) hx hb dX4_worth_196 (by decide) ?_
                  refine stI hx hb hE hP hD hS 19 rfl (vp_in_iff.mpr ⟨by omega, by omega⟩) rfl dX4_worth_209 (fun H locs hP hD hS => ?_)
                  obtain ⟨f46, hP, hD⟩ : ∃ fz9, va_P (dC, dI) vwCl (XW cy x0 x v16 fz9) H ∧ va_D A (XW cy x0 x v16 fz9) := ⟨upd2 f16 13 (upd (f16 13) l7_16.toNatClampNeg t45), hP, hD⟩
                  obtain ⟨t47, et47⟩ : ∃ y : Int32, y = l7_16 + 1 := ⟨_, rfl⟩
                  have rg48 := fb_rng l7_16
                  have zt47 : t47.toInt = l7_16.toInt + 1 := by rw [et47]; exact add_i rfl (by decide) (by omega) (by omega)
                  refine lv_iinc (v := t47) (lv' := [(7, .int t47), (9, .int t29), (8, .int l8_16), (0, .ref (x 15)), (1, .int p1), (2, .int p2), (3, .int p3), (4, .int p4), (5, .int p5), (6, .int p6)]) hx hb dX4_worth_210 hl (k := 2) rfl (by rw [et47]; rfl) (by decide) rfl (fun ls hl => ?_)
                  refine lv_goto (tgt := 299) hx hb dX4_worth_213 (by decide) ?_
                  obtain ⟨t49, et49⟩ : ∃ y : Int32, y = l8_16 + 1 := ⟨_, rfl⟩
                  have zt49 : t49.toInt = l8_16.toInt + 1 := by rw [et49]; exact add_i rfl (by decide) (by omega) (by omega)
                  refine lv_iinc (v := t49) (lv' := [(8, .int t49), (7, .int t47), (9, .int t29), (0, .ref (x 15)), (1, .int p1), (2, .int p2), (3, .int p3), (4, .int p4), (5, .int p5), (6, .int p6)]) hx hb dX4_worth_299 hl (k := 2) rfl (by rw [et49]; rfl) (by decide) rfl (fun ls hl => ?_)
                  refine lv_goto (tgt := 124) hx hb dX4_worth_302 (by decide) ?_
                  have rg50 := fb_rng t47
                  have rg51 := fb_rng t49
                  exact ih16 t47 t49 v16 f46 hIv16 hq0_v16 hq1_v16 hq9_v16 hq10_v16 hq31_v16 hq32_v16 ⟨show (0 : Int) ≤ t47.toInt by omega, show t47.toInt ≤ (30 : Int) by omega⟩ ⟨show (0 : Int) ≤ t49.toInt by omega, show t49.toInt ≤ (2147483647 : Int) by omega⟩ (by show (2147483647 - t49.toInt).toNat < n16; omega) _ _ _ hP hD hS (lv_sub hl [0, 1, 3, 4, 5, 6, 7, 8, 9] rfl)
            · skip
              have zc30 : ¬ (t29.toInt = 2) := by rw [fa_eq, show (2 : Int32).toInt = 2 from by decide] at c30; exact c30
              refine lv_iload hx hb dX4_worth_156 (lv_at hl 0 rfl) ?_
              refine lv_bipush (v := 116) hx hb dX4_worth_158 (by decide) ?_
              refine lv_icmp_lt (tgt := 216) hx hb dX4_worth_160 (by decide) (fun c52 => ?_) (fun c52 => ?_)
              · skip
                have zc52 : t29.toInt < 116 := by rw [fa_lt, show (116 : Int32).toInt = 116 from by decide] at c52; exact c52
                refine lv_iload hx hb dX4_worth_216 (lv_at hl 0 rfl) ?_
                refine lv_bipush (v := 115) hx hb dX4_worth_218 (by decide) ?_
                refine lv_icmp_ne (tgt := 258) hx hb dX4_worth_220 (by decide) (fun c53 => ?_) (fun c53 => ?_)
                · skip
                  have zc53 : ¬ (t29.toInt = 115) := by rw [fa_eq, show (115 : Int32).toInt = 115 from by decide] at c53; exact c53
                  refine lv_iload hx hb dX4_worth_258 (lv_at hl 2 rfl) ?_
                  refine lv_iconst (v := 2) hx hb dX4_worth_260 (by decide) ?_
                  refine lv_icmp_lt (tgt := 299) hx hb dX4_worth_261 (by decide) (fun c54 => ?_) (fun c54 => ?_)
                  · skip
                    have zc54 : l7_16.toInt < 2 := by rw [fa_lt, show (2 : Int32).toInt = 2 from by decide] at c54; exact c54
                    obtain ⟨t55, et55⟩ : ∃ y : Int32, y = l8_16 + 1 := ⟨_, rfl⟩
                    have zt55 : t55.toInt = l8_16.toInt + 1 := by rw [et55]; exact add_i rfl (by decide) (by omega) (by omega)
                    refine lv_iinc (v := t55) (lv' := [(8, .int t55), (9, .int t29), (7, .int l7_16), (0, .ref (x 15)), (1, .int p1), (2, .int p2), (3, .int p3), (4, .int p4), (5, .int p5), (6, .int p6)]) hx hb dX4_worth_299 hl (k := 1) rfl (by rw [et55]; rfl) (by decide) rfl (fun ls hl => ?_)
                    refine lv_goto (tgt := 124) hx hb dX4_worth_302 (by decide) ?_
                    have rg56 := fb_rng l7_16
                    have rg57 := fb_rng t55
                    exact ih16 l7_16 t55 v16 f16 hIv16 hq0_v16 hq1_v16 hq9_v16 hq10_v16 hq31_v16 hq32_v16 ⟨show (0 : Int) ≤ l7_16.toInt by omega, show l7_16.toInt ≤ (30 : Int) by omega⟩ ⟨show (0 : Int) ≤ t55.toInt by omega, show t55.toInt ≤ (2147483647 : Int) by omega⟩ (by show (2147483647 - t55.toInt).toNat < n16; omega) _ _ _ hP hD hS (lv_sub hl [0, 2, 3, 4, 5, 6, 7, 8, 9] rfl)
                  · skip
                    have zc54 : ¬ (l7_16.toInt < 2) := by rw [fa_lt, show (2 : Int32).toInt = 2 from by decide] at c54; exact c54
                    refine lv_aload_n hx hb dX4_worth_264 rfl (lv_at hl 3 rfl) ?_
                    refine va_get (D := (dC, dI)) (ci := 4) (v := .ref (x 18)) (C := RX4) (T := TX4) (N := 6) hx hb hts inB_4 hown hE.1 hP 16 rfl rfl 2 (by decide) (hts _ k_180) (fun _ h9 => h9) rfl dX4_worth_265 ?_
                    refine lv_iload hx hb dX4_worth_268 (lv_at hl 2 rfl) ?_
                    refine lv_iconst (v := 2) hx hb dX4_worth_270 (by decide) ?_
                    refine lv_isub hx hb dX4_worth_271 ?_
                    refine lv_topi (fun t58 et58 => ?_)
                    have rg59 := fb_rng l7_16
                    have zt58 : t58.toInt = l7_16.toInt - 2 := by rw [et58]; exact sub_i rfl (by decide) (by omega) (by omega)
                    refine lv_iload hx hb dX4_worth_272 (lv_at hl 0 rfl) ?_
                    refine lv_aload_n hx hb dX4_worth_274 rfl (lv_at hl 3 rfl) ?_
                    refine va_get (D := (dC, dI)) (ci := 4) (v := .ref (x 18)) (C := RX4) (T := TX4) (N := 6) hx hb hts inB_4 hown hE.1 hP 16 rfl rfl 2 (by decide) (hts _ k_180) (fun _ h9 => h9) rfl dX4_worth_275 ?_
                    refine lv_iload hx hb dX4_worth_278 (lv_at hl 2 rfl) ?_
                    refine lv_iconst (v := 2) hx hb dX4_worth_280 (by decide) ?_
                    refine lv_isub hx hb dX4_worth_281 ?_
                    refine tI (y := t58) et58.symm ?_
                    refine ldI hx hb hE hP 19 rfl (vp_in_iff.mpr ⟨by omega, by omega⟩) rfl rfl dX4_worth_282 ?_
                    refine lv_topi (fun t60 et60 => ?_)
                    refine lv_aload_n hx hb dX4_worth_283 rfl (lv_at hl 3 rfl) ?_
                    refine va_get (D := (dC, dI)) (ci := 4) (v := .ref (x 18)) (C := RX4) (T := TX4) (N := 6) hx hb hts inB_4 hown hE.1 hP 16 rfl rfl 2 (by decide) (hts _ k_180) (fun _ h9 => h9) rfl dX4_worth_284 ?_
                    refine lv_iload hx hb dX4_worth_287 (lv_at hl 2 rfl) ?_
                    refine lv_iconst (v := 1) hx hb dX4_worth_289 (by decide) ?_
                    refine lv_isub hx hb dX4_worth_290 ?_
                    refine lv_topi (fun t61 et61 => ?_)
                    have zt61 : t61.toInt = l7_16.toInt - 1 := by rw [et61]; exact sub_i rfl (by decide) (by omega) (by omega)
                    refine ldI hx hb hE hP 19 rfl (vp_in_iff.mpr ⟨by omega, by omega⟩) rfl rfl dX4_worth_291 ?_
                    refine lv_topi (fun t62 et62 => ?_)
                    refine cbSi (n := 3) (rest := [.int t58, .ref (x 18)]) hx hb hml hown hts hE hP hD hS hA (sX_X4_joined_1 l dC dI cy x0 x t29 t60 t62 v16 f16 hIv16 ) k_841 k_842 k_105 k_843 (by decide +kernel) ⟨Nat.le_of_ble_eq_true rfl, Nat.le_of_ble_eq_true rfl⟩ (rfl) hl.1 rfl (Nat.le_of_ble_eq_true rfl) dX4_worth_292 (fun r63 u H locs hw hP hD hS => ?_)
                    refine stI hx hb hE hP hD hS 19 rfl (vp_in_iff.mpr ⟨by omega, by omega⟩) rfl dX4_worth_295 (fun H locs hP hD hS => ?_)
                    obtain ⟨f64, hP, hD⟩ : ∃ fz9, va_P (dC, dI) vwCl (XW cy x0 x v16 fz9) H ∧ va_D A (XW cy x0 x v16 fz9) := ⟨upd2 f16 13 (upd (f16 13) t58.toNatClampNeg r63), hP, hD⟩
                    obtain ⟨t65, et65⟩ : ∃ y : Int32, y = l7_16 + (-1) := ⟨_, rfl⟩
                    have zt65 : t65.toInt = l7_16.toInt + (-1) := by rw [et65]; exact add_i rfl (by decide) (by omega) (by omega)
                    refine lv_iinc (v := t65) (lv' := [(7, .int t65), (9, .int t29), (8, .int l8_16), (0, .ref (x 15)), (1, .int p1), (2, .int p2), (3, .int p3), (4, .int p4), (5, .int p5), (6, .int p6)]) hx hb dX4_worth_296 hl (k := 2) rfl (by rw [et65]; rfl) (by decide) rfl (fun ls hl => ?_)
                    obtain ⟨t66, et66⟩ : ∃ y : Int32, y = l8_16 + 1 := ⟨_, rfl⟩
                    have zt66 : t66.toInt = l8_16.toInt + 1 := by rw [et66]; exact add_i rfl (by decide) (by omega) (by omega)
                    refine lv_iinc (v := t66) (lv' := [(8, .int t66), (7, .int t65), (9, .int t29), (0, .ref (x 15)), (1, .int p1), (2, .int p2), (3, .int p3), (4, .int p4), (5, .int p5), (6, .int p6)]) hx hb dX4_worth_299 hl (k := 2) rfl (by rw [et66]; rfl) (by decide) rfl (fun ls hl => ?_)
                    refine lv_goto (tgt := 124) hx hb dX4_worth_302 (by decide) ?_
                    have rg67 := fb_rng t65
                    have rg68 := fb_rng t66
                    exact ih16 t65 t66 v16 f64 hIv16 hq0_v16 hq1_v16 hq9_v16 hq10_v16 hq31_v16 hq32_v16 ⟨show (0 : Int) ≤ t65.toInt by omega, show t65.toInt ≤ (30 : Int) by omega⟩ ⟨show (0 : Int) ≤ t66.toInt by omega, show t66.toInt ≤ (2147483647 : Int) by omega⟩ (by show (2147483647 - t66.toInt).toNat < n16; omega) _ _ _ hP hD hS (lv_sub hl [0, 1, 3, 4, 5, 6, 7, 8, 9] rfl)
                · skip
                  have zc53 : t29.toInt = 115 := by rw [fa_eq, show (115 : Int32).toInt = 115 from by decide] at c53; exact c53
                  refine lv_iload hx hb dX4_worth_223 (lv_at hl 2 rfl) ?_
                  refine lv_iconst (v := 1) hx hb dX4_worth_225 (by decide) ?_
                  refine lv_icmp_lt (tgt := 258) hx hb dX4_worth_226 (by decide) (fun c69 => ?_) (fun c69 => ?_)
                  · skip
                    have zc69 : l7_16.toInt < 1 := by rw [fa_lt, show (1 : Int32).toInt = 1 from by decide] at c69; exact c69
                    refine lv_iload hx hb dX4_worth_258 (lv_at hl 2 rfl) ?_
                    refine lv_iconst (v := 2) hx hb dX4_worth_260 (by decide) ?_
                    refine lv_icmp_lt (tgt := 299) hx hb dX4_worth_261 (by decide) (fun c70 => ?_) (fun c70 => ?_)
                    · skip
                      have zc70 : l7_16.toInt < 2 := by rw [fa_lt, show (2 : Int32).toInt = 2 from by decide] at c70; exact c70
                      obtain ⟨t71, et71⟩ : ∃ y : Int32, y = l8_16 + 1 := ⟨_, rfl⟩
                      have zt71 : t71.toInt = l8_16.toInt + 1 := by rw [et71]; exact add_i rfl (by decide) (by omega) (by omega)
                      refine lv_iinc (v := t71) (lv' := [(8, .int t71), (9, .int t29), (7, .int l7_16), (0, .ref (x 15)), (1, .int p1), (2, .int p2), (3, .int p3), (4, .int p4), (5, .int p5), (6, .int p6)]) hx hb dX4_worth_299 hl (k := 1) rfl (by rw [et71]; rfl) (by decide) rfl (fun ls hl => ?_)
                      refine lv_goto (tgt := 124) hx hb dX4_worth_302 (by decide) ?_
                      have rg72 := fb_rng l7_16
                      have rg73 := fb_rng t71
                      exact ih16 l7_16 t71 v16 f16 hIv16 hq0_v16 hq1_v16 hq9_v16 hq10_v16 hq31_v16 hq32_v16 ⟨show (0 : Int) ≤ l7_16.toInt by omega, show l7_16.toInt ≤ (30 : Int) by omega⟩ ⟨show (0 : Int) ≤ t71.toInt by omega, show t71.toInt ≤ (2147483647 : Int) by omega⟩ (by show (2147483647 - t71.toInt).toNat < n16; omega) _ _ _ hP hD hS (lv_sub hl [0, 2, 3, 4, 5, 6, 7, 8, 9] rfl)
                    · skip
                      have zc70 : ¬ (l7_16.toInt < 2) := by rw [fa_lt, show (2 : Int32).toInt = 2 from by decide] at c70; exact c70
                      refine lv_aload_n hx hb dX4_worth_264 rfl (lv_at hl 3 rfl) ?_
                      refine va_get (D := (dC, dI)) (ci := 4) (v := .ref (x 18)) (C := RX4) (T := TX4) (N := 6) hx hb hts inB_4 hown hE.1 hP 16 rfl rfl 2 (by decide) (hts _ k_180) (fun _ h9 => h9) rfl dX4_worth_265 ?_
                      refine lv_iload hx hb dX4_worth_268 (lv_at hl 2 rfl) ?_
                      refine lv_iconst (v := 2) hx hb dX4_worth_270 (by decide) ?_
                      refine lv_isub hx hb dX4_worth_271 ?_
                      refine lv_topi (fun t74 et74 => ?_)
                      have rg75 := fb_rng l7_16
                      have zt74 : t74.toInt = l7_16.toInt - 2 := by rw [et74]; exact sub_i rfl (by decide) (by omega) (by omega)
                      refine lv_iload hx hb dX4_worth_272 (lv_at hl 0 rfl) ?_
                      refine lv_aload_n hx hb dX4_worth_274 rfl (lv_at hl 3 rfl) ?_
                      refine va_get (D := (dC, dI)) (ci := 4) (v := .ref (x 18)) (C := RX4) (T := TX4) (N := 6) hx hb hts inB_4 hown hE.1 hP 16 rfl rfl 2 (by decide) (hts _ k_180) (fun _ h9 => h9) rfl dX4_worth_275 ?_
                      refine lv_iload hx hb dX4_worth_278 (lv_at hl 2 rfl) ?_
                      refine lv_iconst (v := 2) hx hb dX4_worth_280 (by decide) ?_
                      refine lv_isub hx hb dX4_worth_281 ?_
                      refine tI (y := t74) et74.symm ?_
                      refine ldI hx hb hE hP 19 rfl (vp_in_iff.mpr ⟨by omega, by omega⟩) rfl rfl dX4_worth_282 ?_
                      refine lv_topi (fun t76 et76 => ?_)
                      refine lv_aload_n hx hb dX4_worth_283 rfl (lv_at hl 3 rfl) ?_
                      refine va_get (D := (dC, dI)) (ci := 4) (v := .ref (x 18)) (C := RX4) (T := TX4) (N := 6) hx hb hts inB_4 hown hE.1 hP 16 rfl rfl 2 (by decide) (hts _ k_180) (fun _ h9 => h9) rfl dX4_worth_284 ?_
                      refine lv_iload hx hb dX4_worth_287 (lv_at hl 2 rfl) ?_
                      refine lv_iconst (v := 1) hx hb dX4_worth_289 (by decide) ?_
                      refine lv_isub hx hb dX4_worth_290 ?_
                      refine lv_topi (fun t77 et77 => ?_)
                      have zt77 : t77.toInt = l7_16.toInt - 1 := by rw [et77]; exact sub_i rfl (by decide) (by omega) (by omega)
                      refine ldI hx hb hE hP 19 rfl (vp_in_iff.mpr ⟨by omega, by omega⟩) rfl rfl dX4_worth_291 ?_
                      refine lv_topi (fun t78 et78 => ?_)
                      refine cbSi (n := 3) (rest := [.int t74, .ref (x 18)]) hx hb hml hown hts hE hP hD hS hA (sX_X4_joined_1 l dC dI cy x0 x t29 t76 t78 v16 f16 hIv16 ) k_841 k_842 k_105 k_843 (by decide +kernel) ⟨Nat.le_of_ble_eq_true rfl, Nat.le_of_ble_eq_true rfl⟩ (rfl) hl.1 rfl (Nat.le_of_ble_eq_true rfl) dX4_worth_292 (fun r79 u H locs hw hP hD hS => ?_)
                      refine stI hx hb hE hP hD hS 19 rfl (vp_in_iff.mpr ⟨by omega, by omega⟩) rfl dX4_worth_295 (fun H locs hP hD hS => ?_)
                      obtain ⟨f80, hP, hD⟩ : ∃ fz9, va_P (dC, dI) vwCl (XW cy x0 x v16 fz9) H ∧ va_D A (XW cy x0 x v16 fz9) := ⟨upd2 f16 13 (upd (f16 13) t74.toNatClampNeg r79), hP, hD⟩
                      obtain ⟨t81, et81⟩ : ∃ y : Int32, y = l7_16 + (-1) := ⟨_, rfl⟩
                      have zt81 : t81.toInt = l7_16.toInt + (-1) := by rw [et81]; exact add_i rfl (by decide) (by omega) (by omega)
                      refine lv_iinc (v := t81) (lv' := [(7, .int t81), (9, .int t29), (8, .int l8_16), (0, .ref (x 15)), (1, .int p1), (2, .int p2), (3, .int p3), (4, .int p4), (5, .int p5), (6, .int p6)]) hx hb dX4_worth_296 hl (k := 2) rfl (by rw [et81]; rfl) (by decide) rfl (fun ls hl => ?_)
                      obtain ⟨t82, et82⟩ : ∃ y : Int32, y = l8_16 + 1 := ⟨_, rfl⟩
                      have zt82 : t82.toInt = l8_16.toInt + 1 := by rw [et82]; exact add_i rfl (by decide) (by omega) (by omega)
                      refine lv_iinc (v := t82) (lv' := [(8, .int t82), (7, .int t81), (9, .int t29), (0, .ref (x 15)), (1, .int p1), (2, .int p2), (3, .int p3), (4, .int p4), (5, .int p5), (6, .int p6)]) hx hb dX4_worth_299 hl (k := 2) rfl (by rw [et82]; rfl) (by decide) rfl (fun ls hl => ?_)
                      refine lv_goto (tgt := 124) hx hb dX4_worth_302 (by decide) ?_
                      have rg83 := fb_rng t81
                      have rg84 := fb_rng t82
                      exact ih16 t81 t82 v16 f80 hIv16 hq0_v16 hq1_v16 hq9_v16 hq10_v16 hq31_v16 hq32_v16 ⟨show (0 : Int) ≤ t81.toInt by omega, show t81.toInt ≤ (30 : Int) by omega⟩ ⟨show (0 : Int) ≤ t82.toInt by omega, show t82.toInt ≤ (2147483647 : Int) by omega⟩ (by show (2147483647 - t82.toInt).toNat < n16; omega) _ _ _ hP hD hS (lv_sub hl [0, 1, 3, 4, 5, 6, 7, 8, 9] rfl)
                  · skip
                    have zc69 : ¬ (l7_16.toInt < 1) := by rw [fa_lt, show (1 : Int32).toInt = 1 from by decide] at c69; exact c69
                    refine lv_aload_n hx hb dX4_worth_229 rfl (lv_at hl 3 rfl) ?_
                    refine va_get (D := (dC, dI)) (ci := 4) (v := .ref (x 18)) (C := RX4) (T := TX4) (N := 6) hx hb hts inB_4 hown hE.1 hP 16 rfl rfl 2 (by decide) (hts _ k_180) (fun _ h9 => h9) rfl dX4_worth_230 ?_
                    refine lv_iload hx hb dX4_worth_233 (lv_at hl 2 rfl) ?_
                    refine lv_iconst (v := 1) hx hb dX4_worth_235 (by decide) ?_
                    refine lv_isub hx hb dX4_worth_236 ?_
                    refine lv_topi (fun t85 et85 => ?_)
                    have rg86 := fb_rng l7_16
                    have zt85 : t85.toInt = l7_16.toInt - 1 := by rw [et85]; exact sub_i rfl (by decide) (by omega) (by omega)
                    refine lv_aload_n hx hb dX4_worth_237 rfl (lv_at hl 3 rfl) ?_
                    refine va_get (D := (dC, dI)) (ci := 4) (v := .ref (x 18)) (C := RX4) (T := TX4) (N := 6) hx hb hts inB_4 hown hE.1 hP 16 rfl rfl 2 (by decide) (hts _ k_180) (fun _ h9 => h9) rfl dX4_worth_238 ?_
                    refine lv_iload hx hb dX4_worth_241 (lv_at hl 2 rfl) ?_
                    refine lv_iconst (v := 1) hx hb dX4_worth_243 (by decide) ?_
                    refine lv_isub hx hb dX4_worth_244 ?_
                    refine tI (y := t85) et85.symm ?_
                    refine ldI hx hb hE hP 19 rfl (vp_in_iff.mpr ⟨by omega, by omega⟩) rfl rfl dX4_worth_245 ?_
                    refine lv_topi (fun t87 et87 => ?_)
                    refine lv_if_ne (tgt := 253) hx hb dX4_worth_246 (by decide) (fun c88 => ?_) (fun c88 => ?_)
                    · skip
                      have zc88 : ¬ (t87.toInt = 0) := by rw [fa_eq, show (0 : Int32).toInt = 0 from by decide] at c88; exact c88
                      refine lv_iconst (v := 0) hx hb dX4_worth_253 (by decide) ?_
                      refine stI hx hb hE hP hD hS 19 rfl (vp_in_iff.mpr ⟨by omega, by omega⟩) rfl dX4_worth_254 (fun H locs hP hD hS => ?_)
                      obtain ⟨f89, hP, hD⟩ : ∃ fz9, va_P (dC, dI) vwCl (XW cy x0 x v16 fz9) H ∧ va_D A (XW cy x0 x v16 fz9) := ⟨upd2 f16 13 (upd (f16 13) t85.toNatClampNeg 0), hP, hD⟩
                      refine lv_goto (tgt := 299) hx hb dX4_worth_255 (by decide) ?_
                      obtain ⟨t90, et90⟩ : ∃ y : Int32, y = l8_16 + 1 := ⟨_, rfl⟩
                      have zt90 : t90.toInt = l8_16.toInt + 1 := by rw [et90]; exact add_i rfl (by decide) (by omega) (by omega)
                      refine lv_iinc (v := t90) (lv' := [(8, .int t90), (9, .int t29), (7, .int l7_16), (0, .ref (x 15)), (1, .int p1), (2, .int p2), (3, .int p3), (4, .int p4), (5, .int p5), (6, .int p6)]) hx hb dX4_worth_299 hl (k := 1) rfl (by rw [et90]; rfl) (by decide) rfl (fun ls hl => ?_)
                      refine lv_goto (tgt := 124) hx hb dX4_worth_302 (by decide) ?_
                      have rg91 := fb_rng t90
                      exact ih16 l7_16 t90 v16 f89 hIv16 hq0_v16 hq1_v16 hq9_v16 hq10_v16 hq31_v16 hq32_v16 ⟨show (0 : Int) ≤ l7_16.toInt by omega, show l7_16.toInt ≤ (30 : Int) by omega⟩ ⟨show (0 : Int) ≤ t90.toInt by omega, show t90.toInt ≤ (2147483647 : Int) by omega⟩ (by show (2147483647 - t90.toInt).toNat < n16; omega) _ _ _ hP hD hS (lv_sub hl [0, 2, 3, 4, 5, 6, 7, 8, 9] rfl)
                    · skip
                      have zc88 : t87.toInt = 0 := by rw [fa_eq, show (0 : Int32).toInt = 0 from by decide] at c88; exact c88
                      refine lv_iconst (v := 1) hx hb dX4_worth_249 (by decide) ?_
                      refine lv_goto (tgt := 254) hx hb dX4_worth_250 (by decide) ?_
                      refine stI hx hb hE hP hD hS 19 rfl (vp_in_iff.mpr ⟨by omega, by omega⟩) rfl dX4_worth_254 (fun H locs hP hD hS => ?_)
                      obtain ⟨f92, hP, hD⟩ : ∃ fz9, va_P (dC, dI) vwCl (XW cy x0 x v16 fz9) H ∧ va_D A (XW cy x0 x v16 fz9) := ⟨upd2 f16 13 (upd (f16 13) t85.toNatClampNeg 1), hP, hD⟩
                      refine lv_goto (tgt := 299) hx hb dX4_worth_255 (by decide) ?_
                      obtain ⟨t93, et93⟩ : ∃ y : Int32, y = l8_16 + 1 := ⟨_, rfl⟩
                      have zt93 : t93.toInt = l8_16.toInt + 1 := by rw [et93]; exact add_i rfl (by decide) (by omega) (by omega)
                      refine lv_iinc (v := t93) (lv' := [(8, .int t93), (9, .int t29), (7, .int l7_16), (0, .ref (x 15)), (1, .int p1), (2, .int p2), (3, .int p3), (4, .int p4), (5, .int p5), (6, .int p6)]) hx hb dX4_worth_299 hl (k := 1) rfl (by rw [et93]; rfl) (by decide) rfl (fun ls hl => ?_)
                      refine lv_goto (tgt := 124) hx hb dX4_worth_302 (by decide) ?_
                      have rg94 := fb_rng t93
                      exact ih16 l7_16 t93 v16 f92 hIv16 hq0_v16 hq1_v16 hq9_v16 hq10_v16 hq31_v16 hq32_v16 ⟨show (0 : Int) ≤ l7_16.toInt by omega, show l7_16.toInt ≤ (30 : Int) by omega⟩ ⟨show (0 : Int) ≤ t93.toInt by omega, show t93.toInt ≤ (2147483647 : Int) by omega⟩ (by show (2147483647 - t93.toInt).toNat < n16; omega) _ _ _ hP hD hS (lv_sub hl [0, 2, 3, 4, 5, 6, 7, 8, 9] rfl)
              · skip
                have zc52 : ¬ (t29.toInt < 116) := by rw [fa_lt, show (116 : Int32).toInt = 116 from by decide] at c52; exact c52
                refine lv_iload hx hb dX4_worth_163 (lv_at hl 0 rfl) ?_
                refine lv_bipush (v := 122) hx hb dX4_worth_165 (by decide) ?_
                refine lv_icmp_ge (tgt := 216) hx hb dX4_worth_167 (by decide) (fun c95 => ?_) (fun c95 => ?_)
                · skip
                  have zc95 : 122 ≤ t29.toInt := by rw [fa_le, show (122 : Int32).toInt = 122 from by decide] at c95; exact c95
                  refine lv_iload hx hb dX4_worth_216 (lv_at hl 0 rfl) ?_
                  refine lv_bipush (v := 115) hx hb dX4_worth_218 (by decide) ?_
                  refine lv_icmp_ne (tgt := 258) hx hb dX4_worth_220 (by decide) (fun c96 => ?_) (fun c96 => ?_)
                  · skip
                    have zc96 : ¬ (t29.toInt = 115) := by rw [fa_eq, show (115 : Int32).toInt = 115 from by decide] at c96; exact c96
                    refine lv_iload hx hb dX4_worth_258 (lv_at hl 2 rfl) ?_
                    refine lv_iconst (v := 2) hx hb dX4_worth_260 (by decide) ?_
                    refine lv_icmp_lt (tgt := 299) hx hb dX4_worth_261 (by decide) (fun c97 => ?_) (fun c97 => ?_)
                    · skip
                      have zc97 : l7_16.toInt < 2 := by rw [fa_lt, show (2 : Int32).toInt = 2 from by decide] at c97; exact c97
                      obtain ⟨t98, et98⟩ : ∃ y : Int32, y = l8_16 + 1 := ⟨_, rfl⟩
                      have zt98 : t98.toInt = l8_16.toInt + 1 := by rw [et98]; exact add_i rfl (by decide) (by omega) (by omega)
                      refine lv_iinc (v := t98) (lv' := [(8, .int t98), (9, .int t29), (7, .int l7_16), (0, .ref (x 15)), (1, .int p1), (2, .int p2), (3, .int p3), (4, .int p4), (5, .int p5), (6, .int p6)]) hx hb dX4_worth_299 hl (k := 1) rfl (by rw [et98]; rfl) (by decide) rfl (fun ls hl => ?_)
                      refine lv_goto (tgt := 124) hx hb dX4_worth_302 (by decide) ?_
                      have rg99 := fb_rng l7_16
                      have rg100 := fb_rng t98
                      exact ih16 l7_16 t98 v16 f16 hIv16 hq0_v16 hq1_v16 hq9_v16 hq10_v16 hq31_v16 hq32_v16 ⟨show (0 : Int) ≤ l7_16.toInt by omega, show l7_16.toInt ≤ (30 : Int) by omega⟩ ⟨show (0 : Int) ≤ t98.toInt by omega, show t98.toInt ≤ (2147483647 : Int) by omega⟩ (by show (2147483647 - t98.toInt).toNat < n16; omega) _ _ _ hP hD hS (lv_sub hl [0, 2, 3, 4, 5, 6, 7, 8, 9] rfl)
                    · skip
                      have zc97 : ¬ (l7_16.toInt < 2) := by rw [fa_lt, show (2 : Int32).toInt = 2 from by decide] at c97; exact c97
                      refine lv_aload_n hx hb dX4_worth_264 rfl (lv_at hl 3 rfl) ?_
                      refine va_get (D := (dC, dI)) (ci := 4) (v := .ref (x 18)) (C := RX4) (T := TX4) (N := 6) hx hb hts inB_4 hown hE.1 hP 16 rfl rfl 2 (by decide) (hts _ k_180) (fun _ h9 => h9) rfl dX4_worth_265 ?_
                      refine lv_iload hx hb dX4_worth_268 (lv_at hl 2 rfl) ?_
                      refine lv_iconst (v := 2) hx hb dX4_worth_270 (by decide) ?_
                      refine lv_isub hx hb dX4_worth_271 ?_
                      refine lv_topi (fun t101 et101 => ?_)
                      have rg102 := fb_rng l7_16
                      have zt101 : t101.toInt = l7_16.toInt - 2 := by rw [et101]; exact sub_i rfl (by decide) (by omega) (by omega)
                      refine lv_iload hx hb dX4_worth_272 (lv_at hl 0 rfl) ?_
                      refine lv_aload_n hx hb dX4_worth_274 rfl (lv_at hl 3 rfl) ?_
                      refine va_get (D := (dC, dI)) (ci := 4) (v := .ref (x 18)) (C := RX4) (T := TX4) (N := 6) hx hb hts inB_4 hown hE.1 hP 16 rfl rfl 2 (by decide) (hts _ k_180) (fun _ h9 => h9) rfl dX4_worth_275 ?_
                      refine lv_iload hx hb dX4_worth_278 (lv_at hl 2 rfl) ?_
                      refine lv_iconst (v := 2) hx hb dX4_worth_280 (by decide) ?_
                      refine lv_isub hx hb dX4_worth_281 ?_
                      refine tI (y := t101) et101.symm ?_
                      refine ldI hx hb hE hP 19 rfl (vp_in_iff.mpr ⟨by omega, by omega⟩) rfl rfl dX4_worth_282 ?_
                      refine lv_topi (fun t103 et103 => ?_)
                      refine lv_aload_n hx hb dX4_worth_283 rfl (lv_at hl 3 rfl) ?_
                      refine va_get (D := (dC, dI)) (ci := 4) (v := .ref (x 18)) (C := RX4) (T := TX4) (N := 6) hx hb hts inB_4 hown hE.1 hP 16 rfl rfl 2 (by decide) (hts _ k_180) (fun _ h9 => h9) rfl dX4_worth_284 ?_
                      refine lv_iload hx hb dX4_worth_287 (lv_at hl 2 rfl) ?_
                      refine lv_iconst (v := 1) hx hb dX4_worth_289 (by decide) ?_
                      refine lv_isub hx hb dX4_worth_290 ?_
                      refine lv_topi (fun t104 et104 => ?_)
                      have zt104 : t104.toInt = l7_16.toInt - 1 := by rw [et104]; exact sub_i rfl (by decide) (by omega) (by omega)
                      refine ldI hx hb hE hP 19 rfl (vp_in_iff.mpr ⟨by omega, by omega⟩) rfl rfl dX4_worth_291 ?_
                      refine lv_topi (fun t105 et105 => ?_)
                      refine cbSi (n := 3) (rest := [.int t101, .ref (x 18)]) hx hb hml hown hts hE hP hD hS hA (sX_X4_joined_1 l dC dI cy x0 x t29 t103 t105 v16 f16 hIv16 ) k_841 k_842 k_105 k_843 (by decide +kernel) ⟨Nat.le_of_ble_eq_true rfl, Nat.le_of_ble_eq_true rfl⟩ (rfl) hl.1 rfl (Nat.le_of_ble_eq_true rfl) dX4_worth_292 (fun r106 u H locs hw hP hD hS => ?_)
                      refine stI hx hb hE hP hD hS 19 rfl (vp_in_iff.mpr ⟨by omega, by omega⟩) rfl dX4_worth_295 (fun H locs hP hD hS => ?_)
                      obtain ⟨f107, hP, hD⟩ : ∃ fz9, va_P (dC, dI) vwCl (XW cy x0 x v16 fz9) H ∧ va_D A (XW cy x0 x v16 fz9) := ⟨upd2 f16 13 (upd (f16 13) t101.toNatClampNeg r106), hP, hD⟩
                      obtain ⟨t108, et108⟩ : ∃ y : Int32, y = l7_16 + (-1) := ⟨_, rfl⟩
                      have zt108 : t108.toInt = l7_16.toInt + (-1) := by rw [et108]; exact add_i rfl (by decide) (by omega) (by omega)
                      refine lv_iinc (v := t108) (lv' := [(7, .int t108), (9, .int t29), (8, .int l8_16), (0, .ref (x 15)), (1, .int p1), (2, .int p2), (3, .int p3), (4, .int p4), (5, .int p5), (6, .int p6)]) hx hb dX4_worth_296 hl (k := 2) rfl (by rw [et108]; rfl) (by decide) rfl (fun ls hl => ?_)
                      obtain ⟨t109, et109⟩ : ∃ y : Int32, y = l8_16 + 1 := ⟨_, rfl⟩
                      have zt109 : t109.toInt = l8_16.toInt + 1 := by rw [et109]; exact add_i rfl (by decide) (by omega) (by omega)
                      refine lv_iinc (v := t109) (lv' := [(8, .int t109), (7, .int t108), (9, .int t29), (0, .ref (x 15)), (1, .int p1), (2, .int p2), (3, .int p3), (4, .int p4), (5, .int p5), (6, .int p6)]) hx hb dX4_worth_299 hl (k := 2) rfl (by rw [et109]; rfl) (by decide) rfl (fun ls hl => ?_)
                      refine lv_goto (tgt := 124) hx hb dX4_worth_302 (by decide) ?_
                      have rg110 := fb_rng t108
                      have rg111 := fb_rng t109
                      exact ih16 t108 t109 v16 f107 hIv16 hq0_v16 hq1_v16 hq9_v16 hq10_v16 hq31_v16 hq32_v16 ⟨show (0 : Int) ≤ t108.toInt by omega, show t108.toInt ≤ (30 : Int) by omega⟩ ⟨show (0 : Int) ≤ t109.toInt by omega, show t109.toInt ≤ (2147483647 : Int) by omega⟩ (by show (2147483647 - t109.toInt).toNat < n16; omega) _ _ _ hP hD hS (lv_sub hl [0, 1, 3, 4, 5, 6, 7, 8, 9] rfl)
                  · skip
                    have zc96 : t29.toInt = 115 := by rw [fa_eq, show (115 : Int32).toInt = 115 from by decide] at c96; exact c96
                    refine lv_iload hx hb dX4_worth_223 (lv_at hl 2 rfl) ?_
                    refine lv_iconst (v := 1) hx hb dX4_worth_225 (by decide) ?_
                    refine lv_icmp_lt (tgt := 258) hx hb dX4_worth_226 (by decide) (fun c112 => ?_) (fun c112 => ?_)
                    · skip
                      have zc112 : l7_16.toInt < 1 := by rw [fa_lt, show (1 : Int32).toInt = 1 from by decide] at c112; exact c112
                      refine lv_iload hx hb dX4_worth_258 (lv_at hl 2 rfl) ?_
                      refine lv_iconst (v := 2) hx hb dX4_worth_260 (by decide) ?_
                      refine lv_icmp_lt (tgt := 299) hx hb dX4_worth_261 (by decide) (fun c113 => ?_) (fun c113 => ?_)
                      · skip
                        have zc113 : l7_16.toInt < 2 := by rw [fa_lt, show (2 : Int32).toInt = 2 from by decide] at c113; exact c113
                        obtain ⟨t114, et114⟩ : ∃ y : Int32, y = l8_16 + 1 := ⟨_, rfl⟩
                        have zt114 : t114.toInt = l8_16.toInt + 1 := by rw [et114]; exact add_i rfl (by decide) (by omega) (by omega)
                        refine lv_iinc (v := t114) (lv' := [(8, .int t114), (9, .int t29), (7, .int l7_16), (0, .ref (x 15)), (1, .int p1), (2, .int p2), (3, .int p3), (4, .int p4), (5, .int p5), (6, .int p6)]) hx hb dX4_worth_299 hl (k := 1) rfl (by rw [et114]; rfl) (by decide) rfl (fun ls hl => ?_)
                        refine lv_goto (tgt := 124) hx hb dX4_worth_302 (by decide) ?_
                        have rg115 := fb_rng l7_16
                        have rg116 := fb_rng t114
                        exact ih16 l7_16 t114 v16 f16 hIv16 hq0_v16 hq1_v16 hq9_v16 hq10_v16 hq31_v16 hq32_v16 ⟨show (0 : Int) ≤ l7_16.toInt by omega, show l7_16.toInt ≤ (30 : Int) by omega⟩ ⟨show (0 : Int) ≤ t114.toInt by omega, show t114.toInt ≤ (2147483647 : Int) by omega⟩ (by show (2147483647 - t114.toInt).toNat < n16; omega) _ _ _ hP hD hS (lv_sub hl [0, 2, 3, 4, 5, 6, 7, 8, 9] rfl)
                      · skip
                        have zc113 : ¬ (l7_16.toInt < 2) := by rw [fa_lt, show (2 : Int32).toInt = 2 from by decide] at c113; exact c113
                        refine lv_aload_n hx hb dX4_worth_264 rfl (lv_at hl 3 rfl) ?_
                        refine va_get (D := (dC, dI)) (ci := 4) (v := .ref (x 18)) (C := RX4) (T := TX4) (N := 6) hx hb hts inB_4 hown hE.1 hP 16 rfl rfl 2 (by decide) (hts _ k_180) (fun _ h9 => h9) rfl dX4_worth_265 ?_
                        refine lv_iload hx hb dX4_worth_268 (lv_at hl 2 rfl) ?_
                        refine lv_iconst (v := 2) hx hb dX4_worth_270 (by decide) ?_
                        refine lv_isub hx hb dX4_worth_271 ?_
                        refine lv_topi (fun t117 et117 => ?_)
                        have rg118 := fb_rng l7_16
                        have zt117 : t117.toInt = l7_16.toInt - 2 := by rw [et117]; exact sub_i rfl (by decide) (by omega) (by omega)
                        refine lv_iload hx hb dX4_worth_272 (lv_at hl 0 rfl) ?_
                        refine lv_aload_n hx hb dX4_worth_274 rfl (lv_at hl 3 rfl) ?_
                        refine va_get (D := (dC, dI)) (ci := 4) (v := .ref (x 18)) (C := RX4) (T := TX4) (N := 6) hx hb hts inB_4 hown hE.1 hP 16 rfl rfl 2 (by decide) (hts _ k_180) (fun _ h9 => h9) rfl dX4_worth_275 ?_
                        refine lv_iload hx hb dX4_worth_278 (lv_at hl 2 rfl) ?_
                        refine lv_iconst (v := 2) hx hb dX4_worth_280 (by decide) ?_
                        refine lv_isub hx hb dX4_worth_281 ?_
                        refine tI (y := t117) et117.symm ?_
                        refine ldI hx hb hE hP 19 rfl (vp_in_iff.mpr ⟨by omega, by omega⟩) rfl rfl dX4_worth_282 ?_
                        refine lv_topi (fun t119 et119 => ?_)
                        refine lv_aload_n hx hb dX4_worth_283 rfl (lv_at hl 3 rfl) ?_
                        refine va_get (D := (dC, dI)) (ci := 4) (v := .ref (x 18)) (C := RX4) (T := TX4) (N := 6) hx hb hts inB_4 hown hE.1 hP 16 rfl rfl 2 (by decide) (hts _ k_180) (fun _ h9 => h9) rfl dX4_worth_284 ?_
                        refine lv_iload hx hb dX4_worth_287 (lv_at hl 2 rfl) ?_
                        refine lv_iconst (v := 1) hx hb dX4_worth_289 (by decide) ?_
                        refine lv_isub hx hb dX4_worth_290 ?_
                        refine lv_topi (fun t120 et120 => ?_)
                        have zt120 : t120.toInt = l7_16.toInt - 1 := by rw [et120]; exact sub_i rfl (by decide) (by omega) (by omega)
                        refine ldI hx hb hE hP 19 rfl (vp_in_iff.mpr ⟨by omega, by omega⟩) rfl rfl dX4_worth_291 ?_
                        refine lv_topi (fun t121 et121 => ?_)
                        refine cbSi (n := 3) (rest := [.int t117, .ref (x 18)]) hx hb hml hown hts hE hP hD hS hA (sX_X4_joined_1 l dC dI cy x0 x t29 t119 t121 v16 f16 hIv16 ) k_841 k_842 k_105 k_843 (by decide +kernel) ⟨Nat.le_of_ble_eq_true rfl, Nat.le_of_ble_eq_true rfl⟩ (rfl) hl.1 rfl (Nat.le_of_ble_eq_true rfl) dX4_worth_292 (fun r122 u H locs hw hP hD hS => ?_)
                        refine stI hx hb hE hP hD hS 19 rfl (vp_in_iff.mpr ⟨by omega, by omega⟩) rfl dX4_worth_295 (fun H locs hP hD hS => ?_)
                        obtain ⟨f123, hP, hD⟩ : ∃ fz9, va_P (dC, dI) vwCl (XW cy x0 x v16 fz9) H ∧ va_D A (XW cy x0 x v16 fz9) := ⟨upd2 f16 13 (upd (f16 13) t117.toNatClampNeg r122), hP, hD⟩
                        obtain ⟨t124, et124⟩ : ∃ y : Int32, y = l7_16 + (-1) := ⟨_, rfl⟩
                        have zt124 : t124.toInt = l7_16.toInt + (-1) := by rw [et124]; exact add_i rfl (by decide) (by omega) (by omega)
                        refine lv_iinc (v := t124) (lv' := [(7, .int t124), (9, .int t29), (8, .int l8_16), (0, .ref (x 15)), (1, .int p1), (2, .int p2), (3, .int p3), (4, .int p4), (5, .int p5), (6, .int p6)]) hx hb dX4_worth_296 hl (k := 2) rfl (by rw [et124]; rfl) (by decide) rfl (fun ls hl => ?_)
                        obtain ⟨t125, et125⟩ : ∃ y : Int32, y = l8_16 + 1 := ⟨_, rfl⟩
                        have zt125 : t125.toInt = l8_16.toInt + 1 := by rw [et125]; exact add_i rfl (by decide) (by omega) (by omega)
                        refine lv_iinc (v := t125) (lv' := [(8, .int t125), (7, .int t124), (9, .int t29), (0, .ref (x 15)), (1, .int p1), (2, .int p2), (3, .int p3), (4, .int p4), (5, .int p5), (6, .int p6)]) hx hb dX4_worth_299 hl (k := 2) rfl (by rw [et125]; rfl) (by decide) rfl (fun ls hl => ?_)
                        refine lv_goto (tgt := 124) hx hb dX4_worth_302 (by decide) ?_
                        have rg126 := fb_rng t124
                        have rg127 := fb_rng t125
                        exact ih16 t124 t125 v16 f123 hIv16 hq0_v16 hq1_v16 hq9_v16 hq10_v16 hq31_v16 hq32_v16 ⟨show (0 : Int) ≤ t124.toInt by omega, show t124.toInt ≤ (30 : Int) by omega⟩ ⟨show (0 : Int) ≤ t125.toInt by omega, show t125.toInt ≤ (2147483647 : Int) by omega⟩ (by show (2147483647 - t125.toInt).toNat < n16; omega) _ _ _ hP hD hS (lv_sub hl [0, 1, 3, 4, 5, 6, 7, 8, 9] rfl)
                    · skip
                      have zc112 : ¬ (l7_16.toInt < 1) := by rw [fa_lt, show (1 : Int32).toInt = 1 from by decide] at c112; exact c112
                      refine lv_aload_n hx hb dX4_worth_229 rfl (lv_at hl 3 rfl) ?_
                      refine va_get (D := (dC, dI)) (ci := 4) (v := .ref (x 18)) (C := RX4) (T := TX4) (N := 6) hx hb hts inB_4 hown hE.1 hP 16 rfl rfl 2 (by decide) (hts _ k_180) (fun _ h9 => h9) rfl dX4_worth_230 ?_
                      refine lv_iload hx hb dX4_worth_233 (lv_at hl 2 rfl) ?_
                      refine lv_iconst (v := 1) hx hb dX4_worth_235 (by decide) ?_
                      refine lv_isub hx hb dX4_worth_236 ?_
                      refine lv_topi (fun t128 et128 => ?_)
                      have rg129 := fb_rng l7_16
                      have zt128 : t128.toInt = l7_16.toInt - 1 := by rw [et128]; exact sub_i rfl (by decide) (by omega) (by omega)
                      refine lv_aload_n hx hb dX4_worth_237 rfl (lv_at hl 3 rfl) ?_
                      refine va_get (D := (dC, dI)) (ci := 4) (v := .ref (x 18)) (C := RX4) (T := TX4) (N := 6) hx hb hts inB_4 hown hE.1 hP 16 rfl rfl 2 (by decide) (hts _ k_180) (fun _ h9 => h9) rfl dX4_worth_238 ?_
                      refine lv_iload hx hb dX4_worth_241 (lv_at hl 2 rfl) ?_
                      refine lv_iconst (v := 1) hx hb dX4_worth_243 (by decide) ?_
                      refine lv_isub hx hb dX4_worth_244 ?_
                      refine tI (y := t128) et128.symm ?_
                      refine ldI hx hb hE hP 19 rfl (vp_in_iff.mpr ⟨by omega, by omega⟩) rfl rfl dX4_worth_245 ?_
                      refine lv_topi (fun t130 et130 => ?_)
                      refine lv_if_ne (tgt := 253) hx hb dX4_worth_246 (by decide) (fun c131 => ?_) (fun c131 => ?_)
                      · skip
                        have zc131 : ¬ (t130.toInt = 0) := by rw [fa_eq, show (0 : Int32).toInt = 0 from by decide] at c131; exact c131
                        refine lv_iconst (v := 0) hx hb dX4_worth_253 (by decide) ?_
                        refine stI hx hb hE hP hD hS 19 rfl (vp_in_iff.mpr ⟨by omega, by omega⟩) rfl dX4_worth_254 (fun H locs hP hD hS => ?_)
                        obtain ⟨f132, hP, hD⟩ : ∃ fz9, va_P (dC, dI) vwCl (XW cy x0 x v16 fz9) H ∧ va_D A (XW cy x0 x v16 fz9) := ⟨upd2 f16 13 (upd (f16 13) t128.toNatClampNeg 0), hP, hD⟩
                        refine lv_goto (tgt := 299) hx hb dX4_worth_255 (by decide) ?_
                        obtain ⟨t133, et133⟩ : ∃ y : Int32, y = l8_16 + 1 := ⟨_, rfl⟩
                        have zt133 : t133.toInt = l8_16.toInt + 1 := by rw [et133]; exact add_i rfl (by decide) (by omega) (by omega)
                        refine lv_iinc (v := t133) (lv' := [(8, .int t133), (9, .int t29), (7, .int l7_16), (0, .ref (x 15)), (1, .int p1), (2, .int p2), (3, .int p3), (4, .int p4), (5, .int p5), (6, .int p6)]) hx hb dX4_worth_299 hl (k := 1) rfl (by rw [et133]; rfl) (by decide) rfl (fun ls hl => ?_)
                        refine lv_goto (tgt := 124) hx hb dX4_worth_302 (by decide) ?_
                        have rg134 := fb_rng t133
                        exact ih16 l7_16 t133 v16 f132 hIv16 hq0_v16 hq1_v16 hq9_v16 hq10_v16 hq31_v16 hq32_v16 ⟨show (0 : Int) ≤ l7_16.toInt by omega, show l7_16.toInt ≤ (30 : Int) by omega⟩ ⟨show (0 : Int) ≤ t133.toInt by omega, show t133.toInt ≤ (2147483647 : Int) by omega⟩ (by show (2147483647 - t133.toInt).toNat < n16; omega) _ _ _ hP hD hS (lv_sub hl [0, 2, 3, 4, 5, 6, 7, 8, 9] rfl)
                      · skip
                        have zc131 : t130.toInt = 0 := by rw [fa_eq, show (0 : Int32).toInt = 0 from by decide] at c131; exact c131
                        refine lv_iconst (v := 1) hx hb dX4_worth_249 (by decide) ?_
                        refine lv_goto (tgt := 254) hx hb dX4_worth_250 (by decide) ?_
                        refine stI hx hb hE hP hD hS 19 rfl (vp_in_iff.mpr ⟨by omega, by omega⟩) rfl dX4_worth_254 (fun H locs hP hD hS => ?_)
                        obtain ⟨f135, hP, hD⟩ : ∃ fz9, va_P (dC, dI) vwCl (XW cy x0 x v16 fz9) H ∧ va_D A (XW cy x0 x v16 fz9) := ⟨upd2 f16 13 (upd (f16 13) t128.toNatClampNeg 1), hP, hD⟩
                        refine lv_goto (tgt := 299) hx hb dX4_worth_255 (by decide) ?_
                        obtain ⟨t136, et136⟩ : ∃ y : Int32, y = l8_16 + 1 := ⟨_, rfl⟩
                        have zt136 : t136.toInt = l8_16.toInt + 1 := by rw [et136]; exact add_i rfl (by decide) (by omega) (by omega)
                        refine lv_iinc (v := t136) (lv' := [(8, .int t136), (9, .int t29), (7, .int l7_16), (0, .ref (x 15)), (1, .int p1), (2, .int p2), (3, .int p3), (4, .int p4), (5, .int p5), (6, .int p6)]) hx hb dX4_worth_299 hl (k := 1) rfl (by rw [et136]; rfl) (by decide) rfl (fun ls hl => ?_)
                        refine lv_goto (tgt := 124) hx hb dX4_worth_302 (by decide) ?_
                        have rg137 := fb_rng t136
                        exact ih16 l7_16 t136 v16 f135 hIv16 hq0_v16 hq1_v16 hq9_v16 hq10_v16 hq31_v16 hq32_v16 ⟨show (0 : Int) ≤ l7_16.toInt by omega, show l7_16.toInt ≤ (30 : Int) by omega⟩ ⟨show (0 : Int) ≤ t136.toInt by omega, show t136.toInt ≤ (2147483647 : Int) by omega⟩ (by show (2147483647 - t136.toInt).toNat < n16; omega) _ _ _ hP hD hS (lv_sub hl [0, 2, 3, 4, 5, 6, 7, 8, 9] rfl)
                · skip
                  have zc95 : ¬ (122 ≤ t29.toInt) := by rw [fa_le, show (122 : Int32).toInt = 122 from by decide] at c95; exact c95
                  refine lv_iload hx hb dX4_worth_170 (lv_at hl 2 rfl) ?_
                  refine lv_bipush (v := 30) hx hb dX4_worth_172 (by decide) ?_
                  refine lv_icmp_ge (tgt := 299) hx hb dX4_worth_174 (by decide) (fun c138 => ?_) (fun c138 => ?_)
                  · skip
                    have zc138 : 30 ≤ l7_16.toInt := by rw [fa_le, show (30 : Int32).toInt = 30 from by decide] at c138; exact c138
                    obtain ⟨t139, et139⟩ : ∃ y : Int32, y = l8_16 + 1 := ⟨_, rfl⟩
                    have zt139 : t139.toInt = l8_16.toInt + 1 := by rw [et139]; exact add_i rfl (by decide) (by omega) (by omega)
                    refine lv_iinc (v := t139) (lv' := [(8, .int t139), (9, .int t29), (7, .int l7_16), (0, .ref (x 15)), (1, .int p1), (2, .int p2), (3, .int p3), (4, .int p4), (5, .int p5), (6, .int p6)]) hx hb dX4_worth_299 hl (k := 1) rfl (by rw [et139]; rfl) (by decide) rfl (fun ls hl => ?_)
                    refine lv_goto (tgt := 124) hx hb dX4_worth_302 (by decide) ?_
                    have rg140 := fb_rng l7_16
                    have rg141 := fb_rng t139
                    exact ih16 l7_16 t139 v16 f16 hIv16 hq0_v16 hq1_v16 hq9_v16 hq10_v16 hq31_v16 hq32_v16 ⟨show (0 : Int) ≤ l7_16.toInt by omega, show l7_16.toInt ≤ (30 : Int) by omega⟩ ⟨show (0 : Int) ≤ t139.toInt by omega, show t139.toInt ≤ (2147483647 : Int) by omega⟩ (by show (2147483647 - t139.toInt).toNat < n16; omega) _ _ _ hP hD hS (lv_sub hl [0, 2, 3, 4, 5, 6, 7, 8, 9] rfl)
                  · skip
                    have zc138 : ¬ (30 ≤ l7_16.toInt) := by rw [fa_le, show (30 : Int32).toInt = 30 from by decide] at c138; exact c138
                    refine lv_aload_n hx hb dX4_worth_177 rfl (lv_at hl 3 rfl) ?_
                    refine va_get (D := (dC, dI)) (ci := 4) (v := .ref (x 18)) (C := RX4) (T := TX4) (N := 6) hx hb hts inB_4 hown hE.1 hP 16 rfl rfl 2 (by decide) (hts _ k_180) (fun _ h9 => h9) rfl dX4_worth_178 ?_
                    refine lv_iload hx hb dX4_worth_181 (lv_at hl 2 rfl) ?_
                    refine lv_iload hx hb dX4_worth_183 (lv_at hl 0 rfl) ?_
                    refine lv_iconst (v := 2) hx hb dX4_worth_185 (by decide) ?_
                    refine lv_icmp_ne (tgt := 199) hx hb dX4_worth_186 (by decide) (fun c142 => ?_) (fun c142 => ?_)
                    · skip
                      have zc142 : ¬ (t29.toInt = 2) := by rw [fa_eq, show (2 : Int32).toInt = 2 from by decide] at c142; exact c142
                      refine lv_aload_n hx hb dX4_worth_199 rfl (lv_at hl 3 rfl) ?_
                      refine va_get (D := (dC, dI)) (ci := 4) (v := .ref (x 19)) (C := RX4) (T := TX4) (N := 6) hx hb hts inB_4 hown hE.1 hP 16 rfl rfl 3 (by decide) (hts _ k_181) (fun _ h9 => h9) rfl dX4_worth_200 ?_
                      refine lv_iload hx hb dX4_worth_203 (lv_at hl 0 rfl) ?_
                      refine lv_bipush (v := 116) hx hb dX4_worth_205 (by decide) ?_
                      refine lv_isub hx hb dX4_worth_207 ?_
                      refine lv_topi (fun t143 et143 => ?_)
                      have rg144 := fb_rng t29
                      have zt143 : t143.toInt = t29.toInt - 116 := by rw [et143]; exact sub_i rfl (by decide) (by omega) (by omega)
                      refine ldI hx hb hE hP 20 rfl (vp_in_iff.mpr ⟨by omega, by omega⟩) rfl rfl dX4_worth_208 ?_
                      refine lv_topi (fun t145 et145 => ?_)
                      refine stI hx hb hE hP hD hS 19 rfl (vp_in_iff.mpr ⟨by omega, by omega⟩) rfl dX4_worth_209 (fun H locs hP hD hS => ?_)
                      obtain ⟨f146, hP, hD⟩ : ∃ fz9, va_P (dC, dI) vwCl (XW cy x0 x v16 fz9) H ∧ va_D A (XW cy x0 x v16 fz9) := ⟨upd2 f16 13 (upd (f16 13) l7_16.toNatClampNeg t145), hP, hD⟩
                      obtain ⟨t147, et147⟩ : ∃ y : Int32, y = l7_16 + 1 := ⟨_, rfl⟩
                      have rg148 := fb_rng l7_16
                      have zt147 : t147.toInt = l7_16.toInt + 1 := by rw [et147]; exact add_i rfl (by decide) (by omega) (by omega)
                      refine lv_iinc (v := t147) (lv' := [(7, .int t147), (9, .int t29), (8, .int l8_16), (0, .ref (x 15)), (1, .int p1), (2, .int p2), (3, .int p3), (4, .int p4), (5, .int p5), (6, .int p6)]) hx hb dX4_worth_210 hl (k := 2) rfl (by rw [et147]; rfl) (by decide) rfl (fun ls hl => ?_)
                      refine lv_goto (tgt := 299) hx hb dX4_worth_213 (by decide) ?_
                      obtain ⟨t149, et149⟩ : ∃ y : Int32, y = l8_16 + 1 := ⟨_, rfl⟩
                      have zt149 : t149.toInt = l8_16.toInt + 1 := by rw [et149]; exact add_i rfl (by decide) (by omega) (by omega)
                      refine lv_iinc (v := t149) (lv' := [(8, .int t149), (7, .int t147), (9, .int t29), (0, .ref (x 15)), (1, .int p1), (2, .int p2), (3, .int p3), (4, .int p4), (5, .int p5), (6, .int p6)]) hx hb dX4_worth_299 hl (k := 2) rfl (by rw [et149]; rfl) (by decide) rfl (fun ls hl => ?_)
                      refine lv_goto (tgt := 124) hx hb dX4_worth_302 (by decide) ?_
                      have rg150 := fb_rng t147
                      have rg151 := fb_rng t149
                      exact ih16 t147 t149 v16 f146 hIv16 hq0_v16 hq1_v16 hq9_v16 hq10_v16 hq31_v16 hq32_v16 ⟨show (0 : Int) ≤ t147.toInt by omega, show t147.toInt ≤ (30 : Int) by omega⟩ ⟨show (0 : Int) ≤ t149.toInt by omega, show t149.toInt ≤ (2147483647 : Int) by omega⟩ (by show (2147483647 - t149.toInt).toNat < n16; omega) _ _ _ hP hD hS (lv_sub hl [0, 1, 3, 4, 5, 6, 7, 8, 9] rfl)
                    · skip
                      have zc142 : t29.toInt = 2 := by rw [fa_eq, show (2 : Int32).toInt = 2 from by decide] at c142; exact c142
                      refine lv_aload_n hx hb dX4_worth_189 rfl (lv_at hl 3 rfl) ?_
                      refine va_get (D := (dC, dI)) (ci := 4) (v := .ref (x 17)) (C := RX4) (T := TX4) (N := 6) hx hb hts inB_4 hown hE.1 hP 16 rfl rfl 1 (by decide) (hts _ k_179) (fun _ h9 => h9) rfl dX4_worth_190 ?_
                      refine lv_iload hx hb dX4_worth_193 (lv_at hl 1 rfl) ?_
                      refine ldI hx hb hE hP 18 rfl (vp_in_iff.mpr ⟨by omega, by omega⟩) rfl rfl dX4_worth_195 ?_
                      refine lv_topi (fun t152 et152 => ?_)
                      refine lv_goto (tgt := 209) hx hb dX4_worth_196 (by decide) ?_
                      refine stI hx hb hE hP hD hS 19 rfl (vp_in_iff.mpr ⟨by omega, by omega⟩) rfl dX4_worth_209 (fun H locs hP hD hS => ?_)
                      obtain ⟨f153, hP, hD⟩ : ∃ fz9, va_P (dC, dI) vwCl (XW cy x0 x v16 fz9) H ∧ va_D A (XW cy x0 x v16 fz9) := ⟨upd2 f16 13 (upd (f16 13) l7_16.toNatClampNeg t152), hP, hD⟩
                      obtain ⟨t154, et154⟩ : ∃ y : Int32, y = l7_16 + 1 := ⟨_, rfl⟩
                      have rg155 := fb_rng l7_16
                      have zt154 : t154.toInt = l7_16.toInt + 1 := by rw [et154]; exact add_i rfl (by decide) (by omega) (by omega)
                      refine lv_iinc (v := t154) (lv' := [(7, .int t154), (9, .int t29), (8, .int l8_16), (0, .ref (x 15)), (1, .int p1), (2, .int p2), (3, .int p3), (4, .int p4), (5, .int p5), (6, .int p6)]) hx hb dX4_worth_210 hl (k := 2) rfl (by rw [et154]; rfl) (by decide) rfl (fun ls hl => ?_)
                      refine lv_goto (tgt := 299) hx hb dX4_worth_213 (by decide) ?_
                      obtain ⟨t156, et156⟩ : ∃ y : Int32, y = l8_16 + 1 := ⟨_, rfl⟩
                      have zt156 : t156.toInt = l8_16.toInt + 1 := by rw [et156]; exact add_i rfl (by decide) (by omega) (by omega)
                      refine lv_iinc (v := t156) (lv' := [(8, .int t156), (7, .int t154), (9, .int t29), (0, .ref (x 15)), (1, .int p1), (2, .int p2), (3, .int p3), (4, .int p4), (5, .int p5), (6, .int p6)]) hx hb dX4_worth_299 hl (k := 2) rfl (by rw [et156]; rfl) (by decide) rfl (fun ls hl => ?_)
                      refine lv_goto (tgt := 124) hx hb dX4_worth_302 (by decide) ?_
                      have rg157 := fb_rng t154
                      have rg158 := fb_rng t156
                      exact ih16 t154 t156 v16 f153 hIv16 hq0_v16 hq1_v16 hq9_v16 hq10_v16 hq31_v16 hq32_v16 ⟨show (0 : Int) ≤ t154.toInt by omega, show t154.toInt ≤ (30 : Int) by omega⟩ ⟨show (0 : Int) ≤ t156.toInt by omega, show t156.toInt ≤ (2147483647 : Int) by omega⟩ (by show (2147483647 - t156.toInt).toNat < n16; omega) _ _ _ hP hD hS (lv_sub hl [0, 1, 3, 4, 5, 6, 7, 8, 9] rfl)
    exact lp16 _ 0 0 v f14 hIv rfl rfl rfl rfl rfl rfl ⟨by decide, by decide⟩ ⟨by decide, by decide⟩ (Nat.lt_succ_self _) _ _ _ hP hD hS (lv_sub hl [0, 1, 2, 3, 4, 5, 6, 7, 8] rfl)
  · skip
    have zc15 : (v 18).toInt = 0 := by rw [fa_eq, show (0 : Int32).toInt = 0 from by decide] at c15; exact c15
    refine lv_sipush (v := 999) hx hb dX4_worth_77 (by decide) ?_
    refine lv_aload_n hx hb dX4_worth_80 rfl (lv_at hl 0 rfl) ?_
    refine va_get (D := (dC, dI)) (ci := 4) (v := .ref (x 19)) (C := RX4) (T := TX4) (N := 6) hx hb hts inB_4 hown hE.1 hP 16 rfl rfl 3 (by decide) (hts _ k_181) (fun _ h9 => h9) rfl dX4_worth_81 ?_
    refine lv_iconst (v := 0) hx hb dX4_worth_84 (by decide) ?_
    refine ldI hx hb hE hP 20 rfl (vp_in_nI (n := 0) (by decide) (by decide)) rfl rfl dX4_worth_85 ?_
    refine lv_topi (fun t159 et159 => ?_)
    refine lv_iconst (v := 3) hx hb dX4_worth_86 (by decide) ?_
    refine lv_imul hx hb dX4_worth_87 ?_
    refine lv_topi (fun t160 et160 => ?_)
    refine lv_aload_n hx hb dX4_worth_88 rfl (lv_at hl 0 rfl) ?_
    refine va_get (D := (dC, dI)) (ci := 4) (v := .ref (x 19)) (C := RX4) (T := TX4) (N := 6) hx hb hts inB_4 hown hE.1 hP 16 rfl rfl 3 (by decide) (hts _ k_181) (fun _ h9 => h9) rfl dX4_worth_89 ?_
    refine lv_iconst (v := 1) hx hb dX4_worth_92 (by decide) ?_
    refine ldI hx hb hE hP 20 rfl (vp_in_nI (n := 1) (by decide) (by decide)) rfl rfl dX4_worth_93 ?_
    refine lv_topi (fun t161 et161 => ?_)
    refine lv_iadd hx hb dX4_worth_94 ?_
    refine lv_topi (fun t162 et162 => ?_)
    refine lv_aload_n hx hb dX4_worth_95 rfl (lv_at hl 0 rfl) ?_
    refine va_get (D := (dC, dI)) (ci := 4) (v := .ref (x 19)) (C := RX4) (T := TX4) (N := 6) hx hb hts inB_4 hown hE.1 hP 16 rfl rfl 3 (by decide) (hts _ k_181) (fun _ h9 => h9) rfl dX4_worth_96 ?_
    refine lv_iconst (v := 2) hx hb dX4_worth_99 (by decide) ?_
    refine ldI hx hb hE hP 20 rfl (vp_in_nI (n := 2) (by decide) (by decide)) rfl rfl dX4_worth_100 ?_
    refine lv_topi (fun t163 et163 => ?_)
    refine lv_iconst (v := 2) hx hb dX4_worth_101 (by decide) ?_
    refine lv_imul hx hb dX4_worth_102 ?_
    refine lv_topi (fun t164 et164 => ?_)
    refine lv_iadd hx hb dX4_worth_103 ?_
    refine lv_topi (fun t165 et165 => ?_)
    refine lv_aload_n hx hb dX4_worth_104 rfl (lv_at hl 0 rfl) ?_
    refine va_get (D := (dC, dI)) (ci := 4) (v := .ref (x 19)) (C := RX4) (T := TX4) (N := 6) hx hb hts inB_4 hown hE.1 hP 16 rfl rfl 3 (by decide) (hts _ k_181) (fun _ h9 => h9) rfl dX4_worth_105 ?_
    refine lv_iconst (v := 3) hx hb dX4_worth_108 (by decide) ?_
    refine ldI hx hb hE hP 20 rfl (vp_in_nI (n := 3) (by decide) (by decide)) rfl rfl dX4_worth_109 ?_
    refine lv_topi (fun t166 et166 => ?_)
    refine lv_iadd hx hb dX4_worth_110 ?_
    refine lv_topi (fun t167 et167 => ?_)
    refine lv_iload hx hb dX4_worth_111 (lv_at hl 5 rfl) ?_
    refine lv_iadd hx hb dX4_worth_113 ?_
    refine lv_topi (fun t168 et168 => ?_)
    refine va_mmin hx hb (by rw [hml]; exact hl.1.symm) hown (hts _ k_840) (hts _ k_643) (hts _ k_119) (hts _ k_644) (Nat.le_of_ble_eq_true rfl) (Nat.le_of_ble_eq_true rfl) (Nat.le_of_ble_eq_true rfl) (Nat.le_of_ble_eq_true rfl) dX4_worth_114 ?_
    refine lv_topi (fun t169 et169 => ?_)
    have zt169 : t169.toInt = min (999) (t168.toInt) := by rw [et169]; exact mmin_i (by decide) rfl
    exact ret t169 (v, f14) _ _ _ _ _ _ rfl ⟨hIv, rfl, rfl, rfl, rfl, rfl, rfl⟩ hP hD hS dX4_worth_117 (Nat.le_refl _) (Nat.le_refl _)
