set_option maxHeartbeats 4000000 in
set_option maxRecDepth 100000 in
theorem sX_X6_read_1 (NF : Nat) (l : Launch) (dC : Nat → ClassId) (dI : Nat → Nat → Nat) (cy : Nat → ClassId) (x0 : Nat) (x : Nat → Nat)  (v : Nat → Int32) (f : Nat → Nat → Int32) (hIv : XI v)  : ctIS l (dC, dI) cy yX6_read cX6_read 2 .boolean 64 1595 0 0 ((Nat → Int32) × (Nat → Nat → Int32)) [.ref (x 2)] (XW cy x0 x v f) (fun r u => gsX_X6_read_1 NF v f = (r, u) ∧ KV [2, 3, 4, 5, 6, 7, 8, 9, 10, 11, 12, 13, 14, 15, 16, 17] u.1 v ∧ KF [1, 2, 3, 4, 7, 8] u.2 f ∧ XI u.1 ∧ u.1 0 = v 0 ∧ u.1 1 = v 1 ∧ ((r = 1) ∨ (r = 0))) (fun u => XW cy x0 x u.1 u.2) := by
  refine ctIS_of (by decide) (Nat.le_of_ble_eq_true rfl) (fun p e s m below meth c A ls Q hx hb hml hts hown hE hF hT hP hD hA hl ret => ?_)
  have hM_v : KV [2, 3, 4, 5, 6, 7, 8, 9, 10, 11, 12, 13, 14, 15, 16, 17] v v := fun _ _ => rfl
  have hA_f : KF [1, 2, 3, 4, 7, 8] f f := fun _ _ => rfl
  have hown : s.vm.findClass RX6 = some m.cls := hown
  have hS : va_S A s.heap s.heap [] := va_S.rf
  have hl : lv_has ls 2 [(0, .ref (x 2))] := hl
  refine lv_aload_n hx hb dX6_read_0 rfl (lv_at hl 0 rfl) ?_
  refine va_get (D := (dC, dI)) (ci := 6) (v := .ref (x 3)) (C := RX6) (T := TX6) (N := 7) hx hb hts inB_6 hown hE.1 hP 3 rfl rfl 1 (by decide) (hts _ k_266) (fun _ h9 => h9) rfl dX6_read_1 ?_
  refine cbVv (n := 0) (rest := []) hx hb hml hown hts hE hP hD hS hA (sX_X7_clear_1 NF l dC dI cy x0 x  v f hIv ) k_546 k_547 k_548 k_104 k_549 (by decide +kernel) ⟨Nat.le_of_ble_eq_true rfl, Nat.le_of_ble_eq_true rfl⟩ 4 7 rfl rfl (rfl) hl.1 rfl (Nat.le_of_ble_eq_true rfl) dX6_read_4 (fun u H locs hw hP hD hS => ?_)
  obtain ⟨hG1, hw⟩ := hw
  obtain ⟨v2, f3⟩ := u
  obtain ⟨kV_v2, kF_f3, hIv2, hk0_v2, hk1_v2, hk7_v2, hk8_v2⟩ := hw
  have hM_v2 : KV [2, 3, 4, 5, 6, 7, 8, 9, 10, 11, 12, 13, 14, 15, 16, 17] v2 v := KV.tr kV_v2 hM_v rfl
  have hA_f3 : KF [1, 2, 3, 4, 7, 8] f3 f := KF.tr kF_f3 hA_f rfl
  have hP : va_P (dC, dI) vwCl (XW cy x0 x v2 f3) H := hP
  have hD : va_D A (XW cy x0 x v2 f3) := hD
  have hq0_v2 : v2 0 = (v 0) := hk0_v2
  have hq1_v2 : v2 1 = (v 1) := hk1_v2
  have hq7_v2 : v2 7 = (v 7) := hk7_v2
  have hq8_v2 : v2 8 = (v 8) := hk8_v2
  refine lv_aload_n hx hb dX6_read_7 rfl (lv_at hl 0 rfl) ?_
  refine lv_iconst (v := 0) hx hb dX6_read_8 (by decide) ?_
  refine va_put (D := (dC, dI)) (ci := 6) (v := .int 0) (ty := tyX6 4) (C := RX6) (T := TX6) (N := 7) hx hb hts inB_6 tyX6 tyX6_ok nmX6 hown hE.1 hP hD hS 3 rfl rfl 4 (by decide) (hts _ k_270) (fun _ h9 => h9) rfl (tyX6_ok 4 (by decide)) rfl rfl (Nat.le_of_ble_eq_true rfl) dX6_read_9 (fun H locs hP hD hS => ?_)
  have hP : va_P (dC, dI) vwCl (XW cy x0 x (upd v2 6 0) f3) H := hP
  have hD : va_D A (XW cy x0 x (upd v2 6 0) f3) := hD
  refine lv_aload_n hx hb dX6_read_12 rfl (lv_at hl 0 rfl) ?_
  refine lv_iconst (v := 0) hx hb dX6_read_13 (by decide) ?_
  refine va_put (D := (dC, dI)) (ci := 6) (v := .int 0) (ty := tyX6 5) (C := RX6) (T := TX6) (N := 7) hx hb hts inB_6 tyX6 tyX6_ok nmX6 hown hE.1 hP hD hS 3 rfl rfl 5 (by decide) (hts _ k_271) (fun _ h9 => h9) rfl (tyX6_ok 5 (by decide)) rfl rfl (Nat.le_of_ble_eq_true rfl) dX6_read_14 (fun H locs hP hD hS => ?_)
  have hP : va_P (dC, dI) vwCl (XW cy x0 x (upd (upd v2 6 0) 7 0) f3) H := hP
  have hD : va_D A (XW cy x0 x (upd (upd v2 6 0) 7 0) f3) := hD
  refine lv_aload_n hx hb dX6_read_17 rfl (lv_at hl 0 rfl) ?_
  refine lv_iconst (v := (-1)) hx hb dX6_read_18 (by decide) ?_
  refine va_put (D := (dC, dI)) (ci := 6) (v := .int (-1)) (ty := tyX6 6) (C := RX6) (T := TX6) (N := 7) hx hb hts inB_6 tyX6 tyX6_ok nmX6 hown hE.1 hP hD hS 3 rfl rfl 6 (by decide) (hts _ k_273) (fun _ h9 => h9) rfl (tyX6_ok 6 (by decide)) rfl rfl (Nat.le_of_ble_eq_true rfl) dX6_read_19 (fun H locs hP hD hS => ?_)
  have hP : va_P (dC, dI) vwCl (XW cy x0 x (upd (upd (upd v2 6 0) 7 0) 8 (-1)) f3) H := hP
  have hD : va_D A (XW cy x0 x (upd (upd (upd v2 6 0) 7 0) 8 (-1)) f3) := hD
  refine lv_aload_n hx hb dX6_read_22 rfl (lv_at hl 0 rfl) ?_
  refine va_get (D := (dC, dI)) (ci := 6) (v := .ref (x 0)) (C := RX6) (T := TX6) (N := 7) hx hb hts inB_6 hown hE.1 hP 3 rfl rfl 0 (by decide) (hts _ k_265) (fun _ h9 => h9) rfl dX6_read_23 ?_
  refine csVv (n := 0) (rest := []) hx hb hml hown hts hE hP hD hS hA hF hT (sX_X9_rewind_1 NF l dC dI cy x0 x  (upd (upd (upd v2 6 0) 7 0) 8 (-1)) f3 (XI.upd (j := 8) (x := (-1)) (XI.upd (j := 7) (x := 0) (XI.upd (j := 6) (x := 0) hIv2 (rlo _) (rhi _)) (rlo _) (rhi _)) (rlo _) (rhi _)) ) k_554 k_555 k_556 k_102 k_557 (by decide +kernel) ⟨Nat.le_of_ble_eq_true rfl, Nat.le_of_ble_eq_true rfl⟩ 1 9 rfl rfl (rfl) hl.1 rfl (Nat.le_of_ble_eq_true rfl) dX6_read_26 (fun u H locs hw hP hD hS => ?_)
  obtain ⟨hG4, hw⟩ := hw
  obtain ⟨v5, f6⟩ := u
  obtain ⟨kV_v5, kF_f6, hIv5, hk0_v5, hk1_v5, hk7_v5, hk8_v5, hk9_v5, hk10_v5, hk31_v5, hk32_v5⟩ := hw
  have hM_v5 : KV [2, 3, 4, 5, 6, 7, 8, 9, 10, 11, 12, 13, 14, 15, 16, 17] v5 v := KV.tr kV_v5 (KV.up (j := 8) (x := (-1)) (KV.up (j := 7) (x := 0) (KV.up (j := 6) (x := 0) hM_v2 rfl) rfl) rfl) rfl
  have hA_f6 : KF [1, 2, 3, 4, 7, 8] f6 f := KF.tr kF_f6 hA_f3 rfl
  have hP : va_P (dC, dI) vwCl (XW cy x0 x v5 f6) H := hP
  have hD : va_D A (XW cy x0 x v5 f6) := hD
  have hq0_v5 : v5 0 = (v 0) := hk0_v5.trans hq0_v2
  have hq1_v5 : v5 1 = (v 1) := hk1_v5.trans hq1_v2
  have hq7_v5 : v5 7 = 0 := hk7_v5
  have hq8_v5 : v5 8 = (-1) := hk8_v5
  have hq9_v5 : v5 9 = (v2 9) := hk9_v5
  have hq10_v5 : v5 10 = (v2 10) := hk10_v5
  have hq31_v5 : v5 31 = (v2 31) := hk31_v5
  have hq32_v5 : v5 32 = (v2 32) := hk32_v5
  refine lv_iconst (v := 0) hx hb dX6_read_29 (by decide) ?_
  refine lv_istore_n (lv' := [(1, .int 0), (0, .ref (x 2))]) hx hb dX6_read_30 rfl hl (by decide) rfl (fun ls hl => ?_)
  have lp7 : ∀ (n7 : Nat) (l1_7 : Int32) (v7 : Nat → Int32) (f7 : Nat → Nat → Int32), XI v7 → v7 0 = (v 0) → v7 1 = (v 1) → gsX_X6_read_1_L7 NF n7 l1_7 v7 f7 = (gsX_X6_read_1 NF v f) → ((0 : Int) ≤ l1_7.toInt ∧ l1_7.toInt ≤ 2147483647) → KV [2, 3, 4, 5, 6, 7, 8, 9, 10, 11, 12, 13, 14, 15, 16, 17] v7 v → KF [1, 2, 3, 4, 7, 8] f7 f → (2147483647 - l1_7.toInt).toNat < n7 → ∀ (H : Heap) (locs : List Loc) (ls : Array Slot), va_P (dC, dI) vwCl (XW cy x0 x v7 f7) H → va_D A (XW cy x0 x v7 f7) → va_S A s.heap H locs → lv_has ls 2 [(1, .int l1_7), (0, .ref (x 2))] → W p l e { frames := 64, cells := 0, slots := 0, locals := 1595 } s m ([.ref (x 2)] : List Value).toArray below meth c H locs 0 0 Q (F0 m 31 ls []) := by
    intro n7
    induction n7 with
    | zero => intro l1_7 v7 f7 hIv7 hq0_v7 hq1_v7 hT7 hr1_7 hM_v7 hA_f7 hm; exact absurd hm (Nat.not_lt_zero _)
    | succ n7 ih7 =>
      intro l1_7 v7 f7 hIv7 hq0_v7 hq1_v7 hT7 hr1_7 hM_v7 hA_f7 hm7 H locs ls hP hD hS hl
      refine lv_iload_n hx hb dX6_read_31 rfl (lv_at hl 0 rfl) ?_
      refine lv_sipush (v := 1600) hx hb dX6_read_32 (by decide) ?_
      refine lv_icmp_ge (tgt := 63) hx hb dX6_read_35 (by decide) (fun c8 => ?_) (fun c8 => ?_)
      · skip
        have zc8 : 1600 ≤ l1_7.toInt := by rw [fa_le, show (1600 : Int32).toInt = 1600 from by decide] at c8; exact c8
        refine lv_iconst (v := 1) hx hb dX6_read_63 (by decide) ?_
        exact ret 1 (v7, f7) _ _ _ _ _ _ rfl ⟨(hT7.symm.trans (gsX_X6_read_1_q0 c8)), hM_v7, hA_f7, hIv7, hq0_v7, hq1_v7, (Or.inl rfl)⟩ hP hD hS dX6_read_64 (Nat.le_refl _) (Nat.le_refl _)
      · skip
        have zc8 : ¬ (1600 ≤ l1_7.toInt) := by rw [fa_le, show (1600 : Int32).toInt = 1600 from by decide] at c8; exact c8
        refine lv_aload_n hx hb dX6_read_38 rfl (lv_at hl 1 rfl) ?_
        refine va_get (D := (dC, dI)) (ci := 6) (v := .ref (x 0)) (C := RX6) (T := TX6) (N := 7) hx hb hts inB_6 hown hE.1 hP 3 rfl rfl 0 (by decide) (hts _ k_265) (fun _ h9 => h9) rfl dX6_read_39 ?_
        refine va_getN (D := (dC, dI)) (ci := 9) (v := .int (v7 2)) (C := RX9) (T := TX9) (N := 6) hx hb hts inB_9 hown hE.1 hP 1 rfl rfl 2 (by decide) (va_Nw.use rfl (hE.2 _ k_139)) (fun _ h9 => h9) rfl dX6_read_42 ?_
        refine lv_if_eq (tgt := 63) hx hb dX6_read_45 (by decide) (fun c9 => ?_) (fun c9 => ?_)
        · skip
          have zc9 : (v7 2).toInt = 0 := by rw [fa_eq, show (0 : Int32).toInt = 0 from by decide] at c9; exact c9
          refine lv_iconst (v := 1) hx hb dX6_read_63 (by decide) ?_
          exact ret 1 (v7, f7) _ _ _ _ _ _ rfl ⟨(hT7.symm.trans (gsX_X6_read_1_q1 c8 c9)), hM_v7, hA_f7, hIv7, hq0_v7, hq1_v7, (Or.inl rfl)⟩ hP hD hS dX6_read_64 (Nat.le_refl _) (Nat.le_refl _)
        · skip
          have zc9 : ¬ ((v7 2).toInt = 0) := by rw [fa_eq, show (0 : Int32).toInt = 0 from by decide] at c9; exact c9
          refine lv_aload_n hx hb dX6_read_48 rfl (lv_at hl 1 rfl) ?_
          refine csVi (n := 0) (rest := []) hx hb hml hown hts hE hP hD hS hA hF hT (sX_X6_line_1 NF l dC dI cy x0 x  v7 f7 hIv7 ) k_683 k_685 k_4 k_103 k_686 (by decide +kernel) ⟨Nat.le_of_ble_eq_true rfl, Nat.le_of_ble_eq_true rfl⟩ 3 6 rfl rfl (rfl) hl.1 rfl (Nat.le_of_ble_eq_true rfl) dX6_read_49 (fun r10 u H locs hw hP hD hS => ?_)
          obtain ⟨hG11, hw⟩ := hw
          obtain ⟨v12, f13⟩ := u
          obtain ⟨kV_v12, kF_f13, hIv12, hk0_v12, hk1_v12, hw⟩ := hw
          have hM_v12 : KV [2, 3, 4, 5, 6, 7, 8, 9, 10, 11, 12, 13, 14, 15, 16, 17] v12 v := KV.tr kV_v12 hM_v7 rfl
          have hA_f13 : KF [1, 2, 3, 4, 7, 8] f13 f := KF.tr kF_f13 hA_f7 rfl
          have hP : va_P (dC, dI) vwCl (XW cy x0 x v12 f13) H := hP
          have hD : va_D A (XW cy x0 x v12 f13) := hD
          have hq0_v12 : v12 0 = (v 0) := hk0_v12.trans hq0_v7
          have hq1_v12 : v12 1 = (v 1) := hk1_v12.trans hq1_v7
          rcases hw with ⟨g14⟩ | ⟨g14⟩
          · skip
            subst g14
            refine lv_if_ne (tgt := 57) hx hb dX6_read_52 (by decide) (fun _ => ?_) (fun c0 => absurd c0 (by decide))
            obtain ⟨t15, et15⟩ : ∃ y : Int32, y = l1_7 + 1 := ⟨_, rfl⟩
            have rg16 := fb_rng l1_7
            have zt15 : t15.toInt = l1_7.toInt + 1 := by rw [et15]; exact add_i rfl (by decide) (by omega) (by omega)
            refine lv_iinc (v := t15) (lv' := [(1, .int t15), (0, .ref (x 2))]) hx hb dX6_read_57 hl (k := 0) rfl (by rw [et15]; rfl) (by decide) rfl (fun ls hl => ?_)
            refine lv_goto (tgt := 31) hx hb dX6_read_60 (by decide) ?_
            have rg17 := fb_rng t15
            exact ih7 t15 v12 f13 hIv12 hq0_v12 hq1_v12 ((gsX_X6_read_1_q2 c8 c9 hG11 et15).symm.trans hT7) ⟨show (0 : Int) ≤ t15.toInt by omega, show t15.toInt ≤ (2147483647 : Int) by omega⟩ hM_v12 hA_f13 (by show (2147483647 - t15.toInt).toNat < n7; omega) _ _ _ hP hD hS (lv_sub hl [0, 1] rfl)
          · skip
            subst g14
            refine lv_if_ne (tgt := 57) hx hb dX6_read_52 (by decide) (fun c0 => absurd (by decide) c0) (fun _ => ?_)
            refine lv_iconst (v := 0) hx hb dX6_read_55 (by decide) ?_
            exact ret 0 (v12, f13) _ _ _ _ _ _ rfl ⟨(hT7.symm.trans (gsX_X6_read_1_q3 c8 c9 hG11)), hM_v12, hA_f13, hIv12, (hk0_v12.trans hq0_v7), (hk1_v12.trans hq1_v7), (Or.inr rfl)⟩ hP hD hS dX6_read_56 (Nat.le_refl _) (Nat.le_refl _)
  exact lp7 (4294967296 + NF) 0 v5 f6 hIv5 hq0_v5 hq1_v5 (gsX_X6_read_1_q4 hG1 hG4).symm ⟨by decide, by decide⟩ hM_v5 hA_f6 (by have q1 : (0 : Int32).toInt = 0 := (by decide); show (2147483647 - (0 : Int32).toInt).toNat < 4294967296 + NF; omega) _ _ _ hP hD hS (lv_sub hl [0, 1] rfl)
set_option maxHeartbeats 4000000 in
set_option maxRecDepth 100000 in
theorem sX_X4_copy_1 (NF : Nat) (l : Launch) (dC : Nat → ClassId) (dI : Nat → Nat → Nat) (cy : Nat → ClassId) (x0 : Nat) (x : Nat → Nat)  (v : Nat → Int32) (f : Nat → Nat → Int32) (hIv : XI v)  : ctV l (dC, dI) cy yX4_copy cX4_copy 2 1 100 0 0 ((Nat → Int32) × (Nat → Nat → Int32)) [.ref (x 15), .ref (x 6)] (XW cy x0 x v f) (fun u => gsX_X4_copy_1 NF v f = u ∧ KV [18, 19] u.1 v ∧ KF [11, 12] u.2 f ∧ XI u.1 ∧ u.1 0 = v 0 ∧ u.1 1 = v 1 ∧ u.1 7 = v 7 ∧ u.1 8 = v 8 ∧ u.1 9 = v 9 ∧ u.1 10 = v 10 ∧ u.1 31 = v 31 ∧ u.1 32 = v 32) (fun u => XW cy x0 x u.1 u.2) := by
  refine ctV_of (by decide) (Nat.le_of_ble_eq_true rfl) (fun p e s m below meth c A ls Q hx hb hml hts hown hnm hE hP hD hA hl ret => ?_)
  have hM_v : KV [18, 19] v v := fun _ _ => rfl
  have hA_f : KF [11, 12] f f := fun _ _ => rfl
  have hown : s.vm.findClass RX4 = some m.cls := hown
  have hS : va_S A s.heap s.heap [] := va_S.rf
  have hl : lv_has ls 2 [(0, .ref (x 15)), (1, .ref (x 6))] := hl
  refine lv_aload_n hx hb dX4_copy_0 rfl (lv_at hl 1 rfl) ?_
  refine va_get (D := (dC, dI)) (ci := 4) (v := .ref (x 7)) (C := RX4) (T := TX4) (N := 6) hx hb hts inB_4 hown hE.1 hP 7 rfl rfl 0 (by decide) (hts _ k_178) (fun _ h9 => h9) rfl dX4_copy_1 ?_
  refine lv_iconst (v := 0) hx hb dX4_copy_4 (by decide) ?_
  refine lv_aload_n hx hb dX4_copy_5 rfl (lv_at hl 0 rfl) ?_
  refine va_get (D := (dC, dI)) (ci := 4) (v := .ref (x 16)) (C := RX4) (T := TX4) (N := 6) hx hb hts inB_4 hown hE.1 hP 16 rfl rfl 0 (by decide) (hts _ k_178) (fun _ h9 => h9) rfl dX4_copy_6 ?_
  refine lv_iconst (v := 0) hx hb dX4_copy_9 (by decide) ?_
  refine lv_sipush (v := 300) hx hb dX4_copy_10 (by decide) ?_
  refine cpE (zs := 0) (zd := 0) (zn := 300) hx hb (by rw [hml]; exact hl.1.symm) hown (hts _ k_776) (hts _ k_337) (hts _ k_336) (hts _ k_108) hE hP hD hS 8 17 rfl rfl (by decide) (by decide) (by decide) (by omega) (by omega) (by omega) (by omega) (by omega) (Nat.le_of_ble_eq_true rfl) (Nat.le_of_ble_eq_true rfl) dX4_copy_13 (fun H locs hP hD hS => ?_)
  obtain ⟨f1, ef1, hP, hD⟩ : ∃ fz9, fz9 = upd2 f 11 (va_cpy (f 3) (f 11) (0 : Int32).toNatClampNeg (0 : Int32).toNatClampNeg (300 : Int32).toNatClampNeg) ∧ va_P (dC, dI) vwCl (XW cy x0 x v fz9) H ∧ va_D A (XW cy x0 x v fz9) := ⟨_, rfl, hP, hD⟩
  have hA_f1 : KF [11, 12] f1 f := by rw [ef1]; exact KF.up hA_f rfl
  refine lv_aload_n hx hb dX4_copy_16 rfl (lv_at hl 1 rfl) ?_
  refine va_get (D := (dC, dI)) (ci := 4) (v := .ref (x 8)) (C := RX4) (T := TX4) (N := 6) hx hb hts inB_4 hown hE.1 hP 7 rfl rfl 1 (by decide) (hts _ k_179) (fun _ h9 => h9) rfl dX4_copy_17 ?_
  refine lv_iconst (v := 0) hx hb dX4_copy_20 (by decide) ?_
  refine lv_aload_n hx hb dX4_copy_21 rfl (lv_at hl 0 rfl) ?_
  refine va_get (D := (dC, dI)) (ci := 4) (v := .ref (x 17)) (C := RX4) (T := TX4) (N := 6) hx hb hts inB_4 hown hE.1 hP 16 rfl rfl 1 (by decide) (hts _ k_179) (fun _ h9 => h9) rfl dX4_copy_22 ?_
  refine lv_iconst (v := 0) hx hb dX4_copy_25 (by decide) ?_
  refine lv_sipush (v := 300) hx hb dX4_copy_26 (by decide) ?_
  refine cpE (zs := 0) (zd := 0) (zn := 300) hx hb (by rw [hml]; exact hl.1.symm) hown (hts _ k_776) (hts _ k_337) (hts _ k_336) (hts _ k_108) hE hP hD hS 9 18 rfl rfl (by decide) (by decide) (by decide) (by omega) (by omega) (by omega) (by omega) (by omega) (Nat.le_of_ble_eq_true rfl) (Nat.le_of_ble_eq_true rfl) dX4_copy_29 (fun H locs hP hD hS => ?_)
  obtain ⟨f2, ef2, hP, hD⟩ : ∃ fz9, fz9 = upd2 f1 12 (va_cpy (f1 4) (f1 12) (0 : Int32).toNatClampNeg (0 : Int32).toNatClampNeg (300 : Int32).toNatClampNeg) ∧ va_P (dC, dI) vwCl (XW cy x0 x v fz9) H ∧ va_D A (XW cy x0 x v fz9) := ⟨_, rfl, hP, hD⟩
  have hA_f2 : KF [11, 12] f2 f := by rw [ef2]; exact KF.up hA_f1 rfl
  refine lv_aload_n hx hb dX4_copy_32 rfl (lv_at hl 0 rfl) ?_
  refine lv_aload_n hx hb dX4_copy_33 rfl (lv_at hl 1 rfl) ?_
  refine va_get (D := (dC, dI)) (ci := 4) (v := .int (v 16)) (C := RX4) (T := TX4) (N := 6) hx hb hts inB_4 hown hE.1 hP 7 rfl rfl 4 (by decide) (hts _ k_182) (fun _ h9 => h9) rfl dX4_copy_34 ?_
  have b16_v : 0 ≤ (v 16).toInt ∧ (v 16).toInt ≤ 300 := XI.b hIv 16 (by decide)
  refine va_put (D := (dC, dI)) (ci := 4) (v := .int (v 16)) (ty := tyX4 4) (C := RX4) (T := TX4) (N := 6) hx hb hts inB_4 tyX4 tyX4_ok nmX4 hown hE.1 hP hD hS 16 rfl rfl 4 (by decide) (hts _ k_182) (fun _ h9 => h9) rfl (tyX4_ok 4 (by decide)) rfl rfl (Nat.le_of_ble_eq_true rfl) dX4_copy_37 (fun H locs hP hD hS => ?_)
  have hP : va_P (dC, dI) vwCl (XW cy x0 x (upd v 18 (v 16)) f2) H := hP
  have hD : va_D A (XW cy x0 x (upd v 18 (v 16)) f2) := hD
  refine lv_aload_n hx hb dX4_copy_40 rfl (lv_at hl 0 rfl) ?_
  refine lv_aload_n hx hb dX4_copy_41 rfl (lv_at hl 1 rfl) ?_
  refine va_get (D := (dC, dI)) (ci := 4) (v := .int (v 17)) (C := RX4) (T := TX4) (N := 6) hx hb hts inB_4 hown hE.1 hP 7 rfl rfl 5 (by decide) (hts _ k_183) (fun _ h9 => h9) rfl dX4_copy_42 ?_
  refine va_put (D := (dC, dI)) (ci := 4) (v := .int (v 17)) (ty := tyX4 5) (C := RX4) (T := TX4) (N := 6) hx hb hts inB_4 tyX4 tyX4_ok nmX4 hown hE.1 hP hD hS 16 rfl rfl 5 (by decide) (hts _ k_183) (fun _ h9 => h9) rfl (tyX4_ok 5 (by decide)) rfl rfl (Nat.le_of_ble_eq_true rfl) dX4_copy_45 (fun H locs hP hD hS => ?_)
  have hP : va_P (dC, dI) vwCl (XW cy x0 x (upd (upd v 18 (v 16)) 19 (v 17)) f2) H := hP
  have hD : va_D A (XW cy x0 x (upd (upd v 18 (v 16)) 19 (v 17)) f2) := hD
  exact ret ((upd (upd v 18 (v 16)) 19 (v 17)), f2) _ _ _ _ _ _ ⟨(gsX_X4_copy_1_q0 ef1 ef2), (KV.up (j := 19) (x := (v 17)) (KV.up (j := 18) (x := (v 16)) hM_v rfl) rfl), hA_f2, (XI.upd (j := 19) (x := (v 17)) (XI.upd (j := 18) (x := (v 16)) hIv (show (0 : Int) ≤ (v 16).toInt by omega) (show (v 16).toInt ≤ (300 : Int) by omega)) (rlo _) (rhi _)), rfl, rfl, rfl, rfl, rfl, rfl, rfl, rfl⟩ hP hD hS dX4_copy_48 (Nat.le_refl _) (Nat.le_refl _)
set_option maxHeartbeats 4000000 in
set_option maxRecDepth 100000 in
theorem sX_X7_copy_1 (NF : Nat) (l : Launch) (dC : Nat → ClassId) (dI : Nat → Nat → Nat) (cy : Nat → ClassId) (x0 : Nat) (x : Nat → Nat)  (v : Nat → Int32) (f : Nat → Nat → Int32) (hIv : XI v)  : ctV l (dC, dI) cy yX7_copy cX7_copy 2 2 121 0 0 ((Nat → Int32) × (Nat → Nat → Int32)) [.ref (x 26), .ref (x 3)] (XW cy x0 x v f) (fun u => gsX_X7_copy_1 NF v f = u ∧ KV [18, 19, 31, 32, 33, 34, 35, 36, 37] u.1 v ∧ KF [9, 10, 11, 12] u.2 f ∧ XI u.1 ∧ u.1 0 = v 0 ∧ u.1 1 = v 1 ∧ u.1 7 = v 7 ∧ u.1 8 = v 8) (fun u => XW cy x0 x u.1 u.2) := by
  refine ctV_of (by decide) (Nat.le_of_ble_eq_true rfl) (fun p e s m below meth c A ls Q hx hb hml hts hown hnm hE hP hD hA hl ret => ?_)
  have hM_v : KV [18, 19, 31, 32, 33, 34, 35, 36, 37] v v := fun _ _ => rfl
  have hA_f : KF [9, 10, 11, 12] f f := fun _ _ => rfl
  have hown : s.vm.findClass RX7 = some m.cls := hown
  have hS : va_S A s.heap s.heap [] := va_S.rf
  have hl : lv_has ls 2 [(0, .ref (x 26)), (1, .ref (x 3))] := hl
  refine lv_aload_n hx hb dX7_copy_0 rfl (lv_at hl 1 rfl) ?_
  refine va_get (D := (dC, dI)) (ci := 7) (v := .ref (x 4)) (C := RX7) (T := TX7) (N := 10) hx hb hts inB_7 hown hE.1 hP 4 rfl rfl 0 (by decide) (hts _ k_204) (fun _ h9 => h9) rfl dX7_copy_1 ?_
  refine lv_iconst (v := 0) hx hb dX7_copy_4 (by decide) ?_
  refine lv_aload_n hx hb dX7_copy_5 rfl (lv_at hl 0 rfl) ?_
  refine va_get (D := (dC, dI)) (ci := 7) (v := .ref (x 13)) (C := RX7) (T := TX7) (N := 10) hx hb hts inB_7 hown hE.1 hP 27 rfl rfl 0 (by decide) (hts _ k_204) (fun _ h9 => h9) rfl dX7_copy_6 ?_
  refine lv_iconst (v := 0) hx hb dX7_copy_9 (by decide) ?_
  refine lv_aload_n hx hb dX7_copy_10 rfl (lv_at hl 0 rfl) ?_
  refine va_get (D := (dC, dI)) (ci := 7) (v := .ref (x 13)) (C := RX7) (T := TX7) (N := 10) hx hb hts inB_7 hown hE.1 hP 27 rfl rfl 0 (by decide) (hts _ k_204) (fun _ h9 => h9) rfl dX7_copy_11 ?_
  refine va_alen (v := 18) hx hb hE.1 hP 14 1 rfl rfl rfl dX7_copy_14 ?_
  refine cpE (zs := 0) (zd := 0) (zn := 18) hx hb (by rw [hml]; exact hl.1.symm) hown (hts _ k_771) (hts _ k_337) (hts _ k_336) (hts _ k_108) hE hP hD hS 5 14 rfl rfl (by decide) (by decide) (by decide) (by omega) (by omega) (by omega) (by omega) (by omega) (Nat.le_of_ble_eq_true rfl) (Nat.le_of_ble_eq_true rfl) dX7_copy_15 (fun H locs hP hD hS => ?_)
  obtain ⟨f1, ef1, hP, hD⟩ : ∃ fz9, fz9 = upd2 f 9 (va_cpy (f 1) (f 9) (0 : Int32).toNatClampNeg (0 : Int32).toNatClampNeg (18 : Int32).toNatClampNeg) ∧ va_P (dC, dI) vwCl (XW cy x0 x v fz9) H ∧ va_D A (XW cy x0 x v fz9) := ⟨_, rfl, hP, hD⟩
  have hA_f1 : KF [9, 10, 11, 12] f1 f := by rw [ef1]; exact KF.up hA_f rfl
  refine lv_aload_n hx hb dX7_copy_18 rfl (lv_at hl 1 rfl) ?_
  refine va_get (D := (dC, dI)) (ci := 7) (v := .ref (x 5)) (C := RX7) (T := TX7) (N := 10) hx hb hts inB_7 hown hE.1 hP 4 rfl rfl 1 (by decide) (hts _ k_205) (fun _ h9 => h9) rfl dX7_copy_19 ?_
  refine lv_iconst (v := 0) hx hb dX7_copy_22 (by decide) ?_
  refine lv_aload_n hx hb dX7_copy_23 rfl (lv_at hl 0 rfl) ?_
  refine va_get (D := (dC, dI)) (ci := 7) (v := .ref (x 14)) (C := RX7) (T := TX7) (N := 10) hx hb hts inB_7 hown hE.1 hP 27 rfl rfl 1 (by decide) (hts _ k_205) (fun _ h9 => h9) rfl dX7_copy_24 ?_
  refine lv_iconst (v := 0) hx hb dX7_copy_27 (by decide) ?_
  refine lv_aload_n hx hb dX7_copy_28 rfl (lv_at hl 0 rfl) ?_
  refine va_get (D := (dC, dI)) (ci := 7) (v := .ref (x 14)) (C := RX7) (T := TX7) (N := 10) hx hb hts inB_7 hown hE.1 hP 27 rfl rfl 1 (by decide) (hts _ k_205) (fun _ h9 => h9) rfl dX7_copy_29 ?_
  refine va_alen (v := 24) hx hb hE.1 hP 15 1 rfl rfl rfl dX7_copy_32 ?_
  refine cpE (zs := 0) (zd := 0) (zn := 24) hx hb (by rw [hml]; exact hl.1.symm) hown (hts _ k_771) (hts _ k_337) (hts _ k_336) (hts _ k_108) hE hP hD hS 6 15 rfl rfl (by decide) (by decide) (by decide) (by omega) (by omega) (by omega) (by omega) (by omega) (Nat.le_of_ble_eq_true rfl) (Nat.le_of_ble_eq_true rfl) dX7_copy_33 (fun H locs hP hD hS => ?_)
  obtain ⟨f2, ef2, hP, hD⟩ : ∃ fz9, fz9 = upd2 f1 10 (va_cpy (f1 2) (f1 10) (0 : Int32).toNatClampNeg (0 : Int32).toNatClampNeg (24 : Int32).toNatClampNeg) ∧ va_P (dC, dI) vwCl (XW cy x0 x v fz9) H ∧ va_D A (XW cy x0 x v fz9) := ⟨_, rfl, hP, hD⟩
  have hA_f2 : KF [9, 10, 11, 12] f2 f := by rw [ef2]; exact KF.up hA_f1 rfl
  refine lv_aload_n hx hb dX7_copy_36 rfl (lv_at hl 0 rfl) ?_
  refine va_get (D := (dC, dI)) (ci := 7) (v := .ref (x 15)) (C := RX7) (T := TX7) (N := 10) hx hb hts inB_7 hown hE.1 hP 27 rfl rfl 2 (by decide) (hts _ k_206) (fun _ h9 => h9) rfl dX7_copy_37 ?_
  refine lv_aload_n hx hb dX7_copy_40 rfl (lv_at hl 1 rfl) ?_
  refine va_get (D := (dC, dI)) (ci := 7) (v := .ref (x 6)) (C := RX7) (T := TX7) (N := 10) hx hb hts inB_7 hown hE.1 hP 4 rfl rfl 2 (by decide) (hts _ k_206) (fun _ h9 => h9) rfl dX7_copy_41 ?_
  refine cbVv (n := 1) (rest := []) hx hb hml hown hts hE hP hD hS hA (sX_X4_copy_1 NF l dC dI cy x0 x  v f2 hIv ) k_772 k_773 k_774 k_105 k_775 (by decide +kernel) ⟨Nat.le_of_ble_eq_true rfl, Nat.le_of_ble_eq_true rfl⟩ 16 4 rfl rfl (rfl) hl.1 rfl (Nat.le_of_ble_eq_true rfl) dX7_copy_44 (fun u H locs hw hP hD hS => ?_)
  obtain ⟨hG3, hw⟩ := hw
  obtain ⟨v4, f5⟩ := u
  obtain ⟨kV_v4, kF_f5, hIv4, hk0_v4, hk1_v4, hk7_v4, hk8_v4, hk9_v4, hk10_v4, hk31_v4, hk32_v4⟩ := hw
  have hM_v4 : KV [18, 19, 31, 32, 33, 34, 35, 36, 37] v4 v := KV.tr kV_v4 hM_v rfl
  have hA_f5 : KF [9, 10, 11, 12] f5 f := KF.tr kF_f5 hA_f2 rfl
  have hP : va_P (dC, dI) vwCl (XW cy x0 x v4 f5) H := hP
  have hD : va_D A (XW cy x0 x v4 f5) := hD
  have hq0_v4 : v4 0 = (v 0) := hk0_v4
  have hq1_v4 : v4 1 = (v 1) := hk1_v4
  have hq7_v4 : v4 7 = (v 7) := hk7_v4
  have hq8_v4 : v4 8 = (v 8) := hk8_v4
  have hq9_v4 : v4 9 = (v 9) := hk9_v4
  have hq10_v4 : v4 10 = (v 10) := hk10_v4
  have hq31_v4 : v4 31 = (v 31) := hk31_v4
  have hq32_v4 : v4 32 = (v 32) := hk32_v4
  refine lv_aload_n hx hb dX7_copy_47 rfl (lv_at hl 0 rfl) ?_
  refine lv_aload_n hx hb dX7_copy_48 rfl (lv_at hl 1 rfl) ?_
  refine va_get (D := (dC, dI)) (ci := 7) (v := .int (v4 9)) (C := RX7) (T := TX7) (N := 10) hx hb hts inB_7 hown hE.1 hP 4 rfl rfl 3 (by decide) (hts _ k_212) (fun _ h9 => h9) rfl dX7_copy_49 ?_
  refine tI (y := (v 9)) hq9_v4 ?_
  have b9_v : 0 ≤ (v 9).toInt ∧ (v 9).toInt ≤ 6 := XI.b hIv 9 (by decide)
  refine va_put (D := (dC, dI)) (ci := 7) (v := .int (v 9)) (ty := tyX7 3) (C := RX7) (T := TX7) (N := 10) hx hb hts inB_7 tyX7 tyX7_ok nmX7 hown hE.1 hP hD hS 27 rfl rfl 3 (by decide) (hts _ k_212) (fun _ h9 => h9) rfl (tyX7_ok 3 (by decide)) rfl rfl (Nat.le_of_ble_eq_true rfl) dX7_copy_52 (fun H locs hP hD hS => ?_)
  have hP : va_P (dC, dI) vwCl (XW cy x0 x (upd v4 31 (v 9)) f5) H := hP
  have hD : va_D A (XW cy x0 x (upd v4 31 (v 9)) f5) := hD
  refine lv_aload_n hx hb dX7_copy_55 rfl (lv_at hl 0 rfl) ?_
  refine lv_aload_n hx hb dX7_copy_56 rfl (lv_at hl 1 rfl) ?_
  refine va_get (D := (dC, dI)) (ci := 7) (v := .int (v4 10)) (C := RX7) (T := TX7) (N := 10) hx hb hts inB_7 hown hE.1 hP 4 rfl rfl 4 (by decide) (hts _ k_220) (fun _ h9 => h9) rfl dX7_copy_57 ?_
  refine tI (y := (v 10)) hq10_v4 ?_
  have b10_v : 0 ≤ (v 10).toInt ∧ (v 10).toInt ≤ 6 := XI.b hIv 10 (by decide)
  refine va_put (D := (dC, dI)) (ci := 7) (v := .int (v 10)) (ty := tyX7 4) (C := RX7) (T := TX7) (N := 10) hx hb hts inB_7 tyX7 tyX7_ok nmX7 hown hE.1 hP hD hS 27 rfl rfl 4 (by decide) (hts _ k_220) (fun _ h9 => h9) rfl (tyX7_ok 4 (by decide)) rfl rfl (Nat.le_of_ble_eq_true rfl) dX7_copy_60 (fun H locs hP hD hS => ?_)
  have hP : va_P (dC, dI) vwCl (XW cy x0 x (upd (upd v4 31 (v 9)) 32 (v 10)) f5) H := hP
  have hD : va_D A (XW cy x0 x (upd (upd v4 31 (v 9)) 32 (v 10)) f5) := hD
  refine lv_aload_n hx hb dX7_copy_63 rfl (lv_at hl 0 rfl) ?_
  refine lv_aload_n hx hb dX7_copy_64 rfl (lv_at hl 1 rfl) ?_
  refine va_get (D := (dC, dI)) (ci := 7) (v := .int (v4 11)) (C := RX7) (T := TX7) (N := 10) hx hb hts inB_7 hown hE.1 hP 4 rfl rfl 5 (by decide) (hts _ k_228) (fun _ h9 => h9) rfl dX7_copy_65 ?_
  refine va_put (D := (dC, dI)) (ci := 7) (v := .int (v4 11)) (ty := tyX7 5) (C := RX7) (T := TX7) (N := 10) hx hb hts inB_7 tyX7 tyX7_ok nmX7 hown hE.1 hP hD hS 27 rfl rfl 5 (by decide) (hts _ k_228) (fun _ h9 => h9) rfl (tyX7_ok 5 (by decide)) rfl rfl (Nat.le_of_ble_eq_true rfl) dX7_copy_68 (fun H locs hP hD hS => ?_)
  have hP : va_P (dC, dI) vwCl (XW cy x0 x (upd (upd (upd v4 31 (v 9)) 32 (v 10)) 33 (v4 11)) f5) H := hP
  have hD : va_D A (XW cy x0 x (upd (upd (upd v4 31 (v 9)) 32 (v 10)) 33 (v4 11)) f5) := hD
  refine lv_aload_n hx hb dX7_copy_71 rfl (lv_at hl 0 rfl) ?_
  refine lv_aload_n hx hb dX7_copy_72 rfl (lv_at hl 1 rfl) ?_
  refine va_get (D := (dC, dI)) (ci := 7) (v := .int (v4 12)) (C := RX7) (T := TX7) (N := 10) hx hb hts inB_7 hown hE.1 hP 4 rfl rfl 6 (by decide) (hts _ k_234) (fun _ h9 => h9) rfl dX7_copy_73 ?_
  refine va_put (D := (dC, dI)) (ci := 7) (v := .int (v4 12)) (ty := tyX7 6) (C := RX7) (T := TX7) (N := 10) hx hb hts inB_7 tyX7 tyX7_ok nmX7 hown hE.1 hP hD hS 27 rfl rfl 6 (by decide) (hts _ k_234) (fun _ h9 => h9) rfl (tyX7_ok 6 (by decide)) rfl rfl (Nat.le_of_ble_eq_true rfl) dX7_copy_76 (fun H locs hP hD hS => ?_)
  have hP : va_P (dC, dI) vwCl (XW cy x0 x (upd (upd (upd (upd v4 31 (v 9)) 32 (v 10)) 33 (v4 11)) 34 (v4 12)) f5) H := hP
  have hD : va_D A (XW cy x0 x (upd (upd (upd (upd v4 31 (v 9)) 32 (v 10)) 33 (v4 11)) 34 (v4 12)) f5) := hD
  refine lv_aload_n hx hb dX7_copy_79 rfl (lv_at hl 0 rfl) ?_
  refine lv_aload_n hx hb dX7_copy_80 rfl (lv_at hl 1 rfl) ?_
  refine va_get (D := (dC, dI)) (ci := 7) (v := .int (v4 13)) (C := RX7) (T := TX7) (N := 10) hx hb hts inB_7 hown hE.1 hP 4 rfl rfl 7 (by decide) (hts _ k_237) (fun _ h9 => h9) rfl dX7_copy_81 ?_
  refine va_put (D := (dC, dI)) (ci := 7) (v := .int (v4 13)) (ty := tyX7 7) (C := RX7) (T := TX7) (N := 10) hx hb hts inB_7 tyX7 tyX7_ok nmX7 hown hE.1 hP hD hS 27 rfl rfl 7 (by decide) (hts _ k_237) (fun _ h9 => h9) rfl (tyX7_ok 7 (by decide)) rfl rfl (Nat.le_of_ble_eq_true rfl) dX7_copy_84 (fun H locs hP hD hS => ?_)
  have hP : va_P (dC, dI) vwCl (XW cy x0 x (upd (upd (upd (upd (upd v4 31 (v 9)) 32 (v 10)) 33 (v4 11)) 34 (v4 12)) 35 (v4 13)) f5) H := hP
  have hD : va_D A (XW cy x0 x (upd (upd (upd (upd (upd v4 31 (v 9)) 32 (v 10)) 33 (v4 11)) 34 (v4 12)) 35 (v4 13)) f5) := hD
  refine lv_aload_n hx hb dX7_copy_87 rfl (lv_at hl 0 rfl) ?_
  refine lv_aload_n hx hb dX7_copy_88 rfl (lv_at hl 1 rfl) ?_
  refine va_get (D := (dC, dI)) (ci := 7) (v := .int (v4 14)) (C := RX7) (T := TX7) (N := 10) hx hb hts inB_7 hown hE.1 hP 4 rfl rfl 8 (by decide) (hts _ k_240) (fun _ h9 => h9) rfl dX7_copy_89 ?_
  refine va_put (D := (dC, dI)) (ci := 7) (v := .int (v4 14)) (ty := tyX7 8) (C := RX7) (T := TX7) (N := 10) hx hb hts inB_7 tyX7 tyX7_ok nmX7 hown hE.1 hP hD hS 27 rfl rfl 8 (by decide) (hts _ k_240) (fun _ h9 => h9) rfl (tyX7_ok 8 (by decide)) rfl rfl (Nat.le_of_ble_eq_true rfl) dX7_copy_92 (fun H locs hP hD hS => ?_)
  have hP : va_P (dC, dI) vwCl (XW cy x0 x (upd (upd (upd (upd (upd (upd v4 31 (v 9)) 32 (v 10)) 33 (v4 11)) 34 (v4 12)) 35 (v4 13)) 36 (v4 14)) f5) H := hP
  have hD : va_D A (XW cy x0 x (upd (upd (upd (upd (upd (upd v4 31 (v 9)) 32 (v 10)) 33 (v4 11)) 34 (v4 12)) 35 (v4 13)) 36 (v4 14)) f5) := hD
  refine lv_aload_n hx hb dX7_copy_95 rfl (lv_at hl 0 rfl) ?_
  refine lv_aload_n hx hb dX7_copy_96 rfl (lv_at hl 1 rfl) ?_
  refine va_get (D := (dC, dI)) (ci := 7) (v := .int (v4 15)) (C := RX7) (T := TX7) (N := 10) hx hb hts inB_7 hown hE.1 hP 4 rfl rfl 9 (by decide) (hts _ k_243) (fun _ h9 => h9) rfl dX7_copy_97 ?_
  refine va_put (D := (dC, dI)) (ci := 7) (v := .int (v4 15)) (ty := tyX7 9) (C := RX7) (T := TX7) (N := 10) hx hb hts inB_7 tyX7 tyX7_ok nmX7 hown hE.1 hP hD hS 27 rfl rfl 9 (by decide) (hts _ k_243) (fun _ h9 => h9) rfl (tyX7_ok 9 (by decide)) rfl rfl (Nat.le_of_ble_eq_true rfl) dX7_copy_100 (fun H locs hP hD hS => ?_)
  have hP : va_P (dC, dI) vwCl (XW cy x0 x (upd (upd (upd (upd (upd (upd (upd v4 31 (v 9)) 32 (v 10)) 33 (v4 11)) 34 (v4 12)) 35 (v4 13)) 36 (v4 14)) 37 (v4 15)) f5) H := hP
  have hD : va_D A (XW cy x0 x (upd (upd (upd (upd (upd (upd (upd v4 31 (v 9)) 32 (v 10)) 33 (v4 11)) 34 (v4 12)) 35 (v4 13)) 36 (v4 14)) 37 (v4 15)) f5) := hD
  exact ret ((upd (upd (upd (upd (upd (upd (upd v4 31 (v 9)) 32 (v 10)) 33 (v4 11)) 34 (v4 12)) 35 (v4 13)) 36 (v4 14)) 37 (v4 15)), f5) _ _ _ _ _ _ ⟨(gsX_X7_copy_1_q0 ef1 ef2 hG3), (KV.up (j := 37) (x := (v4 15)) (KV.up (j := 36) (x := (v4 14)) (KV.up (j := 35) (x := (v4 13)) (KV.up (j := 34) (x := (v4 12)) (KV.up (j := 33) (x := (v4 11)) (KV.up (j := 32) (x := (v 10)) (KV.up (j := 31) (x := (v 9)) hM_v4 rfl) rfl) rfl) rfl) rfl) rfl) rfl), hA_f5, (XI.upd (j := 37) (x := (v4 15)) (XI.upd (j := 36) (x := (v4 14)) (XI.upd (j := 35) (x := (v4 13)) (XI.upd (j := 34) (x := (v4 12)) (XI.upd (j := 33) (x := (v4 11)) (XI.upd (j := 32) (x := (v 10)) (XI.upd (j := 31) (x := (v 9)) hIv4 (show (0 : Int) ≤ (v 9).toInt by omega) (show (v 9).toInt ≤ (6 : Int) by omega)) (show (0 : Int) ≤ (v 10).toInt by omega) (show (v 10).toInt ≤ (6 : Int) by omega)) (rlo _) (rhi _)) (rlo _) (rhi _)) (rlo _) (rhi _)) (rlo _) (rhi _)) (rlo _) (rhi _)), hk0_v4, hk1_v4, hk7_v4, hk8_v4⟩ hP hD hS dX7_copy_103 (Nat.le_refl _) (Nat.le_refl _)
set_option maxHeartbeats 4000000 in
set_option maxRecDepth 100000 in
theorem sX_X7_hasCoat_1 (NF : Nat) (l : Launch) (dC : Nat → ClassId) (dI : Nat → Nat → Nat) (cy : Nat → ClassId) (x0 : Nat) (x : Nat → Nat) (p1 : Int32) (v : Nat → Int32) (f : Nat → Nat → Int32) (hIv : XI v)  : ctI l (dC, dI) cy yX7_hasCoat cX7_hasCoat 2 .boolean 1 60 0 0 Unit [.ref (x 26), .int p1] (XW cy x0 x v f) (fun r u => gsX_X7_hasCoat_1 NF p1 v f = r ∧ ((r = 1 ∧ 0 ≤ p1.toInt ∧ p1.toInt < (v 32).toInt ∧ p1.toInt ≤ 5) ∨ (r = 0))) (fun u => XW cy x0 x v f) := by
  refine ctI_of (by decide) (Nat.le_of_ble_eq_true rfl) (fun p e s m below meth c A ls Q hx hb hml hts hown hE hP hD hA hl ret => ?_)
  have hown : s.vm.findClass RX7 = some m.cls := hown
  have hS : va_S A s.heap s.heap [] := va_S.rf
  have hl : lv_has ls 2 [(0, .ref (x 26)), (1, .int p1)] := hl
  refine lv_iload_n hx hb dX7_hasCoat_0 rfl (lv_at hl 1 rfl) ?_
  refine lv_if_lt (tgt := 16) hx hb dX7_hasCoat_1 (by decide) (fun c1 => ?_) (fun c1 => ?_)
  · skip
    have zc1 : p1.toInt < 0 := by rw [fa_lt, show (0 : Int32).toInt = 0 from by decide] at c1; exact c1
    refine lv_iconst (v := 0) hx hb dX7_hasCoat_16 (by decide) ?_
    exact ret 0 () _ _ _ _ _ _ rfl ⟨(gsX_X7_hasCoat_1_q0 c1), (Or.inr rfl)⟩ hP hD hS dX7_hasCoat_17 (Nat.le_refl _) (Nat.le_refl _)
  · skip
    have zc1 : ¬ (p1.toInt < 0) := by rw [fa_lt, show (0 : Int32).toInt = 0 from by decide] at c1; exact c1
    refine lv_iload_n hx hb dX7_hasCoat_4 rfl (lv_at hl 1 rfl) ?_
    refine lv_aload_n hx hb dX7_hasCoat_5 rfl (lv_at hl 0 rfl) ?_
    refine va_get (D := (dC, dI)) (ci := 7) (v := .int (v 32)) (C := RX7) (T := TX7) (N := 10) hx hb hts inB_7 hown hE.1 hP 27 rfl rfl 4 (by decide) (hts _ k_220) (fun _ h9 => h9) rfl dX7_hasCoat_6 ?_
    have b32_v : 0 ≤ (v 32).toInt ∧ (v 32).toInt ≤ 6 := XI.b hIv 32 (by decide)
    refine lv_icmp_ge (tgt := 16) hx hb dX7_hasCoat_9 (by decide) (fun c2 => ?_) (fun c2 => ?_)
    · skip
      have zc2 : (v 32).toInt ≤ p1.toInt := by rw [fa_le] at c2; exact c2
      have rg3 := fb_rng p1
      have rg4 := fb_rng (v 32)
      refine lv_iconst (v := 0) hx hb dX7_hasCoat_16 (by decide) ?_
      exact ret 0 () _ _ _ _ _ _ rfl ⟨(gsX_X7_hasCoat_1_q1 c1 c2), (Or.inr rfl)⟩ hP hD hS dX7_hasCoat_17 (Nat.le_refl _) (Nat.le_refl _)
    · skip
      have zc2 : ¬ ((v 32).toInt ≤ p1.toInt) := by rw [fa_le] at c2; exact c2
      have rg5 := fb_rng p1
      have rg6 := fb_rng (v 32)
      refine lv_iconst (v := 1) hx hb dX7_hasCoat_12 (by decide) ?_
      refine lv_goto (tgt := 17) hx hb dX7_hasCoat_13 (by decide) ?_
      exact ret 1 () _ _ _ _ _ _ rfl ⟨(gsX_X7_hasCoat_1_q2 c1 c2), (Or.inl ⟨rfl, by omega, by omega, by omega⟩)⟩ hP hD hS dX7_hasCoat_17 (Nat.le_refl _) (Nat.le_refl _)
set_option maxHeartbeats 4000000 in
set_option maxRecDepth 100000 in
theorem sX_X7_coatPart_1 (NF : Nat) (l : Launch) (dC : Nat → ClassId) (dI : Nat → Nat → Nat) (cy : Nat → ClassId) (x0 : Nat) (x : Nat → Nat) (p1 : Int32) (p2 : Int32) (v : Nat → Int32) (f : Nat → Nat → Int32) (hIv : XI v)  : ctI l (dC, dI) cy yX7_coatPart cX7_coatPart 3 .int 2 81 0 0 Unit [.ref (x 26), .int p1, .int p2] (XW cy x0 x v f) (fun r u => gsX_X7_coatPart_1 NF p1 p2 v f = r) (fun u => XW cy x0 x v f) := by
  refine ctI_of (by decide) (Nat.le_of_ble_eq_true rfl) (fun p e s m below meth c A ls Q hx hb hml hts hown hE hP hD hA hl ret => ?_)
  have hown : s.vm.findClass RX7 = some m.cls := hown
  have hS : va_S A s.heap s.heap [] := va_S.rf
  have hl : lv_has ls 3 [(0, .ref (x 26)), (1, .int p1), (2, .int p2)] := hl
  refine lv_aload_n hx hb dX7_coatPart_0 rfl (lv_at hl 0 rfl) ?_
  refine lv_iload_n hx hb dX7_coatPart_1 rfl (lv_at hl 2 rfl) ?_
  refine cbVi (n := 1) (rest := []) hx hb hml hown hts hE hP hD hS hA (sX_X7_hasCoat_1 NF l dC dI cy x0 x p2 v f hIv ) k_314 k_315 k_316 k_104 k_317 (by decide +kernel) ⟨Nat.le_of_ble_eq_true rfl, Nat.le_of_ble_eq_true rfl⟩ 27 7 rfl rfl (rfl) hl.1 rfl (Nat.le_of_ble_eq_true rfl) dX7_coatPart_2 (fun r1 u H locs hw hP hD hS => ?_)
  obtain ⟨hG2, hw⟩ := hw
  rcases hw with ⟨g3, g3_0, g3_1, g3_2⟩ | ⟨g3⟩
  · skip
    subst g3
    refine lv_if_eq (tgt := 31) hx hb dX7_coatPart_5 (by decide) (fun c0 => absurd c0 (by decide)) (fun _ => ?_)
    refine lv_iload_n hx hb dX7_coatPart_8 rfl (lv_at hl 1 rfl) ?_
    refine lv_if_lt (tgt := 31) hx hb dX7_coatPart_9 (by decide) (fun c4 => ?_) (fun c4 => ?_)
    · skip
      have zc4 : p1.toInt < 0 := by rw [fa_lt, show (0 : Int32).toInt = 0 from by decide] at c4; exact c4
      refine lv_iconst (v := 0) hx hb dX7_coatPart_31 (by decide) ?_
      exact ret 0 () _ _ _ _ _ _ rfl (gsX_X7_coatPart_1_q0 hG2 c4) hP hD hS dX7_coatPart_32 (Nat.le_refl _) (Nat.le_refl _)
    · skip
      have zc4 : ¬ (p1.toInt < 0) := by rw [fa_lt, show (0 : Int32).toInt = 0 from by decide] at c4; exact c4
      refine lv_iload_n hx hb dX7_coatPart_12 rfl (lv_at hl 1 rfl) ?_
      refine lv_iconst (v := 4) hx hb dX7_coatPart_13 (by decide) ?_
      refine lv_icmp_ge (tgt := 31) hx hb dX7_coatPart_14 (by decide) (fun c5 => ?_) (fun c5 => ?_)
      · skip
        have zc5 : 4 ≤ p1.toInt := by rw [fa_le, show (4 : Int32).toInt = 4 from by decide] at c5; exact c5
        refine lv_iconst (v := 0) hx hb dX7_coatPart_31 (by decide) ?_
        exact ret 0 () _ _ _ _ _ _ rfl (gsX_X7_coatPart_1_q1 hG2 c4 c5) hP hD hS dX7_coatPart_32 (Nat.le_refl _) (Nat.le_refl _)
      · skip
        have zc5 : ¬ (4 ≤ p1.toInt) := by rw [fa_le, show (4 : Int32).toInt = 4 from by decide] at c5; exact c5
        refine lv_aload_n hx hb dX7_coatPart_17 rfl (lv_at hl 0 rfl) ?_
        refine va_get (D := (dC, dI)) (ci := 7) (v := .ref (x 14)) (C := RX7) (T := TX7) (N := 10) hx hb hts inB_7 hown hE.1 hP 27 rfl rfl 1 (by decide) (hts _ k_205) (fun _ h9 => h9) rfl dX7_coatPart_18 ?_
        refine lv_iload_n hx hb dX7_coatPart_21 rfl (lv_at hl 1 rfl) ?_
        refine lv_bipush (v := 6) hx hb dX7_coatPart_22 (by decide) ?_
        refine lv_imul hx hb dX7_coatPart_24 ?_
        refine lv_topi (fun t6 et6 => ?_)
        have rg7 := fb_rng p1
        have zt6 : t6.toInt = p1.toInt * 6 := by rw [et6]; exact mul_i rfl (by decide) (by omega) (by omega)
        refine lv_iload_n hx hb dX7_coatPart_25 rfl (lv_at hl 2 rfl) ?_
        refine lv_iadd hx hb dX7_coatPart_26 ?_
        refine lv_topi (fun t8 et8 => ?_)
        have rg9 := fb_rng t6
        have rg10 := fb_rng p2
        have zt8 : t8.toInt = t6.toInt + p2.toInt := by rw [et8]; exact add_i rfl rfl (by omega) (by omega)
        refine ldI hx hb hE hP 15 rfl (vp_in_iff.mpr ⟨by omega, by omega⟩) rfl rfl dX7_coatPart_27 ?_
        refine lv_topi (fun t11 et11 => ?_)
        refine lv_goto (tgt := 32) hx hb dX7_coatPart_28 (by decide) ?_
        exact ret t11 () _ _ _ _ _ _ rfl (gsX_X7_coatPart_1_q2 hG2 c4 c5 et6 et8 et11) hP hD hS dX7_coatPart_32 (Nat.le_refl _) (Nat.le_refl _)
  · skip
    subst g3
    refine lv_if_eq (tgt := 31) hx hb dX7_coatPart_5 (by decide) (fun _ => ?_) (fun c0 => absurd (by decide) c0)
    refine lv_iconst (v := 0) hx hb dX7_coatPart_31 (by decide) ?_
    exact ret 0 () _ _ _ _ _ _ rfl (gsX_X7_coatPart_1_q3 hG2) hP hD hS dX7_coatPart_32 (Nat.le_refl _) (Nat.le_refl _)
set_option maxHeartbeats 4000000 in
set_option maxRecDepth 100000 in
theorem sX_X7_hasMan_1 (NF : Nat) (l : Launch) (dC : Nat → ClassId) (dI : Nat → Nat → Nat) (cy : Nat → ClassId) (x0 : Nat) (x : Nat → Nat) (p1 : Int32) (v : Nat → Int32) (f : Nat → Nat → Int32) (hIv : XI v)  : ctI l (dC, dI) cy yX7_hasMan cX7_hasMan 2 .boolean 1 60 0 0 Unit [.ref (x 26), .int p1] (XW cy x0 x v f) (fun r u => gsX_X7_hasMan_1 NF p1 v f = r ∧ ((r = 1 ∧ 0 ≤ p1.toInt ∧ p1.toInt < (v 31).toInt ∧ p1.toInt ≤ 5) ∨ (r = 0))) (fun u => XW cy x0 x v f) := by
  refine ctI_of (by decide) (Nat.le_of_ble_eq_true rfl) (fun p e s m below meth c A ls Q hx hb hml hts hown hE hP hD hA hl ret => ?_)
  have hown : s.vm.findClass RX7 = some m.cls := hown
  have hS : va_S A s.heap s.heap [] := va_S.rf
  have hl : lv_has ls 2 [(0, .ref (x 26)), (1, .int p1)] := hl
  refine lv_iload_n hx hb dX7_hasMan_0 rfl (lv_at hl 1 rfl) ?_
  refine lv_if_lt (tgt := 16) hx hb dX7_hasMan_1 (by decide) (fun c1 => ?_) (fun c1 => ?_)
  · skip
    have zc1 : p1.toInt < 0 := by rw [fa_lt, show (0 : Int32).toInt = 0 from by decide] at c1; exact c1
    refine lv_iconst (v := 0) hx hb dX7_hasMan_16 (by decide) ?_
    exact ret 0 () _ _ _ _ _ _ rfl ⟨(gsX_X7_hasMan_1_q0 c1), (Or.inr rfl)⟩ hP hD hS dX7_hasMan_17 (Nat.le_refl _) (Nat.le_refl _)
  · skip
    have zc1 : ¬ (p1.toInt < 0) := by rw [fa_lt, show (0 : Int32).toInt = 0 from by decide] at c1; exact c1
    refine lv_iload_n hx hb dX7_hasMan_4 rfl (lv_at hl 1 rfl) ?_
    refine lv_aload_n hx hb dX7_hasMan_5 rfl (lv_at hl 0 rfl) ?_
    refine va_get (D := (dC, dI)) (ci := 7) (v := .int (v 31)) (C := RX7) (T := TX7) (N := 10) hx hb hts inB_7 hown hE.1 hP 27 rfl rfl 3 (by decide) (hts _ k_212) (fun _ h9 => h9) rfl dX7_hasMan_6 ?_
    have b31_v : 0 ≤ (v 31).toInt ∧ (v 31).toInt ≤ 6 := XI.b hIv 31 (by decide)
    refine lv_icmp_ge (tgt := 16) hx hb dX7_hasMan_9 (by decide) (fun c2 => ?_) (fun c2 => ?_)
    · skip
      have zc2 : (v 31).toInt ≤ p1.toInt := by rw [fa_le] at c2; exact c2
      have rg3 := fb_rng p1
      have rg4 := fb_rng (v 31)
      refine lv_iconst (v := 0) hx hb dX7_hasMan_16 (by decide) ?_
      exact ret 0 () _ _ _ _ _ _ rfl ⟨(gsX_X7_hasMan_1_q1 c1 c2), (Or.inr rfl)⟩ hP hD hS dX7_hasMan_17 (Nat.le_refl _) (Nat.le_refl _)
    · skip
      have zc2 : ¬ ((v 31).toInt ≤ p1.toInt) := by rw [fa_le] at c2; exact c2
      have rg5 := fb_rng p1
      have rg6 := fb_rng (v 31)
      refine lv_iconst (v := 1) hx hb dX7_hasMan_12 (by decide) ?_
      refine lv_goto (tgt := 17) hx hb dX7_hasMan_13 (by decide) ?_
      exact ret 1 () _ _ _ _ _ _ rfl ⟨(gsX_X7_hasMan_1_q2 c1 c2), (Or.inl ⟨rfl, by omega, by omega, by omega⟩)⟩ hP hD hS dX7_hasMan_17 (Nat.le_refl _) (Nat.le_refl _)
